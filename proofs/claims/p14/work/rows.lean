section
-- ===== PART A: goes FIRST, ahead of the names: the tables' words, and 'selects' of the private methods out of them =====
/-- a private method of a class that the tables say can be made, by its rows of tables_1 -/
def lw_okq (q : MethodName × Nat) : Prop := (q.1.cls ≠ "java/lang/invoke/MethodHandle" ∧ q.1.cls ≠ "java/lang/invoke/VarHandle") ∧ Cond.instantiable q.1.cls q.2 ∈ tables_1 ∧ Cond.privateMethod q.1 ∈ tables_1 ∧ Cond.instanceMethod q.1 ∈ tables_1
theorem lw_p0 : lw_okq (⟨"JamRules", "isTime", "(J)Z"⟩, 12) := ⟨⟨by decide +kernel, by decide +kernel⟩, List.mem_of_getElem? (i := 7) (by decide +kernel), List.mem_of_getElem? (i := 102) (by decide +kernel), List.mem_of_getElem? (i := 103) (by decide +kernel)⟩
theorem lw_p1 : lw_okq (⟨"JamRules", "earliestHead", "()J"⟩, 12) := ⟨⟨by decide +kernel, by decide +kernel⟩, List.mem_of_getElem? (i := 7) (by decide +kernel), List.mem_of_getElem? (i := 107) (by decide +kernel), List.mem_of_getElem? (i := 108) (by decide +kernel)⟩
theorem lw_p2 : lw_okq (⟨"JamRules", "isSensor", "(I)Z"⟩, 12) := ⟨⟨by decide +kernel, by decide +kernel⟩, List.mem_of_getElem? (i := 7) (by decide +kernel), List.mem_of_getElem? (i := 152) (by decide +kernel), List.mem_of_getElem? (i := 153) (by decide +kernel)⟩
theorem lw_p3 : lw_okq (⟨"JamRules", "tellJams", "()V"⟩, 12) := ⟨⟨by decide +kernel, by decide +kernel⟩, List.mem_of_getElem? (i := 7) (by decide +kernel), List.mem_of_getElem? (i := 156) (by decide +kernel), List.mem_of_getElem? (i := 157) (by decide +kernel)⟩
theorem lw_p4 : lw_okq (⟨"JamRules", "lengthAt", "(LJamRules$Sensor;)J"⟩, 12) := ⟨⟨by decide +kernel, by decide +kernel⟩, List.mem_of_getElem? (i := 7) (by decide +kernel), List.mem_of_getElem? (i := 161) (by decide +kernel), List.mem_of_getElem? (i := 162) (by decide +kernel)⟩
theorem lw_p5 : lw_okq (⟨"JamRules", "isItem", "(I)Z"⟩, 12) := ⟨⟨by decide +kernel, by decide +kernel⟩, List.mem_of_getElem? (i := 7) (by decide +kernel), List.mem_of_getElem? (i := 165) (by decide +kernel), List.mem_of_getElem? (i := 166) (by decide +kernel)⟩
theorem lw_p6 : lw_okq (⟨"JamRules", "tell", "(II)I"⟩, 12) := ⟨⟨by decide +kernel, by decide +kernel⟩, List.mem_of_getElem? (i := 7) (by decide +kernel), List.mem_of_getElem? (i := 169) (by decide +kernel), List.mem_of_getElem? (i := 170) (by decide +kernel)⟩
theorem lw_p7 : lw_okq (⟨"JamRules", "doubtAt", "(I)J"⟩, 12) := ⟨⟨by decide +kernel, by decide +kernel⟩, List.mem_of_getElem? (i := 7) (by decide +kernel), List.mem_of_getElem? (i := 207) (by decide +kernel), List.mem_of_getElem? (i := 208) (by decide +kernel)⟩
theorem lw_p8 : lw_okq (⟨"JamRules", "isInDoubt", "(II)Z"⟩, 12) := ⟨⟨by decide +kernel, by decide +kernel⟩, List.mem_of_getElem? (i := 7) (by decide +kernel), List.mem_of_getElem? (i := 211) (by decide +kernel), List.mem_of_getElem? (i := 212) (by decide +kernel)⟩
theorem lw_p9 : lw_okq (⟨"JamRules", "becomeDark", "(I)V"⟩, 12) := ⟨⟨by decide +kernel, by decide +kernel⟩, List.mem_of_getElem? (i := 7) (by decide +kernel), List.mem_of_getElem? (i := 223) (by decide +kernel), List.mem_of_getElem? (i := 224) (by decide +kernel)⟩
theorem lw_p10 : lw_okq (⟨"JamRules", "loseLateItems", "(I)V"⟩, 12) := ⟨⟨by decide +kernel, by decide +kernel⟩, List.mem_of_getElem? (i := 7) (by decide +kernel), List.mem_of_getElem? (i := 227) (by decide +kernel), List.mem_of_getElem? (i := 228) (by decide +kernel)⟩
theorem lw_p11 : lw_okq (⟨"JamRules", "isAwaited", "(II)Z"⟩, 12) := ⟨⟨by decide +kernel, by decide +kernel⟩, List.mem_of_getElem? (i := 7) (by decide +kernel), List.mem_of_getElem? (i := 231) (by decide +kernel), List.mem_of_getElem? (i := 232) (by decide +kernel)⟩
theorem lw_p12 : lw_okq (⟨"JamRules", "dueAt", "(II)J"⟩, 12) := ⟨⟨by decide +kernel, by decide +kernel⟩, List.mem_of_getElem? (i := 7) (by decide +kernel), List.mem_of_getElem? (i := 235) (by decide +kernel), List.mem_of_getElem? (i := 236) (by decide +kernel)⟩
theorem lw_p13 : lw_okq (⟨"JamRules", "leastUnseen", "(I)I"⟩, 12) := ⟨⟨by decide +kernel, by decide +kernel⟩, List.mem_of_getElem? (i := 7) (by decide +kernel), List.mem_of_getElem? (i := 244) (by decide +kernel), List.mem_of_getElem? (i := 245) (by decide +kernel)⟩
theorem lw_p14 : lw_okq (⟨"JamRules", "isComing", "(II)Z"⟩, 12) := ⟨⟨by decide +kernel, by decide +kernel⟩, List.mem_of_getElem? (i := 7) (by decide +kernel), List.mem_of_getElem? (i := 248) (by decide +kernel), List.mem_of_getElem? (i := 249) (by decide +kernel)⟩
theorem lw_p15 : lw_okq (⟨"JamRules", "becomeLight", "(I)V"⟩, 12) := ⟨⟨by decide +kernel, by decide +kernel⟩, List.mem_of_getElem? (i := 7) (by decide +kernel), List.mem_of_getElem? (i := 260) (by decide +kernel), List.mem_of_getElem? (i := 261) (by decide +kernel)⟩
def lw_privs_1 : List (MethodName × Nat) := [(⟨"JamRules", "isTime", "(J)Z"⟩, 12), (⟨"JamRules", "earliestHead", "()J"⟩, 12), (⟨"JamRules", "isSensor", "(I)Z"⟩, 12), (⟨"JamRules", "tellJams", "()V"⟩, 12), (⟨"JamRules", "lengthAt", "(LJamRules$Sensor;)J"⟩, 12), (⟨"JamRules", "isItem", "(I)Z"⟩, 12), (⟨"JamRules", "tell", "(II)I"⟩, 12), (⟨"JamRules", "doubtAt", "(I)J"⟩, 12), (⟨"JamRules", "isInDoubt", "(II)Z"⟩, 12), (⟨"JamRules", "becomeDark", "(I)V"⟩, 12), (⟨"JamRules", "loseLateItems", "(I)V"⟩, 12), (⟨"JamRules", "isAwaited", "(II)Z"⟩, 12), (⟨"JamRules", "dueAt", "(II)J"⟩, 12), (⟨"JamRules", "leastUnseen", "(I)I"⟩, 12), (⟨"JamRules", "isComing", "(II)Z"⟩, 12), (⟨"JamRules", "becomeLight", "(I)V"⟩, 12)]
theorem lw_r1 : ∀ q ∈ lw_privs_1, lw_okq q := List.forall_mem_cons.mpr ⟨lw_p0, List.forall_mem_cons.mpr ⟨lw_p1, List.forall_mem_cons.mpr ⟨lw_p2, List.forall_mem_cons.mpr ⟨lw_p3, List.forall_mem_cons.mpr ⟨lw_p4, List.forall_mem_cons.mpr ⟨lw_p5, List.forall_mem_cons.mpr ⟨lw_p6, List.forall_mem_cons.mpr ⟨lw_p7, List.forall_mem_cons.mpr ⟨lw_p8, List.forall_mem_cons.mpr ⟨lw_p9, List.forall_mem_cons.mpr ⟨lw_p10, List.forall_mem_cons.mpr ⟨lw_p11, List.forall_mem_cons.mpr ⟨lw_p12, List.forall_mem_cons.mpr ⟨lw_p13, List.forall_mem_cons.mpr ⟨lw_p14, List.forall_mem_cons.mpr ⟨lw_p15, fun _ h => absurd h List.not_mem_nil⟩⟩⟩⟩⟩⟩⟩⟩⟩⟩⟩⟩⟩⟩⟩⟩
theorem lw_p16 : lw_okq (⟨"JamRules", "judgeLength", "(II)V"⟩, 12) := ⟨⟨by decide +kernel, by decide +kernel⟩, List.mem_of_getElem? (i := 7) (by decide +kernel), List.mem_of_getElem? (i := 264) (by decide +kernel), List.mem_of_getElem? (i := 265) (by decide +kernel)⟩
theorem lw_p17 : lw_okq (⟨"JamRules", "isFault", "(I)Z"⟩, 12) := ⟨⟨by decide +kernel, by decide +kernel⟩, List.mem_of_getElem? (i := 7) (by decide +kernel), List.mem_of_getElem? (i := 281) (by decide +kernel), List.mem_of_getElem? (i := 282) (by decide +kernel)⟩
theorem lw_p18 : lw_okq (⟨"JamRules", "cameAgain", "(I)Z"⟩, 12) := ⟨⟨by decide +kernel, by decide +kernel⟩, List.mem_of_getElem? (i := 7) (by decide +kernel), List.mem_of_getElem? (i := 293) (by decide +kernel), List.mem_of_getElem? (i := 294) (by decide +kernel)⟩
theorem lw_p19 : lw_okq (⟨"JamRules", "resetCounts", "()V"⟩, 12) := ⟨⟨by decide +kernel, by decide +kernel⟩, List.mem_of_getElem? (i := 7) (by decide +kernel), List.mem_of_getElem? (i := 310) (by decide +kernel), List.mem_of_getElem? (i := 311) (by decide +kernel)⟩
theorem lw_p20 : lw_okq (⟨"JamRules", "clear", "(I)V"⟩, 12) := ⟨⟨by decide +kernel, by decide +kernel⟩, List.mem_of_getElem? (i := 7) (by decide +kernel), List.mem_of_getElem? (i := 314) (by decide +kernel), List.mem_of_getElem? (i := 315) (by decide +kernel)⟩
theorem lw_p21 : lw_okq (⟨"JamRules", "emptyBelt", "(I)V"⟩, 12) := ⟨⟨by decide +kernel, by decide +kernel⟩, List.mem_of_getElem? (i := 7) (by decide +kernel), List.mem_of_getElem? (i := 318) (by decide +kernel), List.mem_of_getElem? (i := 319) (by decide +kernel)⟩
theorem lw_p22 : lw_okq (⟨"JamRules", "putOnList", "(I)V"⟩, 12) := ⟨⟨by decide +kernel, by decide +kernel⟩, List.mem_of_getElem? (i := 7) (by decide +kernel), List.mem_of_getElem? (i := 326) (by decide +kernel), List.mem_of_getElem? (i := 327) (by decide +kernel)⟩
theorem lw_p23 : lw_okq (⟨"JamRules", "listOffBy", "(I)V"⟩, 12) := ⟨⟨by decide +kernel, by decide +kernel⟩, List.mem_of_getElem? (i := 7) (by decide +kernel), List.mem_of_getElem? (i := 330) (by decide +kernel), List.mem_of_getElem? (i := 331) (by decide +kernel)⟩
theorem lw_p24 : lw_okq (⟨"JamRules", "takeOffList", "(I)V"⟩, 12) := ⟨⟨by decide +kernel, by decide +kernel⟩, List.mem_of_getElem? (i := 7) (by decide +kernel), List.mem_of_getElem? (i := 338) (by decide +kernel), List.mem_of_getElem? (i := 339) (by decide +kernel)⟩
theorem lw_p25 : lw_okq (⟨"JamRules", "faultByRank", "(I)I"⟩, 12) := ⟨⟨by decide +kernel, by decide +kernel⟩, List.mem_of_getElem? (i := 7) (by decide +kernel), List.mem_of_getElem? (i := 361) (by decide +kernel), List.mem_of_getElem? (i := 362) (by decide +kernel)⟩
theorem lw_p26 : lw_okq (⟨"JamRulesModel", "stands", "()Z"⟩, 33) := ⟨⟨by decide +kernel, by decide +kernel⟩, List.mem_of_getElem? (i := 376) (by decide +kernel), List.mem_of_getElem? (i := 500) (by decide +kernel), List.mem_of_getElem? (i := 501) (by decide +kernel)⟩
theorem lw_p27 : lw_okq (⟨"JamRulesModel", "noSensor", "(I)Z"⟩, 33) := ⟨⟨by decide +kernel, by decide +kernel⟩, List.mem_of_getElem? (i := 376) (by decide +kernel), List.mem_of_getElem? (i := 508) (by decide +kernel), List.mem_of_getElem? (i := 509) (by decide +kernel)⟩
theorem lw_p28 : lw_okq (⟨"JamRulesModel", "jams", "(J)V"⟩, 33) := ⟨⟨by decide +kernel, by decide +kernel⟩, List.mem_of_getElem? (i := 376) (by decide +kernel), List.mem_of_getElem? (i := 512) (by decide +kernel), List.mem_of_getElem? (i := 513) (by decide +kernel)⟩
theorem lw_p29 : lw_okq (⟨"JamRulesModel", "tell", "(IIJZ)I"⟩, 33) := ⟨⟨by decide +kernel, by decide +kernel⟩, List.mem_of_getElem? (i := 376) (by decide +kernel), List.mem_of_getElem? (i := 517) (by decide +kernel), List.mem_of_getElem? (i := 518) (by decide +kernel)⟩
theorem lw_p30 : lw_okq (⟨"JamRulesModel", "isDoubt", "(IIJ)Z"⟩, 33) := ⟨⟨by decide +kernel, by decide +kernel⟩, List.mem_of_getElem? (i := 376) (by decide +kernel), List.mem_of_getElem? (i := 521) (by decide +kernel), List.mem_of_getElem? (i := 522) (by decide +kernel)⟩
theorem lw_p31 : lw_okq (⟨"JamRulesModel", "isSeen", "(II)Z"⟩, 33) := ⟨⟨by decide +kernel, by decide +kernel⟩, List.mem_of_getElem? (i := 376) (by decide +kernel), List.mem_of_getElem? (i := 525) (by decide +kernel), List.mem_of_getElem? (i := 526) (by decide +kernel)⟩
def lw_privs_2 : List (MethodName × Nat) := [(⟨"JamRules", "judgeLength", "(II)V"⟩, 12), (⟨"JamRules", "isFault", "(I)Z"⟩, 12), (⟨"JamRules", "cameAgain", "(I)Z"⟩, 12), (⟨"JamRules", "resetCounts", "()V"⟩, 12), (⟨"JamRules", "clear", "(I)V"⟩, 12), (⟨"JamRules", "emptyBelt", "(I)V"⟩, 12), (⟨"JamRules", "putOnList", "(I)V"⟩, 12), (⟨"JamRules", "listOffBy", "(I)V"⟩, 12), (⟨"JamRules", "takeOffList", "(I)V"⟩, 12), (⟨"JamRules", "faultByRank", "(I)I"⟩, 12), (⟨"JamRulesModel", "stands", "()Z"⟩, 33), (⟨"JamRulesModel", "noSensor", "(I)Z"⟩, 33), (⟨"JamRulesModel", "jams", "(J)V"⟩, 33), (⟨"JamRulesModel", "tell", "(IIJZ)I"⟩, 33), (⟨"JamRulesModel", "isDoubt", "(IIJ)Z"⟩, 33), (⟨"JamRulesModel", "isSeen", "(II)Z"⟩, 33)]
theorem lw_r2 : ∀ q ∈ lw_privs_2, lw_okq q := List.forall_mem_cons.mpr ⟨lw_p16, List.forall_mem_cons.mpr ⟨lw_p17, List.forall_mem_cons.mpr ⟨lw_p18, List.forall_mem_cons.mpr ⟨lw_p19, List.forall_mem_cons.mpr ⟨lw_p20, List.forall_mem_cons.mpr ⟨lw_p21, List.forall_mem_cons.mpr ⟨lw_p22, List.forall_mem_cons.mpr ⟨lw_p23, List.forall_mem_cons.mpr ⟨lw_p24, List.forall_mem_cons.mpr ⟨lw_p25, List.forall_mem_cons.mpr ⟨lw_p26, List.forall_mem_cons.mpr ⟨lw_p27, List.forall_mem_cons.mpr ⟨lw_p28, List.forall_mem_cons.mpr ⟨lw_p29, List.forall_mem_cons.mpr ⟨lw_p30, List.forall_mem_cons.mpr ⟨lw_p31, fun _ h => absurd h List.not_mem_nil⟩⟩⟩⟩⟩⟩⟩⟩⟩⟩⟩⟩⟩⟩⟩⟩
theorem lw_p32 : lw_okq (⟨"JamRulesModel", "darken", "(IJ)V"⟩, 33) := ⟨⟨by decide +kernel, by decide +kernel⟩, List.mem_of_getElem? (i := 376) (by decide +kernel), List.mem_of_getElem? (i := 529) (by decide +kernel), List.mem_of_getElem? (i := 530) (by decide +kernel)⟩
theorem lw_p33 : lw_okq (⟨"JamRulesModel", "next", "(I)I"⟩, 33) := ⟨⟨by decide +kernel, by decide +kernel⟩, List.mem_of_getElem? (i := 376) (by decide +kernel), List.mem_of_getElem? (i := 533) (by decide +kernel), List.mem_of_getElem? (i := 534) (by decide +kernel)⟩
theorem lw_p34 : lw_okq (⟨"JamRulesModel", "due", "(II)J"⟩, 33) := ⟨⟨by decide +kernel, by decide +kernel⟩, List.mem_of_getElem? (i := 376) (by decide +kernel), List.mem_of_getElem? (i := 537) (by decide +kernel), List.mem_of_getElem? (i := 538) (by decide +kernel)⟩
theorem lw_p35 : lw_okq (⟨"JamRulesModel", "lighten", "(IJ)V"⟩, 33) := ⟨⟨by decide +kernel, by decide +kernel⟩, List.mem_of_getElem? (i := 376) (by decide +kernel), List.mem_of_getElem? (i := 544) (by decide +kernel), List.mem_of_getElem? (i := 545) (by decide +kernel)⟩
theorem lw_p36 : lw_okq (⟨"JamRulesModel", "noFault", "(I)Z"⟩, 33) := ⟨⟨by decide +kernel, by decide +kernel⟩, List.mem_of_getElem? (i := 376) (by decide +kernel), List.mem_of_getElem? (i := 552) (by decide +kernel), List.mem_of_getElem? (i := 553) (by decide +kernel)⟩
theorem lw_p37 : lw_okq (⟨"JamRulesModel", "clear", "(I)V"⟩, 33) := ⟨⟨by decide +kernel, by decide +kernel⟩, List.mem_of_getElem? (i := 376) (by decide +kernel), List.mem_of_getElem? (i := 566) (by decide +kernel), List.mem_of_getElem? (i := 567) (by decide +kernel)⟩
theorem lw_p38 : lw_okq (⟨"JamRulesModel", "enlist", "(I)V"⟩, 33) := ⟨⟨by decide +kernel, by decide +kernel⟩, List.mem_of_getElem? (i := 376) (by decide +kernel), List.mem_of_getElem? (i := 570) (by decide +kernel), List.mem_of_getElem? (i := 571) (by decide +kernel)⟩
theorem lw_p39 : lw_okq (⟨"JamRulesModel", "rankOf", "(I)I"⟩, 33) := ⟨⟨by decide +kernel, by decide +kernel⟩, List.mem_of_getElem? (i := 376) (by decide +kernel), List.mem_of_getElem? (i := 596) (by decide +kernel), List.mem_of_getElem? (i := 597) (by decide +kernel)⟩
def lw_privs_3 : List (MethodName × Nat) := [(⟨"JamRulesModel", "darken", "(IJ)V"⟩, 33), (⟨"JamRulesModel", "next", "(I)I"⟩, 33), (⟨"JamRulesModel", "due", "(II)J"⟩, 33), (⟨"JamRulesModel", "lighten", "(IJ)V"⟩, 33), (⟨"JamRulesModel", "noFault", "(I)Z"⟩, 33), (⟨"JamRulesModel", "clear", "(I)V"⟩, 33), (⟨"JamRulesModel", "enlist", "(I)V"⟩, 33), (⟨"JamRulesModel", "rankOf", "(I)I"⟩, 33)]
theorem lw_r3 : ∀ q ∈ lw_privs_3, lw_okq q := List.forall_mem_cons.mpr ⟨lw_p32, List.forall_mem_cons.mpr ⟨lw_p33, List.forall_mem_cons.mpr ⟨lw_p34, List.forall_mem_cons.mpr ⟨lw_p35, List.forall_mem_cons.mpr ⟨lw_p36, List.forall_mem_cons.mpr ⟨lw_p37, List.forall_mem_cons.mpr ⟨lw_p38, List.forall_mem_cons.mpr ⟨lw_p39, fun _ h => absurd h List.not_mem_nil⟩⟩⟩⟩⟩⟩⟩⟩
def lw_privs : List (MethodName × Nat) := lw_privs_1 ++ (lw_privs_2 ++ (lw_privs_3))
def lw_tbl : List Cond := k2_sels lw_privs ++ tables_1
theorem lw_privs_ok : ∀ q ∈ lw_privs, lw_okq q := by
  show ∀ q ∈ lw_privs_1 ++ (lw_privs_2 ++ (lw_privs_3)), lw_okq q
  exact List.forall_mem_append.mpr ⟨lw_r1, List.forall_mem_append.mpr ⟨lw_r2, lw_r3⟩⟩
end
section
/-! ===== names: by program out of the Statement and the listing ===== -/
def R_J : String := "JamRules"
def R_S : String := "JamRules$Sensor"
def R_I : String := "JamRules$Item"
def R_F : String := "JamRules$Fault"
def R_M : String := "JamRulesModel"
def R_L : String := "JamRulesLaw"
def F_J : u_T := fun k => match k with
  | 0 => ("JamRules", "sensors", "[LJamRules$Sensor;", true)
  | 1 => ("JamRules", "sensorCount", "I", false)
  | 2 => ("JamRules", "items", "[LJamRules$Item;", true)
  | 3 => ("JamRules", "itemCount", "I", false)
  | 4 => ("JamRules", "faults", "[LJamRules$Fault;", true)
  | 5 => ("JamRules", "faultCount", "I", false)
  | 6 => ("JamRules", "clearedCount", "I", false)
  | 7 => ("JamRules", "ruleStops", "[Z", true)
  | 8 => ("JamRules", "ruleThrows", "[Z", true)
  | 9 => ("JamRules", "list", "[I", true)
  | 10 => ("JamRules", "listSize", "I", false)
  | _ => ("JamRules", "clock", "J", false)
def t_J : Nat → FieldType := fun k => match k with
  | 0 => .array (.object "JamRules$Sensor")
  | 1 => .int
  | 2 => .array (.object "JamRules$Item")
  | 3 => .int
  | 4 => .array (.object "JamRules$Fault")
  | 5 => .int
  | 6 => .int
  | 7 => .array (.boolean)
  | 8 => .array (.boolean)
  | 9 => .array (.int)
  | 10 => .int
  | _ => .long
theorem n_J : ∀ a, a < 12 → ∀ b, b < 12 → a ≠ b → (F_J a).2.1 ≠ (F_J b).2.1 := by decide +kernel
theorem t_J_ok : ∀ k, k < 12 → parseFieldDescriptor (F_J k).2.2.1 = some (t_J k) := by decide +kernel
def F_S : u_T := fun k => match k with
  | 0 => ("JamRules$Sensor", "place", "J", true)
  | 1 => ("JamRules$Sensor", "edges", "I", false)
  | 2 => ("JamRules$Sensor", "dark", "Z", false)
  | 3 => ("JamRules$Sensor", "darkBy", "I", false)
  | 4 => ("JamRules$Sensor", "since", "J", false)
  | _ => ("JamRules$Sensor", "jamTold", "Z", false)
def t_S : Nat → FieldType := fun k => match k with
  | 0 => .long
  | 1 => .int
  | 2 => .boolean
  | 3 => .int
  | 4 => .long
  | _ => .boolean
theorem n_S : ∀ a, a < 6 → ∀ b, b < 6 → a ≠ b → (F_S a).2.1 ≠ (F_S b).2.1 := by decide +kernel
theorem t_S_ok : ∀ k, k < 6 → parseFieldDescriptor (F_S k).2.2.1 = some (t_S k) := by decide +kernel
def F_I : u_T := fun k => match k with
  | 0 => ("JamRules$Item", "length", "J", true)
  | 1 => ("JamRules$Item", "headTime", "J", true)
  | 2 => ("JamRules$Item", "offBy", "I", false)
  | 3 => ("JamRules$Item", "listed", "Z", false)
  | 4 => ("JamRules$Item", "fed", "Z", false)
  | 5 => ("JamRules$Item", "where", "I", false)
  | _ => ("JamRules$Item", "seenBits", "I", false)
def t_I : Nat → FieldType := fun k => match k with
  | 0 => .long
  | 1 => .long
  | 2 => .int
  | 3 => .boolean
  | 4 => .boolean
  | 5 => .int
  | _ => .int
theorem n_I : ∀ a, a < 7 → ∀ b, b < 7 → a ≠ b → (F_I a).2.1 ≠ (F_I b).2.1 := by decide +kernel
theorem t_I_ok : ∀ k, k < 7 → parseFieldDescriptor (F_I k).2.2.1 = some (t_I k) := by decide +kernel
def F_F : u_T := fun k => match k with
  | 0 => ("JamRules$Fault", "kind", "I", true)
  | 1 => ("JamRules$Fault", "sensor", "I", true)
  | 2 => ("JamRules$Fault", "time", "J", true)
  | 3 => ("JamRules$Fault", "threw", "Z", false)
  | 4 => ("JamRules$Fault", "stops", "Z", false)
  | 5 => ("JamRules$Fault", "doubt", "J", false)
  | _ => ("JamRules$Fault", "stepsDone", "I", false)
def t_F : Nat → FieldType := fun k => match k with
  | 0 => .int
  | 1 => .int
  | 2 => .long
  | 3 => .boolean
  | 4 => .boolean
  | 5 => .long
  | _ => .int
theorem n_F : ∀ a, a < 7 → ∀ b, b < 7 → a ≠ b → (F_F a).2.1 ≠ (F_F b).2.1 := by decide +kernel
theorem t_F_ok : ∀ k, k < 7 → parseFieldDescriptor (F_F k).2.2.1 = some (t_F k) := by decide +kernel
def F_M : u_T := fun k => match k with
  | 0 => ("JamRulesModel", "sensors", "I", false)
  | 1 => ("JamRulesModel", "places", "[J", true)
  | 2 => ("JamRulesModel", "dark", "[Z", true)
  | 3 => ("JamRulesModel", "counts", "[I", true)
  | 4 => ("JamRulesModel", "since", "[J", true)
  | 5 => ("JamRulesModel", "by", "[I", true)
  | 6 => ("JamRulesModel", "jammed", "[Z", true)
  | 7 => ("JamRulesModel", "items", "I", false)
  | 8 => ("JamRulesModel", "lengths", "[J", true)
  | 9 => ("JamRulesModel", "heads", "[J", true)
  | 10 => ("JamRulesModel", "states", "[I", true)
  | 11 => ("JamRulesModel", "seen", "[Z", true)
  | 12 => ("JamRulesModel", "isListed", "[Z", true)
  | 13 => ("JamRulesModel", "isFed", "[Z", true)
  | 14 => ("JamRulesModel", "list", "[I", true)
  | 15 => ("JamRulesModel", "listed", "I", false)
  | 16 => ("JamRulesModel", "faults", "I", false)
  | 17 => ("JamRulesModel", "kinds", "[I", true)
  | 18 => ("JamRulesModel", "at", "[I", true)
  | 19 => ("JamRulesModel", "times", "[J", true)
  | 20 => ("JamRulesModel", "stops", "[Z", true)
  | 21 => ("JamRulesModel", "threw", "[Z", true)
  | 22 => ("JamRulesModel", "planted", "[Z", true)
  | 23 => ("JamRulesModel", "done", "[I", true)
  | 24 => ("JamRulesModel", "cleared", "[Z", true)
  | 25 => ("JamRulesModel", "doubts", "[Z", true)
  | 26 => ("JamRulesModel", "does", "[Z", true)
  | 27 => ("JamRulesModel", "throwing", "[Z", true)
  | 28 => ("JamRulesModel", "ranks", "[I", true)
  | 29 => ("JamRulesModel", "steps", "[I", true)
  | 30 => ("JamRulesModel", "clock", "J", false)
  | 31 => ("JamRulesModel", "first", "I", false)
  | _ => ("JamRulesModel", "swept", "[Z", true)
def t_M : Nat → FieldType := fun k => match k with
  | 0 => .int
  | 1 => .array (.long)
  | 2 => .array (.boolean)
  | 3 => .array (.int)
  | 4 => .array (.long)
  | 5 => .array (.int)
  | 6 => .array (.boolean)
  | 7 => .int
  | 8 => .array (.long)
  | 9 => .array (.long)
  | 10 => .array (.int)
  | 11 => .array (.boolean)
  | 12 => .array (.boolean)
  | 13 => .array (.boolean)
  | 14 => .array (.int)
  | 15 => .int
  | 16 => .int
  | 17 => .array (.int)
  | 18 => .array (.int)
  | 19 => .array (.long)
  | 20 => .array (.boolean)
  | 21 => .array (.boolean)
  | 22 => .array (.boolean)
  | 23 => .array (.int)
  | 24 => .array (.boolean)
  | 25 => .array (.boolean)
  | 26 => .array (.boolean)
  | 27 => .array (.boolean)
  | 28 => .array (.int)
  | 29 => .array (.int)
  | 30 => .long
  | 31 => .int
  | _ => .array (.boolean)
theorem n_M : ∀ a, a < 33 → ∀ b, b < 33 → a ≠ b → (F_M a).2.1 ≠ (F_M b).2.1 := by decide +kernel
theorem t_M_ok : ∀ k, k < 33 → parseFieldDescriptor (F_M k).2.2.1 = some (t_M k) := by decide +kernel
def y_J_init : MethodName := ⟨R_J, "<init>", "()V"⟩
abbrev b_J_init : ByteArray := prog_1_method_1_code
def y_J_sensor : MethodName := ⟨R_J, "sensor", "(J)I"⟩
abbrev b_J_sensor : ByteArray := prog_1_method_2_code
def y_S_init : MethodName := ⟨R_S, "<init>", "(J)V"⟩
abbrev b_S_init : ByteArray := prog_4_method_1_code
def y_J_item : MethodName := ⟨R_J, "item", "(JJ)I"⟩
abbrev b_J_item : ByteArray := prog_1_method_3_code
def y_J_isTime : MethodName := ⟨R_J, "isTime", "(J)Z"⟩
abbrev b_J_isTime : ByteArray := prog_1_method_19_code
def y_J_earliestHead : MethodName := ⟨R_J, "earliestHead", "()J"⟩
abbrev b_J_earliestHead : ByteArray := prog_1_method_20_code
def y_J_goesOn : MethodName := ⟨R_J, "goesOn", "()Z"⟩
abbrev b_J_goesOn : ByteArray := prog_1_method_14_code
def y_I_init : MethodName := ⟨R_I, "<init>", "(JJ)V"⟩
abbrev b_I_init : ByteArray := prog_3_method_1_code
def y_J_edge : MethodName := ⟨R_J, "edge", "(IZJ)I"⟩
abbrev b_J_edge : ByteArray := prog_1_method_4_code
def y_J_isSensor : MethodName := ⟨R_J, "isSensor", "(I)Z"⟩
abbrev b_J_isSensor : ByteArray := prog_1_method_15_code
def y_J_tellJams : MethodName := ⟨R_J, "tellJams", "()V"⟩
abbrev b_J_tellJams : ByteArray := prog_1_method_21_code
def y_J_lengthAt : MethodName := ⟨R_J, "lengthAt", "(LJamRules$Sensor;)J"⟩
abbrev b_J_lengthAt : ByteArray := prog_1_method_22_code
def y_J_isItem : MethodName := ⟨R_J, "isItem", "(I)Z"⟩
abbrev b_J_isItem : ByteArray := prog_1_method_16_code
def y_J_tell : MethodName := ⟨R_J, "tell", "(II)I"⟩
abbrev b_J_tell : ByteArray := prog_1_method_31_code
def y_F_init : MethodName := ⟨R_F, "<init>", "(IIJ)V"⟩
abbrev b_F_init : ByteArray := prog_2_method_1_code
def y_J_doubtAt : MethodName := ⟨R_J, "doubtAt", "(I)J"⟩
abbrev b_J_doubtAt : ByteArray := prog_1_method_32_code
def y_J_isInDoubt : MethodName := ⟨R_J, "isInDoubt", "(II)Z"⟩
abbrev b_J_isInDoubt : ByteArray := prog_1_method_33_code
def y_I_isOnBelt : MethodName := ⟨R_I, "isOnBelt", "()Z"⟩
abbrev b_I_isOnBelt : ByteArray := prog_3_method_2_code
def y_I_isSeenBy : MethodName := ⟨R_I, "isSeenBy", "(I)Z"⟩
abbrev b_I_isSeenBy : ByteArray := prog_3_method_4_code
def y_J_becomeDark : MethodName := ⟨R_J, "becomeDark", "(I)V"⟩
abbrev b_J_becomeDark : ByteArray := prog_1_method_23_code
def y_J_loseLateItems : MethodName := ⟨R_J, "loseLateItems", "(I)V"⟩
abbrev b_J_loseLateItems : ByteArray := prog_1_method_24_code
def y_J_isAwaited : MethodName := ⟨R_J, "isAwaited", "(II)Z"⟩
abbrev b_J_isAwaited : ByteArray := prog_1_method_27_code
def y_J_dueAt : MethodName := ⟨R_J, "dueAt", "(II)J"⟩
abbrev b_J_dueAt : ByteArray := prog_1_method_30_code
def y_I_takeOffBelt : MethodName := ⟨R_I, "takeOffBelt", "(I)V"⟩
abbrev b_I_takeOffBelt : ByteArray := prog_3_method_6_code
def y_J_leastUnseen : MethodName := ⟨R_J, "leastUnseen", "(I)I"⟩
abbrev b_J_leastUnseen : ByteArray := prog_1_method_28_code
def y_J_isComing : MethodName := ⟨R_J, "isComing", "(II)Z"⟩
abbrev b_J_isComing : ByteArray := prog_1_method_29_code
def y_I_beSeenBy : MethodName := ⟨R_I, "beSeenBy", "(I)V"⟩
abbrev b_I_beSeenBy : ByteArray := prog_3_method_5_code
def y_S_darken : MethodName := ⟨R_S, "darken", "(IJ)V"⟩
abbrev b_S_darken : ByteArray := prog_4_method_2_code
def y_J_becomeLight : MethodName := ⟨R_J, "becomeLight", "(I)V"⟩
abbrev b_J_becomeLight : ByteArray := prog_1_method_25_code
def y_J_judgeLength : MethodName := ⟨R_J, "judgeLength", "(II)V"⟩
abbrev b_J_judgeLength : ByteArray := prog_1_method_26_code
def y_I_leaveBelt : MethodName := ⟨R_I, "leaveBelt", "()V"⟩
abbrev b_I_leaveBelt : ByteArray := prog_3_method_7_code
def y_S_lighten : MethodName := ⟨R_S, "lighten", "()V"⟩
abbrev b_S_lighten : ByteArray := prog_4_method_3_code
def y_J_doubt : MethodName := ⟨R_J, "doubt", "(II)I"⟩
abbrev b_J_doubt : ByteArray := prog_1_method_5_code
def y_J_isFault : MethodName := ⟨R_J, "isFault", "(I)Z"⟩
abbrev b_J_isFault : ByteArray := prog_1_method_17_code
def y_F_doubts : MethodName := ⟨R_F, "doubts", "(I)Z"⟩
abbrev b_F_doubts : ByteArray := prog_2_method_2_code
def y_J_cause : MethodName := ⟨R_J, "cause", "(I)I"⟩
abbrev b_J_cause : ByteArray := prog_1_method_6_code
def y_J_cameAgain : MethodName := ⟨R_J, "cameAgain", "(I)Z"⟩
abbrev b_J_cameAgain : ByteArray := prog_1_method_34_code
def y_J_isSameTrouble : MethodName := ⟨R_J, "isSameTrouble", "(LJamRules$Fault;LJamRules$Fault;)Z"⟩
abbrev b_J_isSameTrouble : ByteArray := prog_1_method_35_code
def y_J_step : MethodName := ⟨R_J, "step", "(II)I"⟩
abbrev b_J_step : ByteArray := prog_1_method_7_code
def y_J_nextStep : MethodName := ⟨R_J, "nextStep", "(LJamRules$Fault;)I"⟩
abbrev b_J_nextStep : ByteArray := prog_1_method_37_code
def y_J_resetCounts : MethodName := ⟨R_J, "resetCounts", "()V"⟩
abbrev b_J_resetCounts : ByteArray := prog_1_method_38_code
def y_J_clear : MethodName := ⟨R_J, "clear", "(I)V"⟩
abbrev b_J_clear : ByteArray := prog_1_method_39_code
def y_J_emptyBelt : MethodName := ⟨R_J, "emptyBelt", "(I)V"⟩
abbrev b_J_emptyBelt : ByteArray := prog_1_method_40_code
def y_I_isOff : MethodName := ⟨R_I, "isOff", "()Z"⟩
abbrev b_I_isOff : ByteArray := prog_3_method_3_code
def y_J_putOnList : MethodName := ⟨R_J, "putOnList", "(I)V"⟩
abbrev b_J_putOnList : ByteArray := prog_1_method_42_code
def y_J_listOffBy : MethodName := ⟨R_J, "listOffBy", "(I)V"⟩
abbrev b_J_listOffBy : ByteArray := prog_1_method_41_code
def y_J_feed : MethodName := ⟨R_J, "feed", "(I)I"⟩
abbrev b_J_feed : ByteArray := prog_1_method_8_code
def y_J_takeOffList : MethodName := ⟨R_J, "takeOffList", "(I)V"⟩
abbrev b_J_takeOffList : ByteArray := prog_1_method_43_code
def y_J_listed : MethodName := ⟨R_J, "listed", "(I)I"⟩
abbrev b_J_listed : ByteArray := prog_1_method_9_code
def y_J_rule : MethodName := ⟨R_J, "rule", "(IIZ)I"⟩
abbrev b_J_rule : ByteArray := prog_1_method_10_code
def y_J_isKind : MethodName := ⟨R_J, "isKind", "(I)Z"⟩
abbrev b_J_isKind : ByteArray := prog_1_method_18_code
def y_J_plant : MethodName := ⟨R_J, "plant", "(IJ)I"⟩
abbrev b_J_plant : ByteArray := prog_1_method_11_code
def y_J_alarm : MethodName := ⟨R_J, "alarm", "(II)I"⟩
abbrev b_J_alarm : ByteArray := prog_1_method_12_code
def y_J_faultByRank : MethodName := ⟨R_J, "faultByRank", "(I)I"⟩
abbrev b_J_faultByRank : ByteArray := prog_1_method_36_code
def y_F_rank : MethodName := ⟨R_F, "rank", "()I"⟩
abbrev b_F_rank : ByteArray := prog_2_method_3_code
def y_J_count : MethodName := ⟨R_J, "count", "(I)I"⟩
abbrev b_J_count : ByteArray := prog_1_method_13_code
def y_M_init : MethodName := ⟨R_M, "<init>", "()V"⟩
abbrev b_M_init : ByteArray := prog_6_method_1_code
def y_M_sensor : MethodName := ⟨R_M, "sensor", "(J)I"⟩
abbrev b_M_sensor : ByteArray := prog_6_method_5_code
def y_M_item : MethodName := ⟨R_M, "item", "(JJ)I"⟩
abbrev b_M_item : ByteArray := prog_6_method_6_code
def y_M_isIn : MethodName := ⟨R_M, "isIn", "(JJJ)Z"⟩
abbrev b_M_isIn : ByteArray := prog_6_method_2_code
def y_M_stands : MethodName := ⟨R_M, "stands", "()Z"⟩
abbrev b_M_stands : ByteArray := prog_6_method_4_code
def y_M_edge : MethodName := ⟨R_M, "edge", "(IZJ)I"⟩
abbrev b_M_edge : ByteArray := prog_6_method_15_code
def y_M_noSensor : MethodName := ⟨R_M, "noSensor", "(I)Z"⟩
abbrev b_M_noSensor : ByteArray := prog_6_method_3_code
def y_M_jams : MethodName := ⟨R_M, "jams", "(J)V"⟩
abbrev b_M_jams : ByteArray := prog_6_method_12_code
def y_M_tell : MethodName := ⟨R_M, "tell", "(IIJZ)I"⟩
abbrev b_M_tell : ByteArray := prog_6_method_9_code
def y_M_isDoubt : MethodName := ⟨R_M, "isDoubt", "(IIJ)Z"⟩
abbrev b_M_isDoubt : ByteArray := prog_6_method_8_code
def y_M_isSeen : MethodName := ⟨R_M, "isSeen", "(II)Z"⟩
abbrev b_M_isSeen : ByteArray := prog_6_method_7_code
def y_M_darken : MethodName := ⟨R_M, "darken", "(IJ)V"⟩
abbrev b_M_darken : ByteArray := prog_6_method_13_code
def y_M_next : MethodName := ⟨R_M, "next", "(I)I"⟩
abbrev b_M_next : ByteArray := prog_6_method_11_code
def y_M_due : MethodName := ⟨R_M, "due", "(II)J"⟩
abbrev b_M_due : ByteArray := prog_6_method_10_code
def y_M_lighten : MethodName := ⟨R_M, "lighten", "(IJ)V"⟩
abbrev b_M_lighten : ByteArray := prog_6_method_14_code
def y_M_doubt : MethodName := ⟨R_M, "doubt", "(II)I"⟩
abbrev b_M_doubt : ByteArray := prog_6_method_17_code
def y_M_noFault : MethodName := ⟨R_M, "noFault", "(I)Z"⟩
abbrev b_M_noFault : ByteArray := prog_6_method_16_code
def y_M_cause : MethodName := ⟨R_M, "cause", "(I)I"⟩
abbrev b_M_cause : ByteArray := prog_6_method_18_code
def y_M_step : MethodName := ⟨R_M, "step", "(II)I"⟩
abbrev b_M_step : ByteArray := prog_6_method_21_code
def y_M_clear : MethodName := ⟨R_M, "clear", "(I)V"⟩
abbrev b_M_clear : ByteArray := prog_6_method_20_code
def y_M_enlist : MethodName := ⟨R_M, "enlist", "(I)V"⟩
abbrev b_M_enlist : ByteArray := prog_6_method_19_code
def y_M_feed : MethodName := ⟨R_M, "feed", "(I)I"⟩
abbrev b_M_feed : ByteArray := prog_6_method_22_code
def y_M_listed : MethodName := ⟨R_M, "listed", "(I)I"⟩
abbrev b_M_listed : ByteArray := prog_6_method_23_code
def y_M_rule : MethodName := ⟨R_M, "rule", "(IIZ)I"⟩
abbrev b_M_rule : ByteArray := prog_6_method_24_code
def y_M_plant : MethodName := ⟨R_M, "plant", "(IJ)I"⟩
abbrev b_M_plant : ByteArray := prog_6_method_25_code
def y_M_alarm : MethodName := ⟨R_M, "alarm", "(II)I"⟩
abbrev b_M_alarm : ByteArray := prog_6_method_27_code
def y_M_rankOf : MethodName := ⟨R_M, "rankOf", "(I)I"⟩
abbrev b_M_rankOf : ByteArray := prog_6_method_26_code
def y_M_count : MethodName := ⟨R_M, "count", "(I)I"⟩
abbrev b_M_count : ByteArray := prog_6_method_28_code
def y_M_goesOn : MethodName := ⟨R_M, "goesOn", "()Z"⟩
abbrev b_M_goesOn : ByteArray := prog_6_method_29_code
def y_L_law : MethodName := x
abbrev b_L_law : ByteArray := code
/-- the tables' words that stay -/
def TB : List Cond := lw_tbl.filter goodWord
theorem TB_of {w : Cond} (h : w ∈ tables_1) (g : goodWord w = true) : w ∈ TB := List.mem_filter.mpr ⟨List.mem_append_right _ h, g⟩
theorem TB_se {q : MethodName × Nat} (h : q ∈ lw_privs) : Cond.selects q.1.cls q.1 q.1 ∈ TB := List.mem_filter.mpr ⟨List.mem_append_left _ (List.mem_map.mpr ⟨q, h, rfl⟩), rfl⟩
theorem TB_good : GoodIn TB TB := fun w h => ⟨h, good_of_word (List.mem_filter.mp h).2⟩
theorem TB_in {args : Array Value} {s : State} (h : ∀ w ∈ lw_tbl, w.before args s = true) : ∀ w ∈ TB, w.before args s = true := fun w hw => h w (List.mem_filter.mp hw).1
theorem in_J : ∀ w ∈ u_ws R_J F_J 12, w ∈ TB := fun w hw => by
  have h : w ∈ ([32, 34, 36, 38, 40, 42, 44, 46, 48, 50, 52, 54] : List Nat).filterMap (fun i => tables_1[i]?) := by
    rw [show u_ws R_J F_J 12 = ([32, 34, 36, 38, 40, 42, 44, 46, 48, 50, 52, 54] : List Nat).filterMap (fun i => tables_1[i]?) by decide +kernel] at hw
    exact hw
  obtain ⟨i, -, hi⟩ := List.mem_filterMap.mp h
  exact TB_of (List.mem_of_getElem? hi) (List.all_eq_true.mp (show (u_ws R_J F_J 12).all goodWord = true by decide +kernel) w hw)
theorem in_S : ∀ w ∈ u_ws R_S F_S 6, w ∈ TB := fun w hw => by
  have h : w ∈ ([82, 84, 86, 88, 90, 92] : List Nat).filterMap (fun i => tables_1[i]?) := by
    rw [show u_ws R_S F_S 6 = ([82, 84, 86, 88, 90, 92] : List Nat).filterMap (fun i => tables_1[i]?) by decide +kernel] at hw
    exact hw
  obtain ⟨i, -, hi⟩ := List.mem_filterMap.mp h
  exact TB_of (List.mem_of_getElem? hi) (List.all_eq_true.mp (show (u_ws R_S F_S 6).all goodWord = true by decide +kernel) w hw)
theorem in_I : ∀ w ∈ u_ws R_I F_I 7, w ∈ TB := fun w hw => by
  have h : w ∈ ([132, 134, 136, 138, 140, 142, 144] : List Nat).filterMap (fun i => tables_1[i]?) := by
    rw [show u_ws R_I F_I 7 = ([132, 134, 136, 138, 140, 142, 144] : List Nat).filterMap (fun i => tables_1[i]?) by decide +kernel] at hw
    exact hw
  obtain ⟨i, -, hi⟩ := List.mem_filterMap.mp h
  exact TB_of (List.mem_of_getElem? hi) (List.all_eq_true.mp (show (u_ws R_I F_I 7).all goodWord = true by decide +kernel) w hw)
theorem in_F : ∀ w ∈ u_ws R_F F_F 7, w ∈ TB := fun w hw => by
  have h : w ∈ ([191, 193, 195, 197, 199, 201, 203] : List Nat).filterMap (fun i => tables_1[i]?) := by
    rw [show u_ws R_F F_F 7 = ([191, 193, 195, 197, 199, 201, 203] : List Nat).filterMap (fun i => tables_1[i]?) by decide +kernel] at hw
    exact hw
  obtain ⟨i, -, hi⟩ := List.mem_filterMap.mp h
  exact TB_of (List.mem_of_getElem? hi) (List.all_eq_true.mp (show (u_ws R_F F_F 7).all goodWord = true by decide +kernel) w hw)
theorem in_M : ∀ w ∈ u_ws R_M F_M 33, w ∈ TB := fun w hw => by
  have h : w ∈ ([414, 416, 418, 420, 422, 424, 426, 428, 430, 432, 434, 436, 438, 440, 442, 444, 446, 448, 450, 452, 454, 456, 458, 460, 462, 464, 466, 468, 470, 472, 474, 476, 478] : List Nat).filterMap (fun i => tables_1[i]?) := by
    rw [show u_ws R_M F_M 33 = ([414, 416, 418, 420, 422, 424, 426, 428, 430, 432, 434, 436, 438, 440, 442, 444, 446, 448, 450, 452, 454, 456, 458, 460, 462, 464, 466, 468, 470, 472, 474, 476, 478] : List Nat).filterMap (fun i => tables_1[i]?) by decide +kernel] at hw
    exact hw
  obtain ⟨i, -, hi⟩ := List.mem_filterMap.mp h
  exact TB_of (List.mem_of_getElem? hi) (List.all_eq_true.mp (show (u_ws R_M F_M 33).all goodWord = true by decide +kernel) w hw)
theorem tw_0 : Cond.initialized "JamRulesLaw" ∈ TB := TB_of (List.mem_of_getElem? (i := 0) (by decide +kernel)) (by decide +kernel)
theorem tw_1 : Cond.initialized "JamRules" ∈ TB := TB_of (List.mem_of_getElem? (i := 1) (by decide +kernel)) (by decide +kernel)
theorem tw_2 : Cond.initialized "JamRulesModel" ∈ TB := TB_of (List.mem_of_getElem? (i := 2) (by decide +kernel)) (by decide +kernel)
theorem tw_3 : Cond.initialized "JamRules$Sensor" ∈ TB := TB_of (List.mem_of_getElem? (i := 3) (by decide +kernel)) (by decide +kernel)
theorem tw_4 : Cond.initialized "JamRules$Item" ∈ TB := TB_of (List.mem_of_getElem? (i := 4) (by decide +kernel)) (by decide +kernel)
theorem tw_5 : Cond.initialized "JamRules$Fault" ∈ TB := TB_of (List.mem_of_getElem? (i := 5) (by decide +kernel)) (by decide +kernel)
theorem tw_6 : Cond.classLink "JamRulesLaw" 7 "JamRules" ∈ TB := TB_of (List.mem_of_getElem? (i := 6) (by decide +kernel)) (by decide +kernel)
theorem tw_7 : Cond.instantiable "JamRules" 12 ∈ TB := TB_of (List.mem_of_getElem? (i := 7) (by decide +kernel)) (by decide +kernel)
theorem tw_8 : Cond.methodLink "JamRulesLaw" 9 y_J_init ∈ TB := TB_of (List.mem_of_getElem? (i := 8) (by decide +kernel)) (by decide +kernel)
theorem tw_9 : Cond.instanceMethod y_J_init ∈ TB := TB_of (List.mem_of_getElem? (i := 9) (by decide +kernel)) (by decide +kernel)
set_option maxRecDepth 100000 in
theorem tw_10 : Cond.code y_J_init b_J_init 1 none ∈ TB := TB_of (List.mem_of_getElem? (i := 10) rfl) rfl
theorem tw_11 : Cond.methodLink "JamRules" 1 objectInit ∈ TB := TB_of (List.mem_of_getElem? (i := 11) (by decide +kernel)) (by decide +kernel)
theorem tw_12 : Cond.instanceMethod objectInit ∈ TB := TB_of (List.mem_of_getElem? (i := 12) (by decide +kernel)) (by decide +kernel)
set_option maxRecDepth 100000 in
theorem tw_13 : Cond.code objectInit ⟨#[0xb1]⟩ 1 none ∈ TB := TB_of (List.mem_of_getElem? (i := 13) rfl) rfl
theorem tw_14 : Cond.classLink "JamRules" 9 "JamRules$Sensor" ∈ TB := TB_of (List.mem_of_getElem? (i := 14) (by decide +kernel)) (by decide +kernel)
theorem tw_16 : Cond.classLink "JamRules" 19 "JamRules$Item" ∈ TB := TB_of (List.mem_of_getElem? (i := 16) (by decide +kernel)) (by decide +kernel)
theorem tw_18 : Cond.classLink "JamRules" 28 "JamRules$Fault" ∈ TB := TB_of (List.mem_of_getElem? (i := 18) (by decide +kernel)) (by decide +kernel)
theorem tw_20 : Cond.fieldLink "JamRules" 11 "JamRules" "sensors" "[LJamRules$Sensor;" ∈ TB := TB_of (List.mem_of_getElem? (i := 20) (by decide +kernel)) (by decide +kernel)
theorem tw_21 : Cond.fieldLink "JamRules" 15 "JamRules" "sensorCount" "I" ∈ TB := TB_of (List.mem_of_getElem? (i := 21) (by decide +kernel)) (by decide +kernel)
theorem tw_22 : Cond.fieldLink "JamRules" 21 "JamRules" "items" "[LJamRules$Item;" ∈ TB := TB_of (List.mem_of_getElem? (i := 22) (by decide +kernel)) (by decide +kernel)
theorem tw_23 : Cond.fieldLink "JamRules" 25 "JamRules" "itemCount" "I" ∈ TB := TB_of (List.mem_of_getElem? (i := 23) (by decide +kernel)) (by decide +kernel)
theorem tw_24 : Cond.fieldLink "JamRules" 30 "JamRules" "faults" "[LJamRules$Fault;" ∈ TB := TB_of (List.mem_of_getElem? (i := 24) (by decide +kernel)) (by decide +kernel)
theorem tw_25 : Cond.fieldLink "JamRules" 34 "JamRules" "faultCount" "I" ∈ TB := TB_of (List.mem_of_getElem? (i := 25) (by decide +kernel)) (by decide +kernel)
theorem tw_26 : Cond.fieldLink "JamRules" 37 "JamRules" "clearedCount" "I" ∈ TB := TB_of (List.mem_of_getElem? (i := 26) (by decide +kernel)) (by decide +kernel)
theorem tw_27 : Cond.fieldLink "JamRules" 40 "JamRules" "ruleStops" "[Z" ∈ TB := TB_of (List.mem_of_getElem? (i := 27) (by decide +kernel)) (by decide +kernel)
theorem tw_28 : Cond.fieldLink "JamRules" 44 "JamRules" "ruleThrows" "[Z" ∈ TB := TB_of (List.mem_of_getElem? (i := 28) (by decide +kernel)) (by decide +kernel)
theorem tw_29 : Cond.fieldLink "JamRules" 47 "JamRules" "list" "[I" ∈ TB := TB_of (List.mem_of_getElem? (i := 29) (by decide +kernel)) (by decide +kernel)
theorem tw_30 : Cond.fieldLink "JamRules" 51 "JamRules" "listSize" "I" ∈ TB := TB_of (List.mem_of_getElem? (i := 30) (by decide +kernel)) (by decide +kernel)
theorem tw_31 : Cond.fieldLink "JamRules" 54 "JamRules" "clock" "J" ∈ TB := TB_of (List.mem_of_getElem? (i := 31) (by decide +kernel)) (by decide +kernel)
theorem tw_57 : Cond.arrayClass FieldType.boolean ∈ TB := TB_of (List.mem_of_getElem? (i := 57) (by decide +kernel)) (by decide +kernel)
theorem tw_58 : Cond.arrayClass FieldType.int ∈ TB := TB_of (List.mem_of_getElem? (i := 58) (by decide +kernel)) (by decide +kernel)
theorem tw_59 : Cond.methodLink "JamRulesLaw" 15 y_J_sensor ∈ TB := TB_of (List.mem_of_getElem? (i := 59) (by decide +kernel)) (by decide +kernel)
theorem tw_60 : Cond.instanceMethod y_J_sensor ∈ TB := TB_of (List.mem_of_getElem? (i := 60) (by decide +kernel)) (by decide +kernel)
theorem tw_61 : Cond.selects "JamRules" y_J_sensor y_J_sensor ∈ TB := TB_of (List.mem_of_getElem? (i := 61) (by decide +kernel)) (by decide +kernel)
set_option maxRecDepth 100000 in
theorem tw_62 : Cond.code y_J_sensor b_J_sensor 5 (some .int) ∈ TB := TB_of (List.mem_of_getElem? (i := 62) rfl) rfl
theorem tw_63 : Cond.constantLong "JamRules" 61 (100) ∈ TB := TB_of (List.mem_of_getElem? (i := 63) (by decide +kernel)) (by decide +kernel)
theorem tw_64 : Cond.constantLong "JamRules" 63 (100000) ∈ TB := TB_of (List.mem_of_getElem? (i := 64) (by decide +kernel)) (by decide +kernel)
theorem tw_65 : Cond.instantiable "JamRules$Sensor" 6 ∈ TB := TB_of (List.mem_of_getElem? (i := 65) (by decide +kernel)) (by decide +kernel)
theorem tw_66 : Cond.methodLink "JamRules" 65 y_S_init ∈ TB := TB_of (List.mem_of_getElem? (i := 66) (by decide +kernel)) (by decide +kernel)
theorem tw_67 : Cond.instanceMethod y_S_init ∈ TB := TB_of (List.mem_of_getElem? (i := 67) (by decide +kernel)) (by decide +kernel)
set_option maxRecDepth 100000 in
theorem tw_68 : Cond.code y_S_init b_S_init 3 none ∈ TB := TB_of (List.mem_of_getElem? (i := 68) rfl) rfl
theorem tw_69 : Cond.methodLink "JamRules$Sensor" 3 objectInit ∈ TB := TB_of (List.mem_of_getElem? (i := 69) (by decide +kernel)) (by decide +kernel)
theorem tw_70 : Cond.fieldLink "JamRules$Sensor" 29 "JamRules$Sensor" "place" "J" ∈ TB := TB_of (List.mem_of_getElem? (i := 70) (by decide +kernel)) (by decide +kernel)
theorem tw_71 : Cond.fieldLink "JamRules" 58 "JamRules$Sensor" "place" "J" ∈ TB := TB_of (List.mem_of_getElem? (i := 71) (by decide +kernel)) (by decide +kernel)
theorem tw_72 : Cond.fieldLink "JamRules$Sensor" 9 "JamRules$Sensor" "edges" "I" ∈ TB := TB_of (List.mem_of_getElem? (i := 72) (by decide +kernel)) (by decide +kernel)
theorem tw_73 : Cond.fieldLink "JamRules" 166 "JamRules$Sensor" "edges" "I" ∈ TB := TB_of (List.mem_of_getElem? (i := 73) (by decide +kernel)) (by decide +kernel)
theorem tw_74 : Cond.fieldLink "JamRules$Sensor" 15 "JamRules$Sensor" "dark" "Z" ∈ TB := TB_of (List.mem_of_getElem? (i := 74) (by decide +kernel)) (by decide +kernel)
theorem tw_75 : Cond.fieldLink "JamRules" 91 "JamRules$Sensor" "dark" "Z" ∈ TB := TB_of (List.mem_of_getElem? (i := 75) (by decide +kernel)) (by decide +kernel)
theorem tw_76 : Cond.fieldLink "JamRules$Sensor" 19 "JamRules$Sensor" "darkBy" "I" ∈ TB := TB_of (List.mem_of_getElem? (i := 76) (by decide +kernel)) (by decide +kernel)
theorem tw_77 : Cond.fieldLink "JamRules" 194 "JamRules$Sensor" "darkBy" "I" ∈ TB := TB_of (List.mem_of_getElem? (i := 77) (by decide +kernel)) (by decide +kernel)
theorem tw_78 : Cond.fieldLink "JamRules$Sensor" 22 "JamRules$Sensor" "since" "J" ∈ TB := TB_of (List.mem_of_getElem? (i := 78) (by decide +kernel)) (by decide +kernel)
theorem tw_79 : Cond.fieldLink "JamRules" 185 "JamRules$Sensor" "since" "J" ∈ TB := TB_of (List.mem_of_getElem? (i := 79) (by decide +kernel)) (by decide +kernel)
theorem tw_80 : Cond.fieldLink "JamRules$Sensor" 26 "JamRules$Sensor" "jamTold" "Z" ∈ TB := TB_of (List.mem_of_getElem? (i := 80) (by decide +kernel)) (by decide +kernel)
theorem tw_81 : Cond.fieldLink "JamRules" 182 "JamRules$Sensor" "jamTold" "Z" ∈ TB := TB_of (List.mem_of_getElem? (i := 81) (by decide +kernel)) (by decide +kernel)
theorem tw_95 : Cond.methodLink "JamRulesLaw" 20 y_J_item ∈ TB := TB_of (List.mem_of_getElem? (i := 95) (by decide +kernel)) (by decide +kernel)
theorem tw_96 : Cond.instanceMethod y_J_item ∈ TB := TB_of (List.mem_of_getElem? (i := 96) (by decide +kernel)) (by decide +kernel)
theorem tw_97 : Cond.selects "JamRules" y_J_item y_J_item ∈ TB := TB_of (List.mem_of_getElem? (i := 97) (by decide +kernel)) (by decide +kernel)
set_option maxRecDepth 100000 in
theorem tw_98 : Cond.code y_J_item b_J_item 5 (some .int) ∈ TB := TB_of (List.mem_of_getElem? (i := 98) rfl) rfl
theorem tw_99 : Cond.constantLong "JamRules" 68 (50) ∈ TB := TB_of (List.mem_of_getElem? (i := 99) (by decide +kernel)) (by decide +kernel)
theorem tw_100 : Cond.constantLong "JamRules" 70 (1000) ∈ TB := TB_of (List.mem_of_getElem? (i := 100) (by decide +kernel)) (by decide +kernel)
theorem tw_101 : Cond.methodLink "JamRules" 72 y_J_isTime ∈ TB := TB_of (List.mem_of_getElem? (i := 101) (by decide +kernel)) (by decide +kernel)
theorem tw_103 : Cond.instanceMethod y_J_isTime ∈ TB := TB_of (List.mem_of_getElem? (i := 103) (by decide +kernel)) (by decide +kernel)
set_option maxRecDepth 100000 in
theorem tw_104 : Cond.code y_J_isTime b_J_isTime 3 (some .boolean) ∈ TB := TB_of (List.mem_of_getElem? (i := 104) rfl) rfl
theorem tw_105 : Cond.constantLong "JamRules" 172 (1000000000) ∈ TB := TB_of (List.mem_of_getElem? (i := 105) (by decide +kernel)) (by decide +kernel)
theorem tw_106 : Cond.methodLink "JamRules" 76 y_J_earliestHead ∈ TB := TB_of (List.mem_of_getElem? (i := 106) (by decide +kernel)) (by decide +kernel)
theorem tw_108 : Cond.instanceMethod y_J_earliestHead ∈ TB := TB_of (List.mem_of_getElem? (i := 108) (by decide +kernel)) (by decide +kernel)
set_option maxRecDepth 100000 in
theorem tw_109 : Cond.code y_J_earliestHead b_J_earliestHead 2 (some .long) ∈ TB := TB_of (List.mem_of_getElem? (i := 109) rfl) rfl
theorem tw_110 : Cond.constantLong "JamRules" 180 (30) ∈ TB := TB_of (List.mem_of_getElem? (i := 110) (by decide +kernel)) (by decide +kernel)
theorem tw_111 : Cond.methodLink "JamRules" 80 y_J_goesOn ∈ TB := TB_of (List.mem_of_getElem? (i := 111) (by decide +kernel)) (by decide +kernel)
theorem tw_112 : Cond.instanceMethod y_J_goesOn ∈ TB := TB_of (List.mem_of_getElem? (i := 112) (by decide +kernel)) (by decide +kernel)
theorem tw_113 : Cond.selects "JamRules" y_J_goesOn y_J_goesOn ∈ TB := TB_of (List.mem_of_getElem? (i := 113) (by decide +kernel)) (by decide +kernel)
set_option maxRecDepth 100000 in
theorem tw_114 : Cond.code y_J_goesOn b_J_goesOn 2 (some .boolean) ∈ TB := TB_of (List.mem_of_getElem? (i := 114) rfl) rfl
theorem tw_115 : Cond.instantiable "JamRules$Item" 7 ∈ TB := TB_of (List.mem_of_getElem? (i := 115) (by decide +kernel)) (by decide +kernel)
theorem tw_116 : Cond.methodLink "JamRules" 84 y_I_init ∈ TB := TB_of (List.mem_of_getElem? (i := 116) (by decide +kernel)) (by decide +kernel)
theorem tw_117 : Cond.instanceMethod y_I_init ∈ TB := TB_of (List.mem_of_getElem? (i := 117) (by decide +kernel)) (by decide +kernel)
set_option maxRecDepth 100000 in
theorem tw_118 : Cond.code y_I_init b_I_init 5 none ∈ TB := TB_of (List.mem_of_getElem? (i := 118) rfl) rfl
theorem tw_119 : Cond.methodLink "JamRules$Item" 3 objectInit ∈ TB := TB_of (List.mem_of_getElem? (i := 119) (by decide +kernel)) (by decide +kernel)
theorem tw_120 : Cond.fieldLink "JamRules$Item" 28 "JamRules$Item" "length" "J" ∈ TB := TB_of (List.mem_of_getElem? (i := 120) (by decide +kernel)) (by decide +kernel)
theorem tw_121 : Cond.fieldLink "JamRules" 177 "JamRules$Item" "length" "J" ∈ TB := TB_of (List.mem_of_getElem? (i := 121) (by decide +kernel)) (by decide +kernel)
theorem tw_122 : Cond.fieldLink "JamRules$Item" 32 "JamRules$Item" "headTime" "J" ∈ TB := TB_of (List.mem_of_getElem? (i := 122) (by decide +kernel)) (by decide +kernel)
theorem tw_123 : Cond.fieldLink "JamRules" 174 "JamRules$Item" "headTime" "J" ∈ TB := TB_of (List.mem_of_getElem? (i := 123) (by decide +kernel)) (by decide +kernel)
theorem tw_124 : Cond.fieldLink "JamRules$Item" 9 "JamRules$Item" "offBy" "I" ∈ TB := TB_of (List.mem_of_getElem? (i := 124) (by decide +kernel)) (by decide +kernel)
theorem tw_125 : Cond.fieldLink "JamRules" 278 "JamRules$Item" "offBy" "I" ∈ TB := TB_of (List.mem_of_getElem? (i := 125) (by decide +kernel)) (by decide +kernel)
theorem tw_126 : Cond.fieldLink "JamRules$Item" 15 "JamRules$Item" "listed" "Z" ∈ TB := TB_of (List.mem_of_getElem? (i := 126) (by decide +kernel)) (by decide +kernel)
theorem tw_127 : Cond.fieldLink "JamRules" 142 "JamRules$Item" "listed" "Z" ∈ TB := TB_of (List.mem_of_getElem? (i := 127) (by decide +kernel)) (by decide +kernel)
theorem tw_128 : Cond.fieldLink "JamRules$Item" 19 "JamRules$Item" "fed" "Z" ∈ TB := TB_of (List.mem_of_getElem? (i := 128) (by decide +kernel)) (by decide +kernel)
theorem tw_129 : Cond.fieldLink "JamRules" 139 "JamRules$Item" "fed" "Z" ∈ TB := TB_of (List.mem_of_getElem? (i := 129) (by decide +kernel)) (by decide +kernel)
theorem tw_130 : Cond.fieldLink "JamRules$Item" 22 "JamRules$Item" "where" "I" ∈ TB := TB_of (List.mem_of_getElem? (i := 130) (by decide +kernel)) (by decide +kernel)
theorem tw_131 : Cond.fieldLink "JamRules$Item" 25 "JamRules$Item" "seenBits" "I" ∈ TB := TB_of (List.mem_of_getElem? (i := 131) (by decide +kernel)) (by decide +kernel)
theorem tw_147 : Cond.methodLink "JamRulesLaw" 25 y_J_edge ∈ TB := TB_of (List.mem_of_getElem? (i := 147) (by decide +kernel)) (by decide +kernel)
theorem tw_148 : Cond.instanceMethod y_J_edge ∈ TB := TB_of (List.mem_of_getElem? (i := 148) (by decide +kernel)) (by decide +kernel)
theorem tw_149 : Cond.selects "JamRules" y_J_edge y_J_edge ∈ TB := TB_of (List.mem_of_getElem? (i := 149) (by decide +kernel)) (by decide +kernel)
set_option maxRecDepth 100000 in
theorem tw_150 : Cond.code y_J_edge b_J_edge 6 (some .int) ∈ TB := TB_of (List.mem_of_getElem? (i := 150) rfl) rfl
theorem tw_151 : Cond.methodLink "JamRules" 87 y_J_isSensor ∈ TB := TB_of (List.mem_of_getElem? (i := 151) (by decide +kernel)) (by decide +kernel)
theorem tw_153 : Cond.instanceMethod y_J_isSensor ∈ TB := TB_of (List.mem_of_getElem? (i := 153) (by decide +kernel)) (by decide +kernel)
set_option maxRecDepth 100000 in
theorem tw_154 : Cond.code y_J_isSensor b_J_isSensor 2 (some .boolean) ∈ TB := TB_of (List.mem_of_getElem? (i := 154) rfl) rfl
theorem tw_155 : Cond.methodLink "JamRules" 95 y_J_tellJams ∈ TB := TB_of (List.mem_of_getElem? (i := 155) (by decide +kernel)) (by decide +kernel)
theorem tw_157 : Cond.instanceMethod y_J_tellJams ∈ TB := TB_of (List.mem_of_getElem? (i := 157) (by decide +kernel)) (by decide +kernel)
set_option maxRecDepth 100000 in
theorem tw_158 : Cond.code y_J_tellJams b_J_tellJams 3 none ∈ TB := TB_of (List.mem_of_getElem? (i := 158) rfl) rfl
theorem tw_159 : Cond.constantLong "JamRules" 188 (500) ∈ TB := TB_of (List.mem_of_getElem? (i := 159) (by decide +kernel)) (by decide +kernel)
theorem tw_160 : Cond.methodLink "JamRules" 190 y_J_lengthAt ∈ TB := TB_of (List.mem_of_getElem? (i := 160) (by decide +kernel)) (by decide +kernel)
theorem tw_162 : Cond.instanceMethod y_J_lengthAt ∈ TB := TB_of (List.mem_of_getElem? (i := 162) (by decide +kernel)) (by decide +kernel)
set_option maxRecDepth 100000 in
theorem tw_163 : Cond.code y_J_lengthAt b_J_lengthAt 2 (some .long) ∈ TB := TB_of (List.mem_of_getElem? (i := 163) rfl) rfl
theorem tw_164 : Cond.methodLink "JamRules" 136 y_J_isItem ∈ TB := TB_of (List.mem_of_getElem? (i := 164) (by decide +kernel)) (by decide +kernel)
theorem tw_166 : Cond.instanceMethod y_J_isItem ∈ TB := TB_of (List.mem_of_getElem? (i := 166) (by decide +kernel)) (by decide +kernel)
set_option maxRecDepth 100000 in
theorem tw_167 : Cond.code y_J_isItem b_J_isItem 2 (some .boolean) ∈ TB := TB_of (List.mem_of_getElem? (i := 167) rfl) rfl
theorem tw_168 : Cond.methodLink "JamRules" 151 y_J_tell ∈ TB := TB_of (List.mem_of_getElem? (i := 168) (by decide +kernel)) (by decide +kernel)
theorem tw_170 : Cond.instanceMethod y_J_tell ∈ TB := TB_of (List.mem_of_getElem? (i := 170) (by decide +kernel)) (by decide +kernel)
set_option maxRecDepth 100000 in
theorem tw_171 : Cond.code y_J_tell b_J_tell 5 (some .int) ∈ TB := TB_of (List.mem_of_getElem? (i := 171) rfl) rfl
theorem tw_172 : Cond.instantiable "JamRules$Fault" 7 ∈ TB := TB_of (List.mem_of_getElem? (i := 172) (by decide +kernel)) (by decide +kernel)
theorem tw_173 : Cond.methodLink "JamRules" 244 y_F_init ∈ TB := TB_of (List.mem_of_getElem? (i := 173) (by decide +kernel)) (by decide +kernel)
theorem tw_174 : Cond.instanceMethod y_F_init ∈ TB := TB_of (List.mem_of_getElem? (i := 174) (by decide +kernel)) (by decide +kernel)
set_option maxRecDepth 100000 in
theorem tw_175 : Cond.code y_F_init b_F_init 5 none ∈ TB := TB_of (List.mem_of_getElem? (i := 175) rfl) rfl
theorem tw_176 : Cond.methodLink "JamRules$Fault" 3 objectInit ∈ TB := TB_of (List.mem_of_getElem? (i := 176) (by decide +kernel)) (by decide +kernel)
theorem tw_177 : Cond.fieldLink "JamRules$Fault" 26 "JamRules$Fault" "kind" "I" ∈ TB := TB_of (List.mem_of_getElem? (i := 177) (by decide +kernel)) (by decide +kernel)
theorem tw_178 : Cond.fieldLink "JamRules" 114 "JamRules$Fault" "kind" "I" ∈ TB := TB_of (List.mem_of_getElem? (i := 178) (by decide +kernel)) (by decide +kernel)
theorem tw_179 : Cond.fieldLink "JamRules$Fault" 29 "JamRules$Fault" "sensor" "I" ∈ TB := TB_of (List.mem_of_getElem? (i := 179) (by decide +kernel)) (by decide +kernel)
theorem tw_180 : Cond.fieldLink "JamRules" 111 "JamRules$Fault" "sensor" "I" ∈ TB := TB_of (List.mem_of_getElem? (i := 180) (by decide +kernel)) (by decide +kernel)
theorem tw_181 : Cond.fieldLink "JamRules$Fault" 32 "JamRules$Fault" "time" "J" ∈ TB := TB_of (List.mem_of_getElem? (i := 181) (by decide +kernel)) (by decide +kernel)
theorem tw_182 : Cond.fieldLink "JamRules" 163 "JamRules$Fault" "time" "J" ∈ TB := TB_of (List.mem_of_getElem? (i := 182) (by decide +kernel)) (by decide +kernel)
theorem tw_183 : Cond.fieldLink "JamRules$Fault" 9 "JamRules$Fault" "threw" "Z" ∈ TB := TB_of (List.mem_of_getElem? (i := 183) (by decide +kernel)) (by decide +kernel)
theorem tw_184 : Cond.fieldLink "JamRules" 117 "JamRules$Fault" "threw" "Z" ∈ TB := TB_of (List.mem_of_getElem? (i := 184) (by decide +kernel)) (by decide +kernel)
theorem tw_185 : Cond.fieldLink "JamRules$Fault" 15 "JamRules$Fault" "stops" "Z" ∈ TB := TB_of (List.mem_of_getElem? (i := 185) (by decide +kernel)) (by decide +kernel)
theorem tw_186 : Cond.fieldLink "JamRules" 169 "JamRules$Fault" "stops" "Z" ∈ TB := TB_of (List.mem_of_getElem? (i := 186) (by decide +kernel)) (by decide +kernel)
theorem tw_187 : Cond.fieldLink "JamRules$Fault" 18 "JamRules$Fault" "doubt" "J" ∈ TB := TB_of (List.mem_of_getElem? (i := 187) (by decide +kernel)) (by decide +kernel)
theorem tw_188 : Cond.fieldLink "JamRules" 251 "JamRules$Fault" "doubt" "J" ∈ TB := TB_of (List.mem_of_getElem? (i := 188) (by decide +kernel)) (by decide +kernel)
theorem tw_189 : Cond.fieldLink "JamRules$Fault" 22 "JamRules$Fault" "stepsDone" "I" ∈ TB := TB_of (List.mem_of_getElem? (i := 189) (by decide +kernel)) (by decide +kernel)
theorem tw_190 : Cond.fieldLink "JamRules" 127 "JamRules$Fault" "stepsDone" "I" ∈ TB := TB_of (List.mem_of_getElem? (i := 190) (by decide +kernel)) (by decide +kernel)
theorem tw_206 : Cond.methodLink "JamRules" 247 y_J_doubtAt ∈ TB := TB_of (List.mem_of_getElem? (i := 206) (by decide +kernel)) (by decide +kernel)
theorem tw_208 : Cond.instanceMethod y_J_doubtAt ∈ TB := TB_of (List.mem_of_getElem? (i := 208) (by decide +kernel)) (by decide +kernel)
set_option maxRecDepth 100000 in
theorem tw_209 : Cond.code y_J_doubtAt b_J_doubtAt 5 (some .long) ∈ TB := TB_of (List.mem_of_getElem? (i := 209) rfl) rfl
theorem tw_210 : Cond.methodLink "JamRules" 254 y_J_isInDoubt ∈ TB := TB_of (List.mem_of_getElem? (i := 210) (by decide +kernel)) (by decide +kernel)
theorem tw_212 : Cond.instanceMethod y_J_isInDoubt ∈ TB := TB_of (List.mem_of_getElem? (i := 212) (by decide +kernel)) (by decide +kernel)
set_option maxRecDepth 100000 in
theorem tw_213 : Cond.code y_J_isInDoubt b_J_isInDoubt 4 (some .boolean) ∈ TB := TB_of (List.mem_of_getElem? (i := 213) rfl) rfl
theorem tw_214 : Cond.methodLink "JamRules" 238 y_I_isOnBelt ∈ TB := TB_of (List.mem_of_getElem? (i := 214) (by decide +kernel)) (by decide +kernel)
theorem tw_215 : Cond.instanceMethod y_I_isOnBelt ∈ TB := TB_of (List.mem_of_getElem? (i := 215) (by decide +kernel)) (by decide +kernel)
theorem tw_216 : Cond.selects "JamRules$Item" y_I_isOnBelt y_I_isOnBelt ∈ TB := TB_of (List.mem_of_getElem? (i := 216) (by decide +kernel)) (by decide +kernel)
set_option maxRecDepth 100000 in
theorem tw_217 : Cond.code y_I_isOnBelt b_I_isOnBelt 1 (some .boolean) ∈ TB := TB_of (List.mem_of_getElem? (i := 217) rfl) rfl
theorem tw_218 : Cond.methodLink "JamRules" 241 y_I_isSeenBy ∈ TB := TB_of (List.mem_of_getElem? (i := 218) (by decide +kernel)) (by decide +kernel)
theorem tw_219 : Cond.instanceMethod y_I_isSeenBy ∈ TB := TB_of (List.mem_of_getElem? (i := 219) (by decide +kernel)) (by decide +kernel)
theorem tw_220 : Cond.selects "JamRules$Item" y_I_isSeenBy y_I_isSeenBy ∈ TB := TB_of (List.mem_of_getElem? (i := 220) (by decide +kernel)) (by decide +kernel)
set_option maxRecDepth 100000 in
theorem tw_221 : Cond.code y_I_isSeenBy b_I_isSeenBy 2 (some .boolean) ∈ TB := TB_of (List.mem_of_getElem? (i := 221) rfl) rfl
theorem tw_222 : Cond.methodLink "JamRules" 98 y_J_becomeDark ∈ TB := TB_of (List.mem_of_getElem? (i := 222) (by decide +kernel)) (by decide +kernel)
theorem tw_224 : Cond.instanceMethod y_J_becomeDark ∈ TB := TB_of (List.mem_of_getElem? (i := 224) (by decide +kernel)) (by decide +kernel)
set_option maxRecDepth 100000 in
theorem tw_225 : Cond.code y_J_becomeDark b_J_becomeDark 3 none ∈ TB := TB_of (List.mem_of_getElem? (i := 225) rfl) rfl
theorem tw_226 : Cond.methodLink "JamRules" 197 y_J_loseLateItems ∈ TB := TB_of (List.mem_of_getElem? (i := 226) (by decide +kernel)) (by decide +kernel)
theorem tw_228 : Cond.instanceMethod y_J_loseLateItems ∈ TB := TB_of (List.mem_of_getElem? (i := 228) (by decide +kernel)) (by decide +kernel)
set_option maxRecDepth 100000 in
theorem tw_229 : Cond.code y_J_loseLateItems b_J_loseLateItems 4 none ∈ TB := TB_of (List.mem_of_getElem? (i := 229) rfl) rfl
theorem tw_230 : Cond.methodLink "JamRules" 214 y_J_isAwaited ∈ TB := TB_of (List.mem_of_getElem? (i := 230) (by decide +kernel)) (by decide +kernel)
theorem tw_232 : Cond.instanceMethod y_J_isAwaited ∈ TB := TB_of (List.mem_of_getElem? (i := 232) (by decide +kernel)) (by decide +kernel)
set_option maxRecDepth 100000 in
theorem tw_233 : Cond.code y_J_isAwaited b_J_isAwaited 3 (some .boolean) ∈ TB := TB_of (List.mem_of_getElem? (i := 233) rfl) rfl
theorem tw_234 : Cond.methodLink "JamRules" 217 y_J_dueAt ∈ TB := TB_of (List.mem_of_getElem? (i := 234) (by decide +kernel)) (by decide +kernel)
theorem tw_236 : Cond.instanceMethod y_J_dueAt ∈ TB := TB_of (List.mem_of_getElem? (i := 236) (by decide +kernel)) (by decide +kernel)
set_option maxRecDepth 100000 in
theorem tw_237 : Cond.code y_J_dueAt b_J_dueAt 3 (some .long) ∈ TB := TB_of (List.mem_of_getElem? (i := 237) rfl) rfl
theorem tw_238 : Cond.constantLong "JamRules" 221 (15) ∈ TB := TB_of (List.mem_of_getElem? (i := 238) (by decide +kernel)) (by decide +kernel)
theorem tw_239 : Cond.methodLink "JamRules" 223 y_I_takeOffBelt ∈ TB := TB_of (List.mem_of_getElem? (i := 239) (by decide +kernel)) (by decide +kernel)
theorem tw_240 : Cond.instanceMethod y_I_takeOffBelt ∈ TB := TB_of (List.mem_of_getElem? (i := 240) (by decide +kernel)) (by decide +kernel)
theorem tw_241 : Cond.selects "JamRules$Item" y_I_takeOffBelt y_I_takeOffBelt ∈ TB := TB_of (List.mem_of_getElem? (i := 241) (by decide +kernel)) (by decide +kernel)
set_option maxRecDepth 100000 in
theorem tw_242 : Cond.code y_I_takeOffBelt b_I_takeOffBelt 2 none ∈ TB := TB_of (List.mem_of_getElem? (i := 242) rfl) rfl
theorem tw_243 : Cond.methodLink "JamRules" 200 y_J_leastUnseen ∈ TB := TB_of (List.mem_of_getElem? (i := 243) (by decide +kernel)) (by decide +kernel)
theorem tw_245 : Cond.instanceMethod y_J_leastUnseen ∈ TB := TB_of (List.mem_of_getElem? (i := 245) (by decide +kernel)) (by decide +kernel)
set_option maxRecDepth 100000 in
theorem tw_246 : Cond.code y_J_leastUnseen b_J_leastUnseen 3 (some .int) ∈ TB := TB_of (List.mem_of_getElem? (i := 246) rfl) rfl
theorem tw_247 : Cond.methodLink "JamRules" 203 y_J_isComing ∈ TB := TB_of (List.mem_of_getElem? (i := 247) (by decide +kernel)) (by decide +kernel)
theorem tw_249 : Cond.instanceMethod y_J_isComing ∈ TB := TB_of (List.mem_of_getElem? (i := 249) (by decide +kernel)) (by decide +kernel)
set_option maxRecDepth 100000 in
theorem tw_250 : Cond.code y_J_isComing b_J_isComing 3 (some .boolean) ∈ TB := TB_of (List.mem_of_getElem? (i := 250) rfl) rfl
theorem tw_251 : Cond.methodLink "JamRules" 207 y_I_beSeenBy ∈ TB := TB_of (List.mem_of_getElem? (i := 251) (by decide +kernel)) (by decide +kernel)
theorem tw_252 : Cond.instanceMethod y_I_beSeenBy ∈ TB := TB_of (List.mem_of_getElem? (i := 252) (by decide +kernel)) (by decide +kernel)
theorem tw_253 : Cond.selects "JamRules$Item" y_I_beSeenBy y_I_beSeenBy ∈ TB := TB_of (List.mem_of_getElem? (i := 253) (by decide +kernel)) (by decide +kernel)
set_option maxRecDepth 100000 in
theorem tw_254 : Cond.code y_I_beSeenBy b_I_beSeenBy 2 none ∈ TB := TB_of (List.mem_of_getElem? (i := 254) rfl) rfl
theorem tw_255 : Cond.methodLink "JamRules" 210 y_S_darken ∈ TB := TB_of (List.mem_of_getElem? (i := 255) (by decide +kernel)) (by decide +kernel)
theorem tw_256 : Cond.instanceMethod y_S_darken ∈ TB := TB_of (List.mem_of_getElem? (i := 256) (by decide +kernel)) (by decide +kernel)
theorem tw_257 : Cond.selects "JamRules$Sensor" y_S_darken y_S_darken ∈ TB := TB_of (List.mem_of_getElem? (i := 257) (by decide +kernel)) (by decide +kernel)
set_option maxRecDepth 100000 in
theorem tw_258 : Cond.code y_S_darken b_S_darken 4 none ∈ TB := TB_of (List.mem_of_getElem? (i := 258) rfl) rfl
theorem tw_259 : Cond.methodLink "JamRules" 102 y_J_becomeLight ∈ TB := TB_of (List.mem_of_getElem? (i := 259) (by decide +kernel)) (by decide +kernel)
theorem tw_261 : Cond.instanceMethod y_J_becomeLight ∈ TB := TB_of (List.mem_of_getElem? (i := 261) (by decide +kernel)) (by decide +kernel)
set_option maxRecDepth 100000 in
theorem tw_262 : Cond.code y_J_becomeLight b_J_becomeLight 3 none ∈ TB := TB_of (List.mem_of_getElem? (i := 262) rfl) rfl
theorem tw_263 : Cond.methodLink "JamRules" 226 y_J_judgeLength ∈ TB := TB_of (List.mem_of_getElem? (i := 263) (by decide +kernel)) (by decide +kernel)
theorem tw_265 : Cond.instanceMethod y_J_judgeLength ∈ TB := TB_of (List.mem_of_getElem? (i := 265) (by decide +kernel)) (by decide +kernel)
set_option maxRecDepth 100000 in
theorem tw_266 : Cond.code y_J_judgeLength b_J_judgeLength 7 none ∈ TB := TB_of (List.mem_of_getElem? (i := 266) rfl) rfl
theorem tw_267 : Cond.constantLong "JamRules" 236 (-15) ∈ TB := TB_of (List.mem_of_getElem? (i := 267) (by decide +kernel)) (by decide +kernel)
theorem tw_268 : Cond.methodLink "JamRules" 230 y_I_leaveBelt ∈ TB := TB_of (List.mem_of_getElem? (i := 268) (by decide +kernel)) (by decide +kernel)
theorem tw_269 : Cond.instanceMethod y_I_leaveBelt ∈ TB := TB_of (List.mem_of_getElem? (i := 269) (by decide +kernel)) (by decide +kernel)
theorem tw_270 : Cond.selects "JamRules$Item" y_I_leaveBelt y_I_leaveBelt ∈ TB := TB_of (List.mem_of_getElem? (i := 270) (by decide +kernel)) (by decide +kernel)
set_option maxRecDepth 100000 in
theorem tw_271 : Cond.code y_I_leaveBelt b_I_leaveBelt 1 none ∈ TB := TB_of (List.mem_of_getElem? (i := 271) rfl) rfl
theorem tw_272 : Cond.methodLink "JamRules" 233 y_S_lighten ∈ TB := TB_of (List.mem_of_getElem? (i := 272) (by decide +kernel)) (by decide +kernel)
theorem tw_273 : Cond.instanceMethod y_S_lighten ∈ TB := TB_of (List.mem_of_getElem? (i := 273) (by decide +kernel)) (by decide +kernel)
theorem tw_274 : Cond.selects "JamRules$Sensor" y_S_lighten y_S_lighten ∈ TB := TB_of (List.mem_of_getElem? (i := 274) (by decide +kernel)) (by decide +kernel)
set_option maxRecDepth 100000 in
theorem tw_275 : Cond.code y_S_lighten b_S_lighten 1 none ∈ TB := TB_of (List.mem_of_getElem? (i := 275) rfl) rfl
theorem tw_276 : Cond.methodLink "JamRulesLaw" 30 y_J_doubt ∈ TB := TB_of (List.mem_of_getElem? (i := 276) (by decide +kernel)) (by decide +kernel)
theorem tw_277 : Cond.instanceMethod y_J_doubt ∈ TB := TB_of (List.mem_of_getElem? (i := 277) (by decide +kernel)) (by decide +kernel)
theorem tw_278 : Cond.selects "JamRules" y_J_doubt y_J_doubt ∈ TB := TB_of (List.mem_of_getElem? (i := 278) (by decide +kernel)) (by decide +kernel)
set_option maxRecDepth 100000 in
theorem tw_279 : Cond.code y_J_doubt b_J_doubt 5 (some .int) ∈ TB := TB_of (List.mem_of_getElem? (i := 279) rfl) rfl
theorem tw_280 : Cond.methodLink "JamRules" 105 y_J_isFault ∈ TB := TB_of (List.mem_of_getElem? (i := 280) (by decide +kernel)) (by decide +kernel)
theorem tw_282 : Cond.instanceMethod y_J_isFault ∈ TB := TB_of (List.mem_of_getElem? (i := 282) (by decide +kernel)) (by decide +kernel)
set_option maxRecDepth 100000 in
theorem tw_283 : Cond.code y_J_isFault b_J_isFault 2 (some .boolean) ∈ TB := TB_of (List.mem_of_getElem? (i := 283) rfl) rfl
theorem tw_284 : Cond.methodLink "JamRules" 108 y_F_doubts ∈ TB := TB_of (List.mem_of_getElem? (i := 284) (by decide +kernel)) (by decide +kernel)
theorem tw_285 : Cond.instanceMethod y_F_doubts ∈ TB := TB_of (List.mem_of_getElem? (i := 285) (by decide +kernel)) (by decide +kernel)
theorem tw_286 : Cond.selects "JamRules$Fault" y_F_doubts y_F_doubts ∈ TB := TB_of (List.mem_of_getElem? (i := 286) (by decide +kernel)) (by decide +kernel)
set_option maxRecDepth 100000 in
theorem tw_287 : Cond.code y_F_doubts b_F_doubts 2 (some .boolean) ∈ TB := TB_of (List.mem_of_getElem? (i := 287) rfl) rfl
theorem tw_288 : Cond.methodLink "JamRulesLaw" 35 y_J_cause ∈ TB := TB_of (List.mem_of_getElem? (i := 288) (by decide +kernel)) (by decide +kernel)
theorem tw_289 : Cond.instanceMethod y_J_cause ∈ TB := TB_of (List.mem_of_getElem? (i := 289) (by decide +kernel)) (by decide +kernel)
theorem tw_290 : Cond.selects "JamRules" y_J_cause y_J_cause ∈ TB := TB_of (List.mem_of_getElem? (i := 290) (by decide +kernel)) (by decide +kernel)
set_option maxRecDepth 100000 in
theorem tw_291 : Cond.code y_J_cause b_J_cause 4 (some .int) ∈ TB := TB_of (List.mem_of_getElem? (i := 291) rfl) rfl
theorem tw_292 : Cond.methodLink "JamRules" 120 y_J_cameAgain ∈ TB := TB_of (List.mem_of_getElem? (i := 292) (by decide +kernel)) (by decide +kernel)
theorem tw_294 : Cond.instanceMethod y_J_cameAgain ∈ TB := TB_of (List.mem_of_getElem? (i := 294) (by decide +kernel)) (by decide +kernel)
set_option maxRecDepth 100000 in
theorem tw_295 : Cond.code y_J_cameAgain b_J_cameAgain 4 (some .boolean) ∈ TB := TB_of (List.mem_of_getElem? (i := 295) rfl) rfl
theorem tw_296 : Cond.constantLong "JamRules" 257 (10000) ∈ TB := TB_of (List.mem_of_getElem? (i := 296) (by decide +kernel)) (by decide +kernel)
theorem tw_297 : Cond.methodLink "JamRules" 259 y_J_isSameTrouble ∈ TB := TB_of (List.mem_of_getElem? (i := 297) (by decide +kernel)) (by decide +kernel)
theorem tw_298 : Cond.static y_J_isSameTrouble ∈ TB := TB_of (List.mem_of_getElem? (i := 298) (by decide +kernel)) (by decide +kernel)
set_option maxRecDepth 100000 in
theorem tw_299 : Cond.code y_J_isSameTrouble b_J_isSameTrouble 2 (some .boolean) ∈ TB := TB_of (List.mem_of_getElem? (i := 299) rfl) rfl
theorem tw_300 : Cond.methodLink "JamRulesLaw" 40 y_J_step ∈ TB := TB_of (List.mem_of_getElem? (i := 300) (by decide +kernel)) (by decide +kernel)
theorem tw_301 : Cond.instanceMethod y_J_step ∈ TB := TB_of (List.mem_of_getElem? (i := 301) (by decide +kernel)) (by decide +kernel)
theorem tw_302 : Cond.selects "JamRules" y_J_step y_J_step ∈ TB := TB_of (List.mem_of_getElem? (i := 302) (by decide +kernel)) (by decide +kernel)
set_option maxRecDepth 100000 in
theorem tw_303 : Cond.code y_J_step b_J_step 4 (some .int) ∈ TB := TB_of (List.mem_of_getElem? (i := 303) rfl) rfl
theorem tw_304 : Cond.methodLink "JamRules" 123 y_J_nextStep ∈ TB := TB_of (List.mem_of_getElem? (i := 304) (by decide +kernel)) (by decide +kernel)
theorem tw_305 : Cond.static y_J_nextStep ∈ TB := TB_of (List.mem_of_getElem? (i := 305) (by decide +kernel)) (by decide +kernel)
set_option maxRecDepth 100000 in
theorem tw_306 : Cond.code y_J_nextStep b_J_nextStep 1 (some .int) ∈ TB := TB_of (List.mem_of_getElem? (i := 306) rfl) rfl
theorem tw_307 : Cond.fieldLink "JamRules" 263 "JamRules" "STEPS" "[I" ∈ TB := TB_of (List.mem_of_getElem? (i := 307) (by decide +kernel)) (by decide +kernel)
theorem tw_309 : Cond.methodLink "JamRules" 130 y_J_resetCounts ∈ TB := TB_of (List.mem_of_getElem? (i := 309) (by decide +kernel)) (by decide +kernel)
theorem tw_311 : Cond.instanceMethod y_J_resetCounts ∈ TB := TB_of (List.mem_of_getElem? (i := 311) (by decide +kernel)) (by decide +kernel)
set_option maxRecDepth 100000 in
theorem tw_312 : Cond.code y_J_resetCounts b_J_resetCounts 2 none ∈ TB := TB_of (List.mem_of_getElem? (i := 312) rfl) rfl
theorem tw_313 : Cond.methodLink "JamRules" 133 y_J_clear ∈ TB := TB_of (List.mem_of_getElem? (i := 313) (by decide +kernel)) (by decide +kernel)
theorem tw_315 : Cond.instanceMethod y_J_clear ∈ TB := TB_of (List.mem_of_getElem? (i := 315) (by decide +kernel)) (by decide +kernel)
set_option maxRecDepth 100000 in
theorem tw_316 : Cond.code y_J_clear b_J_clear 4 none ∈ TB := TB_of (List.mem_of_getElem? (i := 316) rfl) rfl
theorem tw_317 : Cond.methodLink "JamRules" 266 y_J_emptyBelt ∈ TB := TB_of (List.mem_of_getElem? (i := 317) (by decide +kernel)) (by decide +kernel)
theorem tw_319 : Cond.instanceMethod y_J_emptyBelt ∈ TB := TB_of (List.mem_of_getElem? (i := 319) (by decide +kernel)) (by decide +kernel)
set_option maxRecDepth 100000 in
theorem tw_320 : Cond.code y_J_emptyBelt b_J_emptyBelt 3 none ∈ TB := TB_of (List.mem_of_getElem? (i := 320) rfl) rfl
theorem tw_321 : Cond.methodLink "JamRules" 269 y_I_isOff ∈ TB := TB_of (List.mem_of_getElem? (i := 321) (by decide +kernel)) (by decide +kernel)
theorem tw_322 : Cond.instanceMethod y_I_isOff ∈ TB := TB_of (List.mem_of_getElem? (i := 322) (by decide +kernel)) (by decide +kernel)
theorem tw_323 : Cond.selects "JamRules$Item" y_I_isOff y_I_isOff ∈ TB := TB_of (List.mem_of_getElem? (i := 323) (by decide +kernel)) (by decide +kernel)
set_option maxRecDepth 100000 in
theorem tw_324 : Cond.code y_I_isOff b_I_isOff 1 (some .boolean) ∈ TB := TB_of (List.mem_of_getElem? (i := 324) rfl) rfl
theorem tw_325 : Cond.methodLink "JamRules" 272 y_J_putOnList ∈ TB := TB_of (List.mem_of_getElem? (i := 325) (by decide +kernel)) (by decide +kernel)
theorem tw_327 : Cond.instanceMethod y_J_putOnList ∈ TB := TB_of (List.mem_of_getElem? (i := 327) (by decide +kernel)) (by decide +kernel)
set_option maxRecDepth 100000 in
theorem tw_328 : Cond.code y_J_putOnList b_J_putOnList 2 none ∈ TB := TB_of (List.mem_of_getElem? (i := 328) rfl) rfl
theorem tw_329 : Cond.methodLink "JamRules" 275 y_J_listOffBy ∈ TB := TB_of (List.mem_of_getElem? (i := 329) (by decide +kernel)) (by decide +kernel)
theorem tw_331 : Cond.instanceMethod y_J_listOffBy ∈ TB := TB_of (List.mem_of_getElem? (i := 331) (by decide +kernel)) (by decide +kernel)
set_option maxRecDepth 100000 in
theorem tw_332 : Cond.code y_J_listOffBy b_J_listOffBy 3 none ∈ TB := TB_of (List.mem_of_getElem? (i := 332) rfl) rfl
theorem tw_333 : Cond.methodLink "JamRulesLaw" 44 y_J_feed ∈ TB := TB_of (List.mem_of_getElem? (i := 333) (by decide +kernel)) (by decide +kernel)
theorem tw_334 : Cond.instanceMethod y_J_feed ∈ TB := TB_of (List.mem_of_getElem? (i := 334) (by decide +kernel)) (by decide +kernel)
theorem tw_335 : Cond.selects "JamRules" y_J_feed y_J_feed ∈ TB := TB_of (List.mem_of_getElem? (i := 335) (by decide +kernel)) (by decide +kernel)
set_option maxRecDepth 100000 in
theorem tw_336 : Cond.code y_J_feed b_J_feed 3 (some .int) ∈ TB := TB_of (List.mem_of_getElem? (i := 336) rfl) rfl
theorem tw_337 : Cond.methodLink "JamRules" 145 y_J_takeOffList ∈ TB := TB_of (List.mem_of_getElem? (i := 337) (by decide +kernel)) (by decide +kernel)
theorem tw_339 : Cond.instanceMethod y_J_takeOffList ∈ TB := TB_of (List.mem_of_getElem? (i := 339) (by decide +kernel)) (by decide +kernel)
set_option maxRecDepth 100000 in
theorem tw_340 : Cond.code y_J_takeOffList b_J_takeOffList 4 none ∈ TB := TB_of (List.mem_of_getElem? (i := 340) rfl) rfl
theorem tw_341 : Cond.methodLink "JamRulesLaw" 48 y_J_listed ∈ TB := TB_of (List.mem_of_getElem? (i := 341) (by decide +kernel)) (by decide +kernel)
theorem tw_342 : Cond.instanceMethod y_J_listed ∈ TB := TB_of (List.mem_of_getElem? (i := 342) (by decide +kernel)) (by decide +kernel)
theorem tw_343 : Cond.selects "JamRules" y_J_listed y_J_listed ∈ TB := TB_of (List.mem_of_getElem? (i := 343) (by decide +kernel)) (by decide +kernel)
set_option maxRecDepth 100000 in
theorem tw_344 : Cond.code y_J_listed b_J_listed 2 (some .int) ∈ TB := TB_of (List.mem_of_getElem? (i := 344) rfl) rfl
theorem tw_345 : Cond.methodLink "JamRulesLaw" 52 y_J_rule ∈ TB := TB_of (List.mem_of_getElem? (i := 345) (by decide +kernel)) (by decide +kernel)
theorem tw_346 : Cond.instanceMethod y_J_rule ∈ TB := TB_of (List.mem_of_getElem? (i := 346) (by decide +kernel)) (by decide +kernel)
theorem tw_347 : Cond.selects "JamRules" y_J_rule y_J_rule ∈ TB := TB_of (List.mem_of_getElem? (i := 347) (by decide +kernel)) (by decide +kernel)
set_option maxRecDepth 100000 in
theorem tw_348 : Cond.code y_J_rule b_J_rule 5 (some .int) ∈ TB := TB_of (List.mem_of_getElem? (i := 348) rfl) rfl
theorem tw_349 : Cond.methodLink "JamRules" 148 y_J_isKind ∈ TB := TB_of (List.mem_of_getElem? (i := 349) (by decide +kernel)) (by decide +kernel)
theorem tw_350 : Cond.static y_J_isKind ∈ TB := TB_of (List.mem_of_getElem? (i := 350) (by decide +kernel)) (by decide +kernel)
set_option maxRecDepth 100000 in
theorem tw_351 : Cond.code y_J_isKind b_J_isKind 1 (some .boolean) ∈ TB := TB_of (List.mem_of_getElem? (i := 351) rfl) rfl
theorem tw_352 : Cond.methodLink "JamRulesLaw" 57 y_J_plant ∈ TB := TB_of (List.mem_of_getElem? (i := 352) (by decide +kernel)) (by decide +kernel)
theorem tw_353 : Cond.instanceMethod y_J_plant ∈ TB := TB_of (List.mem_of_getElem? (i := 353) (by decide +kernel)) (by decide +kernel)
theorem tw_354 : Cond.selects "JamRules" y_J_plant y_J_plant ∈ TB := TB_of (List.mem_of_getElem? (i := 354) (by decide +kernel)) (by decide +kernel)
set_option maxRecDepth 100000 in
theorem tw_355 : Cond.code y_J_plant b_J_plant 4 (some .int) ∈ TB := TB_of (List.mem_of_getElem? (i := 355) rfl) rfl
theorem tw_356 : Cond.methodLink "JamRulesLaw" 62 y_J_alarm ∈ TB := TB_of (List.mem_of_getElem? (i := 356) (by decide +kernel)) (by decide +kernel)
theorem tw_357 : Cond.instanceMethod y_J_alarm ∈ TB := TB_of (List.mem_of_getElem? (i := 357) (by decide +kernel)) (by decide +kernel)
theorem tw_358 : Cond.selects "JamRules" y_J_alarm y_J_alarm ∈ TB := TB_of (List.mem_of_getElem? (i := 358) (by decide +kernel)) (by decide +kernel)
set_option maxRecDepth 100000 in
theorem tw_359 : Cond.code y_J_alarm b_J_alarm 5 (some .int) ∈ TB := TB_of (List.mem_of_getElem? (i := 359) rfl) rfl
theorem tw_360 : Cond.methodLink "JamRules" 155 y_J_faultByRank ∈ TB := TB_of (List.mem_of_getElem? (i := 360) (by decide +kernel)) (by decide +kernel)
theorem tw_362 : Cond.instanceMethod y_J_faultByRank ∈ TB := TB_of (List.mem_of_getElem? (i := 362) (by decide +kernel)) (by decide +kernel)
set_option maxRecDepth 100000 in
theorem tw_363 : Cond.code y_J_faultByRank b_J_faultByRank 5 (some .int) ∈ TB := TB_of (List.mem_of_getElem? (i := 363) rfl) rfl
theorem tw_364 : Cond.methodLink "JamRules" 159 y_F_rank ∈ TB := TB_of (List.mem_of_getElem? (i := 364) (by decide +kernel)) (by decide +kernel)
theorem tw_365 : Cond.instanceMethod y_F_rank ∈ TB := TB_of (List.mem_of_getElem? (i := 365) (by decide +kernel)) (by decide +kernel)
theorem tw_366 : Cond.selects "JamRules$Fault" y_F_rank y_F_rank ∈ TB := TB_of (List.mem_of_getElem? (i := 366) (by decide +kernel)) (by decide +kernel)
set_option maxRecDepth 100000 in
theorem tw_367 : Cond.code y_F_rank b_F_rank 1 (some .int) ∈ TB := TB_of (List.mem_of_getElem? (i := 367) rfl) rfl
theorem tw_370 : Cond.methodLink "JamRulesLaw" 66 y_J_count ∈ TB := TB_of (List.mem_of_getElem? (i := 370) (by decide +kernel)) (by decide +kernel)
theorem tw_371 : Cond.instanceMethod y_J_count ∈ TB := TB_of (List.mem_of_getElem? (i := 371) (by decide +kernel)) (by decide +kernel)
theorem tw_372 : Cond.selects "JamRules" y_J_count y_J_count ∈ TB := TB_of (List.mem_of_getElem? (i := 372) (by decide +kernel)) (by decide +kernel)
set_option maxRecDepth 100000 in
theorem tw_373 : Cond.code y_J_count b_J_count 2 (some .int) ∈ TB := TB_of (List.mem_of_getElem? (i := 373) rfl) rfl
theorem tw_374 : Cond.methodLink "JamRulesLaw" 70 y_J_goesOn ∈ TB := TB_of (List.mem_of_getElem? (i := 374) (by decide +kernel)) (by decide +kernel)
theorem tw_375 : Cond.classLink "JamRulesLaw" 10 "JamRulesModel" ∈ TB := TB_of (List.mem_of_getElem? (i := 375) (by decide +kernel)) (by decide +kernel)
theorem tw_376 : Cond.instantiable "JamRulesModel" 33 ∈ TB := TB_of (List.mem_of_getElem? (i := 376) (by decide +kernel)) (by decide +kernel)
theorem tw_377 : Cond.methodLink "JamRulesLaw" 12 y_M_init ∈ TB := TB_of (List.mem_of_getElem? (i := 377) (by decide +kernel)) (by decide +kernel)
theorem tw_378 : Cond.instanceMethod y_M_init ∈ TB := TB_of (List.mem_of_getElem? (i := 378) (by decide +kernel)) (by decide +kernel)
set_option maxRecDepth 100000 in
theorem tw_379 : Cond.code y_M_init b_M_init 1 none ∈ TB := TB_of (List.mem_of_getElem? (i := 379) rfl) rfl
theorem tw_380 : Cond.methodLink "JamRulesModel" 1 objectInit ∈ TB := TB_of (List.mem_of_getElem? (i := 380) (by decide +kernel)) (by decide +kernel)
theorem tw_381 : Cond.fieldLink "JamRulesModel" 93 "JamRulesModel" "sensors" "I" ∈ TB := TB_of (List.mem_of_getElem? (i := 381) (by decide +kernel)) (by decide +kernel)
theorem tw_382 : Cond.fieldLink "JamRulesModel" 7 "JamRulesModel" "places" "[J" ∈ TB := TB_of (List.mem_of_getElem? (i := 382) (by decide +kernel)) (by decide +kernel)
theorem tw_383 : Cond.fieldLink "JamRulesModel" 13 "JamRulesModel" "dark" "[Z" ∈ TB := TB_of (List.mem_of_getElem? (i := 383) (by decide +kernel)) (by decide +kernel)
theorem tw_384 : Cond.fieldLink "JamRulesModel" 17 "JamRulesModel" "counts" "[I" ∈ TB := TB_of (List.mem_of_getElem? (i := 384) (by decide +kernel)) (by decide +kernel)
theorem tw_385 : Cond.fieldLink "JamRulesModel" 21 "JamRulesModel" "since" "[J" ∈ TB := TB_of (List.mem_of_getElem? (i := 385) (by decide +kernel)) (by decide +kernel)
theorem tw_386 : Cond.fieldLink "JamRulesModel" 24 "JamRulesModel" "by" "[I" ∈ TB := TB_of (List.mem_of_getElem? (i := 386) (by decide +kernel)) (by decide +kernel)
theorem tw_387 : Cond.fieldLink "JamRulesModel" 27 "JamRulesModel" "jammed" "[Z" ∈ TB := TB_of (List.mem_of_getElem? (i := 387) (by decide +kernel)) (by decide +kernel)
theorem tw_388 : Cond.fieldLink "JamRulesModel" 104 "JamRulesModel" "items" "I" ∈ TB := TB_of (List.mem_of_getElem? (i := 388) (by decide +kernel)) (by decide +kernel)
theorem tw_389 : Cond.fieldLink "JamRulesModel" 30 "JamRulesModel" "lengths" "[J" ∈ TB := TB_of (List.mem_of_getElem? (i := 389) (by decide +kernel)) (by decide +kernel)
theorem tw_390 : Cond.fieldLink "JamRulesModel" 33 "JamRulesModel" "heads" "[J" ∈ TB := TB_of (List.mem_of_getElem? (i := 390) (by decide +kernel)) (by decide +kernel)
theorem tw_391 : Cond.fieldLink "JamRulesModel" 36 "JamRulesModel" "states" "[I" ∈ TB := TB_of (List.mem_of_getElem? (i := 391) (by decide +kernel)) (by decide +kernel)
theorem tw_392 : Cond.fieldLink "JamRulesModel" 39 "JamRulesModel" "seen" "[Z" ∈ TB := TB_of (List.mem_of_getElem? (i := 392) (by decide +kernel)) (by decide +kernel)
theorem tw_393 : Cond.fieldLink "JamRulesModel" 42 "JamRulesModel" "isListed" "[Z" ∈ TB := TB_of (List.mem_of_getElem? (i := 393) (by decide +kernel)) (by decide +kernel)
theorem tw_394 : Cond.fieldLink "JamRulesModel" 45 "JamRulesModel" "isFed" "[Z" ∈ TB := TB_of (List.mem_of_getElem? (i := 394) (by decide +kernel)) (by decide +kernel)
theorem tw_395 : Cond.fieldLink "JamRulesModel" 48 "JamRulesModel" "list" "[I" ∈ TB := TB_of (List.mem_of_getElem? (i := 395) (by decide +kernel)) (by decide +kernel)
theorem tw_396 : Cond.fieldLink "JamRulesModel" 178 "JamRulesModel" "listed" "I" ∈ TB := TB_of (List.mem_of_getElem? (i := 396) (by decide +kernel)) (by decide +kernel)
theorem tw_397 : Cond.fieldLink "JamRulesModel" 97 "JamRulesModel" "faults" "I" ∈ TB := TB_of (List.mem_of_getElem? (i := 397) (by decide +kernel)) (by decide +kernel)
theorem tw_398 : Cond.fieldLink "JamRulesModel" 51 "JamRulesModel" "kinds" "[I" ∈ TB := TB_of (List.mem_of_getElem? (i := 398) (by decide +kernel)) (by decide +kernel)
theorem tw_399 : Cond.fieldLink "JamRulesModel" 54 "JamRulesModel" "at" "[I" ∈ TB := TB_of (List.mem_of_getElem? (i := 399) (by decide +kernel)) (by decide +kernel)
theorem tw_400 : Cond.fieldLink "JamRulesModel" 57 "JamRulesModel" "times" "[J" ∈ TB := TB_of (List.mem_of_getElem? (i := 400) (by decide +kernel)) (by decide +kernel)
theorem tw_401 : Cond.fieldLink "JamRulesModel" 60 "JamRulesModel" "stops" "[Z" ∈ TB := TB_of (List.mem_of_getElem? (i := 401) (by decide +kernel)) (by decide +kernel)
theorem tw_402 : Cond.fieldLink "JamRulesModel" 63 "JamRulesModel" "threw" "[Z" ∈ TB := TB_of (List.mem_of_getElem? (i := 402) (by decide +kernel)) (by decide +kernel)
theorem tw_403 : Cond.fieldLink "JamRulesModel" 66 "JamRulesModel" "planted" "[Z" ∈ TB := TB_of (List.mem_of_getElem? (i := 403) (by decide +kernel)) (by decide +kernel)
theorem tw_404 : Cond.fieldLink "JamRulesModel" 69 "JamRulesModel" "done" "[I" ∈ TB := TB_of (List.mem_of_getElem? (i := 404) (by decide +kernel)) (by decide +kernel)
theorem tw_405 : Cond.fieldLink "JamRulesModel" 72 "JamRulesModel" "cleared" "[Z" ∈ TB := TB_of (List.mem_of_getElem? (i := 405) (by decide +kernel)) (by decide +kernel)
theorem tw_406 : Cond.fieldLink "JamRulesModel" 75 "JamRulesModel" "doubts" "[Z" ∈ TB := TB_of (List.mem_of_getElem? (i := 406) (by decide +kernel)) (by decide +kernel)
theorem tw_407 : Cond.fieldLink "JamRulesModel" 78 "JamRulesModel" "does" "[Z" ∈ TB := TB_of (List.mem_of_getElem? (i := 407) (by decide +kernel)) (by decide +kernel)
theorem tw_408 : Cond.fieldLink "JamRulesModel" 81 "JamRulesModel" "throwing" "[Z" ∈ TB := TB_of (List.mem_of_getElem? (i := 408) (by decide +kernel)) (by decide +kernel)
theorem tw_409 : Cond.fieldLink "JamRulesModel" 84 "JamRulesModel" "ranks" "[I" ∈ TB := TB_of (List.mem_of_getElem? (i := 409) (by decide +kernel)) (by decide +kernel)
theorem tw_410 : Cond.fieldLink "JamRulesModel" 87 "JamRulesModel" "steps" "[I" ∈ TB := TB_of (List.mem_of_getElem? (i := 410) (by decide +kernel)) (by decide +kernel)
theorem tw_411 : Cond.fieldLink "JamRulesModel" 115 "JamRulesModel" "clock" "J" ∈ TB := TB_of (List.mem_of_getElem? (i := 411) (by decide +kernel)) (by decide +kernel)
theorem tw_412 : Cond.fieldLink "JamRulesModel" 135 "JamRulesModel" "first" "I" ∈ TB := TB_of (List.mem_of_getElem? (i := 412) (by decide +kernel)) (by decide +kernel)
theorem tw_413 : Cond.fieldLink "JamRulesModel" 90 "JamRulesModel" "swept" "[Z" ∈ TB := TB_of (List.mem_of_getElem? (i := 413) (by decide +kernel)) (by decide +kernel)
theorem tw_481 : Cond.arrayClass FieldType.long ∈ TB := TB_of (List.mem_of_getElem? (i := 481) (by decide +kernel)) (by decide +kernel)
theorem tw_482 : Cond.methodLink "JamRulesLaw" 19 y_M_sensor ∈ TB := TB_of (List.mem_of_getElem? (i := 482) (by decide +kernel)) (by decide +kernel)
theorem tw_483 : Cond.instanceMethod y_M_sensor ∈ TB := TB_of (List.mem_of_getElem? (i := 483) (by decide +kernel)) (by decide +kernel)
theorem tw_484 : Cond.selects "JamRulesModel" y_M_sensor y_M_sensor ∈ TB := TB_of (List.mem_of_getElem? (i := 484) (by decide +kernel)) (by decide +kernel)
set_option maxRecDepth 100000 in
theorem tw_485 : Cond.code y_M_sensor b_M_sensor 4 (some .int) ∈ TB := TB_of (List.mem_of_getElem? (i := 485) rfl) rfl
theorem tw_486 : Cond.constantLong "JamRulesModel" 100 (100000) ∈ TB := TB_of (List.mem_of_getElem? (i := 486) (by decide +kernel)) (by decide +kernel)
theorem tw_487 : Cond.constantLong "JamRulesModel" 102 (100) ∈ TB := TB_of (List.mem_of_getElem? (i := 487) (by decide +kernel)) (by decide +kernel)
theorem tw_488 : Cond.methodLink "JamRulesLaw" 24 y_M_item ∈ TB := TB_of (List.mem_of_getElem? (i := 488) (by decide +kernel)) (by decide +kernel)
theorem tw_489 : Cond.instanceMethod y_M_item ∈ TB := TB_of (List.mem_of_getElem? (i := 489) (by decide +kernel)) (by decide +kernel)
theorem tw_490 : Cond.selects "JamRulesModel" y_M_item y_M_item ∈ TB := TB_of (List.mem_of_getElem? (i := 490) (by decide +kernel)) (by decide +kernel)
set_option maxRecDepth 100000 in
theorem tw_491 : Cond.code y_M_item b_M_item 6 (some .int) ∈ TB := TB_of (List.mem_of_getElem? (i := 491) rfl) rfl
theorem tw_492 : Cond.constantLong "JamRulesModel" 107 (50) ∈ TB := TB_of (List.mem_of_getElem? (i := 492) (by decide +kernel)) (by decide +kernel)
theorem tw_493 : Cond.constantLong "JamRulesModel" 109 (1000) ∈ TB := TB_of (List.mem_of_getElem? (i := 493) (by decide +kernel)) (by decide +kernel)
theorem tw_494 : Cond.methodLink "JamRulesModel" 111 y_M_isIn ∈ TB := TB_of (List.mem_of_getElem? (i := 494) (by decide +kernel)) (by decide +kernel)
theorem tw_495 : Cond.static y_M_isIn ∈ TB := TB_of (List.mem_of_getElem? (i := 495) (by decide +kernel)) (by decide +kernel)
set_option maxRecDepth 100000 in
theorem tw_496 : Cond.code y_M_isIn b_M_isIn 6 (some .boolean) ∈ TB := TB_of (List.mem_of_getElem? (i := 496) rfl) rfl
theorem tw_497 : Cond.constantLong "JamRulesModel" 119 (1000000000) ∈ TB := TB_of (List.mem_of_getElem? (i := 497) (by decide +kernel)) (by decide +kernel)
theorem tw_498 : Cond.constantLong "JamRulesModel" 121 (30) ∈ TB := TB_of (List.mem_of_getElem? (i := 498) (by decide +kernel)) (by decide +kernel)
theorem tw_499 : Cond.methodLink "JamRulesModel" 123 y_M_stands ∈ TB := TB_of (List.mem_of_getElem? (i := 499) (by decide +kernel)) (by decide +kernel)
theorem tw_501 : Cond.instanceMethod y_M_stands ∈ TB := TB_of (List.mem_of_getElem? (i := 501) (by decide +kernel)) (by decide +kernel)
set_option maxRecDepth 100000 in
theorem tw_502 : Cond.code y_M_stands b_M_stands 4 (some .boolean) ∈ TB := TB_of (List.mem_of_getElem? (i := 502) rfl) rfl
theorem tw_503 : Cond.methodLink "JamRulesLaw" 29 y_M_edge ∈ TB := TB_of (List.mem_of_getElem? (i := 503) (by decide +kernel)) (by decide +kernel)
theorem tw_504 : Cond.instanceMethod y_M_edge ∈ TB := TB_of (List.mem_of_getElem? (i := 504) (by decide +kernel)) (by decide +kernel)
theorem tw_505 : Cond.selects "JamRulesModel" y_M_edge y_M_edge ∈ TB := TB_of (List.mem_of_getElem? (i := 505) (by decide +kernel)) (by decide +kernel)
set_option maxRecDepth 100000 in
theorem tw_506 : Cond.code y_M_edge b_M_edge 5 (some .int) ∈ TB := TB_of (List.mem_of_getElem? (i := 506) rfl) rfl
theorem tw_507 : Cond.methodLink "JamRulesModel" 158 y_M_noSensor ∈ TB := TB_of (List.mem_of_getElem? (i := 507) (by decide +kernel)) (by decide +kernel)
theorem tw_509 : Cond.instanceMethod y_M_noSensor ∈ TB := TB_of (List.mem_of_getElem? (i := 509) (by decide +kernel)) (by decide +kernel)
set_option maxRecDepth 100000 in
theorem tw_510 : Cond.code y_M_noSensor b_M_noSensor 2 (some .boolean) ∈ TB := TB_of (List.mem_of_getElem? (i := 510) rfl) rfl
theorem tw_511 : Cond.methodLink "JamRulesModel" 162 y_M_jams ∈ TB := TB_of (List.mem_of_getElem? (i := 511) (by decide +kernel)) (by decide +kernel)
theorem tw_513 : Cond.instanceMethod y_M_jams ∈ TB := TB_of (List.mem_of_getElem? (i := 513) (by decide +kernel)) (by decide +kernel)
set_option maxRecDepth 100000 in
theorem tw_514 : Cond.code y_M_jams b_M_jams 7 none ∈ TB := TB_of (List.mem_of_getElem? (i := 514) rfl) rfl
theorem tw_515 : Cond.constantLong "JamRulesModel" 138 (500) ∈ TB := TB_of (List.mem_of_getElem? (i := 515) (by decide +kernel)) (by decide +kernel)
theorem tw_516 : Cond.methodLink "JamRulesModel" 140 y_M_tell ∈ TB := TB_of (List.mem_of_getElem? (i := 516) (by decide +kernel)) (by decide +kernel)
theorem tw_518 : Cond.instanceMethod y_M_tell ∈ TB := TB_of (List.mem_of_getElem? (i := 518) (by decide +kernel)) (by decide +kernel)
set_option maxRecDepth 100000 in
theorem tw_519 : Cond.code y_M_tell b_M_tell 7 (some .int) ∈ TB := TB_of (List.mem_of_getElem? (i := 519) rfl) rfl
theorem tw_520 : Cond.methodLink "JamRulesModel" 131 y_M_isDoubt ∈ TB := TB_of (List.mem_of_getElem? (i := 520) (by decide +kernel)) (by decide +kernel)
theorem tw_522 : Cond.instanceMethod y_M_isDoubt ∈ TB := TB_of (List.mem_of_getElem? (i := 522) (by decide +kernel)) (by decide +kernel)
set_option maxRecDepth 100000 in
theorem tw_523 : Cond.code y_M_isDoubt b_M_isDoubt 7 (some .boolean) ∈ TB := TB_of (List.mem_of_getElem? (i := 523) rfl) rfl
theorem tw_524 : Cond.methodLink "JamRulesModel" 127 y_M_isSeen ∈ TB := TB_of (List.mem_of_getElem? (i := 524) (by decide +kernel)) (by decide +kernel)
theorem tw_526 : Cond.instanceMethod y_M_isSeen ∈ TB := TB_of (List.mem_of_getElem? (i := 526) (by decide +kernel)) (by decide +kernel)
set_option maxRecDepth 100000 in
theorem tw_527 : Cond.code y_M_isSeen b_M_isSeen 3 (some .boolean) ∈ TB := TB_of (List.mem_of_getElem? (i := 527) rfl) rfl
theorem tw_528 : Cond.methodLink "JamRulesModel" 166 y_M_darken ∈ TB := TB_of (List.mem_of_getElem? (i := 528) (by decide +kernel)) (by decide +kernel)
theorem tw_530 : Cond.instanceMethod y_M_darken ∈ TB := TB_of (List.mem_of_getElem? (i := 530) (by decide +kernel)) (by decide +kernel)
set_option maxRecDepth 100000 in
theorem tw_531 : Cond.code y_M_darken b_M_darken 6 none ∈ TB := TB_of (List.mem_of_getElem? (i := 531) rfl) rfl
theorem tw_532 : Cond.methodLink "JamRulesModel" 144 y_M_next ∈ TB := TB_of (List.mem_of_getElem? (i := 532) (by decide +kernel)) (by decide +kernel)
theorem tw_534 : Cond.instanceMethod y_M_next ∈ TB := TB_of (List.mem_of_getElem? (i := 534) (by decide +kernel)) (by decide +kernel)
set_option maxRecDepth 100000 in
theorem tw_535 : Cond.code y_M_next b_M_next 3 (some .int) ∈ TB := TB_of (List.mem_of_getElem? (i := 535) rfl) rfl
theorem tw_536 : Cond.methodLink "JamRulesModel" 148 y_M_due ∈ TB := TB_of (List.mem_of_getElem? (i := 536) (by decide +kernel)) (by decide +kernel)
theorem tw_538 : Cond.instanceMethod y_M_due ∈ TB := TB_of (List.mem_of_getElem? (i := 538) (by decide +kernel)) (by decide +kernel)
set_option maxRecDepth 100000 in
theorem tw_539 : Cond.code y_M_due b_M_due 3 (some .long) ∈ TB := TB_of (List.mem_of_getElem? (i := 539) rfl) rfl
theorem tw_540 : Cond.constantLong "JamRulesModel" 152 (16) ∈ TB := TB_of (List.mem_of_getElem? (i := 540) (by decide +kernel)) (by decide +kernel)
theorem tw_541 : Cond.constantLong "JamRulesModel" 154 (-15) ∈ TB := TB_of (List.mem_of_getElem? (i := 541) (by decide +kernel)) (by decide +kernel)
theorem tw_542 : Cond.constantLong "JamRulesModel" 156 (15) ∈ TB := TB_of (List.mem_of_getElem? (i := 542) (by decide +kernel)) (by decide +kernel)
theorem tw_543 : Cond.methodLink "JamRulesModel" 170 y_M_lighten ∈ TB := TB_of (List.mem_of_getElem? (i := 543) (by decide +kernel)) (by decide +kernel)
theorem tw_545 : Cond.instanceMethod y_M_lighten ∈ TB := TB_of (List.mem_of_getElem? (i := 545) (by decide +kernel)) (by decide +kernel)
set_option maxRecDepth 100000 in
theorem tw_546 : Cond.code y_M_lighten b_M_lighten 9 none ∈ TB := TB_of (List.mem_of_getElem? (i := 546) rfl) rfl
theorem tw_547 : Cond.methodLink "JamRulesLaw" 34 y_M_doubt ∈ TB := TB_of (List.mem_of_getElem? (i := 547) (by decide +kernel)) (by decide +kernel)
theorem tw_548 : Cond.instanceMethod y_M_doubt ∈ TB := TB_of (List.mem_of_getElem? (i := 548) (by decide +kernel)) (by decide +kernel)
theorem tw_549 : Cond.selects "JamRulesModel" y_M_doubt y_M_doubt ∈ TB := TB_of (List.mem_of_getElem? (i := 549) (by decide +kernel)) (by decide +kernel)
set_option maxRecDepth 100000 in
theorem tw_550 : Cond.code y_M_doubt b_M_doubt 5 (some .int) ∈ TB := TB_of (List.mem_of_getElem? (i := 550) rfl) rfl
theorem tw_551 : Cond.methodLink "JamRulesModel" 173 y_M_noFault ∈ TB := TB_of (List.mem_of_getElem? (i := 551) (by decide +kernel)) (by decide +kernel)
theorem tw_553 : Cond.instanceMethod y_M_noFault ∈ TB := TB_of (List.mem_of_getElem? (i := 553) (by decide +kernel)) (by decide +kernel)
set_option maxRecDepth 100000 in
theorem tw_554 : Cond.code y_M_noFault b_M_noFault 2 (some .boolean) ∈ TB := TB_of (List.mem_of_getElem? (i := 554) rfl) rfl
theorem tw_555 : Cond.methodLink "JamRulesLaw" 39 y_M_cause ∈ TB := TB_of (List.mem_of_getElem? (i := 555) (by decide +kernel)) (by decide +kernel)
theorem tw_556 : Cond.instanceMethod y_M_cause ∈ TB := TB_of (List.mem_of_getElem? (i := 556) (by decide +kernel)) (by decide +kernel)
theorem tw_557 : Cond.selects "JamRulesModel" y_M_cause y_M_cause ∈ TB := TB_of (List.mem_of_getElem? (i := 557) (by decide +kernel)) (by decide +kernel)
set_option maxRecDepth 100000 in
theorem tw_558 : Cond.code y_M_cause b_M_cause 6 (some .int) ∈ TB := TB_of (List.mem_of_getElem? (i := 558) rfl) rfl
theorem tw_559 : Cond.constantLong "JamRulesModel" 176 (10000) ∈ TB := TB_of (List.mem_of_getElem? (i := 559) (by decide +kernel)) (by decide +kernel)
theorem tw_560 : Cond.methodLink "JamRulesLaw" 43 y_M_step ∈ TB := TB_of (List.mem_of_getElem? (i := 560) (by decide +kernel)) (by decide +kernel)
theorem tw_561 : Cond.instanceMethod y_M_step ∈ TB := TB_of (List.mem_of_getElem? (i := 561) (by decide +kernel)) (by decide +kernel)
theorem tw_562 : Cond.selects "JamRulesModel" y_M_step y_M_step ∈ TB := TB_of (List.mem_of_getElem? (i := 562) (by decide +kernel)) (by decide +kernel)
set_option maxRecDepth 100000 in
theorem tw_563 : Cond.code y_M_step b_M_step 6 (some .int) ∈ TB := TB_of (List.mem_of_getElem? (i := 563) rfl) rfl
theorem tw_564 : Cond.constantLong "JamRulesModel" 185 (5) ∈ TB := TB_of (List.mem_of_getElem? (i := 564) (by decide +kernel)) (by decide +kernel)
theorem tw_565 : Cond.methodLink "JamRulesModel" 187 y_M_clear ∈ TB := TB_of (List.mem_of_getElem? (i := 565) (by decide +kernel)) (by decide +kernel)
theorem tw_567 : Cond.instanceMethod y_M_clear ∈ TB := TB_of (List.mem_of_getElem? (i := 567) (by decide +kernel)) (by decide +kernel)
set_option maxRecDepth 100000 in
theorem tw_568 : Cond.code y_M_clear b_M_clear 3 none ∈ TB := TB_of (List.mem_of_getElem? (i := 568) rfl) rfl
theorem tw_569 : Cond.methodLink "JamRulesModel" 181 y_M_enlist ∈ TB := TB_of (List.mem_of_getElem? (i := 569) (by decide +kernel)) (by decide +kernel)
theorem tw_571 : Cond.instanceMethod y_M_enlist ∈ TB := TB_of (List.mem_of_getElem? (i := 571) (by decide +kernel)) (by decide +kernel)
set_option maxRecDepth 100000 in
theorem tw_572 : Cond.code y_M_enlist b_M_enlist 2 none ∈ TB := TB_of (List.mem_of_getElem? (i := 572) rfl) rfl
theorem tw_573 : Cond.methodLink "JamRulesLaw" 47 y_M_feed ∈ TB := TB_of (List.mem_of_getElem? (i := 573) (by decide +kernel)) (by decide +kernel)
theorem tw_574 : Cond.instanceMethod y_M_feed ∈ TB := TB_of (List.mem_of_getElem? (i := 574) (by decide +kernel)) (by decide +kernel)
theorem tw_575 : Cond.selects "JamRulesModel" y_M_feed y_M_feed ∈ TB := TB_of (List.mem_of_getElem? (i := 575) (by decide +kernel)) (by decide +kernel)
set_option maxRecDepth 100000 in
theorem tw_576 : Cond.code y_M_feed b_M_feed 4 (some .int) ∈ TB := TB_of (List.mem_of_getElem? (i := 576) rfl) rfl
theorem tw_577 : Cond.methodLink "JamRulesLaw" 51 y_M_listed ∈ TB := TB_of (List.mem_of_getElem? (i := 577) (by decide +kernel)) (by decide +kernel)
theorem tw_578 : Cond.instanceMethod y_M_listed ∈ TB := TB_of (List.mem_of_getElem? (i := 578) (by decide +kernel)) (by decide +kernel)
theorem tw_579 : Cond.selects "JamRulesModel" y_M_listed y_M_listed ∈ TB := TB_of (List.mem_of_getElem? (i := 579) (by decide +kernel)) (by decide +kernel)
set_option maxRecDepth 100000 in
theorem tw_580 : Cond.code y_M_listed b_M_listed 2 (some .int) ∈ TB := TB_of (List.mem_of_getElem? (i := 580) rfl) rfl
theorem tw_581 : Cond.methodLink "JamRulesLaw" 56 y_M_rule ∈ TB := TB_of (List.mem_of_getElem? (i := 581) (by decide +kernel)) (by decide +kernel)
theorem tw_582 : Cond.instanceMethod y_M_rule ∈ TB := TB_of (List.mem_of_getElem? (i := 582) (by decide +kernel)) (by decide +kernel)
theorem tw_583 : Cond.selects "JamRulesModel" y_M_rule y_M_rule ∈ TB := TB_of (List.mem_of_getElem? (i := 583) (by decide +kernel)) (by decide +kernel)
set_option maxRecDepth 100000 in
theorem tw_584 : Cond.code y_M_rule b_M_rule 5 (some .int) ∈ TB := TB_of (List.mem_of_getElem? (i := 584) rfl) rfl
theorem tw_585 : Cond.constantLong "JamRulesModel" 190 (6) ∈ TB := TB_of (List.mem_of_getElem? (i := 585) (by decide +kernel)) (by decide +kernel)
theorem tw_586 : Cond.methodLink "JamRulesLaw" 61 y_M_plant ∈ TB := TB_of (List.mem_of_getElem? (i := 586) (by decide +kernel)) (by decide +kernel)
theorem tw_587 : Cond.instanceMethod y_M_plant ∈ TB := TB_of (List.mem_of_getElem? (i := 587) (by decide +kernel)) (by decide +kernel)
theorem tw_588 : Cond.selects "JamRulesModel" y_M_plant y_M_plant ∈ TB := TB_of (List.mem_of_getElem? (i := 588) (by decide +kernel)) (by decide +kernel)
set_option maxRecDepth 100000 in
theorem tw_589 : Cond.code y_M_plant b_M_plant 4 (some .int) ∈ TB := TB_of (List.mem_of_getElem? (i := 589) rfl) rfl
theorem tw_590 : Cond.methodLink "JamRulesLaw" 65 y_M_alarm ∈ TB := TB_of (List.mem_of_getElem? (i := 590) (by decide +kernel)) (by decide +kernel)
theorem tw_591 : Cond.instanceMethod y_M_alarm ∈ TB := TB_of (List.mem_of_getElem? (i := 591) (by decide +kernel)) (by decide +kernel)
theorem tw_592 : Cond.selects "JamRulesModel" y_M_alarm y_M_alarm ∈ TB := TB_of (List.mem_of_getElem? (i := 592) (by decide +kernel)) (by decide +kernel)
set_option maxRecDepth 100000 in
theorem tw_593 : Cond.code y_M_alarm b_M_alarm 6 (some .int) ∈ TB := TB_of (List.mem_of_getElem? (i := 593) rfl) rfl
theorem tw_594 : Cond.constantLong "JamRulesModel" 192 (4) ∈ TB := TB_of (List.mem_of_getElem? (i := 594) (by decide +kernel)) (by decide +kernel)
theorem tw_595 : Cond.methodLink "JamRulesModel" 194 y_M_rankOf ∈ TB := TB_of (List.mem_of_getElem? (i := 595) (by decide +kernel)) (by decide +kernel)
theorem tw_597 : Cond.instanceMethod y_M_rankOf ∈ TB := TB_of (List.mem_of_getElem? (i := 597) (by decide +kernel)) (by decide +kernel)
set_option maxRecDepth 100000 in
theorem tw_598 : Cond.code y_M_rankOf b_M_rankOf 2 (some .int) ∈ TB := TB_of (List.mem_of_getElem? (i := 598) rfl) rfl
theorem tw_599 : Cond.methodLink "JamRulesLaw" 69 y_M_count ∈ TB := TB_of (List.mem_of_getElem? (i := 599) (by decide +kernel)) (by decide +kernel)
theorem tw_600 : Cond.instanceMethod y_M_count ∈ TB := TB_of (List.mem_of_getElem? (i := 600) (by decide +kernel)) (by decide +kernel)
theorem tw_601 : Cond.selects "JamRulesModel" y_M_count y_M_count ∈ TB := TB_of (List.mem_of_getElem? (i := 601) (by decide +kernel)) (by decide +kernel)
set_option maxRecDepth 100000 in
theorem tw_602 : Cond.code y_M_count b_M_count 2 (some .int) ∈ TB := TB_of (List.mem_of_getElem? (i := 602) rfl) rfl
theorem tw_603 : Cond.methodLink "JamRulesLaw" 74 y_M_goesOn ∈ TB := TB_of (List.mem_of_getElem? (i := 603) (by decide +kernel)) (by decide +kernel)
theorem tw_604 : Cond.instanceMethod y_M_goesOn ∈ TB := TB_of (List.mem_of_getElem? (i := 604) (by decide +kernel)) (by decide +kernel)
theorem tw_605 : Cond.selects "JamRulesModel" y_M_goesOn y_M_goesOn ∈ TB := TB_of (List.mem_of_getElem? (i := 605) (by decide +kernel)) (by decide +kernel)
set_option maxRecDepth 100000 in
theorem tw_606 : Cond.code y_M_goesOn b_M_goesOn 1 (some .boolean) ∈ TB := TB_of (List.mem_of_getElem? (i := 606) rfl) rfl
theorem tw_607 : Cond.constantLong "JamRulesLaw" 13 (4294967295) ∈ TB := TB_of (List.mem_of_getElem? (i := 607) (by decide +kernel)) (by decide +kernel)
theorem se_0 : Cond.selects R_J y_J_isTime y_J_isTime ∈ TB := TB_se (q := (y_J_isTime, 12)) (List.mem_of_getElem? (i := 0) (by decide +kernel))
theorem se_1 : Cond.selects R_J y_J_earliestHead y_J_earliestHead ∈ TB := TB_se (q := (y_J_earliestHead, 12)) (List.mem_of_getElem? (i := 1) (by decide +kernel))
theorem se_2 : Cond.selects R_J y_J_isSensor y_J_isSensor ∈ TB := TB_se (q := (y_J_isSensor, 12)) (List.mem_of_getElem? (i := 2) (by decide +kernel))
theorem se_3 : Cond.selects R_J y_J_tellJams y_J_tellJams ∈ TB := TB_se (q := (y_J_tellJams, 12)) (List.mem_of_getElem? (i := 3) (by decide +kernel))
theorem se_4 : Cond.selects R_J y_J_lengthAt y_J_lengthAt ∈ TB := TB_se (q := (y_J_lengthAt, 12)) (List.mem_of_getElem? (i := 4) (by decide +kernel))
theorem se_5 : Cond.selects R_J y_J_isItem y_J_isItem ∈ TB := TB_se (q := (y_J_isItem, 12)) (List.mem_of_getElem? (i := 5) (by decide +kernel))
theorem se_6 : Cond.selects R_J y_J_tell y_J_tell ∈ TB := TB_se (q := (y_J_tell, 12)) (List.mem_of_getElem? (i := 6) (by decide +kernel))
theorem se_7 : Cond.selects R_J y_J_doubtAt y_J_doubtAt ∈ TB := TB_se (q := (y_J_doubtAt, 12)) (List.mem_of_getElem? (i := 7) (by decide +kernel))
theorem se_8 : Cond.selects R_J y_J_isInDoubt y_J_isInDoubt ∈ TB := TB_se (q := (y_J_isInDoubt, 12)) (List.mem_of_getElem? (i := 8) (by decide +kernel))
theorem se_9 : Cond.selects R_J y_J_becomeDark y_J_becomeDark ∈ TB := TB_se (q := (y_J_becomeDark, 12)) (List.mem_of_getElem? (i := 9) (by decide +kernel))
theorem se_10 : Cond.selects R_J y_J_loseLateItems y_J_loseLateItems ∈ TB := TB_se (q := (y_J_loseLateItems, 12)) (List.mem_of_getElem? (i := 10) (by decide +kernel))
theorem se_11 : Cond.selects R_J y_J_isAwaited y_J_isAwaited ∈ TB := TB_se (q := (y_J_isAwaited, 12)) (List.mem_of_getElem? (i := 11) (by decide +kernel))
theorem se_12 : Cond.selects R_J y_J_dueAt y_J_dueAt ∈ TB := TB_se (q := (y_J_dueAt, 12)) (List.mem_of_getElem? (i := 12) (by decide +kernel))
theorem se_13 : Cond.selects R_J y_J_leastUnseen y_J_leastUnseen ∈ TB := TB_se (q := (y_J_leastUnseen, 12)) (List.mem_of_getElem? (i := 13) (by decide +kernel))
theorem se_14 : Cond.selects R_J y_J_isComing y_J_isComing ∈ TB := TB_se (q := (y_J_isComing, 12)) (List.mem_of_getElem? (i := 14) (by decide +kernel))
theorem se_15 : Cond.selects R_J y_J_becomeLight y_J_becomeLight ∈ TB := TB_se (q := (y_J_becomeLight, 12)) (List.mem_of_getElem? (i := 15) (by decide +kernel))
theorem se_16 : Cond.selects R_J y_J_judgeLength y_J_judgeLength ∈ TB := TB_se (q := (y_J_judgeLength, 12)) (List.mem_of_getElem? (i := 16) (by decide +kernel))
theorem se_17 : Cond.selects R_J y_J_isFault y_J_isFault ∈ TB := TB_se (q := (y_J_isFault, 12)) (List.mem_of_getElem? (i := 17) (by decide +kernel))
theorem se_18 : Cond.selects R_J y_J_cameAgain y_J_cameAgain ∈ TB := TB_se (q := (y_J_cameAgain, 12)) (List.mem_of_getElem? (i := 18) (by decide +kernel))
theorem se_19 : Cond.selects R_J y_J_resetCounts y_J_resetCounts ∈ TB := TB_se (q := (y_J_resetCounts, 12)) (List.mem_of_getElem? (i := 19) (by decide +kernel))
theorem se_20 : Cond.selects R_J y_J_clear y_J_clear ∈ TB := TB_se (q := (y_J_clear, 12)) (List.mem_of_getElem? (i := 20) (by decide +kernel))
theorem se_21 : Cond.selects R_J y_J_emptyBelt y_J_emptyBelt ∈ TB := TB_se (q := (y_J_emptyBelt, 12)) (List.mem_of_getElem? (i := 21) (by decide +kernel))
theorem se_22 : Cond.selects R_J y_J_putOnList y_J_putOnList ∈ TB := TB_se (q := (y_J_putOnList, 12)) (List.mem_of_getElem? (i := 22) (by decide +kernel))
theorem se_23 : Cond.selects R_J y_J_listOffBy y_J_listOffBy ∈ TB := TB_se (q := (y_J_listOffBy, 12)) (List.mem_of_getElem? (i := 23) (by decide +kernel))
theorem se_24 : Cond.selects R_J y_J_takeOffList y_J_takeOffList ∈ TB := TB_se (q := (y_J_takeOffList, 12)) (List.mem_of_getElem? (i := 24) (by decide +kernel))
theorem se_25 : Cond.selects R_J y_J_faultByRank y_J_faultByRank ∈ TB := TB_se (q := (y_J_faultByRank, 12)) (List.mem_of_getElem? (i := 25) (by decide +kernel))
theorem se_26 : Cond.selects R_M y_M_stands y_M_stands ∈ TB := TB_se (q := (y_M_stands, 33)) (List.mem_of_getElem? (i := 26) (by decide +kernel))
theorem se_27 : Cond.selects R_M y_M_noSensor y_M_noSensor ∈ TB := TB_se (q := (y_M_noSensor, 33)) (List.mem_of_getElem? (i := 27) (by decide +kernel))
theorem se_28 : Cond.selects R_M y_M_jams y_M_jams ∈ TB := TB_se (q := (y_M_jams, 33)) (List.mem_of_getElem? (i := 28) (by decide +kernel))
theorem se_29 : Cond.selects R_M y_M_tell y_M_tell ∈ TB := TB_se (q := (y_M_tell, 33)) (List.mem_of_getElem? (i := 29) (by decide +kernel))
theorem se_30 : Cond.selects R_M y_M_isDoubt y_M_isDoubt ∈ TB := TB_se (q := (y_M_isDoubt, 33)) (List.mem_of_getElem? (i := 30) (by decide +kernel))
theorem se_31 : Cond.selects R_M y_M_isSeen y_M_isSeen ∈ TB := TB_se (q := (y_M_isSeen, 33)) (List.mem_of_getElem? (i := 31) (by decide +kernel))
theorem se_32 : Cond.selects R_M y_M_darken y_M_darken ∈ TB := TB_se (q := (y_M_darken, 33)) (List.mem_of_getElem? (i := 32) (by decide +kernel))
theorem se_33 : Cond.selects R_M y_M_next y_M_next ∈ TB := TB_se (q := (y_M_next, 33)) (List.mem_of_getElem? (i := 33) (by decide +kernel))
theorem se_34 : Cond.selects R_M y_M_due y_M_due ∈ TB := TB_se (q := (y_M_due, 33)) (List.mem_of_getElem? (i := 34) (by decide +kernel))
theorem se_35 : Cond.selects R_M y_M_lighten y_M_lighten ∈ TB := TB_se (q := (y_M_lighten, 33)) (List.mem_of_getElem? (i := 35) (by decide +kernel))
theorem se_36 : Cond.selects R_M y_M_noFault y_M_noFault ∈ TB := TB_se (q := (y_M_noFault, 33)) (List.mem_of_getElem? (i := 36) (by decide +kernel))
theorem se_37 : Cond.selects R_M y_M_clear y_M_clear ∈ TB := TB_se (q := (y_M_clear, 33)) (List.mem_of_getElem? (i := 37) (by decide +kernel))
theorem se_38 : Cond.selects R_M y_M_enlist y_M_enlist ∈ TB := TB_se (q := (y_M_enlist, 33)) (List.mem_of_getElem? (i := 38) (by decide +kernel))
theorem se_39 : Cond.selects R_M y_M_rankOf y_M_rankOf ∈ TB := TB_se (q := (y_M_rankOf, 33)) (List.mem_of_getElem? (i := 39) (by decide +kernel))
end
section
theorem d_J_init_0 : decode b_J_init 0 = .ok (.aload_n 0, 1) := by decide +kernel
theorem d_J_init_1 : decode b_J_init 1 = .ok (.invokespecial 1, 3) := by decide +kernel
theorem d_J_init_4 : decode b_J_init 4 = .ok (.aload_n 0, 1) := by decide +kernel
theorem d_J_init_5 : decode b_J_init 5 = .ok (.bipush 8, 2) := by decide +kernel
theorem d_J_init_7 : decode b_J_init 7 = .ok (.anewarray 9, 3) := by decide +kernel
theorem d_J_init_10 : decode b_J_init 10 = .ok (.putfield 11, 3) := by decide +kernel
theorem d_J_init_13 : decode b_J_init 13 = .ok (.aload_n 0, 1) := by decide +kernel
theorem d_J_init_14 : decode b_J_init 14 = .ok (.iconst 0, 1) := by decide +kernel
theorem d_J_init_15 : decode b_J_init 15 = .ok (.putfield 15, 3) := by decide +kernel
theorem d_J_init_18 : decode b_J_init 18 = .ok (.aload_n 0, 1) := by decide +kernel
theorem d_J_init_19 : decode b_J_init 19 = .ok (.bipush 61, 2) := by decide +kernel
theorem d_J_init_21 : decode b_J_init 21 = .ok (.anewarray 19, 3) := by decide +kernel
theorem d_J_init_24 : decode b_J_init 24 = .ok (.putfield 21, 3) := by decide +kernel
theorem d_J_init_27 : decode b_J_init 27 = .ok (.aload_n 0, 1) := by decide +kernel
theorem d_J_init_28 : decode b_J_init 28 = .ok (.iconst 0, 1) := by decide +kernel
theorem d_J_init_29 : decode b_J_init 29 = .ok (.putfield 25, 3) := by decide +kernel
theorem d_J_init_32 : decode b_J_init 32 = .ok (.aload_n 0, 1) := by decide +kernel
theorem d_J_init_33 : decode b_J_init 33 = .ok (.bipush 41, 2) := by decide +kernel
theorem d_J_init_35 : decode b_J_init 35 = .ok (.anewarray 28, 3) := by decide +kernel
theorem d_J_init_38 : decode b_J_init 38 = .ok (.putfield 30, 3) := by decide +kernel
theorem d_J_init_41 : decode b_J_init 41 = .ok (.aload_n 0, 1) := by decide +kernel
theorem d_J_init_42 : decode b_J_init 42 = .ok (.iconst 0, 1) := by decide +kernel
theorem d_J_init_43 : decode b_J_init 43 = .ok (.putfield 34, 3) := by decide +kernel
theorem d_J_init_46 : decode b_J_init 46 = .ok (.aload_n 0, 1) := by decide +kernel
theorem d_J_init_47 : decode b_J_init 47 = .ok (.iconst 0, 1) := by decide +kernel
theorem d_J_init_48 : decode b_J_init 48 = .ok (.putfield 37, 3) := by decide +kernel
theorem d_J_init_51 : decode b_J_init 51 = .ok (.aload_n 0, 1) := by decide +kernel
theorem d_J_init_52 : decode b_J_init 52 = .ok (.bipush 7, 2) := by decide +kernel
theorem d_J_init_54 : decode b_J_init 54 = .ok (.newarray .boolean, 2) := by decide +kernel
theorem d_J_init_56 : decode b_J_init 56 = .ok (.putfield 40, 3) := by decide +kernel
theorem d_J_init_59 : decode b_J_init 59 = .ok (.aload_n 0, 1) := by decide +kernel
theorem d_J_init_60 : decode b_J_init 60 = .ok (.bipush 7, 2) := by decide +kernel
theorem d_J_init_62 : decode b_J_init 62 = .ok (.newarray .boolean, 2) := by decide +kernel
theorem d_J_init_64 : decode b_J_init 64 = .ok (.putfield 44, 3) := by decide +kernel
theorem d_J_init_67 : decode b_J_init 67 = .ok (.aload_n 0, 1) := by decide +kernel
theorem d_J_init_68 : decode b_J_init 68 = .ok (.bipush 60, 2) := by decide +kernel
theorem d_J_init_70 : decode b_J_init 70 = .ok (.newarray .int, 2) := by decide +kernel
theorem d_J_init_72 : decode b_J_init 72 = .ok (.putfield 47, 3) := by decide +kernel
theorem d_J_init_75 : decode b_J_init 75 = .ok (.aload_n 0, 1) := by decide +kernel
theorem d_J_init_76 : decode b_J_init 76 = .ok (.iconst 0, 1) := by decide +kernel
theorem d_J_init_77 : decode b_J_init 77 = .ok (.putfield 51, 3) := by decide +kernel
theorem d_J_init_80 : decode b_J_init 80 = .ok (.aload_n 0, 1) := by decide +kernel
theorem d_J_init_81 : decode b_J_init 81 = .ok (.lconst 0, 1) := by decide +kernel
theorem d_J_init_82 : decode b_J_init 82 = .ok (.putfield 54, 3) := by decide +kernel
theorem d_J_init_85 : decode b_J_init 85 = .ok (.aload_n 0, 1) := by decide +kernel
theorem d_J_init_86 : decode b_J_init 86 = .ok (.getfield 40, 3) := by decide +kernel
theorem d_J_init_89 : decode b_J_init 89 = .ok (.iconst 5, 1) := by decide +kernel
theorem d_J_init_90 : decode b_J_init 90 = .ok (.iconst 1, 1) := by decide +kernel
theorem d_J_init_91 : decode b_J_init 91 = .ok (.bastore, 1) := by decide +kernel
theorem d_J_init_92 : decode b_J_init 92 = .ok (.aload_n 0, 1) := by decide +kernel
theorem d_J_init_93 : decode b_J_init 93 = .ok (.getfield 40, 3) := by decide +kernel
theorem d_J_init_96 : decode b_J_init 96 = .ok (.bipush 6, 2) := by decide +kernel
theorem d_J_init_98 : decode b_J_init 98 = .ok (.iconst 1, 1) := by decide +kernel
theorem d_J_init_99 : decode b_J_init 99 = .ok (.bastore, 1) := by decide +kernel
theorem d_J_init_100 : decode b_J_init 100 = .ok (.return_, 1) := by decide +kernel
theorem d_J_sensor_0 : decode b_J_sensor 0 = .ok (.aload_n 0, 1) := by decide +kernel
theorem d_J_sensor_1 : decode b_J_sensor 1 = .ok (.getfield 15, 3) := by decide +kernel
theorem d_J_sensor_4 : decode b_J_sensor 4 = .ok (.ifCond .ne 7, 3) := by decide +kernel
theorem d_J_sensor_7 : decode b_J_sensor 7 = .ok (.lconst 0, 1) := by decide +kernel
theorem d_J_sensor_8 : decode b_J_sensor 8 = .ok (.goto 17, 3) := by decide +kernel
theorem d_J_sensor_11 : decode b_J_sensor 11 = .ok (.aload_n 0, 1) := by decide +kernel
theorem d_J_sensor_12 : decode b_J_sensor 12 = .ok (.getfield 11, 3) := by decide +kernel
theorem d_J_sensor_15 : decode b_J_sensor 15 = .ok (.aload_n 0, 1) := by decide +kernel
theorem d_J_sensor_16 : decode b_J_sensor 16 = .ok (.getfield 15, 3) := by decide +kernel
theorem d_J_sensor_19 : decode b_J_sensor 19 = .ok (.iconst 1, 1) := by decide +kernel
theorem d_J_sensor_20 : decode b_J_sensor 20 = .ok (.isub, 1) := by decide +kernel
theorem d_J_sensor_21 : decode b_J_sensor 21 = .ok (.aaload, 1) := by decide +kernel
theorem d_J_sensor_22 : decode b_J_sensor 22 = .ok (.getfield 58, 3) := by decide +kernel
theorem d_J_sensor_25 : decode b_J_sensor 25 = .ok (.lstore_n 3, 1) := by decide +kernel
theorem d_J_sensor_26 : decode b_J_sensor 26 = .ok (.lload_n 1, 1) := by decide +kernel
theorem d_J_sensor_27 : decode b_J_sensor 27 = .ok (.lload_n 3, 1) := by decide +kernel
theorem d_J_sensor_28 : decode b_J_sensor 28 = .ok (.ldc2_w 61, 3) := by decide +kernel
theorem d_J_sensor_31 : decode b_J_sensor 31 = .ok (.ladd, 1) := by decide +kernel
theorem d_J_sensor_32 : decode b_J_sensor 32 = .ok (.lcmp, 1) := by decide +kernel
theorem d_J_sensor_33 : decode b_J_sensor 33 = .ok (.ifCond .lt 11, 3) := by decide +kernel
theorem d_J_sensor_36 : decode b_J_sensor 36 = .ok (.lload_n 1, 1) := by decide +kernel
theorem d_J_sensor_37 : decode b_J_sensor 37 = .ok (.ldc2_w 63, 3) := by decide +kernel
theorem d_J_sensor_40 : decode b_J_sensor 40 = .ok (.lcmp, 1) := by decide +kernel
theorem d_J_sensor_41 : decode b_J_sensor 41 = .ok (.ifCond .le 6, 3) := by decide +kernel
theorem d_J_sensor_44 : decode b_J_sensor 44 = .ok (.bipush (-12), 2) := by decide +kernel
theorem d_J_sensor_46 : decode b_J_sensor 46 = .ok (.ireturn, 1) := by decide +kernel
theorem d_J_sensor_47 : decode b_J_sensor 47 = .ok (.aload_n 0, 1) := by decide +kernel
theorem d_J_sensor_48 : decode b_J_sensor 48 = .ok (.getfield 25, 3) := by decide +kernel
theorem d_J_sensor_51 : decode b_J_sensor 51 = .ok (.ifCond .le 6, 3) := by decide +kernel
theorem d_J_sensor_54 : decode b_J_sensor 54 = .ok (.bipush (-13), 2) := by decide +kernel
theorem d_J_sensor_56 : decode b_J_sensor 56 = .ok (.ireturn, 1) := by decide +kernel
theorem d_J_sensor_57 : decode b_J_sensor 57 = .ok (.aload_n 0, 1) := by decide +kernel
theorem d_J_sensor_58 : decode b_J_sensor 58 = .ok (.getfield 15, 3) := by decide +kernel
theorem d_J_sensor_61 : decode b_J_sensor 61 = .ok (.bipush 8, 2) := by decide +kernel
theorem d_J_sensor_63 : decode b_J_sensor 63 = .ok (.if_icmp .lt 6, 3) := by decide +kernel
theorem d_J_sensor_66 : decode b_J_sensor 66 = .ok (.bipush (-14), 2) := by decide +kernel
theorem d_J_sensor_68 : decode b_J_sensor 68 = .ok (.ireturn, 1) := by decide +kernel
theorem d_J_sensor_69 : decode b_J_sensor 69 = .ok (.aload_n 0, 1) := by decide +kernel
theorem d_J_sensor_70 : decode b_J_sensor 70 = .ok (.getfield 11, 3) := by decide +kernel
theorem d_J_sensor_73 : decode b_J_sensor 73 = .ok (.aload_n 0, 1) := by decide +kernel
theorem d_J_sensor_74 : decode b_J_sensor 74 = .ok (.getfield 15, 3) := by decide +kernel
theorem d_J_sensor_77 : decode b_J_sensor 77 = .ok (.new 9, 3) := by decide +kernel
theorem d_J_sensor_80 : decode b_J_sensor 80 = .ok (.dup, 1) := by decide +kernel
theorem d_J_sensor_81 : decode b_J_sensor 81 = .ok (.lload_n 1, 1) := by decide +kernel
theorem d_J_sensor_82 : decode b_J_sensor 82 = .ok (.invokespecial 65, 3) := by decide +kernel
theorem d_J_sensor_85 : decode b_J_sensor 85 = .ok (.aastore, 1) := by decide +kernel
theorem d_J_sensor_86 : decode b_J_sensor 86 = .ok (.aload_n 0, 1) := by decide +kernel
theorem d_J_sensor_87 : decode b_J_sensor 87 = .ok (.dup, 1) := by decide +kernel
theorem d_J_sensor_88 : decode b_J_sensor 88 = .ok (.getfield 15, 3) := by decide +kernel
theorem d_J_sensor_91 : decode b_J_sensor 91 = .ok (.iconst 1, 1) := by decide +kernel
theorem d_J_sensor_92 : decode b_J_sensor 92 = .ok (.iadd, 1) := by decide +kernel
theorem d_J_sensor_93 : decode b_J_sensor 93 = .ok (.putfield 15, 3) := by decide +kernel
theorem d_J_sensor_96 : decode b_J_sensor 96 = .ok (.aload_n 0, 1) := by decide +kernel
theorem d_J_sensor_97 : decode b_J_sensor 97 = .ok (.getfield 15, 3) := by decide +kernel
theorem d_J_sensor_100 : decode b_J_sensor 100 = .ok (.iconst 1, 1) := by decide +kernel
theorem d_J_sensor_101 : decode b_J_sensor 101 = .ok (.isub, 1) := by decide +kernel
theorem d_J_sensor_102 : decode b_J_sensor 102 = .ok (.ireturn, 1) := by decide +kernel
theorem d_J_item_0 : decode b_J_item 0 = .ok (.lload_n 1, 1) := by decide +kernel
theorem d_J_item_1 : decode b_J_item 1 = .ok (.ldc2_w 68, 3) := by decide +kernel
theorem d_J_item_4 : decode b_J_item 4 = .ok (.lcmp, 1) := by decide +kernel
theorem d_J_item_5 : decode b_J_item 5 = .ok (.ifCond .lt 28, 3) := by decide +kernel
theorem d_J_item_8 : decode b_J_item 8 = .ok (.lload_n 1, 1) := by decide +kernel
theorem d_J_item_9 : decode b_J_item 9 = .ok (.ldc2_w 70, 3) := by decide +kernel
theorem d_J_item_12 : decode b_J_item 12 = .ok (.lcmp, 1) := by decide +kernel
theorem d_J_item_13 : decode b_J_item 13 = .ok (.ifCond .gt 20, 3) := by decide +kernel
theorem d_J_item_16 : decode b_J_item 16 = .ok (.aload_n 0, 1) := by decide +kernel
theorem d_J_item_17 : decode b_J_item 17 = .ok (.lload_n 3, 1) := by decide +kernel
theorem d_J_item_18 : decode b_J_item 18 = .ok (.invokevirtual 72, 3) := by decide +kernel
theorem d_J_item_21 : decode b_J_item 21 = .ok (.ifCond .eq 12, 3) := by decide +kernel
theorem d_J_item_24 : decode b_J_item 24 = .ok (.lload_n 3, 1) := by decide +kernel
theorem d_J_item_25 : decode b_J_item 25 = .ok (.aload_n 0, 1) := by decide +kernel
theorem d_J_item_26 : decode b_J_item 26 = .ok (.invokevirtual 76, 3) := by decide +kernel
theorem d_J_item_29 : decode b_J_item 29 = .ok (.lcmp, 1) := by decide +kernel
theorem d_J_item_30 : decode b_J_item 30 = .ok (.ifCond .ge 6, 3) := by decide +kernel
theorem d_J_item_33 : decode b_J_item 33 = .ok (.bipush (-12), 2) := by decide +kernel
theorem d_J_item_35 : decode b_J_item 35 = .ok (.ireturn, 1) := by decide +kernel
theorem d_J_item_36 : decode b_J_item 36 = .ok (.aload_n 0, 1) := by decide +kernel
theorem d_J_item_37 : decode b_J_item 37 = .ok (.invokevirtual 80, 3) := by decide +kernel
theorem d_J_item_40 : decode b_J_item 40 = .ok (.ifCond .eq 10, 3) := by decide +kernel
theorem d_J_item_43 : decode b_J_item 43 = .ok (.aload_n 0, 1) := by decide +kernel
theorem d_J_item_44 : decode b_J_item 44 = .ok (.getfield 15, 3) := by decide +kernel
theorem d_J_item_47 : decode b_J_item 47 = .ok (.ifCond .ne 6, 3) := by decide +kernel
theorem d_J_item_50 : decode b_J_item 50 = .ok (.bipush (-13), 2) := by decide +kernel
theorem d_J_item_52 : decode b_J_item 52 = .ok (.ireturn, 1) := by decide +kernel
theorem d_J_item_53 : decode b_J_item 53 = .ok (.aload_n 0, 1) := by decide +kernel
theorem d_J_item_54 : decode b_J_item 54 = .ok (.getfield 25, 3) := by decide +kernel
theorem d_J_item_57 : decode b_J_item 57 = .ok (.bipush 60, 2) := by decide +kernel
theorem d_J_item_59 : decode b_J_item 59 = .ok (.if_icmp .lt 6, 3) := by decide +kernel
theorem d_J_item_62 : decode b_J_item 62 = .ok (.bipush (-14), 2) := by decide +kernel
theorem d_J_item_64 : decode b_J_item 64 = .ok (.ireturn, 1) := by decide +kernel
theorem d_J_item_65 : decode b_J_item 65 = .ok (.aload_n 0, 1) := by decide +kernel
theorem d_J_item_66 : decode b_J_item 66 = .ok (.dup, 1) := by decide +kernel
theorem d_J_item_67 : decode b_J_item 67 = .ok (.getfield 25, 3) := by decide +kernel
theorem d_J_item_70 : decode b_J_item 70 = .ok (.iconst 1, 1) := by decide +kernel
theorem d_J_item_71 : decode b_J_item 71 = .ok (.iadd, 1) := by decide +kernel
theorem d_J_item_72 : decode b_J_item 72 = .ok (.putfield 25, 3) := by decide +kernel
theorem d_J_item_75 : decode b_J_item 75 = .ok (.aload_n 0, 1) := by decide +kernel
theorem d_J_item_76 : decode b_J_item 76 = .ok (.getfield 21, 3) := by decide +kernel
theorem d_J_item_79 : decode b_J_item 79 = .ok (.aload_n 0, 1) := by decide +kernel
theorem d_J_item_80 : decode b_J_item 80 = .ok (.getfield 25, 3) := by decide +kernel
theorem d_J_item_83 : decode b_J_item 83 = .ok (.new 19, 3) := by decide +kernel
theorem d_J_item_86 : decode b_J_item 86 = .ok (.dup, 1) := by decide +kernel
theorem d_J_item_87 : decode b_J_item 87 = .ok (.lload_n 1, 1) := by decide +kernel
theorem d_J_item_88 : decode b_J_item 88 = .ok (.lload_n 3, 1) := by decide +kernel
theorem d_J_item_89 : decode b_J_item 89 = .ok (.invokespecial 84, 3) := by decide +kernel
theorem d_J_item_92 : decode b_J_item 92 = .ok (.aastore, 1) := by decide +kernel
theorem d_J_item_93 : decode b_J_item 93 = .ok (.aload_n 0, 1) := by decide +kernel
theorem d_J_item_94 : decode b_J_item 94 = .ok (.getfield 25, 3) := by decide +kernel
theorem d_J_item_97 : decode b_J_item 97 = .ok (.ireturn, 1) := by decide +kernel
theorem d_J_edge_0 : decode b_J_edge 0 = .ok (.aload_n 0, 1) := by decide +kernel
theorem d_J_edge_1 : decode b_J_edge 1 = .ok (.iload_n 1, 1) := by decide +kernel
theorem d_J_edge_2 : decode b_J_edge 2 = .ok (.invokevirtual 87, 3) := by decide +kernel
theorem d_J_edge_5 : decode b_J_edge 5 = .ok (.ifCond .ne 6, 3) := by decide +kernel
theorem d_J_edge_8 : decode b_J_edge 8 = .ok (.bipush (-11), 2) := by decide +kernel
theorem d_J_edge_10 : decode b_J_edge 10 = .ok (.ireturn, 1) := by decide +kernel
theorem d_J_edge_11 : decode b_J_edge 11 = .ok (.aload_n 0, 1) := by decide +kernel
theorem d_J_edge_12 : decode b_J_edge 12 = .ok (.lload_n 3, 1) := by decide +kernel
theorem d_J_edge_13 : decode b_J_edge 13 = .ok (.invokevirtual 72, 3) := by decide +kernel
theorem d_J_edge_16 : decode b_J_edge 16 = .ok (.ifCond .ne 6, 3) := by decide +kernel
theorem d_J_edge_19 : decode b_J_edge 19 = .ok (.bipush (-12), 2) := by decide +kernel
theorem d_J_edge_21 : decode b_J_edge 21 = .ok (.ireturn, 1) := by decide +kernel
theorem d_J_edge_22 : decode b_J_edge 22 = .ok (.aload_n 0, 1) := by decide +kernel
theorem d_J_edge_23 : decode b_J_edge 23 = .ok (.invokevirtual 80, 3) := by decide +kernel
theorem d_J_edge_26 : decode b_J_edge 26 = .ok (.ifCond .eq 16, 3) := by decide +kernel
theorem d_J_edge_29 : decode b_J_edge 29 = .ok (.aload_n 0, 1) := by decide +kernel
theorem d_J_edge_30 : decode b_J_edge 30 = .ok (.getfield 11, 3) := by decide +kernel
theorem d_J_edge_33 : decode b_J_edge 33 = .ok (.iload_n 1, 1) := by decide +kernel
theorem d_J_edge_34 : decode b_J_edge 34 = .ok (.aaload, 1) := by decide +kernel
theorem d_J_edge_35 : decode b_J_edge 35 = .ok (.getfield 91, 3) := by decide +kernel
theorem d_J_edge_38 : decode b_J_edge 38 = .ok (.iload_n 2, 1) := by decide +kernel
theorem d_J_edge_39 : decode b_J_edge 39 = .ok (.if_icmp .ne 6, 3) := by decide +kernel
theorem d_J_edge_42 : decode b_J_edge 42 = .ok (.bipush (-13), 2) := by decide +kernel
theorem d_J_edge_44 : decode b_J_edge 44 = .ok (.ireturn, 1) := by decide +kernel
theorem d_J_edge_45 : decode b_J_edge 45 = .ok (.aload_n 0, 1) := by decide +kernel
theorem d_J_edge_46 : decode b_J_edge 46 = .ok (.lload_n 3, 1) := by decide +kernel
theorem d_J_edge_47 : decode b_J_edge 47 = .ok (.putfield 54, 3) := by decide +kernel
theorem d_J_edge_50 : decode b_J_edge 50 = .ok (.aload_n 0, 1) := by decide +kernel
theorem d_J_edge_51 : decode b_J_edge 51 = .ok (.getfield 34, 3) := by decide +kernel
theorem d_J_edge_54 : decode b_J_edge 54 = .ok (.istore 5, 2) := by decide +kernel
theorem d_J_edge_56 : decode b_J_edge 56 = .ok (.aload_n 0, 1) := by decide +kernel
theorem d_J_edge_57 : decode b_J_edge 57 = .ok (.invokevirtual 95, 3) := by decide +kernel
theorem d_J_edge_60 : decode b_J_edge 60 = .ok (.aload_n 0, 1) := by decide +kernel
theorem d_J_edge_61 : decode b_J_edge 61 = .ok (.invokevirtual 80, 3) := by decide +kernel
theorem d_J_edge_64 : decode b_J_edge 64 = .ok (.ifCond .eq 20, 3) := by decide +kernel
theorem d_J_edge_67 : decode b_J_edge 67 = .ok (.iload_n 2, 1) := by decide +kernel
theorem d_J_edge_68 : decode b_J_edge 68 = .ok (.ifCond .eq 11, 3) := by decide +kernel
theorem d_J_edge_71 : decode b_J_edge 71 = .ok (.aload_n 0, 1) := by decide +kernel
theorem d_J_edge_72 : decode b_J_edge 72 = .ok (.iload_n 1, 1) := by decide +kernel
theorem d_J_edge_73 : decode b_J_edge 73 = .ok (.invokevirtual 98, 3) := by decide +kernel
theorem d_J_edge_76 : decode b_J_edge 76 = .ok (.goto 8, 3) := by decide +kernel
theorem d_J_edge_79 : decode b_J_edge 79 = .ok (.aload_n 0, 1) := by decide +kernel
theorem d_J_edge_80 : decode b_J_edge 80 = .ok (.iload_n 1, 1) := by decide +kernel
theorem d_J_edge_81 : decode b_J_edge 81 = .ok (.invokevirtual 102, 3) := by decide +kernel
theorem d_J_edge_84 : decode b_J_edge 84 = .ok (.aload_n 0, 1) := by decide +kernel
theorem d_J_edge_85 : decode b_J_edge 85 = .ok (.getfield 34, 3) := by decide +kernel
theorem d_J_edge_88 : decode b_J_edge 88 = .ok (.iload 5, 2) := by decide +kernel
theorem d_J_edge_90 : decode b_J_edge 90 = .ok (.if_icmp .le 10, 3) := by decide +kernel
theorem d_J_edge_93 : decode b_J_edge 93 = .ok (.iload 5, 2) := by decide +kernel
theorem d_J_edge_95 : decode b_J_edge 95 = .ok (.iconst 1, 1) := by decide +kernel
theorem d_J_edge_96 : decode b_J_edge 96 = .ok (.iadd, 1) := by decide +kernel
theorem d_J_edge_97 : decode b_J_edge 97 = .ok (.goto 4, 3) := by decide +kernel
theorem d_J_edge_100 : decode b_J_edge 100 = .ok (.iconst 0, 1) := by decide +kernel
theorem d_J_edge_101 : decode b_J_edge 101 = .ok (.ireturn, 1) := by decide +kernel
theorem d_J_doubt_0 : decode b_J_doubt 0 = .ok (.aload_n 0, 1) := by decide +kernel
theorem d_J_doubt_1 : decode b_J_doubt 1 = .ok (.iload_n 1, 1) := by decide +kernel
theorem d_J_doubt_2 : decode b_J_doubt 2 = .ok (.invokevirtual 105, 3) := by decide +kernel
theorem d_J_doubt_5 : decode b_J_doubt 5 = .ok (.ifCond .ne 6, 3) := by decide +kernel
theorem d_J_doubt_8 : decode b_J_doubt 8 = .ok (.bipush (-11), 2) := by decide +kernel
theorem d_J_doubt_10 : decode b_J_doubt 10 = .ok (.ireturn, 1) := by decide +kernel
theorem d_J_doubt_11 : decode b_J_doubt 11 = .ok (.iload_n 2, 1) := by decide +kernel
theorem d_J_doubt_12 : decode b_J_doubt 12 = .ok (.ifCond .ge 5, 3) := by decide +kernel
theorem d_J_doubt_15 : decode b_J_doubt 15 = .ok (.iconst (-1), 1) := by decide +kernel
theorem d_J_doubt_16 : decode b_J_doubt 16 = .ok (.ireturn, 1) := by decide +kernel
theorem d_J_doubt_17 : decode b_J_doubt 17 = .ok (.iload_n 2, 1) := by decide +kernel
theorem d_J_doubt_18 : decode b_J_doubt 18 = .ok (.istore_n 3, 1) := by decide +kernel
theorem d_J_doubt_19 : decode b_J_doubt 19 = .ok (.iconst 1, 1) := by decide +kernel
theorem d_J_doubt_20 : decode b_J_doubt 20 = .ok (.istore 4, 2) := by decide +kernel
theorem d_J_doubt_22 : decode b_J_doubt 22 = .ok (.iload 4, 2) := by decide +kernel
theorem d_J_doubt_24 : decode b_J_doubt 24 = .ok (.aload_n 0, 1) := by decide +kernel
theorem d_J_doubt_25 : decode b_J_doubt 25 = .ok (.getfield 25, 3) := by decide +kernel
theorem d_J_doubt_28 : decode b_J_doubt 28 = .ok (.if_icmp .gt 33, 3) := by decide +kernel
theorem d_J_doubt_31 : decode b_J_doubt 31 = .ok (.aload_n 0, 1) := by decide +kernel
theorem d_J_doubt_32 : decode b_J_doubt 32 = .ok (.getfield 30, 3) := by decide +kernel
theorem d_J_doubt_35 : decode b_J_doubt 35 = .ok (.iload_n 1, 1) := by decide +kernel
theorem d_J_doubt_36 : decode b_J_doubt 36 = .ok (.aaload, 1) := by decide +kernel
theorem d_J_doubt_37 : decode b_J_doubt 37 = .ok (.iload 4, 2) := by decide +kernel
theorem d_J_doubt_39 : decode b_J_doubt 39 = .ok (.invokevirtual 108, 3) := by decide +kernel
theorem d_J_doubt_42 : decode b_J_doubt 42 = .ok (.ifCond .eq 13, 3) := by decide +kernel
theorem d_J_doubt_45 : decode b_J_doubt 45 = .ok (.iload_n 3, 1) := by decide +kernel
theorem d_J_doubt_46 : decode b_J_doubt 46 = .ok (.ifCond .ne 6, 3) := by decide +kernel
theorem d_J_doubt_49 : decode b_J_doubt 49 = .ok (.iload 4, 2) := by decide +kernel
theorem d_J_doubt_51 : decode b_J_doubt 51 = .ok (.ireturn, 1) := by decide +kernel
theorem d_J_doubt_52 : decode b_J_doubt 52 = .ok (.iinc 3 (-1), 3) := by decide +kernel
theorem d_J_doubt_55 : decode b_J_doubt 55 = .ok (.iinc 4 1, 3) := by decide +kernel
theorem d_J_doubt_58 : decode b_J_doubt 58 = .ok (.goto (-36), 3) := by decide +kernel
theorem d_J_doubt_61 : decode b_J_doubt 61 = .ok (.iconst (-1), 1) := by decide +kernel
theorem d_J_doubt_62 : decode b_J_doubt 62 = .ok (.ireturn, 1) := by decide +kernel
theorem d_J_cause_0 : decode b_J_cause 0 = .ok (.aload_n 0, 1) := by decide +kernel
theorem d_J_cause_1 : decode b_J_cause 1 = .ok (.iload_n 1, 1) := by decide +kernel
theorem d_J_cause_2 : decode b_J_cause 2 = .ok (.invokevirtual 105, 3) := by decide +kernel
theorem d_J_cause_5 : decode b_J_cause 5 = .ok (.ifCond .ne 6, 3) := by decide +kernel
theorem d_J_cause_8 : decode b_J_cause 8 = .ok (.bipush (-11), 2) := by decide +kernel
theorem d_J_cause_10 : decode b_J_cause 10 = .ok (.ireturn, 1) := by decide +kernel
theorem d_J_cause_11 : decode b_J_cause 11 = .ok (.aload_n 0, 1) := by decide +kernel
theorem d_J_cause_12 : decode b_J_cause 12 = .ok (.getfield 30, 3) := by decide +kernel
theorem d_J_cause_15 : decode b_J_cause 15 = .ok (.iload_n 1, 1) := by decide +kernel
theorem d_J_cause_16 : decode b_J_cause 16 = .ok (.aaload, 1) := by decide +kernel
theorem d_J_cause_17 : decode b_J_cause 17 = .ok (.astore_n 2, 1) := by decide +kernel
theorem d_J_cause_18 : decode b_J_cause 18 = .ok (.aload_n 2, 1) := by decide +kernel
theorem d_J_cause_19 : decode b_J_cause 19 = .ok (.getfield 111, 3) := by decide +kernel
theorem d_J_cause_22 : decode b_J_cause 22 = .ok (.iconst (-1), 1) := by decide +kernel
theorem d_J_cause_23 : decode b_J_cause 23 = .ok (.if_icmp .ne 20, 3) := by decide +kernel
theorem d_J_cause_26 : decode b_J_cause 26 = .ok (.aload_n 2, 1) := by decide +kernel
theorem d_J_cause_27 : decode b_J_cause 27 = .ok (.getfield 114, 3) := by decide +kernel
theorem d_J_cause_30 : decode b_J_cause 30 = .ok (.bipush 6, 2) := by decide +kernel
theorem d_J_cause_32 : decode b_J_cause 32 = .ok (.if_icmp .eq 11, 3) := by decide +kernel
theorem d_J_cause_35 : decode b_J_cause 35 = .ok (.bipush 90, 2) := by decide +kernel
theorem d_J_cause_37 : decode b_J_cause 37 = .ok (.aload_n 2, 1) := by decide +kernel
theorem d_J_cause_38 : decode b_J_cause 38 = .ok (.getfield 114, 3) := by decide +kernel
theorem d_J_cause_41 : decode b_J_cause 41 = .ok (.iadd, 1) := by decide +kernel
theorem d_J_cause_42 : decode b_J_cause 42 = .ok (.ireturn, 1) := by decide +kernel
theorem d_J_cause_43 : decode b_J_cause 43 = .ok (.bipush 10, 2) := by decide +kernel
theorem d_J_cause_45 : decode b_J_cause 45 = .ok (.aload_n 2, 1) := by decide +kernel
theorem d_J_cause_46 : decode b_J_cause 46 = .ok (.getfield 114, 3) := by decide +kernel
theorem d_J_cause_49 : decode b_J_cause 49 = .ok (.imul, 1) := by decide +kernel
theorem d_J_cause_50 : decode b_J_cause 50 = .ok (.istore_n 3, 1) := by decide +kernel
theorem d_J_cause_51 : decode b_J_cause 51 = .ok (.aload_n 2, 1) := by decide +kernel
theorem d_J_cause_52 : decode b_J_cause 52 = .ok (.getfield 117, 3) := by decide +kernel
theorem d_J_cause_55 : decode b_J_cause 55 = .ok (.ifCond .eq 7, 3) := by decide +kernel
theorem d_J_cause_58 : decode b_J_cause 58 = .ok (.iload_n 3, 1) := by decide +kernel
theorem d_J_cause_59 : decode b_J_cause 59 = .ok (.iconst 2, 1) := by decide +kernel
theorem d_J_cause_60 : decode b_J_cause 60 = .ok (.iadd, 1) := by decide +kernel
theorem d_J_cause_61 : decode b_J_cause 61 = .ok (.ireturn, 1) := by decide +kernel
theorem d_J_cause_62 : decode b_J_cause 62 = .ok (.aload_n 0, 1) := by decide +kernel
theorem d_J_cause_63 : decode b_J_cause 63 = .ok (.iload_n 1, 1) := by decide +kernel
theorem d_J_cause_64 : decode b_J_cause 64 = .ok (.invokevirtual 120, 3) := by decide +kernel
theorem d_J_cause_67 : decode b_J_cause 67 = .ok (.ifCond .eq 9, 3) := by decide +kernel
theorem d_J_cause_70 : decode b_J_cause 70 = .ok (.iload_n 3, 1) := by decide +kernel
theorem d_J_cause_71 : decode b_J_cause 71 = .ok (.iconst 1, 1) := by decide +kernel
theorem d_J_cause_72 : decode b_J_cause 72 = .ok (.iadd, 1) := by decide +kernel
theorem d_J_cause_73 : decode b_J_cause 73 = .ok (.goto 4, 3) := by decide +kernel
theorem d_J_cause_76 : decode b_J_cause 76 = .ok (.iload_n 3, 1) := by decide +kernel
theorem d_J_cause_77 : decode b_J_cause 77 = .ok (.ireturn, 1) := by decide +kernel
theorem d_J_step_0 : decode b_J_step 0 = .ok (.aload_n 0, 1) := by decide +kernel
theorem d_J_step_1 : decode b_J_step 1 = .ok (.iload_n 1, 1) := by decide +kernel
theorem d_J_step_2 : decode b_J_step 2 = .ok (.invokevirtual 105, 3) := by decide +kernel
theorem d_J_step_5 : decode b_J_step 5 = .ok (.ifCond .ne 6, 3) := by decide +kernel
theorem d_J_step_8 : decode b_J_step 8 = .ok (.bipush (-11), 2) := by decide +kernel
theorem d_J_step_10 : decode b_J_step 10 = .ok (.ireturn, 1) := by decide +kernel
theorem d_J_step_11 : decode b_J_step 11 = .ok (.iload_n 2, 1) := by decide +kernel
theorem d_J_step_12 : decode b_J_step 12 = .ok (.iconst 1, 1) := by decide +kernel
theorem d_J_step_13 : decode b_J_step 13 = .ok (.if_icmp .lt 8, 3) := by decide +kernel
theorem d_J_step_16 : decode b_J_step 16 = .ok (.iload_n 2, 1) := by decide +kernel
theorem d_J_step_17 : decode b_J_step 17 = .ok (.iconst 5, 1) := by decide +kernel
theorem d_J_step_18 : decode b_J_step 18 = .ok (.if_icmp .le 6, 3) := by decide +kernel
theorem d_J_step_21 : decode b_J_step 21 = .ok (.bipush (-12), 2) := by decide +kernel
theorem d_J_step_23 : decode b_J_step 23 = .ok (.ireturn, 1) := by decide +kernel
theorem d_J_step_24 : decode b_J_step 24 = .ok (.iload_n 1, 1) := by decide +kernel
theorem d_J_step_25 : decode b_J_step 25 = .ok (.aload_n 0, 1) := by decide +kernel
theorem d_J_step_26 : decode b_J_step 26 = .ok (.getfield 37, 3) := by decide +kernel
theorem d_J_step_29 : decode b_J_step 29 = .ok (.iconst 1, 1) := by decide +kernel
theorem d_J_step_30 : decode b_J_step 30 = .ok (.iadd, 1) := by decide +kernel
theorem d_J_step_31 : decode b_J_step 31 = .ok (.if_icmp .eq 6, 3) := by decide +kernel
theorem d_J_step_34 : decode b_J_step 34 = .ok (.bipush (-13), 2) := by decide +kernel
theorem d_J_step_36 : decode b_J_step 36 = .ok (.ireturn, 1) := by decide +kernel
theorem d_J_step_37 : decode b_J_step 37 = .ok (.aload_n 0, 1) := by decide +kernel
theorem d_J_step_38 : decode b_J_step 38 = .ok (.getfield 30, 3) := by decide +kernel
theorem d_J_step_41 : decode b_J_step 41 = .ok (.iload_n 1, 1) := by decide +kernel
theorem d_J_step_42 : decode b_J_step 42 = .ok (.aaload, 1) := by decide +kernel
theorem d_J_step_43 : decode b_J_step 43 = .ok (.astore_n 3, 1) := by decide +kernel
theorem d_J_step_44 : decode b_J_step 44 = .ok (.aload_n 3, 1) := by decide +kernel
theorem d_J_step_45 : decode b_J_step 45 = .ok (.invokestatic 123, 3) := by decide +kernel
theorem d_J_step_48 : decode b_J_step 48 = .ok (.iload_n 2, 1) := by decide +kernel
theorem d_J_step_49 : decode b_J_step 49 = .ok (.if_icmp .eq 5, 3) := by decide +kernel
theorem d_J_step_52 : decode b_J_step 52 = .ok (.iconst 0, 1) := by decide +kernel
theorem d_J_step_53 : decode b_J_step 53 = .ok (.ireturn, 1) := by decide +kernel
theorem d_J_step_54 : decode b_J_step 54 = .ok (.aload_n 3, 1) := by decide +kernel
theorem d_J_step_55 : decode b_J_step 55 = .ok (.dup, 1) := by decide +kernel
theorem d_J_step_56 : decode b_J_step 56 = .ok (.getfield 127, 3) := by decide +kernel
theorem d_J_step_59 : decode b_J_step 59 = .ok (.iconst 1, 1) := by decide +kernel
theorem d_J_step_60 : decode b_J_step 60 = .ok (.iadd, 1) := by decide +kernel
theorem d_J_step_61 : decode b_J_step 61 = .ok (.putfield 127, 3) := by decide +kernel
theorem d_J_step_64 : decode b_J_step 64 = .ok (.iload_n 2, 1) := by decide +kernel
theorem d_J_step_65 : decode b_J_step 65 = .ok (.iconst 5, 1) := by decide +kernel
theorem d_J_step_66 : decode b_J_step 66 = .ok (.if_icmp .ne 7, 3) := by decide +kernel
theorem d_J_step_69 : decode b_J_step 69 = .ok (.aload_n 0, 1) := by decide +kernel
theorem d_J_step_70 : decode b_J_step 70 = .ok (.invokevirtual 130, 3) := by decide +kernel
theorem d_J_step_73 : decode b_J_step 73 = .ok (.aload_n 3, 1) := by decide +kernel
theorem d_J_step_74 : decode b_J_step 74 = .ok (.invokestatic 123, 3) := by decide +kernel
theorem d_J_step_77 : decode b_J_step 77 = .ok (.ifCond .ne 8, 3) := by decide +kernel
theorem d_J_step_80 : decode b_J_step 80 = .ok (.aload_n 0, 1) := by decide +kernel
theorem d_J_step_81 : decode b_J_step 81 = .ok (.iload_n 1, 1) := by decide +kernel
theorem d_J_step_82 : decode b_J_step 82 = .ok (.invokevirtual 133, 3) := by decide +kernel
theorem d_J_step_85 : decode b_J_step 85 = .ok (.iconst 1, 1) := by decide +kernel
theorem d_J_step_86 : decode b_J_step 86 = .ok (.ireturn, 1) := by decide +kernel
theorem d_J_feed_0 : decode b_J_feed 0 = .ok (.aload_n 0, 1) := by decide +kernel
theorem d_J_feed_1 : decode b_J_feed 1 = .ok (.iload_n 1, 1) := by decide +kernel
theorem d_J_feed_2 : decode b_J_feed 2 = .ok (.invokevirtual 136, 3) := by decide +kernel
theorem d_J_feed_5 : decode b_J_feed 5 = .ok (.ifCond .ne 6, 3) := by decide +kernel
theorem d_J_feed_8 : decode b_J_feed 8 = .ok (.bipush (-11), 2) := by decide +kernel
theorem d_J_feed_10 : decode b_J_feed 10 = .ok (.ireturn, 1) := by decide +kernel
theorem d_J_feed_11 : decode b_J_feed 11 = .ok (.aload_n 0, 1) := by decide +kernel
theorem d_J_feed_12 : decode b_J_feed 12 = .ok (.getfield 21, 3) := by decide +kernel
theorem d_J_feed_15 : decode b_J_feed 15 = .ok (.iload_n 1, 1) := by decide +kernel
theorem d_J_feed_16 : decode b_J_feed 16 = .ok (.aaload, 1) := by decide +kernel
theorem d_J_feed_17 : decode b_J_feed 17 = .ok (.astore_n 2, 1) := by decide +kernel
theorem d_J_feed_18 : decode b_J_feed 18 = .ok (.aload_n 2, 1) := by decide +kernel
theorem d_J_feed_19 : decode b_J_feed 19 = .ok (.getfield 139, 3) := by decide +kernel
theorem d_J_feed_22 : decode b_J_feed 22 = .ok (.ifCond .eq 5, 3) := by decide +kernel
theorem d_J_feed_25 : decode b_J_feed 25 = .ok (.iconst 0, 1) := by decide +kernel
theorem d_J_feed_26 : decode b_J_feed 26 = .ok (.ireturn, 1) := by decide +kernel
theorem d_J_feed_27 : decode b_J_feed 27 = .ok (.aload_n 2, 1) := by decide +kernel
theorem d_J_feed_28 : decode b_J_feed 28 = .ok (.getfield 142, 3) := by decide +kernel
theorem d_J_feed_31 : decode b_J_feed 31 = .ok (.ifCond .ne 6, 3) := by decide +kernel
theorem d_J_feed_34 : decode b_J_feed 34 = .ok (.bipush (-13), 2) := by decide +kernel
theorem d_J_feed_36 : decode b_J_feed 36 = .ok (.ireturn, 1) := by decide +kernel
theorem d_J_feed_37 : decode b_J_feed 37 = .ok (.aload_n 2, 1) := by decide +kernel
theorem d_J_feed_38 : decode b_J_feed 38 = .ok (.iconst 1, 1) := by decide +kernel
theorem d_J_feed_39 : decode b_J_feed 39 = .ok (.putfield 139, 3) := by decide +kernel
theorem d_J_feed_42 : decode b_J_feed 42 = .ok (.aload_n 0, 1) := by decide +kernel
theorem d_J_feed_43 : decode b_J_feed 43 = .ok (.iload_n 1, 1) := by decide +kernel
theorem d_J_feed_44 : decode b_J_feed 44 = .ok (.invokevirtual 145, 3) := by decide +kernel
theorem d_J_feed_47 : decode b_J_feed 47 = .ok (.iconst 1, 1) := by decide +kernel
theorem d_J_feed_48 : decode b_J_feed 48 = .ok (.ireturn, 1) := by decide +kernel
theorem d_J_listed_0 : decode b_J_listed 0 = .ok (.iload_n 1, 1) := by decide +kernel
theorem d_J_listed_1 : decode b_J_listed 1 = .ok (.ifCond .lt 20, 3) := by decide +kernel
theorem d_J_listed_4 : decode b_J_listed 4 = .ok (.iload_n 1, 1) := by decide +kernel
theorem d_J_listed_5 : decode b_J_listed 5 = .ok (.aload_n 0, 1) := by decide +kernel
theorem d_J_listed_6 : decode b_J_listed 6 = .ok (.getfield 51, 3) := by decide +kernel
theorem d_J_listed_9 : decode b_J_listed 9 = .ok (.if_icmp .ge 12, 3) := by decide +kernel
theorem d_J_listed_12 : decode b_J_listed 12 = .ok (.aload_n 0, 1) := by decide +kernel
theorem d_J_listed_13 : decode b_J_listed 13 = .ok (.getfield 47, 3) := by decide +kernel
theorem d_J_listed_16 : decode b_J_listed 16 = .ok (.iload_n 1, 1) := by decide +kernel
theorem d_J_listed_17 : decode b_J_listed 17 = .ok (.iaload, 1) := by decide +kernel
theorem d_J_listed_18 : decode b_J_listed 18 = .ok (.goto 4, 3) := by decide +kernel
theorem d_J_listed_21 : decode b_J_listed 21 = .ok (.iconst (-1), 1) := by decide +kernel
theorem d_J_listed_22 : decode b_J_listed 22 = .ok (.ireturn, 1) := by decide +kernel
theorem d_J_rule_0 : decode b_J_rule 0 = .ok (.iload_n 1, 1) := by decide +kernel
theorem d_J_rule_1 : decode b_J_rule 1 = .ok (.invokestatic 148, 3) := by decide +kernel
theorem d_J_rule_4 : decode b_J_rule 4 = .ok (.ifCond .eq 12, 3) := by decide +kernel
theorem d_J_rule_7 : decode b_J_rule 7 = .ok (.iload_n 2, 1) := by decide +kernel
theorem d_J_rule_8 : decode b_J_rule 8 = .ok (.ifCond .lt 8, 3) := by decide +kernel
theorem d_J_rule_11 : decode b_J_rule 11 = .ok (.iload_n 2, 1) := by decide +kernel
theorem d_J_rule_12 : decode b_J_rule 12 = .ok (.iconst 1, 1) := by decide +kernel
theorem d_J_rule_13 : decode b_J_rule 13 = .ok (.if_icmp .le 6, 3) := by decide +kernel
theorem d_J_rule_16 : decode b_J_rule 16 = .ok (.bipush (-12), 2) := by decide +kernel
theorem d_J_rule_18 : decode b_J_rule 18 = .ok (.ireturn, 1) := by decide +kernel
theorem d_J_rule_19 : decode b_J_rule 19 = .ok (.aload_n 0, 1) := by decide +kernel
theorem d_J_rule_20 : decode b_J_rule 20 = .ok (.getfield 40, 3) := by decide +kernel
theorem d_J_rule_23 : decode b_J_rule 23 = .ok (.iload_n 1, 1) := by decide +kernel
theorem d_J_rule_24 : decode b_J_rule 24 = .ok (.baload, 1) := by decide +kernel
theorem d_J_rule_25 : decode b_J_rule 25 = .ok (.ifCond .eq 7, 3) := by decide +kernel
theorem d_J_rule_28 : decode b_J_rule 28 = .ok (.iconst 1, 1) := by decide +kernel
theorem d_J_rule_29 : decode b_J_rule 29 = .ok (.goto 4, 3) := by decide +kernel
theorem d_J_rule_32 : decode b_J_rule 32 = .ok (.iconst 0, 1) := by decide +kernel
theorem d_J_rule_33 : decode b_J_rule 33 = .ok (.istore 4, 2) := by decide +kernel
theorem d_J_rule_35 : decode b_J_rule 35 = .ok (.aload_n 0, 1) := by decide +kernel
theorem d_J_rule_36 : decode b_J_rule 36 = .ok (.getfield 40, 3) := by decide +kernel
theorem d_J_rule_39 : decode b_J_rule 39 = .ok (.iload_n 1, 1) := by decide +kernel
theorem d_J_rule_40 : decode b_J_rule 40 = .ok (.iload_n 2, 1) := by decide +kernel
theorem d_J_rule_41 : decode b_J_rule 41 = .ok (.iconst 1, 1) := by decide +kernel
theorem d_J_rule_42 : decode b_J_rule 42 = .ok (.if_icmp .ne 7, 3) := by decide +kernel
theorem d_J_rule_45 : decode b_J_rule 45 = .ok (.iconst 1, 1) := by decide +kernel
theorem d_J_rule_46 : decode b_J_rule 46 = .ok (.goto 4, 3) := by decide +kernel
theorem d_J_rule_49 : decode b_J_rule 49 = .ok (.iconst 0, 1) := by decide +kernel
theorem d_J_rule_50 : decode b_J_rule 50 = .ok (.bastore, 1) := by decide +kernel
theorem d_J_rule_51 : decode b_J_rule 51 = .ok (.aload_n 0, 1) := by decide +kernel
theorem d_J_rule_52 : decode b_J_rule 52 = .ok (.getfield 44, 3) := by decide +kernel
theorem d_J_rule_55 : decode b_J_rule 55 = .ok (.iload_n 1, 1) := by decide +kernel
theorem d_J_rule_56 : decode b_J_rule 56 = .ok (.iload_n 3, 1) := by decide +kernel
theorem d_J_rule_57 : decode b_J_rule 57 = .ok (.bastore, 1) := by decide +kernel
theorem d_J_rule_58 : decode b_J_rule 58 = .ok (.iload 4, 2) := by decide +kernel
theorem d_J_rule_60 : decode b_J_rule 60 = .ok (.ireturn, 1) := by decide +kernel
theorem d_J_plant_0 : decode b_J_plant 0 = .ok (.iload_n 1, 1) := by decide +kernel
theorem d_J_plant_1 : decode b_J_plant 1 = .ok (.invokestatic 148, 3) := by decide +kernel
theorem d_J_plant_4 : decode b_J_plant 4 = .ok (.ifCond .eq 11, 3) := by decide +kernel
theorem d_J_plant_7 : decode b_J_plant 7 = .ok (.aload_n 0, 1) := by decide +kernel
theorem d_J_plant_8 : decode b_J_plant 8 = .ok (.lload_n 2, 1) := by decide +kernel
theorem d_J_plant_9 : decode b_J_plant 9 = .ok (.invokevirtual 72, 3) := by decide +kernel
theorem d_J_plant_12 : decode b_J_plant 12 = .ok (.ifCond .ne 6, 3) := by decide +kernel
theorem d_J_plant_15 : decode b_J_plant 15 = .ok (.bipush (-12), 2) := by decide +kernel
theorem d_J_plant_17 : decode b_J_plant 17 = .ok (.ireturn, 1) := by decide +kernel
theorem d_J_plant_18 : decode b_J_plant 18 = .ok (.aload_n 0, 1) := by decide +kernel
theorem d_J_plant_19 : decode b_J_plant 19 = .ok (.invokevirtual 80, 3) := by decide +kernel
theorem d_J_plant_22 : decode b_J_plant 22 = .ok (.ifCond .ne 6, 3) := by decide +kernel
theorem d_J_plant_25 : decode b_J_plant 25 = .ok (.bipush (-13), 2) := by decide +kernel
theorem d_J_plant_27 : decode b_J_plant 27 = .ok (.ireturn, 1) := by decide +kernel
theorem d_J_plant_28 : decode b_J_plant 28 = .ok (.aload_n 0, 1) := by decide +kernel
theorem d_J_plant_29 : decode b_J_plant 29 = .ok (.getfield 34, 3) := by decide +kernel
theorem d_J_plant_32 : decode b_J_plant 32 = .ok (.bipush 40, 2) := by decide +kernel
theorem d_J_plant_34 : decode b_J_plant 34 = .ok (.if_icmp .lt 5, 3) := by decide +kernel
theorem d_J_plant_37 : decode b_J_plant 37 = .ok (.iconst 0, 1) := by decide +kernel
theorem d_J_plant_38 : decode b_J_plant 38 = .ok (.ireturn, 1) := by decide +kernel
theorem d_J_plant_39 : decode b_J_plant 39 = .ok (.aload_n 0, 1) := by decide +kernel
theorem d_J_plant_40 : decode b_J_plant 40 = .ok (.lload_n 2, 1) := by decide +kernel
theorem d_J_plant_41 : decode b_J_plant 41 = .ok (.putfield 54, 3) := by decide +kernel
theorem d_J_plant_44 : decode b_J_plant 44 = .ok (.aload_n 0, 1) := by decide +kernel
theorem d_J_plant_45 : decode b_J_plant 45 = .ok (.iload_n 1, 1) := by decide +kernel
theorem d_J_plant_46 : decode b_J_plant 46 = .ok (.iconst (-1), 1) := by decide +kernel
theorem d_J_plant_47 : decode b_J_plant 47 = .ok (.invokevirtual 151, 3) := by decide +kernel
theorem d_J_plant_50 : decode b_J_plant 50 = .ok (.ireturn, 1) := by decide +kernel
theorem d_J_alarm_0 : decode b_J_alarm 0 = .ok (.iload_n 2, 1) := by decide +kernel
theorem d_J_alarm_1 : decode b_J_alarm 1 = .ok (.ifCond .lt 8, 3) := by decide +kernel
theorem d_J_alarm_4 : decode b_J_alarm 4 = .ok (.iload_n 2, 1) := by decide +kernel
theorem d_J_alarm_5 : decode b_J_alarm 5 = .ok (.iconst 4, 1) := by decide +kernel
theorem d_J_alarm_6 : decode b_J_alarm 6 = .ok (.if_icmp .le 6, 3) := by decide +kernel
theorem d_J_alarm_9 : decode b_J_alarm 9 = .ok (.bipush (-12), 2) := by decide +kernel
theorem d_J_alarm_11 : decode b_J_alarm 11 = .ok (.ireturn, 1) := by decide +kernel
theorem d_J_alarm_12 : decode b_J_alarm 12 = .ok (.aload_n 0, 1) := by decide +kernel
theorem d_J_alarm_13 : decode b_J_alarm 13 = .ok (.iload_n 1, 1) := by decide +kernel
theorem d_J_alarm_14 : decode b_J_alarm 14 = .ok (.invokevirtual 155, 3) := by decide +kernel
theorem d_J_alarm_17 : decode b_J_alarm 17 = .ok (.istore_n 3, 1) := by decide +kernel
theorem d_J_alarm_18 : decode b_J_alarm 18 = .ok (.aload_n 0, 1) := by decide +kernel
theorem d_J_alarm_19 : decode b_J_alarm 19 = .ok (.iload_n 3, 1) := by decide +kernel
theorem d_J_alarm_20 : decode b_J_alarm 20 = .ok (.invokevirtual 105, 3) := by decide +kernel
theorem d_J_alarm_23 : decode b_J_alarm 23 = .ok (.ifCond .ne 5, 3) := by decide +kernel
theorem d_J_alarm_26 : decode b_J_alarm 26 = .ok (.iconst (-1), 1) := by decide +kernel
theorem d_J_alarm_27 : decode b_J_alarm 27 = .ok (.ireturn, 1) := by decide +kernel
theorem d_J_alarm_28 : decode b_J_alarm 28 = .ok (.aload_n 0, 1) := by decide +kernel
theorem d_J_alarm_29 : decode b_J_alarm 29 = .ok (.getfield 30, 3) := by decide +kernel
theorem d_J_alarm_32 : decode b_J_alarm 32 = .ok (.iload_n 3, 1) := by decide +kernel
theorem d_J_alarm_33 : decode b_J_alarm 33 = .ok (.aaload, 1) := by decide +kernel
theorem d_J_alarm_34 : decode b_J_alarm 34 = .ok (.astore 4, 2) := by decide +kernel
theorem d_J_alarm_36 : decode b_J_alarm 36 = .ok (.iload_n 2, 1) := by decide +kernel
theorem d_J_alarm_37 : decode b_J_alarm 37 = .ok (.tableswitch 51 0 3 #[31, 33, 39, 45], 31) := by decide +kernel
theorem d_J_alarm_68 : decode b_J_alarm 68 = .ok (.iload_n 3, 1) := by decide +kernel
theorem d_J_alarm_69 : decode b_J_alarm 69 = .ok (.ireturn, 1) := by decide +kernel
theorem d_J_alarm_70 : decode b_J_alarm 70 = .ok (.aload 4, 2) := by decide +kernel
theorem d_J_alarm_72 : decode b_J_alarm 72 = .ok (.invokevirtual 159, 3) := by decide +kernel
theorem d_J_alarm_75 : decode b_J_alarm 75 = .ok (.ireturn, 1) := by decide +kernel
theorem d_J_alarm_76 : decode b_J_alarm 76 = .ok (.aload 4, 2) := by decide +kernel
theorem d_J_alarm_78 : decode b_J_alarm 78 = .ok (.getfield 114, 3) := by decide +kernel
theorem d_J_alarm_81 : decode b_J_alarm 81 = .ok (.ireturn, 1) := by decide +kernel
theorem d_J_alarm_82 : decode b_J_alarm 82 = .ok (.aload 4, 2) := by decide +kernel
theorem d_J_alarm_84 : decode b_J_alarm 84 = .ok (.getfield 111, 3) := by decide +kernel
theorem d_J_alarm_87 : decode b_J_alarm 87 = .ok (.ireturn, 1) := by decide +kernel
theorem d_J_alarm_88 : decode b_J_alarm 88 = .ok (.aload 4, 2) := by decide +kernel
theorem d_J_alarm_90 : decode b_J_alarm 90 = .ok (.getfield 163, 3) := by decide +kernel
theorem d_J_alarm_93 : decode b_J_alarm 93 = .ok (.l2i, 1) := by decide +kernel
theorem d_J_alarm_94 : decode b_J_alarm 94 = .ok (.ireturn, 1) := by decide +kernel
theorem d_J_count_0 : decode b_J_count 0 = .ok (.aload_n 0, 1) := by decide +kernel
theorem d_J_count_1 : decode b_J_count 1 = .ok (.iload_n 1, 1) := by decide +kernel
theorem d_J_count_2 : decode b_J_count 2 = .ok (.invokevirtual 87, 3) := by decide +kernel
theorem d_J_count_5 : decode b_J_count 5 = .ok (.ifCond .eq 15, 3) := by decide +kernel
theorem d_J_count_8 : decode b_J_count 8 = .ok (.aload_n 0, 1) := by decide +kernel
theorem d_J_count_9 : decode b_J_count 9 = .ok (.getfield 11, 3) := by decide +kernel
theorem d_J_count_12 : decode b_J_count 12 = .ok (.iload_n 1, 1) := by decide +kernel
theorem d_J_count_13 : decode b_J_count 13 = .ok (.aaload, 1) := by decide +kernel
theorem d_J_count_14 : decode b_J_count 14 = .ok (.getfield 166, 3) := by decide +kernel
theorem d_J_count_17 : decode b_J_count 17 = .ok (.goto 5, 3) := by decide +kernel
theorem d_J_count_20 : decode b_J_count 20 = .ok (.bipush (-11), 2) := by decide +kernel
theorem d_J_count_22 : decode b_J_count 22 = .ok (.ireturn, 1) := by decide +kernel
end
section
theorem d_J_goesOn_0 : decode b_J_goesOn 0 = .ok (.aload_n 0, 1) := by decide +kernel
theorem d_J_goesOn_1 : decode b_J_goesOn 1 = .ok (.getfield 34, 3) := by decide +kernel
theorem d_J_goesOn_4 : decode b_J_goesOn 4 = .ok (.aload_n 0, 1) := by decide +kernel
theorem d_J_goesOn_5 : decode b_J_goesOn 5 = .ok (.getfield 37, 3) := by decide +kernel
theorem d_J_goesOn_8 : decode b_J_goesOn 8 = .ok (.isub, 1) := by decide +kernel
theorem d_J_goesOn_9 : decode b_J_goesOn 9 = .ok (.iconst 5, 1) := by decide +kernel
theorem d_J_goesOn_10 : decode b_J_goesOn 10 = .ok (.if_icmp .le 5, 3) := by decide +kernel
theorem d_J_goesOn_13 : decode b_J_goesOn 13 = .ok (.iconst 0, 1) := by decide +kernel
theorem d_J_goesOn_14 : decode b_J_goesOn 14 = .ok (.ireturn, 1) := by decide +kernel
theorem d_J_goesOn_15 : decode b_J_goesOn 15 = .ok (.aload_n 0, 1) := by decide +kernel
theorem d_J_goesOn_16 : decode b_J_goesOn 16 = .ok (.getfield 37, 3) := by decide +kernel
theorem d_J_goesOn_19 : decode b_J_goesOn 19 = .ok (.iconst 1, 1) := by decide +kernel
theorem d_J_goesOn_20 : decode b_J_goesOn 20 = .ok (.iadd, 1) := by decide +kernel
theorem d_J_goesOn_21 : decode b_J_goesOn 21 = .ok (.istore_n 1, 1) := by decide +kernel
theorem d_J_goesOn_22 : decode b_J_goesOn 22 = .ok (.iload_n 1, 1) := by decide +kernel
theorem d_J_goesOn_23 : decode b_J_goesOn 23 = .ok (.aload_n 0, 1) := by decide +kernel
theorem d_J_goesOn_24 : decode b_J_goesOn 24 = .ok (.getfield 34, 3) := by decide +kernel
theorem d_J_goesOn_27 : decode b_J_goesOn 27 = .ok (.if_icmp .gt 23, 3) := by decide +kernel
theorem d_J_goesOn_30 : decode b_J_goesOn 30 = .ok (.aload_n 0, 1) := by decide +kernel
theorem d_J_goesOn_31 : decode b_J_goesOn 31 = .ok (.getfield 30, 3) := by decide +kernel
theorem d_J_goesOn_34 : decode b_J_goesOn 34 = .ok (.iload_n 1, 1) := by decide +kernel
theorem d_J_goesOn_35 : decode b_J_goesOn 35 = .ok (.aaload, 1) := by decide +kernel
theorem d_J_goesOn_36 : decode b_J_goesOn 36 = .ok (.getfield 169, 3) := by decide +kernel
theorem d_J_goesOn_39 : decode b_J_goesOn 39 = .ok (.ifCond .eq 5, 3) := by decide +kernel
theorem d_J_goesOn_42 : decode b_J_goesOn 42 = .ok (.iconst 0, 1) := by decide +kernel
theorem d_J_goesOn_43 : decode b_J_goesOn 43 = .ok (.ireturn, 1) := by decide +kernel
theorem d_J_goesOn_44 : decode b_J_goesOn 44 = .ok (.iinc 1 1, 3) := by decide +kernel
theorem d_J_goesOn_47 : decode b_J_goesOn 47 = .ok (.goto (-25), 3) := by decide +kernel
theorem d_J_goesOn_50 : decode b_J_goesOn 50 = .ok (.iconst 1, 1) := by decide +kernel
theorem d_J_goesOn_51 : decode b_J_goesOn 51 = .ok (.ireturn, 1) := by decide +kernel
theorem d_J_isSensor_0 : decode b_J_isSensor 0 = .ok (.iload_n 1, 1) := by decide +kernel
theorem d_J_isSensor_1 : decode b_J_isSensor 1 = .ok (.ifCond .lt 15, 3) := by decide +kernel
theorem d_J_isSensor_4 : decode b_J_isSensor 4 = .ok (.iload_n 1, 1) := by decide +kernel
theorem d_J_isSensor_5 : decode b_J_isSensor 5 = .ok (.aload_n 0, 1) := by decide +kernel
theorem d_J_isSensor_6 : decode b_J_isSensor 6 = .ok (.getfield 15, 3) := by decide +kernel
theorem d_J_isSensor_9 : decode b_J_isSensor 9 = .ok (.if_icmp .ge 7, 3) := by decide +kernel
theorem d_J_isSensor_12 : decode b_J_isSensor 12 = .ok (.iconst 1, 1) := by decide +kernel
theorem d_J_isSensor_13 : decode b_J_isSensor 13 = .ok (.goto 4, 3) := by decide +kernel
theorem d_J_isSensor_16 : decode b_J_isSensor 16 = .ok (.iconst 0, 1) := by decide +kernel
theorem d_J_isSensor_17 : decode b_J_isSensor 17 = .ok (.ireturn, 1) := by decide +kernel
theorem d_J_isItem_0 : decode b_J_isItem 0 = .ok (.iload_n 1, 1) := by decide +kernel
theorem d_J_isItem_1 : decode b_J_isItem 1 = .ok (.iconst 1, 1) := by decide +kernel
theorem d_J_isItem_2 : decode b_J_isItem 2 = .ok (.if_icmp .lt 15, 3) := by decide +kernel
theorem d_J_isItem_5 : decode b_J_isItem 5 = .ok (.iload_n 1, 1) := by decide +kernel
theorem d_J_isItem_6 : decode b_J_isItem 6 = .ok (.aload_n 0, 1) := by decide +kernel
theorem d_J_isItem_7 : decode b_J_isItem 7 = .ok (.getfield 25, 3) := by decide +kernel
theorem d_J_isItem_10 : decode b_J_isItem 10 = .ok (.if_icmp .gt 7, 3) := by decide +kernel
theorem d_J_isItem_13 : decode b_J_isItem 13 = .ok (.iconst 1, 1) := by decide +kernel
theorem d_J_isItem_14 : decode b_J_isItem 14 = .ok (.goto 4, 3) := by decide +kernel
theorem d_J_isItem_17 : decode b_J_isItem 17 = .ok (.iconst 0, 1) := by decide +kernel
theorem d_J_isItem_18 : decode b_J_isItem 18 = .ok (.ireturn, 1) := by decide +kernel
theorem d_J_isFault_0 : decode b_J_isFault 0 = .ok (.iload_n 1, 1) := by decide +kernel
theorem d_J_isFault_1 : decode b_J_isFault 1 = .ok (.iconst 1, 1) := by decide +kernel
theorem d_J_isFault_2 : decode b_J_isFault 2 = .ok (.if_icmp .lt 15, 3) := by decide +kernel
theorem d_J_isFault_5 : decode b_J_isFault 5 = .ok (.iload_n 1, 1) := by decide +kernel
theorem d_J_isFault_6 : decode b_J_isFault 6 = .ok (.aload_n 0, 1) := by decide +kernel
theorem d_J_isFault_7 : decode b_J_isFault 7 = .ok (.getfield 34, 3) := by decide +kernel
theorem d_J_isFault_10 : decode b_J_isFault 10 = .ok (.if_icmp .gt 7, 3) := by decide +kernel
theorem d_J_isFault_13 : decode b_J_isFault 13 = .ok (.iconst 1, 1) := by decide +kernel
theorem d_J_isFault_14 : decode b_J_isFault 14 = .ok (.goto 4, 3) := by decide +kernel
theorem d_J_isFault_17 : decode b_J_isFault 17 = .ok (.iconst 0, 1) := by decide +kernel
theorem d_J_isFault_18 : decode b_J_isFault 18 = .ok (.ireturn, 1) := by decide +kernel
theorem d_J_isKind_0 : decode b_J_isKind 0 = .ok (.iload_n 0, 1) := by decide +kernel
theorem d_J_isKind_1 : decode b_J_isKind 1 = .ok (.iconst 1, 1) := by decide +kernel
theorem d_J_isKind_2 : decode b_J_isKind 2 = .ok (.if_icmp .lt 13, 3) := by decide +kernel
theorem d_J_isKind_5 : decode b_J_isKind 5 = .ok (.iload_n 0, 1) := by decide +kernel
theorem d_J_isKind_6 : decode b_J_isKind 6 = .ok (.bipush 6, 2) := by decide +kernel
theorem d_J_isKind_8 : decode b_J_isKind 8 = .ok (.if_icmp .gt 7, 3) := by decide +kernel
theorem d_J_isKind_11 : decode b_J_isKind 11 = .ok (.iconst 1, 1) := by decide +kernel
theorem d_J_isKind_12 : decode b_J_isKind 12 = .ok (.goto 4, 3) := by decide +kernel
theorem d_J_isKind_15 : decode b_J_isKind 15 = .ok (.iconst 0, 1) := by decide +kernel
theorem d_J_isKind_16 : decode b_J_isKind 16 = .ok (.ireturn, 1) := by decide +kernel
theorem d_J_isTime_0 : decode b_J_isTime 0 = .ok (.lload_n 1, 1) := by decide +kernel
theorem d_J_isTime_1 : decode b_J_isTime 1 = .ok (.aload_n 0, 1) := by decide +kernel
theorem d_J_isTime_2 : decode b_J_isTime 2 = .ok (.getfield 54, 3) := by decide +kernel
theorem d_J_isTime_5 : decode b_J_isTime 5 = .ok (.lcmp, 1) := by decide +kernel
theorem d_J_isTime_6 : decode b_J_isTime 6 = .ok (.ifCond .lt 15, 3) := by decide +kernel
theorem d_J_isTime_9 : decode b_J_isTime 9 = .ok (.lload_n 1, 1) := by decide +kernel
theorem d_J_isTime_10 : decode b_J_isTime 10 = .ok (.ldc2_w 172, 3) := by decide +kernel
theorem d_J_isTime_13 : decode b_J_isTime 13 = .ok (.lcmp, 1) := by decide +kernel
theorem d_J_isTime_14 : decode b_J_isTime 14 = .ok (.ifCond .gt 7, 3) := by decide +kernel
theorem d_J_isTime_17 : decode b_J_isTime 17 = .ok (.iconst 1, 1) := by decide +kernel
theorem d_J_isTime_18 : decode b_J_isTime 18 = .ok (.goto 4, 3) := by decide +kernel
theorem d_J_isTime_21 : decode b_J_isTime 21 = .ok (.iconst 0, 1) := by decide +kernel
theorem d_J_isTime_22 : decode b_J_isTime 22 = .ok (.ireturn, 1) := by decide +kernel
theorem d_J_earliestHead_0 : decode b_J_earliestHead 0 = .ok (.aload_n 0, 1) := by decide +kernel
theorem d_J_earliestHead_1 : decode b_J_earliestHead 1 = .ok (.getfield 25, 3) := by decide +kernel
theorem d_J_earliestHead_4 : decode b_J_earliestHead 4 = .ok (.ifCond .ne 5, 3) := by decide +kernel
theorem d_J_earliestHead_7 : decode b_J_earliestHead 7 = .ok (.lconst 0, 1) := by decide +kernel
theorem d_J_earliestHead_8 : decode b_J_earliestHead 8 = .ok (.lreturn, 1) := by decide +kernel
theorem d_J_earliestHead_9 : decode b_J_earliestHead 9 = .ok (.aload_n 0, 1) := by decide +kernel
theorem d_J_earliestHead_10 : decode b_J_earliestHead 10 = .ok (.getfield 21, 3) := by decide +kernel
theorem d_J_earliestHead_13 : decode b_J_earliestHead 13 = .ok (.aload_n 0, 1) := by decide +kernel
theorem d_J_earliestHead_14 : decode b_J_earliestHead 14 = .ok (.getfield 25, 3) := by decide +kernel
theorem d_J_earliestHead_17 : decode b_J_earliestHead 17 = .ok (.aaload, 1) := by decide +kernel
theorem d_J_earliestHead_18 : decode b_J_earliestHead 18 = .ok (.astore_n 1, 1) := by decide +kernel
theorem d_J_earliestHead_19 : decode b_J_earliestHead 19 = .ok (.aload_n 1, 1) := by decide +kernel
theorem d_J_earliestHead_20 : decode b_J_earliestHead 20 = .ok (.getfield 174, 3) := by decide +kernel
theorem d_J_earliestHead_23 : decode b_J_earliestHead 23 = .ok (.aload_n 1, 1) := by decide +kernel
theorem d_J_earliestHead_24 : decode b_J_earliestHead 24 = .ok (.getfield 177, 3) := by decide +kernel
theorem d_J_earliestHead_27 : decode b_J_earliestHead 27 = .ok (.ladd, 1) := by decide +kernel
theorem d_J_earliestHead_28 : decode b_J_earliestHead 28 = .ok (.ldc2_w 180, 3) := by decide +kernel
theorem d_J_earliestHead_31 : decode b_J_earliestHead 31 = .ok (.ladd, 1) := by decide +kernel
theorem d_J_earliestHead_32 : decode b_J_earliestHead 32 = .ok (.lreturn, 1) := by decide +kernel
theorem d_J_tellJams_0 : decode b_J_tellJams 0 = .ok (.iconst 0, 1) := by decide +kernel
theorem d_J_tellJams_1 : decode b_J_tellJams 1 = .ok (.istore_n 1, 1) := by decide +kernel
theorem d_J_tellJams_2 : decode b_J_tellJams 2 = .ok (.iload_n 1, 1) := by decide +kernel
theorem d_J_tellJams_3 : decode b_J_tellJams 3 = .ok (.aload_n 0, 1) := by decide +kernel
theorem d_J_tellJams_4 : decode b_J_tellJams 4 = .ok (.getfield 15, 3) := by decide +kernel
theorem d_J_tellJams_7 : decode b_J_tellJams 7 = .ok (.if_icmp .ge 64, 3) := by decide +kernel
theorem d_J_tellJams_10 : decode b_J_tellJams 10 = .ok (.aload_n 0, 1) := by decide +kernel
theorem d_J_tellJams_11 : decode b_J_tellJams 11 = .ok (.getfield 11, 3) := by decide +kernel
theorem d_J_tellJams_14 : decode b_J_tellJams 14 = .ok (.iload_n 1, 1) := by decide +kernel
theorem d_J_tellJams_15 : decode b_J_tellJams 15 = .ok (.aaload, 1) := by decide +kernel
theorem d_J_tellJams_16 : decode b_J_tellJams 16 = .ok (.astore_n 2, 1) := by decide +kernel
theorem d_J_tellJams_17 : decode b_J_tellJams 17 = .ok (.aload_n 2, 1) := by decide +kernel
theorem d_J_tellJams_18 : decode b_J_tellJams 18 = .ok (.getfield 91, 3) := by decide +kernel
theorem d_J_tellJams_21 : decode b_J_tellJams 21 = .ok (.ifCond .eq 44, 3) := by decide +kernel
theorem d_J_tellJams_24 : decode b_J_tellJams 24 = .ok (.aload_n 2, 1) := by decide +kernel
theorem d_J_tellJams_25 : decode b_J_tellJams 25 = .ok (.getfield 182, 3) := by decide +kernel
theorem d_J_tellJams_28 : decode b_J_tellJams 28 = .ok (.ifCond .ne 37, 3) := by decide +kernel
theorem d_J_tellJams_31 : decode b_J_tellJams 31 = .ok (.aload_n 0, 1) := by decide +kernel
theorem d_J_tellJams_32 : decode b_J_tellJams 32 = .ok (.getfield 54, 3) := by decide +kernel
theorem d_J_tellJams_35 : decode b_J_tellJams 35 = .ok (.aload_n 2, 1) := by decide +kernel
theorem d_J_tellJams_36 : decode b_J_tellJams 36 = .ok (.getfield 185, 3) := by decide +kernel
theorem d_J_tellJams_39 : decode b_J_tellJams 39 = .ok (.lsub, 1) := by decide +kernel
theorem d_J_tellJams_40 : decode b_J_tellJams 40 = .ok (.ldc2_w 188, 3) := by decide +kernel
theorem d_J_tellJams_43 : decode b_J_tellJams 43 = .ok (.aload_n 0, 1) := by decide +kernel
theorem d_J_tellJams_44 : decode b_J_tellJams 44 = .ok (.aload_n 2, 1) := by decide +kernel
theorem d_J_tellJams_45 : decode b_J_tellJams 45 = .ok (.invokevirtual 190, 3) := by decide +kernel
theorem d_J_tellJams_48 : decode b_J_tellJams 48 = .ok (.ladd, 1) := by decide +kernel
theorem d_J_tellJams_49 : decode b_J_tellJams 49 = .ok (.lcmp, 1) := by decide +kernel
theorem d_J_tellJams_50 : decode b_J_tellJams 50 = .ok (.ifCond .le 15, 3) := by decide +kernel
theorem d_J_tellJams_53 : decode b_J_tellJams 53 = .ok (.aload_n 2, 1) := by decide +kernel
theorem d_J_tellJams_54 : decode b_J_tellJams 54 = .ok (.iconst 1, 1) := by decide +kernel
theorem d_J_tellJams_55 : decode b_J_tellJams 55 = .ok (.putfield 182, 3) := by decide +kernel
theorem d_J_tellJams_58 : decode b_J_tellJams 58 = .ok (.aload_n 0, 1) := by decide +kernel
theorem d_J_tellJams_59 : decode b_J_tellJams 59 = .ok (.iconst 5, 1) := by decide +kernel
theorem d_J_tellJams_60 : decode b_J_tellJams 60 = .ok (.iload_n 1, 1) := by decide +kernel
theorem d_J_tellJams_61 : decode b_J_tellJams 61 = .ok (.invokevirtual 151, 3) := by decide +kernel
theorem d_J_tellJams_64 : decode b_J_tellJams 64 = .ok (.pop, 1) := by decide +kernel
theorem d_J_tellJams_65 : decode b_J_tellJams 65 = .ok (.iinc 1 1, 3) := by decide +kernel
theorem d_J_tellJams_68 : decode b_J_tellJams 68 = .ok (.goto (-66), 3) := by decide +kernel
theorem d_J_tellJams_71 : decode b_J_tellJams 71 = .ok (.return_, 1) := by decide +kernel
theorem d_J_lengthAt_0 : decode b_J_lengthAt 0 = .ok (.aload_n 0, 1) := by decide +kernel
theorem d_J_lengthAt_1 : decode b_J_lengthAt 1 = .ok (.aload_n 1, 1) := by decide +kernel
theorem d_J_lengthAt_2 : decode b_J_lengthAt 2 = .ok (.getfield 194, 3) := by decide +kernel
theorem d_J_lengthAt_5 : decode b_J_lengthAt 5 = .ok (.invokevirtual 136, 3) := by decide +kernel
theorem d_J_lengthAt_8 : decode b_J_lengthAt 8 = .ok (.ifCond .eq 18, 3) := by decide +kernel
theorem d_J_lengthAt_11 : decode b_J_lengthAt 11 = .ok (.aload_n 0, 1) := by decide +kernel
theorem d_J_lengthAt_12 : decode b_J_lengthAt 12 = .ok (.getfield 21, 3) := by decide +kernel
theorem d_J_lengthAt_15 : decode b_J_lengthAt 15 = .ok (.aload_n 1, 1) := by decide +kernel
theorem d_J_lengthAt_16 : decode b_J_lengthAt 16 = .ok (.getfield 194, 3) := by decide +kernel
theorem d_J_lengthAt_19 : decode b_J_lengthAt 19 = .ok (.aaload, 1) := by decide +kernel
theorem d_J_lengthAt_20 : decode b_J_lengthAt 20 = .ok (.getfield 177, 3) := by decide +kernel
theorem d_J_lengthAt_23 : decode b_J_lengthAt 23 = .ok (.goto 4, 3) := by decide +kernel
theorem d_J_lengthAt_26 : decode b_J_lengthAt 26 = .ok (.lconst 0, 1) := by decide +kernel
theorem d_J_lengthAt_27 : decode b_J_lengthAt 27 = .ok (.lreturn, 1) := by decide +kernel
theorem d_J_becomeDark_0 : decode b_J_becomeDark 0 = .ok (.aload_n 0, 1) := by decide +kernel
theorem d_J_becomeDark_1 : decode b_J_becomeDark 1 = .ok (.getfield 11, 3) := by decide +kernel
theorem d_J_becomeDark_4 : decode b_J_becomeDark 4 = .ok (.iload_n 1, 1) := by decide +kernel
theorem d_J_becomeDark_5 : decode b_J_becomeDark 5 = .ok (.aaload, 1) := by decide +kernel
theorem d_J_becomeDark_6 : decode b_J_becomeDark 6 = .ok (.dup, 1) := by decide +kernel
theorem d_J_becomeDark_7 : decode b_J_becomeDark 7 = .ok (.getfield 166, 3) := by decide +kernel
theorem d_J_becomeDark_10 : decode b_J_becomeDark 10 = .ok (.iconst 1, 1) := by decide +kernel
theorem d_J_becomeDark_11 : decode b_J_becomeDark 11 = .ok (.iadd, 1) := by decide +kernel
theorem d_J_becomeDark_12 : decode b_J_becomeDark 12 = .ok (.putfield 166, 3) := by decide +kernel
theorem d_J_becomeDark_15 : decode b_J_becomeDark 15 = .ok (.aload_n 0, 1) := by decide +kernel
theorem d_J_becomeDark_16 : decode b_J_becomeDark 16 = .ok (.iload_n 1, 1) := by decide +kernel
theorem d_J_becomeDark_17 : decode b_J_becomeDark 17 = .ok (.invokevirtual 197, 3) := by decide +kernel
theorem d_J_becomeDark_20 : decode b_J_becomeDark 20 = .ok (.aload_n 0, 1) := by decide +kernel
theorem d_J_becomeDark_21 : decode b_J_becomeDark 21 = .ok (.iload_n 1, 1) := by decide +kernel
theorem d_J_becomeDark_22 : decode b_J_becomeDark 22 = .ok (.invokevirtual 200, 3) := by decide +kernel
theorem d_J_becomeDark_25 : decode b_J_becomeDark 25 = .ok (.istore_n 2, 1) := by decide +kernel
theorem d_J_becomeDark_26 : decode b_J_becomeDark 26 = .ok (.aload_n 0, 1) := by decide +kernel
theorem d_J_becomeDark_27 : decode b_J_becomeDark 27 = .ok (.iload_n 2, 1) := by decide +kernel
theorem d_J_becomeDark_28 : decode b_J_becomeDark 28 = .ok (.iload_n 1, 1) := by decide +kernel
theorem d_J_becomeDark_29 : decode b_J_becomeDark 29 = .ok (.invokevirtual 203, 3) := by decide +kernel
theorem d_J_becomeDark_32 : decode b_J_becomeDark 32 = .ok (.ifCond .eq 30, 3) := by decide +kernel
theorem d_J_becomeDark_35 : decode b_J_becomeDark 35 = .ok (.aload_n 0, 1) := by decide +kernel
theorem d_J_becomeDark_36 : decode b_J_becomeDark 36 = .ok (.getfield 21, 3) := by decide +kernel
theorem d_J_becomeDark_39 : decode b_J_becomeDark 39 = .ok (.iload_n 2, 1) := by decide +kernel
theorem d_J_becomeDark_40 : decode b_J_becomeDark 40 = .ok (.aaload, 1) := by decide +kernel
theorem d_J_becomeDark_41 : decode b_J_becomeDark 41 = .ok (.iload_n 1, 1) := by decide +kernel
theorem d_J_becomeDark_42 : decode b_J_becomeDark 42 = .ok (.invokevirtual 207, 3) := by decide +kernel
theorem d_J_becomeDark_45 : decode b_J_becomeDark 45 = .ok (.aload_n 0, 1) := by decide +kernel
theorem d_J_becomeDark_46 : decode b_J_becomeDark 46 = .ok (.getfield 11, 3) := by decide +kernel
theorem d_J_becomeDark_49 : decode b_J_becomeDark 49 = .ok (.iload_n 1, 1) := by decide +kernel
theorem d_J_becomeDark_50 : decode b_J_becomeDark 50 = .ok (.aaload, 1) := by decide +kernel
theorem d_J_becomeDark_51 : decode b_J_becomeDark 51 = .ok (.iload_n 2, 1) := by decide +kernel
theorem d_J_becomeDark_52 : decode b_J_becomeDark 52 = .ok (.aload_n 0, 1) := by decide +kernel
theorem d_J_becomeDark_53 : decode b_J_becomeDark 53 = .ok (.getfield 54, 3) := by decide +kernel
theorem d_J_becomeDark_56 : decode b_J_becomeDark 56 = .ok (.invokevirtual 210, 3) := by decide +kernel
theorem d_J_becomeDark_59 : decode b_J_becomeDark 59 = .ok (.goto 24, 3) := by decide +kernel
theorem d_J_becomeDark_62 : decode b_J_becomeDark 62 = .ok (.aload_n 0, 1) := by decide +kernel
theorem d_J_becomeDark_63 : decode b_J_becomeDark 63 = .ok (.iconst 1, 1) := by decide +kernel
theorem d_J_becomeDark_64 : decode b_J_becomeDark 64 = .ok (.iload_n 1, 1) := by decide +kernel
theorem d_J_becomeDark_65 : decode b_J_becomeDark 65 = .ok (.invokevirtual 151, 3) := by decide +kernel
theorem d_J_becomeDark_68 : decode b_J_becomeDark 68 = .ok (.pop, 1) := by decide +kernel
theorem d_J_becomeDark_69 : decode b_J_becomeDark 69 = .ok (.aload_n 0, 1) := by decide +kernel
theorem d_J_becomeDark_70 : decode b_J_becomeDark 70 = .ok (.getfield 11, 3) := by decide +kernel
theorem d_J_becomeDark_73 : decode b_J_becomeDark 73 = .ok (.iload_n 1, 1) := by decide +kernel
theorem d_J_becomeDark_74 : decode b_J_becomeDark 74 = .ok (.aaload, 1) := by decide +kernel
theorem d_J_becomeDark_75 : decode b_J_becomeDark 75 = .ok (.iconst 0, 1) := by decide +kernel
theorem d_J_becomeDark_76 : decode b_J_becomeDark 76 = .ok (.aload_n 0, 1) := by decide +kernel
theorem d_J_becomeDark_77 : decode b_J_becomeDark 77 = .ok (.getfield 54, 3) := by decide +kernel
theorem d_J_becomeDark_80 : decode b_J_becomeDark 80 = .ok (.invokevirtual 210, 3) := by decide +kernel
theorem d_J_becomeDark_83 : decode b_J_becomeDark 83 = .ok (.return_, 1) := by decide +kernel
theorem d_J_loseLateItems_0 : decode b_J_loseLateItems 0 = .ok (.iconst 1, 1) := by decide +kernel
theorem d_J_loseLateItems_1 : decode b_J_loseLateItems 1 = .ok (.istore_n 2, 1) := by decide +kernel
theorem d_J_loseLateItems_2 : decode b_J_loseLateItems 2 = .ok (.iload_n 2, 1) := by decide +kernel
theorem d_J_loseLateItems_3 : decode b_J_loseLateItems 3 = .ok (.aload_n 0, 1) := by decide +kernel
theorem d_J_loseLateItems_4 : decode b_J_loseLateItems 4 = .ok (.getfield 25, 3) := by decide +kernel
theorem d_J_loseLateItems_7 : decode b_J_loseLateItems 7 = .ok (.if_icmp .gt 53, 3) := by decide +kernel
theorem d_J_loseLateItems_10 : decode b_J_loseLateItems 10 = .ok (.aload_n 0, 1) := by decide +kernel
theorem d_J_loseLateItems_11 : decode b_J_loseLateItems 11 = .ok (.iload_n 2, 1) := by decide +kernel
theorem d_J_loseLateItems_12 : decode b_J_loseLateItems 12 = .ok (.iload_n 1, 1) := by decide +kernel
theorem d_J_loseLateItems_13 : decode b_J_loseLateItems 13 = .ok (.invokevirtual 214, 3) := by decide +kernel
theorem d_J_loseLateItems_16 : decode b_J_loseLateItems 16 = .ok (.ifCond .eq 38, 3) := by decide +kernel
theorem d_J_loseLateItems_19 : decode b_J_loseLateItems 19 = .ok (.aload_n 0, 1) := by decide +kernel
theorem d_J_loseLateItems_20 : decode b_J_loseLateItems 20 = .ok (.getfield 54, 3) := by decide +kernel
theorem d_J_loseLateItems_23 : decode b_J_loseLateItems 23 = .ok (.aload_n 0, 1) := by decide +kernel
theorem d_J_loseLateItems_24 : decode b_J_loseLateItems 24 = .ok (.iload_n 2, 1) := by decide +kernel
theorem d_J_loseLateItems_25 : decode b_J_loseLateItems 25 = .ok (.iload_n 1, 1) := by decide +kernel
theorem d_J_loseLateItems_26 : decode b_J_loseLateItems 26 = .ok (.invokevirtual 217, 3) := by decide +kernel
theorem d_J_loseLateItems_29 : decode b_J_loseLateItems 29 = .ok (.lsub, 1) := by decide +kernel
theorem d_J_loseLateItems_30 : decode b_J_loseLateItems 30 = .ok (.ldc2_w 221, 3) := by decide +kernel
theorem d_J_loseLateItems_33 : decode b_J_loseLateItems 33 = .ok (.lcmp, 1) := by decide +kernel
theorem d_J_loseLateItems_34 : decode b_J_loseLateItems 34 = .ok (.ifCond .le 20, 3) := by decide +kernel
theorem d_J_loseLateItems_37 : decode b_J_loseLateItems 37 = .ok (.aload_n 0, 1) := by decide +kernel
theorem d_J_loseLateItems_38 : decode b_J_loseLateItems 38 = .ok (.iconst 2, 1) := by decide +kernel
theorem d_J_loseLateItems_39 : decode b_J_loseLateItems 39 = .ok (.iload_n 1, 1) := by decide +kernel
theorem d_J_loseLateItems_40 : decode b_J_loseLateItems 40 = .ok (.invokevirtual 151, 3) := by decide +kernel
theorem d_J_loseLateItems_43 : decode b_J_loseLateItems 43 = .ok (.istore_n 3, 1) := by decide +kernel
theorem d_J_loseLateItems_44 : decode b_J_loseLateItems 44 = .ok (.aload_n 0, 1) := by decide +kernel
theorem d_J_loseLateItems_45 : decode b_J_loseLateItems 45 = .ok (.getfield 21, 3) := by decide +kernel
theorem d_J_loseLateItems_48 : decode b_J_loseLateItems 48 = .ok (.iload_n 2, 1) := by decide +kernel
theorem d_J_loseLateItems_49 : decode b_J_loseLateItems 49 = .ok (.aaload, 1) := by decide +kernel
theorem d_J_loseLateItems_50 : decode b_J_loseLateItems 50 = .ok (.iload_n 3, 1) := by decide +kernel
theorem d_J_loseLateItems_51 : decode b_J_loseLateItems 51 = .ok (.invokevirtual 223, 3) := by decide +kernel
theorem d_J_loseLateItems_54 : decode b_J_loseLateItems 54 = .ok (.iinc 2 1, 3) := by decide +kernel
theorem d_J_loseLateItems_57 : decode b_J_loseLateItems 57 = .ok (.goto (-55), 3) := by decide +kernel
theorem d_J_loseLateItems_60 : decode b_J_loseLateItems 60 = .ok (.return_, 1) := by decide +kernel
theorem d_J_becomeLight_0 : decode b_J_becomeLight 0 = .ok (.aload_n 0, 1) := by decide +kernel
theorem d_J_becomeLight_1 : decode b_J_becomeLight 1 = .ok (.getfield 11, 3) := by decide +kernel
theorem d_J_becomeLight_4 : decode b_J_becomeLight 4 = .ok (.iload_n 1, 1) := by decide +kernel
theorem d_J_becomeLight_5 : decode b_J_becomeLight 5 = .ok (.aaload, 1) := by decide +kernel
theorem d_J_becomeLight_6 : decode b_J_becomeLight 6 = .ok (.getfield 194, 3) := by decide +kernel
theorem d_J_becomeLight_9 : decode b_J_becomeLight 9 = .ok (.istore_n 2, 1) := by decide +kernel
theorem d_J_becomeLight_10 : decode b_J_becomeLight 10 = .ok (.aload_n 0, 1) := by decide +kernel
theorem d_J_becomeLight_11 : decode b_J_becomeLight 11 = .ok (.iload_n 2, 1) := by decide +kernel
theorem d_J_becomeLight_12 : decode b_J_becomeLight 12 = .ok (.invokevirtual 136, 3) := by decide +kernel
theorem d_J_becomeLight_15 : decode b_J_becomeLight 15 = .ok (.ifCond .eq 28, 3) := by decide +kernel
theorem d_J_becomeLight_18 : decode b_J_becomeLight 18 = .ok (.aload_n 0, 1) := by decide +kernel
theorem d_J_becomeLight_19 : decode b_J_becomeLight 19 = .ok (.iload_n 1, 1) := by decide +kernel
theorem d_J_becomeLight_20 : decode b_J_becomeLight 20 = .ok (.iload_n 2, 1) := by decide +kernel
theorem d_J_becomeLight_21 : decode b_J_becomeLight 21 = .ok (.invokevirtual 226, 3) := by decide +kernel
theorem d_J_becomeLight_24 : decode b_J_becomeLight 24 = .ok (.iload_n 1, 1) := by decide +kernel
theorem d_J_becomeLight_25 : decode b_J_becomeLight 25 = .ok (.aload_n 0, 1) := by decide +kernel
theorem d_J_becomeLight_26 : decode b_J_becomeLight 26 = .ok (.getfield 15, 3) := by decide +kernel
theorem d_J_becomeLight_29 : decode b_J_becomeLight 29 = .ok (.iconst 1, 1) := by decide +kernel
theorem d_J_becomeLight_30 : decode b_J_becomeLight 30 = .ok (.isub, 1) := by decide +kernel
theorem d_J_becomeLight_31 : decode b_J_becomeLight 31 = .ok (.if_icmp .ne 12, 3) := by decide +kernel
theorem d_J_becomeLight_34 : decode b_J_becomeLight 34 = .ok (.aload_n 0, 1) := by decide +kernel
theorem d_J_becomeLight_35 : decode b_J_becomeLight 35 = .ok (.getfield 21, 3) := by decide +kernel
theorem d_J_becomeLight_38 : decode b_J_becomeLight 38 = .ok (.iload_n 2, 1) := by decide +kernel
theorem d_J_becomeLight_39 : decode b_J_becomeLight 39 = .ok (.aaload, 1) := by decide +kernel
theorem d_J_becomeLight_40 : decode b_J_becomeLight 40 = .ok (.invokevirtual 230, 3) := by decide +kernel
theorem d_J_becomeLight_43 : decode b_J_becomeLight 43 = .ok (.aload_n 0, 1) := by decide +kernel
theorem d_J_becomeLight_44 : decode b_J_becomeLight 44 = .ok (.getfield 11, 3) := by decide +kernel
theorem d_J_becomeLight_47 : decode b_J_becomeLight 47 = .ok (.iload_n 1, 1) := by decide +kernel
theorem d_J_becomeLight_48 : decode b_J_becomeLight 48 = .ok (.aaload, 1) := by decide +kernel
theorem d_J_becomeLight_49 : decode b_J_becomeLight 49 = .ok (.invokevirtual 233, 3) := by decide +kernel
theorem d_J_becomeLight_52 : decode b_J_becomeLight 52 = .ok (.return_, 1) := by decide +kernel
theorem d_J_judgeLength_0 : decode b_J_judgeLength 0 = .ok (.aload_n 0, 1) := by decide +kernel
theorem d_J_judgeLength_1 : decode b_J_judgeLength 1 = .ok (.getfield 54, 3) := by decide +kernel
theorem d_J_judgeLength_4 : decode b_J_judgeLength 4 = .ok (.aload_n 0, 1) := by decide +kernel
theorem d_J_judgeLength_5 : decode b_J_judgeLength 5 = .ok (.getfield 11, 3) := by decide +kernel
theorem d_J_judgeLength_8 : decode b_J_judgeLength 8 = .ok (.iload_n 1, 1) := by decide +kernel
theorem d_J_judgeLength_9 : decode b_J_judgeLength 9 = .ok (.aaload, 1) := by decide +kernel
theorem d_J_judgeLength_10 : decode b_J_judgeLength 10 = .ok (.getfield 185, 3) := by decide +kernel
theorem d_J_judgeLength_13 : decode b_J_judgeLength 13 = .ok (.lsub, 1) := by decide +kernel
theorem d_J_judgeLength_14 : decode b_J_judgeLength 14 = .ok (.aload_n 0, 1) := by decide +kernel
theorem d_J_judgeLength_15 : decode b_J_judgeLength 15 = .ok (.getfield 21, 3) := by decide +kernel
theorem d_J_judgeLength_18 : decode b_J_judgeLength 18 = .ok (.iload_n 2, 1) := by decide +kernel
theorem d_J_judgeLength_19 : decode b_J_judgeLength 19 = .ok (.aaload, 1) := by decide +kernel
theorem d_J_judgeLength_20 : decode b_J_judgeLength 20 = .ok (.getfield 177, 3) := by decide +kernel
theorem d_J_judgeLength_23 : decode b_J_judgeLength 23 = .ok (.lsub, 1) := by decide +kernel
theorem d_J_judgeLength_24 : decode b_J_judgeLength 24 = .ok (.lstore_n 3, 1) := by decide +kernel
theorem d_J_judgeLength_25 : decode b_J_judgeLength 25 = .ok (.lload_n 3, 1) := by decide +kernel
theorem d_J_judgeLength_26 : decode b_J_judgeLength 26 = .ok (.ldc2_w 221, 3) := by decide +kernel
theorem d_J_judgeLength_29 : decode b_J_judgeLength 29 = .ok (.lcmp, 1) := by decide +kernel
theorem d_J_judgeLength_30 : decode b_J_judgeLength 30 = .ok (.ifCond .le 54, 3) := by decide +kernel
theorem d_J_judgeLength_33 : decode b_J_judgeLength 33 = .ok (.aload_n 0, 1) := by decide +kernel
theorem d_J_judgeLength_34 : decode b_J_judgeLength 34 = .ok (.iconst 3, 1) := by decide +kernel
theorem d_J_judgeLength_35 : decode b_J_judgeLength 35 = .ok (.iload_n 1, 1) := by decide +kernel
theorem d_J_judgeLength_36 : decode b_J_judgeLength 36 = .ok (.invokevirtual 151, 3) := by decide +kernel
theorem d_J_judgeLength_39 : decode b_J_judgeLength 39 = .ok (.istore 5, 2) := by decide +kernel
theorem d_J_judgeLength_41 : decode b_J_judgeLength 41 = .ok (.aload_n 0, 1) := by decide +kernel
theorem d_J_judgeLength_42 : decode b_J_judgeLength 42 = .ok (.getfield 21, 3) := by decide +kernel
theorem d_J_judgeLength_45 : decode b_J_judgeLength 45 = .ok (.iload_n 2, 1) := by decide +kernel
theorem d_J_judgeLength_46 : decode b_J_judgeLength 46 = .ok (.aaload, 1) := by decide +kernel
theorem d_J_judgeLength_47 : decode b_J_judgeLength 47 = .ok (.iload 5, 2) := by decide +kernel
theorem d_J_judgeLength_49 : decode b_J_judgeLength 49 = .ok (.invokevirtual 223, 3) := by decide +kernel
theorem d_J_judgeLength_52 : decode b_J_judgeLength 52 = .ok (.aload_n 0, 1) := by decide +kernel
theorem d_J_judgeLength_53 : decode b_J_judgeLength 53 = .ok (.iload_n 1, 1) := by decide +kernel
theorem d_J_judgeLength_54 : decode b_J_judgeLength 54 = .ok (.invokevirtual 200, 3) := by decide +kernel
theorem d_J_judgeLength_57 : decode b_J_judgeLength 57 = .ok (.istore 6, 2) := by decide +kernel
theorem d_J_judgeLength_59 : decode b_J_judgeLength 59 = .ok (.aload_n 0, 1) := by decide +kernel
theorem d_J_judgeLength_60 : decode b_J_judgeLength 60 = .ok (.iload 6, 2) := by decide +kernel
theorem d_J_judgeLength_62 : decode b_J_judgeLength 62 = .ok (.iload_n 1, 1) := by decide +kernel
theorem d_J_judgeLength_63 : decode b_J_judgeLength 63 = .ok (.invokevirtual 203, 3) := by decide +kernel
theorem d_J_judgeLength_66 : decode b_J_judgeLength 66 = .ok (.ifCond .eq 15, 3) := by decide +kernel
theorem d_J_judgeLength_69 : decode b_J_judgeLength 69 = .ok (.aload_n 0, 1) := by decide +kernel
theorem d_J_judgeLength_70 : decode b_J_judgeLength 70 = .ok (.getfield 21, 3) := by decide +kernel
theorem d_J_judgeLength_73 : decode b_J_judgeLength 73 = .ok (.iload 6, 2) := by decide +kernel
theorem d_J_judgeLength_75 : decode b_J_judgeLength 75 = .ok (.aaload, 1) := by decide +kernel
theorem d_J_judgeLength_76 : decode b_J_judgeLength 76 = .ok (.iload 5, 2) := by decide +kernel
theorem d_J_judgeLength_78 : decode b_J_judgeLength 78 = .ok (.invokevirtual 223, 3) := by decide +kernel
theorem d_J_judgeLength_81 : decode b_J_judgeLength 81 = .ok (.goto 18, 3) := by decide +kernel
theorem d_J_judgeLength_84 : decode b_J_judgeLength 84 = .ok (.lload_n 3, 1) := by decide +kernel
theorem d_J_judgeLength_85 : decode b_J_judgeLength 85 = .ok (.ldc2_w 236, 3) := by decide +kernel
theorem d_J_judgeLength_88 : decode b_J_judgeLength 88 = .ok (.lcmp, 1) := by decide +kernel
theorem d_J_judgeLength_89 : decode b_J_judgeLength 89 = .ok (.ifCond .ge 10, 3) := by decide +kernel
theorem d_J_judgeLength_92 : decode b_J_judgeLength 92 = .ok (.aload_n 0, 1) := by decide +kernel
theorem d_J_judgeLength_93 : decode b_J_judgeLength 93 = .ok (.iconst 4, 1) := by decide +kernel
theorem d_J_judgeLength_94 : decode b_J_judgeLength 94 = .ok (.iload_n 1, 1) := by decide +kernel
theorem d_J_judgeLength_95 : decode b_J_judgeLength 95 = .ok (.invokevirtual 151, 3) := by decide +kernel
theorem d_J_judgeLength_98 : decode b_J_judgeLength 98 = .ok (.pop, 1) := by decide +kernel
theorem d_J_judgeLength_99 : decode b_J_judgeLength 99 = .ok (.return_, 1) := by decide +kernel
theorem d_J_isAwaited_0 : decode b_J_isAwaited 0 = .ok (.aload_n 0, 1) := by decide +kernel
theorem d_J_isAwaited_1 : decode b_J_isAwaited 1 = .ok (.getfield 21, 3) := by decide +kernel
theorem d_J_isAwaited_4 : decode b_J_isAwaited 4 = .ok (.iload_n 1, 1) := by decide +kernel
theorem d_J_isAwaited_5 : decode b_J_isAwaited 5 = .ok (.aaload, 1) := by decide +kernel
theorem d_J_isAwaited_6 : decode b_J_isAwaited 6 = .ok (.invokevirtual 238, 3) := by decide +kernel
theorem d_J_isAwaited_9 : decode b_J_isAwaited 9 = .ok (.ifCond .eq 20, 3) := by decide +kernel
theorem d_J_isAwaited_12 : decode b_J_isAwaited 12 = .ok (.aload_n 0, 1) := by decide +kernel
theorem d_J_isAwaited_13 : decode b_J_isAwaited 13 = .ok (.getfield 21, 3) := by decide +kernel
theorem d_J_isAwaited_16 : decode b_J_isAwaited 16 = .ok (.iload_n 1, 1) := by decide +kernel
theorem d_J_isAwaited_17 : decode b_J_isAwaited 17 = .ok (.aaload, 1) := by decide +kernel
theorem d_J_isAwaited_18 : decode b_J_isAwaited 18 = .ok (.iload_n 2, 1) := by decide +kernel
theorem d_J_isAwaited_19 : decode b_J_isAwaited 19 = .ok (.invokevirtual 241, 3) := by decide +kernel
theorem d_J_isAwaited_22 : decode b_J_isAwaited 22 = .ok (.ifCond .ne 7, 3) := by decide +kernel
theorem d_J_isAwaited_25 : decode b_J_isAwaited 25 = .ok (.iconst 1, 1) := by decide +kernel
theorem d_J_isAwaited_26 : decode b_J_isAwaited 26 = .ok (.goto 4, 3) := by decide +kernel
theorem d_J_isAwaited_29 : decode b_J_isAwaited 29 = .ok (.iconst 0, 1) := by decide +kernel
theorem d_J_isAwaited_30 : decode b_J_isAwaited 30 = .ok (.ireturn, 1) := by decide +kernel
theorem d_J_leastUnseen_0 : decode b_J_leastUnseen 0 = .ok (.iconst 1, 1) := by decide +kernel
theorem d_J_leastUnseen_1 : decode b_J_leastUnseen 1 = .ok (.istore_n 2, 1) := by decide +kernel
theorem d_J_leastUnseen_2 : decode b_J_leastUnseen 2 = .ok (.iload_n 2, 1) := by decide +kernel
theorem d_J_leastUnseen_3 : decode b_J_leastUnseen 3 = .ok (.aload_n 0, 1) := by decide +kernel
theorem d_J_leastUnseen_4 : decode b_J_leastUnseen 4 = .ok (.getfield 25, 3) := by decide +kernel
theorem d_J_leastUnseen_7 : decode b_J_leastUnseen 7 = .ok (.if_icmp .gt 20, 3) := by decide +kernel
theorem d_J_leastUnseen_10 : decode b_J_leastUnseen 10 = .ok (.aload_n 0, 1) := by decide +kernel
theorem d_J_leastUnseen_11 : decode b_J_leastUnseen 11 = .ok (.iload_n 2, 1) := by decide +kernel
theorem d_J_leastUnseen_12 : decode b_J_leastUnseen 12 = .ok (.iload_n 1, 1) := by decide +kernel
theorem d_J_leastUnseen_13 : decode b_J_leastUnseen 13 = .ok (.invokevirtual 214, 3) := by decide +kernel
theorem d_J_leastUnseen_16 : decode b_J_leastUnseen 16 = .ok (.ifCond .eq 5, 3) := by decide +kernel
theorem d_J_leastUnseen_19 : decode b_J_leastUnseen 19 = .ok (.iload_n 2, 1) := by decide +kernel
theorem d_J_leastUnseen_20 : decode b_J_leastUnseen 20 = .ok (.ireturn, 1) := by decide +kernel
theorem d_J_leastUnseen_21 : decode b_J_leastUnseen 21 = .ok (.iinc 2 1, 3) := by decide +kernel
theorem d_J_leastUnseen_24 : decode b_J_leastUnseen 24 = .ok (.goto (-22), 3) := by decide +kernel
theorem d_J_leastUnseen_27 : decode b_J_leastUnseen 27 = .ok (.iconst 0, 1) := by decide +kernel
theorem d_J_leastUnseen_28 : decode b_J_leastUnseen 28 = .ok (.ireturn, 1) := by decide +kernel
theorem d_J_isComing_0 : decode b_J_isComing 0 = .ok (.aload_n 0, 1) := by decide +kernel
theorem d_J_isComing_1 : decode b_J_isComing 1 = .ok (.iload_n 1, 1) := by decide +kernel
theorem d_J_isComing_2 : decode b_J_isComing 2 = .ok (.invokevirtual 136, 3) := by decide +kernel
theorem d_J_isComing_5 : decode b_J_isComing 5 = .ok (.ifCond .eq 25, 3) := by decide +kernel
theorem d_J_isComing_8 : decode b_J_isComing 8 = .ok (.aload_n 0, 1) := by decide +kernel
theorem d_J_isComing_9 : decode b_J_isComing 9 = .ok (.iload_n 1, 1) := by decide +kernel
theorem d_J_isComing_10 : decode b_J_isComing 10 = .ok (.iload_n 2, 1) := by decide +kernel
theorem d_J_isComing_11 : decode b_J_isComing 11 = .ok (.invokevirtual 217, 3) := by decide +kernel
theorem d_J_isComing_14 : decode b_J_isComing 14 = .ok (.aload_n 0, 1) := by decide +kernel
theorem d_J_isComing_15 : decode b_J_isComing 15 = .ok (.getfield 54, 3) := by decide +kernel
theorem d_J_isComing_18 : decode b_J_isComing 18 = .ok (.ldc2_w 221, 3) := by decide +kernel
theorem d_J_isComing_21 : decode b_J_isComing 21 = .ok (.ladd, 1) := by decide +kernel
theorem d_J_isComing_22 : decode b_J_isComing 22 = .ok (.lcmp, 1) := by decide +kernel
theorem d_J_isComing_23 : decode b_J_isComing 23 = .ok (.ifCond .gt 7, 3) := by decide +kernel
theorem d_J_isComing_26 : decode b_J_isComing 26 = .ok (.iconst 1, 1) := by decide +kernel
theorem d_J_isComing_27 : decode b_J_isComing 27 = .ok (.goto 4, 3) := by decide +kernel
theorem d_J_isComing_30 : decode b_J_isComing 30 = .ok (.iconst 0, 1) := by decide +kernel
theorem d_J_isComing_31 : decode b_J_isComing 31 = .ok (.ireturn, 1) := by decide +kernel
theorem d_J_dueAt_0 : decode b_J_dueAt 0 = .ok (.aload_n 0, 1) := by decide +kernel
theorem d_J_dueAt_1 : decode b_J_dueAt 1 = .ok (.getfield 21, 3) := by decide +kernel
theorem d_J_dueAt_4 : decode b_J_dueAt 4 = .ok (.iload_n 1, 1) := by decide +kernel
theorem d_J_dueAt_5 : decode b_J_dueAt 5 = .ok (.aaload, 1) := by decide +kernel
theorem d_J_dueAt_6 : decode b_J_dueAt 6 = .ok (.getfield 174, 3) := by decide +kernel
theorem d_J_dueAt_9 : decode b_J_dueAt 9 = .ok (.aload_n 0, 1) := by decide +kernel
theorem d_J_dueAt_10 : decode b_J_dueAt 10 = .ok (.getfield 11, 3) := by decide +kernel
theorem d_J_dueAt_13 : decode b_J_dueAt 13 = .ok (.iload_n 2, 1) := by decide +kernel
theorem d_J_dueAt_14 : decode b_J_dueAt 14 = .ok (.aaload, 1) := by decide +kernel
theorem d_J_dueAt_15 : decode b_J_dueAt 15 = .ok (.getfield 58, 3) := by decide +kernel
theorem d_J_dueAt_18 : decode b_J_dueAt 18 = .ok (.ladd, 1) := by decide +kernel
theorem d_J_dueAt_19 : decode b_J_dueAt 19 = .ok (.lreturn, 1) := by decide +kernel
theorem d_J_tell_0 : decode b_J_tell 0 = .ok (.aload_n 0, 1) := by decide +kernel
theorem d_J_tell_1 : decode b_J_tell 1 = .ok (.getfield 34, 3) := by decide +kernel
theorem d_J_tell_4 : decode b_J_tell 4 = .ok (.bipush 40, 2) := by decide +kernel
theorem d_J_tell_6 : decode b_J_tell 6 = .ok (.if_icmp .lt 5, 3) := by decide +kernel
theorem d_J_tell_9 : decode b_J_tell 9 = .ok (.iconst 0, 1) := by decide +kernel
theorem d_J_tell_10 : decode b_J_tell 10 = .ok (.ireturn, 1) := by decide +kernel
theorem d_J_tell_11 : decode b_J_tell 11 = .ok (.aload_n 0, 1) := by decide +kernel
theorem d_J_tell_12 : decode b_J_tell 12 = .ok (.getfield 44, 3) := by decide +kernel
theorem d_J_tell_15 : decode b_J_tell 15 = .ok (.iload_n 1, 1) := by decide +kernel
theorem d_J_tell_16 : decode b_J_tell 16 = .ok (.baload, 1) := by decide +kernel
theorem d_J_tell_17 : decode b_J_tell 17 = .ok (.istore_n 3, 1) := by decide +kernel
theorem d_J_tell_18 : decode b_J_tell 18 = .ok (.iload_n 3, 1) := by decide +kernel
theorem d_J_tell_19 : decode b_J_tell 19 = .ok (.ifCond .eq 17, 3) := by decide +kernel
theorem d_J_tell_22 : decode b_J_tell 22 = .ok (.aload_n 0, 1) := by decide +kernel
theorem d_J_tell_23 : decode b_J_tell 23 = .ok (.getfield 40, 3) := by decide +kernel
theorem d_J_tell_26 : decode b_J_tell 26 = .ok (.iload_n 1, 1) := by decide +kernel
theorem d_J_tell_27 : decode b_J_tell 27 = .ok (.iconst 1, 1) := by decide +kernel
theorem d_J_tell_28 : decode b_J_tell 28 = .ok (.bastore, 1) := by decide +kernel
theorem d_J_tell_29 : decode b_J_tell 29 = .ok (.aload_n 0, 1) := by decide +kernel
theorem d_J_tell_30 : decode b_J_tell 30 = .ok (.getfield 44, 3) := by decide +kernel
theorem d_J_tell_33 : decode b_J_tell 33 = .ok (.iload_n 1, 1) := by decide +kernel
theorem d_J_tell_34 : decode b_J_tell 34 = .ok (.iconst 0, 1) := by decide +kernel
theorem d_J_tell_35 : decode b_J_tell 35 = .ok (.bastore, 1) := by decide +kernel
theorem d_J_tell_36 : decode b_J_tell 36 = .ok (.new 28, 3) := by decide +kernel
theorem d_J_tell_39 : decode b_J_tell 39 = .ok (.dup, 1) := by decide +kernel
theorem d_J_tell_40 : decode b_J_tell 40 = .ok (.iload_n 1, 1) := by decide +kernel
theorem d_J_tell_41 : decode b_J_tell 41 = .ok (.iload_n 2, 1) := by decide +kernel
theorem d_J_tell_42 : decode b_J_tell 42 = .ok (.aload_n 0, 1) := by decide +kernel
theorem d_J_tell_43 : decode b_J_tell 43 = .ok (.getfield 54, 3) := by decide +kernel
theorem d_J_tell_46 : decode b_J_tell 46 = .ok (.invokespecial 244, 3) := by decide +kernel
theorem d_J_tell_49 : decode b_J_tell 49 = .ok (.astore 4, 2) := by decide +kernel
theorem d_J_tell_51 : decode b_J_tell 51 = .ok (.aload 4, 2) := by decide +kernel
theorem d_J_tell_53 : decode b_J_tell 53 = .ok (.iload_n 3, 1) := by decide +kernel
theorem d_J_tell_54 : decode b_J_tell 54 = .ok (.putfield 117, 3) := by decide +kernel
theorem d_J_tell_57 : decode b_J_tell 57 = .ok (.aload 4, 2) := by decide +kernel
theorem d_J_tell_59 : decode b_J_tell 59 = .ok (.aload_n 0, 1) := by decide +kernel
theorem d_J_tell_60 : decode b_J_tell 60 = .ok (.getfield 40, 3) := by decide +kernel
theorem d_J_tell_63 : decode b_J_tell 63 = .ok (.iload_n 1, 1) := by decide +kernel
theorem d_J_tell_64 : decode b_J_tell 64 = .ok (.baload, 1) := by decide +kernel
theorem d_J_tell_65 : decode b_J_tell 65 = .ok (.putfield 169, 3) := by decide +kernel
theorem d_J_tell_68 : decode b_J_tell 68 = .ok (.aload 4, 2) := by decide +kernel
theorem d_J_tell_70 : decode b_J_tell 70 = .ok (.aload_n 0, 1) := by decide +kernel
theorem d_J_tell_71 : decode b_J_tell 71 = .ok (.iload_n 2, 1) := by decide +kernel
theorem d_J_tell_72 : decode b_J_tell 72 = .ok (.invokevirtual 247, 3) := by decide +kernel
theorem d_J_tell_75 : decode b_J_tell 75 = .ok (.putfield 251, 3) := by decide +kernel
theorem d_J_tell_78 : decode b_J_tell 78 = .ok (.aload_n 0, 1) := by decide +kernel
theorem d_J_tell_79 : decode b_J_tell 79 = .ok (.dup, 1) := by decide +kernel
theorem d_J_tell_80 : decode b_J_tell 80 = .ok (.getfield 34, 3) := by decide +kernel
theorem d_J_tell_83 : decode b_J_tell 83 = .ok (.iconst 1, 1) := by decide +kernel
theorem d_J_tell_84 : decode b_J_tell 84 = .ok (.iadd, 1) := by decide +kernel
theorem d_J_tell_85 : decode b_J_tell 85 = .ok (.putfield 34, 3) := by decide +kernel
theorem d_J_tell_88 : decode b_J_tell 88 = .ok (.aload_n 0, 1) := by decide +kernel
theorem d_J_tell_89 : decode b_J_tell 89 = .ok (.getfield 30, 3) := by decide +kernel
theorem d_J_tell_92 : decode b_J_tell 92 = .ok (.aload_n 0, 1) := by decide +kernel
theorem d_J_tell_93 : decode b_J_tell 93 = .ok (.getfield 34, 3) := by decide +kernel
theorem d_J_tell_96 : decode b_J_tell 96 = .ok (.aload 4, 2) := by decide +kernel
theorem d_J_tell_98 : decode b_J_tell 98 = .ok (.aastore, 1) := by decide +kernel
theorem d_J_tell_99 : decode b_J_tell 99 = .ok (.aload_n 0, 1) := by decide +kernel
theorem d_J_tell_100 : decode b_J_tell 100 = .ok (.getfield 34, 3) := by decide +kernel
theorem d_J_tell_103 : decode b_J_tell 103 = .ok (.ireturn, 1) := by decide +kernel
theorem d_J_doubtAt_0 : decode b_J_doubtAt 0 = .ok (.lconst 0, 1) := by decide +kernel
theorem d_J_doubtAt_1 : decode b_J_doubtAt 1 = .ok (.lstore_n 2, 1) := by decide +kernel
theorem d_J_doubtAt_2 : decode b_J_doubtAt 2 = .ok (.aload_n 0, 1) := by decide +kernel
theorem d_J_doubtAt_3 : decode b_J_doubtAt 3 = .ok (.iload_n 1, 1) := by decide +kernel
theorem d_J_doubtAt_4 : decode b_J_doubtAt 4 = .ok (.invokevirtual 87, 3) := by decide +kernel
theorem d_J_doubtAt_7 : decode b_J_doubtAt 7 = .ok (.ifCond .eq 38, 3) := by decide +kernel
theorem d_J_doubtAt_10 : decode b_J_doubtAt 10 = .ok (.iconst 1, 1) := by decide +kernel
theorem d_J_doubtAt_11 : decode b_J_doubtAt 11 = .ok (.istore 4, 2) := by decide +kernel
theorem d_J_doubtAt_13 : decode b_J_doubtAt 13 = .ok (.iload 4, 2) := by decide +kernel
theorem d_J_doubtAt_15 : decode b_J_doubtAt 15 = .ok (.aload_n 0, 1) := by decide +kernel
theorem d_J_doubtAt_16 : decode b_J_doubtAt 16 = .ok (.getfield 25, 3) := by decide +kernel
theorem d_J_doubtAt_19 : decode b_J_doubtAt 19 = .ok (.if_icmp .gt 26, 3) := by decide +kernel
theorem d_J_doubtAt_22 : decode b_J_doubtAt 22 = .ok (.aload_n 0, 1) := by decide +kernel
theorem d_J_doubtAt_23 : decode b_J_doubtAt 23 = .ok (.iload 4, 2) := by decide +kernel
theorem d_J_doubtAt_25 : decode b_J_doubtAt 25 = .ok (.iload_n 1, 1) := by decide +kernel
theorem d_J_doubtAt_26 : decode b_J_doubtAt 26 = .ok (.invokevirtual 254, 3) := by decide +kernel
theorem d_J_doubtAt_29 : decode b_J_doubtAt 29 = .ok (.ifCond .eq 10, 3) := by decide +kernel
theorem d_J_doubtAt_32 : decode b_J_doubtAt 32 = .ok (.lload_n 2, 1) := by decide +kernel
theorem d_J_doubtAt_33 : decode b_J_doubtAt 33 = .ok (.lconst 1, 1) := by decide +kernel
theorem d_J_doubtAt_34 : decode b_J_doubtAt 34 = .ok (.iload 4, 2) := by decide +kernel
theorem d_J_doubtAt_36 : decode b_J_doubtAt 36 = .ok (.lshl, 1) := by decide +kernel
theorem d_J_doubtAt_37 : decode b_J_doubtAt 37 = .ok (.lor, 1) := by decide +kernel
theorem d_J_doubtAt_38 : decode b_J_doubtAt 38 = .ok (.lstore_n 2, 1) := by decide +kernel
theorem d_J_doubtAt_39 : decode b_J_doubtAt 39 = .ok (.iinc 4 1, 3) := by decide +kernel
theorem d_J_doubtAt_42 : decode b_J_doubtAt 42 = .ok (.goto (-29), 3) := by decide +kernel
theorem d_J_doubtAt_45 : decode b_J_doubtAt 45 = .ok (.lload_n 2, 1) := by decide +kernel
theorem d_J_doubtAt_46 : decode b_J_doubtAt 46 = .ok (.lreturn, 1) := by decide +kernel
theorem d_J_isInDoubt_0 : decode b_J_isInDoubt 0 = .ok (.aload_n 0, 1) := by decide +kernel
theorem d_J_isInDoubt_1 : decode b_J_isInDoubt 1 = .ok (.getfield 21, 3) := by decide +kernel
theorem d_J_isInDoubt_4 : decode b_J_isInDoubt 4 = .ok (.iload_n 1, 1) := by decide +kernel
theorem d_J_isInDoubt_5 : decode b_J_isInDoubt 5 = .ok (.aaload, 1) := by decide +kernel
theorem d_J_isInDoubt_6 : decode b_J_isInDoubt 6 = .ok (.astore_n 3, 1) := by decide +kernel
theorem d_J_isInDoubt_7 : decode b_J_isInDoubt 7 = .ok (.aload_n 3, 1) := by decide +kernel
theorem d_J_isInDoubt_8 : decode b_J_isInDoubt 8 = .ok (.invokevirtual 238, 3) := by decide +kernel
theorem d_J_isInDoubt_11 : decode b_J_isInDoubt 11 = .ok (.ifCond .ne 5, 3) := by decide +kernel
theorem d_J_isInDoubt_14 : decode b_J_isInDoubt 14 = .ok (.iconst 0, 1) := by decide +kernel
theorem d_J_isInDoubt_15 : decode b_J_isInDoubt 15 = .ok (.ireturn, 1) := by decide +kernel
theorem d_J_isInDoubt_16 : decode b_J_isInDoubt 16 = .ok (.aload_n 3, 1) := by decide +kernel
theorem d_J_isInDoubt_17 : decode b_J_isInDoubt 17 = .ok (.iload_n 2, 1) := by decide +kernel
theorem d_J_isInDoubt_18 : decode b_J_isInDoubt 18 = .ok (.invokevirtual 241, 3) := by decide +kernel
theorem d_J_isInDoubt_21 : decode b_J_isInDoubt 21 = .ok (.ifCond .eq 34, 3) := by decide +kernel
theorem d_J_isInDoubt_24 : decode b_J_isInDoubt 24 = .ok (.aload_n 0, 1) := by decide +kernel
theorem d_J_isInDoubt_25 : decode b_J_isInDoubt 25 = .ok (.getfield 11, 3) := by decide +kernel
theorem d_J_isInDoubt_28 : decode b_J_isInDoubt 28 = .ok (.iload_n 2, 1) := by decide +kernel
theorem d_J_isInDoubt_29 : decode b_J_isInDoubt 29 = .ok (.aaload, 1) := by decide +kernel
theorem d_J_isInDoubt_30 : decode b_J_isInDoubt 30 = .ok (.getfield 91, 3) := by decide +kernel
theorem d_J_isInDoubt_33 : decode b_J_isInDoubt 33 = .ok (.ifCond .eq 20, 3) := by decide +kernel
theorem d_J_isInDoubt_36 : decode b_J_isInDoubt 36 = .ok (.aload_n 0, 1) := by decide +kernel
theorem d_J_isInDoubt_37 : decode b_J_isInDoubt 37 = .ok (.getfield 11, 3) := by decide +kernel
theorem d_J_isInDoubt_40 : decode b_J_isInDoubt 40 = .ok (.iload_n 2, 1) := by decide +kernel
theorem d_J_isInDoubt_41 : decode b_J_isInDoubt 41 = .ok (.aaload, 1) := by decide +kernel
theorem d_J_isInDoubt_42 : decode b_J_isInDoubt 42 = .ok (.getfield 194, 3) := by decide +kernel
theorem d_J_isInDoubt_45 : decode b_J_isInDoubt 45 = .ok (.iload_n 1, 1) := by decide +kernel
theorem d_J_isInDoubt_46 : decode b_J_isInDoubt 46 = .ok (.if_icmp .ne 7, 3) := by decide +kernel
theorem d_J_isInDoubt_49 : decode b_J_isInDoubt 49 = .ok (.iconst 1, 1) := by decide +kernel
theorem d_J_isInDoubt_50 : decode b_J_isInDoubt 50 = .ok (.goto 4, 3) := by decide +kernel
theorem d_J_isInDoubt_53 : decode b_J_isInDoubt 53 = .ok (.iconst 0, 1) := by decide +kernel
theorem d_J_isInDoubt_54 : decode b_J_isInDoubt 54 = .ok (.ireturn, 1) := by decide +kernel
theorem d_J_isInDoubt_55 : decode b_J_isInDoubt 55 = .ok (.iload_n 2, 1) := by decide +kernel
theorem d_J_isInDoubt_56 : decode b_J_isInDoubt 56 = .ok (.ifCond .ne 23, 3) := by decide +kernel
theorem d_J_isInDoubt_59 : decode b_J_isInDoubt 59 = .ok (.aload_n 3, 1) := by decide +kernel
theorem d_J_isInDoubt_60 : decode b_J_isInDoubt 60 = .ok (.getfield 174, 3) := by decide +kernel
theorem d_J_isInDoubt_63 : decode b_J_isInDoubt 63 = .ok (.aload_n 0, 1) := by decide +kernel
theorem d_J_isInDoubt_64 : decode b_J_isInDoubt 64 = .ok (.getfield 54, 3) := by decide +kernel
theorem d_J_isInDoubt_67 : decode b_J_isInDoubt 67 = .ok (.lcmp, 1) := by decide +kernel
theorem d_J_isInDoubt_68 : decode b_J_isInDoubt 68 = .ok (.ifCond .gt 7, 3) := by decide +kernel
theorem d_J_isInDoubt_71 : decode b_J_isInDoubt 71 = .ok (.iconst 1, 1) := by decide +kernel
theorem d_J_isInDoubt_72 : decode b_J_isInDoubt 72 = .ok (.goto 14, 3) := by decide +kernel
theorem d_J_isInDoubt_75 : decode b_J_isInDoubt 75 = .ok (.iconst 0, 1) := by decide +kernel
theorem d_J_isInDoubt_76 : decode b_J_isInDoubt 76 = .ok (.goto 10, 3) := by decide +kernel
theorem d_J_isInDoubt_79 : decode b_J_isInDoubt 79 = .ok (.aload_n 3, 1) := by decide +kernel
theorem d_J_isInDoubt_80 : decode b_J_isInDoubt 80 = .ok (.iload_n 2, 1) := by decide +kernel
theorem d_J_isInDoubt_81 : decode b_J_isInDoubt 81 = .ok (.iconst 1, 1) := by decide +kernel
theorem d_J_isInDoubt_82 : decode b_J_isInDoubt 82 = .ok (.isub, 1) := by decide +kernel
theorem d_J_isInDoubt_83 : decode b_J_isInDoubt 83 = .ok (.invokevirtual 241, 3) := by decide +kernel
theorem d_J_isInDoubt_86 : decode b_J_isInDoubt 86 = .ok (.ireturn, 1) := by decide +kernel
end
section
theorem d_J_cameAgain_0 : decode b_J_cameAgain 0 = .ok (.aload_n 0, 1) := by decide +kernel
theorem d_J_cameAgain_1 : decode b_J_cameAgain 1 = .ok (.getfield 30, 3) := by decide +kernel
theorem d_J_cameAgain_4 : decode b_J_cameAgain 4 = .ok (.iload_n 1, 1) := by decide +kernel
theorem d_J_cameAgain_5 : decode b_J_cameAgain 5 = .ok (.aaload, 1) := by decide +kernel
theorem d_J_cameAgain_6 : decode b_J_cameAgain 6 = .ok (.astore_n 2, 1) := by decide +kernel
theorem d_J_cameAgain_7 : decode b_J_cameAgain 7 = .ok (.iconst 1, 1) := by decide +kernel
theorem d_J_cameAgain_8 : decode b_J_cameAgain 8 = .ok (.istore_n 3, 1) := by decide +kernel
theorem d_J_cameAgain_9 : decode b_J_cameAgain 9 = .ok (.iload_n 3, 1) := by decide +kernel
theorem d_J_cameAgain_10 : decode b_J_cameAgain 10 = .ok (.iload_n 1, 1) := by decide +kernel
theorem d_J_cameAgain_11 : decode b_J_cameAgain 11 = .ok (.if_icmp .ge 45, 3) := by decide +kernel
theorem d_J_cameAgain_14 : decode b_J_cameAgain 14 = .ok (.aload_n 2, 1) := by decide +kernel
theorem d_J_cameAgain_15 : decode b_J_cameAgain 15 = .ok (.getfield 163, 3) := by decide +kernel
theorem d_J_cameAgain_18 : decode b_J_cameAgain 18 = .ok (.aload_n 0, 1) := by decide +kernel
theorem d_J_cameAgain_19 : decode b_J_cameAgain 19 = .ok (.getfield 30, 3) := by decide +kernel
theorem d_J_cameAgain_22 : decode b_J_cameAgain 22 = .ok (.iload_n 3, 1) := by decide +kernel
theorem d_J_cameAgain_23 : decode b_J_cameAgain 23 = .ok (.aaload, 1) := by decide +kernel
theorem d_J_cameAgain_24 : decode b_J_cameAgain 24 = .ok (.getfield 163, 3) := by decide +kernel
theorem d_J_cameAgain_27 : decode b_J_cameAgain 27 = .ok (.lsub, 1) := by decide +kernel
theorem d_J_cameAgain_28 : decode b_J_cameAgain 28 = .ok (.ldc2_w 257, 3) := by decide +kernel
theorem d_J_cameAgain_31 : decode b_J_cameAgain 31 = .ok (.lcmp, 1) := by decide +kernel
theorem d_J_cameAgain_32 : decode b_J_cameAgain 32 = .ok (.ifCond .gt 18, 3) := by decide +kernel
theorem d_J_cameAgain_35 : decode b_J_cameAgain 35 = .ok (.aload_n 0, 1) := by decide +kernel
theorem d_J_cameAgain_36 : decode b_J_cameAgain 36 = .ok (.getfield 30, 3) := by decide +kernel
theorem d_J_cameAgain_39 : decode b_J_cameAgain 39 = .ok (.iload_n 3, 1) := by decide +kernel
theorem d_J_cameAgain_40 : decode b_J_cameAgain 40 = .ok (.aaload, 1) := by decide +kernel
theorem d_J_cameAgain_41 : decode b_J_cameAgain 41 = .ok (.aload_n 2, 1) := by decide +kernel
theorem d_J_cameAgain_42 : decode b_J_cameAgain 42 = .ok (.invokestatic 259, 3) := by decide +kernel
theorem d_J_cameAgain_45 : decode b_J_cameAgain 45 = .ok (.ifCond .eq 5, 3) := by decide +kernel
theorem d_J_cameAgain_48 : decode b_J_cameAgain 48 = .ok (.iconst 1, 1) := by decide +kernel
theorem d_J_cameAgain_49 : decode b_J_cameAgain 49 = .ok (.ireturn, 1) := by decide +kernel
theorem d_J_cameAgain_50 : decode b_J_cameAgain 50 = .ok (.iinc 3 1, 3) := by decide +kernel
theorem d_J_cameAgain_53 : decode b_J_cameAgain 53 = .ok (.goto (-44), 3) := by decide +kernel
theorem d_J_cameAgain_56 : decode b_J_cameAgain 56 = .ok (.iconst 0, 1) := by decide +kernel
theorem d_J_cameAgain_57 : decode b_J_cameAgain 57 = .ok (.ireturn, 1) := by decide +kernel
theorem d_J_isSameTrouble_0 : decode b_J_isSameTrouble 0 = .ok (.aload_n 1, 1) := by decide +kernel
theorem d_J_isSameTrouble_1 : decode b_J_isSameTrouble 1 = .ok (.getfield 114, 3) := by decide +kernel
theorem d_J_isSameTrouble_4 : decode b_J_isSameTrouble 4 = .ok (.bipush 6, 2) := by decide +kernel
theorem d_J_isSameTrouble_6 : decode b_J_isSameTrouble 6 = .ok (.if_icmp .ne 20, 3) := by decide +kernel
theorem d_J_isSameTrouble_9 : decode b_J_isSameTrouble 9 = .ok (.aload_n 0, 1) := by decide +kernel
theorem d_J_isSameTrouble_10 : decode b_J_isSameTrouble 10 = .ok (.getfield 114, 3) := by decide +kernel
theorem d_J_isSameTrouble_13 : decode b_J_isSameTrouble 13 = .ok (.bipush 6, 2) := by decide +kernel
theorem d_J_isSameTrouble_15 : decode b_J_isSameTrouble 15 = .ok (.if_icmp .ne 7, 3) := by decide +kernel
theorem d_J_isSameTrouble_18 : decode b_J_isSameTrouble 18 = .ok (.iconst 1, 1) := by decide +kernel
theorem d_J_isSameTrouble_19 : decode b_J_isSameTrouble 19 = .ok (.goto 23, 3) := by decide +kernel
theorem d_J_isSameTrouble_22 : decode b_J_isSameTrouble 22 = .ok (.iconst 0, 1) := by decide +kernel
theorem d_J_isSameTrouble_23 : decode b_J_isSameTrouble 23 = .ok (.goto 19, 3) := by decide +kernel
theorem d_J_isSameTrouble_26 : decode b_J_isSameTrouble 26 = .ok (.aload_n 0, 1) := by decide +kernel
theorem d_J_isSameTrouble_27 : decode b_J_isSameTrouble 27 = .ok (.getfield 111, 3) := by decide +kernel
theorem d_J_isSameTrouble_30 : decode b_J_isSameTrouble 30 = .ok (.aload_n 1, 1) := by decide +kernel
theorem d_J_isSameTrouble_31 : decode b_J_isSameTrouble 31 = .ok (.getfield 111, 3) := by decide +kernel
theorem d_J_isSameTrouble_34 : decode b_J_isSameTrouble 34 = .ok (.if_icmp .ne 7, 3) := by decide +kernel
theorem d_J_isSameTrouble_37 : decode b_J_isSameTrouble 37 = .ok (.iconst 1, 1) := by decide +kernel
theorem d_J_isSameTrouble_38 : decode b_J_isSameTrouble 38 = .ok (.goto 4, 3) := by decide +kernel
theorem d_J_isSameTrouble_41 : decode b_J_isSameTrouble 41 = .ok (.iconst 0, 1) := by decide +kernel
theorem d_J_isSameTrouble_42 : decode b_J_isSameTrouble 42 = .ok (.ireturn, 1) := by decide +kernel
theorem d_J_faultByRank_0 : decode b_J_faultByRank 0 = .ok (.iload_n 1, 1) := by decide +kernel
theorem d_J_faultByRank_1 : decode b_J_faultByRank 1 = .ok (.ifCond .ge 5, 3) := by decide +kernel
theorem d_J_faultByRank_4 : decode b_J_faultByRank 4 = .ok (.iconst 0, 1) := by decide +kernel
theorem d_J_faultByRank_5 : decode b_J_faultByRank 5 = .ok (.ireturn, 1) := by decide +kernel
theorem d_J_faultByRank_6 : decode b_J_faultByRank 6 = .ok (.iload_n 1, 1) := by decide +kernel
theorem d_J_faultByRank_7 : decode b_J_faultByRank 7 = .ok (.istore_n 2, 1) := by decide +kernel
theorem d_J_faultByRank_8 : decode b_J_faultByRank 8 = .ok (.bipush 9, 2) := by decide +kernel
theorem d_J_faultByRank_10 : decode b_J_faultByRank 10 = .ok (.istore_n 3, 1) := by decide +kernel
theorem d_J_faultByRank_11 : decode b_J_faultByRank 11 = .ok (.iload_n 3, 1) := by decide +kernel
theorem d_J_faultByRank_12 : decode b_J_faultByRank 12 = .ok (.ifCond .le 56, 3) := by decide +kernel
theorem d_J_faultByRank_15 : decode b_J_faultByRank 15 = .ok (.aload_n 0, 1) := by decide +kernel
theorem d_J_faultByRank_16 : decode b_J_faultByRank 16 = .ok (.getfield 37, 3) := by decide +kernel
theorem d_J_faultByRank_19 : decode b_J_faultByRank 19 = .ok (.iconst 1, 1) := by decide +kernel
theorem d_J_faultByRank_20 : decode b_J_faultByRank 20 = .ok (.iadd, 1) := by decide +kernel
theorem d_J_faultByRank_21 : decode b_J_faultByRank 21 = .ok (.istore 4, 2) := by decide +kernel
theorem d_J_faultByRank_23 : decode b_J_faultByRank 23 = .ok (.iload 4, 2) := by decide +kernel
theorem d_J_faultByRank_25 : decode b_J_faultByRank 25 = .ok (.aload_n 0, 1) := by decide +kernel
theorem d_J_faultByRank_26 : decode b_J_faultByRank 26 = .ok (.getfield 34, 3) := by decide +kernel
theorem d_J_faultByRank_29 : decode b_J_faultByRank 29 = .ok (.if_icmp .gt 33, 3) := by decide +kernel
theorem d_J_faultByRank_32 : decode b_J_faultByRank 32 = .ok (.aload_n 0, 1) := by decide +kernel
theorem d_J_faultByRank_33 : decode b_J_faultByRank 33 = .ok (.getfield 30, 3) := by decide +kernel
theorem d_J_faultByRank_36 : decode b_J_faultByRank 36 = .ok (.iload 4, 2) := by decide +kernel
theorem d_J_faultByRank_38 : decode b_J_faultByRank 38 = .ok (.aaload, 1) := by decide +kernel
theorem d_J_faultByRank_39 : decode b_J_faultByRank 39 = .ok (.invokevirtual 159, 3) := by decide +kernel
theorem d_J_faultByRank_42 : decode b_J_faultByRank 42 = .ok (.iload_n 3, 1) := by decide +kernel
theorem d_J_faultByRank_43 : decode b_J_faultByRank 43 = .ok (.if_icmp .ne 13, 3) := by decide +kernel
theorem d_J_faultByRank_46 : decode b_J_faultByRank 46 = .ok (.iload_n 2, 1) := by decide +kernel
theorem d_J_faultByRank_47 : decode b_J_faultByRank 47 = .ok (.ifCond .ne 6, 3) := by decide +kernel
theorem d_J_faultByRank_50 : decode b_J_faultByRank 50 = .ok (.iload 4, 2) := by decide +kernel
theorem d_J_faultByRank_52 : decode b_J_faultByRank 52 = .ok (.ireturn, 1) := by decide +kernel
theorem d_J_faultByRank_53 : decode b_J_faultByRank 53 = .ok (.iinc 2 (-1), 3) := by decide +kernel
theorem d_J_faultByRank_56 : decode b_J_faultByRank 56 = .ok (.iinc 4 1, 3) := by decide +kernel
theorem d_J_faultByRank_59 : decode b_J_faultByRank 59 = .ok (.goto (-36), 3) := by decide +kernel
theorem d_J_faultByRank_62 : decode b_J_faultByRank 62 = .ok (.iinc 3 (-1), 3) := by decide +kernel
theorem d_J_faultByRank_65 : decode b_J_faultByRank 65 = .ok (.goto (-54), 3) := by decide +kernel
theorem d_J_faultByRank_68 : decode b_J_faultByRank 68 = .ok (.iconst 0, 1) := by decide +kernel
theorem d_J_faultByRank_69 : decode b_J_faultByRank 69 = .ok (.ireturn, 1) := by decide +kernel
theorem d_J_nextStep_0 : decode b_J_nextStep 0 = .ok (.aload_n 0, 1) := by decide +kernel
theorem d_J_nextStep_1 : decode b_J_nextStep 1 = .ok (.getfield 127, 3) := by decide +kernel
theorem d_J_nextStep_4 : decode b_J_nextStep 4 = .ok (.iconst 3, 1) := by decide +kernel
theorem d_J_nextStep_5 : decode b_J_nextStep 5 = .ok (.if_icmp .lt 5, 3) := by decide +kernel
theorem d_J_nextStep_8 : decode b_J_nextStep 8 = .ok (.iconst 0, 1) := by decide +kernel
theorem d_J_nextStep_9 : decode b_J_nextStep 9 = .ok (.ireturn, 1) := by decide +kernel
theorem d_J_nextStep_10 : decode b_J_nextStep 10 = .ok (.getstatic 263, 3) := by decide +kernel
theorem d_J_nextStep_13 : decode b_J_nextStep 13 = .ok (.aload_n 0, 1) := by decide +kernel
theorem d_J_nextStep_14 : decode b_J_nextStep 14 = .ok (.getfield 114, 3) := by decide +kernel
theorem d_J_nextStep_17 : decode b_J_nextStep 17 = .ok (.iconst 1, 1) := by decide +kernel
theorem d_J_nextStep_18 : decode b_J_nextStep 18 = .ok (.isub, 1) := by decide +kernel
theorem d_J_nextStep_19 : decode b_J_nextStep 19 = .ok (.iconst 3, 1) := by decide +kernel
theorem d_J_nextStep_20 : decode b_J_nextStep 20 = .ok (.imul, 1) := by decide +kernel
theorem d_J_nextStep_21 : decode b_J_nextStep 21 = .ok (.aload_n 0, 1) := by decide +kernel
theorem d_J_nextStep_22 : decode b_J_nextStep 22 = .ok (.getfield 127, 3) := by decide +kernel
theorem d_J_nextStep_25 : decode b_J_nextStep 25 = .ok (.iadd, 1) := by decide +kernel
theorem d_J_nextStep_26 : decode b_J_nextStep 26 = .ok (.iaload, 1) := by decide +kernel
theorem d_J_nextStep_27 : decode b_J_nextStep 27 = .ok (.ireturn, 1) := by decide +kernel
theorem d_J_resetCounts_0 : decode b_J_resetCounts 0 = .ok (.iconst 0, 1) := by decide +kernel
theorem d_J_resetCounts_1 : decode b_J_resetCounts 1 = .ok (.istore_n 1, 1) := by decide +kernel
theorem d_J_resetCounts_2 : decode b_J_resetCounts 2 = .ok (.iload_n 1, 1) := by decide +kernel
theorem d_J_resetCounts_3 : decode b_J_resetCounts 3 = .ok (.aload_n 0, 1) := by decide +kernel
theorem d_J_resetCounts_4 : decode b_J_resetCounts 4 = .ok (.getfield 15, 3) := by decide +kernel
theorem d_J_resetCounts_7 : decode b_J_resetCounts 7 = .ok (.if_icmp .ge 19, 3) := by decide +kernel
theorem d_J_resetCounts_10 : decode b_J_resetCounts 10 = .ok (.aload_n 0, 1) := by decide +kernel
theorem d_J_resetCounts_11 : decode b_J_resetCounts 11 = .ok (.getfield 11, 3) := by decide +kernel
theorem d_J_resetCounts_14 : decode b_J_resetCounts 14 = .ok (.iload_n 1, 1) := by decide +kernel
theorem d_J_resetCounts_15 : decode b_J_resetCounts 15 = .ok (.aaload, 1) := by decide +kernel
theorem d_J_resetCounts_16 : decode b_J_resetCounts 16 = .ok (.iconst 0, 1) := by decide +kernel
theorem d_J_resetCounts_17 : decode b_J_resetCounts 17 = .ok (.putfield 166, 3) := by decide +kernel
theorem d_J_resetCounts_20 : decode b_J_resetCounts 20 = .ok (.iinc 1 1, 3) := by decide +kernel
theorem d_J_resetCounts_23 : decode b_J_resetCounts 23 = .ok (.goto (-21), 3) := by decide +kernel
theorem d_J_resetCounts_26 : decode b_J_resetCounts 26 = .ok (.return_, 1) := by decide +kernel
theorem d_J_clear_0 : decode b_J_clear 0 = .ok (.aload_n 0, 1) := by decide +kernel
theorem d_J_clear_1 : decode b_J_clear 1 = .ok (.getfield 30, 3) := by decide +kernel
theorem d_J_clear_4 : decode b_J_clear 4 = .ok (.iload_n 1, 1) := by decide +kernel
theorem d_J_clear_5 : decode b_J_clear 5 = .ok (.aaload, 1) := by decide +kernel
theorem d_J_clear_6 : decode b_J_clear 6 = .ok (.astore_n 2, 1) := by decide +kernel
theorem d_J_clear_7 : decode b_J_clear 7 = .ok (.aload_n 0, 1) := by decide +kernel
theorem d_J_clear_8 : decode b_J_clear 8 = .ok (.iload_n 1, 1) := by decide +kernel
theorem d_J_clear_9 : decode b_J_clear 9 = .ok (.putfield 37, 3) := by decide +kernel
theorem d_J_clear_12 : decode b_J_clear 12 = .ok (.aload_n 2, 1) := by decide +kernel
theorem d_J_clear_13 : decode b_J_clear 13 = .ok (.getfield 169, 3) := by decide +kernel
theorem d_J_clear_16 : decode b_J_clear 16 = .ok (.ifCond .eq 8, 3) := by decide +kernel
theorem d_J_clear_19 : decode b_J_clear 19 = .ok (.aload_n 0, 1) := by decide +kernel
theorem d_J_clear_20 : decode b_J_clear 20 = .ok (.iload_n 1, 1) := by decide +kernel
theorem d_J_clear_21 : decode b_J_clear 21 = .ok (.invokevirtual 266, 3) := by decide +kernel
theorem d_J_clear_24 : decode b_J_clear 24 = .ok (.iconst 1, 1) := by decide +kernel
theorem d_J_clear_25 : decode b_J_clear 25 = .ok (.istore_n 3, 1) := by decide +kernel
theorem d_J_clear_26 : decode b_J_clear 26 = .ok (.iload_n 3, 1) := by decide +kernel
theorem d_J_clear_27 : decode b_J_clear 27 = .ok (.aload_n 0, 1) := by decide +kernel
theorem d_J_clear_28 : decode b_J_clear 28 = .ok (.getfield 25, 3) := by decide +kernel
theorem d_J_clear_31 : decode b_J_clear 31 = .ok (.if_icmp .gt 34, 3) := by decide +kernel
theorem d_J_clear_34 : decode b_J_clear 34 = .ok (.aload_n 2, 1) := by decide +kernel
theorem d_J_clear_35 : decode b_J_clear 35 = .ok (.iload_n 3, 1) := by decide +kernel
theorem d_J_clear_36 : decode b_J_clear 36 = .ok (.invokevirtual 108, 3) := by decide +kernel
theorem d_J_clear_39 : decode b_J_clear 39 = .ok (.ifCond .eq 20, 3) := by decide +kernel
theorem d_J_clear_42 : decode b_J_clear 42 = .ok (.aload_n 0, 1) := by decide +kernel
theorem d_J_clear_43 : decode b_J_clear 43 = .ok (.getfield 21, 3) := by decide +kernel
theorem d_J_clear_46 : decode b_J_clear 46 = .ok (.iload_n 3, 1) := by decide +kernel
theorem d_J_clear_47 : decode b_J_clear 47 = .ok (.aaload, 1) := by decide +kernel
theorem d_J_clear_48 : decode b_J_clear 48 = .ok (.invokevirtual 269, 3) := by decide +kernel
theorem d_J_clear_51 : decode b_J_clear 51 = .ok (.ifCond .eq 8, 3) := by decide +kernel
theorem d_J_clear_54 : decode b_J_clear 54 = .ok (.aload_n 0, 1) := by decide +kernel
theorem d_J_clear_55 : decode b_J_clear 55 = .ok (.iload_n 3, 1) := by decide +kernel
theorem d_J_clear_56 : decode b_J_clear 56 = .ok (.invokevirtual 272, 3) := by decide +kernel
theorem d_J_clear_59 : decode b_J_clear 59 = .ok (.iinc 3 1, 3) := by decide +kernel
theorem d_J_clear_62 : decode b_J_clear 62 = .ok (.goto (-36), 3) := by decide +kernel
theorem d_J_clear_65 : decode b_J_clear 65 = .ok (.aload_n 2, 1) := by decide +kernel
theorem d_J_clear_66 : decode b_J_clear 66 = .ok (.getfield 169, 3) := by decide +kernel
theorem d_J_clear_69 : decode b_J_clear 69 = .ok (.ifCond .eq 8, 3) := by decide +kernel
theorem d_J_clear_72 : decode b_J_clear 72 = .ok (.aload_n 0, 1) := by decide +kernel
theorem d_J_clear_73 : decode b_J_clear 73 = .ok (.iload_n 1, 1) := by decide +kernel
theorem d_J_clear_74 : decode b_J_clear 74 = .ok (.invokevirtual 275, 3) := by decide +kernel
theorem d_J_clear_77 : decode b_J_clear 77 = .ok (.return_, 1) := by decide +kernel
theorem d_J_emptyBelt_0 : decode b_J_emptyBelt 0 = .ok (.iconst 1, 1) := by decide +kernel
theorem d_J_emptyBelt_1 : decode b_J_emptyBelt 1 = .ok (.istore_n 2, 1) := by decide +kernel
theorem d_J_emptyBelt_2 : decode b_J_emptyBelt 2 = .ok (.iload_n 2, 1) := by decide +kernel
theorem d_J_emptyBelt_3 : decode b_J_emptyBelt 3 = .ok (.aload_n 0, 1) := by decide +kernel
theorem d_J_emptyBelt_4 : decode b_J_emptyBelt 4 = .ok (.getfield 25, 3) := by decide +kernel
theorem d_J_emptyBelt_7 : decode b_J_emptyBelt 7 = .ok (.if_icmp .gt 31, 3) := by decide +kernel
theorem d_J_emptyBelt_10 : decode b_J_emptyBelt 10 = .ok (.aload_n 0, 1) := by decide +kernel
theorem d_J_emptyBelt_11 : decode b_J_emptyBelt 11 = .ok (.getfield 21, 3) := by decide +kernel
theorem d_J_emptyBelt_14 : decode b_J_emptyBelt 14 = .ok (.iload_n 2, 1) := by decide +kernel
theorem d_J_emptyBelt_15 : decode b_J_emptyBelt 15 = .ok (.aaload, 1) := by decide +kernel
theorem d_J_emptyBelt_16 : decode b_J_emptyBelt 16 = .ok (.invokevirtual 238, 3) := by decide +kernel
theorem d_J_emptyBelt_19 : decode b_J_emptyBelt 19 = .ok (.ifCond .eq 13, 3) := by decide +kernel
theorem d_J_emptyBelt_22 : decode b_J_emptyBelt 22 = .ok (.aload_n 0, 1) := by decide +kernel
theorem d_J_emptyBelt_23 : decode b_J_emptyBelt 23 = .ok (.getfield 21, 3) := by decide +kernel
theorem d_J_emptyBelt_26 : decode b_J_emptyBelt 26 = .ok (.iload_n 2, 1) := by decide +kernel
theorem d_J_emptyBelt_27 : decode b_J_emptyBelt 27 = .ok (.aaload, 1) := by decide +kernel
theorem d_J_emptyBelt_28 : decode b_J_emptyBelt 28 = .ok (.iload_n 1, 1) := by decide +kernel
theorem d_J_emptyBelt_29 : decode b_J_emptyBelt 29 = .ok (.invokevirtual 223, 3) := by decide +kernel
theorem d_J_emptyBelt_32 : decode b_J_emptyBelt 32 = .ok (.iinc 2 1, 3) := by decide +kernel
theorem d_J_emptyBelt_35 : decode b_J_emptyBelt 35 = .ok (.goto (-33), 3) := by decide +kernel
theorem d_J_emptyBelt_38 : decode b_J_emptyBelt 38 = .ok (.iconst 0, 1) := by decide +kernel
theorem d_J_emptyBelt_39 : decode b_J_emptyBelt 39 = .ok (.istore_n 2, 1) := by decide +kernel
theorem d_J_emptyBelt_40 : decode b_J_emptyBelt 40 = .ok (.iload_n 2, 1) := by decide +kernel
theorem d_J_emptyBelt_41 : decode b_J_emptyBelt 41 = .ok (.aload_n 0, 1) := by decide +kernel
theorem d_J_emptyBelt_42 : decode b_J_emptyBelt 42 = .ok (.getfield 15, 3) := by decide +kernel
theorem d_J_emptyBelt_45 : decode b_J_emptyBelt 45 = .ok (.if_icmp .ge 18, 3) := by decide +kernel
theorem d_J_emptyBelt_48 : decode b_J_emptyBelt 48 = .ok (.aload_n 0, 1) := by decide +kernel
theorem d_J_emptyBelt_49 : decode b_J_emptyBelt 49 = .ok (.getfield 11, 3) := by decide +kernel
theorem d_J_emptyBelt_52 : decode b_J_emptyBelt 52 = .ok (.iload_n 2, 1) := by decide +kernel
theorem d_J_emptyBelt_53 : decode b_J_emptyBelt 53 = .ok (.aaload, 1) := by decide +kernel
theorem d_J_emptyBelt_54 : decode b_J_emptyBelt 54 = .ok (.invokevirtual 233, 3) := by decide +kernel
theorem d_J_emptyBelt_57 : decode b_J_emptyBelt 57 = .ok (.iinc 2 1, 3) := by decide +kernel
theorem d_J_emptyBelt_60 : decode b_J_emptyBelt 60 = .ok (.goto (-20), 3) := by decide +kernel
theorem d_J_emptyBelt_63 : decode b_J_emptyBelt 63 = .ok (.return_, 1) := by decide +kernel
theorem d_J_listOffBy_0 : decode b_J_listOffBy 0 = .ok (.iconst 1, 1) := by decide +kernel
theorem d_J_listOffBy_1 : decode b_J_listOffBy 1 = .ok (.istore_n 2, 1) := by decide +kernel
theorem d_J_listOffBy_2 : decode b_J_listOffBy 2 = .ok (.iload_n 2, 1) := by decide +kernel
theorem d_J_listOffBy_3 : decode b_J_listOffBy 3 = .ok (.aload_n 0, 1) := by decide +kernel
theorem d_J_listOffBy_4 : decode b_J_listOffBy 4 = .ok (.getfield 25, 3) := by decide +kernel
theorem d_J_listOffBy_7 : decode b_J_listOffBy 7 = .ok (.if_icmp .gt 39, 3) := by decide +kernel
theorem d_J_listOffBy_10 : decode b_J_listOffBy 10 = .ok (.aload_n 0, 1) := by decide +kernel
theorem d_J_listOffBy_11 : decode b_J_listOffBy 11 = .ok (.getfield 21, 3) := by decide +kernel
theorem d_J_listOffBy_14 : decode b_J_listOffBy 14 = .ok (.iload_n 2, 1) := by decide +kernel
theorem d_J_listOffBy_15 : decode b_J_listOffBy 15 = .ok (.aaload, 1) := by decide +kernel
theorem d_J_listOffBy_16 : decode b_J_listOffBy 16 = .ok (.invokevirtual 269, 3) := by decide +kernel
theorem d_J_listOffBy_19 : decode b_J_listOffBy 19 = .ok (.ifCond .eq 21, 3) := by decide +kernel
theorem d_J_listOffBy_22 : decode b_J_listOffBy 22 = .ok (.aload_n 0, 1) := by decide +kernel
theorem d_J_listOffBy_23 : decode b_J_listOffBy 23 = .ok (.getfield 21, 3) := by decide +kernel
theorem d_J_listOffBy_26 : decode b_J_listOffBy 26 = .ok (.iload_n 2, 1) := by decide +kernel
theorem d_J_listOffBy_27 : decode b_J_listOffBy 27 = .ok (.aaload, 1) := by decide +kernel
theorem d_J_listOffBy_28 : decode b_J_listOffBy 28 = .ok (.getfield 278, 3) := by decide +kernel
theorem d_J_listOffBy_31 : decode b_J_listOffBy 31 = .ok (.iload_n 1, 1) := by decide +kernel
theorem d_J_listOffBy_32 : decode b_J_listOffBy 32 = .ok (.if_icmp .ne 8, 3) := by decide +kernel
theorem d_J_listOffBy_35 : decode b_J_listOffBy 35 = .ok (.aload_n 0, 1) := by decide +kernel
theorem d_J_listOffBy_36 : decode b_J_listOffBy 36 = .ok (.iload_n 2, 1) := by decide +kernel
theorem d_J_listOffBy_37 : decode b_J_listOffBy 37 = .ok (.invokevirtual 272, 3) := by decide +kernel
theorem d_J_listOffBy_40 : decode b_J_listOffBy 40 = .ok (.iinc 2 1, 3) := by decide +kernel
theorem d_J_listOffBy_43 : decode b_J_listOffBy 43 = .ok (.goto (-41), 3) := by decide +kernel
theorem d_J_listOffBy_46 : decode b_J_listOffBy 46 = .ok (.return_, 1) := by decide +kernel
theorem d_J_putOnList_0 : decode b_J_putOnList 0 = .ok (.aload_n 0, 1) := by decide +kernel
theorem d_J_putOnList_1 : decode b_J_putOnList 1 = .ok (.getfield 21, 3) := by decide +kernel
theorem d_J_putOnList_4 : decode b_J_putOnList 4 = .ok (.iload_n 1, 1) := by decide +kernel
theorem d_J_putOnList_5 : decode b_J_putOnList 5 = .ok (.aaload, 1) := by decide +kernel
theorem d_J_putOnList_6 : decode b_J_putOnList 6 = .ok (.getfield 142, 3) := by decide +kernel
theorem d_J_putOnList_9 : decode b_J_putOnList 9 = .ok (.ifCond .ne 42, 3) := by decide +kernel
theorem d_J_putOnList_12 : decode b_J_putOnList 12 = .ok (.aload_n 0, 1) := by decide +kernel
theorem d_J_putOnList_13 : decode b_J_putOnList 13 = .ok (.getfield 51, 3) := by decide +kernel
theorem d_J_putOnList_16 : decode b_J_putOnList 16 = .ok (.bipush 60, 2) := by decide +kernel
theorem d_J_putOnList_18 : decode b_J_putOnList 18 = .ok (.if_icmp .ge 33, 3) := by decide +kernel
theorem d_J_putOnList_21 : decode b_J_putOnList 21 = .ok (.aload_n 0, 1) := by decide +kernel
theorem d_J_putOnList_22 : decode b_J_putOnList 22 = .ok (.getfield 21, 3) := by decide +kernel
theorem d_J_putOnList_25 : decode b_J_putOnList 25 = .ok (.iload_n 1, 1) := by decide +kernel
theorem d_J_putOnList_26 : decode b_J_putOnList 26 = .ok (.aaload, 1) := by decide +kernel
theorem d_J_putOnList_27 : decode b_J_putOnList 27 = .ok (.iconst 1, 1) := by decide +kernel
theorem d_J_putOnList_28 : decode b_J_putOnList 28 = .ok (.putfield 142, 3) := by decide +kernel
theorem d_J_putOnList_31 : decode b_J_putOnList 31 = .ok (.aload_n 0, 1) := by decide +kernel
theorem d_J_putOnList_32 : decode b_J_putOnList 32 = .ok (.getfield 47, 3) := by decide +kernel
theorem d_J_putOnList_35 : decode b_J_putOnList 35 = .ok (.aload_n 0, 1) := by decide +kernel
theorem d_J_putOnList_36 : decode b_J_putOnList 36 = .ok (.getfield 51, 3) := by decide +kernel
theorem d_J_putOnList_39 : decode b_J_putOnList 39 = .ok (.iload_n 1, 1) := by decide +kernel
theorem d_J_putOnList_40 : decode b_J_putOnList 40 = .ok (.iastore, 1) := by decide +kernel
theorem d_J_putOnList_41 : decode b_J_putOnList 41 = .ok (.aload_n 0, 1) := by decide +kernel
theorem d_J_putOnList_42 : decode b_J_putOnList 42 = .ok (.dup, 1) := by decide +kernel
theorem d_J_putOnList_43 : decode b_J_putOnList 43 = .ok (.getfield 51, 3) := by decide +kernel
theorem d_J_putOnList_46 : decode b_J_putOnList 46 = .ok (.iconst 1, 1) := by decide +kernel
theorem d_J_putOnList_47 : decode b_J_putOnList 47 = .ok (.iadd, 1) := by decide +kernel
theorem d_J_putOnList_48 : decode b_J_putOnList 48 = .ok (.putfield 51, 3) := by decide +kernel
theorem d_J_putOnList_51 : decode b_J_putOnList 51 = .ok (.return_, 1) := by decide +kernel
theorem d_J_takeOffList_0 : decode b_J_takeOffList 0 = .ok (.iconst 0, 1) := by decide +kernel
theorem d_J_takeOffList_1 : decode b_J_takeOffList 1 = .ok (.istore_n 2, 1) := by decide +kernel
theorem d_J_takeOffList_2 : decode b_J_takeOffList 2 = .ok (.iconst 0, 1) := by decide +kernel
theorem d_J_takeOffList_3 : decode b_J_takeOffList 3 = .ok (.istore_n 3, 1) := by decide +kernel
theorem d_J_takeOffList_4 : decode b_J_takeOffList 4 = .ok (.iload_n 3, 1) := by decide +kernel
theorem d_J_takeOffList_5 : decode b_J_takeOffList 5 = .ok (.aload_n 0, 1) := by decide +kernel
theorem d_J_takeOffList_6 : decode b_J_takeOffList 6 = .ok (.getfield 51, 3) := by decide +kernel
theorem d_J_takeOffList_9 : decode b_J_takeOffList 9 = .ok (.if_icmp .ge 34, 3) := by decide +kernel
theorem d_J_takeOffList_12 : decode b_J_takeOffList 12 = .ok (.aload_n 0, 1) := by decide +kernel
theorem d_J_takeOffList_13 : decode b_J_takeOffList 13 = .ok (.getfield 47, 3) := by decide +kernel
theorem d_J_takeOffList_16 : decode b_J_takeOffList 16 = .ok (.iload_n 3, 1) := by decide +kernel
theorem d_J_takeOffList_17 : decode b_J_takeOffList 17 = .ok (.iaload, 1) := by decide +kernel
theorem d_J_takeOffList_18 : decode b_J_takeOffList 18 = .ok (.iload_n 1, 1) := by decide +kernel
theorem d_J_takeOffList_19 : decode b_J_takeOffList 19 = .ok (.if_icmp .eq 18, 3) := by decide +kernel
theorem d_J_takeOffList_22 : decode b_J_takeOffList 22 = .ok (.aload_n 0, 1) := by decide +kernel
theorem d_J_takeOffList_23 : decode b_J_takeOffList 23 = .ok (.getfield 47, 3) := by decide +kernel
theorem d_J_takeOffList_26 : decode b_J_takeOffList 26 = .ok (.iload_n 2, 1) := by decide +kernel
theorem d_J_takeOffList_27 : decode b_J_takeOffList 27 = .ok (.aload_n 0, 1) := by decide +kernel
theorem d_J_takeOffList_28 : decode b_J_takeOffList 28 = .ok (.getfield 47, 3) := by decide +kernel
theorem d_J_takeOffList_31 : decode b_J_takeOffList 31 = .ok (.iload_n 3, 1) := by decide +kernel
theorem d_J_takeOffList_32 : decode b_J_takeOffList 32 = .ok (.iaload, 1) := by decide +kernel
theorem d_J_takeOffList_33 : decode b_J_takeOffList 33 = .ok (.iastore, 1) := by decide +kernel
theorem d_J_takeOffList_34 : decode b_J_takeOffList 34 = .ok (.iinc 2 1, 3) := by decide +kernel
theorem d_J_takeOffList_37 : decode b_J_takeOffList 37 = .ok (.iinc 3 1, 3) := by decide +kernel
theorem d_J_takeOffList_40 : decode b_J_takeOffList 40 = .ok (.goto (-36), 3) := by decide +kernel
theorem d_J_takeOffList_43 : decode b_J_takeOffList 43 = .ok (.aload_n 0, 1) := by decide +kernel
theorem d_J_takeOffList_44 : decode b_J_takeOffList 44 = .ok (.iload_n 2, 1) := by decide +kernel
theorem d_J_takeOffList_45 : decode b_J_takeOffList 45 = .ok (.putfield 51, 3) := by decide +kernel
theorem d_J_takeOffList_48 : decode b_J_takeOffList 48 = .ok (.return_, 1) := by decide +kernel
theorem d_F_init_0 : decode b_F_init 0 = .ok (.aload_n 0, 1) := by decide +kernel
theorem d_F_init_1 : decode b_F_init 1 = .ok (.invokespecial 3, 3) := by decide +kernel
theorem d_F_init_4 : decode b_F_init 4 = .ok (.aload_n 0, 1) := by decide +kernel
theorem d_F_init_5 : decode b_F_init 5 = .ok (.iconst 0, 1) := by decide +kernel
theorem d_F_init_6 : decode b_F_init 6 = .ok (.putfield 9, 3) := by decide +kernel
theorem d_F_init_9 : decode b_F_init 9 = .ok (.aload_n 0, 1) := by decide +kernel
theorem d_F_init_10 : decode b_F_init 10 = .ok (.iconst 0, 1) := by decide +kernel
theorem d_F_init_11 : decode b_F_init 11 = .ok (.putfield 15, 3) := by decide +kernel
theorem d_F_init_14 : decode b_F_init 14 = .ok (.aload_n 0, 1) := by decide +kernel
theorem d_F_init_15 : decode b_F_init 15 = .ok (.lconst 0, 1) := by decide +kernel
theorem d_F_init_16 : decode b_F_init 16 = .ok (.putfield 18, 3) := by decide +kernel
theorem d_F_init_19 : decode b_F_init 19 = .ok (.aload_n 0, 1) := by decide +kernel
theorem d_F_init_20 : decode b_F_init 20 = .ok (.iconst 0, 1) := by decide +kernel
theorem d_F_init_21 : decode b_F_init 21 = .ok (.putfield 22, 3) := by decide +kernel
theorem d_F_init_24 : decode b_F_init 24 = .ok (.aload_n 0, 1) := by decide +kernel
theorem d_F_init_25 : decode b_F_init 25 = .ok (.iload_n 1, 1) := by decide +kernel
theorem d_F_init_26 : decode b_F_init 26 = .ok (.putfield 26, 3) := by decide +kernel
theorem d_F_init_29 : decode b_F_init 29 = .ok (.aload_n 0, 1) := by decide +kernel
theorem d_F_init_30 : decode b_F_init 30 = .ok (.iload_n 2, 1) := by decide +kernel
theorem d_F_init_31 : decode b_F_init 31 = .ok (.putfield 29, 3) := by decide +kernel
theorem d_F_init_34 : decode b_F_init 34 = .ok (.aload_n 0, 1) := by decide +kernel
theorem d_F_init_35 : decode b_F_init 35 = .ok (.lload_n 3, 1) := by decide +kernel
theorem d_F_init_36 : decode b_F_init 36 = .ok (.putfield 32, 3) := by decide +kernel
theorem d_F_init_39 : decode b_F_init 39 = .ok (.return_, 1) := by decide +kernel
theorem d_F_doubts_0 : decode b_F_doubts 0 = .ok (.aload_n 0, 1) := by decide +kernel
theorem d_F_doubts_1 : decode b_F_doubts 1 = .ok (.getfield 18, 3) := by decide +kernel
theorem d_F_doubts_4 : decode b_F_doubts 4 = .ok (.iload_n 1, 1) := by decide +kernel
theorem d_F_doubts_5 : decode b_F_doubts 5 = .ok (.lshr, 1) := by decide +kernel
theorem d_F_doubts_6 : decode b_F_doubts 6 = .ok (.lconst 1, 1) := by decide +kernel
theorem d_F_doubts_7 : decode b_F_doubts 7 = .ok (.land, 1) := by decide +kernel
theorem d_F_doubts_8 : decode b_F_doubts 8 = .ok (.lconst 0, 1) := by decide +kernel
theorem d_F_doubts_9 : decode b_F_doubts 9 = .ok (.lcmp, 1) := by decide +kernel
theorem d_F_doubts_10 : decode b_F_doubts 10 = .ok (.ifCond .eq 7, 3) := by decide +kernel
theorem d_F_doubts_13 : decode b_F_doubts 13 = .ok (.iconst 1, 1) := by decide +kernel
theorem d_F_doubts_14 : decode b_F_doubts 14 = .ok (.goto 4, 3) := by decide +kernel
theorem d_F_doubts_17 : decode b_F_doubts 17 = .ok (.iconst 0, 1) := by decide +kernel
theorem d_F_doubts_18 : decode b_F_doubts 18 = .ok (.ireturn, 1) := by decide +kernel
theorem d_F_rank_0 : decode b_F_rank 0 = .ok (.aload_n 0, 1) := by decide +kernel
theorem d_F_rank_1 : decode b_F_rank 1 = .ok (.getfield 9, 3) := by decide +kernel
theorem d_F_rank_4 : decode b_F_rank 4 = .ok (.ifCond .eq 8, 3) := by decide +kernel
theorem d_F_rank_7 : decode b_F_rank 7 = .ok (.bipush 9, 2) := by decide +kernel
theorem d_F_rank_9 : decode b_F_rank 9 = .ok (.goto 11, 3) := by decide +kernel
theorem d_F_rank_12 : decode b_F_rank 12 = .ok (.getstatic 35, 3) := by decide +kernel
theorem d_F_rank_15 : decode b_F_rank 15 = .ok (.aload_n 0, 1) := by decide +kernel
theorem d_F_rank_16 : decode b_F_rank 16 = .ok (.getfield 26, 3) := by decide +kernel
theorem d_F_rank_19 : decode b_F_rank 19 = .ok (.iaload, 1) := by decide +kernel
theorem d_F_rank_20 : decode b_F_rank 20 = .ok (.ireturn, 1) := by decide +kernel
theorem d_I_init_0 : decode b_I_init 0 = .ok (.aload_n 0, 1) := by decide +kernel
theorem d_I_init_1 : decode b_I_init 1 = .ok (.invokespecial 3, 3) := by decide +kernel
theorem d_I_init_4 : decode b_I_init 4 = .ok (.aload_n 0, 1) := by decide +kernel
theorem d_I_init_5 : decode b_I_init 5 = .ok (.iconst 0, 1) := by decide +kernel
theorem d_I_init_6 : decode b_I_init 6 = .ok (.putfield 9, 3) := by decide +kernel
theorem d_I_init_9 : decode b_I_init 9 = .ok (.aload_n 0, 1) := by decide +kernel
theorem d_I_init_10 : decode b_I_init 10 = .ok (.iconst 0, 1) := by decide +kernel
theorem d_I_init_11 : decode b_I_init 11 = .ok (.putfield 15, 3) := by decide +kernel
theorem d_I_init_14 : decode b_I_init 14 = .ok (.aload_n 0, 1) := by decide +kernel
theorem d_I_init_15 : decode b_I_init 15 = .ok (.iconst 0, 1) := by decide +kernel
theorem d_I_init_16 : decode b_I_init 16 = .ok (.putfield 19, 3) := by decide +kernel
theorem d_I_init_19 : decode b_I_init 19 = .ok (.aload_n 0, 1) := by decide +kernel
theorem d_I_init_20 : decode b_I_init 20 = .ok (.iconst 0, 1) := by decide +kernel
theorem d_I_init_21 : decode b_I_init 21 = .ok (.putfield 22, 3) := by decide +kernel
theorem d_I_init_24 : decode b_I_init 24 = .ok (.aload_n 0, 1) := by decide +kernel
theorem d_I_init_25 : decode b_I_init 25 = .ok (.iconst 0, 1) := by decide +kernel
theorem d_I_init_26 : decode b_I_init 26 = .ok (.putfield 25, 3) := by decide +kernel
theorem d_I_init_29 : decode b_I_init 29 = .ok (.aload_n 0, 1) := by decide +kernel
theorem d_I_init_30 : decode b_I_init 30 = .ok (.lload_n 1, 1) := by decide +kernel
theorem d_I_init_31 : decode b_I_init 31 = .ok (.putfield 28, 3) := by decide +kernel
theorem d_I_init_34 : decode b_I_init 34 = .ok (.aload_n 0, 1) := by decide +kernel
theorem d_I_init_35 : decode b_I_init 35 = .ok (.lload_n 3, 1) := by decide +kernel
theorem d_I_init_36 : decode b_I_init 36 = .ok (.putfield 32, 3) := by decide +kernel
theorem d_I_init_39 : decode b_I_init 39 = .ok (.return_, 1) := by decide +kernel
theorem d_I_isOnBelt_0 : decode b_I_isOnBelt 0 = .ok (.aload_n 0, 1) := by decide +kernel
theorem d_I_isOnBelt_1 : decode b_I_isOnBelt 1 = .ok (.getfield 22, 3) := by decide +kernel
theorem d_I_isOnBelt_4 : decode b_I_isOnBelt 4 = .ok (.ifCond .ne 7, 3) := by decide +kernel
theorem d_I_isOnBelt_7 : decode b_I_isOnBelt 7 = .ok (.iconst 1, 1) := by decide +kernel
theorem d_I_isOnBelt_8 : decode b_I_isOnBelt 8 = .ok (.goto 4, 3) := by decide +kernel
theorem d_I_isOnBelt_11 : decode b_I_isOnBelt 11 = .ok (.iconst 0, 1) := by decide +kernel
theorem d_I_isOnBelt_12 : decode b_I_isOnBelt 12 = .ok (.ireturn, 1) := by decide +kernel
theorem d_I_isOff_0 : decode b_I_isOff 0 = .ok (.aload_n 0, 1) := by decide +kernel
theorem d_I_isOff_1 : decode b_I_isOff 1 = .ok (.getfield 22, 3) := by decide +kernel
theorem d_I_isOff_4 : decode b_I_isOff 4 = .ok (.iconst 2, 1) := by decide +kernel
theorem d_I_isOff_5 : decode b_I_isOff 5 = .ok (.if_icmp .ne 7, 3) := by decide +kernel
theorem d_I_isOff_8 : decode b_I_isOff 8 = .ok (.iconst 1, 1) := by decide +kernel
theorem d_I_isOff_9 : decode b_I_isOff 9 = .ok (.goto 4, 3) := by decide +kernel
theorem d_I_isOff_12 : decode b_I_isOff 12 = .ok (.iconst 0, 1) := by decide +kernel
theorem d_I_isOff_13 : decode b_I_isOff 13 = .ok (.ireturn, 1) := by decide +kernel
theorem d_I_isSeenBy_0 : decode b_I_isSeenBy 0 = .ok (.aload_n 0, 1) := by decide +kernel
theorem d_I_isSeenBy_1 : decode b_I_isSeenBy 1 = .ok (.getfield 25, 3) := by decide +kernel
theorem d_I_isSeenBy_4 : decode b_I_isSeenBy 4 = .ok (.iload_n 1, 1) := by decide +kernel
theorem d_I_isSeenBy_5 : decode b_I_isSeenBy 5 = .ok (.ishr, 1) := by decide +kernel
theorem d_I_isSeenBy_6 : decode b_I_isSeenBy 6 = .ok (.iconst 1, 1) := by decide +kernel
theorem d_I_isSeenBy_7 : decode b_I_isSeenBy 7 = .ok (.iand, 1) := by decide +kernel
theorem d_I_isSeenBy_8 : decode b_I_isSeenBy 8 = .ok (.ifCond .eq 7, 3) := by decide +kernel
theorem d_I_isSeenBy_11 : decode b_I_isSeenBy 11 = .ok (.iconst 1, 1) := by decide +kernel
theorem d_I_isSeenBy_12 : decode b_I_isSeenBy 12 = .ok (.goto 4, 3) := by decide +kernel
theorem d_I_isSeenBy_15 : decode b_I_isSeenBy 15 = .ok (.iconst 0, 1) := by decide +kernel
theorem d_I_isSeenBy_16 : decode b_I_isSeenBy 16 = .ok (.ireturn, 1) := by decide +kernel
theorem d_I_beSeenBy_0 : decode b_I_beSeenBy 0 = .ok (.aload_n 0, 1) := by decide +kernel
theorem d_I_beSeenBy_1 : decode b_I_beSeenBy 1 = .ok (.dup, 1) := by decide +kernel
theorem d_I_beSeenBy_2 : decode b_I_beSeenBy 2 = .ok (.getfield 25, 3) := by decide +kernel
theorem d_I_beSeenBy_5 : decode b_I_beSeenBy 5 = .ok (.iconst 1, 1) := by decide +kernel
theorem d_I_beSeenBy_6 : decode b_I_beSeenBy 6 = .ok (.iload_n 1, 1) := by decide +kernel
theorem d_I_beSeenBy_7 : decode b_I_beSeenBy 7 = .ok (.ishl, 1) := by decide +kernel
theorem d_I_beSeenBy_8 : decode b_I_beSeenBy 8 = .ok (.ior, 1) := by decide +kernel
theorem d_I_beSeenBy_9 : decode b_I_beSeenBy 9 = .ok (.putfield 25, 3) := by decide +kernel
theorem d_I_beSeenBy_12 : decode b_I_beSeenBy 12 = .ok (.return_, 1) := by decide +kernel
theorem d_I_takeOffBelt_0 : decode b_I_takeOffBelt 0 = .ok (.aload_n 0, 1) := by decide +kernel
theorem d_I_takeOffBelt_1 : decode b_I_takeOffBelt 1 = .ok (.getfield 22, 3) := by decide +kernel
theorem d_I_takeOffBelt_4 : decode b_I_takeOffBelt 4 = .ok (.iconst 2, 1) := by decide +kernel
theorem d_I_takeOffBelt_5 : decode b_I_takeOffBelt 5 = .ok (.if_icmp .eq 13, 3) := by decide +kernel
theorem d_I_takeOffBelt_8 : decode b_I_takeOffBelt 8 = .ok (.aload_n 0, 1) := by decide +kernel
theorem d_I_takeOffBelt_9 : decode b_I_takeOffBelt 9 = .ok (.iconst 2, 1) := by decide +kernel
theorem d_I_takeOffBelt_10 : decode b_I_takeOffBelt 10 = .ok (.putfield 22, 3) := by decide +kernel
theorem d_I_takeOffBelt_13 : decode b_I_takeOffBelt 13 = .ok (.aload_n 0, 1) := by decide +kernel
theorem d_I_takeOffBelt_14 : decode b_I_takeOffBelt 14 = .ok (.iload_n 1, 1) := by decide +kernel
theorem d_I_takeOffBelt_15 : decode b_I_takeOffBelt 15 = .ok (.putfield 9, 3) := by decide +kernel
theorem d_I_takeOffBelt_18 : decode b_I_takeOffBelt 18 = .ok (.return_, 1) := by decide +kernel
theorem d_I_leaveBelt_0 : decode b_I_leaveBelt 0 = .ok (.aload_n 0, 1) := by decide +kernel
theorem d_I_leaveBelt_1 : decode b_I_leaveBelt 1 = .ok (.getfield 22, 3) := by decide +kernel
theorem d_I_leaveBelt_4 : decode b_I_leaveBelt 4 = .ok (.ifCond .ne 8, 3) := by decide +kernel
theorem d_I_leaveBelt_7 : decode b_I_leaveBelt 7 = .ok (.aload_n 0, 1) := by decide +kernel
theorem d_I_leaveBelt_8 : decode b_I_leaveBelt 8 = .ok (.iconst 1, 1) := by decide +kernel
theorem d_I_leaveBelt_9 : decode b_I_leaveBelt 9 = .ok (.putfield 22, 3) := by decide +kernel
theorem d_I_leaveBelt_12 : decode b_I_leaveBelt 12 = .ok (.return_, 1) := by decide +kernel
theorem d_S_init_0 : decode b_S_init 0 = .ok (.aload_n 0, 1) := by decide +kernel
theorem d_S_init_1 : decode b_S_init 1 = .ok (.invokespecial 3, 3) := by decide +kernel
theorem d_S_init_4 : decode b_S_init 4 = .ok (.aload_n 0, 1) := by decide +kernel
theorem d_S_init_5 : decode b_S_init 5 = .ok (.iconst 0, 1) := by decide +kernel
theorem d_S_init_6 : decode b_S_init 6 = .ok (.putfield 9, 3) := by decide +kernel
theorem d_S_init_9 : decode b_S_init 9 = .ok (.aload_n 0, 1) := by decide +kernel
theorem d_S_init_10 : decode b_S_init 10 = .ok (.iconst 0, 1) := by decide +kernel
theorem d_S_init_11 : decode b_S_init 11 = .ok (.putfield 15, 3) := by decide +kernel
theorem d_S_init_14 : decode b_S_init 14 = .ok (.aload_n 0, 1) := by decide +kernel
theorem d_S_init_15 : decode b_S_init 15 = .ok (.iconst 0, 1) := by decide +kernel
theorem d_S_init_16 : decode b_S_init 16 = .ok (.putfield 19, 3) := by decide +kernel
theorem d_S_init_19 : decode b_S_init 19 = .ok (.aload_n 0, 1) := by decide +kernel
theorem d_S_init_20 : decode b_S_init 20 = .ok (.lconst 0, 1) := by decide +kernel
theorem d_S_init_21 : decode b_S_init 21 = .ok (.putfield 22, 3) := by decide +kernel
theorem d_S_init_24 : decode b_S_init 24 = .ok (.aload_n 0, 1) := by decide +kernel
theorem d_S_init_25 : decode b_S_init 25 = .ok (.iconst 0, 1) := by decide +kernel
theorem d_S_init_26 : decode b_S_init 26 = .ok (.putfield 26, 3) := by decide +kernel
theorem d_S_init_29 : decode b_S_init 29 = .ok (.aload_n 0, 1) := by decide +kernel
theorem d_S_init_30 : decode b_S_init 30 = .ok (.lload_n 1, 1) := by decide +kernel
theorem d_S_init_31 : decode b_S_init 31 = .ok (.putfield 29, 3) := by decide +kernel
theorem d_S_init_34 : decode b_S_init 34 = .ok (.return_, 1) := by decide +kernel
theorem d_S_darken_0 : decode b_S_darken 0 = .ok (.aload_n 0, 1) := by decide +kernel
theorem d_S_darken_1 : decode b_S_darken 1 = .ok (.iconst 1, 1) := by decide +kernel
theorem d_S_darken_2 : decode b_S_darken 2 = .ok (.putfield 15, 3) := by decide +kernel
theorem d_S_darken_5 : decode b_S_darken 5 = .ok (.aload_n 0, 1) := by decide +kernel
theorem d_S_darken_6 : decode b_S_darken 6 = .ok (.iload_n 1, 1) := by decide +kernel
theorem d_S_darken_7 : decode b_S_darken 7 = .ok (.putfield 19, 3) := by decide +kernel
theorem d_S_darken_10 : decode b_S_darken 10 = .ok (.aload_n 0, 1) := by decide +kernel
theorem d_S_darken_11 : decode b_S_darken 11 = .ok (.lload_n 2, 1) := by decide +kernel
theorem d_S_darken_12 : decode b_S_darken 12 = .ok (.putfield 22, 3) := by decide +kernel
theorem d_S_darken_15 : decode b_S_darken 15 = .ok (.aload_n 0, 1) := by decide +kernel
theorem d_S_darken_16 : decode b_S_darken 16 = .ok (.iconst 0, 1) := by decide +kernel
theorem d_S_darken_17 : decode b_S_darken 17 = .ok (.putfield 26, 3) := by decide +kernel
theorem d_S_darken_20 : decode b_S_darken 20 = .ok (.return_, 1) := by decide +kernel
theorem d_S_lighten_0 : decode b_S_lighten 0 = .ok (.aload_n 0, 1) := by decide +kernel
theorem d_S_lighten_1 : decode b_S_lighten 1 = .ok (.iconst 0, 1) := by decide +kernel
theorem d_S_lighten_2 : decode b_S_lighten 2 = .ok (.putfield 15, 3) := by decide +kernel
theorem d_S_lighten_5 : decode b_S_lighten 5 = .ok (.aload_n 0, 1) := by decide +kernel
theorem d_S_lighten_6 : decode b_S_lighten 6 = .ok (.iconst 0, 1) := by decide +kernel
theorem d_S_lighten_7 : decode b_S_lighten 7 = .ok (.putfield 19, 3) := by decide +kernel
theorem d_S_lighten_10 : decode b_S_lighten 10 = .ok (.return_, 1) := by decide +kernel
end
section
/-! ===== numbers by their Int ===== -/
def ph_i (z : Int) : Int32 := Int32.ofInt z
def ph_l (z : Int) : Int64 := Int64.ofInt z
abbrev ph_ri (z : Int) : Prop := -2147483648 ≤ z ∧ z < 2147483648
abbrev ph_rl (z : Int) : Prop := -9223372036854775808 ≤ z ∧ z < 9223372036854775808
theorem ph_iT {z : Int} (h : ph_ri z) : (ph_i z).toInt = z := Int32.toInt_ofInt_of_le (by omega) (by omega)
theorem ph_lT {z : Int} (h : ph_rl z) : (ph_l z).toInt = z := Int64.toInt_ofInt_of_le (by omega) (by omega)
theorem ph_ile {a b : Int} (ha : ph_ri a) (hb : ph_ri b) : ph_i a ≤ ph_i b ↔ a ≤ b := by rw [Int32.le_iff_toInt_le, ph_iT ha, ph_iT hb]
theorem ph_ilt {a b : Int} (ha : ph_ri a) (hb : ph_ri b) : ph_i a < ph_i b ↔ a < b := by rw [Int32.lt_iff_toInt_lt, ph_iT ha, ph_iT hb]
theorem ph_ieq {a b : Int} (ha : ph_ri a) (hb : ph_ri b) : ph_i a = ph_i b ↔ a = b := by rw [← Int32.toInt_inj, ph_iT ha, ph_iT hb]
theorem ph_lle {a b : Int} (ha : ph_rl a) (hb : ph_rl b) : ph_l a ≤ ph_l b ↔ a ≤ b := by rw [Int64.le_iff_toInt_le, ph_lT ha, ph_lT hb]
theorem ph_llt {a b : Int} (ha : ph_rl a) (hb : ph_rl b) : ph_l a < ph_l b ↔ a < b := by rw [Int64.lt_iff_toInt_lt, ph_lT ha, ph_lT hb]
theorem ph_leq {a b : Int} (ha : ph_rl a) (hb : ph_rl b) : ph_l a = ph_l b ↔ a = b := by rw [← Int64.toInt_inj, ph_lT ha, ph_lT hb]
theorem ph_0 : ph_i 0 = 0 := rfl
theorem ph_icl {z : Int} (h0 : 0 ≤ z) (h : z < 2147483648) : (ph_i z).toNatClampNeg = z.toNat := Int32.toNatClampNeg_ofInt_of_le (by omega) (by omega)
theorem ph_iin {z : Int} {N : Nat} (h0 : 0 ≤ z) (h : z < (N : Int)) (hz : z < 2147483648) : vp_in (ph_i z) N := by
  intro q
  rcases q with q | q
  · have := (ph_ilt (a := z) (b := 0) (by omega) (by omega)).mp q
    omega
  · rw [ph_icl h0 hz] at q
    omega
theorem ph_jcl {x : Int} {j : Nat} (hj : x = (j : Int)) (h : j < 2147483648) : (ph_i x).toNatClampNeg = j := by
  subst hj
  rw [ph_icl (by omega) (by omega)]
  simp
theorem ph_jin {x : Int} {j N : Nat} (hj : x = (j : Int)) (h : j < N) (hN : N < 2147483648) : vp_in (ph_i x) N := ph_iin (by omega) (by omega) (by omega)
theorem pn_iadd (a b : Int) : ph_i a + ph_i b = ph_i (a + b) := (Int32.ofInt_add a b).symm
theorem pn_isub (a b : Int) : ph_i a - ph_i b = ph_i (a - b) := (Int32.ofInt_sub a b).symm
theorem pn_imul (a b : Int) : ph_i a * ph_i b = ph_i (a * b) := (Int32.ofInt_mul a b).symm
theorem pn_ineg (a : Int) : -ph_i a = ph_i (-a) := (Int32.ofInt_neg a).symm
theorem pn_ladd (a b : Int) : ph_l a + ph_l b = ph_l (a + b) := (Int64.ofInt_add a b).symm
theorem pn_lsub (a b : Int) : ph_l a - ph_l b = ph_l (a - b) := (Int64.ofInt_sub a b).symm
theorem pn_lmul (a b : Int) : ph_l a * ph_l b = ph_l (a * b) := (Int64.ofInt_mul a b).symm
theorem pn_lneg (a : Int) : -ph_l a = ph_l (-a) := (Int64.ofInt_neg a).symm
theorem pn_i2l {z : Int} (h : ph_ri z) : (ph_i z).toInt64 = ph_l z := by
  rw [← Int64.toInt_inj, Int32.toInt_toInt64, ph_iT h, ph_lT (by omega)]
theorem pn_l2i (z : Int) : (ph_l z).toInt32 = ph_i z := Int64.toInt32_ofInt
theorem ph_iof (x : Int32) : ∃ z : Int, ph_ri z ∧ x = ph_i z := ⟨x.toInt, ⟨by have := x.le_toInt; omega, by have := x.toInt_lt; omega⟩, (Int32.ofInt_toInt x).symm⟩
theorem ph_lof (x : Int64) : ∃ z : Int, ph_rl z ∧ x = ph_l z := ⟨x.toInt, ⟨by have := x.le_toInt; omega, by have := x.toInt_lt; omega⟩, (Int64.ofInt_toInt x).symm⟩
/-- a truth value as a number -/
noncomputable def ph_b (P : Prop) : Int := @ite Int P (Classical.propDecidable P) 1 0
theorem ph_b1 {P : Prop} (h : P) : ph_b P = 1 := if_pos h
theorem ph_b0 {P : Prop} (h : ¬ P) : ph_b P = 0 := if_neg h
theorem ph_br (P : Prop) : 0 ≤ ph_b P ∧ ph_b P ≤ 1 := by
  rcases Classical.em P with h | h
  · rw [ph_b1 h]; omega
  · rw [ph_b0 h]; omega
/-! ===== the locals: by lookup ===== -/
abbrev ph_V : Type := List (Nat × Option Value)
def ph_g : ph_V → Nat → Option Value
  | [], _ => none
  | q :: t, i => bif Nat.beq q.1 i then q.2 else ph_g t i
theorem ph_g_self (i : Nat) (v : Option Value) (t : ph_V) : ph_g ((i, v) :: t) i = v := by simp [ph_g]
theorem ph_g_ne {i j : Nat} (v : Option Value) (t : ph_V) (h : i ≠ j) : ph_g ((i, v) :: t) j = ph_g t j := by
  have : Nat.beq i j = false := by
    cases hb : Nat.beq i j with
    | false => rfl
    | true => exact absurd (Nat.eq_of_beq_eq_true hb) h
  simp [ph_g, this]
def ph_has (ls : Array Slot) (nL : Nat) (lv : ph_V) : Prop := ls.size = nL ∧ lv_wf ls ∧ ∀ (i : Nat) (v : Value), ph_g lv i = some v → ls[i]? = some (.val v)
/-- the store at i leaves no half of a long behind -/
def ph_ok (lv : ph_V) (i : Nat) : Bool := match i with
  | 0 => true
  | j + 1 => match ph_g lv j with
    | some v => v.category == 1
    | none => true
def ph_ll (nL : Nat) (lv : ph_V) : List (Nat × Value) := (List.range nL).filterMap fun j => (ph_g lv j).map fun v => (j, v)
theorem ph_ll_mem {nL : Nat} {lv : ph_V} {j : Nat} {v : Value} : (j, v) ∈ ph_ll nL lv ↔ j < nL ∧ ph_g lv j = some v := by
  unfold ph_ll
  rw [List.mem_filterMap]
  constructor
  · rintro ⟨a, ha, h⟩
    cases hg : ph_g lv a with
    | none => rw [hg] at h; cases h
    | some w =>
      rw [hg] at h
      simp only [Option.map_some, Option.some.injEq, Prod.mk.injEq] at h
      obtain ⟨rfl, rfl⟩ := h
      exact ⟨List.mem_range.mp ha, hg⟩
  · rintro ⟨h1, h2⟩
    exact ⟨j, List.mem_range.mpr h1, by rw [h2]; rfl⟩
theorem ph_has.lv {ls : Array Slot} {nL : Nat} {lv : ph_V} (h : ph_has ls nL lv) : lv_has ls nL (ph_ll nL lv) := ⟨h.1, h.2.1, fun q hq => h.2.2 q.1 q.2 (ph_ll_mem.mp hq).2⟩
theorem ph_has.bd {ls : Array Slot} {nL : Nat} {lv : ph_V} (h : ph_has ls nL lv) {j : Nat} {v : Value} (hj : ph_g lv j = some v) : j < nL := by
  rw [← h.1]
  exact (Array.getElem?_eq_some_iff.mp (h.2.2 j v hj)).1
theorem ph_ok_ne {lv : ph_V} {i j : Nat} {w : Value} (hk : ph_ok lv i = true) (hj : ph_g lv j = some w) (e : j + 1 = i) : ¬ w.category = 2 := by
  subst e
  simp only [ph_ok, hj, beq_iff_eq] at hk
  omega
theorem ph_st1 {ls : Array Slot} {nL i : Nat} {lv : ph_V} {v : Value} (h : ph_has ls nL lv) (hk : ph_ok lv i = true) (h' : lv_has ls nL ((i, v) :: (ph_ll nL lv).filter (fun q => !(q.1 == i) && !(q.1 + 1 == i && q.2.category == 2)))) : ph_has ls nL ((i, some v) :: lv) := by
  refine ⟨h.1, h.2.1, fun j w hj => ?_⟩
  by_cases e : i = j
  · subst e
    rw [ph_g_self] at hj
    cases hj
    exact h'.2.2 (i, v) List.mem_cons_self
  · rw [ph_g_ne _ _ e] at hj
    exact h.2.2 j w hj
theorem ph_st1' {ls ls' : Array Slot} {nL i : Nat} {lv : ph_V} {v : Value} (h : ph_has ls nL lv) (hk : ph_ok lv i = true) (h' : lv_has ls' nL ((i, v) :: (ph_ll nL lv).filter (fun q => !(q.1 == i) && !(q.1 + 1 == i && q.2.category == 2)))) : ph_has ls' nL ((i, some v) :: lv) := by
  refine ⟨h'.1, h'.2.1, fun j w hj => ?_⟩
  by_cases e : i = j
  · subst e
    rw [ph_g_self] at hj
    cases hj
    exact h'.2.2 (i, v) List.mem_cons_self
  · rw [ph_g_ne _ _ e] at hj
    refine h'.2.2 (j, w) (List.mem_cons_of_mem _ (List.mem_filter.mpr ⟨ph_ll_mem.mpr ⟨h.bd hj, hj⟩, ?_⟩))
    have e1 : (j == i) = false := by simpa using fun q => e q.symm
    by_cases e2 : j + 1 = i
    · have := ph_ok_ne hk hj e2
      simp [e1, this]
    · simp [e1, e2]
theorem ph_st2' {ls ls' : Array Slot} {nL i : Nat} {lv : ph_V} {v : Value} (h : ph_has ls nL lv) (hk : ph_ok lv i = true) (h' : lv_has ls' nL ((i, v) :: (ph_ll nL lv).filter (fun q => !(q.1 == i) && (!(q.1 == i + 1) && !(q.1 + 1 == i && q.2.category == 2))))) : ph_has ls' nL ((i, some v) :: (i + 1, none) :: lv) := by
  refine ⟨h'.1, h'.2.1, fun j w hj => ?_⟩
  by_cases e : i = j
  · subst e
    rw [ph_g_self] at hj
    cases hj
    exact h'.2.2 (i, v) List.mem_cons_self
  · rw [ph_g_ne _ _ e] at hj
    by_cases e3 : i + 1 = j
    · subst e3
      rw [ph_g_self] at hj
      cases hj
    · rw [ph_g_ne _ _ e3] at hj
      refine h'.2.2 (j, w) (List.mem_cons_of_mem _ (List.mem_filter.mpr ⟨ph_ll_mem.mpr ⟨h.bd hj, hj⟩, ?_⟩))
      have e1 : (j == i) = false := by simpa using fun q => e q.symm
      have e4 : (j == i + 1) = false := by simpa using fun q => e3 q.symm
      by_cases e2 : j + 1 = i
      · have := ph_ok_ne hk hj e2
        simp [e1, e4, this]
      · simp [e1, e4, e2]
/-- a list of locals in its plain form -/
def ph_mk (l : List (Nat × Value)) : ph_V := l.map fun q => (q.1, some q.2)
def ph_all (lv : ph_V) : List (Nat × Value) → Prop
  | [] => True
  | q :: t => ph_g lv q.1 = some q.2 ∧ ph_all lv t
theorem ph_mk_g {l : List (Nat × Value)} {i : Nat} {v : Value} (h : ph_g (ph_mk l) i = some v) : (i, v) ∈ l := by
  induction l with
  | nil => cases h
  | cons q t ih =>
    by_cases e : q.1 = i
    · subst e
      have : ph_g ((q.1, some q.2) :: ph_mk t) q.1 = some v := h
      rw [ph_g_self] at this
      cases this
      exact List.mem_cons_self
    · have h2 : ph_g ((q.1, some q.2) :: ph_mk t) i = some v := h
      rw [ph_g_ne _ _ e] at h2
      exact List.mem_cons_of_mem _ (ih h2)
theorem ph_all_mem {lv : ph_V} {l : List (Nat × Value)} (h : ph_all lv l) : ∀ q ∈ l, ph_g lv q.1 = some q.2 := by
  induction l with
  | nil => intro q hq; cases hq
  | cons a t ih =>
    intro q hq
    rcases List.mem_cons.mp hq with rfl | h2
    · exact h.1
    · exact ih h.2 q h2
theorem ph_has.to {ls : Array Slot} {nL : Nat} {lv : ph_V} {l : List (Nat × Value)} (h : ph_has ls nL lv) (hl : ph_all lv l) : ph_has ls nL (ph_mk l) := ⟨h.1, h.2.1, fun i v hi => h.2.2 i v (ph_all_mem hl (i, v) (ph_mk_g hi))⟩
theorem ph_has.of {ls : Array Slot} {nL : Nat} {l : List (Nat × Value)} (h : lv_has ls nL l) : ph_has ls nL (ph_mk l) := ⟨h.1, h.2.1, fun i v hi => h.2.2 (i, v) (ph_mk_g hi)⟩
/-! ===== the heap of typed pools: cell (pool c, index i) at the address ad c i, of the kind kd c, with the numbers τ c i k ===== -/
abbrev ph_K : Type := (Nat × List Nat) ⊕ (Nat × Nat)
abbrev ph_T : Type := Nat → Nat → Nat → Int
def ph_r (z : Int) : Option Nat := if z < 0 then none else some z.toNat
def ph_e (t : Nat) (z : Int) : Value := match t with
  | 0 => .int (ph_i z)
  | 1 => .long (ph_l z)
  | _ => va_rf (ph_r z)
theorem ph_rn (a : Nat) : ph_r (a : Int) = some a := by
  unfold ph_r
  rw [if_neg (by omega)]
  simp
theorem ph_r1 : ph_r (-1) = none := rfl
def ph_fs (tags : List Nat) (f : Nat → Int) : List Value := tags.mapIdx fun k t => ph_e t (f k)
abbrev ph_S : Type := (Nat → Int32) ⊕ (Nat → Int64) ⊕ (Nat → UInt32) ⊕ (Nat → UInt64) ⊕ (Nat → Option Nat)
/-- 0 int, 1 boolean, 2 long, from 3 on references -/
def ph_ac (ty : Nat) (f : Nat → Int) : ph_S := match ty with
  | 0 => .inl fun j => ph_i (f j)
  | 1 => .inl fun j => ph_i (f j)
  | 2 => .inr (.inl fun j => ph_l (f j))
  | _ => .inr (.inr (.inr (.inr fun j => ph_r (f j))))
def ph_cell (dT : Nat → ClassId) (k : ph_K) (f : Nat → Int) : va_E := match k with
  | .inl q => .inr (q.1, ph_fs q.2 f)
  | .inr q => .inl (dT q.1, q.2, ph_ac q.1 f)
def ph_u1 (f : Nat → Int) (k : Nat) (z : Int) : Nat → Int := fun j => if j = k then z else f j
def ph_up (τ : ph_T) (c i k : Nat) (z : Int) : ph_T := fun c' i' k' => if c' = c ∧ i' = i ∧ k' = k then z else τ c' i' k'
theorem ph_up_self (τ : ph_T) (c i k : Nat) (z : Int) : ph_up τ c i k z c i = ph_u1 (τ c i) k z := by
  funext j
  simp [ph_up, ph_u1]
theorem ph_up_ne (τ : ph_T) {c i c' i' : Nat} (k : Nat) (z : Int) (h : ¬ (c' = c ∧ i' = i)) : ph_up τ c i k z c' i' = τ c' i' := by
  funext j
  unfold ph_up
  rw [if_neg (fun q => h ⟨q.1, q.2.1⟩)]
theorem ph_fs_get {tags : List Nat} {f : Nat → Int} {k t : Nat} (h : tags[k]? = some t) : (ph_fs tags f)[k]? = some (ph_e t (f k)) := by
  unfold ph_fs
  rw [List.getElem?_mapIdx, h]
  rfl
theorem ph_fs_len (tags : List Nat) (f : Nat → Int) : (ph_fs tags f).length = tags.length := by simp [ph_fs]
theorem ph_fs_set {tags : List Nat} {f : Nat → Int} {k t : Nat} (h : tags[k]? = some t) (z : Int) : (ph_fs tags f).set k (ph_e t z) = ph_fs tags (ph_u1 f k z) := by
  apply List.ext_getElem?
  intro j
  have hk : k < tags.length := (List.getElem?_eq_some_iff.mp h).1
  by_cases e : j = k
  · subst e
    rw [List.getElem?_set_self (by rw [ph_fs_len]; exact hk), ph_fs_get h]
    simp [ph_u1]
  · rw [List.getElem?_set_ne (fun q => e q.symm)]
    unfold ph_fs
    rw [List.getElem?_mapIdx, List.getElem?_mapIdx]
    simp [ph_u1, e]
def ph_U (D : va_G) (cl : List vw_C) (dT : Nat → ClassId) (kd : Nat → ph_K) (A : Nat → Prop) (L : Nat → Nat → Prop) (ad : Nat → Nat → Nat) (τ : ph_T) (H : Heap) : Prop :=
  (∀ c i : Nat, L c i → A (ad c i) ∧ va_at D cl (ad c i, ph_cell dT (kd c) (τ c i)) H) ∧ ∀ c i c' i' : Nat, L c i → L c' i' → ad c i = ad c' i' → c = c' ∧ i = i'
section PHU
variable {D : va_G} {cl : List vw_C} {dT : Nat → ClassId} {kd : Nat → ph_K} {A : Nat → Prop} {L : Nat → Nat → Prop} {ad : Nat → Nat → Nat} {τ : ph_T} {H H1 : Heap}
theorem ph_U.put (h : ph_U D cl dT kd A L ad τ H) {c i k : Nat} {z : Int} (hL : L c i) (he : va_at D cl (ad c i, ph_cell dT (kd c) (ph_u1 (τ c i) k z)) H1) (oq : ∀ q : Nat, q ≠ ad c i → H1[q]? = H[q]?) : ph_U D cl dT kd A L ad (ph_up τ c i k z) H1 := by
  refine ⟨fun c' i' h' => ⟨(h.1 c' i' h').1, ?_⟩, h.2⟩
  by_cases e : c' = c ∧ i' = i
  · obtain ⟨rfl, rfl⟩ := e
    rw [ph_up_self]
    exact he
  · rw [ph_up_ne τ k z e]
    exact (h.1 c' i' h').2.kept (oq _ (fun q => e (h.2 c' i' c i h' hL q)))
theorem ph_U.lt (h : ph_U D cl dT kd A L ad τ H) {c i : Nat} (hL : L c i) : ad c i < H.size := ((h.1 c i hL).2).lt
def ph_Ln (L : Nat → Nat → Prop) (c i : Nat) : Nat → Nat → Prop := fun c' i' => L c' i' ∨ (c' = c ∧ i' = i)
def ph_an (ad : Nat → Nat → Nat) (c i a : Nat) : Nat → Nat → Nat := fun c' i' => if c' = c ∧ i' = i then a else ad c' i'
def ph_tn (τ : ph_T) (c i : Nat) (f : Nat → Int) : ph_T := fun c' i' => if c' = c ∧ i' = i then f else τ c' i'
theorem ph_U.new (h : ph_U D cl dT kd A L ad τ H) {c i a : Nat} {f : Nat → Int} (hL : ¬ L c i) (hA : A a) (ha : H.size = a) (he : va_at D cl (a, ph_cell dT (kd c) f) H1) (oq : ∀ q : Nat, q < a → H1[q]? = H[q]?) : ph_U D cl dT kd A (ph_Ln L c i) (ph_an ad c i a) (ph_tn τ c i f) H1 := by
  have hne : ∀ c' i', L c' i' → ¬ (c' = c ∧ i' = i) := fun c' i' h1 e => hL (by obtain ⟨rfl, rfl⟩ := e; exact h1)
  refine ⟨fun c' i' h' => ?_, fun c1 i1 c2 i2 h1 h2 e => ?_⟩
  · by_cases e : c' = c ∧ i' = i
    · obtain ⟨rfl, rfl⟩ := e
      simp only [ph_an, ph_tn, and_self, if_true]
      exact ⟨hA, he⟩
    · have h1 : L c' i' := h'.resolve_right e
      simp only [ph_an, ph_tn, if_neg e]
      exact ⟨(h.1 c' i' h1).1, (h.1 c' i' h1).2.kept (oq _ (by rw [← ha]; exact h.lt h1))⟩
  · by_cases e1 : c1 = c ∧ i1 = i
    · by_cases e2 : c2 = c ∧ i2 = i
      · exact ⟨e1.1.trans e2.1.symm, e1.2.trans e2.2.symm⟩
      · have h3 : L c2 i2 := h2.resolve_right e2
        simp only [ph_an, if_pos e1, if_neg e2] at e
        have := h.lt h3
        omega
    · have h3 : L c1 i1 := h1.resolve_right e1
      by_cases e2 : c2 = c ∧ i2 = i
      · simp only [ph_an, if_pos e2, if_neg e1] at e
        have := h.lt h3
        omega
      · simp only [ph_an, if_neg e2, if_neg e1] at e
        exact h.2 c1 i1 c2 i2 h3 (h2.resolve_right e2) e
end PHU
end
section
/-! ===== the judgement over the heap of typed pools ===== -/
def ph_W (p : Program) (l : Launch) (e : Env) (R : Room) (s : State) (m : MethodId) (args : Array Value) (below : List Frame) (meth : Method) (c : Code) (D : va_G) (cl : List vw_C) (dT : Nat → ClassId) (kd : Nat → ph_K) (A : Nat → Prop) (nL : Nat) (Q : State → Prop) (L : Nat → Nat → Prop) (ad : Nat → Nat → Nat) (τ : ph_T) (cells slots pc : Nat) (lv : ph_V) (st : List Value) : Prop :=
  ∀ (H : Heap) (locs : List Loc) (ls : Array Slot), ph_U D cl dT kd A L ad τ H → va_S A s.heap H locs → ph_has ls nL lv → W p l e R s m args below meth c H locs cells slots Q (F0 m pc ls st)
/-- what is known of a state, and stays -/
def ph_keep (A : Nat → Prop) (KX : State → Prop) : Prop := ∀ u U : State, u.WarmedH U.vm → u.heap.size ≤ U.heap.size → (∀ q : Nat, q < u.heap.size → ¬ A q → U.heap[q]? = u.heap[q]?) → KX u → KX U
def ph_C (p : Program) (s : State) (m : MethodId) (args : Array Value) (c : Code) (cc : ByteArray) (nL : Nat) (own : String) (Ts : List Cond) (D : va_G) (cl : List vw_C) (tys : List (ClassId × FieldType)) (A : Nat → Prop) (KX : State → Prop) : Prop :=
  CallFix p m c cc nL s args Ts own ∧ va_K D cl tys s ∧ (∀ q : Nat, s.heap.size ≤ q → A q) ∧ KX s ∧ ph_keep A KX
section PHW
variable {p : Program} {l : Launch} {e : Env} {R : Room} {s : State} {m : MethodId} {args : Array Value} {below : List Frame} {meth : Method} {c : Code}
variable {D : va_G} {cl : List vw_C} {tys : List (ClassId × FieldType)} {dT : Nat → ClassId} {kd : Nat → ph_K} {A : Nat → Prop} {KX : State → Prop} {nL : Nat} {Q : State → Prop} {cc : ByteArray} {own : String} {Ts : List Cond}
variable {L : Nat → Nat → Prop} {ad : Nat → Nat → Nat} {τ : ph_T} {cells slots pc : Nat} {lv : ph_V} {st : List Value}
theorem ph_C.hx (C : ph_C p s m args c cc nL own Ts D cl tys A KX) : p.tables.exec = Jvm.exec := C.1.1
theorem ph_C.hb (C : ph_C p s m args c cc nL own Ts D cl tys A KX) : c.code = cc := C.1.2.1
theorem ph_C.hown (C : ph_C p s m args c cc nL own Ts D cl tys A KX) : s.vm.findClass own = some m.cls := C.1.2.2.2.1
theorem ph_C.hts (C : ph_C p s m args c cc nL own Ts D cl tys A KX) : ∀ w ∈ Ts, w.before args s = true := C.1.2.2.2.2
theorem ph_C.hK (C : ph_C p s m args c cc nL own Ts D cl tys A KX) : va_K D cl tys s := C.2.1
theorem ph_C.hA (C : ph_C p s m args c cc nL own Ts D cl tys A KX) : ∀ q : Nat, s.heap.size ≤ q → A q := C.2.2.1
theorem ph_loc {l2 : List (Nat × Value)} (h : ph_all lv l2) (k : ph_W p l e R s m args below meth c D cl dT kd A nL Q L ad τ cells slots pc (ph_mk l2) st) : ph_W p l e R s m args below meth c D cl dT kd A nL Q L ad τ cells slots pc lv st := fun H locs ls hU hS hl => k H locs ls hU hS (hl.to h)
theorem ph_wide {c2 s2 : Nat} (h1 : cells ≤ c2) (h2 : slots ≤ s2) (k : ph_W p l e R s m args below meth c D cl dT kd A nL Q L ad τ c2 s2 pc lv st) : ph_W p l e R s m args below meth c D cl dT kd A nL Q L ad τ cells slots pc lv st := fun H locs ls hU hS hl => W.widen h1 h2 (k H locs ls hU hS hl)
theorem ph_iconst (C : ph_C p s m args c cc nL own Ts D cl tys A KX) {n : Int} (hd : decode cc pc = .ok (.iconst n, 1)) 
    (k : ph_W p l e R s m args below meth c D cl dT kd A nL Q L ad τ cells slots (pc + 1) lv (.int (ph_i n) :: st)) : ph_W p l e R s m args below meth c D cl dT kd A nL Q L ad τ cells slots pc lv st := fun H locs ls hU hS hl => lv_iconst C.hx C.hb hd rfl (k H locs ls hU hS hl)
theorem ph_bipush (C : ph_C p s m args c cc nL own Ts D cl tys A KX) {n : Int} (hd : decode cc pc = .ok (.bipush n, 2)) (hv : (Int8.ofInt n).toInt32 = ph_i n)
    (k : ph_W p l e R s m args below meth c D cl dT kd A nL Q L ad τ cells slots (pc + 2) lv (.int (ph_i n) :: st)) : ph_W p l e R s m args below meth c D cl dT kd A nL Q L ad τ cells slots pc lv st := fun H locs ls hU hS hl => lv_bipush C.hx C.hb hd hv (k H locs ls hU hS hl)
theorem ph_sipush (C : ph_C p s m args c cc nL own Ts D cl tys A KX) {n : Int} (hd : decode cc pc = .ok (.sipush n, 3)) (hv : (Int16.ofInt n).toInt32 = ph_i n)
    (k : ph_W p l e R s m args below meth c D cl dT kd A nL Q L ad τ cells slots (pc + 3) lv (.int (ph_i n) :: st)) : ph_W p l e R s m args below meth c D cl dT kd A nL Q L ad τ cells slots pc lv st := fun H locs ls hU hS hl => lv_sipush C.hx C.hb hd hv (k H locs ls hU hS hl)
theorem ph_lconst (C : ph_C p s m args c cc nL own Ts D cl tys A KX) {n : Fin 2} (hd : decode cc pc = .ok (.lconst n, 1)) (z : Int) (hv : Int64.ofNat (n : Nat) = ph_l z)
    (k : ph_W p l e R s m args below meth c D cl dT kd A nL Q L ad τ cells slots (pc + 1) lv (.long (ph_l z) :: st)) : ph_W p l e R s m args below meth c D cl dT kd A nL Q L ad τ cells slots pc lv st := fun H locs ls hU hS hl => lv_lconst C.hx C.hb hd hv (k H locs ls hU hS hl)
theorem ph_ldc (C : ph_C p s m args c cc nL own Ts D cl tys A KX) {index : Nat} {v : Int32} (hd : decode cc pc = .ok (.ldc index, 2)) (z : Int) (hv : v = ph_i z) (hc : Cond.constant own index v ∈ Ts)
    (k : ph_W p l e R s m args below meth c D cl dT kd A nL Q L ad τ cells slots (pc + 2) lv (.int (ph_i z) :: st)) : ph_W p l e R s m args below meth c D cl dT kd A nL Q L ad τ cells slots pc lv st := fun H locs ls hU hS hl => lv_ldc C.hx C.hb C.hown (C.hts _ hc) hd (by rw [hv]; exact (k H locs ls hU hS hl))
theorem ph_ldc2 (C : ph_C p s m args c cc nL own Ts D cl tys A KX) {index : Nat} {v : Int64} (hd : decode cc pc = .ok (.ldc2_w index, 3)) (z : Int) (hv : v = ph_l z) (hc : Cond.constantLong own index v ∈ Ts)
    (k : ph_W p l e R s m args below meth c D cl dT kd A nL Q L ad τ cells slots (pc + 3) lv (.long (ph_l z) :: st)) : ph_W p l e R s m args below meth c D cl dT kd A nL Q L ad τ cells slots pc lv st := fun H locs ls hU hS hl => lv_ldc2 C.hx C.hb C.hown (C.hts _ hc) hd (by rw [hv]; exact (k H locs ls hU hS hl))
theorem ph_iload_n (C : ph_C p s m args c cc nL own Ts D cl tys A KX) {j : Fin 4} {x : Int32} (hd : decode cc pc = .ok (.iload_n j, 1)) (hg : ph_g lv (j : Nat) = some (.int x))
    (k : ph_W p l e R s m args below meth c D cl dT kd A nL Q L ad τ cells slots (pc + 1) lv (.int x :: st)) : ph_W p l e R s m args below meth c D cl dT kd A nL Q L ad τ cells slots pc lv st := fun H locs ls hU hS hl => lv_iload_n C.hx C.hb hd rfl (hl.2.2 _ _ hg) (k H locs ls hU hS hl)
theorem ph_iload (C : ph_C p s m args c cc nL own Ts D cl tys A KX) {j : Nat} {x : Int32} (hd : decode cc pc = .ok (.iload j, 2)) (hg : ph_g lv j = some (.int x))
    (k : ph_W p l e R s m args below meth c D cl dT kd A nL Q L ad τ cells slots (pc + 2) lv (.int x :: st)) : ph_W p l e R s m args below meth c D cl dT kd A nL Q L ad τ cells slots pc lv st := fun H locs ls hU hS hl => lv_iload C.hx C.hb hd (hl.2.2 _ _ hg) (k H locs ls hU hS hl)
theorem ph_lload_n (C : ph_C p s m args c cc nL own Ts D cl tys A KX) {j : Fin 4} {x : Int64} (hd : decode cc pc = .ok (.lload_n j, 1)) (hg : ph_g lv (j : Nat) = some (.long x))
    (k : ph_W p l e R s m args below meth c D cl dT kd A nL Q L ad τ cells slots (pc + 1) lv (.long x :: st)) : ph_W p l e R s m args below meth c D cl dT kd A nL Q L ad τ cells slots pc lv st := fun H locs ls hU hS hl => lv_lload_n C.hx C.hb hd rfl (hl.2.2 _ _ hg) (k H locs ls hU hS hl)
theorem ph_lload (C : ph_C p s m args c cc nL own Ts D cl tys A KX) {j : Nat} {x : Int64} (hd : decode cc pc = .ok (.lload j, 2)) (hg : ph_g lv j = some (.long x))
    (k : ph_W p l e R s m args below meth c D cl dT kd A nL Q L ad τ cells slots (pc + 2) lv (.long x :: st)) : ph_W p l e R s m args below meth c D cl dT kd A nL Q L ad τ cells slots pc lv st := fun H locs ls hU hS hl => lv_lload C.hx C.hb hd (hl.2.2 _ _ hg) (k H locs ls hU hS hl)
theorem ph_aload_n (C : ph_C p s m args c cc nL own Ts D cl tys A KX) {j : Fin 4} {x : Nat} (hd : decode cc pc = .ok (.aload_n j, 1)) (hg : ph_g lv (j : Nat) = some (.ref x))
    (k : ph_W p l e R s m args below meth c D cl dT kd A nL Q L ad τ cells slots (pc + 1) lv (.ref x :: st)) : ph_W p l e R s m args below meth c D cl dT kd A nL Q L ad τ cells slots pc lv st := fun H locs ls hU hS hl => lv_aload_n C.hx C.hb hd rfl (hl.2.2 _ _ hg) (k H locs ls hU hS hl)
theorem ph_aload (C : ph_C p s m args c cc nL own Ts D cl tys A KX) {j : Nat} {x : Nat} (hd : decode cc pc = .ok (.aload j, 2)) (hg : ph_g lv j = some (.ref x))
    (k : ph_W p l e R s m args below meth c D cl dT kd A nL Q L ad τ cells slots (pc + 2) lv (.ref x :: st)) : ph_W p l e R s m args below meth c D cl dT kd A nL Q L ad τ cells slots pc lv st := fun H locs ls hU hS hl => lv_aload C.hx C.hb hd (hl.2.2 _ _ hg) (k H locs ls hU hS hl)
theorem ph_istore_n (C : ph_C p s m args c cc nL own Ts D cl tys A KX) {j : Fin 4} {x : Int32} (hd : decode cc pc = .ok (.istore_n j, 1)) (hn : (j : Nat) < nL) (ho : ph_ok lv (j : Nat) = true)
    (k : ph_W p l e R s m args below meth c D cl dT kd A nL Q L ad τ cells slots (pc + 1) (((j : Nat), some (.int x)) :: lv) st) : ph_W p l e R s m args below meth c D cl dT kd A nL Q L ad τ cells slots pc lv (.int x :: st) := fun H locs ls hU hS hl => lv_istore_n C.hx C.hb hd rfl hl.lv hn rfl (fun ls2 h2 => k H locs ls2 hU hS (ph_st1' hl ho h2))
theorem ph_istore (C : ph_C p s m args c cc nL own Ts D cl tys A KX) {j : Nat} {x : Int32} (hd : decode cc pc = .ok (.istore j, 2)) (hn : j < nL) (ho : ph_ok lv j = true)
    (k : ph_W p l e R s m args below meth c D cl dT kd A nL Q L ad τ cells slots (pc + 2) ((j, some (.int x)) :: lv) st) : ph_W p l e R s m args below meth c D cl dT kd A nL Q L ad τ cells slots pc lv (.int x :: st) := fun H locs ls hU hS hl => lv_istore C.hx C.hb hd hl.lv hn rfl (fun ls2 h2 => k H locs ls2 hU hS (ph_st1' hl ho h2))
theorem ph_lstore_n (C : ph_C p s m args c cc nL own Ts D cl tys A KX) {j : Fin 4} {x : Int64} (hd : decode cc pc = .ok (.lstore_n j, 1)) (hn : (j : Nat) + 1 < nL) (ho : ph_ok lv (j : Nat) = true)
    (k : ph_W p l e R s m args below meth c D cl dT kd A nL Q L ad τ cells slots (pc + 1) (((j : Nat), some (.long x)) :: ((j : Nat) + 1, none) :: lv) st) : ph_W p l e R s m args below meth c D cl dT kd A nL Q L ad τ cells slots pc lv (.long x :: st) := fun H locs ls hU hS hl => lv_lstore_n C.hx C.hb hd rfl hl.lv hn rfl (fun ls2 h2 => k H locs ls2 hU hS (ph_st2' hl ho h2))
theorem ph_lstore (C : ph_C p s m args c cc nL own Ts D cl tys A KX) {j : Nat} {x : Int64} (hd : decode cc pc = .ok (.lstore j, 2)) (hn : j + 1 < nL) (ho : ph_ok lv j = true)
    (k : ph_W p l e R s m args below meth c D cl dT kd A nL Q L ad τ cells slots (pc + 2) ((j, some (.long x)) :: (j + 1, none) :: lv) st) : ph_W p l e R s m args below meth c D cl dT kd A nL Q L ad τ cells slots pc lv (.long x :: st) := fun H locs ls hU hS hl => lv_lstore C.hx C.hb hd hl.lv hn rfl (fun ls2 h2 => k H locs ls2 hU hS (ph_st2' hl ho h2))
theorem ph_astore_n (C : ph_C p s m args c cc nL own Ts D cl tys A KX) {j : Fin 4} {x : Nat} (hd : decode cc pc = .ok (.astore_n j, 1)) (hn : (j : Nat) < nL) (ho : ph_ok lv (j : Nat) = true)
    (k : ph_W p l e R s m args below meth c D cl dT kd A nL Q L ad τ cells slots (pc + 1) (((j : Nat), some (.ref x)) :: lv) st) : ph_W p l e R s m args below meth c D cl dT kd A nL Q L ad τ cells slots pc lv (.ref x :: st) := fun H locs ls hU hS hl => lv_astore_n C.hx C.hb hd rfl hl.lv hn rfl (fun ls2 h2 => k H locs ls2 hU hS (ph_st1' hl ho h2))
theorem ph_astore (C : ph_C p s m args c cc nL own Ts D cl tys A KX) {j : Nat} {x : Nat} (hd : decode cc pc = .ok (.astore j, 2)) (hn : j < nL) (ho : ph_ok lv j = true)
    (k : ph_W p l e R s m args below meth c D cl dT kd A nL Q L ad τ cells slots (pc + 2) ((j, some (.ref x)) :: lv) st) : ph_W p l e R s m args below meth c D cl dT kd A nL Q L ad τ cells slots pc lv (.ref x :: st) := fun H locs ls hU hS hl => lv_astore C.hx C.hb hd hl.lv hn rfl (fun ls2 h2 => k H locs ls2 hU hS (ph_st1' hl ho h2))
theorem ph_iinc (C : ph_C p s m args c cc nL own Ts D cl tys A KX) {j : Nat} {n x : Int} (hd : decode cc pc = .ok (.iinc j n, 3)) (hg : ph_g lv j = some (.int (ph_i x))) (ho : ph_ok lv j = true)
    (k : ph_W p l e R s m args below meth c D cl dT kd A nL Q L ad τ cells slots (pc + 3) ((j, some (.int (ph_i (x + n)))) :: lv) st) : ph_W p l e R s m args below meth c D cl dT kd A nL Q L ad τ cells slots pc lv st := fun H locs ls hU hS hl => by
  have hm : (j, Value.int (ph_i x)) ∈ ph_ll nL lv := ph_ll_mem.mpr ⟨hl.bd hg, hg⟩
  obtain ⟨q, hq⟩ := List.getElem?_of_mem hm
  exact lv_iinc (v := ph_i (x + n)) C.hx C.hb hd hl.lv hq (pn_iadd x n) (hl.bd hg) rfl (fun ls2 h2 => k H locs ls2 hU hS (ph_st1' hl ho h2))
theorem ph_iadd (C : ph_C p s m args c cc nL own Ts D cl tys A KX) {x y : Int} (hd : decode cc pc = .ok (.iadd, 1)) 
    (k : ph_W p l e R s m args below meth c D cl dT kd A nL Q L ad τ cells slots (pc + 1) lv (.int (ph_i (x + y)) :: st)) : ph_W p l e R s m args below meth c D cl dT kd A nL Q L ad τ cells slots pc lv (.int (ph_i y) :: .int (ph_i x) :: st) := fun H locs ls hU hS hl => lv_iadd C.hx C.hb hd (by rw [pn_iadd]; exact (k H locs ls hU hS hl))
theorem ph_isub (C : ph_C p s m args c cc nL own Ts D cl tys A KX) {x y : Int} (hd : decode cc pc = .ok (.isub, 1)) 
    (k : ph_W p l e R s m args below meth c D cl dT kd A nL Q L ad τ cells slots (pc + 1) lv (.int (ph_i (x - y)) :: st)) : ph_W p l e R s m args below meth c D cl dT kd A nL Q L ad τ cells slots pc lv (.int (ph_i y) :: .int (ph_i x) :: st) := fun H locs ls hU hS hl => lv_isub C.hx C.hb hd (by rw [pn_isub]; exact (k H locs ls hU hS hl))
theorem ph_imul (C : ph_C p s m args c cc nL own Ts D cl tys A KX) {x y : Int} (hd : decode cc pc = .ok (.imul, 1)) 
    (k : ph_W p l e R s m args below meth c D cl dT kd A nL Q L ad τ cells slots (pc + 1) lv (.int (ph_i (x * y)) :: st)) : ph_W p l e R s m args below meth c D cl dT kd A nL Q L ad τ cells slots pc lv (.int (ph_i y) :: .int (ph_i x) :: st) := fun H locs ls hU hS hl => lv_imul C.hx C.hb hd (by rw [pn_imul]; exact (k H locs ls hU hS hl))
theorem ph_ladd (C : ph_C p s m args c cc nL own Ts D cl tys A KX) {x y : Int} (hd : decode cc pc = .ok (.ladd, 1)) 
    (k : ph_W p l e R s m args below meth c D cl dT kd A nL Q L ad τ cells slots (pc + 1) lv (.long (ph_l (x + y)) :: st)) : ph_W p l e R s m args below meth c D cl dT kd A nL Q L ad τ cells slots pc lv (.long (ph_l y) :: .long (ph_l x) :: st) := fun H locs ls hU hS hl => lv_ladd C.hx C.hb hd (by rw [pn_ladd]; exact (k H locs ls hU hS hl))
theorem ph_lsub (C : ph_C p s m args c cc nL own Ts D cl tys A KX) {x y : Int} (hd : decode cc pc = .ok (.lsub, 1)) 
    (k : ph_W p l e R s m args below meth c D cl dT kd A nL Q L ad τ cells slots (pc + 1) lv (.long (ph_l (x - y)) :: st)) : ph_W p l e R s m args below meth c D cl dT kd A nL Q L ad τ cells slots pc lv (.long (ph_l y) :: .long (ph_l x) :: st) := fun H locs ls hU hS hl => lv_lsub C.hx C.hb hd (by rw [pn_lsub]; exact (k H locs ls hU hS hl))
theorem ph_lmul (C : ph_C p s m args c cc nL own Ts D cl tys A KX) {x y : Int} (hd : decode cc pc = .ok (.lmul, 1)) 
    (k : ph_W p l e R s m args below meth c D cl dT kd A nL Q L ad τ cells slots (pc + 1) lv (.long (ph_l (x * y)) :: st)) : ph_W p l e R s m args below meth c D cl dT kd A nL Q L ad τ cells slots pc lv (.long (ph_l y) :: .long (ph_l x) :: st) := fun H locs ls hU hS hl => lv_lmul C.hx C.hb hd (by rw [pn_lmul]; exact (k H locs ls hU hS hl))
theorem ph_ineg (C : ph_C p s m args c cc nL own Ts D cl tys A KX) {x : Int} (hd : decode cc pc = .ok (.ineg, 1)) 
    (k : ph_W p l e R s m args below meth c D cl dT kd A nL Q L ad τ cells slots (pc + 1) lv (.int (ph_i (-x)) :: st)) : ph_W p l e R s m args below meth c D cl dT kd A nL Q L ad τ cells slots pc lv (.int (ph_i x) :: st) := fun H locs ls hU hS hl => lv_ineg C.hx C.hb hd (by rw [pn_ineg]; exact (k H locs ls hU hS hl))
theorem ph_lneg (C : ph_C p s m args c cc nL own Ts D cl tys A KX) {x : Int} (hd : decode cc pc = .ok (.lneg, 1)) 
    (k : ph_W p l e R s m args below meth c D cl dT kd A nL Q L ad τ cells slots (pc + 1) lv (.long (ph_l (-x)) :: st)) : ph_W p l e R s m args below meth c D cl dT kd A nL Q L ad τ cells slots pc lv (.long (ph_l x) :: st) := fun H locs ls hU hS hl => lv_lneg C.hx C.hb hd (by rw [pn_lneg]; exact (k H locs ls hU hS hl))
theorem ph_i2l (C : ph_C p s m args c cc nL own Ts D cl tys A KX) {x : Int} (hd : decode cc pc = .ok (.i2l, 1)) (hr : ph_ri x)
    (k : ph_W p l e R s m args below meth c D cl dT kd A nL Q L ad τ cells slots (pc + 1) lv (.long (ph_l x) :: st)) : ph_W p l e R s m args below meth c D cl dT kd A nL Q L ad τ cells slots pc lv (.int (ph_i x) :: st) := fun H locs ls hU hS hl => lv_i2l C.hx C.hb hd (pn_i2l hr) (k H locs ls hU hS hl)
theorem ph_l2i (C : ph_C p s m args c cc nL own Ts D cl tys A KX) {x : Int} (hd : decode cc pc = .ok (.l2i, 1)) 
    (k : ph_W p l e R s m args below meth c D cl dT kd A nL Q L ad τ cells slots (pc + 1) lv (.int (ph_i x) :: st)) : ph_W p l e R s m args below meth c D cl dT kd A nL Q L ad τ cells slots pc lv (.long (ph_l x) :: st) := fun H locs ls hU hS hl => lv_l2i C.hx C.hb hd (pn_l2i x) (k H locs ls hU hS hl)
theorem ph_iand (C : ph_C p s m args c cc nL own Ts D cl tys A KX) {x y : Int32} (hd : decode cc pc = .ok (.iand, 1)) (z : Int) (hv : x &&& y = ph_i z)
    (k : ph_W p l e R s m args below meth c D cl dT kd A nL Q L ad τ cells slots (pc + 1) lv (.int (ph_i z) :: st)) : ph_W p l e R s m args below meth c D cl dT kd A nL Q L ad τ cells slots pc lv (.int y :: .int x :: st) := fun H locs ls hU hS hl => lv_iand C.hx C.hb hd (by rw [hv]; exact (k H locs ls hU hS hl))
theorem ph_ior (C : ph_C p s m args c cc nL own Ts D cl tys A KX) {x y : Int32} (hd : decode cc pc = .ok (.ior, 1)) (z : Int) (hv : x ||| y = ph_i z)
    (k : ph_W p l e R s m args below meth c D cl dT kd A nL Q L ad τ cells slots (pc + 1) lv (.int (ph_i z) :: st)) : ph_W p l e R s m args below meth c D cl dT kd A nL Q L ad τ cells slots pc lv (.int y :: .int x :: st) := fun H locs ls hU hS hl => lv_ior C.hx C.hb hd (by rw [hv]; exact (k H locs ls hU hS hl))
theorem ph_ixor (C : ph_C p s m args c cc nL own Ts D cl tys A KX) {x y : Int32} (hd : decode cc pc = .ok (.ixor, 1)) (z : Int) (hv : x ^^^ y = ph_i z)
    (k : ph_W p l e R s m args below meth c D cl dT kd A nL Q L ad τ cells slots (pc + 1) lv (.int (ph_i z) :: st)) : ph_W p l e R s m args below meth c D cl dT kd A nL Q L ad τ cells slots pc lv (.int y :: .int x :: st) := fun H locs ls hU hS hl => lv_ixor C.hx C.hb hd (by rw [hv]; exact (k H locs ls hU hS hl))
theorem ph_ishl (C : ph_C p s m args c cc nL own Ts D cl tys A KX) {x y : Int32} (hd : decode cc pc = .ok (.ishl, 1)) (z : Int) (hv : x <<< (y &&& 31) = ph_i z)
    (k : ph_W p l e R s m args below meth c D cl dT kd A nL Q L ad τ cells slots (pc + 1) lv (.int (ph_i z) :: st)) : ph_W p l e R s m args below meth c D cl dT kd A nL Q L ad τ cells slots pc lv (.int y :: .int x :: st) := fun H locs ls hU hS hl => lv_ishl C.hx C.hb hd (by rw [hv]; exact (k H locs ls hU hS hl))
theorem ph_ishr (C : ph_C p s m args c cc nL own Ts D cl tys A KX) {x y : Int32} (hd : decode cc pc = .ok (.ishr, 1)) (z : Int) (hv : x >>> (y &&& 31) = ph_i z)
    (k : ph_W p l e R s m args below meth c D cl dT kd A nL Q L ad τ cells slots (pc + 1) lv (.int (ph_i z) :: st)) : ph_W p l e R s m args below meth c D cl dT kd A nL Q L ad τ cells slots pc lv (.int y :: .int x :: st) := fun H locs ls hU hS hl => lv_ishr C.hx C.hb hd (by rw [hv]; exact (k H locs ls hU hS hl))
theorem ph_land (C : ph_C p s m args c cc nL own Ts D cl tys A KX) {x y : Int64} (hd : decode cc pc = .ok (.land, 1)) (z : Int) (hv : x &&& y = ph_l z)
    (k : ph_W p l e R s m args below meth c D cl dT kd A nL Q L ad τ cells slots (pc + 1) lv (.long (ph_l z) :: st)) : ph_W p l e R s m args below meth c D cl dT kd A nL Q L ad τ cells slots pc lv (.long y :: .long x :: st) := fun H locs ls hU hS hl => lv_land C.hx C.hb hd (by rw [hv]; exact (k H locs ls hU hS hl))
theorem ph_lor (C : ph_C p s m args c cc nL own Ts D cl tys A KX) {x y : Int64} (hd : decode cc pc = .ok (.lor, 1)) (z : Int) (hv : x ||| y = ph_l z)
    (k : ph_W p l e R s m args below meth c D cl dT kd A nL Q L ad τ cells slots (pc + 1) lv (.long (ph_l z) :: st)) : ph_W p l e R s m args below meth c D cl dT kd A nL Q L ad τ cells slots pc lv (.long y :: .long x :: st) := fun H locs ls hU hS hl => lv_lor C.hx C.hb hd (by rw [hv]; exact (k H locs ls hU hS hl))
theorem ph_lxor (C : ph_C p s m args c cc nL own Ts D cl tys A KX) {x y : Int64} (hd : decode cc pc = .ok (.lxor, 1)) (z : Int) (hv : x ^^^ y = ph_l z)
    (k : ph_W p l e R s m args below meth c D cl dT kd A nL Q L ad τ cells slots (pc + 1) lv (.long (ph_l z) :: st)) : ph_W p l e R s m args below meth c D cl dT kd A nL Q L ad τ cells slots pc lv (.long y :: .long x :: st) := fun H locs ls hU hS hl => lv_lxor C.hx C.hb hd (by rw [hv]; exact (k H locs ls hU hS hl))
theorem ph_lshl (C : ph_C p s m args c cc nL own Ts D cl tys A KX) {x : Int64} {y : Int32} (hd : decode cc pc = .ok (.lshl, 1)) (z : Int) (hv : x <<< (y.toInt64 &&& 63) = ph_l z)
    (k : ph_W p l e R s m args below meth c D cl dT kd A nL Q L ad τ cells slots (pc + 1) lv (.long (ph_l z) :: st)) : ph_W p l e R s m args below meth c D cl dT kd A nL Q L ad τ cells slots pc lv (.int y :: .long x :: st) := fun H locs ls hU hS hl => lv_lshl C.hx C.hb hd hv (k H locs ls hU hS hl)
theorem ph_lshr (C : ph_C p s m args c cc nL own Ts D cl tys A KX) {x : Int64} {y : Int32} (hd : decode cc pc = .ok (.lshr, 1)) (z : Int) (hv : x >>> (y.toInt64 &&& 63) = ph_l z)
    (k : ph_W p l e R s m args below meth c D cl dT kd A nL Q L ad τ cells slots (pc + 1) lv (.long (ph_l z) :: st)) : ph_W p l e R s m args below meth c D cl dT kd A nL Q L ad τ cells slots pc lv (.int y :: .long x :: st) := fun H locs ls hU hS hl => lv_lshr C.hx C.hb hd hv (k H locs ls hU hS hl)
theorem ph_iushr (C : ph_C p s m args c cc nL own Ts D cl tys A KX) {x y : Int32} (hd : decode cc pc = .ok (.iushr, 1)) (z : Int) (hv : (x.toUInt32 >>> (y.toUInt32 &&& Int32.toUInt32 31)).toInt32 = ph_i z)
    (k : ph_W p l e R s m args below meth c D cl dT kd A nL Q L ad τ cells slots (pc + 1) lv (.int (ph_i z) :: st)) : ph_W p l e R s m args below meth c D cl dT kd A nL Q L ad τ cells slots pc lv (.int y :: .int x :: st) := fun H locs ls hU hS hl => lv_iushr C.hx C.hb hd hv (k H locs ls hU hS hl)
theorem ph_lushr (C : ph_C p s m args c cc nL own Ts D cl tys A KX) {x : Int64} {y : Int32} (hd : decode cc pc = .ok (.lushr, 1)) (z : Int) (hv : (x.toUInt64 >>> (y.toInt64.toUInt64 &&& Int64.toUInt64 63)).toInt64 = ph_l z)
    (k : ph_W p l e R s m args below meth c D cl dT kd A nL Q L ad τ cells slots (pc + 1) lv (.long (ph_l z) :: st)) : ph_W p l e R s m args below meth c D cl dT kd A nL Q L ad τ cells slots pc lv (.int y :: .long x :: st) := fun H locs ls hU hS hl => lv_lushr C.hx C.hb hd hv (k H locs ls hU hS hl)
theorem ph_idiv (C : ph_C p s m args c cc nL own Ts D cl tys A KX) {x y : Int32} (hd : decode cc pc = .ok (.idiv, 1)) (z : Int) (hne : ¬ y = 0) (hv : x / y = ph_i z)
    (k : ph_W p l e R s m args below meth c D cl dT kd A nL Q L ad τ cells slots (pc + 1) lv (.int (ph_i z) :: st)) : ph_W p l e R s m args below meth c D cl dT kd A nL Q L ad τ cells slots pc lv (.int y :: .int x :: st) := fun H locs ls hU hS hl => lv_idiv C.hx C.hb hd hne (by rw [hv]; exact (k H locs ls hU hS hl))
theorem ph_irem (C : ph_C p s m args c cc nL own Ts D cl tys A KX) {x y : Int32} (hd : decode cc pc = .ok (.irem, 1)) (z : Int) (hne : ¬ y = 0) (hv : x - x / y * y = ph_i z)
    (k : ph_W p l e R s m args below meth c D cl dT kd A nL Q L ad τ cells slots (pc + 1) lv (.int (ph_i z) :: st)) : ph_W p l e R s m args below meth c D cl dT kd A nL Q L ad τ cells slots pc lv (.int y :: .int x :: st) := fun H locs ls hU hS hl => lv_irem C.hx C.hb hd hne (by rw [hv]; exact (k H locs ls hU hS hl))
theorem ph_ldiv (C : ph_C p s m args c cc nL own Ts D cl tys A KX) {x y : Int64} (hd : decode cc pc = .ok (.ldiv, 1)) (z : Int) (hne : ¬ y = 0) (hv : x / y = ph_l z)
    (k : ph_W p l e R s m args below meth c D cl dT kd A nL Q L ad τ cells slots (pc + 1) lv (.long (ph_l z) :: st)) : ph_W p l e R s m args below meth c D cl dT kd A nL Q L ad τ cells slots pc lv (.long y :: .long x :: st) := fun H locs ls hU hS hl => lv_ldiv C.hx C.hb hd hne (by rw [hv]; exact (k H locs ls hU hS hl))
theorem ph_lrem (C : ph_C p s m args c cc nL own Ts D cl tys A KX) {x y : Int64} (hd : decode cc pc = .ok (.lrem, 1)) (z : Int) (hne : ¬ y = 0) (hv : x - x / y * y = ph_l z)
    (k : ph_W p l e R s m args below meth c D cl dT kd A nL Q L ad τ cells slots (pc + 1) lv (.long (ph_l z) :: st)) : ph_W p l e R s m args below meth c D cl dT kd A nL Q L ad τ cells slots pc lv (.long y :: .long x :: st) := fun H locs ls hU hS hl => lv_lrem C.hx C.hb hd hne (by rw [hv]; exact (k H locs ls hU hS hl))
theorem ph_dup (C : ph_C p s m args c cc nL own Ts D cl tys A KX) {v : Value} (hd : decode cc pc = .ok (.dup, 1)) (hv : v.category = 1)
    (k : ph_W p l e R s m args below meth c D cl dT kd A nL Q L ad τ cells slots (pc + 1) lv (v :: v :: st)) : ph_W p l e R s m args below meth c D cl dT kd A nL Q L ad τ cells slots pc lv (v :: st) := fun H locs ls hU hS hl => lv_dup C.hx C.hb hd hv (k H locs ls hU hS hl)
theorem ph_pop (C : ph_C p s m args c cc nL own Ts D cl tys A KX) {v : Value} (hd : decode cc pc = .ok (.pop, 1)) (hv : v.category = 1)
    (k : ph_W p l e R s m args below meth c D cl dT kd A nL Q L ad τ cells slots (pc + 1) lv st) : ph_W p l e R s m args below meth c D cl dT kd A nL Q L ad τ cells slots pc lv (v :: st) := fun H locs ls hU hS hl => lv_pop C.hx C.hb hd hv (k H locs ls hU hS hl)
theorem ph_dup_x1 (C : ph_C p s m args c cc nL own Ts D cl tys A KX) {v u : Value} (hd : decode cc pc = .ok (.dup_x1, 1)) (hv : v.category = 1) (hu : u.category = 1)
    (k : ph_W p l e R s m args below meth c D cl dT kd A nL Q L ad τ cells slots (pc + 1) lv (v :: u :: v :: st)) : ph_W p l e R s m args below meth c D cl dT kd A nL Q L ad τ cells slots pc lv (v :: u :: st) := fun H locs ls hU hS hl => lv_dup_x1 C.hx C.hb hd hv hu (k H locs ls hU hS hl)
theorem ph_dup_x2 (C : ph_C p s m args c cc nL own Ts D cl tys A KX) {v u t : Value} (hd : decode cc pc = .ok (.dup_x2, 1)) (hv : v.category = 1) (hu : u.category = 1) (ht : t.category = 1)
    (k : ph_W p l e R s m args below meth c D cl dT kd A nL Q L ad τ cells slots (pc + 1) lv (v :: u :: t :: v :: st)) : ph_W p l e R s m args below meth c D cl dT kd A nL Q L ad τ cells slots pc lv (v :: u :: t :: st) := fun H locs ls hU hS hl => lv_dup_x2 C.hx C.hb hd hv hu ht (k H locs ls hU hS hl)
theorem ph_dup2_11 (C : ph_C p s m args c cc nL own Ts D cl tys A KX) {v u : Value} (hd : decode cc pc = .ok (.dup2, 1)) (hv : v.category = 1) (hu : u.category = 1)
    (k : ph_W p l e R s m args below meth c D cl dT kd A nL Q L ad τ cells slots (pc + 1) lv (v :: u :: v :: u :: st)) : ph_W p l e R s m args below meth c D cl dT kd A nL Q L ad τ cells slots pc lv (v :: u :: st) := fun H locs ls hU hS hl => lv_dup2_11 C.hx C.hb hd hv hu (k H locs ls hU hS hl)
theorem ph_dup2_2 (C : ph_C p s m args c cc nL own Ts D cl tys A KX) {v : Value} (hd : decode cc pc = .ok (.dup2, 1)) (hv : v.category = 2)
    (k : ph_W p l e R s m args below meth c D cl dT kd A nL Q L ad τ cells slots (pc + 1) lv (v :: v :: st)) : ph_W p l e R s m args below meth c D cl dT kd A nL Q L ad τ cells slots pc lv (v :: st) := fun H locs ls hU hS hl => lv_dup2_2 C.hx C.hb hd hv (k H locs ls hU hS hl)
theorem ph_goto (C : ph_C p s m args c cc nL own Ts D cl tys A KX) {off : Int} {tgt : Nat} (hd : decode cc pc = .ok (.goto off, 3)) (ht : (pc : Int) + off = (tgt : Int))
    (k : ph_W p l e R s m args below meth c D cl dT kd A nL Q L ad τ cells slots tgt lv st) : ph_W p l e R s m args below meth c D cl dT kd A nL Q L ad τ cells slots pc lv st := fun H locs ls hU hS hl => lv_goto C.hx C.hb hd ht (k H locs ls hU hS hl)
theorem ph_icmp_eq (C : ph_C p s m args c cc nL own Ts D cl tys A KX) {x y off : Int} {tgt : Nat} (hd : decode cc pc = .ok (.if_icmp .eq off, 3)) (ht : (pc : Int) + off = (tgt : Int)) (hx : ph_ri x) (hy : ph_ri y)
    (kt : x = y → ph_W p l e R s m args below meth c D cl dT kd A nL Q L ad τ cells slots tgt lv st) (kf : ¬ x = y → ph_W p l e R s m args below meth c D cl dT kd A nL Q L ad τ cells slots (pc + 3) lv st) : ph_W p l e R s m args below meth c D cl dT kd A nL Q L ad τ cells slots pc lv (.int (ph_i y) :: .int (ph_i x) :: st) := fun H locs ls hU hS hl => lv_icmp_eq C.hx C.hb hd ht (fun q => kt ((ph_ieq hx hy).mp q) H locs ls hU hS hl) (fun q => kf (fun z => q ((ph_ieq hx hy).mpr z)) H locs ls hU hS hl)
theorem ph_if_eq (C : ph_C p s m args c cc nL own Ts D cl tys A KX) {x off : Int} {tgt : Nat} (hd : decode cc pc = .ok (.ifCond .eq off, 3)) (ht : (pc : Int) + off = (tgt : Int)) (hx : ph_ri x)
    (kt : x = 0 → ph_W p l e R s m args below meth c D cl dT kd A nL Q L ad τ cells slots tgt lv st) (kf : ¬ x = 0 → ph_W p l e R s m args below meth c D cl dT kd A nL Q L ad τ cells slots (pc + 3) lv st) : ph_W p l e R s m args below meth c D cl dT kd A nL Q L ad τ cells slots pc lv (.int (ph_i x) :: st) := fun H locs ls hU hS hl => lv_if_eq C.hx C.hb hd ht (fun q => kt ((ph_ieq hx (by omega : ph_ri 0)).mp q) H locs ls hU hS hl) (fun q => kf (fun z => q ((ph_ieq hx (by omega : ph_ri 0)).mpr z)) H locs ls hU hS hl)
theorem ph_l_eq (C : ph_C p s m args c cc nL own Ts D cl tys A KX) {x y off : Int} {tgt : Nat} (hd0 : decode cc pc = .ok (.lcmp, 1)) (hd : decode cc (pc + 1) = .ok (.ifCond .eq off, 3)) (ht : ((pc + 1 : Nat) : Int) + off = (tgt : Int)) (hx : ph_rl x) (hy : ph_rl y)
    (kt : x = y → ph_W p l e R s m args below meth c D cl dT kd A nL Q L ad τ cells slots tgt lv st) (kf : ¬ x = y → ph_W p l e R s m args below meth c D cl dT kd A nL Q L ad τ cells slots (pc + 4) lv st) : ph_W p l e R s m args below meth c D cl dT kd A nL Q L ad τ cells slots pc lv (.long (ph_l y) :: .long (ph_l x) :: st) := fun H locs ls hU hS hl => W.lcmp C.hx C.hb hd0 (lv_if_eq C.hx C.hb hd ht (fun q => kt ((ph_leq hx hy).mp ((lg_cmp_eq (ph_l x) (ph_l y)).mp q)) H locs ls hU hS hl) (fun q => kf (fun z => q ((lg_cmp_eq (ph_l x) (ph_l y)).mpr ((ph_leq hx hy).mpr z))) H locs ls hU hS hl))
theorem ph_icmp_ne (C : ph_C p s m args c cc nL own Ts D cl tys A KX) {x y off : Int} {tgt : Nat} (hd : decode cc pc = .ok (.if_icmp .ne off, 3)) (ht : (pc : Int) + off = (tgt : Int)) (hx : ph_ri x) (hy : ph_ri y)
    (kt : ¬ x = y → ph_W p l e R s m args below meth c D cl dT kd A nL Q L ad τ cells slots tgt lv st) (kf : x = y → ph_W p l e R s m args below meth c D cl dT kd A nL Q L ad τ cells slots (pc + 3) lv st) : ph_W p l e R s m args below meth c D cl dT kd A nL Q L ad τ cells slots pc lv (.int (ph_i y) :: .int (ph_i x) :: st) := fun H locs ls hU hS hl => lv_icmp_ne C.hx C.hb hd ht (fun q => kt (fun z => q ((ph_ieq hx hy).mpr z)) H locs ls hU hS hl) (fun q => kf ((ph_ieq hx hy).mp q) H locs ls hU hS hl)
theorem ph_if_ne (C : ph_C p s m args c cc nL own Ts D cl tys A KX) {x off : Int} {tgt : Nat} (hd : decode cc pc = .ok (.ifCond .ne off, 3)) (ht : (pc : Int) + off = (tgt : Int)) (hx : ph_ri x)
    (kt : ¬ x = 0 → ph_W p l e R s m args below meth c D cl dT kd A nL Q L ad τ cells slots tgt lv st) (kf : x = 0 → ph_W p l e R s m args below meth c D cl dT kd A nL Q L ad τ cells slots (pc + 3) lv st) : ph_W p l e R s m args below meth c D cl dT kd A nL Q L ad τ cells slots pc lv (.int (ph_i x) :: st) := fun H locs ls hU hS hl => lv_if_ne C.hx C.hb hd ht (fun q => kt (fun z => q ((ph_ieq hx (by omega : ph_ri 0)).mpr z)) H locs ls hU hS hl) (fun q => kf ((ph_ieq hx (by omega : ph_ri 0)).mp q) H locs ls hU hS hl)
theorem ph_l_ne (C : ph_C p s m args c cc nL own Ts D cl tys A KX) {x y off : Int} {tgt : Nat} (hd0 : decode cc pc = .ok (.lcmp, 1)) (hd : decode cc (pc + 1) = .ok (.ifCond .ne off, 3)) (ht : ((pc + 1 : Nat) : Int) + off = (tgt : Int)) (hx : ph_rl x) (hy : ph_rl y)
    (kt : ¬ x = y → ph_W p l e R s m args below meth c D cl dT kd A nL Q L ad τ cells slots tgt lv st) (kf : x = y → ph_W p l e R s m args below meth c D cl dT kd A nL Q L ad τ cells slots (pc + 4) lv st) : ph_W p l e R s m args below meth c D cl dT kd A nL Q L ad τ cells slots pc lv (.long (ph_l y) :: .long (ph_l x) :: st) := fun H locs ls hU hS hl => W.lcmp C.hx C.hb hd0 (lv_if_ne C.hx C.hb hd ht (fun q => kt (fun z => q ((lg_cmp_eq (ph_l x) (ph_l y)).mpr ((ph_leq hx hy).mpr z))) H locs ls hU hS hl) (fun q => kf ((ph_leq hx hy).mp ((lg_cmp_eq (ph_l x) (ph_l y)).mp q)) H locs ls hU hS hl))
theorem ph_icmp_lt (C : ph_C p s m args c cc nL own Ts D cl tys A KX) {x y off : Int} {tgt : Nat} (hd : decode cc pc = .ok (.if_icmp .lt off, 3)) (ht : (pc : Int) + off = (tgt : Int)) (hx : ph_ri x) (hy : ph_ri y)
    (kt : x < y → ph_W p l e R s m args below meth c D cl dT kd A nL Q L ad τ cells slots tgt lv st) (kf : ¬ x < y → ph_W p l e R s m args below meth c D cl dT kd A nL Q L ad τ cells slots (pc + 3) lv st) : ph_W p l e R s m args below meth c D cl dT kd A nL Q L ad τ cells slots pc lv (.int (ph_i y) :: .int (ph_i x) :: st) := fun H locs ls hU hS hl => lv_icmp_lt C.hx C.hb hd ht (fun q => kt ((ph_ilt hx hy).mp q) H locs ls hU hS hl) (fun q => kf (fun z => q ((ph_ilt hx hy).mpr z)) H locs ls hU hS hl)
theorem ph_if_lt (C : ph_C p s m args c cc nL own Ts D cl tys A KX) {x off : Int} {tgt : Nat} (hd : decode cc pc = .ok (.ifCond .lt off, 3)) (ht : (pc : Int) + off = (tgt : Int)) (hx : ph_ri x)
    (kt : x < 0 → ph_W p l e R s m args below meth c D cl dT kd A nL Q L ad τ cells slots tgt lv st) (kf : ¬ x < 0 → ph_W p l e R s m args below meth c D cl dT kd A nL Q L ad τ cells slots (pc + 3) lv st) : ph_W p l e R s m args below meth c D cl dT kd A nL Q L ad τ cells slots pc lv (.int (ph_i x) :: st) := fun H locs ls hU hS hl => lv_if_lt C.hx C.hb hd ht (fun q => kt ((ph_ilt hx (by omega : ph_ri 0)).mp q) H locs ls hU hS hl) (fun q => kf (fun z => q ((ph_ilt hx (by omega : ph_ri 0)).mpr z)) H locs ls hU hS hl)
theorem ph_l_lt (C : ph_C p s m args c cc nL own Ts D cl tys A KX) {x y off : Int} {tgt : Nat} (hd0 : decode cc pc = .ok (.lcmp, 1)) (hd : decode cc (pc + 1) = .ok (.ifCond .lt off, 3)) (ht : ((pc + 1 : Nat) : Int) + off = (tgt : Int)) (hx : ph_rl x) (hy : ph_rl y)
    (kt : x < y → ph_W p l e R s m args below meth c D cl dT kd A nL Q L ad τ cells slots tgt lv st) (kf : ¬ x < y → ph_W p l e R s m args below meth c D cl dT kd A nL Q L ad τ cells slots (pc + 4) lv st) : ph_W p l e R s m args below meth c D cl dT kd A nL Q L ad τ cells slots pc lv (.long (ph_l y) :: .long (ph_l x) :: st) := fun H locs ls hU hS hl => W.lcmp C.hx C.hb hd0 (lv_if_lt C.hx C.hb hd ht (fun q => kt ((ph_llt hx hy).mp ((lg_cmp_lt (ph_l x) (ph_l y)).mp q)) H locs ls hU hS hl) (fun q => kf (fun z => q ((lg_cmp_lt (ph_l x) (ph_l y)).mpr ((ph_llt hx hy).mpr z))) H locs ls hU hS hl))
theorem ph_icmp_ge (C : ph_C p s m args c cc nL own Ts D cl tys A KX) {x y off : Int} {tgt : Nat} (hd : decode cc pc = .ok (.if_icmp .ge off, 3)) (ht : (pc : Int) + off = (tgt : Int)) (hx : ph_ri x) (hy : ph_ri y)
    (kt : y ≤ x → ph_W p l e R s m args below meth c D cl dT kd A nL Q L ad τ cells slots tgt lv st) (kf : ¬ y ≤ x → ph_W p l e R s m args below meth c D cl dT kd A nL Q L ad τ cells slots (pc + 3) lv st) : ph_W p l e R s m args below meth c D cl dT kd A nL Q L ad τ cells slots pc lv (.int (ph_i y) :: .int (ph_i x) :: st) := fun H locs ls hU hS hl => lv_icmp_ge C.hx C.hb hd ht (fun q => kt ((ph_ile hy hx).mp q) H locs ls hU hS hl) (fun q => kf (fun z => q ((ph_ile hy hx).mpr z)) H locs ls hU hS hl)
theorem ph_if_ge (C : ph_C p s m args c cc nL own Ts D cl tys A KX) {x off : Int} {tgt : Nat} (hd : decode cc pc = .ok (.ifCond .ge off, 3)) (ht : (pc : Int) + off = (tgt : Int)) (hx : ph_ri x)
    (kt : 0 ≤ x → ph_W p l e R s m args below meth c D cl dT kd A nL Q L ad τ cells slots tgt lv st) (kf : ¬ 0 ≤ x → ph_W p l e R s m args below meth c D cl dT kd A nL Q L ad τ cells slots (pc + 3) lv st) : ph_W p l e R s m args below meth c D cl dT kd A nL Q L ad τ cells slots pc lv (.int (ph_i x) :: st) := fun H locs ls hU hS hl => lv_if_ge C.hx C.hb hd ht (fun q => kt ((ph_ile (by omega : ph_ri 0) hx).mp q) H locs ls hU hS hl) (fun q => kf (fun z => q ((ph_ile (by omega : ph_ri 0) hx).mpr z)) H locs ls hU hS hl)
theorem ph_l_ge (C : ph_C p s m args c cc nL own Ts D cl tys A KX) {x y off : Int} {tgt : Nat} (hd0 : decode cc pc = .ok (.lcmp, 1)) (hd : decode cc (pc + 1) = .ok (.ifCond .ge off, 3)) (ht : ((pc + 1 : Nat) : Int) + off = (tgt : Int)) (hx : ph_rl x) (hy : ph_rl y)
    (kt : y ≤ x → ph_W p l e R s m args below meth c D cl dT kd A nL Q L ad τ cells slots tgt lv st) (kf : ¬ y ≤ x → ph_W p l e R s m args below meth c D cl dT kd A nL Q L ad τ cells slots (pc + 4) lv st) : ph_W p l e R s m args below meth c D cl dT kd A nL Q L ad τ cells slots pc lv (.long (ph_l y) :: .long (ph_l x) :: st) := fun H locs ls hU hS hl => W.lcmp C.hx C.hb hd0 (lv_if_ge C.hx C.hb hd ht (fun q => kt ((ph_lle hy hx).mp ((lg_cmp_ge (ph_l x) (ph_l y)).mp q)) H locs ls hU hS hl) (fun q => kf (fun z => q ((lg_cmp_ge (ph_l x) (ph_l y)).mpr ((ph_lle hy hx).mpr z))) H locs ls hU hS hl))
theorem ph_icmp_gt (C : ph_C p s m args c cc nL own Ts D cl tys A KX) {x y off : Int} {tgt : Nat} (hd : decode cc pc = .ok (.if_icmp .gt off, 3)) (ht : (pc : Int) + off = (tgt : Int)) (hx : ph_ri x) (hy : ph_ri y)
    (kt : y < x → ph_W p l e R s m args below meth c D cl dT kd A nL Q L ad τ cells slots tgt lv st) (kf : ¬ y < x → ph_W p l e R s m args below meth c D cl dT kd A nL Q L ad τ cells slots (pc + 3) lv st) : ph_W p l e R s m args below meth c D cl dT kd A nL Q L ad τ cells slots pc lv (.int (ph_i y) :: .int (ph_i x) :: st) := fun H locs ls hU hS hl => lv_icmp_gt C.hx C.hb hd ht (fun q => kt ((ph_ilt hy hx).mp q) H locs ls hU hS hl) (fun q => kf (fun z => q ((ph_ilt hy hx).mpr z)) H locs ls hU hS hl)
theorem ph_if_gt (C : ph_C p s m args c cc nL own Ts D cl tys A KX) {x off : Int} {tgt : Nat} (hd : decode cc pc = .ok (.ifCond .gt off, 3)) (ht : (pc : Int) + off = (tgt : Int)) (hx : ph_ri x)
    (kt : 0 < x → ph_W p l e R s m args below meth c D cl dT kd A nL Q L ad τ cells slots tgt lv st) (kf : ¬ 0 < x → ph_W p l e R s m args below meth c D cl dT kd A nL Q L ad τ cells slots (pc + 3) lv st) : ph_W p l e R s m args below meth c D cl dT kd A nL Q L ad τ cells slots pc lv (.int (ph_i x) :: st) := fun H locs ls hU hS hl => lv_if_gt C.hx C.hb hd ht (fun q => kt ((ph_ilt (by omega : ph_ri 0) hx).mp q) H locs ls hU hS hl) (fun q => kf (fun z => q ((ph_ilt (by omega : ph_ri 0) hx).mpr z)) H locs ls hU hS hl)
theorem ph_l_gt (C : ph_C p s m args c cc nL own Ts D cl tys A KX) {x y off : Int} {tgt : Nat} (hd0 : decode cc pc = .ok (.lcmp, 1)) (hd : decode cc (pc + 1) = .ok (.ifCond .gt off, 3)) (ht : ((pc + 1 : Nat) : Int) + off = (tgt : Int)) (hx : ph_rl x) (hy : ph_rl y)
    (kt : y < x → ph_W p l e R s m args below meth c D cl dT kd A nL Q L ad τ cells slots tgt lv st) (kf : ¬ y < x → ph_W p l e R s m args below meth c D cl dT kd A nL Q L ad τ cells slots (pc + 4) lv st) : ph_W p l e R s m args below meth c D cl dT kd A nL Q L ad τ cells slots pc lv (.long (ph_l y) :: .long (ph_l x) :: st) := fun H locs ls hU hS hl => W.lcmp C.hx C.hb hd0 (lv_if_gt C.hx C.hb hd ht (fun q => kt ((ph_llt hy hx).mp ((lg_cmp_gt (ph_l x) (ph_l y)).mp q)) H locs ls hU hS hl) (fun q => kf (fun z => q ((lg_cmp_gt (ph_l x) (ph_l y)).mpr ((ph_llt hy hx).mpr z))) H locs ls hU hS hl))
theorem ph_icmp_le (C : ph_C p s m args c cc nL own Ts D cl tys A KX) {x y off : Int} {tgt : Nat} (hd : decode cc pc = .ok (.if_icmp .le off, 3)) (ht : (pc : Int) + off = (tgt : Int)) (hx : ph_ri x) (hy : ph_ri y)
    (kt : x ≤ y → ph_W p l e R s m args below meth c D cl dT kd A nL Q L ad τ cells slots tgt lv st) (kf : ¬ x ≤ y → ph_W p l e R s m args below meth c D cl dT kd A nL Q L ad τ cells slots (pc + 3) lv st) : ph_W p l e R s m args below meth c D cl dT kd A nL Q L ad τ cells slots pc lv (.int (ph_i y) :: .int (ph_i x) :: st) := fun H locs ls hU hS hl => lv_icmp_le C.hx C.hb hd ht (fun q => kt ((ph_ile hx hy).mp q) H locs ls hU hS hl) (fun q => kf (fun z => q ((ph_ile hx hy).mpr z)) H locs ls hU hS hl)
theorem ph_if_le (C : ph_C p s m args c cc nL own Ts D cl tys A KX) {x off : Int} {tgt : Nat} (hd : decode cc pc = .ok (.ifCond .le off, 3)) (ht : (pc : Int) + off = (tgt : Int)) (hx : ph_ri x)
    (kt : x ≤ 0 → ph_W p l e R s m args below meth c D cl dT kd A nL Q L ad τ cells slots tgt lv st) (kf : ¬ x ≤ 0 → ph_W p l e R s m args below meth c D cl dT kd A nL Q L ad τ cells slots (pc + 3) lv st) : ph_W p l e R s m args below meth c D cl dT kd A nL Q L ad τ cells slots pc lv (.int (ph_i x) :: st) := fun H locs ls hU hS hl => lv_if_le C.hx C.hb hd ht (fun q => kt ((ph_ile hx (by omega : ph_ri 0)).mp q) H locs ls hU hS hl) (fun q => kf (fun z => q ((ph_ile hx (by omega : ph_ri 0)).mpr z)) H locs ls hU hS hl)
theorem ph_l_le (C : ph_C p s m args c cc nL own Ts D cl tys A KX) {x y off : Int} {tgt : Nat} (hd0 : decode cc pc = .ok (.lcmp, 1)) (hd : decode cc (pc + 1) = .ok (.ifCond .le off, 3)) (ht : ((pc + 1 : Nat) : Int) + off = (tgt : Int)) (hx : ph_rl x) (hy : ph_rl y)
    (kt : x ≤ y → ph_W p l e R s m args below meth c D cl dT kd A nL Q L ad τ cells slots tgt lv st) (kf : ¬ x ≤ y → ph_W p l e R s m args below meth c D cl dT kd A nL Q L ad τ cells slots (pc + 4) lv st) : ph_W p l e R s m args below meth c D cl dT kd A nL Q L ad τ cells slots pc lv (.long (ph_l y) :: .long (ph_l x) :: st) := fun H locs ls hU hS hl => W.lcmp C.hx C.hb hd0 (lv_if_le C.hx C.hb hd ht (fun q => kt ((ph_lle hx hy).mp ((lg_cmp_le (ph_l x) (ph_l y)).mp q)) H locs ls hU hS hl) (fun q => kf (fun z => q ((lg_cmp_le (ph_l x) (ph_l y)).mpr ((ph_lle hx hy).mpr z))) H locs ls hU hS hl))
theorem ph_bif_eq (C : ph_C p s m args c cc nL own Ts D cl tys A KX) {P : Prop} {off : Int} {tgt : Nat} (hd : decode cc pc = .ok (.ifCond .eq off, 3)) (ht : (pc : Int) + off = (tgt : Int))
    (kt : ¬ P → ph_W p l e R s m args below meth c D cl dT kd A nL Q L ad τ cells slots tgt lv st) (kf : P → ph_W p l e R s m args below meth c D cl dT kd A nL Q L ad τ cells slots (pc + 3) lv st) : ph_W p l e R s m args below meth c D cl dT kd A nL Q L ad τ cells slots pc lv (.int (ph_i (ph_b P)) :: st) := ph_if_eq C hd ht (by have := ph_br P; omega) (fun q => kt (fun z => by rw [ph_b1 z] at q; omega)) (fun q => kf (Classical.byContradiction fun z => q (ph_b0 z)))
theorem ph_bif_ne (C : ph_C p s m args c cc nL own Ts D cl tys A KX) {P : Prop} {off : Int} {tgt : Nat} (hd : decode cc pc = .ok (.ifCond .ne off, 3)) (ht : (pc : Int) + off = (tgt : Int))
    (kt : P → ph_W p l e R s m args below meth c D cl dT kd A nL Q L ad τ cells slots tgt lv st) (kf : ¬ P → ph_W p l e R s m args below meth c D cl dT kd A nL Q L ad τ cells slots (pc + 3) lv st) : ph_W p l e R s m args below meth c D cl dT kd A nL Q L ad τ cells slots pc lv (.int (ph_i (ph_b P)) :: st) := ph_if_ne C hd ht (by have := ph_br P; omega) (fun q => kt (Classical.byContradiction fun z => q (ph_b0 z))) (fun q => kf (fun z => by rw [ph_b1 z] at q; omega))
end PHW
end
section
section PHH
variable {p : Program} {l : Launch} {e : Env} {R : Room} {s : State} {m : MethodId} {args : Array Value} {below : List Frame} {meth : Method} {c : Code}
variable {D : va_G} {cl : List vw_C} {tys : List (ClassId × FieldType)} {dT : Nat → ClassId} {kd : Nat → ph_K} {A : Nat → Prop} {KX : State → Prop} {nL : Nat} {Q : State → Prop} {cc : ByteArray} {own : String} {Ts : List Cond}
variable {L : Nat → Nat → Prop} {ad : Nat → Nat → Nat} {τ : ph_T} {cells slots pc : Nat} {lv : ph_V} {st : List Value}
theorem ph_U.cell {H : Heap} (h : ph_U D cl dT kd A L ad τ H) {g i a : Nat} (hL : L g i) (ha : ad g i = a) : va_at D cl (a, ph_cell dT (kd g) (τ g i)) H := by
  subst ha
  exact (h.1 g i hL).2
theorem ph_U.ob {H : Heap} (h : ph_U D cl dT kd A L ad τ H) {g i a ci : Nat} {tags : List Nat} (hL : L g i) (ha : ad g i = a) (hk : kd g = .inl (ci, tags)) : va_P D cl [(a, .inr (ci, ph_fs tags (τ g i)))] H := by
  intro k q hq
  have hz : k < 1 := (List.getElem?_eq_some_iff.mp hq).1
  rw [show k = 0 by omega] at hq
  cases hq
  have h1 := h.cell hL ha
  rw [hk] at h1
  exact h1
theorem ph_U.ar {H : Heap} (h : ph_U D cl dT kd A L ad τ H) {g i a ty N : Nat} (hL : L g i) (ha : ad g i = a) (hk : kd g = .inr (ty, N)) : va_P D cl [(a, .inl (dT ty, N, ph_ac ty (τ g i)))] H := by
  intro k q hq
  have hz : k < 1 := (List.getElem?_eq_some_iff.mp hq).1
  rw [show k = 0 by omega] at hq
  cases hq
  have h1 := h.cell hL ha
  rw [hk] at h1
  exact h1
/-- getfield -/
theorem ph_get (C : ph_C p s m args c cc nL own Ts D cl tys A KX) {g i a ci index N k t : Nat} {tags : List Nat} {Cn ref : String} {T : u_T} {v : Value} (hd : decode cc pc = .ok (.getfield index, 3)) (hL : L g i) (ha : ad g i = a) (hk : kd g = .inl (ci, tags)) (hc : cl[ci]? = some (Cn, T, N)) (hin : ∀ w ∈ u_ws Cn T N, w ∈ Ts) (hkN : k < N) (ht : tags[k]? = some t) (href : (T k).1 = ref) (hlink : Cond.fieldLink own index ref (T k).2.1 (T k).2.2.1 ∈ Ts) (hv : ph_e t (τ g i k) = v)
    (kk : ph_W p l e R s m args below meth c D cl dT kd A nL Q L ad τ cells slots (pc + 3) lv (v :: st)) : ph_W p l e R s m args below meth c D cl dT kd A nL Q L ad τ cells slots pc lv (.ref a :: st) := fun H locs ls hU hS hl => by
  subst hv
  exact va_get (ref := ref) C.hx C.hb C.hts hin C.hown C.hK (hU.ob hL ha hk) 0 rfl hc k hkN (C.hts _ hlink) (fun x h => by rw [← href]; exact h) (ph_fs_get ht) hd (kk H locs ls hU hS hl)
theorem ph_getN (C : ph_C p s m args c cc nL own Ts D cl tys A KX) {g i a ci index N k t : Nat} {tags : List Nat} {Cn ref host : String} {T : u_T} {v : Value} (hd : decode cc pc = .ok (.getfield index, 3)) (hL : L g i) (ha : ad g i = a) (hk : kd g = .inl (ci, tags)) (hc : cl[ci]? = some (Cn, T, N)) (hin : ∀ w ∈ u_ws Cn T N, w ∈ Ts) (hkN : k < N) (ht : tags[k]? = some t) (href : (T k).1 = ref) (hlink : (Cond.fieldLinkNest own index ref (T k).2.1 (T k).2.2.1 host).before args s = true) (hv : ph_e t (τ g i k) = v)
    (kk : ph_W p l e R s m args below meth c D cl dT kd A nL Q L ad τ cells slots (pc + 3) lv (v :: st)) : ph_W p l e R s m args below meth c D cl dT kd A nL Q L ad τ cells slots pc lv (.ref a :: st) := fun H locs ls hU hS hl => by
  subst hv
  exact va_getN (ref := ref) C.hx C.hb C.hts hin C.hown C.hK (hU.ob hL ha hk) 0 rfl hc k hkN hlink (fun x h => by rw [← href]; exact h) (ph_fs_get ht) hd (kk H locs ls hU hS hl)
/-- putfield -/
theorem ph_put (C : ph_C p s m args c cc nL own Ts D cl tys A KX) {g i a ci index N k t : Nat} {tags : List Nat} {Cn ref : String} {T : u_T} {ty0 : Nat → FieldType} {ty : FieldType} {v : Value} (hd : decode cc pc = .ok (.putfield index, 3)) (z : Int) (hL : L g i) (ha : ad g i = a) (hk : kd g = .inl (ci, tags)) (hc : cl[ci]? = some (Cn, T, N)) (hin : ∀ w ∈ u_ws Cn T N, w ∈ Ts) (hty : ∀ k, k < N → parseFieldDescriptor (T k).2.2.1 = some (ty0 k)) (hnm : ∀ a, a < N → ∀ b, b < N → a ≠ b → (T a).2.1 ≠ (T b).2.1) (hkN : k < N) (ht : tags[k]? = some t) (href : (T k).1 = ref) (hlink : Cond.fieldLink own index ref (T k).2.1 (T k).2.2.1 ∈ Ts) (hfin : (T k).2.2.2 = false) (hd0 : parseFieldDescriptor (T k).2.2.1 = some ty) (hv : ph_e t z = v) (hn : narrow ty v = v) (hfit : fits ty v = true)
    (kk : ph_W p l e R s m args below meth c D cl dT kd A nL Q L ad (ph_up τ g i k z) cells slots (pc + 3) lv st) : ph_W p l e R s m args below meth c D cl dT kd A nL Q L ad τ cells slots pc lv (v :: .ref a :: st) := fun H locs ls hU hS hl => by
  subst hv
  subst ha
  have hap := va_apart (own := own) C.hts hin ty0 hty hnm C.hK hc
  obtain ⟨r, h1, cell, q1, q2, q3, q4⟩ := (hU.ob hL rfl hk) 0 _ rfl
  have hr : r = (Cn, T, N) := Option.some.inj (h1.symm.trans hc)
  subst hr
  obtain ⟨hSl, hfc, kC, hkC, hkind⟩ := C.hK.1 ci _ hc
  obtain ⟨cf, kf, fi, f, hi, hsl⟩ := hSl k hkN
  have hlay := C.hts _ (hin _ (u_in_lay hkN))
  unfold u_lay at hlay
  rw [if_neg (by rw [hfin]; decide)] at hlay
  have hst := (u_facts hfc hkC (u_lays C.hts hin hkN) hi).1
  have h6 := u_store hfc hkC hkind hlay hi hd0 hn hfit
  refine W.putK C.hx C.hb (f := f) ⟨C.hown, C.hts _ hlink, ⟨_, _, _, (by rw [← href]; exact hi)⟩, hst⟩ (by rw [q2]; exact h6) q1 q3 (by rw [hsl]; exact k2_hasslot (q4 k hkN)) rfl rfl hd fun H' e1 e2 e3 => ?_
  rw [hsl] at e1 ⊢
  have hlen : k < (ph_fs tags (τ g i)).length := by
    rw [ph_fs_len]
    exact (List.getElem?_eq_some_iff.mp ht).1
  refine kk H' _ ls (hU.put hL ?_ e3) (hS.put e2 e3 (hU.1 g i hL).1) hl
  rw [hk]
  show va_at D cl (ad g i, .inr (ci, ph_fs tags (ph_u1 (τ g i) k z))) H'
  rw [← ph_fs_set ht z]
  exact ⟨_, hc, t_OB.to (V := updV (vp_V (ph_fs tags (τ g i))) k (ph_e t z)) ⟨_, e1, q2, q3, t_set q4 hap hkN (ph_e t z)⟩ (fun j _ => vp_updV_set hlen (ph_e t z) j)⟩
theorem ph_putF (C : ph_C p s m args c cc nL own Ts D cl tys A KX) {g i a ci index N k t : Nat} {tags : List Nat} {Cn ref : String} {T : u_T} {ty0 : Nat → FieldType} {ty : FieldType} {v : Value} (hd : decode cc pc = .ok (.putfield index, 3)) (z : Int) (hL : L g i) (ha : ad g i = a) (hk : kd g = .inl (ci, tags)) (hc : cl[ci]? = some (Cn, T, N)) (hin : ∀ w ∈ u_ws Cn T N, w ∈ Ts) (hty : ∀ k, k < N → parseFieldDescriptor (T k).2.2.1 = some (ty0 k)) (hnm : ∀ a, a < N → ∀ b, b < N → a ≠ b → (T a).2.1 ≠ (T b).2.1) (hkN : k < N) (ht : tags[k]? = some t) (href : (T k).1 = ref) (hlink : Cond.fieldLink own index ref (T k).2.1 (T k).2.2.1 ∈ Ts) (hfin : (T k).2.2.2 = true) (hin2 : meth.name = "<init>") (hdecl : (T k).1 = own) (hd0 : parseFieldDescriptor (T k).2.2.1 = some ty) (hv : ph_e t z = v) (hn : narrow ty v = v) (hfit : fits ty v = true)
    (kk : ph_W p l e R s m args below meth c D cl dT kd A nL Q L ad (ph_up τ g i k z) cells slots (pc + 3) lv st) : ph_W p l e R s m args below meth c D cl dT kd A nL Q L ad τ cells slots pc lv (v :: .ref a :: st) := fun H locs ls hU hS hl => by
  subst hv
  subst ha
  have hap := va_apart (own := own) C.hts hin ty0 hty hnm C.hK hc
  obtain ⟨r, h1, cell, q1, q2, q3, q4⟩ := (hU.ob hL rfl hk) 0 _ rfl
  have hr : r = (Cn, T, N) := Option.some.inj (h1.symm.trans hc)
  subst hr
  obtain ⟨hSl, hfc, kC, hkC, hkind⟩ := C.hK.1 ci _ hc
  obtain ⟨cf, kf, fi, f, hi, hsl⟩ := hSl k hkN
  have hlay := C.hts _ (hin _ (u_in_lay hkN))
  unfold u_lay at hlay
  rw [if_pos hfin] at hlay
  have hst := (u_facts hfc hkC (u_lays C.hts hin hkN) hi).1
  have hcf : m.cls = cf := by
    obtain ⟨_, _, c', _, _, _, -, -, hf', -, -, -, hown2, -⟩ := Cond.laysFinal_spec hlay
    have e1 : c' = cf := by have := hi.symm.trans hf'; simp at this; exact this.1.symm
    rw [hdecl] at hown2
    rw [← e1]
    exact Option.some.inj (C.hown.symm.trans hown2)
  have h6 := u_fits hfc hkC hkind (Or.inr hlay) hi hd0 hn hfit
  refine W.putFinK C.hx C.hb C.hown (C.hts _ hlink) (by rw [← href]; exact hi) hst hcf hin2 (by rw [q2]; exact h6) q1 q3 (by rw [hsl]; exact k2_hasslot (q4 k hkN)) rfl rfl hd fun H' e1 e2 e3 => ?_
  rw [hsl] at e1 ⊢
  have hlen : k < (ph_fs tags (τ g i)).length := by
    rw [ph_fs_len]
    exact (List.getElem?_eq_some_iff.mp ht).1
  refine kk H' _ ls (hU.put hL ?_ e3) (hS.put e2 e3 (hU.1 g i hL).1) hl
  rw [hk]
  show va_at D cl (ad g i, .inr (ci, ph_fs tags (ph_u1 (τ g i) k z))) H'
  rw [← ph_fs_set ht z]
  exact ⟨_, hc, t_OB.to (V := updV (vp_V (ph_fs tags (τ g i))) k (ph_e t z)) ⟨_, e1, q2, q3, t_set q4 hap hkN (ph_e t z)⟩ (fun j _ => vp_updV_set hlen (ph_e t z) j)⟩
/-- loads from arrays -/
theorem ph_iald (C : ph_C p s m args c cc nL own Ts D cl tys A KX) {g i a N : Nat} {x : Int} (hd : decode cc pc = .ok (.iaload, 1)) (hL : L g i) (ha : ad g i = a) (hk : kd g = .inr (0, N)) (hty : tys[0]? = some (dT 0, .int)) (j : Nat) (hj : x = (j : Int)) (hx : j < N) (hN : N < 2147483648)
    (kk : ph_W p l e R s m args below meth c D cl dT kd A nL Q L ad τ cells slots (pc + 1) lv (.int (ph_i (τ g i j)) :: st)) : ph_W p l e R s m args below meth c D cl dT kd A nL Q L ad τ cells slots pc lv (.int (ph_i x) :: .ref a :: st) := fun H locs ls hU hS hl =>
  va_iald C.hx C.hb C.hK (hU.ar hL ha hk) 0 0 rfl hty (ph_jin hj hx hN) hd (by rw [ph_jcl hj (by omega)]; exact kk H locs ls hU hS hl)
theorem ph_zald (C : ph_C p s m args c cc nL own Ts D cl tys A KX) {g i a N : Nat} {x : Int} (hd : decode cc pc = .ok (.baload, 1)) (hL : L g i) (ha : ad g i = a) (hk : kd g = .inr (1, N)) (hty : tys[1]? = some (dT 1, .boolean)) (j : Nat) (hj : x = (j : Int)) (hx : j < N) (hN : N < 2147483648)
    (kk : ph_W p l e R s m args below meth c D cl dT kd A nL Q L ad τ cells slots (pc + 1) lv (.int (ph_i (τ g i j)) :: st)) : ph_W p l e R s m args below meth c D cl dT kd A nL Q L ad τ cells slots pc lv (.int (ph_i x) :: .ref a :: st) := fun H locs ls hU hS hl =>
  va_zald C.hx C.hb C.hK (hU.ar hL ha hk) 0 1 rfl hty (ph_jin hj hx hN) hd (by rw [ph_jcl hj (by omega)]; exact kk H locs ls hU hS hl)
theorem ph_lald (C : ph_C p s m args c cc nL own Ts D cl tys A KX) {g i a N : Nat} {x : Int} (hd : decode cc pc = .ok (.laload, 1)) (hL : L g i) (ha : ad g i = a) (hk : kd g = .inr (2, N)) (hty : tys[2]? = some (dT 2, .long)) (j : Nat) (hj : x = (j : Int)) (hx : j < N) (hN : N < 2147483648)
    (kk : ph_W p l e R s m args below meth c D cl dT kd A nL Q L ad τ cells slots (pc + 1) lv (.long (ph_l (τ g i j)) :: st)) : ph_W p l e R s m args below meth c D cl dT kd A nL Q L ad τ cells slots pc lv (.int (ph_i x) :: .ref a :: st) := fun H locs ls hU hS hl =>
  va_lald C.hx C.hb C.hK (hU.ar hL ha hk) 0 2 rfl hty (ph_jin hj hx hN) hd (by rw [ph_jcl hj (by omega)]; exact kk H locs ls hU hS hl)
theorem ph_aald (C : ph_C p s m args c cc nL own Ts D cl tys A KX) {g i a N t : Nat} {x : Int} {Cn : String} {v : Value} (hd : decode cc pc = .ok (.aaload, 1)) (hL : L g i) (ha : ad g i = a) (hk : kd g = .inr (t + 3, N)) (hty : tys[t + 3]? = some (dT (t + 3), .object Cn)) (j : Nat) (hj : x = (j : Int)) (hx : j < N) (hN : N < 2147483648) (hv : va_rf (ph_r (τ g i j)) = v)
    (kk : ph_W p l e R s m args below meth c D cl dT kd A nL Q L ad τ cells slots (pc + 1) lv (v :: st)) : ph_W p l e R s m args below meth c D cl dT kd A nL Q L ad τ cells slots pc lv (.int (ph_i x) :: .ref a :: st) := fun H locs ls hU hS hl =>
  va_aldq C.hx C.hb C.hK (hU.ar hL ha hk) 0 (t + 3) rfl hty (ph_jin hj hx hN) hd (by rw [ph_jcl hj (by omega), hv]; exact kk H locs ls hU hS hl)
theorem ph_alen (C : ph_C p s m args c cc nL own Ts D cl tys A KX) {g i a N t : Nat} {ty : FieldType} (hd : decode cc pc = .ok (.arraylength, 1)) (hL : L g i) (ha : ad g i = a) (hk : kd g = .inr (t, N)) (hty : tys[t]? = some (dT t, ty))
    (kk : ph_W p l e R s m args below meth c D cl dT kd A nL Q L ad τ cells slots (pc + 1) lv (.int (ph_i (N : Int)) :: st)) : ph_W p l e R s m args below meth c D cl dT kd A nL Q L ad τ cells slots pc lv (.ref a :: st) := fun H locs ls hU hS hl =>
  va_alen C.hx C.hb C.hK (hU.ar hL ha hk) 0 t rfl hty (v := ph_i (N : Int)) (Int32.ofInt_eq_ofNat).symm hd (kk H locs ls hU hS hl)
theorem ph_iast (C : ph_C p s m args c cc nL own Ts D cl tys A KX) {g i a N : Nat} {x z : Int} (hd : decode cc pc = .ok (.iastore, 1)) (hL : L g i) (ha : ad g i = a) (hk : kd g = .inr (0, N)) (hty : tys[0]? = some (dT (0), .int)) (j : Nat) (hj : x = (j : Int)) (hx : j < N) (hN : N < 2147483648)
    (kk : ph_W p l e R s m args below meth c D cl dT kd A nL Q L ad (ph_up τ g i j z) cells slots (pc + 1) lv st) : ph_W p l e R s m args below meth c D cl dT kd A nL Q L ad τ cells slots pc lv (.int (ph_i z) :: .int (ph_i x) :: .ref a :: st) := fun H locs ls hU hS hl => by
  subst ha
  have hcell := (hU.ar hL rfl hk) 0 _ rfl
  have hin : vp_in (ph_i x) N := ph_jin hj hx hN
  refine W.iast C.hx C.hb hcell ((C.hK.2 _ _ hty).1 N (fun j => .int (ph_i (τ g i j)))) (fun q => by cases q) (by show ¬ (ph_i x < 0 ∨ (arrV _ _ _).slots.size ≤ _); rw [arrV_size]; exact hin) rfl rfl hd fun H1 e z1 oq => ?_
  refine kk H1 _ ls (hU.put hL ?_ oq) (hS.put z1 oq (hU.1 g i hL).1) hl
  rw [hk]
  show H1[ad g i]? = some (vp_cell _ _)
  rw [e, ph_jcl hj (by omega)]
  show some ((arrV (dT (0)) N (fun q => .int (ph_i (τ g i q)))).setSlot j _) = some (arrV (dT (0)) N (fun q => .int (ph_i (ph_u1 (τ g i) j z q))))
  rw [arrV_store]
  congr 2
  funext q
  by_cases hq : q = j
  · subst hq
    simp [updV, ph_u1]
  · simp [updV, ph_u1, hq]
theorem ph_zast (C : ph_C p s m args c cc nL own Ts D cl tys A KX) {g i a N : Nat} {x z : Int} (hd : decode cc pc = .ok (.bastore, 1)) (hz : z = 0 ∨ z = 1) (hL : L g i) (ha : ad g i = a) (hk : kd g = .inr (1, N)) (hty : tys[1]? = some (dT (1), .boolean)) (j : Nat) (hj : x = (j : Int)) (hx : j < N) (hN : N < 2147483648)
    (kk : ph_W p l e R s m args below meth c D cl dT kd A nL Q L ad (ph_up τ g i j z) cells slots (pc + 1) lv st) : ph_W p l e R s m args below meth c D cl dT kd A nL Q L ad τ cells slots pc lv (.int (ph_i z) :: .int (ph_i x) :: .ref a :: st) := fun H locs ls hU hS hl => by
  subst ha
  have hcell := (hU.ar hL rfl hk) 0 _ rfl
  have hin : vp_in (ph_i x) N := ph_jin hj hx hN
  refine W.zast C.hx C.hb hcell ((C.hK.2 _ _ hty).1 N (fun j => .int (ph_i (τ g i j)))) (fun q => by cases q) (by show ¬ (ph_i x < 0 ∨ (arrV _ _ _).slots.size ≤ _); rw [arrV_size]; exact hin) rfl rfl hd fun H1 e z1 oq => ?_
  refine kk H1 _ ls (hU.put hL ?_ oq) (hS.put z1 oq (hU.1 g i hL).1) hl
  rw [hk]
  show H1[ad g i]? = some (vp_cell _ _)
  rw [e, ph_jcl hj (by omega)]
  show some ((arrV (dT (1)) N (fun q => .int (ph_i (τ g i q)))).setSlot j _) = some (arrV (dT (1)) N (fun q => .int (ph_i (ph_u1 (τ g i) j z q))))
  rw [arrV_store]
  congr 2
  funext q
  by_cases hq : q = j
  · subst hq
    rcases hz with rfl | rfl <;> simp [updV, ph_u1] <;> rfl
  · simp [updV, ph_u1, hq]
theorem ph_last (C : ph_C p s m args c cc nL own Ts D cl tys A KX) {g i a N : Nat} {x z : Int} (hd : decode cc pc = .ok (.lastore, 1)) (hL : L g i) (ha : ad g i = a) (hk : kd g = .inr (2, N)) (hty : tys[2]? = some (dT (2), .long)) (j : Nat) (hj : x = (j : Int)) (hx : j < N) (hN : N < 2147483648)
    (kk : ph_W p l e R s m args below meth c D cl dT kd A nL Q L ad (ph_up τ g i j z) cells slots (pc + 1) lv st) : ph_W p l e R s m args below meth c D cl dT kd A nL Q L ad τ cells slots pc lv (.long (ph_l z) :: .int (ph_i x) :: .ref a :: st) := fun H locs ls hU hS hl => by
  subst ha
  have hcell := (hU.ar hL rfl hk) 0 _ rfl
  have hin : vp_in (ph_i x) N := ph_jin hj hx hN
  refine W.last C.hx C.hb hcell ((C.hK.2 _ _ hty).1 N (fun j => .long (ph_l (τ g i j)))) (fun q => by cases q) (by show ¬ (ph_i x < 0 ∨ (arrV _ _ _).slots.size ≤ _); rw [arrV_size]; exact hin) rfl rfl hd fun H1 e z1 oq => ?_
  refine kk H1 _ ls (hU.put hL ?_ oq) (hS.put z1 oq (hU.1 g i hL).1) hl
  rw [hk]
  show H1[ad g i]? = some (vp_cell _ _)
  rw [e, ph_jcl hj (by omega)]
  show some ((arrV (dT (2)) N (fun q => .long (ph_l (τ g i q)))).setSlot j _) = some (arrV (dT (2)) N (fun q => .long (ph_l (ph_u1 (τ g i) j z q))))
  rw [arrV_store]
  congr 2
  funext q
  by_cases hq : q = j
  · subst hq
    simp [updV, ph_u1]
  · simp [updV, ph_u1, hq]
theorem ph_aast (C : ph_C p s m args c cc nL own Ts D cl tys A KX) {g i a N t g2 i2 v ci : Nat} {x : Int} {r : vw_C} {tags : List Nat} (hL : L g i) (ha : ad g i = a) (hk : kd g = .inr (t + 3, N)) (hty : tys[t + 3]? = some (dT (t + 3), .object r.1)) (hL2 : L g2 i2) (ha2 : ad g2 i2 = v) (hk2 : kd g2 = .inl (ci, tags)) (hc : cl[ci]? = some r) (j : Nat) (hj : x = (j : Int)) (hx : j < N) (hN : N < 2147483648) (hd : decode cc pc = .ok (.aastore, 1))
    (kk : ph_W p l e R s m args below meth c D cl dT kd A nL Q L ad (ph_up τ g i j (v : Int)) cells slots (pc + 1) lv st) : ph_W p l e R s m args below meth c D cl dT kd A nL Q L ad τ cells slots pc lv (.ref v :: .int (ph_i x) :: .ref a :: st) := fun H locs ls hU hS hl => by
  subst ha
  have hcell := (hU.ar hL rfl hk) 0 _ rfl
  have hin : vp_in (ph_i x) N := ph_jin hj hx hN
  have hlt : (ph_i x).toNatClampNeg < N := Nat.not_le.mp fun q => hin (Or.inr q)
  have hn0 : ¬ ph_i x < 0 := fun q => hin (Or.inl q)
  obtain ⟨r', hr', cellV, g1, g2', g3, -⟩ := (hU.ob hL2 ha2 hk2) 0 _ rfl
  have hcls := (C.hK.1 ci r hc).2
  obtain ⟨kA, comp, k1, k2, k3, -⟩ := (C.hK.2 _ _ hty).2
  have hcomp : comp = D.1 ci := Option.some.inj (k3.symm.trans hcls.1)
  subst hcomp
  have hcls2 := hcls
  obtain ⟨kC, hkC, -⟩ := hcls2.2
  refine W.aast C.hx C.hb hcell (fun q h => by cases h) (fun h => by cases h) k1 k2 rfl hkC ⟨hn0, by show _ < (arrV _ _ _).slots.size; rw [arrV_size]; exact hlt⟩ g1 (fun q h => by rw [g3] at h; cases h) (by rw [g2']; exact hkC) (by rw [g2']; exact va_assign hcls) rfl rfl hd fun H1 e z1 oq => ?_
  refine kk H1 _ ls (hU.put hL ?_ oq) (hS.put z1 oq (hU.1 g i hL).1) hl
  rw [hk]
  show H1[ad g i]? = some (vp_cell _ _)
  rw [e, ph_jcl hj (by omega)]
  show some ((arrV (dT (t + 3)) N (fun q => va_rf (ph_r (τ g i q)))).setSlot j _) = some (arrV (dT (t + 3)) N (fun q => va_rf (ph_r (ph_u1 (τ g i) j (v : Int) q))))
  rw [arrV_store]
  congr 2
  funext q
  by_cases hq : q = j
  · subst hq
    simp [updV, ph_u1, ph_rn, va_rf]
  · simp [updV, ph_u1, hq]
/-- new cells -/
def ph_df (tags : List Nat) : Nat → Int := fun k => match tags[k]? with
  | some 0 => 0
  | some 1 => 0
  | some _ => -1
  | none => 0
theorem ph_new (C : ph_C p s m args c cc nL own Ts D cl tys A KX) {g ci index N : Nat} {tags : List Nat} {Cn : String} {T : u_T} {ty0 : Nat → FieldType} (hd : decode cc pc = .ok (.new index, 3)) (i : Nat) (hL : ¬ L g i) (hk : kd g = .inl (ci, tags)) (hc : cl[ci]? = some (Cn, T, N)) (hin : ∀ w ∈ u_ws Cn T N, w ∈ Ts) (hty : ∀ k, k < N → parseFieldDescriptor (T k).2.2.1 = some (ty0 k)) (hcl : Cond.classLink own index Cn ∈ Ts) (hins : Cond.instantiable Cn N ∈ Ts) (hini : Cond.initialized Cn ∈ Ts) (hdf : ∀ j, j < N → defaultValue (ty0 j) = vp_V (ph_fs tags (ph_df tags)) j) (h1 : cells + 1 ≤ R.cells) (h2 : slots + N ≤ R.slots)
    (kk : ∀ a : Nat, (∀ g' i', L g' i' → ad g' i' ≠ a) → ph_W p l e R s m args below meth c D cl dT kd A nL Q (ph_Ln L g i) (ph_an ad g i a) (ph_tn τ g i (ph_df tags)) (cells + 1) (slots + N) (pc + 3) lv (.ref a :: st)) : ph_W p l e R s m args below meth c D cl dT kd A nL Q L ad τ cells slots pc lv st := fun H locs ls hU hS hl => by
  have hKn := C.hK.1 ci _ hc
  refine W.newcK C.hx C.hb C.hown (C.hts _ hcl) (C.hts _ hins) (C.hts _ hini) rfl hd h1 h2 hKn.2.1 rfl fun H1 kC hkC e1 z1 o1 => ?_
  refine kk H.size (fun g' i' h' => Nat.ne_of_lt (hU.lt h')) H1 locs ls (hU.new hL (C.hA _ hS.1) rfl ?_ o1) ⟨Nat.le_trans hS.1 (by omega), fun x q1 q2 => (o1 x (Nat.lt_of_lt_of_le q1 hS.1)).trans (hS.2.1 x q1 q2), hS.2.2⟩ hl
  rw [hk]
  exact ⟨_, hc, (u_born ty0 C.hts hin hKn hkC e1 hty).to hdf⟩
theorem ph_newi (C : ph_C p s m args c cc nL own Ts D cl tys A KX) {g N : Nat} {x : Int} {at0 : ArrayType} (hd : decode cc pc = .ok (.newarray at0, 2)) (i : Nat) (hL : ¬ L g i) (hk : kd g = .inr (0, N)) (hty : tys[0]? = some (dT 0, .int)) (hw : Cond.arrayClass .int ∈ Ts) (hN : x = (N : Int)) (hN2 : N < 100000) (h1 : cells + 1 ≤ R.cells) (h2 : slots + N ≤ R.slots) (hat : newarray.typeOf at0 = .int)
    (kk : ∀ a : Nat, (∀ g' i', L g' i' → ad g' i' ≠ a) → ph_W p l e R s m args below meth c D cl dT kd A nL Q (ph_Ln L g i) (ph_an ad g i a) (ph_tn τ g i (fun _ => 0)) (cells + 1) (slots + N) (pc + 2) lv (.ref a :: st)) : ph_W p l e R s m args below meth c D cl dT kd A nL Q L ad τ cells slots pc lv (.int (ph_i x) :: st) := fun H locs ls hU hS hl => by
  subst hN
  refine va_newaK C.hx C.hb (by rw [hat]; exact C.hts _ hw) rfl hd rfl (fun q => by have := (ph_ilt (a := (N : Int)) (b := 0) (by omega) (by omega)).mp q; omega) (N := N) (by rw [ph_icl (by omega) (by omega)]; simp) (by rw [hat]; show N * 4 ≤ _; omega) h1 h2 rfl fun H1 cA e1 z1 o1 hAr hNm => ?_
  rw [hat] at e1 hNm
  have hcA : cA = dT 0 := Option.some.inj (hNm.symm.trans (C.hK.2 0 _ hty).2)
  subst hcA
  refine kk H.size (fun g' i' h' => Nat.ne_of_lt (hU.lt h')) H1 locs ls (hU.new hL (C.hA _ hS.1) rfl ?_ o1) ⟨Nat.le_trans hS.1 (by omega), fun x q1 q2 => (o1 x (Nat.lt_of_lt_of_le q1 hS.1)).trans (hS.2.1 x q1 q2), hS.2.2⟩ hl
  rw [hk]
  exact e1
theorem ph_newz (C : ph_C p s m args c cc nL own Ts D cl tys A KX) {g N : Nat} {x : Int} {at0 : ArrayType} (hd : decode cc pc = .ok (.newarray at0, 2)) (i : Nat) (hL : ¬ L g i) (hk : kd g = .inr (1, N)) (hty : tys[1]? = some (dT 1, .boolean)) (hw : Cond.arrayClass .boolean ∈ Ts) (hN : x = (N : Int)) (hN2 : N < 100000) (h1 : cells + 1 ≤ R.cells) (h2 : slots + N ≤ R.slots) (hat : newarray.typeOf at0 = .boolean)
    (kk : ∀ a : Nat, (∀ g' i', L g' i' → ad g' i' ≠ a) → ph_W p l e R s m args below meth c D cl dT kd A nL Q (ph_Ln L g i) (ph_an ad g i a) (ph_tn τ g i (fun _ => 0)) (cells + 1) (slots + N) (pc + 2) lv (.ref a :: st)) : ph_W p l e R s m args below meth c D cl dT kd A nL Q L ad τ cells slots pc lv (.int (ph_i x) :: st) := fun H locs ls hU hS hl => by
  subst hN
  refine va_newaK C.hx C.hb (by rw [hat]; exact C.hts _ hw) rfl hd rfl (fun q => by have := (ph_ilt (a := (N : Int)) (b := 0) (by omega) (by omega)).mp q; omega) (N := N) (by rw [ph_icl (by omega) (by omega)]; simp) (by rw [hat]; show N * 1 ≤ _; omega) h1 h2 rfl fun H1 cA e1 z1 o1 hAr hNm => ?_
  rw [hat] at e1 hNm
  have hcA : cA = dT 1 := Option.some.inj (hNm.symm.trans (C.hK.2 1 _ hty).2)
  subst hcA
  refine kk H.size (fun g' i' h' => Nat.ne_of_lt (hU.lt h')) H1 locs ls (hU.new hL (C.hA _ hS.1) rfl ?_ o1) ⟨Nat.le_trans hS.1 (by omega), fun x q1 q2 => (o1 x (Nat.lt_of_lt_of_le q1 hS.1)).trans (hS.2.1 x q1 q2), hS.2.2⟩ hl
  rw [hk]
  exact e1
theorem ph_newl (C : ph_C p s m args c cc nL own Ts D cl tys A KX) {g N : Nat} {x : Int} {at0 : ArrayType} (hd : decode cc pc = .ok (.newarray at0, 2)) (i : Nat) (hL : ¬ L g i) (hk : kd g = .inr (2, N)) (hty : tys[2]? = some (dT 2, .long)) (hw : Cond.arrayClass .long ∈ Ts) (hN : x = (N : Int)) (hN2 : N < 100000) (h1 : cells + 1 ≤ R.cells) (h2 : slots + N ≤ R.slots) (hat : newarray.typeOf at0 = .long)
    (kk : ∀ a : Nat, (∀ g' i', L g' i' → ad g' i' ≠ a) → ph_W p l e R s m args below meth c D cl dT kd A nL Q (ph_Ln L g i) (ph_an ad g i a) (ph_tn τ g i (fun _ => 0)) (cells + 1) (slots + N) (pc + 2) lv (.ref a :: st)) : ph_W p l e R s m args below meth c D cl dT kd A nL Q L ad τ cells slots pc lv (.int (ph_i x) :: st) := fun H locs ls hU hS hl => by
  subst hN
  refine va_newaK C.hx C.hb (by rw [hat]; exact C.hts _ hw) rfl hd rfl (fun q => by have := (ph_ilt (a := (N : Int)) (b := 0) (by omega) (by omega)).mp q; omega) (N := N) (by rw [ph_icl (by omega) (by omega)]; simp) (by rw [hat]; show N * 8 ≤ _; omega) h1 h2 rfl fun H1 cA e1 z1 o1 hAr hNm => ?_
  rw [hat] at e1 hNm
  have hcA : cA = dT 2 := Option.some.inj (hNm.symm.trans (C.hK.2 2 _ hty).2)
  subst hcA
  refine kk H.size (fun g' i' h' => Nat.ne_of_lt (hU.lt h')) H1 locs ls (hU.new hL (C.hA _ hS.1) rfl ?_ o1) ⟨Nat.le_trans hS.1 (by omega), fun x q1 q2 => (o1 x (Nat.lt_of_lt_of_le q1 hS.1)).trans (hS.2.1 x q1 q2), hS.2.2⟩ hl
  rw [hk]
  exact e1
theorem ph_newq (C : ph_C p s m args c cc nL own Ts D cl tys A KX) {g N index t : Nat} {x : Int} {Cn : String} (hd : decode cc pc = .ok (.anewarray index, 3)) (i : Nat) (hL : ¬ L g i) (hk : kd g = .inr (t + 3, N)) (hty : tys[t + 3]? = some (dT (t + 3), .object Cn)) (hcl : Cond.classLink own index Cn ∈ Ts) (hAO : va_AO Cn s) (hN : x = (N : Int)) (hN2 : N < 100000) (h1 : cells + 1 ≤ R.cells) (h2 : slots + N ≤ R.slots)
    (kk : ∀ a : Nat, (∀ g' i', L g' i' → ad g' i' ≠ a) → ph_W p l e R s m args below meth c D cl dT kd A nL Q (ph_Ln L g i) (ph_an ad g i a) (ph_tn τ g i (fun _ => -1)) (cells + 1) (slots + N) (pc + 3) lv (.ref a :: st)) : ph_W p l e R s m args below meth c D cl dT kd A nL Q L ad τ cells slots pc lv (.int (ph_i x) :: st) := fun H locs ls hU hS hl => by
  subst hN
  have hcl0 : (ph_i (N : Int)).toNatClampNeg = N := by rw [ph_icl (by omega) (by omega)]; simp
  refine W.anew C.hx C.hb C.hown (C.hts _ hcl) (va_AO.use hAO) rfl hd rfl (fun q => by have := (ph_ilt (a := (N : Int)) (b := 0) (by omega) (by omega)).mp q; omega) (by rw [hcl0]; omega) h1 (by rw [hcl0]; exact h2) fun cA kA comp f1 f2 f3 f4 => ?_
  rw [hcl0]
  generalize hH1 : H.push ({ cls := cA, slots := Array.replicate N .null, vm := .none } : Cell) = H1
  have z1 : H1.size = H.size + 1 := by rw [← hH1, Array.size_push]
  have e1 : H1[H.size]? = some (arrV cA N (fun _ => .null)) := by rw [← hH1, Array.getElem?_push_size, ← arrV_new]
  have o1 : ∀ q : Nat, q < H.size → H1[q]? = H[q]? := fun q hq => by rw [← hH1, Array.getElem?_push, if_neg (Nat.ne_of_lt hq)]
  obtain ⟨kA2, comp2, -, -, -, hNm⟩ := (C.hK.2 _ _ hty).2
  have hcA : cA = dT (t + 3) := Option.some.inj (f1.symm.trans hNm)
  subst hcA
  refine kk H.size (fun g' i' h' => Nat.ne_of_lt (hU.lt h')) H1 locs ls (hU.new hL (C.hA _ hS.1) rfl ?_ o1) ⟨Nat.le_trans hS.1 (by omega), fun x q1 q2 => (o1 x (Nat.lt_of_lt_of_le q1 hS.1)).trans (hS.2.1 x q1 q2), hS.2.2⟩ hl
  rw [hk]
  exact e1
/-- statics that nobody writes -/
theorem ph_gets (C : ph_C p s m args c cc nL own Ts D cl tys A KX) {index : Nat} {Cc n d ref : String} {v : Value} (hd : decode cc pc = .ok (.getstatic index, 3)) (hZ : va_Z Cc n d v A s s.heap) (hlink : Cond.fieldLink own index ref n d ∈ Ts) (href : Cc = ref)
    (kk : ph_W p l e R s m args below meth c D cl dT kd A nL Q L ad τ cells slots (pc + 3) lv (v :: st)) : ph_W p l e R s m args below meth c D cl dT kd A nL Q L ad τ cells slots pc lv st := fun H locs ls hU hS hl =>
  va_gets C.hx C.hb hZ hS C.hown (C.hts _ hlink) (fun x h => by rw [← href]; exact h) hd (kk H locs ls hU hS hl)
theorem ph_getsN (C : ph_C p s m args c cc nL own Ts D cl tys A KX) {index : Nat} {Cc n d ref host : String} {v : Value} (hd : decode cc pc = .ok (.getstatic index, 3)) (hZ : va_Z Cc n d v A s s.heap) (hlink : va_Nw (.fieldLinkNest own index ref n d host) s) (href : Cc = ref)
    (kk : ph_W p l e R s m args below meth c D cl dT kd A nL Q L ad τ cells slots (pc + 3) lv (v :: st)) : ph_W p l e R s m args below meth c D cl dT kd A nL Q L ad τ cells slots pc lv st := fun H locs ls hU hS hl =>
  va_getsN C.hx C.hb hZ hS C.hown (va_Nw.use rfl hlink) (fun x h => by rw [← href]; exact h) hd (kk H locs ls hU hS hl)
theorem ph_sald (C : ph_C p s m args c cc nL own Ts D cl tys A KX) {a N : Nat} {x z : Int} {f : Nat → Int32} (hd : decode cc pc = .ok (.iaload, 1)) (hcell : s.heap[a]? = some (vp_cell (dT 0) (N, .inl f))) (hA : ¬ A a) (hty : tys[0]? = some (dT 0, .int)) (j : Nat) (hj : x = (j : Int)) (hx : j < N) (hN : N < 2147483648) (hz : f j = ph_i z)
    (kk : ph_W p l e R s m args below meth c D cl dT kd A nL Q L ad τ cells slots (pc + 1) lv (.int (ph_i z) :: st)) : ph_W p l e R s m args below meth c D cl dT kd A nL Q L ad τ cells slots pc lv (.int (ph_i x) :: .ref a :: st) := fun H locs ls hU hS hl => by
  have hP : va_P D cl [(a, .inl (dT 0, N, .inl f))] H := by
    intro k q hq
    have hz : k < 1 := (List.getElem?_eq_some_iff.mp hq).1
    rw [show k = 0 by omega] at hq
    cases hq
    show H[a]? = some _
    rw [hS.2.1 a (Array.getElem?_eq_some_iff.mp hcell).1 hA]
    exact hcell
  exact va_iald C.hx C.hb C.hK hP 0 0 rfl hty (ph_jin hj hx hN) hd (by rw [ph_jcl hj (by omega), hz]; exact kk H locs ls hU hS hl)
/-- the constructor of Object -/
theorem ph_objInit (C : ph_C p s m args c cc nL own Ts D cl tys A KX) {index a : Nat} (hd : decode cc pc = .ok (.invokespecial index, 3)) (hlink : Cond.methodLink own index Lib.objectInit ∈ Ts) (hinst : Cond.instanceMethod Lib.objectInit ∈ Ts) (hcode : Cond.code Lib.objectInit ⟨#[0xb1]⟩ 1 none ∈ Ts) (hf : 1 ≤ R.frames) (hlo : (st.map fun v => v.category).sum + 12 ≤ R.locals)
    (kk : ph_W p l e R s m args below meth c D cl dT kd A nL Q L ad τ cells slots (pc + 3) lv st) : ph_W p l e R s m args below meth c D cl dT kd A nL Q L ad τ cells slots pc lv (.ref a :: st) := fun H locs ls hU hS hl =>
  W.objInit C.hx C.hb C.hown (C.hts _ hlink) (C.hts _ hinst) (C.hts _ hcode) rfl (by show ls.size = c.maxLocals; rw [C.1.2.2.1]; exact hl.1) rfl hd hf (by show 2 * 0 + _ + 12 ≤ _; omega) (kk H locs ls hU hS hl)
end PHH
/-! ===== contracts ===== -/
def ph_Q (D : va_G) (cl : List vw_C) (dT : Nat → ClassId) (kd : Nat → ph_K) (A : Nat → Prop) (post : Option Value → (Nat → Nat → Prop) → (Nat → Nat → Nat) → ph_T → Prop) : Array Value → State → Outcome → State → Prop := fun _ st o t =>
  (∃ (r : Option Value) (L' : Nat → Nat → Prop) (ad' : Nat → Nat → Nat) (τ' : ph_T), o = .returned r ∧ post r L' ad' τ' ∧ ph_U D cl dT kd A L' ad' τ' t.heap) ∧ va_F A st t
def ph_M (l : Launch) (y : MethodName) (ws : List Cond) (rm : Room) (D : va_G) (cl : List vw_C) (tys : List (ClassId × FieldType)) (dT : Nat → ClassId) (kd : Nat → ph_K) (A : Nat → Prop) (KX : State → Prop) (av : List Value) (L : Nat → Nat → Prop) (ad : Nat → Nat → Nat) (τ : ph_T) (post : Option Value → (Nat → Nat → Prop) → (Nat → Nat → Nat) → ph_T → Prop) (mc ms : Nat) : Prop :=
  Met l y ws rm (va_Pc av (fun U => (∀ q : Nat, U.heap.size ≤ q → A q) ∧ ph_U D cl dT kd A L ad τ U.heap ∧ va_K D cl tys U ∧ KX U ∧ ph_keep A KX)) (ph_Q D cl dT kd A post) mc ms A
section PHM
variable {p : Program} {l : Launch} {e : Env} {R : Room} {s : State} {m : MethodId} {args : Array Value} {below : List Frame} {meth : Method} {c : Code}
variable {D : va_G} {cl : List vw_C} {tys : List (ClassId × FieldType)} {dT : Nat → ClassId} {kd : Nat → ph_K} {A : Nat → Prop} {KX : State → Prop} {nL : Nat} {Q : State → Prop} {cc : ByteArray} {own : String} {Ts : List Cond}
variable {L : Nat → Nat → Prop} {ad : Nat → Nat → Nat} {τ : ph_T} {cells slots pc : Nat} {lv : ph_V} {st : List Value} {post : Option Value → (Nat → Nat → Prop) → (Nat → Nat → Nat) → ph_T → Prop}
theorem ph_M.of {y : MethodName} {ws ws' : List Cond} {rm : Room} {av : List Value} {mc ms maxL : Nat} {ret : Option FieldType} (hy : plainName y.cls = true) (hw : ws = Cond.code y cc maxL ret :: ws') (hlen : (lg_sl av).length ≤ maxL)
    (body : ∀ (p : Program) (e : Env) (s : State) (m : MethodId) (below : List Frame) (meth : Method) (c : Code), ph_C p s m av.toArray c cc maxL y.cls ws D cl tys A KX → meth.sig.returnType = ret → meth.locks = false → meth.name = y.name →
      ph_W p l e rm s m av.toArray below meth c D cl dT kd A maxL (MQ below (ph_Q D cl dT kd A post) av.toArray s mc ms A) L ad τ 0 0 0 (ph_mk (lv_args 0 av)) []) : ph_M l y ws rm D cl tys dT kd A KX av L ad τ post mc ms := by
  refine Met.ofW (cc := cc) (maxL := maxL) (ret := ret) hy hw ?_
  intro p e s m args below meth c s₁ B hml hv
  obtain ⟨rfl, hA, hU, hK, hX, hkeep⟩ := hv
  have hl := lv_entry av (n := maxL) hlen
  rw [lg_entry_eq]
  exact body p e s m below meth c ⟨⟨B.exec, B.bytes, hml, findClass_of_methodNamed B.named, atoms_spec (ws := ws) B.pre⟩, hK, hA, hX, hkeep⟩ B.returns B.notSynchronized (name_of_methodNamed B.named B.method).1 s.heap [] _ hU va_S.rf (ph_has.of hl)
theorem ph_blind {av : List Value} : FrameBlind (va_Pc av (fun U => (∀ q : Nat, U.heap.size ≤ q → A q) ∧ ph_U D cl dT kd A L ad τ U.heap ∧ va_K D cl tys U ∧ KX U ∧ ph_keep A KX)) := fun a U g mk q => by
  obtain ⟨q0, q1, q2, q3, q4, q5⟩ := q
  exact ⟨q0, q1, q2, va_K.moved (u := U) (U := U.calling g mk a) (Vm.Alike.refl U.vm) q3, q5 U (U.calling g mk a) (State.WarmedH.refl U) (Nat.le_refl _) (fun _ _ _ => rfl) q4, q5⟩
theorem ph_pre (C : ph_C p s m args c cc nL own Ts D cl tys A KX) {H : Heap} {locs : List Loc} (hU : ph_U D cl dT kd A L ad τ H) (hS : va_S A s.heap H locs) {av : List Value} {U : State} (hH : U.heap = H) (hW : s.WarmedH U.vm) : va_Pc av (fun U => (∀ q : Nat, U.heap.size ≤ q → A q) ∧ ph_U D cl dT kd A L ad τ U.heap ∧ va_K D cl tys U ∧ KX U ∧ ph_keep A KX) av.toArray U :=
  ⟨rfl, fun q h => C.hA q (by rw [hH] at h; exact Nat.le_trans hS.1 h), by rw [hH]; exact hU, va_K.moved hW.alike C.hK, C.2.2.2.2 s U hW (by rw [hH]; exact hS.1) (fun q h1 h2 => by rw [hH]; exact hS.2.1 q h1 h2) C.2.2.2.1, C.2.2.2.2⟩
theorem ph_back {H : Heap} {locs : List Loc} {ls : Array Slot} {mc ms : Nat} {rest : List Value} {a : Array Value} (hr : va_Run p l e R s m args below meth c H locs cells slots mc ms (F0 m pc ls st) rest (ph_Q D cl dT kd A post a) A) (hS : va_S A s.heap H locs) (hl : ph_has ls nL lv)
    (k : ∀ (r : Option Value) (L' : Nat → Nat → Prop) (ad' : Nat → Nat → Nat) (τ' : ph_T), post r L' ad' τ' → ph_W p l e R s m args below meth c D cl dT kd A nL Q L' ad' τ' (cells + mc) (slots + ms) (pc + 3) lv (r.toList ++ rest)) : W p l e R s m args below meth c H locs cells slots Q (F0 m pc ls st) := by
  intro T hT X
  obtain ⟨v, st₀, t, T', Lc, h0, X', hLc, e1, e2, ⟨⟨r, L', ad', τ', ho, hp, hU'⟩, hz, hk⟩, stp⟩ := hr T hT X
  cases ho
  rw [h0] at hz hk
  obtain ⟨t2, a1, b1⟩ := k _ L' ad' τ' hp T'.heap (locs ++ Lc) ls (by rw [e1]; exact hU')
    ⟨Nat.le_trans hS.1 (by rw [e1]; exact hz), fun q h1 h2 => by rw [e1, hk q (Nat.lt_of_lt_of_le h1 hS.1) h2]; exact hS.2.1 q h1 h2, fun q hq => by
      rcases List.mem_append.mp hq with h | h
      · exact hS.2.2 q h
      · exact hLc q h⟩ hl T' rfl X'
  exact ⟨t2, stp t2 a1, b1⟩
variable {y : MethodName} {ws ws' : List Cond} {rm : Room} {mc ms maxL index n b : Nat} {ret : Option FieldType} {As rest : List Value} {bytes : ByteArray} {Cn : String}
theorem ph_callV (C : ph_C p s m args c cc nL own Ts D cl tys A KX)  (hd : decode cc pc = .ok (.invokevirtual index, 3))(hM : ph_M l y ws rm D cl tys dT kd A KX (.ref b :: As) L ad τ post mc ms) (cw : CallW R s args own Cn index y bytes maxL ret ws rm mc ms n) {g i ci : Nat} {tags : List Nat} {q : vw_C} (hL : L g i) (ha : ad g i = b) (hk : kd g = .inl (ci, tags)) (hc : cl[ci]? = some q) (hq : q.1 = Cn) (hn : As.length = n) (hst : st = As.reverse ++ .ref b :: rest) (hro : (rest.map fun v => v.category).sum ≤ 8) (hf : cells + mc ≤ R.cells ∧ slots + ms ≤ R.slots)
    (k : ∀ (r : Option Value) (L' : Nat → Nat → Prop) (ad' : Nat → Nat → Nat) (τ' : ph_T), post r L' ad' τ' → ph_W p l e R s m args below meth c D cl dT kd A nL Q L' ad' τ' (cells + mc) (slots + ms) (pc + 3) lv (r.toList ++ rest)) : ph_W p l e R s m args below meth c D cl dT kd A nL Q L ad τ cells slots pc lv st := fun H locs ls hU hS hl => by
  subst hst
  subst hq
  exact ph_back (va_runV C.1 hM cw ⟨ph_blind, va_recv C.hK (hU.ob hL ha hk) (q0 := 0) hc rfl, fun U h1 h2 => ph_pre C hU hS h1 h2⟩ rfl hn hl.1 rfl (lv_room hro) hd hf) hS hl k
theorem ph_callS (C : ph_C p s m args c cc nL own Ts D cl tys A KX)  (hd : decode cc pc = .ok (.invokestatic index, 3))(hM : ph_M l y ws rm D cl tys dT kd A KX As L ad τ post mc ms) (cw : CallB R s args own index y bytes maxL ret ws rm mc ms n ∧ (Cond.static y).before args s = true) (hn : As.length = n) (hst : st = As.reverse ++ rest) (hro : (rest.map fun v => v.category).sum ≤ 8) (hf : cells + mc ≤ R.cells ∧ slots + ms ≤ R.slots)
    (k : ∀ (r : Option Value) (L' : Nat → Nat → Prop) (ad' : Nat → Nat → Nat) (τ' : ph_T), post r L' ad' τ' → ph_W p l e R s m args below meth c D cl dT kd A nL Q L' ad' τ' (cells + mc) (slots + ms) (pc + 3) lv (r.toList ++ rest)) : ph_W p l e R s m args below meth c D cl dT kd A nL Q L ad τ cells slots pc lv st := fun H locs ls hU hS hl => by
  subst hst
  exact ph_back (va_runS C.1 hM cw ⟨ph_blind, fun U h1 h2 => ph_pre C hU hS h1 h2⟩ rfl hn hl.1 rfl (lv_room hro) hd hf) hS hl k
theorem ph_callI (C : ph_C p s m args c cc nL own Ts D cl tys A KX)  (hd : decode cc pc = .ok (.invokespecial index, 3))(hM : ph_M l y ws rm D cl tys dT kd A KX (.ref b :: As) L ad τ post mc ms) (cw : CallB R s args own index y bytes maxL none ws rm mc ms n ∧ y.name = "<init>" ∧ (Cond.instanceMethod y).before args s = true) (hn : As.length = n) (hst : st = As.reverse ++ .ref b :: rest) (hro : (rest.map fun v => v.category).sum ≤ 8) (hf : cells + mc ≤ R.cells ∧ slots + ms ≤ R.slots)
    (k : ∀ (r : Option Value) (L' : Nat → Nat → Prop) (ad' : Nat → Nat → Nat) (τ' : ph_T), post r L' ad' τ' → ph_W p l e R s m args below meth c D cl dT kd A nL Q L' ad' τ' (cells + mc) (slots + ms) (pc + 3) lv (r.toList ++ rest)) : ph_W p l e R s m args below meth c D cl dT kd A nL Q L ad τ cells slots pc lv st := fun H locs ls hU hS hl => by
  subst hst
  exact ph_back (va_runI C.1 hM cw ⟨ph_blind, fun U h1 h2 => ph_pre C hU hS h1 h2⟩ rfl hn hl.1 rfl (lv_room hro) hd hf) hS hl k
/-- returns -/
theorem ph_iret (C : ph_C p s m args c cc nL own Ts D cl tys A KX) {v : Int32} {ty : FieldType} (hd : decode cc pc = .ok (.ireturn, 1)) (hr : meth.sig.returnType = some ty) (hlk : meth.locks = false) (hn : narrow ty (.int v) = .int v) (h1 : cells ≤ mc) (h2 : slots ≤ ms) (hp : post (some (.int v)) L ad τ) : ph_W p l e R s m args below meth c D cl dT kd A nL (MQ below (ph_Q D cl dT kd A post) args s mc ms A) L ad τ cells slots pc lv [.int v] := fun H locs ls hU hS hl =>
  W.widen h1 h2 (W.zret C.hx C.hb hr hn (fun t ht hW => ⟨⟨_, _, _, _, rfl, hp, by rw [ht]; exact hU⟩, hS.F ht⟩) hS.2.2 hd hlk)
theorem ph_lret (C : ph_C p s m args c cc nL own Ts D cl tys A KX) {v : Int64} (hd : decode cc pc = .ok (.lreturn, 1)) (hr : meth.sig.returnType = some .long) (hlk : meth.locks = false) (h1 : cells ≤ mc) (h2 : slots ≤ ms) (hp : post (some (.long v)) L ad τ) : ph_W p l e R s m args below meth c D cl dT kd A nL (MQ below (ph_Q D cl dT kd A post) args s mc ms A) L ad τ cells slots pc lv [.long v] := fun H locs ls hU hS hl =>
  W.widen h1 h2 (W.lret C.hx C.hb hr (fun t ht hW => ⟨⟨_, _, _, _, rfl, hp, by rw [ht]; exact hU⟩, hS.F ht⟩) hS.2.2 hd hlk)
theorem ph_vret (C : ph_C p s m args c cc nL own Ts D cl tys A KX)  (hd : decode cc pc = .ok (.return_, 1))(hr : meth.sig.returnType = none) (hlk : meth.locks = false) (h1 : cells ≤ mc) (h2 : slots ≤ ms) (hp : post none L ad τ) : ph_W p l e R s m args below meth c D cl dT kd A nL (MQ below (ph_Q D cl dT kd A post) args s mc ms A) L ad τ cells slots pc lv [] := fun H locs ls hU hS hl =>
  W.widen h1 h2 (W.vret C.hx C.hb hr (fun t ht hW => ⟨⟨_, _, _, _, rfl, hp, by rw [ht]; exact hU⟩, hS.F ht⟩) hS.2.2 hd hlk)
end PHM
end
section
/-! ===== bits of small numbers ===== -/
theorem pb_iN (n : Nat) : ph_i (n : Int) = nI n := Int32.ofInt_eq_ofNat
theorem pb_lN (n : Nat) : ph_l (n : Int) = lN n := Int64.ofInt_eq_ofNat
theorem pb_s31 : ∀ n, n < 32 → ((nI n &&& 31).toBitVec.smod 32).toNat = n := by decide +kernel
theorem pb_s63 : ∀ n, n < 64 → (((nI n).toInt64 &&& 63).toBitVec.smod 64).toNat = n := by decide +kernel
theorem pb_ishr {n s : Nat} (hn : n < 2147483648) (hs : s < 32) : ph_i (n : Int) >>> (ph_i (s : Int) &&& 31) = ph_i ((n / 2 ^ s : Nat) : Int) := by
  rw [pb_iN, pb_iN, pb_iN]
  exact pk_shrN (by omega) _ s (pb_s31 s hs)
theorem pb_iand1 {n : Nat} (hn : n < 2147483648) : ph_i (n : Int) &&& ph_i 1 = ph_i ((n % 2 : Nat) : Int) := by
  rw [pb_iN, pb_iN]
  exact pk_andN (by omega) 1 (by decide)
theorem pb_tb (n s : Nat) : n / 2 ^ s % 2 = (n.testBit s).toNat := by
  rw [Nat.testBit_eq_decide_div_mod_eq]
  rcases Nat.mod_two_eq_zero_or_one (n / 2 ^ s) with h | h <;> simp [h]
theorem pb_r2 (m : Nat) : ph_ri ((m % 2 : Nat) : Int) := by have := Nat.mod_lt m (show 0 < 2 by decide); omega
theorem pb_rl2 (m : Nat) : ph_rl ((m % 2 : Nat) : Int) := by have := Nat.mod_lt m (show 0 < 2 by decide); omega
theorem pb_dv {n s B : Nat} (h : n < B) : n / 2 ^ s < B := Nat.lt_of_le_of_lt (Nat.div_le_self _ _) h
theorem pb_t0 {n s : Nat} (h : ((n / 2 ^ s % 2 : Nat) : Int) = 0) : ¬ n.testBit s = true := by
  rw [pb_tb] at h
  intro q
  rw [q] at h
  cases h
theorem pb_t1 {n s : Nat} (h : ¬ ((n / 2 ^ s % 2 : Nat) : Int) = 0) : n.testBit s = true := by
  rw [pb_tb] at h
  cases q : n.testBit s with
  | true => rfl
  | false => rw [q] at h; exact absurd rfl h
theorem pb_ishl1 {s : Nat} (hs : s < 31) : ph_i 1 <<< (ph_i (s : Int) &&& 31) = ph_i ((2 ^ s : Nat) : Int) := by
  have h31 : 2 ^ s < 2 ^ 31 := Nat.pow_lt_pow_right (by decide) hs
  rw [pb_iN, pb_iN]
  have h := pk_shlN (n := 1) (nI s &&& 31) s (pb_s31 s (by omega)) (by omega)
  rw [Nat.one_mul] at h
  exact h
theorem pb_ior (a b : Nat) : ph_i (a : Int) ||| ph_i (b : Int) = ph_i ((a ||| b : Nat) : Int) := by
  rw [pb_iN, pb_iN, pb_iN]
  apply Int32.toBitVec_inj.1
  show BitVec.ofNat 32 a ||| BitVec.ofNat 32 b = BitVec.ofNat 32 (a ||| b)
  rw [BitVec.ofNat_or]
theorem pb_lshr {n s : Nat} (hn : n < 4611686018427387904) (hs : s < 64) : ph_l (n : Int) >>> ((ph_i (s : Int)).toInt64 &&& 63) = ph_l ((n / 2 ^ s : Nat) : Int) := by
  have hd : n / 2 ^ s ≤ n := Nat.div_le_self _ _
  apply Int64.toInt_inj.mp
  have e : (ph_l (n : Int) >>> ((ph_i (s : Int)).toInt64 &&& 63)).toInt = (ph_l (n : Int)).toInt >>> s := by
    have h := pb_s63 s hs
    rw [pb_iN]
    conv => rhs; rw [← h]
    exact BitVec.toInt_sshiftRight ..
  have e2 : (ph_l ((n / 2 ^ s : Nat) : Int)).toInt = ((n / 2 ^ s : Nat) : Int) := by
    generalize n / 2 ^ s = q at hd ⊢
    exact ph_lT (by omega)
  rw [e, Int.shiftRight_eq_div_pow, ph_lT (by omega), e2]
  rfl
theorem pb_land1 {n : Nat} (hn : n < 4611686018427387904) : ph_l (n : Int) &&& ph_l 1 = ph_l ((n % 2 : Nat) : Int) := by
  rw [pb_lN, pb_lN]
  apply Int64.toBitVec_inj.mp
  show BitVec.ofNat 64 n &&& BitVec.ofNat 64 1 = BitVec.ofNat 64 (n % 2)
  rw [← BitVec.ofNat_and, Nat.and_one_is_mod]
theorem pb_lshl1 {s : Nat} (hs : s < 63) : ph_l 1 <<< ((ph_i (s : Int)).toInt64 &&& 63) = ph_l ((2 ^ s : Nat) : Int) := by
  rw [pb_iN, pb_lN]
  exact (by decide +kernel : ∀ k, k < 63 → ph_l 1 <<< ((nI k).toInt64 &&& 63) = lN (2 ^ k)) s hs
theorem pb_lor (a b : Nat) : ph_l (a : Int) ||| ph_l (b : Int) = ph_l ((a ||| b : Nat) : Int) := by
  rw [pb_lN, pb_lN, pb_lN]
  apply Int64.toBitVec_inj.1
  show BitVec.ofNat 64 a ||| BitVec.ofNat 64 b = BitVec.ofNat 64 (a ||| b)
  rw [BitVec.ofNat_or]
end
section
/-! ===== classes, pools ===== -/
abbrev CLs : List vw_C := [(R_J, F_J, 12), (R_S, F_S, 6), (R_I, F_I, 7), (R_F, F_F, 7)]
abbrev TY (dT : Nat → ClassId) : List (ClassId × FieldType) := [(dT 0, .int), (dT 1, .boolean), (dT 2, .long), (dT 3, .object "JamRules$Sensor"), (dT 4, .object "JamRules$Item"), (dT 5, .object "JamRules$Fault")]
def kd : Nat → ph_K := fun g => match g with
  | 0 => .inl (0, [2, 0, 2, 0, 2, 0, 0, 2, 2, 2, 0, 1])
  | 1 => .inl (1, [1, 0, 0, 0, 1, 0])
  | 2 => .inl (2, [1, 1, 0, 0, 0, 0, 0])
  | 3 => .inl (3, [0, 0, 1, 0, 0, 1, 0])
  | 4 => .inr (3, 8)
  | 5 => .inr (4, 61)
  | 6 => .inr (5, 41)
  | 7 => .inr (1, 7)
  | 8 => .inr (1, 7)
  | 9 => .inr (0, 60)
  | _ => .inr (0, 0)
theorem ph_er {z : Int} {a : Nat} (h : z = (a : Int)) : ph_e 2 z = .ref a := by
  subst h
  simp [ph_e, ph_rn, va_rf]
theorem ph_vr {z : Int} {a : Nat} (h : z = (a : Int)) : va_rf (ph_r z) = .ref a := by
  subst h
  simp [ph_rn, va_rf]
theorem ph_e0 {z z' : Int} (h : z = z') : ph_e 0 z = .int (ph_i z') := by rw [h]; rfl
theorem ph_e1 {z z' : Int} (h : z = z') : ph_e 1 z = .long (ph_l z') := by rw [h]; rfl
theorem ph_bz {z : Int} (h : z = 0 ∨ z = 1) : narrow .boolean (.int (ph_i z)) = .int (ph_i z) ∧ fits .boolean (.int (ph_i z)) = true := by
  rcases h with rfl | rfl <;> exact ⟨rfl, rfl⟩
theorem ph_bb (P : Prop) : ph_b P = 0 ∨ ph_b P = 1 := by
  rcases Classical.em P with h | h
  · exact Or.inr (ph_b1 h)
  · exact Or.inl (ph_b0 h)
theorem ph_nb (P : Prop) : narrow .boolean (.int (ph_i (ph_b P))) = .int (ph_i (ph_b P)) := (ph_bz (ph_bb P)).1
theorem ph_bt {P : Prop} (h : P) : (some (.int (ph_i 1)) : Option Value) = some (.int (ph_i (ph_b P))) := by rw [ph_b1 h]
theorem ph_bf {P : Prop} (h : ¬ P) : (some (.int (ph_i 0)) : Option Value) = some (.int (ph_i (ph_b P))) := by rw [ph_b0 h]
/-- the same context over the words that stay -/
theorem ph_C.sub {p : Program} {s : State} {m : MethodId} {args : Array Value} {c : Code} {cc : ByteArray} {nL : Nat} {own : String} {w : Cond} {D : va_G} {cl : List vw_C} {tys : List (ClassId × FieldType)} {A : Nat → Prop} {KX : State → Prop} (C : ph_C p s m args c cc nL own (w :: TB) D cl tys A KX) : ph_C p s m args c cc nL own TB D cl tys A KX :=
  ⟨⟨C.1.1, C.1.2.1, C.1.2.2.1, C.1.2.2.2.1, fun q h => C.1.2.2.2.2 q (List.mem_cons_of_mem _ h)⟩, C.2⟩
theorem gdV {own Cn : String} {idx maxL : Nat} {y : MethodName} {b : ByteArray} {ret : Option FieldType} (h1 : Cond.methodLink own idx y ∈ TB) (h2 : Cond.instanceMethod y ∈ TB) (h3 : Cond.selects Cn y y ∈ TB) (h4 : Cond.initialized Cn ∈ TB) (h5 : Cond.code y b maxL ret ∈ TB) : GoodIn TB (wsV own idx Cn y (.code y b maxL ret :: TB)) := fun w h => by
  have hm : w ∈ TB := by
    simp only [wsV, List.cons_append, List.nil_append, List.mem_cons] at h
    rcases h with rfl | rfl | rfl | rfl | rfl | h
    · exact h1
    · exact h2
    · exact h3
    · exact h4
    · exact h5
    · exact h
  exact TB_good w hm
theorem gdS {own : String} {idx maxL : Nat} {y : MethodName} {b : ByteArray} {ret : Option FieldType} (h1 : Cond.methodLink own idx y ∈ TB) (h2 : Cond.static y ∈ TB) (h4 : Cond.initialized own ∈ TB) (h5 : Cond.code y b maxL ret ∈ TB) : GoodIn TB (wsS own idx y (.code y b maxL ret :: TB)) := fun w h => by
  have hm : w ∈ TB := by
    simp only [wsS, List.cons_append, List.nil_append, List.mem_cons] at h
    rcases h with rfl | rfl | rfl | rfl | h
    · exact h1
    · exact h2
    · exact h4
    · exact h5
    · exact h
  exact TB_good w hm
theorem gdI {maxL : Nat} {y : MethodName} {b : ByteArray} {ret : Option FieldType} (h5 : Cond.code y b maxL ret ∈ TB) : GoodIn TB (.code y b maxL ret :: TB) := fun w h => by
  have hm : w ∈ TB := by
    rcases List.mem_cons.mp h with rfl | h
    · exact h5
    · exact h
  exact TB_good w hm
section SCH
variable {p : Program} {l : Launch} {e : Env} {R : Room} {s : State} {m : MethodId} {args : Array Value} {below : List Frame} {meth : Method} {c : Code}
variable {D : va_G} {dT : Nat → ClassId} {A : Nat → Prop} {KX : State → Prop} {nL : Nat} {Q : State → Prop} {cc : ByteArray}
variable {L : Nat → Nat → Prop} {ad : Nat → Nat → Nat} {τ : ph_T} {cells slots pc : Nat} {lv : ph_V} {st : List Value}
theorem pt_J_11 (C : ph_C p s m args c cc nL R_J TB D CLs (TY dT) A KX) (hd : decode cc pc = .ok (.putfield 11, 3)) (hin2 : meth.name = "<init>") {i a b : Nat} (hL : L 0 i) (ha : ad 0 i = a)
    (kk : ph_W p l e R s m args below meth c D CLs dT kd A nL Q L ad (ph_up τ 0 i 0 (b : Int)) cells slots (pc + 3) lv st) : ph_W p l e R s m args below meth c D CLs dT kd A nL Q L ad τ cells slots pc lv (.ref b :: .ref a :: st) := ph_putF (k := 0) (t := 2) C hd (b : Int) hL ha rfl rfl in_J t_J_ok n_J (by decide) rfl rfl tw_20 rfl hin2 rfl rfl (ph_er rfl) rfl rfl kk
theorem pt_J_15 (C : ph_C p s m args c cc nL R_J TB D CLs (TY dT) A KX) (hd : decode cc pc = .ok (.putfield 15, 3)) {i a : Nat} {z : Int} (hL : L 0 i) (ha : ad 0 i = a)
    (kk : ph_W p l e R s m args below meth c D CLs dT kd A nL Q L ad (ph_up τ 0 i 1 z) cells slots (pc + 3) lv st) : ph_W p l e R s m args below meth c D CLs dT kd A nL Q L ad τ cells slots pc lv (.int (ph_i z) :: .ref a :: st) := ph_put (k := 1) (t := 0) C hd z hL ha rfl rfl in_J t_J_ok n_J (by decide) rfl rfl tw_21 rfl rfl rfl rfl rfl kk
theorem pt_J_21 (C : ph_C p s m args c cc nL R_J TB D CLs (TY dT) A KX) (hd : decode cc pc = .ok (.putfield 21, 3)) (hin2 : meth.name = "<init>") {i a b : Nat} (hL : L 0 i) (ha : ad 0 i = a)
    (kk : ph_W p l e R s m args below meth c D CLs dT kd A nL Q L ad (ph_up τ 0 i 2 (b : Int)) cells slots (pc + 3) lv st) : ph_W p l e R s m args below meth c D CLs dT kd A nL Q L ad τ cells slots pc lv (.ref b :: .ref a :: st) := ph_putF (k := 2) (t := 2) C hd (b : Int) hL ha rfl rfl in_J t_J_ok n_J (by decide) rfl rfl tw_22 rfl hin2 rfl rfl (ph_er rfl) rfl rfl kk
theorem pt_J_25 (C : ph_C p s m args c cc nL R_J TB D CLs (TY dT) A KX) (hd : decode cc pc = .ok (.putfield 25, 3)) {i a : Nat} {z : Int} (hL : L 0 i) (ha : ad 0 i = a)
    (kk : ph_W p l e R s m args below meth c D CLs dT kd A nL Q L ad (ph_up τ 0 i 3 z) cells slots (pc + 3) lv st) : ph_W p l e R s m args below meth c D CLs dT kd A nL Q L ad τ cells slots pc lv (.int (ph_i z) :: .ref a :: st) := ph_put (k := 3) (t := 0) C hd z hL ha rfl rfl in_J t_J_ok n_J (by decide) rfl rfl tw_23 rfl rfl rfl rfl rfl kk
theorem pt_J_30 (C : ph_C p s m args c cc nL R_J TB D CLs (TY dT) A KX) (hd : decode cc pc = .ok (.putfield 30, 3)) (hin2 : meth.name = "<init>") {i a b : Nat} (hL : L 0 i) (ha : ad 0 i = a)
    (kk : ph_W p l e R s m args below meth c D CLs dT kd A nL Q L ad (ph_up τ 0 i 4 (b : Int)) cells slots (pc + 3) lv st) : ph_W p l e R s m args below meth c D CLs dT kd A nL Q L ad τ cells slots pc lv (.ref b :: .ref a :: st) := ph_putF (k := 4) (t := 2) C hd (b : Int) hL ha rfl rfl in_J t_J_ok n_J (by decide) rfl rfl tw_24 rfl hin2 rfl rfl (ph_er rfl) rfl rfl kk
theorem pt_J_34 (C : ph_C p s m args c cc nL R_J TB D CLs (TY dT) A KX) (hd : decode cc pc = .ok (.putfield 34, 3)) {i a : Nat} {z : Int} (hL : L 0 i) (ha : ad 0 i = a)
    (kk : ph_W p l e R s m args below meth c D CLs dT kd A nL Q L ad (ph_up τ 0 i 5 z) cells slots (pc + 3) lv st) : ph_W p l e R s m args below meth c D CLs dT kd A nL Q L ad τ cells slots pc lv (.int (ph_i z) :: .ref a :: st) := ph_put (k := 5) (t := 0) C hd z hL ha rfl rfl in_J t_J_ok n_J (by decide) rfl rfl tw_25 rfl rfl rfl rfl rfl kk
theorem pt_J_37 (C : ph_C p s m args c cc nL R_J TB D CLs (TY dT) A KX) (hd : decode cc pc = .ok (.putfield 37, 3)) {i a : Nat} {z : Int} (hL : L 0 i) (ha : ad 0 i = a)
    (kk : ph_W p l e R s m args below meth c D CLs dT kd A nL Q L ad (ph_up τ 0 i 6 z) cells slots (pc + 3) lv st) : ph_W p l e R s m args below meth c D CLs dT kd A nL Q L ad τ cells slots pc lv (.int (ph_i z) :: .ref a :: st) := ph_put (k := 6) (t := 0) C hd z hL ha rfl rfl in_J t_J_ok n_J (by decide) rfl rfl tw_26 rfl rfl rfl rfl rfl kk
theorem pt_J_40 (C : ph_C p s m args c cc nL R_J TB D CLs (TY dT) A KX) (hd : decode cc pc = .ok (.putfield 40, 3)) (hin2 : meth.name = "<init>") {i a b : Nat} (hL : L 0 i) (ha : ad 0 i = a)
    (kk : ph_W p l e R s m args below meth c D CLs dT kd A nL Q L ad (ph_up τ 0 i 7 (b : Int)) cells slots (pc + 3) lv st) : ph_W p l e R s m args below meth c D CLs dT kd A nL Q L ad τ cells slots pc lv (.ref b :: .ref a :: st) := ph_putF (k := 7) (t := 2) C hd (b : Int) hL ha rfl rfl in_J t_J_ok n_J (by decide) rfl rfl tw_27 rfl hin2 rfl rfl (ph_er rfl) rfl rfl kk
theorem pt_J_44 (C : ph_C p s m args c cc nL R_J TB D CLs (TY dT) A KX) (hd : decode cc pc = .ok (.putfield 44, 3)) (hin2 : meth.name = "<init>") {i a b : Nat} (hL : L 0 i) (ha : ad 0 i = a)
    (kk : ph_W p l e R s m args below meth c D CLs dT kd A nL Q L ad (ph_up τ 0 i 8 (b : Int)) cells slots (pc + 3) lv st) : ph_W p l e R s m args below meth c D CLs dT kd A nL Q L ad τ cells slots pc lv (.ref b :: .ref a :: st) := ph_putF (k := 8) (t := 2) C hd (b : Int) hL ha rfl rfl in_J t_J_ok n_J (by decide) rfl rfl tw_28 rfl hin2 rfl rfl (ph_er rfl) rfl rfl kk
theorem pt_J_47 (C : ph_C p s m args c cc nL R_J TB D CLs (TY dT) A KX) (hd : decode cc pc = .ok (.putfield 47, 3)) (hin2 : meth.name = "<init>") {i a b : Nat} (hL : L 0 i) (ha : ad 0 i = a)
    (kk : ph_W p l e R s m args below meth c D CLs dT kd A nL Q L ad (ph_up τ 0 i 9 (b : Int)) cells slots (pc + 3) lv st) : ph_W p l e R s m args below meth c D CLs dT kd A nL Q L ad τ cells slots pc lv (.ref b :: .ref a :: st) := ph_putF (k := 9) (t := 2) C hd (b : Int) hL ha rfl rfl in_J t_J_ok n_J (by decide) rfl rfl tw_29 rfl hin2 rfl rfl (ph_er rfl) rfl rfl kk
theorem pt_J_51 (C : ph_C p s m args c cc nL R_J TB D CLs (TY dT) A KX) (hd : decode cc pc = .ok (.putfield 51, 3)) {i a : Nat} {z : Int} (hL : L 0 i) (ha : ad 0 i = a)
    (kk : ph_W p l e R s m args below meth c D CLs dT kd A nL Q L ad (ph_up τ 0 i 10 z) cells slots (pc + 3) lv st) : ph_W p l e R s m args below meth c D CLs dT kd A nL Q L ad τ cells slots pc lv (.int (ph_i z) :: .ref a :: st) := ph_put (k := 10) (t := 0) C hd z hL ha rfl rfl in_J t_J_ok n_J (by decide) rfl rfl tw_30 rfl rfl rfl rfl rfl kk
theorem pt_J_54 (C : ph_C p s m args c cc nL R_J TB D CLs (TY dT) A KX) (hd : decode cc pc = .ok (.putfield 54, 3)) {i a : Nat} {z : Int} (hL : L 0 i) (ha : ad 0 i = a)
    (kk : ph_W p l e R s m args below meth c D CLs dT kd A nL Q L ad (ph_up τ 0 i 11 z) cells slots (pc + 3) lv st) : ph_W p l e R s m args below meth c D CLs dT kd A nL Q L ad τ cells slots pc lv (.long (ph_l z) :: .ref a :: st) := ph_put (k := 11) (t := 1) C hd z hL ha rfl rfl in_J t_J_ok n_J (by decide) rfl rfl tw_31 rfl rfl rfl rfl rfl kk
theorem gt_J_40 (C : ph_C p s m args c cc nL R_J TB D CLs (TY dT) A KX) (hd : decode cc pc = .ok (.getfield 40, 3)) {i a b : Nat} (hL : L 0 i) (ha : ad 0 i = a) (hz : τ 0 i 7 = (b : Int))
    (kk : ph_W p l e R s m args below meth c D CLs dT kd A nL Q L ad τ cells slots (pc + 3) lv (.ref b :: st)) : ph_W p l e R s m args below meth c D CLs dT kd A nL Q L ad τ cells slots pc lv (.ref a :: st) := ph_get (k := 7) (t := 2) C hd hL ha rfl rfl in_J (by decide) rfl rfl tw_27 (ph_er hz) kk
theorem gt_J_15 (C : ph_C p s m args c cc nL R_J TB D CLs (TY dT) A KX) (hd : decode cc pc = .ok (.getfield 15, 3)) {i a : Nat} {z : Int} (hL : L 0 i) (ha : ad 0 i = a) (hz : τ 0 i 1 = z)
    (kk : ph_W p l e R s m args below meth c D CLs dT kd A nL Q L ad τ cells slots (pc + 3) lv (.int (ph_i z) :: st)) : ph_W p l e R s m args below meth c D CLs dT kd A nL Q L ad τ cells slots pc lv (.ref a :: st) := ph_get (k := 1) (t := 0) C hd hL ha rfl rfl in_J (by decide) rfl rfl tw_21 (ph_e0 hz) kk
theorem gt_J_11 (C : ph_C p s m args c cc nL R_J TB D CLs (TY dT) A KX) (hd : decode cc pc = .ok (.getfield 11, 3)) {i a b : Nat} (hL : L 0 i) (ha : ad 0 i = a) (hz : τ 0 i 0 = (b : Int))
    (kk : ph_W p l e R s m args below meth c D CLs dT kd A nL Q L ad τ cells slots (pc + 3) lv (.ref b :: st)) : ph_W p l e R s m args below meth c D CLs dT kd A nL Q L ad τ cells slots pc lv (.ref a :: st) := ph_get (k := 0) (t := 2) C hd hL ha rfl rfl in_J (by decide) rfl rfl tw_20 (ph_er hz) kk
theorem gt_J_58 (C : ph_C p s m args c cc nL R_J TB D CLs (TY dT) A KX) (hd : decode cc pc = .ok (.getfield 58, 3)) {i a : Nat} {z : Int} (hL : L 1 i) (ha : ad 1 i = a) (hz : τ 1 i 0 = z)
    (kk : ph_W p l e R s m args below meth c D CLs dT kd A nL Q L ad τ cells slots (pc + 3) lv (.long (ph_l z) :: st)) : ph_W p l e R s m args below meth c D CLs dT kd A nL Q L ad τ cells slots pc lv (.ref a :: st) := ph_get (k := 0) (t := 1) C hd hL ha rfl rfl in_S (by decide) rfl rfl tw_71 (ph_e1 hz) kk
theorem gt_J_25 (C : ph_C p s m args c cc nL R_J TB D CLs (TY dT) A KX) (hd : decode cc pc = .ok (.getfield 25, 3)) {i a : Nat} {z : Int} (hL : L 0 i) (ha : ad 0 i = a) (hz : τ 0 i 3 = z)
    (kk : ph_W p l e R s m args below meth c D CLs dT kd A nL Q L ad τ cells slots (pc + 3) lv (.int (ph_i z) :: st)) : ph_W p l e R s m args below meth c D CLs dT kd A nL Q L ad τ cells slots pc lv (.ref a :: st) := ph_get (k := 3) (t := 0) C hd hL ha rfl rfl in_J (by decide) rfl rfl tw_23 (ph_e0 hz) kk
theorem gt_J_21 (C : ph_C p s m args c cc nL R_J TB D CLs (TY dT) A KX) (hd : decode cc pc = .ok (.getfield 21, 3)) {i a b : Nat} (hL : L 0 i) (ha : ad 0 i = a) (hz : τ 0 i 2 = (b : Int))
    (kk : ph_W p l e R s m args below meth c D CLs dT kd A nL Q L ad τ cells slots (pc + 3) lv (.ref b :: st)) : ph_W p l e R s m args below meth c D CLs dT kd A nL Q L ad τ cells slots pc lv (.ref a :: st) := ph_get (k := 2) (t := 2) C hd hL ha rfl rfl in_J (by decide) rfl rfl tw_22 (ph_er hz) kk
theorem gt_J_91 (C : ph_C p s m args c cc nL R_J TB D CLs (TY dT) A KX) (hd : decode cc pc = .ok (.getfield 91, 3)) {i a : Nat} {z : Int} (hL : L 1 i) (ha : ad 1 i = a) (hz : τ 1 i 2 = z)
    (kk : ph_W p l e R s m args below meth c D CLs dT kd A nL Q L ad τ cells slots (pc + 3) lv (.int (ph_i z) :: st)) : ph_W p l e R s m args below meth c D CLs dT kd A nL Q L ad τ cells slots pc lv (.ref a :: st) := ph_get (k := 2) (t := 0) C hd hL ha rfl rfl in_S (by decide) rfl rfl tw_75 (ph_e0 hz) kk
theorem gt_J_34 (C : ph_C p s m args c cc nL R_J TB D CLs (TY dT) A KX) (hd : decode cc pc = .ok (.getfield 34, 3)) {i a : Nat} {z : Int} (hL : L 0 i) (ha : ad 0 i = a) (hz : τ 0 i 5 = z)
    (kk : ph_W p l e R s m args below meth c D CLs dT kd A nL Q L ad τ cells slots (pc + 3) lv (.int (ph_i z) :: st)) : ph_W p l e R s m args below meth c D CLs dT kd A nL Q L ad τ cells slots pc lv (.ref a :: st) := ph_get (k := 5) (t := 0) C hd hL ha rfl rfl in_J (by decide) rfl rfl tw_25 (ph_e0 hz) kk
theorem gt_J_30 (C : ph_C p s m args c cc nL R_J TB D CLs (TY dT) A KX) (hd : decode cc pc = .ok (.getfield 30, 3)) {i a b : Nat} (hL : L 0 i) (ha : ad 0 i = a) (hz : τ 0 i 4 = (b : Int))
    (kk : ph_W p l e R s m args below meth c D CLs dT kd A nL Q L ad τ cells slots (pc + 3) lv (.ref b :: st)) : ph_W p l e R s m args below meth c D CLs dT kd A nL Q L ad τ cells slots pc lv (.ref a :: st) := ph_get (k := 4) (t := 2) C hd hL ha rfl rfl in_J (by decide) rfl rfl tw_24 (ph_er hz) kk
theorem gt_J_111 (C : ph_C p s m args c cc nL R_J TB D CLs (TY dT) A KX) (hd : decode cc pc = .ok (.getfield 111, 3)) {i a : Nat} {z : Int} (hL : L 3 i) (ha : ad 3 i = a) (hz : τ 3 i 1 = z)
    (kk : ph_W p l e R s m args below meth c D CLs dT kd A nL Q L ad τ cells slots (pc + 3) lv (.int (ph_i z) :: st)) : ph_W p l e R s m args below meth c D CLs dT kd A nL Q L ad τ cells slots pc lv (.ref a :: st) := ph_get (k := 1) (t := 0) C hd hL ha rfl rfl in_F (by decide) rfl rfl tw_180 (ph_e0 hz) kk
theorem gt_J_114 (C : ph_C p s m args c cc nL R_J TB D CLs (TY dT) A KX) (hd : decode cc pc = .ok (.getfield 114, 3)) {i a : Nat} {z : Int} (hL : L 3 i) (ha : ad 3 i = a) (hz : τ 3 i 0 = z)
    (kk : ph_W p l e R s m args below meth c D CLs dT kd A nL Q L ad τ cells slots (pc + 3) lv (.int (ph_i z) :: st)) : ph_W p l e R s m args below meth c D CLs dT kd A nL Q L ad τ cells slots pc lv (.ref a :: st) := ph_get (k := 0) (t := 0) C hd hL ha rfl rfl in_F (by decide) rfl rfl tw_178 (ph_e0 hz) kk
theorem gt_J_117 (C : ph_C p s m args c cc nL R_J TB D CLs (TY dT) A KX) (hd : decode cc pc = .ok (.getfield 117, 3)) {i a : Nat} {z : Int} (hL : L 3 i) (ha : ad 3 i = a) (hz : τ 3 i 3 = z)
    (kk : ph_W p l e R s m args below meth c D CLs dT kd A nL Q L ad τ cells slots (pc + 3) lv (.int (ph_i z) :: st)) : ph_W p l e R s m args below meth c D CLs dT kd A nL Q L ad τ cells slots pc lv (.ref a :: st) := ph_get (k := 3) (t := 0) C hd hL ha rfl rfl in_F (by decide) rfl rfl tw_184 (ph_e0 hz) kk
theorem gt_J_37 (C : ph_C p s m args c cc nL R_J TB D CLs (TY dT) A KX) (hd : decode cc pc = .ok (.getfield 37, 3)) {i a : Nat} {z : Int} (hL : L 0 i) (ha : ad 0 i = a) (hz : τ 0 i 6 = z)
    (kk : ph_W p l e R s m args below meth c D CLs dT kd A nL Q L ad τ cells slots (pc + 3) lv (.int (ph_i z) :: st)) : ph_W p l e R s m args below meth c D CLs dT kd A nL Q L ad τ cells slots pc lv (.ref a :: st) := ph_get (k := 6) (t := 0) C hd hL ha rfl rfl in_J (by decide) rfl rfl tw_26 (ph_e0 hz) kk
theorem gt_J_127 (C : ph_C p s m args c cc nL R_J TB D CLs (TY dT) A KX) (hd : decode cc pc = .ok (.getfield 127, 3)) {i a : Nat} {z : Int} (hL : L 3 i) (ha : ad 3 i = a) (hz : τ 3 i 6 = z)
    (kk : ph_W p l e R s m args below meth c D CLs dT kd A nL Q L ad τ cells slots (pc + 3) lv (.int (ph_i z) :: st)) : ph_W p l e R s m args below meth c D CLs dT kd A nL Q L ad τ cells slots pc lv (.ref a :: st) := ph_get (k := 6) (t := 0) C hd hL ha rfl rfl in_F (by decide) rfl rfl tw_190 (ph_e0 hz) kk
theorem pt_J_127 (C : ph_C p s m args c cc nL R_J TB D CLs (TY dT) A KX) (hd : decode cc pc = .ok (.putfield 127, 3)) {i a : Nat} {z : Int} (hL : L 3 i) (ha : ad 3 i = a)
    (kk : ph_W p l e R s m args below meth c D CLs dT kd A nL Q L ad (ph_up τ 3 i 6 z) cells slots (pc + 3) lv st) : ph_W p l e R s m args below meth c D CLs dT kd A nL Q L ad τ cells slots pc lv (.int (ph_i z) :: .ref a :: st) := ph_put (k := 6) (t := 0) C hd z hL ha rfl rfl in_F t_F_ok n_F (by decide) rfl rfl tw_190 rfl rfl rfl rfl rfl kk
theorem gt_J_139 (C : ph_C p s m args c cc nL R_J TB D CLs (TY dT) A KX) (hd : decode cc pc = .ok (.getfield 139, 3)) {i a : Nat} {z : Int} (hL : L 2 i) (ha : ad 2 i = a) (hz : τ 2 i 4 = z)
    (kk : ph_W p l e R s m args below meth c D CLs dT kd A nL Q L ad τ cells slots (pc + 3) lv (.int (ph_i z) :: st)) : ph_W p l e R s m args below meth c D CLs dT kd A nL Q L ad τ cells slots pc lv (.ref a :: st) := ph_get (k := 4) (t := 0) C hd hL ha rfl rfl in_I (by decide) rfl rfl tw_129 (ph_e0 hz) kk
theorem gt_J_142 (C : ph_C p s m args c cc nL R_J TB D CLs (TY dT) A KX) (hd : decode cc pc = .ok (.getfield 142, 3)) {i a : Nat} {z : Int} (hL : L 2 i) (ha : ad 2 i = a) (hz : τ 2 i 3 = z)
    (kk : ph_W p l e R s m args below meth c D CLs dT kd A nL Q L ad τ cells slots (pc + 3) lv (.int (ph_i z) :: st)) : ph_W p l e R s m args below meth c D CLs dT kd A nL Q L ad τ cells slots pc lv (.ref a :: st) := ph_get (k := 3) (t := 0) C hd hL ha rfl rfl in_I (by decide) rfl rfl tw_127 (ph_e0 hz) kk
theorem pt_J_139 (C : ph_C p s m args c cc nL R_J TB D CLs (TY dT) A KX) (hd : decode cc pc = .ok (.putfield 139, 3)) {i a : Nat} {z : Int} (hz : z = 0 ∨ z = 1) (hL : L 2 i) (ha : ad 2 i = a)
    (kk : ph_W p l e R s m args below meth c D CLs dT kd A nL Q L ad (ph_up τ 2 i 4 z) cells slots (pc + 3) lv st) : ph_W p l e R s m args below meth c D CLs dT kd A nL Q L ad τ cells slots pc lv (.int (ph_i z) :: .ref a :: st) := ph_put (k := 4) (t := 0) C hd z hL ha rfl rfl in_I t_I_ok n_I (by decide) rfl rfl tw_129 rfl rfl rfl (ph_bz hz).1 (ph_bz hz).2 kk
theorem gt_J_51 (C : ph_C p s m args c cc nL R_J TB D CLs (TY dT) A KX) (hd : decode cc pc = .ok (.getfield 51, 3)) {i a : Nat} {z : Int} (hL : L 0 i) (ha : ad 0 i = a) (hz : τ 0 i 10 = z)
    (kk : ph_W p l e R s m args below meth c D CLs dT kd A nL Q L ad τ cells slots (pc + 3) lv (.int (ph_i z) :: st)) : ph_W p l e R s m args below meth c D CLs dT kd A nL Q L ad τ cells slots pc lv (.ref a :: st) := ph_get (k := 10) (t := 0) C hd hL ha rfl rfl in_J (by decide) rfl rfl tw_30 (ph_e0 hz) kk
theorem gt_J_47 (C : ph_C p s m args c cc nL R_J TB D CLs (TY dT) A KX) (hd : decode cc pc = .ok (.getfield 47, 3)) {i a b : Nat} (hL : L 0 i) (ha : ad 0 i = a) (hz : τ 0 i 9 = (b : Int))
    (kk : ph_W p l e R s m args below meth c D CLs dT kd A nL Q L ad τ cells slots (pc + 3) lv (.ref b :: st)) : ph_W p l e R s m args below meth c D CLs dT kd A nL Q L ad τ cells slots pc lv (.ref a :: st) := ph_get (k := 9) (t := 2) C hd hL ha rfl rfl in_J (by decide) rfl rfl tw_29 (ph_er hz) kk
theorem gt_J_44 (C : ph_C p s m args c cc nL R_J TB D CLs (TY dT) A KX) (hd : decode cc pc = .ok (.getfield 44, 3)) {i a b : Nat} (hL : L 0 i) (ha : ad 0 i = a) (hz : τ 0 i 8 = (b : Int))
    (kk : ph_W p l e R s m args below meth c D CLs dT kd A nL Q L ad τ cells slots (pc + 3) lv (.ref b :: st)) : ph_W p l e R s m args below meth c D CLs dT kd A nL Q L ad τ cells slots pc lv (.ref a :: st) := ph_get (k := 8) (t := 2) C hd hL ha rfl rfl in_J (by decide) rfl rfl tw_28 (ph_er hz) kk
theorem gt_J_163 (C : ph_C p s m args c cc nL R_J TB D CLs (TY dT) A KX) (hd : decode cc pc = .ok (.getfield 163, 3)) {i a : Nat} {z : Int} (hL : L 3 i) (ha : ad 3 i = a) (hz : τ 3 i 2 = z)
    (kk : ph_W p l e R s m args below meth c D CLs dT kd A nL Q L ad τ cells slots (pc + 3) lv (.long (ph_l z) :: st)) : ph_W p l e R s m args below meth c D CLs dT kd A nL Q L ad τ cells slots pc lv (.ref a :: st) := ph_get (k := 2) (t := 1) C hd hL ha rfl rfl in_F (by decide) rfl rfl tw_182 (ph_e1 hz) kk
theorem gt_J_166 (C : ph_C p s m args c cc nL R_J TB D CLs (TY dT) A KX) (hd : decode cc pc = .ok (.getfield 166, 3)) {i a : Nat} {z : Int} (hL : L 1 i) (ha : ad 1 i = a) (hz : τ 1 i 1 = z)
    (kk : ph_W p l e R s m args below meth c D CLs dT kd A nL Q L ad τ cells slots (pc + 3) lv (.int (ph_i z) :: st)) : ph_W p l e R s m args below meth c D CLs dT kd A nL Q L ad τ cells slots pc lv (.ref a :: st) := ph_get (k := 1) (t := 0) C hd hL ha rfl rfl in_S (by decide) rfl rfl tw_73 (ph_e0 hz) kk
theorem gt_J_169 (C : ph_C p s m args c cc nL R_J TB D CLs (TY dT) A KX) (hd : decode cc pc = .ok (.getfield 169, 3)) {i a : Nat} {z : Int} (hL : L 3 i) (ha : ad 3 i = a) (hz : τ 3 i 4 = z)
    (kk : ph_W p l e R s m args below meth c D CLs dT kd A nL Q L ad τ cells slots (pc + 3) lv (.int (ph_i z) :: st)) : ph_W p l e R s m args below meth c D CLs dT kd A nL Q L ad τ cells slots pc lv (.ref a :: st) := ph_get (k := 4) (t := 0) C hd hL ha rfl rfl in_F (by decide) rfl rfl tw_186 (ph_e0 hz) kk
theorem gt_J_54 (C : ph_C p s m args c cc nL R_J TB D CLs (TY dT) A KX) (hd : decode cc pc = .ok (.getfield 54, 3)) {i a : Nat} {z : Int} (hL : L 0 i) (ha : ad 0 i = a) (hz : τ 0 i 11 = z)
    (kk : ph_W p l e R s m args below meth c D CLs dT kd A nL Q L ad τ cells slots (pc + 3) lv (.long (ph_l z) :: st)) : ph_W p l e R s m args below meth c D CLs dT kd A nL Q L ad τ cells slots pc lv (.ref a :: st) := ph_get (k := 11) (t := 1) C hd hL ha rfl rfl in_J (by decide) rfl rfl tw_31 (ph_e1 hz) kk
theorem gt_J_174 (C : ph_C p s m args c cc nL R_J TB D CLs (TY dT) A KX) (hd : decode cc pc = .ok (.getfield 174, 3)) {i a : Nat} {z : Int} (hL : L 2 i) (ha : ad 2 i = a) (hz : τ 2 i 1 = z)
    (kk : ph_W p l e R s m args below meth c D CLs dT kd A nL Q L ad τ cells slots (pc + 3) lv (.long (ph_l z) :: st)) : ph_W p l e R s m args below meth c D CLs dT kd A nL Q L ad τ cells slots pc lv (.ref a :: st) := ph_get (k := 1) (t := 1) C hd hL ha rfl rfl in_I (by decide) rfl rfl tw_123 (ph_e1 hz) kk
theorem gt_J_177 (C : ph_C p s m args c cc nL R_J TB D CLs (TY dT) A KX) (hd : decode cc pc = .ok (.getfield 177, 3)) {i a : Nat} {z : Int} (hL : L 2 i) (ha : ad 2 i = a) (hz : τ 2 i 0 = z)
    (kk : ph_W p l e R s m args below meth c D CLs dT kd A nL Q L ad τ cells slots (pc + 3) lv (.long (ph_l z) :: st)) : ph_W p l e R s m args below meth c D CLs dT kd A nL Q L ad τ cells slots pc lv (.ref a :: st) := ph_get (k := 0) (t := 1) C hd hL ha rfl rfl in_I (by decide) rfl rfl tw_121 (ph_e1 hz) kk
theorem gt_J_182 (C : ph_C p s m args c cc nL R_J TB D CLs (TY dT) A KX) (hd : decode cc pc = .ok (.getfield 182, 3)) {i a : Nat} {z : Int} (hL : L 1 i) (ha : ad 1 i = a) (hz : τ 1 i 5 = z)
    (kk : ph_W p l e R s m args below meth c D CLs dT kd A nL Q L ad τ cells slots (pc + 3) lv (.int (ph_i z) :: st)) : ph_W p l e R s m args below meth c D CLs dT kd A nL Q L ad τ cells slots pc lv (.ref a :: st) := ph_get (k := 5) (t := 0) C hd hL ha rfl rfl in_S (by decide) rfl rfl tw_81 (ph_e0 hz) kk
theorem gt_J_185 (C : ph_C p s m args c cc nL R_J TB D CLs (TY dT) A KX) (hd : decode cc pc = .ok (.getfield 185, 3)) {i a : Nat} {z : Int} (hL : L 1 i) (ha : ad 1 i = a) (hz : τ 1 i 4 = z)
    (kk : ph_W p l e R s m args below meth c D CLs dT kd A nL Q L ad τ cells slots (pc + 3) lv (.long (ph_l z) :: st)) : ph_W p l e R s m args below meth c D CLs dT kd A nL Q L ad τ cells slots pc lv (.ref a :: st) := ph_get (k := 4) (t := 1) C hd hL ha rfl rfl in_S (by decide) rfl rfl tw_79 (ph_e1 hz) kk
theorem pt_J_182 (C : ph_C p s m args c cc nL R_J TB D CLs (TY dT) A KX) (hd : decode cc pc = .ok (.putfield 182, 3)) {i a : Nat} {z : Int} (hz : z = 0 ∨ z = 1) (hL : L 1 i) (ha : ad 1 i = a)
    (kk : ph_W p l e R s m args below meth c D CLs dT kd A nL Q L ad (ph_up τ 1 i 5 z) cells slots (pc + 3) lv st) : ph_W p l e R s m args below meth c D CLs dT kd A nL Q L ad τ cells slots pc lv (.int (ph_i z) :: .ref a :: st) := ph_put (k := 5) (t := 0) C hd z hL ha rfl rfl in_S t_S_ok n_S (by decide) rfl rfl tw_81 rfl rfl rfl (ph_bz hz).1 (ph_bz hz).2 kk
theorem gt_J_194 (C : ph_C p s m args c cc nL R_J TB D CLs (TY dT) A KX) (hd : decode cc pc = .ok (.getfield 194, 3)) {i a : Nat} {z : Int} (hL : L 1 i) (ha : ad 1 i = a) (hz : τ 1 i 3 = z)
    (kk : ph_W p l e R s m args below meth c D CLs dT kd A nL Q L ad τ cells slots (pc + 3) lv (.int (ph_i z) :: st)) : ph_W p l e R s m args below meth c D CLs dT kd A nL Q L ad τ cells slots pc lv (.ref a :: st) := ph_get (k := 3) (t := 0) C hd hL ha rfl rfl in_S (by decide) rfl rfl tw_77 (ph_e0 hz) kk
theorem pt_J_166 (C : ph_C p s m args c cc nL R_J TB D CLs (TY dT) A KX) (hd : decode cc pc = .ok (.putfield 166, 3)) {i a : Nat} {z : Int} (hL : L 1 i) (ha : ad 1 i = a)
    (kk : ph_W p l e R s m args below meth c D CLs dT kd A nL Q L ad (ph_up τ 1 i 1 z) cells slots (pc + 3) lv st) : ph_W p l e R s m args below meth c D CLs dT kd A nL Q L ad τ cells slots pc lv (.int (ph_i z) :: .ref a :: st) := ph_put (k := 1) (t := 0) C hd z hL ha rfl rfl in_S t_S_ok n_S (by decide) rfl rfl tw_73 rfl rfl rfl rfl rfl kk
theorem pt_J_117 (C : ph_C p s m args c cc nL R_J TB D CLs (TY dT) A KX) (hd : decode cc pc = .ok (.putfield 117, 3)) {i a : Nat} {z : Int} (hz : z = 0 ∨ z = 1) (hL : L 3 i) (ha : ad 3 i = a)
    (kk : ph_W p l e R s m args below meth c D CLs dT kd A nL Q L ad (ph_up τ 3 i 3 z) cells slots (pc + 3) lv st) : ph_W p l e R s m args below meth c D CLs dT kd A nL Q L ad τ cells slots pc lv (.int (ph_i z) :: .ref a :: st) := ph_put (k := 3) (t := 0) C hd z hL ha rfl rfl in_F t_F_ok n_F (by decide) rfl rfl tw_184 rfl rfl rfl (ph_bz hz).1 (ph_bz hz).2 kk
theorem pt_J_169 (C : ph_C p s m args c cc nL R_J TB D CLs (TY dT) A KX) (hd : decode cc pc = .ok (.putfield 169, 3)) {i a : Nat} {z : Int} (hz : z = 0 ∨ z = 1) (hL : L 3 i) (ha : ad 3 i = a)
    (kk : ph_W p l e R s m args below meth c D CLs dT kd A nL Q L ad (ph_up τ 3 i 4 z) cells slots (pc + 3) lv st) : ph_W p l e R s m args below meth c D CLs dT kd A nL Q L ad τ cells slots pc lv (.int (ph_i z) :: .ref a :: st) := ph_put (k := 4) (t := 0) C hd z hL ha rfl rfl in_F t_F_ok n_F (by decide) rfl rfl tw_186 rfl rfl rfl (ph_bz hz).1 (ph_bz hz).2 kk
theorem pt_J_251 (C : ph_C p s m args c cc nL R_J TB D CLs (TY dT) A KX) (hd : decode cc pc = .ok (.putfield 251, 3)) {i a : Nat} {z : Int} (hL : L 3 i) (ha : ad 3 i = a)
    (kk : ph_W p l e R s m args below meth c D CLs dT kd A nL Q L ad (ph_up τ 3 i 5 z) cells slots (pc + 3) lv st) : ph_W p l e R s m args below meth c D CLs dT kd A nL Q L ad τ cells slots pc lv (.long (ph_l z) :: .ref a :: st) := ph_put (k := 5) (t := 1) C hd z hL ha rfl rfl in_F t_F_ok n_F (by decide) rfl rfl tw_188 rfl rfl rfl rfl rfl kk
theorem gt_J_278 (C : ph_C p s m args c cc nL R_J TB D CLs (TY dT) A KX) (hd : decode cc pc = .ok (.getfield 278, 3)) {i a : Nat} {z : Int} (hL : L 2 i) (ha : ad 2 i = a) (hz : τ 2 i 2 = z)
    (kk : ph_W p l e R s m args below meth c D CLs dT kd A nL Q L ad τ cells slots (pc + 3) lv (.int (ph_i z) :: st)) : ph_W p l e R s m args below meth c D CLs dT kd A nL Q L ad τ cells slots pc lv (.ref a :: st) := ph_get (k := 2) (t := 0) C hd hL ha rfl rfl in_I (by decide) rfl rfl tw_125 (ph_e0 hz) kk
theorem pt_J_142 (C : ph_C p s m args c cc nL R_J TB D CLs (TY dT) A KX) (hd : decode cc pc = .ok (.putfield 142, 3)) {i a : Nat} {z : Int} (hz : z = 0 ∨ z = 1) (hL : L 2 i) (ha : ad 2 i = a)
    (kk : ph_W p l e R s m args below meth c D CLs dT kd A nL Q L ad (ph_up τ 2 i 3 z) cells slots (pc + 3) lv st) : ph_W p l e R s m args below meth c D CLs dT kd A nL Q L ad τ cells slots pc lv (.int (ph_i z) :: .ref a :: st) := ph_put (k := 3) (t := 0) C hd z hL ha rfl rfl in_I t_I_ok n_I (by decide) rfl rfl tw_127 rfl rfl rfl (ph_bz hz).1 (ph_bz hz).2 kk
theorem pt_F_9 (C : ph_C p s m args c cc nL R_F TB D CLs (TY dT) A KX) (hd : decode cc pc = .ok (.putfield 9, 3)) {i a : Nat} {z : Int} (hz : z = 0 ∨ z = 1) (hL : L 3 i) (ha : ad 3 i = a)
    (kk : ph_W p l e R s m args below meth c D CLs dT kd A nL Q L ad (ph_up τ 3 i 3 z) cells slots (pc + 3) lv st) : ph_W p l e R s m args below meth c D CLs dT kd A nL Q L ad τ cells slots pc lv (.int (ph_i z) :: .ref a :: st) := ph_put (k := 3) (t := 0) C hd z hL ha rfl rfl in_F t_F_ok n_F (by decide) rfl rfl tw_183 rfl rfl rfl (ph_bz hz).1 (ph_bz hz).2 kk
theorem pt_F_15 (C : ph_C p s m args c cc nL R_F TB D CLs (TY dT) A KX) (hd : decode cc pc = .ok (.putfield 15, 3)) {i a : Nat} {z : Int} (hz : z = 0 ∨ z = 1) (hL : L 3 i) (ha : ad 3 i = a)
    (kk : ph_W p l e R s m args below meth c D CLs dT kd A nL Q L ad (ph_up τ 3 i 4 z) cells slots (pc + 3) lv st) : ph_W p l e R s m args below meth c D CLs dT kd A nL Q L ad τ cells slots pc lv (.int (ph_i z) :: .ref a :: st) := ph_put (k := 4) (t := 0) C hd z hL ha rfl rfl in_F t_F_ok n_F (by decide) rfl rfl tw_185 rfl rfl rfl (ph_bz hz).1 (ph_bz hz).2 kk
theorem pt_F_18 (C : ph_C p s m args c cc nL R_F TB D CLs (TY dT) A KX) (hd : decode cc pc = .ok (.putfield 18, 3)) {i a : Nat} {z : Int} (hL : L 3 i) (ha : ad 3 i = a)
    (kk : ph_W p l e R s m args below meth c D CLs dT kd A nL Q L ad (ph_up τ 3 i 5 z) cells slots (pc + 3) lv st) : ph_W p l e R s m args below meth c D CLs dT kd A nL Q L ad τ cells slots pc lv (.long (ph_l z) :: .ref a :: st) := ph_put (k := 5) (t := 1) C hd z hL ha rfl rfl in_F t_F_ok n_F (by decide) rfl rfl tw_187 rfl rfl rfl rfl rfl kk
theorem pt_F_22 (C : ph_C p s m args c cc nL R_F TB D CLs (TY dT) A KX) (hd : decode cc pc = .ok (.putfield 22, 3)) {i a : Nat} {z : Int} (hL : L 3 i) (ha : ad 3 i = a)
    (kk : ph_W p l e R s m args below meth c D CLs dT kd A nL Q L ad (ph_up τ 3 i 6 z) cells slots (pc + 3) lv st) : ph_W p l e R s m args below meth c D CLs dT kd A nL Q L ad τ cells slots pc lv (.int (ph_i z) :: .ref a :: st) := ph_put (k := 6) (t := 0) C hd z hL ha rfl rfl in_F t_F_ok n_F (by decide) rfl rfl tw_189 rfl rfl rfl rfl rfl kk
theorem pt_F_26 (C : ph_C p s m args c cc nL R_F TB D CLs (TY dT) A KX) (hd : decode cc pc = .ok (.putfield 26, 3)) (hin2 : meth.name = "<init>") {i a : Nat} {z : Int} (hL : L 3 i) (ha : ad 3 i = a)
    (kk : ph_W p l e R s m args below meth c D CLs dT kd A nL Q L ad (ph_up τ 3 i 0 z) cells slots (pc + 3) lv st) : ph_W p l e R s m args below meth c D CLs dT kd A nL Q L ad τ cells slots pc lv (.int (ph_i z) :: .ref a :: st) := ph_putF (k := 0) (t := 0) C hd z hL ha rfl rfl in_F t_F_ok n_F (by decide) rfl rfl tw_177 rfl hin2 rfl rfl rfl rfl rfl kk
theorem pt_F_29 (C : ph_C p s m args c cc nL R_F TB D CLs (TY dT) A KX) (hd : decode cc pc = .ok (.putfield 29, 3)) (hin2 : meth.name = "<init>") {i a : Nat} {z : Int} (hL : L 3 i) (ha : ad 3 i = a)
    (kk : ph_W p l e R s m args below meth c D CLs dT kd A nL Q L ad (ph_up τ 3 i 1 z) cells slots (pc + 3) lv st) : ph_W p l e R s m args below meth c D CLs dT kd A nL Q L ad τ cells slots pc lv (.int (ph_i z) :: .ref a :: st) := ph_putF (k := 1) (t := 0) C hd z hL ha rfl rfl in_F t_F_ok n_F (by decide) rfl rfl tw_179 rfl hin2 rfl rfl rfl rfl rfl kk
theorem pt_F_32 (C : ph_C p s m args c cc nL R_F TB D CLs (TY dT) A KX) (hd : decode cc pc = .ok (.putfield 32, 3)) (hin2 : meth.name = "<init>") {i a : Nat} {z : Int} (hL : L 3 i) (ha : ad 3 i = a)
    (kk : ph_W p l e R s m args below meth c D CLs dT kd A nL Q L ad (ph_up τ 3 i 2 z) cells slots (pc + 3) lv st) : ph_W p l e R s m args below meth c D CLs dT kd A nL Q L ad τ cells slots pc lv (.long (ph_l z) :: .ref a :: st) := ph_putF (k := 2) (t := 1) C hd z hL ha rfl rfl in_F t_F_ok n_F (by decide) rfl rfl tw_181 rfl hin2 rfl rfl rfl rfl rfl kk
theorem gt_F_18 (C : ph_C p s m args c cc nL R_F TB D CLs (TY dT) A KX) (hd : decode cc pc = .ok (.getfield 18, 3)) {i a : Nat} {z : Int} (hL : L 3 i) (ha : ad 3 i = a) (hz : τ 3 i 5 = z)
    (kk : ph_W p l e R s m args below meth c D CLs dT kd A nL Q L ad τ cells slots (pc + 3) lv (.long (ph_l z) :: st)) : ph_W p l e R s m args below meth c D CLs dT kd A nL Q L ad τ cells slots pc lv (.ref a :: st) := ph_get (k := 5) (t := 1) C hd hL ha rfl rfl in_F (by decide) rfl rfl tw_187 (ph_e1 hz) kk
theorem gt_F_9 (C : ph_C p s m args c cc nL R_F TB D CLs (TY dT) A KX) (hd : decode cc pc = .ok (.getfield 9, 3)) {i a : Nat} {z : Int} (hL : L 3 i) (ha : ad 3 i = a) (hz : τ 3 i 3 = z)
    (kk : ph_W p l e R s m args below meth c D CLs dT kd A nL Q L ad τ cells slots (pc + 3) lv (.int (ph_i z) :: st)) : ph_W p l e R s m args below meth c D CLs dT kd A nL Q L ad τ cells slots pc lv (.ref a :: st) := ph_get (k := 3) (t := 0) C hd hL ha rfl rfl in_F (by decide) rfl rfl tw_183 (ph_e0 hz) kk
theorem gt_F_26 (C : ph_C p s m args c cc nL R_F TB D CLs (TY dT) A KX) (hd : decode cc pc = .ok (.getfield 26, 3)) {i a : Nat} {z : Int} (hL : L 3 i) (ha : ad 3 i = a) (hz : τ 3 i 0 = z)
    (kk : ph_W p l e R s m args below meth c D CLs dT kd A nL Q L ad τ cells slots (pc + 3) lv (.int (ph_i z) :: st)) : ph_W p l e R s m args below meth c D CLs dT kd A nL Q L ad τ cells slots pc lv (.ref a :: st) := ph_get (k := 0) (t := 0) C hd hL ha rfl rfl in_F (by decide) rfl rfl tw_177 (ph_e0 hz) kk
theorem pt_I_9 (C : ph_C p s m args c cc nL R_I TB D CLs (TY dT) A KX) (hd : decode cc pc = .ok (.putfield 9, 3)) {i a : Nat} {z : Int} (hL : L 2 i) (ha : ad 2 i = a)
    (kk : ph_W p l e R s m args below meth c D CLs dT kd A nL Q L ad (ph_up τ 2 i 2 z) cells slots (pc + 3) lv st) : ph_W p l e R s m args below meth c D CLs dT kd A nL Q L ad τ cells slots pc lv (.int (ph_i z) :: .ref a :: st) := ph_put (k := 2) (t := 0) C hd z hL ha rfl rfl in_I t_I_ok n_I (by decide) rfl rfl tw_124 rfl rfl rfl rfl rfl kk
theorem pt_I_15 (C : ph_C p s m args c cc nL R_I TB D CLs (TY dT) A KX) (hd : decode cc pc = .ok (.putfield 15, 3)) {i a : Nat} {z : Int} (hz : z = 0 ∨ z = 1) (hL : L 2 i) (ha : ad 2 i = a)
    (kk : ph_W p l e R s m args below meth c D CLs dT kd A nL Q L ad (ph_up τ 2 i 3 z) cells slots (pc + 3) lv st) : ph_W p l e R s m args below meth c D CLs dT kd A nL Q L ad τ cells slots pc lv (.int (ph_i z) :: .ref a :: st) := ph_put (k := 3) (t := 0) C hd z hL ha rfl rfl in_I t_I_ok n_I (by decide) rfl rfl tw_126 rfl rfl rfl (ph_bz hz).1 (ph_bz hz).2 kk
theorem pt_I_19 (C : ph_C p s m args c cc nL R_I TB D CLs (TY dT) A KX) (hd : decode cc pc = .ok (.putfield 19, 3)) {i a : Nat} {z : Int} (hz : z = 0 ∨ z = 1) (hL : L 2 i) (ha : ad 2 i = a)
    (kk : ph_W p l e R s m args below meth c D CLs dT kd A nL Q L ad (ph_up τ 2 i 4 z) cells slots (pc + 3) lv st) : ph_W p l e R s m args below meth c D CLs dT kd A nL Q L ad τ cells slots pc lv (.int (ph_i z) :: .ref a :: st) := ph_put (k := 4) (t := 0) C hd z hL ha rfl rfl in_I t_I_ok n_I (by decide) rfl rfl tw_128 rfl rfl rfl (ph_bz hz).1 (ph_bz hz).2 kk
theorem pt_I_22 (C : ph_C p s m args c cc nL R_I TB D CLs (TY dT) A KX) (hd : decode cc pc = .ok (.putfield 22, 3)) {i a : Nat} {z : Int} (hL : L 2 i) (ha : ad 2 i = a)
    (kk : ph_W p l e R s m args below meth c D CLs dT kd A nL Q L ad (ph_up τ 2 i 5 z) cells slots (pc + 3) lv st) : ph_W p l e R s m args below meth c D CLs dT kd A nL Q L ad τ cells slots pc lv (.int (ph_i z) :: .ref a :: st) := ph_put (k := 5) (t := 0) C hd z hL ha rfl rfl in_I t_I_ok n_I (by decide) rfl rfl tw_130 rfl rfl rfl rfl rfl kk
theorem pt_I_25 (C : ph_C p s m args c cc nL R_I TB D CLs (TY dT) A KX) (hd : decode cc pc = .ok (.putfield 25, 3)) {i a : Nat} {z : Int} (hL : L 2 i) (ha : ad 2 i = a)
    (kk : ph_W p l e R s m args below meth c D CLs dT kd A nL Q L ad (ph_up τ 2 i 6 z) cells slots (pc + 3) lv st) : ph_W p l e R s m args below meth c D CLs dT kd A nL Q L ad τ cells slots pc lv (.int (ph_i z) :: .ref a :: st) := ph_put (k := 6) (t := 0) C hd z hL ha rfl rfl in_I t_I_ok n_I (by decide) rfl rfl tw_131 rfl rfl rfl rfl rfl kk
theorem pt_I_28 (C : ph_C p s m args c cc nL R_I TB D CLs (TY dT) A KX) (hd : decode cc pc = .ok (.putfield 28, 3)) (hin2 : meth.name = "<init>") {i a : Nat} {z : Int} (hL : L 2 i) (ha : ad 2 i = a)
    (kk : ph_W p l e R s m args below meth c D CLs dT kd A nL Q L ad (ph_up τ 2 i 0 z) cells slots (pc + 3) lv st) : ph_W p l e R s m args below meth c D CLs dT kd A nL Q L ad τ cells slots pc lv (.long (ph_l z) :: .ref a :: st) := ph_putF (k := 0) (t := 1) C hd z hL ha rfl rfl in_I t_I_ok n_I (by decide) rfl rfl tw_120 rfl hin2 rfl rfl rfl rfl rfl kk
theorem pt_I_32 (C : ph_C p s m args c cc nL R_I TB D CLs (TY dT) A KX) (hd : decode cc pc = .ok (.putfield 32, 3)) (hin2 : meth.name = "<init>") {i a : Nat} {z : Int} (hL : L 2 i) (ha : ad 2 i = a)
    (kk : ph_W p l e R s m args below meth c D CLs dT kd A nL Q L ad (ph_up τ 2 i 1 z) cells slots (pc + 3) lv st) : ph_W p l e R s m args below meth c D CLs dT kd A nL Q L ad τ cells slots pc lv (.long (ph_l z) :: .ref a :: st) := ph_putF (k := 1) (t := 1) C hd z hL ha rfl rfl in_I t_I_ok n_I (by decide) rfl rfl tw_122 rfl hin2 rfl rfl rfl rfl rfl kk
theorem gt_I_22 (C : ph_C p s m args c cc nL R_I TB D CLs (TY dT) A KX) (hd : decode cc pc = .ok (.getfield 22, 3)) {i a : Nat} {z : Int} (hL : L 2 i) (ha : ad 2 i = a) (hz : τ 2 i 5 = z)
    (kk : ph_W p l e R s m args below meth c D CLs dT kd A nL Q L ad τ cells slots (pc + 3) lv (.int (ph_i z) :: st)) : ph_W p l e R s m args below meth c D CLs dT kd A nL Q L ad τ cells slots pc lv (.ref a :: st) := ph_get (k := 5) (t := 0) C hd hL ha rfl rfl in_I (by decide) rfl rfl tw_130 (ph_e0 hz) kk
theorem gt_I_25 (C : ph_C p s m args c cc nL R_I TB D CLs (TY dT) A KX) (hd : decode cc pc = .ok (.getfield 25, 3)) {i a : Nat} {z : Int} (hL : L 2 i) (ha : ad 2 i = a) (hz : τ 2 i 6 = z)
    (kk : ph_W p l e R s m args below meth c D CLs dT kd A nL Q L ad τ cells slots (pc + 3) lv (.int (ph_i z) :: st)) : ph_W p l e R s m args below meth c D CLs dT kd A nL Q L ad τ cells slots pc lv (.ref a :: st) := ph_get (k := 6) (t := 0) C hd hL ha rfl rfl in_I (by decide) rfl rfl tw_131 (ph_e0 hz) kk
theorem pt_S_9 (C : ph_C p s m args c cc nL R_S TB D CLs (TY dT) A KX) (hd : decode cc pc = .ok (.putfield 9, 3)) {i a : Nat} {z : Int} (hL : L 1 i) (ha : ad 1 i = a)
    (kk : ph_W p l e R s m args below meth c D CLs dT kd A nL Q L ad (ph_up τ 1 i 1 z) cells slots (pc + 3) lv st) : ph_W p l e R s m args below meth c D CLs dT kd A nL Q L ad τ cells slots pc lv (.int (ph_i z) :: .ref a :: st) := ph_put (k := 1) (t := 0) C hd z hL ha rfl rfl in_S t_S_ok n_S (by decide) rfl rfl tw_72 rfl rfl rfl rfl rfl kk
theorem pt_S_15 (C : ph_C p s m args c cc nL R_S TB D CLs (TY dT) A KX) (hd : decode cc pc = .ok (.putfield 15, 3)) {i a : Nat} {z : Int} (hz : z = 0 ∨ z = 1) (hL : L 1 i) (ha : ad 1 i = a)
    (kk : ph_W p l e R s m args below meth c D CLs dT kd A nL Q L ad (ph_up τ 1 i 2 z) cells slots (pc + 3) lv st) : ph_W p l e R s m args below meth c D CLs dT kd A nL Q L ad τ cells slots pc lv (.int (ph_i z) :: .ref a :: st) := ph_put (k := 2) (t := 0) C hd z hL ha rfl rfl in_S t_S_ok n_S (by decide) rfl rfl tw_74 rfl rfl rfl (ph_bz hz).1 (ph_bz hz).2 kk
theorem pt_S_19 (C : ph_C p s m args c cc nL R_S TB D CLs (TY dT) A KX) (hd : decode cc pc = .ok (.putfield 19, 3)) {i a : Nat} {z : Int} (hL : L 1 i) (ha : ad 1 i = a)
    (kk : ph_W p l e R s m args below meth c D CLs dT kd A nL Q L ad (ph_up τ 1 i 3 z) cells slots (pc + 3) lv st) : ph_W p l e R s m args below meth c D CLs dT kd A nL Q L ad τ cells slots pc lv (.int (ph_i z) :: .ref a :: st) := ph_put (k := 3) (t := 0) C hd z hL ha rfl rfl in_S t_S_ok n_S (by decide) rfl rfl tw_76 rfl rfl rfl rfl rfl kk
theorem pt_S_22 (C : ph_C p s m args c cc nL R_S TB D CLs (TY dT) A KX) (hd : decode cc pc = .ok (.putfield 22, 3)) {i a : Nat} {z : Int} (hL : L 1 i) (ha : ad 1 i = a)
    (kk : ph_W p l e R s m args below meth c D CLs dT kd A nL Q L ad (ph_up τ 1 i 4 z) cells slots (pc + 3) lv st) : ph_W p l e R s m args below meth c D CLs dT kd A nL Q L ad τ cells slots pc lv (.long (ph_l z) :: .ref a :: st) := ph_put (k := 4) (t := 1) C hd z hL ha rfl rfl in_S t_S_ok n_S (by decide) rfl rfl tw_78 rfl rfl rfl rfl rfl kk
theorem pt_S_26 (C : ph_C p s m args c cc nL R_S TB D CLs (TY dT) A KX) (hd : decode cc pc = .ok (.putfield 26, 3)) {i a : Nat} {z : Int} (hz : z = 0 ∨ z = 1) (hL : L 1 i) (ha : ad 1 i = a)
    (kk : ph_W p l e R s m args below meth c D CLs dT kd A nL Q L ad (ph_up τ 1 i 5 z) cells slots (pc + 3) lv st) : ph_W p l e R s m args below meth c D CLs dT kd A nL Q L ad τ cells slots pc lv (.int (ph_i z) :: .ref a :: st) := ph_put (k := 5) (t := 0) C hd z hL ha rfl rfl in_S t_S_ok n_S (by decide) rfl rfl tw_80 rfl rfl rfl (ph_bz hz).1 (ph_bz hz).2 kk
theorem pt_S_29 (C : ph_C p s m args c cc nL R_S TB D CLs (TY dT) A KX) (hd : decode cc pc = .ok (.putfield 29, 3)) (hin2 : meth.name = "<init>") {i a : Nat} {z : Int} (hL : L 1 i) (ha : ad 1 i = a)
    (kk : ph_W p l e R s m args below meth c D CLs dT kd A nL Q L ad (ph_up τ 1 i 0 z) cells slots (pc + 3) lv st) : ph_W p l e R s m args below meth c D CLs dT kd A nL Q L ad τ cells slots pc lv (.long (ph_l z) :: .ref a :: st) := ph_putF (k := 0) (t := 1) C hd z hL ha rfl rfl in_S t_S_ok n_S (by decide) rfl rfl tw_70 rfl hin2 rfl rfl rfl rfl rfl kk
end SCH
end
section
/-! ===== what is known of the start and stays: the two static tables, the arrays' classes ===== -/
def rkT (j : Nat) : Int := match j with
  | 1 => 2
  | 2 => 4
  | 3 => 3
  | 4 => 1
  | 5 => 6
  | 6 => 7
  | _ => 0
def stT (j : Nat) : Int := match j with
  | 0 => 1
  | 3 => 1
  | 4 => 2
  | 6 => 1
  | 7 => 3
  | 9 => 1
  | 12 => 4
  | 13 => 3
  | 14 => 5
  | 15 => 4
  | 16 => 5
  | _ => 0
def KJ (dT : Nat → ClassId) (A : Nat → Prop) (aR aT : Nat) (U : State) : Prop :=
  (va_Z "JamRules" "RANKS" "[I" (.ref aR) A U U.heap ∧ U.heap[aR]? = some (vp_cell (dT 0) (7, .inl fun j => ph_i (rkT j))) ∧ ¬ A aR) ∧
  (va_Z "JamRules" "STEPS" "[I" (.ref aT) A U U.heap ∧ U.heap[aT]? = some (vp_cell (dT 0) (18, .inl fun j => ph_i (stT j))) ∧ ¬ A aT) ∧
  (va_AO "JamRules$Sensor" U ∧ va_AO "JamRules$Item" U ∧ va_AO "JamRules$Fault" U) ∧ va_Nw (.fieldLinkNest "JamRules$Fault" 35 "JamRules" "RANKS" "[I" "JamRules") U
theorem KJ_keep (dT : Nat → ClassId) (A : Nat → Prop) (aR aT : Nat) : ph_keep A (KJ dT A aR aT) := by
  intro u U hW hz hq ⟨⟨h1, h2, h3⟩, ⟨h4, h5, h6⟩, ⟨h7, h8, h9⟩, h10⟩
  exact ⟨⟨(h1.moved hW.alike).kept hq, by rw [hq _ (Array.getElem?_eq_some_iff.mp h2).1 h3]; exact h2, h3⟩, ⟨(h4.moved hW.alike).kept hq, by rw [hq _ (Array.getElem?_eq_some_iff.mp h5).1 h6]; exact h5, h6⟩, ⟨h7.moved hW.alike, h8.moved hW.alike, h9.moved hW.alike⟩, va_Nw.warmF hW h10⟩
end
section
/-! ===== the small classes: over any heap that holds the object ===== -/
set_option maxHeartbeats 4000000 in
set_option maxRecDepth 100000 in
theorem c_I_isOnBelt (l : Launch) (D : va_G) (dT : Nat → ClassId) (A : Nat → Prop) (KX : State → Prop) (L : Nat → Nat → Prop) (ad : Nat → Nat → Nat) (τ : ph_T) (i a : Nat) (hL : L 2 i) (ha : ad 2 i = a) (z : Int) (hz : τ 2 i 5 = z) (h5 : ph_ri z) : ph_M l y_I_isOnBelt (.code y_I_isOnBelt b_I_isOnBelt 1 (some .boolean) :: TB) ({ frames := 0, cells := 0, slots := 0, locals := 0 } : Room) D CLs (TY dT) dT kd A KX [.ref (a)] L ad τ (fun r L' ad' τ' => L' = L ∧ ad' = ad ∧ τ' = τ ∧ r = some (.int (ph_i (ph_b (z = 0))))) 0 0 := by
  refine ph_M.of (cc := b_I_isOnBelt) (maxL := 1) (ret := (some .boolean)) (by decide) rfl (Nat.le_of_ble_eq_true rfl) ?_
  intro p e s m below meth c C0 hr hlk hnm
  have C := C0.sub
  refine ph_loc (l2 := [(0, .ref (a))]) ⟨rfl, trivial⟩ ?_
  refine ph_aload_n (pc := 0) C d_I_isOnBelt_0 rfl ?_
  refine gt_I_22 (pc := 1) C d_I_isOnBelt_1 hL ha hz ?_
  refine ph_if_ne (pc := 4) (tgt := 11) C d_I_isOnBelt_4 (by decide) (by omega) (fun c4 => ?_) (fun c4 => ?_)
  · refine ph_iconst (pc := 11) C d_I_isOnBelt_11 ?_
    exact ph_iret (pc := 12) C d_I_isOnBelt_12 hr hlk (by decide) (by decide) (by decide) ⟨rfl, rfl, rfl, (ph_bf (by omega))⟩
  · refine ph_iconst (pc := 7) C d_I_isOnBelt_7 ?_
    refine ph_goto (pc := 8) (tgt := 12) C d_I_isOnBelt_8 (by decide) ?_
    exact ph_iret (pc := 12) C d_I_isOnBelt_12 hr hlk (by decide) (by decide) (by decide) ⟨rfl, rfl, rfl, (ph_bt (by omega))⟩
set_option maxHeartbeats 4000000 in
set_option maxRecDepth 100000 in
theorem c_I_isOff (l : Launch) (D : va_G) (dT : Nat → ClassId) (A : Nat → Prop) (KX : State → Prop) (L : Nat → Nat → Prop) (ad : Nat → Nat → Nat) (τ : ph_T) (i a : Nat) (hL : L 2 i) (ha : ad 2 i = a) (z : Int) (hz : τ 2 i 5 = z) (h5 : ph_ri z) : ph_M l y_I_isOff (.code y_I_isOff b_I_isOff 1 (some .boolean) :: TB) ({ frames := 0, cells := 0, slots := 0, locals := 0 } : Room) D CLs (TY dT) dT kd A KX [.ref (a)] L ad τ (fun r L' ad' τ' => L' = L ∧ ad' = ad ∧ τ' = τ ∧ r = some (.int (ph_i (ph_b (z = 2))))) 0 0 := by
  refine ph_M.of (cc := b_I_isOff) (maxL := 1) (ret := (some .boolean)) (by decide) rfl (Nat.le_of_ble_eq_true rfl) ?_
  intro p e s m below meth c C0 hr hlk hnm
  have C := C0.sub
  refine ph_loc (l2 := [(0, .ref (a))]) ⟨rfl, trivial⟩ ?_
  refine ph_aload_n (pc := 0) C d_I_isOff_0 rfl ?_
  refine gt_I_22 (pc := 1) C d_I_isOff_1 hL ha hz ?_
  refine ph_iconst (pc := 4) C d_I_isOff_4 ?_
  refine ph_icmp_ne (pc := 5) (tgt := 12) C d_I_isOff_5 (by decide) (by omega) (by omega) (fun c5 => ?_) (fun c5 => ?_)
  · refine ph_iconst (pc := 12) C d_I_isOff_12 ?_
    exact ph_iret (pc := 13) C d_I_isOff_13 hr hlk (by decide) (by decide) (by decide) ⟨rfl, rfl, rfl, (ph_bf (by omega))⟩
  · refine ph_iconst (pc := 8) C d_I_isOff_8 ?_
    refine ph_goto (pc := 9) (tgt := 13) C d_I_isOff_9 (by decide) ?_
    exact ph_iret (pc := 13) C d_I_isOff_13 hr hlk (by decide) (by decide) (by decide) ⟨rfl, rfl, rfl, (ph_bt (by omega))⟩
set_option maxHeartbeats 4000000 in
set_option maxRecDepth 100000 in
theorem c_I_takeOffBelt (l : Launch) (D : va_G) (dT : Nat → ClassId) (A : Nat → Prop) (KX : State → Prop) (L : Nat → Nat → Prop) (ad : Nat → Nat → Nat) (τ : ph_T) (i a : Nat) (hL : L 2 i) (ha : ad 2 i = a) (z : Int) (hz : τ 2 i 5 = z) (h5 : ph_ri z) (f : Int) : ph_M l y_I_takeOffBelt (.code y_I_takeOffBelt b_I_takeOffBelt 2 none :: TB) ({ frames := 0, cells := 0, slots := 0, locals := 0 } : Room) D CLs (TY dT) dT kd A KX [.ref (a), .int (ph_i (f))] L ad τ (fun r L' ad' τ' => L' = L ∧ ad' = ad ∧ τ' = (if z = 2 then τ else ph_up (ph_up τ 2 i 5 2) 2 i 2 f) ∧ r = none) 0 0 := by
  refine ph_M.of (cc := b_I_takeOffBelt) (maxL := 2) (ret := none) (by decide) rfl (Nat.le_of_ble_eq_true rfl) ?_
  intro p e s m below meth c C0 hr hlk hnm
  have C := C0.sub
  refine ph_loc (l2 := [(0, .ref (a)), (1, .int (ph_i (f)))]) ⟨rfl, rfl, trivial⟩ ?_
  refine ph_aload_n (pc := 0) C d_I_takeOffBelt_0 rfl ?_
  refine gt_I_22 (pc := 1) C d_I_takeOffBelt_1 hL ha hz ?_
  refine ph_iconst (pc := 4) C d_I_takeOffBelt_4 ?_
  refine ph_icmp_eq (pc := 5) (tgt := 18) C d_I_takeOffBelt_5 (by decide) (by omega) (by omega) (fun c5 => ?_) (fun c5 => ?_)
  · exact ph_vret (pc := 18) C d_I_takeOffBelt_18 hr hlk (by decide) (by decide) ⟨rfl, rfl, (if_pos (by omega)).symm, rfl⟩
  · refine ph_aload_n (pc := 8) C d_I_takeOffBelt_8 rfl ?_
    refine ph_iconst (pc := 9) C d_I_takeOffBelt_9 ?_
    refine pt_I_22 (pc := 10) C d_I_takeOffBelt_10 hL ha ?_
    refine ph_aload_n (pc := 13) C d_I_takeOffBelt_13 rfl ?_
    refine ph_iload_n (pc := 14) C d_I_takeOffBelt_14 rfl ?_
    refine pt_I_9 (pc := 15) C d_I_takeOffBelt_15 hL ha ?_
    exact ph_vret (pc := 18) C d_I_takeOffBelt_18 hr hlk (by decide) (by decide) ⟨rfl, rfl, (if_neg (by omega)).symm, rfl⟩
set_option maxHeartbeats 4000000 in
set_option maxRecDepth 100000 in
theorem c_I_leaveBelt (l : Launch) (D : va_G) (dT : Nat → ClassId) (A : Nat → Prop) (KX : State → Prop) (L : Nat → Nat → Prop) (ad : Nat → Nat → Nat) (τ : ph_T) (i a : Nat) (hL : L 2 i) (ha : ad 2 i = a) (z : Int) (hz : τ 2 i 5 = z) (h5 : ph_ri z) : ph_M l y_I_leaveBelt (.code y_I_leaveBelt b_I_leaveBelt 1 none :: TB) ({ frames := 0, cells := 0, slots := 0, locals := 0 } : Room) D CLs (TY dT) dT kd A KX [.ref (a)] L ad τ (fun r L' ad' τ' => L' = L ∧ ad' = ad ∧ τ' = (if z = 0 then ph_up τ 2 i 5 1 else τ) ∧ r = none) 0 0 := by
  refine ph_M.of (cc := b_I_leaveBelt) (maxL := 1) (ret := none) (by decide) rfl (Nat.le_of_ble_eq_true rfl) ?_
  intro p e s m below meth c C0 hr hlk hnm
  have C := C0.sub
  refine ph_loc (l2 := [(0, .ref (a))]) ⟨rfl, trivial⟩ ?_
  refine ph_aload_n (pc := 0) C d_I_leaveBelt_0 rfl ?_
  refine gt_I_22 (pc := 1) C d_I_leaveBelt_1 hL ha hz ?_
  refine ph_if_ne (pc := 4) (tgt := 12) C d_I_leaveBelt_4 (by decide) (by omega) (fun c4 => ?_) (fun c4 => ?_)
  · exact ph_vret (pc := 12) C d_I_leaveBelt_12 hr hlk (by decide) (by decide) ⟨rfl, rfl, (if_neg (by omega)).symm, rfl⟩
  · refine ph_aload_n (pc := 7) C d_I_leaveBelt_7 rfl ?_
    refine ph_iconst (pc := 8) C d_I_leaveBelt_8 ?_
    refine pt_I_22 (pc := 9) C d_I_leaveBelt_9 hL ha ?_
    exact ph_vret (pc := 12) C d_I_leaveBelt_12 hr hlk (by decide) (by decide) ⟨rfl, rfl, (if_pos (by omega)).symm, rfl⟩
set_option maxHeartbeats 4000000 in
set_option maxRecDepth 100000 in
theorem c_S_darken (l : Launch) (D : va_G) (dT : Nat → ClassId) (A : Nat → Prop) (KX : State → Prop) (L : Nat → Nat → Prop) (ad : Nat → Nat → Nat) (τ : ph_T) (i a : Nat) (hL : L 1 i) (ha : ad 1 i = a) (b t : Int) : ph_M l y_S_darken (.code y_S_darken b_S_darken 4 none :: TB) ({ frames := 0, cells := 0, slots := 0, locals := 0 } : Room) D CLs (TY dT) dT kd A KX [.ref (a), .int (ph_i (b)), .long (ph_l (t))] L ad τ (fun r L' ad' τ' => L' = L ∧ ad' = ad ∧ τ' = (ph_up (ph_up (ph_up (ph_up τ 1 i 2 1) 1 i 3 b) 1 i 4 t) 1 i 5 0) ∧ r = none) 0 0 := by
  refine ph_M.of (cc := b_S_darken) (maxL := 4) (ret := none) (by decide) rfl (Nat.le_of_ble_eq_true rfl) ?_
  intro p e s m below meth c C0 hr hlk hnm
  have C := C0.sub
  refine ph_loc (l2 := [(0, .ref (a)), (1, .int (ph_i (b))), (2, .long (ph_l (t)))]) ⟨rfl, rfl, rfl, trivial⟩ ?_
  refine ph_aload_n (pc := 0) C d_S_darken_0 rfl ?_
  refine ph_iconst (pc := 1) C d_S_darken_1 ?_
  refine pt_S_15 (pc := 2) C d_S_darken_2 (by omega) hL ha ?_
  refine ph_aload_n (pc := 5) C d_S_darken_5 rfl ?_
  refine ph_iload_n (pc := 6) C d_S_darken_6 rfl ?_
  refine pt_S_19 (pc := 7) C d_S_darken_7 hL ha ?_
  refine ph_aload_n (pc := 10) C d_S_darken_10 rfl ?_
  refine ph_lload_n (pc := 11) C d_S_darken_11 rfl ?_
  refine pt_S_22 (pc := 12) C d_S_darken_12 hL ha ?_
  refine ph_aload_n (pc := 15) C d_S_darken_15 rfl ?_
  refine ph_iconst (pc := 16) C d_S_darken_16 ?_
  refine pt_S_26 (pc := 17) C d_S_darken_17 (by omega) hL ha ?_
  exact ph_vret (pc := 20) C d_S_darken_20 hr hlk (by decide) (by decide) ⟨rfl, rfl, rfl, rfl⟩
set_option maxHeartbeats 4000000 in
set_option maxRecDepth 100000 in
theorem c_S_lighten (l : Launch) (D : va_G) (dT : Nat → ClassId) (A : Nat → Prop) (KX : State → Prop) (L : Nat → Nat → Prop) (ad : Nat → Nat → Nat) (τ : ph_T) (i a : Nat) (hL : L 1 i) (ha : ad 1 i = a) : ph_M l y_S_lighten (.code y_S_lighten b_S_lighten 1 none :: TB) ({ frames := 0, cells := 0, slots := 0, locals := 0 } : Room) D CLs (TY dT) dT kd A KX [.ref (a)] L ad τ (fun r L' ad' τ' => L' = L ∧ ad' = ad ∧ τ' = (ph_up (ph_up τ 1 i 2 0) 1 i 3 0) ∧ r = none) 0 0 := by
  refine ph_M.of (cc := b_S_lighten) (maxL := 1) (ret := none) (by decide) rfl (Nat.le_of_ble_eq_true rfl) ?_
  intro p e s m below meth c C0 hr hlk hnm
  have C := C0.sub
  refine ph_loc (l2 := [(0, .ref (a))]) ⟨rfl, trivial⟩ ?_
  refine ph_aload_n (pc := 0) C d_S_lighten_0 rfl ?_
  refine ph_iconst (pc := 1) C d_S_lighten_1 ?_
  refine pt_S_15 (pc := 2) C d_S_lighten_2 (by omega) hL ha ?_
  refine ph_aload_n (pc := 5) C d_S_lighten_5 rfl ?_
  refine ph_iconst (pc := 6) C d_S_lighten_6 ?_
  refine pt_S_19 (pc := 7) C d_S_lighten_7 hL ha ?_
  exact ph_vret (pc := 10) C d_S_lighten_10 hr hlk (by decide) (by decide) ⟨rfl, rfl, rfl, rfl⟩
set_option maxHeartbeats 4000000 in
set_option maxRecDepth 100000 in
theorem c_I_isSeenBy (l : Launch) (D : va_G) (dT : Nat → ClassId) (A : Nat → Prop) (KX : State → Prop) (L : Nat → Nat → Prop) (ad : Nat → Nat → Nat) (τ : ph_T) (i a : Nat) (hL : L 2 i) (ha : ad 2 i = a) (n s0 : Nat) (hn : τ 2 i 6 = (n : Int)) (hb : n < 256) (hs : s0 < 8) : ph_M l y_I_isSeenBy (.code y_I_isSeenBy b_I_isSeenBy 2 (some .boolean) :: TB) ({ frames := 0, cells := 0, slots := 0, locals := 0 } : Room) D CLs (TY dT) dT kd A KX [.ref (a), .int (ph_i ((s0 : Int)))] L ad τ (fun r L' ad' τ' => L' = L ∧ ad' = ad ∧ τ' = τ ∧ r = some (.int (ph_i (ph_b (n.testBit s0 = true))))) 0 0 := by
  refine ph_M.of (cc := b_I_isSeenBy) (maxL := 2) (ret := (some .boolean)) (by decide) rfl (Nat.le_of_ble_eq_true rfl) ?_
  intro p e s m below meth c C0 hr hlk hnm
  have C := C0.sub
  refine ph_loc (l2 := [(0, .ref (a)), (1, .int (ph_i ((s0 : Int))))]) ⟨rfl, rfl, trivial⟩ ?_
  refine ph_aload_n (pc := 0) C d_I_isSeenBy_0 rfl ?_
  refine gt_I_25 (pc := 1) C d_I_isSeenBy_1 hL ha hn ?_
  refine ph_iload_n (pc := 4) C d_I_isSeenBy_4 rfl ?_
  refine ph_ishr (pc := 5) C d_I_isSeenBy_5 ((n / 2 ^ s0 : Nat) : Int) (pb_ishr (by omega) (by omega)) ?_
  refine ph_iconst (pc := 6) C d_I_isSeenBy_6 ?_
  refine ph_iand (pc := 7) C d_I_isSeenBy_7 ((n / 2 ^ s0 % 2 : Nat) : Int) (pb_iand1 (pb_dv (by omega))) ?_
  refine ph_if_eq (pc := 8) (tgt := 15) C d_I_isSeenBy_8 (by decide) (pb_r2 _) (fun c8 => ?_) (fun c8 => ?_)
  · refine ph_iconst (pc := 15) C d_I_isSeenBy_15 ?_
    exact ph_iret (pc := 16) C d_I_isSeenBy_16 hr hlk (by decide) (by decide) (by decide) ⟨rfl, rfl, rfl, (ph_bf (pb_t0 c8))⟩
  · refine ph_iconst (pc := 11) C d_I_isSeenBy_11 ?_
    refine ph_goto (pc := 12) (tgt := 16) C d_I_isSeenBy_12 (by decide) ?_
    exact ph_iret (pc := 16) C d_I_isSeenBy_16 hr hlk (by decide) (by decide) (by decide) ⟨rfl, rfl, rfl, (ph_bt (pb_t1 c8))⟩
set_option maxHeartbeats 4000000 in
set_option maxRecDepth 100000 in
theorem c_I_beSeenBy (l : Launch) (D : va_G) (dT : Nat → ClassId) (A : Nat → Prop) (KX : State → Prop) (L : Nat → Nat → Prop) (ad : Nat → Nat → Nat) (τ : ph_T) (i a : Nat) (hL : L 2 i) (ha : ad 2 i = a) (n s0 : Nat) (hn : τ 2 i 6 = (n : Int)) (hb : n < 256) (hs : s0 < 8) : ph_M l y_I_beSeenBy (.code y_I_beSeenBy b_I_beSeenBy 2 none :: TB) ({ frames := 0, cells := 0, slots := 0, locals := 0 } : Room) D CLs (TY dT) dT kd A KX [.ref (a), .int (ph_i ((s0 : Int)))] L ad τ (fun r L' ad' τ' => L' = L ∧ ad' = ad ∧ τ' = (ph_up τ 2 i 6 ((n ||| 2 ^ s0 : Nat) : Int)) ∧ r = none) 0 0 := by
  refine ph_M.of (cc := b_I_beSeenBy) (maxL := 2) (ret := none) (by decide) rfl (Nat.le_of_ble_eq_true rfl) ?_
  intro p e s m below meth c C0 hr hlk hnm
  have C := C0.sub
  refine ph_loc (l2 := [(0, .ref (a)), (1, .int (ph_i ((s0 : Int))))]) ⟨rfl, rfl, trivial⟩ ?_
  refine ph_aload_n (pc := 0) C d_I_beSeenBy_0 rfl ?_
  refine ph_dup (pc := 1) C d_I_beSeenBy_1 rfl ?_
  refine gt_I_25 (pc := 2) C d_I_beSeenBy_2 hL ha hn ?_
  refine ph_iconst (pc := 5) C d_I_beSeenBy_5 ?_
  refine ph_iload_n (pc := 6) C d_I_beSeenBy_6 rfl ?_
  refine ph_ishl (pc := 7) C d_I_beSeenBy_7 ((2 ^ s0 : Nat) : Int) (pb_ishl1 (by omega)) ?_
  refine ph_ior (pc := 8) C d_I_beSeenBy_8 ((n ||| 2 ^ s0 : Nat) : Int) (pb_ior n (2 ^ s0)) ?_
  refine pt_I_25 (pc := 9) C d_I_beSeenBy_9 hL ha ?_
  exact ph_vret (pc := 12) C d_I_beSeenBy_12 hr hlk (by decide) (by decide) ⟨rfl, rfl, rfl, rfl⟩
set_option maxHeartbeats 4000000 in
set_option maxRecDepth 100000 in
theorem c_F_doubts (l : Launch) (D : va_G) (dT : Nat → ClassId) (A : Nat → Prop) (KX : State → Prop) (L : Nat → Nat → Prop) (ad : Nat → Nat → Nat) (τ : ph_T) (i a : Nat) (hL : L 3 i) (ha : ad 3 i = a) (n s0 : Nat) (hn : τ 3 i 5 = (n : Int)) (hb : n < 2305843009213693952) (hs : s0 < 61) : ph_M l y_F_doubts (.code y_F_doubts b_F_doubts 2 (some .boolean) :: TB) ({ frames := 0, cells := 0, slots := 0, locals := 0 } : Room) D CLs (TY dT) dT kd A KX [.ref (a), .int (ph_i ((s0 : Int)))] L ad τ (fun r L' ad' τ' => L' = L ∧ ad' = ad ∧ τ' = τ ∧ r = some (.int (ph_i (ph_b (n.testBit s0 = true))))) 0 0 := by
  refine ph_M.of (cc := b_F_doubts) (maxL := 2) (ret := (some .boolean)) (by decide) rfl (Nat.le_of_ble_eq_true rfl) ?_
  intro p e s m below meth c C0 hr hlk hnm
  have C := C0.sub
  refine ph_loc (l2 := [(0, .ref (a)), (1, .int (ph_i ((s0 : Int))))]) ⟨rfl, rfl, trivial⟩ ?_
  refine ph_aload_n (pc := 0) C d_F_doubts_0 rfl ?_
  refine gt_F_18 (pc := 1) C d_F_doubts_1 hL ha hn ?_
  refine ph_iload_n (pc := 4) C d_F_doubts_4 rfl ?_
  refine ph_lshr (pc := 5) C d_F_doubts_5 ((n / 2 ^ s0 : Nat) : Int) (pb_lshr (by omega) (by omega)) ?_
  refine ph_lconst (pc := 6) C d_F_doubts_6 1 (by decide) ?_
  refine ph_land (pc := 7) C d_F_doubts_7 ((n / 2 ^ s0 % 2 : Nat) : Int) (pb_land1 (pb_dv (by omega))) ?_
  refine ph_lconst (pc := 8) C d_F_doubts_8 0 (by decide) ?_
  refine ph_l_eq (pc := 9) (tgt := 17) C d_F_doubts_9 d_F_doubts_10 (by decide) (by first | exact pb_rl2 _ | omega) (by first | exact pb_rl2 _ | omega) (fun c9 => ?_) (fun c9 => ?_)
  · refine ph_iconst (pc := 17) C d_F_doubts_17 ?_
    exact ph_iret (pc := 18) C d_F_doubts_18 hr hlk (by decide) (by decide) (by decide) ⟨rfl, rfl, rfl, (ph_bf (pb_t0 c9))⟩
  · refine ph_iconst (pc := 13) C d_F_doubts_13 ?_
    refine ph_goto (pc := 14) (tgt := 18) C d_F_doubts_14 (by decide) ?_
    exact ph_iret (pc := 18) C d_F_doubts_18 hr hlk (by decide) (by decide) (by decide) ⟨rfl, rfl, rfl, (ph_bt (pb_t1 c9))⟩
set_option maxHeartbeats 4000000 in
set_option maxRecDepth 100000 in
theorem c_S_init (l : Launch) (D : va_G) (dT : Nat → ClassId) (A : Nat → Prop) (KX : State → Prop) (L : Nat → Nat → Prop) (ad : Nat → Nat → Nat) (τ : ph_T) (i a : Nat) (hL : L 1 i) (ha : ad 1 i = a) (x : Int) : ph_M l y_S_init (.code y_S_init b_S_init 3 none :: TB) ({ frames := 1, cells := 0, slots := 0, locals := 12 } : Room) D CLs (TY dT) dT kd A KX [.ref (a), .long (ph_l (x))] L ad τ (fun r L' ad' τ' => L' = L ∧ ad' = ad ∧ τ' = (ph_up (ph_up (ph_up (ph_up (ph_up (ph_up τ 1 i 1 (0)) 1 i 2 (0)) 1 i 3 (0)) 1 i 4 (0)) 1 i 5 (0)) 1 i 0 (x)) ∧ r = none) 0 0 := by
  refine ph_M.of (cc := b_S_init) (maxL := 3) (ret := none) (by decide) rfl (Nat.le_of_ble_eq_true rfl) ?_
  intro p e s m below meth c C0 hr hlk hnm
  have C := C0.sub
  refine ph_loc (l2 := [(0, .ref (a)), (1, .long (ph_l (x)))]) ⟨rfl, rfl, trivial⟩ ?_
  refine ph_aload_n (pc := 0) C d_S_init_0 rfl ?_
  refine ph_objInit (pc := 1) C d_S_init_1 tw_69 tw_12 tw_13 (by decide) (by decide) ?_
  refine ph_aload_n (pc := 4) C d_S_init_4 rfl ?_
  refine ph_iconst (pc := 5) C d_S_init_5 ?_
  refine pt_S_9 (pc := 6) C d_S_init_6 hL ha ?_
  refine ph_aload_n (pc := 9) C d_S_init_9 rfl ?_
  refine ph_iconst (pc := 10) C d_S_init_10 ?_
  refine pt_S_15 (pc := 11) C d_S_init_11 (by omega) hL ha ?_
  refine ph_aload_n (pc := 14) C d_S_init_14 rfl ?_
  refine ph_iconst (pc := 15) C d_S_init_15 ?_
  refine pt_S_19 (pc := 16) C d_S_init_16 hL ha ?_
  refine ph_aload_n (pc := 19) C d_S_init_19 rfl ?_
  refine ph_lconst (pc := 20) C d_S_init_20 0 (by decide) ?_
  refine pt_S_22 (pc := 21) C d_S_init_21 hL ha ?_
  refine ph_aload_n (pc := 24) C d_S_init_24 rfl ?_
  refine ph_iconst (pc := 25) C d_S_init_25 ?_
  refine pt_S_26 (pc := 26) C d_S_init_26 (by omega) hL ha ?_
  refine ph_aload_n (pc := 29) C d_S_init_29 rfl ?_
  refine ph_lload_n (pc := 30) C d_S_init_30 rfl ?_
  refine pt_S_29 (pc := 31) C d_S_init_31 hnm hL ha ?_
  exact ph_vret (pc := 34) C d_S_init_34 hr hlk (by decide) (by decide) ⟨rfl, rfl, rfl, rfl⟩
set_option maxHeartbeats 4000000 in
set_option maxRecDepth 100000 in
theorem c_I_init (l : Launch) (D : va_G) (dT : Nat → ClassId) (A : Nat → Prop) (KX : State → Prop) (L : Nat → Nat → Prop) (ad : Nat → Nat → Nat) (τ : ph_T) (i a : Nat) (hL : L 2 i) (ha : ad 2 i = a) (x t : Int) : ph_M l y_I_init (.code y_I_init b_I_init 5 none :: TB) ({ frames := 1, cells := 0, slots := 0, locals := 12 } : Room) D CLs (TY dT) dT kd A KX [.ref (a), .long (ph_l (x)), .long (ph_l (t))] L ad τ (fun r L' ad' τ' => L' = L ∧ ad' = ad ∧ τ' = (ph_up (ph_up (ph_up (ph_up (ph_up (ph_up (ph_up τ 2 i 2 (0)) 2 i 3 (0)) 2 i 4 (0)) 2 i 5 (0)) 2 i 6 (0)) 2 i 0 (x)) 2 i 1 (t)) ∧ r = none) 0 0 := by
  refine ph_M.of (cc := b_I_init) (maxL := 5) (ret := none) (by decide) rfl (Nat.le_of_ble_eq_true rfl) ?_
  intro p e s m below meth c C0 hr hlk hnm
  have C := C0.sub
  refine ph_loc (l2 := [(0, .ref (a)), (1, .long (ph_l (x))), (3, .long (ph_l (t)))]) ⟨rfl, rfl, rfl, trivial⟩ ?_
  refine ph_aload_n (pc := 0) C d_I_init_0 rfl ?_
  refine ph_objInit (pc := 1) C d_I_init_1 tw_119 tw_12 tw_13 (by decide) (by decide) ?_
  refine ph_aload_n (pc := 4) C d_I_init_4 rfl ?_
  refine ph_iconst (pc := 5) C d_I_init_5 ?_
  refine pt_I_9 (pc := 6) C d_I_init_6 hL ha ?_
  refine ph_aload_n (pc := 9) C d_I_init_9 rfl ?_
  refine ph_iconst (pc := 10) C d_I_init_10 ?_
  refine pt_I_15 (pc := 11) C d_I_init_11 (by omega) hL ha ?_
  refine ph_aload_n (pc := 14) C d_I_init_14 rfl ?_
  refine ph_iconst (pc := 15) C d_I_init_15 ?_
  refine pt_I_19 (pc := 16) C d_I_init_16 (by omega) hL ha ?_
  refine ph_aload_n (pc := 19) C d_I_init_19 rfl ?_
  refine ph_iconst (pc := 20) C d_I_init_20 ?_
  refine pt_I_22 (pc := 21) C d_I_init_21 hL ha ?_
  refine ph_aload_n (pc := 24) C d_I_init_24 rfl ?_
  refine ph_iconst (pc := 25) C d_I_init_25 ?_
  refine pt_I_25 (pc := 26) C d_I_init_26 hL ha ?_
  refine ph_aload_n (pc := 29) C d_I_init_29 rfl ?_
  refine ph_lload_n (pc := 30) C d_I_init_30 rfl ?_
  refine pt_I_28 (pc := 31) C d_I_init_31 hnm hL ha ?_
  refine ph_aload_n (pc := 34) C d_I_init_34 rfl ?_
  refine ph_lload_n (pc := 35) C d_I_init_35 rfl ?_
  refine pt_I_32 (pc := 36) C d_I_init_36 hnm hL ha ?_
  exact ph_vret (pc := 39) C d_I_init_39 hr hlk (by decide) (by decide) ⟨rfl, rfl, rfl, rfl⟩
set_option maxHeartbeats 4000000 in
set_option maxRecDepth 100000 in
theorem c_F_init (l : Launch) (D : va_G) (dT : Nat → ClassId) (A : Nat → Prop) (KX : State → Prop) (L : Nat → Nat → Prop) (ad : Nat → Nat → Nat) (τ : ph_T) (i a : Nat) (hL : L 3 i) (ha : ad 3 i = a) (k f t : Int) : ph_M l y_F_init (.code y_F_init b_F_init 5 none :: TB) ({ frames := 1, cells := 0, slots := 0, locals := 12 } : Room) D CLs (TY dT) dT kd A KX [.ref (a), .int (ph_i (k)), .int (ph_i (f)), .long (ph_l (t))] L ad τ (fun r L' ad' τ' => L' = L ∧ ad' = ad ∧ τ' = (ph_up (ph_up (ph_up (ph_up (ph_up (ph_up (ph_up τ 3 i 3 (0)) 3 i 4 (0)) 3 i 5 (0)) 3 i 6 (0)) 3 i 0 (k)) 3 i 1 (f)) 3 i 2 (t)) ∧ r = none) 0 0 := by
  refine ph_M.of (cc := b_F_init) (maxL := 5) (ret := none) (by decide) rfl (Nat.le_of_ble_eq_true rfl) ?_
  intro p e s m below meth c C0 hr hlk hnm
  have C := C0.sub
  refine ph_loc (l2 := [(0, .ref (a)), (1, .int (ph_i (k))), (2, .int (ph_i (f))), (3, .long (ph_l (t)))]) ⟨rfl, rfl, rfl, rfl, trivial⟩ ?_
  refine ph_aload_n (pc := 0) C d_F_init_0 rfl ?_
  refine ph_objInit (pc := 1) C d_F_init_1 tw_176 tw_12 tw_13 (by decide) (by decide) ?_
  refine ph_aload_n (pc := 4) C d_F_init_4 rfl ?_
  refine ph_iconst (pc := 5) C d_F_init_5 ?_
  refine pt_F_9 (pc := 6) C d_F_init_6 (by omega) hL ha ?_
  refine ph_aload_n (pc := 9) C d_F_init_9 rfl ?_
  refine ph_iconst (pc := 10) C d_F_init_10 ?_
  refine pt_F_15 (pc := 11) C d_F_init_11 (by omega) hL ha ?_
  refine ph_aload_n (pc := 14) C d_F_init_14 rfl ?_
  refine ph_lconst (pc := 15) C d_F_init_15 0 (by decide) ?_
  refine pt_F_18 (pc := 16) C d_F_init_16 hL ha ?_
  refine ph_aload_n (pc := 19) C d_F_init_19 rfl ?_
  refine ph_iconst (pc := 20) C d_F_init_20 ?_
  refine pt_F_22 (pc := 21) C d_F_init_21 hL ha ?_
  refine ph_aload_n (pc := 24) C d_F_init_24 rfl ?_
  refine ph_iload_n (pc := 25) C d_F_init_25 rfl ?_
  refine pt_F_26 (pc := 26) C d_F_init_26 hnm hL ha ?_
  refine ph_aload_n (pc := 29) C d_F_init_29 rfl ?_
  refine ph_iload_n (pc := 30) C d_F_init_30 rfl ?_
  refine pt_F_29 (pc := 31) C d_F_init_31 hnm hL ha ?_
  refine ph_aload_n (pc := 34) C d_F_init_34 rfl ?_
  refine ph_lload_n (pc := 35) C d_F_init_35 rfl ?_
  refine pt_F_32 (pc := 36) C d_F_init_36 hnm hL ha ?_
  exact ph_vret (pc := 39) C d_F_init_39 hr hlk (by decide) (by decide) ⟨rfl, rfl, rfl, rfl⟩
def rankv (t k : Int) : Int := if t = 0 then rkT k.toNat else 9
theorem ph_C.kx {p : Program} {s : State} {m : MethodId} {args : Array Value} {c : Code} {cc : ByteArray} {nL : Nat} {own : String} {Ts : List Cond} {D : va_G} {cl : List vw_C} {tys : List (ClassId × FieldType)} {A : Nat → Prop} {KX : State → Prop} (C : ph_C p s m args c cc nL own Ts D cl tys A KX) : KX s := C.2.2.2.1
set_option maxHeartbeats 4000000 in
set_option maxRecDepth 100000 in
theorem c_F_rank (l : Launch) (D : va_G) (dT : Nat → ClassId) (A : Nat → Prop) (KX : State → Prop) (L : Nat → Nat → Prop) (ad : Nat → Nat → Nat) (τ : ph_T) (i a : Nat) (hL : L 3 i) (ha : ad 3 i = a) (aR aT : Nat) (hX : ∀ U, KX U → KJ dT A aR aT U) (t k : Int) (ht : τ 3 i 3 = t) (hk : τ 3 i 0 = k) (ht2 : ph_ri t) (hk2 : 1 ≤ k ∧ k ≤ 6) : ph_M l y_F_rank (.code y_F_rank b_F_rank 1 (some .int) :: TB) ({ frames := 0, cells := 0, slots := 0, locals := 0 } : Room) D CLs (TY dT) dT kd A KX [.ref (a)] L ad τ (fun r L' ad' τ' => L' = L ∧ ad' = ad ∧ τ' = τ ∧ r = some (.int (ph_i (rankv t k)))) 0 0 := by
  refine ph_M.of (cc := b_F_rank) (maxL := 1) (ret := (some .int)) (by decide) rfl (Nat.le_of_ble_eq_true rfl) ?_
  intro p e s m below meth c C0 hr hlk hnm
  have C := C0.sub
  refine ph_loc (l2 := [(0, .ref (a))]) ⟨rfl, trivial⟩ ?_
  refine ph_aload_n (pc := 0) C d_F_rank_0 rfl ?_
  refine gt_F_9 (pc := 1) C d_F_rank_1 hL ha ht ?_
  refine ph_if_eq (pc := 4) (tgt := 12) C d_F_rank_4 (by decide) (by omega) (fun c4 => ?_) (fun c4 => ?_)
  · have hk9 := hX s C.kx
    refine ph_getsN (pc := 12) C d_F_rank_12 hk9.1.1 hk9.2.2.2 rfl ?_
    refine ph_aload_n (pc := 15) C d_F_rank_15 rfl ?_
    refine gt_F_26 (pc := 16) C d_F_rank_16 hL ha hk ?_
    refine ph_sald (pc := 19) C d_F_rank_19 hk9.1.2.1 hk9.1.2.2 rfl k.toNat (by omega) (by omega) (by decide) rfl ?_
    exact ph_iret (pc := 20) C d_F_rank_20 hr hlk rfl (by decide) (by decide) ⟨rfl, rfl, rfl, (by rw [rankv, if_pos (by omega)])⟩
  · refine ph_bipush (pc := 7) C d_F_rank_7 (by decide) ?_
    refine ph_goto (pc := 9) (tgt := 20) C d_F_rank_9 (by decide) ?_
    exact ph_iret (pc := 20) C d_F_rank_20 hr hlk rfl (by decide) (by decide) ⟨rfl, rfl, rfl, (by rw [rankv, if_neg (by omega)])⟩
end
section
/-! ===== the class's state: S pool index field, without addresses ===== -/
def LC (S : ph_T) (g i : Nat) : Prop := match g with
  | 0 => i = 0
  | 1 => (i : Int) < S 0 0 1
  | 2 => 1 ≤ i ∧ (i : Int) ≤ S 0 0 3
  | 3 => 1 ≤ i ∧ (i : Int) ≤ S 0 0 5
  | 4 => i = 0
  | 5 => i = 0
  | 6 => i = 0
  | 7 => i = 0
  | 8 => i = 0
  | 9 => i = 0
  | _ => False
def dp (g k : Nat) : Bool := match g with
  | 0 => k == 1 || k == 3 || k == 5 || k == 6 || k == 10 || k == 11
  | 1 => Nat.blt k 6
  | 2 => Nat.blt k 7
  | 3 => Nat.blt k 7
  | 7 => true
  | 8 => true
  | 9 => true
  | _ => false
def JR (S : ph_T) (o : Nat) (L : Nat → Nat → Prop) (ad : Nat → Nat → Nat) (τ : ph_T) : Prop :=
  (∀ g i : Nat, LC S g i → L g i) ∧ ad 0 0 = o ∧ (∀ g i k : Nat, LC S g i → dp g k = true → τ g i k = S g i k) ∧
  (τ 0 0 0 = (ad 4 0 : Int) ∧ τ 0 0 2 = (ad 5 0 : Int) ∧ τ 0 0 4 = (ad 6 0 : Int) ∧ τ 0 0 7 = (ad 7 0 : Int) ∧ τ 0 0 8 = (ad 8 0 : Int) ∧ τ 0 0 9 = (ad 9 0 : Int)) ∧
  (∀ i : Nat, LC S 1 i → τ 4 0 i = (ad 1 i : Int)) ∧ (∀ i : Nat, LC S 2 i → τ 5 0 i = (ad 2 i : Int)) ∧ ∀ i : Nat, LC S 3 i → τ 6 0 i = (ad 3 i : Int)
section JRS
variable {S : ph_T} {o : Nat} {L : Nat → Nat → Prop} {ad : Nat → Nat → Nat} {τ : ph_T}
theorem JR.live (h : JR S o L ad τ) {g i : Nat} (hl : LC S g i) : L g i := h.1 g i hl
theorem JR.ob (h : JR S o L ad τ) : ad 0 0 = o := h.2.1
theorem JR.dat (h : JR S o L ad τ) {g i k : Nat} (hl : LC S g i) (hd : dp g k = true) : τ g i k = S g i k := h.2.2.1 g i k hl hd
theorem JR.r0 (h : JR S o L ad τ) : τ 0 0 0 = (ad 4 0 : Int) := h.2.2.2.1.1
theorem JR.r2 (h : JR S o L ad τ) : τ 0 0 2 = (ad 5 0 : Int) := h.2.2.2.1.2.1
theorem JR.r4 (h : JR S o L ad τ) : τ 0 0 4 = (ad 6 0 : Int) := h.2.2.2.1.2.2.1
theorem JR.r7 (h : JR S o L ad τ) : τ 0 0 7 = (ad 7 0 : Int) := h.2.2.2.1.2.2.2.1
theorem JR.r8 (h : JR S o L ad τ) : τ 0 0 8 = (ad 8 0 : Int) := h.2.2.2.1.2.2.2.2.1
theorem JR.r9 (h : JR S o L ad τ) : τ 0 0 9 = (ad 9 0 : Int) := h.2.2.2.1.2.2.2.2.2
theorem JR.e4 (h : JR S o L ad τ) {i : Nat} (hl : LC S 1 i) : τ 4 0 i = (ad 1 i : Int) := h.2.2.2.2.1 i hl
theorem JR.e5 (h : JR S o L ad τ) {i : Nat} (hl : LC S 2 i) : τ 5 0 i = (ad 2 i : Int) := h.2.2.2.2.2.1 i hl
theorem JR.e6 (h : JR S o L ad τ) {i : Nat} (hl : LC S 3 i) : τ 6 0 i = (ad 3 i : Int) := h.2.2.2.2.2.2 i hl
theorem LC_up {g i k : Nat} {z : Int} (hk : ¬ (g = 0 ∧ (k = 1 ∨ k = 3 ∨ k = 5))) (g' i' : Nat) : LC (ph_up S g i k z) g' i' ↔ LC S g' i' := by
  have e1 : ph_up S g i k z 0 0 1 = S 0 0 1 := by
    unfold ph_up; rw [if_neg]; rintro ⟨h1, h2, h3⟩; exact hk ⟨h1.symm, Or.inl h3.symm⟩
  have e3 : ph_up S g i k z 0 0 3 = S 0 0 3 := by
    unfold ph_up; rw [if_neg]; rintro ⟨h1, h2, h3⟩; exact hk ⟨h1.symm, Or.inr (Or.inl h3.symm)⟩
  have e5 : ph_up S g i k z 0 0 5 = S 0 0 5 := by
    unfold ph_up; rw [if_neg]; rintro ⟨h1, h2, h3⟩; exact hk ⟨h1.symm, Or.inr (Or.inr h3.symm)⟩
  unfold LC
  split <;> simp only [e1, e3, e5]
theorem ph_up_at (τ : ph_T) (g i k : Nat) (z : Int) : ph_up τ g i k z g i k = z := by simp [ph_up]
theorem ph_up_no (τ : ph_T) {g i k g' i' k' : Nat} (z : Int) (h : ¬ (g' = g ∧ i' = i ∧ k' = k)) : ph_up τ g i k z g' i' k' = τ g' i' k' := by
  unfold ph_up
  rw [if_neg h]
/-- a number is written: the same in both -/
theorem JR.put (h : JR S o L ad τ) {g i k : Nat} (z : Int) (hd : dp g k = true) (hk : ¬ (g = 0 ∧ (k = 1 ∨ k = 3 ∨ k = 5))) : JR (ph_up S g i k z) o L ad (ph_up τ g i k z) := by
  have n0 : ∀ k', dp 0 k' = false → ∀ i', ph_up τ g i k z 0 i' k' = τ 0 i' k' := fun k' hk' i' => ph_up_no τ z (by rintro ⟨rfl, -, rfl⟩; rw [hd] at hk'; cases hk')
  have nn : ∀ g', (∀ k', dp g' k' = false) → ∀ i' k', ph_up τ g i k z g' i' k' = τ g' i' k' := fun g' hg i' k' => ph_up_no τ z (by rintro ⟨rfl, -, rfl⟩; rw [hg] at hd; cases hd)
  refine ⟨fun g' i' hl => h.1 g' i' ((LC_up hk g' i').mp hl), h.2.1, fun g' i' k' hl hd' => ?_, ⟨?_, ?_, ?_, ?_, ?_, ?_⟩, fun i' hl => ?_, fun i' hl => ?_, fun i' hl => ?_⟩
  · by_cases e : g' = g ∧ i' = i ∧ k' = k
    · obtain ⟨rfl, rfl, rfl⟩ := e
      rw [ph_up_at, ph_up_at]
    · rw [ph_up_no _ _ e, ph_up_no _ _ e]
      exact h.dat ((LC_up hk g' i').mp hl) hd'
  · rw [n0 0 rfl]; exact h.r0
  · rw [n0 2 rfl]; exact h.r2
  · rw [n0 4 rfl]; exact h.r4
  · rw [n0 7 rfl]; exact h.r7
  · rw [n0 8 rfl]; exact h.r8
  · rw [n0 9 rfl]; exact h.r9
  · rw [nn 4 (fun _ => rfl)]; exact h.e4 ((LC_up hk 1 i').mp hl)
  · rw [nn 5 (fun _ => rfl)]; exact h.e5 ((LC_up hk 2 i').mp hl)
  · rw [nn 6 (fun _ => rfl)]; exact h.e6 ((LC_up hk 3 i').mp hl)
end JRS
/-- what the numbers keep to -/
def IV (S : ph_T) : Prop :=
  (0 ≤ S 0 0 1 ∧ S 0 0 1 ≤ 8 ∧ 0 ≤ S 0 0 3 ∧ S 0 0 3 ≤ 60 ∧ 0 ≤ S 0 0 5 ∧ S 0 0 5 ≤ 40 ∧ 0 ≤ S 0 0 6 ∧ S 0 0 6 ≤ S 0 0 5 ∧ 0 ≤ S 0 0 10 ∧ S 0 0 10 ≤ 60 ∧ 0 ≤ S 0 0 11 ∧ S 0 0 11 ≤ 1000000000) ∧
  (∀ i : Nat, LC S 1 i → 100 ≤ S 1 i 0 ∧ S 1 i 0 ≤ 100000 ∧ (S 1 i 2 = 0 ∨ S 1 i 2 = 1) ∧ 0 ≤ S 1 i 3 ∧ S 1 i 3 ≤ S 0 0 3 ∧ 0 ≤ S 1 i 4 ∧ S 1 i 4 ≤ S 0 0 11 ∧ (S 1 i 5 = 0 ∨ S 1 i 5 = 1)) ∧
  (∀ i : Nat, LC S 2 i → 50 ≤ S 2 i 0 ∧ S 2 i 0 ≤ 1000 ∧ 0 ≤ S 2 i 1 ∧ S 2 i 1 ≤ 1000000000 ∧ 0 ≤ S 2 i 2 ∧ S 2 i 2 ≤ 40 ∧ (S 2 i 3 = 0 ∨ S 2 i 3 = 1) ∧ (S 2 i 4 = 0 ∨ S 2 i 4 = 1) ∧ 0 ≤ S 2 i 5 ∧ S 2 i 5 ≤ 2 ∧ 0 ≤ S 2 i 6 ∧ S 2 i 6 < 256) ∧
  (∀ i : Nat, LC S 3 i → 1 ≤ S 3 i 0 ∧ S 3 i 0 ≤ 6 ∧ -1 ≤ S 3 i 1 ∧ S 3 i 1 ≤ 7 ∧ 0 ≤ S 3 i 2 ∧ S 3 i 2 ≤ S 0 0 11 ∧ (S 3 i 3 = 0 ∨ S 3 i 3 = 1) ∧ (S 3 i 4 = 0 ∨ S 3 i 4 = 1) ∧ 0 ≤ S 3 i 5 ∧ S 3 i 5 < 2305843009213693952 ∧ 0 ≤ S 3 i 6 ∧ S 3 i 6 ≤ 3) ∧
  (∀ k : Nat, k ≤ 6 → (S 7 0 k = 0 ∨ S 7 0 k = 1) ∧ (S 8 0 k = 0 ∨ S 8 0 k = 1)) ∧
  ∀ k : Nat, (k : Int) < S 0 0 10 → 1 ≤ S 9 0 k ∧ S 9 0 k ≤ 60
theorem IV.c {S : ph_T} (h : IV S) : 0 ≤ S 0 0 1 ∧ S 0 0 1 ≤ 8 ∧ 0 ≤ S 0 0 3 ∧ S 0 0 3 ≤ 60 ∧ 0 ≤ S 0 0 5 ∧ S 0 0 5 ≤ 40 ∧ 0 ≤ S 0 0 6 ∧ S 0 0 6 ≤ S 0 0 5 ∧ 0 ≤ S 0 0 10 ∧ S 0 0 10 ≤ 60 ∧ 0 ≤ S 0 0 11 ∧ S 0 0 11 ≤ 1000000000 := h.1
theorem IV.s {S : ph_T} (h : IV S) {i : Nat} (hl : LC S 1 i) : 100 ≤ S 1 i 0 ∧ S 1 i 0 ≤ 100000 ∧ (S 1 i 2 = 0 ∨ S 1 i 2 = 1) ∧ 0 ≤ S 1 i 3 ∧ S 1 i 3 ≤ S 0 0 3 ∧ 0 ≤ S 1 i 4 ∧ S 1 i 4 ≤ S 0 0 11 ∧ (S 1 i 5 = 0 ∨ S 1 i 5 = 1) := h.2.1 i hl
theorem IV.i {S : ph_T} (h : IV S) {i : Nat} (hl : LC S 2 i) : 50 ≤ S 2 i 0 ∧ S 2 i 0 ≤ 1000 ∧ 0 ≤ S 2 i 1 ∧ S 2 i 1 ≤ 1000000000 ∧ 0 ≤ S 2 i 2 ∧ S 2 i 2 ≤ 40 ∧ (S 2 i 3 = 0 ∨ S 2 i 3 = 1) ∧ (S 2 i 4 = 0 ∨ S 2 i 4 = 1) ∧ 0 ≤ S 2 i 5 ∧ S 2 i 5 ≤ 2 ∧ 0 ≤ S 2 i 6 ∧ S 2 i 6 < 256 := h.2.2.1 i hl
theorem IV.f {S : ph_T} (h : IV S) {i : Nat} (hl : LC S 3 i) : 1 ≤ S 3 i 0 ∧ S 3 i 0 ≤ 6 ∧ -1 ≤ S 3 i 1 ∧ S 3 i 1 ≤ 7 ∧ 0 ≤ S 3 i 2 ∧ S 3 i 2 ≤ S 0 0 11 ∧ (S 3 i 3 = 0 ∨ S 3 i 3 = 1) ∧ (S 3 i 4 = 0 ∨ S 3 i 4 = 1) ∧ 0 ≤ S 3 i 5 ∧ S 3 i 5 < 2305843009213693952 ∧ 0 ≤ S 3 i 6 ∧ S 3 i 6 ≤ 3 := h.2.2.2.1 i hl
theorem IV.r {S : ph_T} (h : IV S) {k : Nat} (hk : k ≤ 6) : (S 7 0 k = 0 ∨ S 7 0 k = 1) ∧ (S 8 0 k = 0 ∨ S 8 0 k = 1) := h.2.2.2.2.1 k hk
theorem IV.l {S : ph_T} (h : IV S) {k : Nat} (hk : (k : Int) < S 0 0 10) : 1 ≤ S 9 0 k ∧ S 9 0 k ≤ 60 := h.2.2.2.2.2 k hk
end
section
/-! ===== words for what the reads answer ===== -/
def seenb (S : ph_T) (i s : Nat) : Prop := (S 2 i 6).toNat.testBit s = true
def aw (S : ph_T) (i s : Nat) : Prop := S 2 i 5 = 0 ∧ ¬ seenb S i s
noncomputable def luF (S : ph_T) (s : Nat) : Nat → Nat → Nat
  | 0, _ => 0
  | n + 1, i => @ite Nat (aw S i s) (Classical.propDecidable _) i (luF S s n (i + 1))
noncomputable def lu (S : ph_T) (s : Nat) : Nat := luF S s (S 0 0 3).toNat 1
theorem luF_t {S : ph_T} {s n i : Nat} (h : aw S i s) : luF S s (n + 1) i = i := if_pos h
theorem luF_f {S : ph_T} {s n i : Nat} (h : ¬ aw S i s) : luF S s (n + 1) i = luF S s n (i + 1) := if_neg h
def due (S : ph_T) (i s : Nat) : Int := S 2 i 1 + S 1 s 0
def coming (S : ph_T) (x : Int) (s : Nat) : Prop := (1 ≤ x ∧ x ≤ S 0 0 3) ∧ due S x.toNat s ≤ S 0 0 11 + 15
noncomputable def lenAt (S : ph_T) (s : Nat) : Int := @ite Int (1 ≤ S 1 s 3 ∧ S 1 s 3 ≤ S 0 0 3) (Classical.propDecidable _) (S 2 (S 1 s 3).toNat 0) 0
def earliest (S : ph_T) : Int := if S 0 0 3 = 0 then 0 else S 2 (S 0 0 3).toNat 1 + S 2 (S 0 0 3).toNat 0 + 30
def runs (S : ph_T) : Prop := S 0 0 5 - S 0 0 6 ≤ 5 ∧ ∀ f : Nat, S 0 0 6 < (f : Int) → (f : Int) ≤ S 0 0 5 → S 3 f 4 = 0
def nextv (S : ph_T) (f : Nat) : Int := if 3 ≤ S 3 f 6 then 0 else stT ((S 3 f 0 - 1) * 3 + S 3 f 6).toNat
def sameT (S : ph_T) (e f : Nat) : Prop := (S 3 f 0 = 6 ∧ S 3 e 0 = 6) ∨ (S 3 f 0 ≠ 6 ∧ S 3 e 1 = S 3 f 1)
def inD (S : ph_T) (i s : Nat) : Prop := S 2 i 5 = 0 ∧ ((seenb S i s ∧ S 1 s 2 ≠ 0 ∧ S 1 s 3 = (i : Int)) ∨ (¬ seenb S i s ∧ ((s = 0 ∧ S 2 i 1 ≤ S 0 0 11) ∨ (s ≠ 0 ∧ seenb S i (s - 1)))))
theorem ph_bq {P Q : Prop} (h : P ↔ Q) : (some (.int (ph_i (ph_b P))) : Option Value) = some (.int (ph_i (ph_b Q))) := by rw [propext h]
def again (S : ph_T) (f : Nat) : Prop := ∃ e : Nat, 1 ≤ e ∧ e < f ∧ S 3 f 2 - S 3 e 2 ≤ 10000 ∧ sameT S e f
noncomputable def dbF (S : ph_T) (s : Nat) : Nat → Nat → Nat → Nat
  | 0, _, acc => acc
  | n + 1, i, acc => dbF S s n (i + 1) (@ite Nat (inD S i s) (Classical.propDecidable _) (acc ||| 2 ^ i) acc)
theorem dbF_t {S : ph_T} {s n i acc : Nat} (h : inD S i s) : dbF S s (n + 1) i acc = dbF S s n (i + 1) (acc ||| 2 ^ i) := by
  show dbF S s n (i + 1) _ = _
  rw [if_pos h]
theorem dbF_f {S : ph_T} {s n i acc : Nat} (h : ¬ inD S i s) : dbF S s (n + 1) i acc = dbF S s n (i + 1) acc := by
  show dbF S s n (i + 1) _ = _
  rw [if_neg h]
noncomputable def dbm (S : ph_T) (s : Nat) : Nat := dbF S s (S 0 0 3).toNat 1 0
theorem dbF_lt {S : ph_T} {s : Nat} : ∀ (n i acc : Nat), i + n ≤ 61 → acc < 2 ^ 61 → dbF S s n i acc < 2 ^ 61
  | 0, i, acc, _, h => h
  | n + 1, i, acc, h1, h2 => by
    rcases Classical.em (inD S i s) with h | h
    · rw [dbF_t h]
      exact dbF_lt n (i + 1) _ (by omega) (Nat.or_lt_two_pow h2 (Nat.pow_lt_pow_right (by decide) (by omega)))
    · rw [dbF_f h]
      exact dbF_lt n (i + 1) _ (by omega) h2
def dbit (S : ph_T) (f i : Nat) : Prop := (S 3 f 5).toNat.testBit i = true
noncomputable def dqF (S : ph_T) (f : Nat) : Nat → Nat → Int → Int
  | 0, _, _ => -1
  | n + 1, i, t => @ite Int (dbit S f i) (Classical.propDecidable _) (if t = 0 then (i : Int) else dqF S f n (i + 1) (t + -1)) (dqF S f n (i + 1) t)
theorem dqF_f {S : ph_T} {f n i : Nat} {t : Int} (h : ¬ dbit S f i) : dqF S f (n + 1) i t = dqF S f n (i + 1) t := if_neg h
theorem dqF_t {S : ph_T} {f n i : Nat} {t : Int} (h : dbit S f i) (ht : ¬ t = 0) : dqF S f (n + 1) i t = dqF S f n (i + 1) (t + -1) := (if_pos h).trans (if_neg ht)
theorem dqF_0 {S : ph_T} {f n i : Nat} {t : Int} (h : dbit S f i) (ht : t = 0) : dqF S f (n + 1) i t = (i : Int) := (if_pos h).trans (if_pos ht)
noncomputable def doubtv (S : ph_T) (x y : Int) : Int := if ¬ (1 ≤ x ∧ x ≤ S 0 0 5) then -11 else if y < 0 then -1 else dqF S x.toNat (S 0 0 3).toNat 1 y
noncomputable def causev (S : ph_T) (x : Int) : Int := if ¬ (1 ≤ x ∧ x ≤ S 0 0 5) then -11 else if S 3 x.toNat 1 = -1 ∧ ¬ S 3 x.toNat 0 = 6 then 90 + S 3 x.toNat 0 else if ¬ S 3 x.toNat 3 = 0 then 10 * S 3 x.toNat 0 + 2 else 10 * S 3 x.toNat 0 + ph_b (again S x.toNat)
def countv (S : ph_T) (x : Int) : Int := if 0 ≤ x ∧ x < S 0 0 1 then S 1 x.toNat 1 else -11
def listv (S : ph_T) (x : Int) : Int := if 0 ≤ x ∧ x < S 0 0 10 then S 9 0 x.toNat else -1
end
section
/-! ===== reads of the class ===== -/
set_option maxHeartbeats 4000000 in
set_option maxRecDepth 100000 in
theorem c_J_isSensor (l : Launch) (D : va_G) (dT : Nat → ClassId) (A : Nat → Prop) (KX : State → Prop) (L : Nat → Nat → Prop) (ad : Nat → Nat → Nat) (τ : ph_T) (S : ph_T) (o : Nat) (hI : JR S o L ad τ) (hV : IV S) (x : Int) (hx : ph_ri x) : ph_M l y_J_isSensor (.code y_J_isSensor b_J_isSensor 2 (some .boolean) :: TB) ({ frames := 0, cells := 0, slots := 0, locals := 0 } : Room) D CLs (TY dT) dT kd A KX [.ref (o), .int (ph_i (x))] L ad τ (fun r L' ad' τ' => L' = L ∧ ad' = ad ∧ τ' = τ ∧ r = some (.int (ph_i (ph_b (0 ≤ x ∧ x < S 0 0 1))))) 0 0 := by
  refine ph_M.of (cc := b_J_isSensor) (maxL := 2) (ret := (some .boolean)) (by decide) rfl (Nat.le_of_ble_eq_true rfl) ?_
  intro p e s m below meth c C0 hr hlk hnm
  have C := C0.sub
  refine ph_loc (l2 := [(0, .ref (o)), (1, .int (ph_i (x)))]) ⟨rfl, rfl, trivial⟩ ?_
  have hc := hV.c
  refine ph_iload_n (pc := 0) C d_J_isSensor_0 rfl ?_
  refine ph_if_lt (pc := 1) (tgt := 16) C d_J_isSensor_1 (by decide) (by omega) (fun c1 => ?_) (fun c1 => ?_)
  · refine ph_iconst (pc := 16) C d_J_isSensor_16 ?_
    exact ph_iret (pc := 17) C d_J_isSensor_17 hr hlk (by decide) (by decide) (by decide) ⟨rfl, rfl, rfl, (ph_bf (by omega))⟩
  · refine ph_iload_n (pc := 4) C d_J_isSensor_4 rfl ?_
    refine ph_aload_n (pc := 5) C d_J_isSensor_5 rfl ?_
    refine gt_J_15 (pc := 6) C d_J_isSensor_6 (hI.live (g := 0) (i := 0) rfl) hI.ob (hI.dat rfl rfl) ?_
    refine ph_icmp_ge (pc := 9) (tgt := 16) C d_J_isSensor_9 (by decide) (by omega) (by omega) (fun c9 => ?_) (fun c9 => ?_)
    · refine ph_iconst (pc := 16) C d_J_isSensor_16 ?_
      exact ph_iret (pc := 17) C d_J_isSensor_17 hr hlk (by decide) (by decide) (by decide) ⟨rfl, rfl, rfl, (ph_bf (by omega))⟩
    · refine ph_iconst (pc := 12) C d_J_isSensor_12 ?_
      refine ph_goto (pc := 13) (tgt := 17) C d_J_isSensor_13 (by decide) ?_
      exact ph_iret (pc := 17) C d_J_isSensor_17 hr hlk (by decide) (by decide) (by decide) ⟨rfl, rfl, rfl, (ph_bt (by omega))⟩
set_option maxHeartbeats 4000000 in
set_option maxRecDepth 100000 in
theorem c_J_isItem (l : Launch) (D : va_G) (dT : Nat → ClassId) (A : Nat → Prop) (KX : State → Prop) (L : Nat → Nat → Prop) (ad : Nat → Nat → Nat) (τ : ph_T) (S : ph_T) (o : Nat) (hI : JR S o L ad τ) (hV : IV S) (x : Int) (hx : ph_ri x) : ph_M l y_J_isItem (.code y_J_isItem b_J_isItem 2 (some .boolean) :: TB) ({ frames := 0, cells := 0, slots := 0, locals := 0 } : Room) D CLs (TY dT) dT kd A KX [.ref (o), .int (ph_i (x))] L ad τ (fun r L' ad' τ' => L' = L ∧ ad' = ad ∧ τ' = τ ∧ r = some (.int (ph_i (ph_b (1 ≤ x ∧ x ≤ S 0 0 3))))) 0 0 := by
  refine ph_M.of (cc := b_J_isItem) (maxL := 2) (ret := (some .boolean)) (by decide) rfl (Nat.le_of_ble_eq_true rfl) ?_
  intro p e s m below meth c C0 hr hlk hnm
  have C := C0.sub
  refine ph_loc (l2 := [(0, .ref (o)), (1, .int (ph_i (x)))]) ⟨rfl, rfl, trivial⟩ ?_
  have hc := hV.c
  refine ph_iload_n (pc := 0) C d_J_isItem_0 rfl ?_
  refine ph_iconst (pc := 1) C d_J_isItem_1 ?_
  refine ph_icmp_lt (pc := 2) (tgt := 17) C d_J_isItem_2 (by decide) (by omega) (by omega) (fun c2 => ?_) (fun c2 => ?_)
  · refine ph_iconst (pc := 17) C d_J_isItem_17 ?_
    exact ph_iret (pc := 18) C d_J_isItem_18 hr hlk (by decide) (by decide) (by decide) ⟨rfl, rfl, rfl, (ph_bf (by omega))⟩
  · refine ph_iload_n (pc := 5) C d_J_isItem_5 rfl ?_
    refine ph_aload_n (pc := 6) C d_J_isItem_6 rfl ?_
    refine gt_J_25 (pc := 7) C d_J_isItem_7 (hI.live (g := 0) (i := 0) rfl) hI.ob (hI.dat rfl rfl) ?_
    refine ph_icmp_gt (pc := 10) (tgt := 17) C d_J_isItem_10 (by decide) (by omega) (by omega) (fun c10 => ?_) (fun c10 => ?_)
    · refine ph_iconst (pc := 17) C d_J_isItem_17 ?_
      exact ph_iret (pc := 18) C d_J_isItem_18 hr hlk (by decide) (by decide) (by decide) ⟨rfl, rfl, rfl, (ph_bf (by omega))⟩
    · refine ph_iconst (pc := 13) C d_J_isItem_13 ?_
      refine ph_goto (pc := 14) (tgt := 18) C d_J_isItem_14 (by decide) ?_
      exact ph_iret (pc := 18) C d_J_isItem_18 hr hlk (by decide) (by decide) (by decide) ⟨rfl, rfl, rfl, (ph_bt (by omega))⟩
set_option maxHeartbeats 4000000 in
set_option maxRecDepth 100000 in
theorem c_J_isFault (l : Launch) (D : va_G) (dT : Nat → ClassId) (A : Nat → Prop) (KX : State → Prop) (L : Nat → Nat → Prop) (ad : Nat → Nat → Nat) (τ : ph_T) (S : ph_T) (o : Nat) (hI : JR S o L ad τ) (hV : IV S) (x : Int) (hx : ph_ri x) : ph_M l y_J_isFault (.code y_J_isFault b_J_isFault 2 (some .boolean) :: TB) ({ frames := 0, cells := 0, slots := 0, locals := 0 } : Room) D CLs (TY dT) dT kd A KX [.ref (o), .int (ph_i (x))] L ad τ (fun r L' ad' τ' => L' = L ∧ ad' = ad ∧ τ' = τ ∧ r = some (.int (ph_i (ph_b (1 ≤ x ∧ x ≤ S 0 0 5))))) 0 0 := by
  refine ph_M.of (cc := b_J_isFault) (maxL := 2) (ret := (some .boolean)) (by decide) rfl (Nat.le_of_ble_eq_true rfl) ?_
  intro p e s m below meth c C0 hr hlk hnm
  have C := C0.sub
  refine ph_loc (l2 := [(0, .ref (o)), (1, .int (ph_i (x)))]) ⟨rfl, rfl, trivial⟩ ?_
  have hc := hV.c
  refine ph_iload_n (pc := 0) C d_J_isFault_0 rfl ?_
  refine ph_iconst (pc := 1) C d_J_isFault_1 ?_
  refine ph_icmp_lt (pc := 2) (tgt := 17) C d_J_isFault_2 (by decide) (by omega) (by omega) (fun c2 => ?_) (fun c2 => ?_)
  · refine ph_iconst (pc := 17) C d_J_isFault_17 ?_
    exact ph_iret (pc := 18) C d_J_isFault_18 hr hlk (by decide) (by decide) (by decide) ⟨rfl, rfl, rfl, (ph_bf (by omega))⟩
  · refine ph_iload_n (pc := 5) C d_J_isFault_5 rfl ?_
    refine ph_aload_n (pc := 6) C d_J_isFault_6 rfl ?_
    refine gt_J_34 (pc := 7) C d_J_isFault_7 (hI.live (g := 0) (i := 0) rfl) hI.ob (hI.dat rfl rfl) ?_
    refine ph_icmp_gt (pc := 10) (tgt := 17) C d_J_isFault_10 (by decide) (by omega) (by omega) (fun c10 => ?_) (fun c10 => ?_)
    · refine ph_iconst (pc := 17) C d_J_isFault_17 ?_
      exact ph_iret (pc := 18) C d_J_isFault_18 hr hlk (by decide) (by decide) (by decide) ⟨rfl, rfl, rfl, (ph_bf (by omega))⟩
    · refine ph_iconst (pc := 13) C d_J_isFault_13 ?_
      refine ph_goto (pc := 14) (tgt := 18) C d_J_isFault_14 (by decide) ?_
      exact ph_iret (pc := 18) C d_J_isFault_18 hr hlk (by decide) (by decide) (by decide) ⟨rfl, rfl, rfl, (ph_bt (by omega))⟩
set_option maxHeartbeats 4000000 in
set_option maxRecDepth 100000 in
theorem c_J_isKind (l : Launch) (D : va_G) (dT : Nat → ClassId) (A : Nat → Prop) (KX : State → Prop) (L : Nat → Nat → Prop) (ad : Nat → Nat → Nat) (τ : ph_T) (x : Int) (hx : ph_ri x) : ph_M l y_J_isKind (.code y_J_isKind b_J_isKind 1 (some .boolean) :: TB) ({ frames := 0, cells := 0, slots := 0, locals := 0 } : Room) D CLs (TY dT) dT kd A KX [.int (ph_i (x))] L ad τ (fun r L' ad' τ' => L' = L ∧ ad' = ad ∧ τ' = τ ∧ r = some (.int (ph_i (ph_b (1 ≤ x ∧ x ≤ 6))))) 0 0 := by
  refine ph_M.of (cc := b_J_isKind) (maxL := 1) (ret := (some .boolean)) (by decide) rfl (Nat.le_of_ble_eq_true rfl) ?_
  intro p e s m below meth c C0 hr hlk hnm
  have C := C0.sub
  refine ph_loc (l2 := [(0, .int (ph_i (x)))]) ⟨rfl, trivial⟩ ?_
  refine ph_iload_n (pc := 0) C d_J_isKind_0 rfl ?_
  refine ph_iconst (pc := 1) C d_J_isKind_1 ?_
  refine ph_icmp_lt (pc := 2) (tgt := 15) C d_J_isKind_2 (by decide) (by omega) (by omega) (fun c2 => ?_) (fun c2 => ?_)
  · refine ph_iconst (pc := 15) C d_J_isKind_15 ?_
    exact ph_iret (pc := 16) C d_J_isKind_16 hr hlk (by decide) (by decide) (by decide) ⟨rfl, rfl, rfl, (ph_bf (by omega))⟩
  · refine ph_iload_n (pc := 5) C d_J_isKind_5 rfl ?_
    refine ph_bipush (pc := 6) C d_J_isKind_6 (by decide) ?_
    refine ph_icmp_gt (pc := 8) (tgt := 15) C d_J_isKind_8 (by decide) (by omega) (by omega) (fun c8 => ?_) (fun c8 => ?_)
    · refine ph_iconst (pc := 15) C d_J_isKind_15 ?_
      exact ph_iret (pc := 16) C d_J_isKind_16 hr hlk (by decide) (by decide) (by decide) ⟨rfl, rfl, rfl, (ph_bf (by omega))⟩
    · refine ph_iconst (pc := 11) C d_J_isKind_11 ?_
      refine ph_goto (pc := 12) (tgt := 16) C d_J_isKind_12 (by decide) ?_
      exact ph_iret (pc := 16) C d_J_isKind_16 hr hlk (by decide) (by decide) (by decide) ⟨rfl, rfl, rfl, (ph_bt (by omega))⟩
set_option maxHeartbeats 4000000 in
set_option maxRecDepth 100000 in
theorem c_J_isTime (l : Launch) (D : va_G) (dT : Nat → ClassId) (A : Nat → Prop) (KX : State → Prop) (L : Nat → Nat → Prop) (ad : Nat → Nat → Nat) (τ : ph_T) (S : ph_T) (o : Nat) (hI : JR S o L ad τ) (hV : IV S) (x : Int) (hx : ph_rl x) : ph_M l y_J_isTime (.code y_J_isTime b_J_isTime 3 (some .boolean) :: TB) ({ frames := 0, cells := 0, slots := 0, locals := 0 } : Room) D CLs (TY dT) dT kd A KX [.ref (o), .long (ph_l (x))] L ad τ (fun r L' ad' τ' => L' = L ∧ ad' = ad ∧ τ' = τ ∧ r = some (.int (ph_i (ph_b (S 0 0 11 ≤ x ∧ x ≤ 1000000000))))) 0 0 := by
  refine ph_M.of (cc := b_J_isTime) (maxL := 3) (ret := (some .boolean)) (by decide) rfl (Nat.le_of_ble_eq_true rfl) ?_
  intro p e s m below meth c C0 hr hlk hnm
  have C := C0.sub
  refine ph_loc (l2 := [(0, .ref (o)), (1, .long (ph_l (x)))]) ⟨rfl, rfl, trivial⟩ ?_
  have hc := hV.c
  refine ph_lload_n (pc := 0) C d_J_isTime_0 rfl ?_
  refine ph_aload_n (pc := 1) C d_J_isTime_1 rfl ?_
  refine gt_J_54 (pc := 2) C d_J_isTime_2 (hI.live (g := 0) (i := 0) rfl) hI.ob (hI.dat rfl rfl) ?_
  refine ph_l_lt (pc := 5) (tgt := 21) C d_J_isTime_5 d_J_isTime_6 (by decide) (by omega) (by omega) (fun c5 => ?_) (fun c5 => ?_)
  · refine ph_iconst (pc := 21) C d_J_isTime_21 ?_
    exact ph_iret (pc := 22) C d_J_isTime_22 hr hlk (by decide) (by decide) (by decide) ⟨rfl, rfl, rfl, (ph_bf (by omega))⟩
  · refine ph_lload_n (pc := 9) C d_J_isTime_9 rfl ?_
    refine ph_ldc2 (pc := 10) C d_J_isTime_10 1000000000 (by decide) tw_105 ?_
    refine ph_l_gt (pc := 13) (tgt := 21) C d_J_isTime_13 d_J_isTime_14 (by decide) (by omega) (by omega) (fun c13 => ?_) (fun c13 => ?_)
    · refine ph_iconst (pc := 21) C d_J_isTime_21 ?_
      exact ph_iret (pc := 22) C d_J_isTime_22 hr hlk (by decide) (by decide) (by decide) ⟨rfl, rfl, rfl, (ph_bf (by omega))⟩
    · refine ph_iconst (pc := 17) C d_J_isTime_17 ?_
      refine ph_goto (pc := 18) (tgt := 22) C d_J_isTime_18 (by decide) ?_
      exact ph_iret (pc := 22) C d_J_isTime_22 hr hlk (by decide) (by decide) (by decide) ⟨rfl, rfl, rfl, (ph_bt (by omega))⟩
set_option maxHeartbeats 4000000 in
set_option maxRecDepth 100000 in
theorem c_J_dueAt (l : Launch) (D : va_G) (dT : Nat → ClassId) (A : Nat → Prop) (KX : State → Prop) (L : Nat → Nat → Prop) (ad : Nat → Nat → Nat) (τ : ph_T) (S : ph_T) (o : Nat) (hI : JR S o L ad τ) (hV : IV S) (i s0 : Nat) (hi : LC S 2 i) (hs : LC S 1 s0) : ph_M l y_J_dueAt (.code y_J_dueAt b_J_dueAt 3 (some .long) :: TB) ({ frames := 0, cells := 0, slots := 0, locals := 0 } : Room) D CLs (TY dT) dT kd A KX [.ref (o), .int (ph_i ((i : Int))), .int (ph_i ((s0 : Int)))] L ad τ (fun r L' ad' τ' => L' = L ∧ ad' = ad ∧ τ' = τ ∧ r = some (.long (ph_l (S 2 i 1 + S 1 s0 0)))) 0 0 := by
  refine ph_M.of (cc := b_J_dueAt) (maxL := 3) (ret := (some .long)) (by decide) rfl (Nat.le_of_ble_eq_true rfl) ?_
  intro p e s m below meth c C0 hr hlk hnm
  have C := C0.sub
  refine ph_loc (l2 := [(0, .ref (o)), (1, .int (ph_i ((i : Int)))), (2, .int (ph_i ((s0 : Int))))]) ⟨rfl, rfl, rfl, trivial⟩ ?_
  have hc := hV.c
  refine ph_aload_n (pc := 0) C d_J_dueAt_0 rfl ?_
  refine gt_J_21 (pc := 1) C d_J_dueAt_1 (hI.live (g := 0) (i := 0) rfl) hI.ob hI.r2 ?_
  refine ph_iload_n (pc := 4) C d_J_dueAt_4 rfl ?_
  refine ph_aald (pc := 5) (t := 1) C d_J_dueAt_5 (hI.live (g := 5) (i := 0) rfl) rfl rfl rfl i rfl (by have := hi; simp only [LC] at this; omega) (by decide) (ph_vr (hI.e5 hi)) ?_
  refine gt_J_174 (pc := 6) C d_J_dueAt_6 (hI.live hi) rfl (hI.dat hi rfl) ?_
  refine ph_aload_n (pc := 9) C d_J_dueAt_9 rfl ?_
  refine gt_J_11 (pc := 10) C d_J_dueAt_10 (hI.live (g := 0) (i := 0) rfl) hI.ob hI.r0 ?_
  refine ph_iload_n (pc := 13) C d_J_dueAt_13 rfl ?_
  refine ph_aald (pc := 14) (t := 0) C d_J_dueAt_14 (hI.live (g := 4) (i := 0) rfl) rfl rfl rfl s0 rfl (by have := hs; simp only [LC] at this; omega) (by decide) (ph_vr (hI.e4 hs)) ?_
  refine gt_J_58 (pc := 15) C d_J_dueAt_15 (hI.live hs) rfl (hI.dat hs rfl) ?_
  refine ph_ladd (pc := 18) C d_J_dueAt_18 ?_
  exact ph_lret (pc := 19) C d_J_dueAt_19 hr hlk (by decide) (by decide) ⟨rfl, rfl, rfl, rfl⟩
set_option maxHeartbeats 4000000 in
set_option maxRecDepth 100000 in
theorem c_J_isAwaited (l : Launch) (D : va_G) (dT : Nat → ClassId) (A : Nat → Prop) (KX : State → Prop) (L : Nat → Nat → Prop) (ad : Nat → Nat → Nat) (τ : ph_T) (S : ph_T) (o : Nat) (hI : JR S o L ad τ) (hV : IV S) (i s0 : Nat) (hi : LC S 2 i) (hs : LC S 1 s0) : ph_M l y_J_isAwaited (.code y_J_isAwaited b_J_isAwaited 3 (some .boolean) :: TB) ({ frames := 1, cells := 0, slots := 0, locals := 21 } : Room) D CLs (TY dT) dT kd A KX [.ref (o), .int (ph_i ((i : Int))), .int (ph_i ((s0 : Int)))] L ad τ (fun r L' ad' τ' => L' = L ∧ ad' = ad ∧ τ' = τ ∧ r = some (.int (ph_i (ph_b (aw S i s0))))) 0 0 := by
  refine ph_M.of (cc := b_J_isAwaited) (maxL := 3) (ret := (some .boolean)) (by decide) rfl (Nat.le_of_ble_eq_true rfl) ?_
  intro p e s m below meth c C0 hr hlk hnm
  have C := C0.sub
  refine ph_loc (l2 := [(0, .ref (o)), (1, .int (ph_i ((i : Int)))), (2, .int (ph_i ((s0 : Int))))]) ⟨rfl, rfl, rfl, trivial⟩ ?_
  have hc := hV.c
  refine ph_aload_n (pc := 0) C d_J_isAwaited_0 rfl ?_
  refine gt_J_21 (pc := 1) C d_J_isAwaited_1 (hI.live (g := 0) (i := 0) rfl) hI.ob hI.r2 ?_
  refine ph_iload_n (pc := 4) C d_J_isAwaited_4 rfl ?_
  refine ph_aald (pc := 5) (t := 1) C d_J_isAwaited_5 (hI.live (g := 5) (i := 0) rfl) rfl rfl rfl i rfl (by have := hi; simp only [LC] at this; omega) (by decide) (ph_vr (hI.e5 hi)) ?_
  refine ph_callV (pc := 6) (rest := []) C d_J_isAwaited_6 (c_I_isOnBelt l D dT A KX L ad τ i (ad 2 i) (hI.live hi) rfl (S 2 i 5) (hI.dat hi rfl) (by have := hV.i hi; omega)) (cwV 0 C.hts (gdV tw_214 tw_215 tw_216 tw_4 tw_217) rfl rfl rfl ⟨rfl, by decide, by decide, by decide⟩ ⟨by decide, by decide⟩) (hI.live hi) rfl rfl rfl rfl rfl rfl (by decide) ⟨by decide, by decide⟩ ?_
  rintro r1 L1 ad1 τ1 ⟨g1, g2, g3, g4⟩; obtain rfl := g1.symm; obtain rfl := g2.symm; obtain rfl := g3.symm; subst g4
  refine ph_bif_eq (pc := 9) (tgt := 29) C d_J_isAwaited_9 (by decide) (fun c9 => ?_) (fun c9 => ?_)
  · refine ph_iconst (pc := 29) C d_J_isAwaited_29 ?_
    exact ph_iret (pc := 30) C d_J_isAwaited_30 hr hlk (by decide) (by decide) (by decide) ⟨rfl, rfl, rfl, (ph_bf (fun h => by first | exact absurd h.1 (by assumption) | exact absurd (by assumption) h.2))⟩
  · refine ph_aload_n (pc := 12) C d_J_isAwaited_12 rfl ?_
    refine gt_J_21 (pc := 13) C d_J_isAwaited_13 (hI.live (g := 0) (i := 0) rfl) hI.ob hI.r2 ?_
    refine ph_iload_n (pc := 16) C d_J_isAwaited_16 rfl ?_
    refine ph_aald (pc := 17) (t := 1) C d_J_isAwaited_17 (hI.live (g := 5) (i := 0) rfl) rfl rfl rfl i rfl (by have := hi; simp only [LC] at this; omega) (by decide) (ph_vr (hI.e5 hi)) ?_
    refine ph_iload_n (pc := 18) C d_J_isAwaited_18 rfl ?_
    refine ph_callV (pc := 19) (rest := []) C d_J_isAwaited_19 (c_I_isSeenBy l D dT A KX L ad τ i (ad 2 i) (hI.live hi) rfl (S 2 i 6).toNat s0 (by rw [hI.dat hi rfl]; have := hV.i hi; omega) (by have := hV.i hi; omega) (by have := hs; simp only [LC] at this; omega)) (cwV 1 C.hts (gdV tw_218 tw_219 tw_220 tw_4 tw_221) rfl rfl rfl ⟨rfl, by decide, by decide, by decide⟩ ⟨by decide, by decide⟩) (hI.live hi) rfl rfl rfl rfl rfl rfl (by decide) ⟨by decide, by decide⟩ ?_
    rintro r1 L1 ad1 τ1 ⟨g1, g2, g3, g4⟩; obtain rfl := g1.symm; obtain rfl := g2.symm; obtain rfl := g3.symm; subst g4
    refine ph_bif_ne (pc := 22) (tgt := 29) C d_J_isAwaited_22 (by decide) (fun c22 => ?_) (fun c22 => ?_)
    · refine ph_iconst (pc := 29) C d_J_isAwaited_29 ?_
      exact ph_iret (pc := 30) C d_J_isAwaited_30 hr hlk (by decide) (by decide) (by decide) ⟨rfl, rfl, rfl, (ph_bf (fun h => by first | exact absurd h.1 (by assumption) | exact absurd (by assumption) h.2))⟩
    · refine ph_iconst (pc := 25) C d_J_isAwaited_25 ?_
      refine ph_goto (pc := 26) (tgt := 30) C d_J_isAwaited_26 (by decide) ?_
      exact ph_iret (pc := 30) C d_J_isAwaited_30 hr hlk (by decide) (by decide) (by decide) ⟨rfl, rfl, rfl, (ph_bt (⟨by assumption, by assumption⟩))⟩
set_option maxHeartbeats 4000000 in
set_option maxRecDepth 100000 in
theorem c_J_isComing (l : Launch) (D : va_G) (dT : Nat → ClassId) (A : Nat → Prop) (KX : State → Prop) (L : Nat → Nat → Prop) (ad : Nat → Nat → Nat) (τ : ph_T) (S : ph_T) (o : Nat) (hI : JR S o L ad τ) (hV : IV S) (x : Int) (hx : ph_ri x) (s0 : Nat) (hs : LC S 1 s0) : ph_M l y_J_isComing (.code y_J_isComing b_J_isComing 3 (some .boolean) :: TB) ({ frames := 1, cells := 0, slots := 0, locals := 22 } : Room) D CLs (TY dT) dT kd A KX [.ref (o), .int (ph_i (x)), .int (ph_i ((s0 : Int)))] L ad τ (fun r L' ad' τ' => L' = L ∧ ad' = ad ∧ τ' = τ ∧ r = some (.int (ph_i (ph_b (coming S x s0))))) 0 0 := by
  refine ph_M.of (cc := b_J_isComing) (maxL := 3) (ret := (some .boolean)) (by decide) rfl (Nat.le_of_ble_eq_true rfl) ?_
  intro p e s m below meth c C0 hr hlk hnm
  have C := C0.sub
  refine ph_loc (l2 := [(0, .ref (o)), (1, .int (ph_i (x))), (2, .int (ph_i ((s0 : Int))))]) ⟨rfl, rfl, rfl, trivial⟩ ?_
  have hc := hV.c
  refine ph_aload_n (pc := 0) C d_J_isComing_0 rfl ?_
  refine ph_iload_n (pc := 1) C d_J_isComing_1 rfl ?_
  refine ph_callV (pc := 2) (rest := []) C d_J_isComing_2 (c_J_isItem l D dT A KX L ad τ S o hI hV x hx) (cwV 1 C.hts (gdV tw_164 tw_166 se_5 tw_1 tw_167) rfl rfl rfl ⟨rfl, by decide, by decide, by decide⟩ ⟨by decide, by decide⟩) (hI.live (g := 0) (i := 0) rfl) hI.ob rfl rfl rfl rfl rfl (by decide) ⟨by decide, by decide⟩ ?_
  rintro r1 L1 ad1 τ1 ⟨g1, g2, g3, g4⟩; obtain rfl := g1.symm; obtain rfl := g2.symm; obtain rfl := g3.symm; subst g4
  refine ph_bif_eq (pc := 5) (tgt := 30) C d_J_isComing_5 (by decide) (fun c5 => ?_) (fun c5 => ?_)
  · refine ph_iconst (pc := 30) C d_J_isComing_30 ?_
    exact ph_iret (pc := 31) C d_J_isComing_31 hr hlk (by decide) (by decide) (by decide) ⟨rfl, rfl, rfl, (ph_bf (fun h => by first | exact absurd h.1 (by assumption) | (have h2 := h.2; unfold due at h2; simp only [Int.toNat_natCast] at h2; omega)))⟩
  · refine ph_aload_n (pc := 8) C d_J_isComing_8 rfl ?_
    refine ph_iload_n (pc := 9) C d_J_isComing_9 rfl ?_
    refine ph_iload_n (pc := 10) C d_J_isComing_10 rfl ?_
    obtain ⟨j, rfl⟩ : ∃ j : Nat, x = (j : Int) := ⟨x.toNat, by omega⟩
    refine ph_callV (pc := 11) (rest := []) C d_J_isComing_11 (c_J_dueAt l D dT A KX L ad τ S o hI hV j s0 (by simp only [LC]; omega) hs) (cwV 2 C.hts (gdV tw_234 tw_236 se_12 tw_1 tw_237) rfl rfl rfl ⟨rfl, by decide, by decide, by decide⟩ ⟨by decide, by decide⟩) (hI.live (g := 0) (i := 0) rfl) hI.ob rfl rfl rfl rfl rfl (by decide) ⟨by decide, by decide⟩ ?_
    rintro r1 L1 ad1 τ1 ⟨g1, g2, g3, g4⟩; obtain rfl := g1.symm; obtain rfl := g2.symm; obtain rfl := g3.symm; subst g4
    refine ph_aload_n (pc := 14) C d_J_isComing_14 rfl ?_
    refine gt_J_54 (pc := 15) C d_J_isComing_15 (hI.live (g := 0) (i := 0) rfl) hI.ob (hI.dat rfl rfl) ?_
    refine ph_ldc2 (pc := 18) C d_J_isComing_18 15 (by decide) tw_238 ?_
    refine ph_ladd (pc := 21) C d_J_isComing_21 ?_
    refine ph_l_gt (pc := 22) (tgt := 30) C d_J_isComing_22 d_J_isComing_23 (by decide) (by first | omega | (have h1 := hV.i (i := j) (show LC S 2 j by simp only [LC]; omega); have h2 := hV.s hs; omega)) (by first | omega | (have h1 := hV.i (i := j) (show LC S 2 j by simp only [LC]; omega); have h2 := hV.s hs; omega)) (fun c22 => ?_) (fun c22 => ?_)
    · refine ph_iconst (pc := 30) C d_J_isComing_30 ?_
      exact ph_iret (pc := 31) C d_J_isComing_31 hr hlk (by decide) (by decide) (by decide) ⟨rfl, rfl, rfl, (ph_bf (fun h => by first | exact absurd h.1 (by assumption) | (have h2 := h.2; unfold due at h2; simp only [Int.toNat_natCast] at h2; omega)))⟩
    · refine ph_iconst (pc := 26) C d_J_isComing_26 ?_
      refine ph_goto (pc := 27) (tgt := 31) C d_J_isComing_27 (by decide) ?_
      exact ph_iret (pc := 31) C d_J_isComing_31 hr hlk (by decide) (by decide) (by decide) ⟨rfl, rfl, rfl, (ph_bt (⟨by assumption, by unfold due; simp only [Int.toNat_natCast]; omega⟩))⟩
set_option maxHeartbeats 4000000 in
set_option maxRecDepth 100000 in
theorem c_J_lengthAt (l : Launch) (D : va_G) (dT : Nat → ClassId) (A : Nat → Prop) (KX : State → Prop) (L : Nat → Nat → Prop) (ad : Nat → Nat → Nat) (τ : ph_T) (S : ph_T) (o : Nat) (hI : JR S o L ad τ) (hV : IV S) (s0 : Nat) (hs : LC S 1 s0) : ph_M l y_J_lengthAt (.code y_J_lengthAt b_J_lengthAt 2 (some .long) :: TB) ({ frames := 1, cells := 0, slots := 0, locals := 21 } : Room) D CLs (TY dT) dT kd A KX [.ref (o), .ref (ad 1 s0)] L ad τ (fun r L' ad' τ' => L' = L ∧ ad' = ad ∧ τ' = τ ∧ r = some (.long (ph_l (lenAt S s0)))) 0 0 := by
  refine ph_M.of (cc := b_J_lengthAt) (maxL := 2) (ret := (some .long)) (by decide) rfl (Nat.le_of_ble_eq_true rfl) ?_
  intro p e s m below meth c C0 hr hlk hnm
  have C := C0.sub
  refine ph_loc (l2 := [(0, .ref (o)), (1, .ref (ad 1 s0))]) ⟨rfl, rfl, trivial⟩ ?_
  have hc := hV.c
  refine ph_aload_n (pc := 0) C d_J_lengthAt_0 rfl ?_
  refine ph_aload_n (pc := 1) C d_J_lengthAt_1 rfl ?_
  refine gt_J_194 (pc := 2) C d_J_lengthAt_2 (hI.live hs) rfl (hI.dat hs rfl) ?_
  refine ph_callV (pc := 5) (rest := []) C d_J_lengthAt_5 (c_J_isItem l D dT A KX L ad τ S o hI hV (S 1 s0 3) (by have := hV.s hs; omega)) (cwV 1 C.hts (gdV tw_164 tw_166 se_5 tw_1 tw_167) rfl rfl rfl ⟨rfl, by decide, by decide, by decide⟩ ⟨by decide, by decide⟩) (hI.live (g := 0) (i := 0) rfl) hI.ob rfl rfl rfl rfl rfl (by decide) ⟨by decide, by decide⟩ ?_
  rintro r1 L1 ad1 τ1 ⟨g1, g2, g3, g4⟩; obtain rfl := g1.symm; obtain rfl := g2.symm; obtain rfl := g3.symm; subst g4
  refine ph_bif_eq (pc := 8) (tgt := 26) C d_J_lengthAt_8 (by decide) (fun c8 => ?_) (fun c8 => ?_)
  · refine ph_lconst (pc := 26) C d_J_lengthAt_26 0 (by decide) ?_
    exact ph_lret (pc := 27) C d_J_lengthAt_27 hr hlk (by decide) (by decide) ⟨rfl, rfl, rfl, by first | (rw [lenAt, if_pos (by assumption)]) | (rw [lenAt, if_neg (by assumption)])⟩
  · refine ph_aload_n (pc := 11) C d_J_lengthAt_11 rfl ?_
    refine gt_J_21 (pc := 12) C d_J_lengthAt_12 (hI.live (g := 0) (i := 0) rfl) hI.ob hI.r2 ?_
    refine ph_aload_n (pc := 15) C d_J_lengthAt_15 rfl ?_
    refine gt_J_194 (pc := 16) C d_J_lengthAt_16 (hI.live hs) rfl (hI.dat hs rfl) ?_
    refine ph_aald (pc := 19) (t := 1) C d_J_lengthAt_19 (hI.live (g := 5) (i := 0) rfl) rfl rfl rfl (S 1 s0 3).toNat (by omega) (by have := (show LC S 2 (S 1 s0 3).toNat by simp only [LC]; omega); simp only [LC] at this; omega) (by decide) (ph_vr (hI.e5 (show LC S 2 (S 1 s0 3).toNat by simp only [LC]; omega))) ?_
    refine gt_J_177 (pc := 20) C d_J_lengthAt_20 (hI.live (show LC S 2 (S 1 s0 3).toNat by simp only [LC]; omega)) rfl (hI.dat (show LC S 2 (S 1 s0 3).toNat by simp only [LC]; omega) rfl) ?_
    refine ph_goto (pc := 23) (tgt := 27) C d_J_lengthAt_23 (by decide) ?_
    exact ph_lret (pc := 27) C d_J_lengthAt_27 hr hlk (by decide) (by decide) ⟨rfl, rfl, rfl, by first | (rw [lenAt, if_pos (by assumption)]) | (rw [lenAt, if_neg (by assumption)])⟩
set_option maxHeartbeats 4000000 in
set_option maxRecDepth 100000 in
theorem c_J_earliestHead (l : Launch) (D : va_G) (dT : Nat → ClassId) (A : Nat → Prop) (KX : State → Prop) (L : Nat → Nat → Prop) (ad : Nat → Nat → Nat) (τ : ph_T) (S : ph_T) (o : Nat) (hI : JR S o L ad τ) (hV : IV S)  : ph_M l y_J_earliestHead (.code y_J_earliestHead b_J_earliestHead 2 (some .long) :: TB) ({ frames := 0, cells := 0, slots := 0, locals := 0 } : Room) D CLs (TY dT) dT kd A KX [.ref (o)] L ad τ (fun r L' ad' τ' => L' = L ∧ ad' = ad ∧ τ' = τ ∧ r = some (.long (ph_l (earliest S)))) 0 0 := by
  refine ph_M.of (cc := b_J_earliestHead) (maxL := 2) (ret := (some .long)) (by decide) rfl (Nat.le_of_ble_eq_true rfl) ?_
  intro p e s m below meth c C0 hr hlk hnm
  have C := C0.sub
  refine ph_loc (l2 := [(0, .ref (o))]) ⟨rfl, trivial⟩ ?_
  have hc := hV.c
  refine ph_aload_n (pc := 0) C d_J_earliestHead_0 rfl ?_
  refine gt_J_25 (pc := 1) C d_J_earliestHead_1 (hI.live (g := 0) (i := 0) rfl) hI.ob (hI.dat rfl rfl) ?_
  refine ph_if_ne (pc := 4) (tgt := 9) C d_J_earliestHead_4 (by decide) (by omega) (fun c4 => ?_) (fun c4 => ?_)
  · refine ph_aload_n (pc := 9) C d_J_earliestHead_9 rfl ?_
    refine gt_J_21 (pc := 10) C d_J_earliestHead_10 (hI.live (g := 0) (i := 0) rfl) hI.ob hI.r2 ?_
    refine ph_aload_n (pc := 13) C d_J_earliestHead_13 rfl ?_
    refine gt_J_25 (pc := 14) C d_J_earliestHead_14 (hI.live (g := 0) (i := 0) rfl) hI.ob (hI.dat rfl rfl) ?_
    refine ph_aald (pc := 17) (t := 1) C d_J_earliestHead_17 (hI.live (g := 5) (i := 0) rfl) rfl rfl rfl (S 0 0 3).toNat (by omega) (by have := (show LC S 2 (S 0 0 3).toNat by simp only [LC]; omega); simp only [LC] at this; omega) (by decide) (ph_vr (hI.e5 (show LC S 2 (S 0 0 3).toNat by simp only [LC]; omega))) ?_
    refine ph_astore_n (pc := 18) C d_J_earliestHead_18 (by decide) rfl ?_
    refine ph_aload_n (pc := 19) C d_J_earliestHead_19 rfl ?_
    refine gt_J_174 (pc := 20) C d_J_earliestHead_20 (hI.live (show LC S 2 (S 0 0 3).toNat by simp only [LC]; omega)) rfl (hI.dat (show LC S 2 (S 0 0 3).toNat by simp only [LC]; omega) rfl) ?_
    refine ph_aload_n (pc := 23) C d_J_earliestHead_23 rfl ?_
    refine gt_J_177 (pc := 24) C d_J_earliestHead_24 (hI.live (show LC S 2 (S 0 0 3).toNat by simp only [LC]; omega)) rfl (hI.dat (show LC S 2 (S 0 0 3).toNat by simp only [LC]; omega) rfl) ?_
    refine ph_ladd (pc := 27) C d_J_earliestHead_27 ?_
    refine ph_ldc2 (pc := 28) C d_J_earliestHead_28 30 (by decide) tw_110 ?_
    refine ph_ladd (pc := 31) C d_J_earliestHead_31 ?_
    exact ph_lret (pc := 32) C d_J_earliestHead_32 hr hlk (by decide) (by decide) ⟨rfl, rfl, rfl, by first | (rw [earliest, if_pos (by assumption)]) | (rw [earliest, if_neg (by assumption)])⟩
  · refine ph_lconst (pc := 7) C d_J_earliestHead_7 0 (by decide) ?_
    exact ph_lret (pc := 8) C d_J_earliestHead_8 hr hlk (by decide) (by decide) ⟨rfl, rfl, rfl, by first | (rw [earliest, if_pos (by assumption)]) | (rw [earliest, if_neg (by assumption)])⟩
set_option maxHeartbeats 4000000 in
set_option maxRecDepth 100000 in
theorem c_J_leastUnseen (l : Launch) (D : va_G) (dT : Nat → ClassId) (A : Nat → Prop) (KX : State → Prop) (L : Nat → Nat → Prop) (ad : Nat → Nat → Nat) (τ : ph_T) (S : ph_T) (o : Nat) (hI : JR S o L ad τ) (hV : IV S) (s0 : Nat) (hs : LC S 1 s0) : ph_M l y_J_leastUnseen (.code y_J_leastUnseen b_J_leastUnseen 3 (some .int) :: TB) ({ frames := 2, cells := 0, slots := 0, locals := 43 } : Room) D CLs (TY dT) dT kd A KX [.ref (o), .int (ph_i ((s0 : Int)))] L ad τ (fun r L' ad' τ' => L' = L ∧ ad' = ad ∧ τ' = τ ∧ r = some (.int (ph_i ((lu S s0 : Nat) : Int)))) 0 0 := by
  refine ph_M.of (cc := b_J_leastUnseen) (maxL := 3) (ret := (some .int)) (by decide) rfl (Nat.le_of_ble_eq_true rfl) ?_
  intro p e s m below meth c C0 hr hlk hnm
  have C := C0.sub
  refine ph_loc (l2 := [(0, .ref (o)), (1, .int (ph_i ((s0 : Int))))]) ⟨rfl, rfl, trivial⟩ ?_
  have hc := hV.c
  have loop : ∀ (n i : Nat), 1 ≤ i → S 0 0 3 = (i : Int) + n - 1 → luF S s0 n i = lu S s0 → ph_W p l e ({ frames := 2, cells := 0, slots := 0, locals := 43 } : Room) s m [.ref (o), .int (ph_i ((s0 : Int)))].toArray below meth c D CLs dT kd A 3 (MQ below (ph_Q D CLs dT kd A (fun r L' ad' τ' => L' = L ∧ ad' = ad ∧ τ' = τ ∧ r = some (.int (ph_i ((lu S s0 : Nat) : Int))))) [.ref (o), .int (ph_i ((s0 : Int)))].toArray s 0 0 A) L ad τ 0 0 2 (ph_mk [(0, .ref (o)), (1, .int (ph_i ((s0 : Int)))), (2, .int (ph_i ((i : Int))))]) [] := by
    intro n
    induction n with
    | zero =>
      intro i h1 h2 h3
      refine ph_iload_n (pc := 2) C d_J_leastUnseen_2 rfl ?_
      refine ph_aload_n (pc := 3) C d_J_leastUnseen_3 rfl ?_
      refine gt_J_25 (pc := 4) C d_J_leastUnseen_4 (hI.live (g := 0) (i := 0) rfl) hI.ob (hI.dat rfl rfl) ?_
      refine ph_icmp_gt (pc := 7) (tgt := 27) C d_J_leastUnseen_7 (by decide) (by omega) (by omega) (fun c7 => ?_) (fun c7 => ?_)
      · refine ph_iconst (pc := 27) C d_J_leastUnseen_27 ?_
        exact ph_iret (pc := 28) C d_J_leastUnseen_28 hr hlk (by rfl) (by decide) (by decide) ⟨rfl, rfl, rfl, (by first | (rw [← h3]; rfl) | (exfalso; omega))⟩
      · refine ph_aload_n (pc := 10) C d_J_leastUnseen_10 rfl ?_
        refine ph_iload_n (pc := 11) C d_J_leastUnseen_11 rfl ?_
        refine ph_iload_n (pc := 12) C d_J_leastUnseen_12 rfl ?_
        exfalso; omega
    | succ n ih =>
      intro i h1 h2 h3
      refine ph_iload_n (pc := 2) C d_J_leastUnseen_2 rfl ?_
      refine ph_aload_n (pc := 3) C d_J_leastUnseen_3 rfl ?_
      refine gt_J_25 (pc := 4) C d_J_leastUnseen_4 (hI.live (g := 0) (i := 0) rfl) hI.ob (hI.dat rfl rfl) ?_
      refine ph_icmp_gt (pc := 7) (tgt := 27) C d_J_leastUnseen_7 (by decide) (by omega) (by omega) (fun c7 => ?_) (fun c7 => ?_)
      · refine ph_iconst (pc := 27) C d_J_leastUnseen_27 ?_
        exact ph_iret (pc := 28) C d_J_leastUnseen_28 hr hlk (by rfl) (by decide) (by decide) ⟨rfl, rfl, rfl, (by first | (rw [← h3]; rfl) | (exfalso; omega))⟩
      · refine ph_aload_n (pc := 10) C d_J_leastUnseen_10 rfl ?_
        refine ph_iload_n (pc := 11) C d_J_leastUnseen_11 rfl ?_
        refine ph_iload_n (pc := 12) C d_J_leastUnseen_12 rfl ?_
        refine ph_callV (pc := 13) (rest := []) C d_J_leastUnseen_13 (c_J_isAwaited l D dT A KX L ad τ S o hI hV i s0 (show LC S 2 i by simp only [LC]; omega) hs) (cwV 2 C.hts (gdV tw_230 tw_232 se_11 tw_1 tw_233) rfl rfl rfl ⟨rfl, by decide, by decide, by decide⟩ ⟨by decide, by decide⟩) (hI.live (g := 0) (i := 0) rfl) hI.ob rfl rfl rfl rfl rfl (by decide) ⟨by decide, by decide⟩ ?_
        rintro r1 L1 ad1 τ1 ⟨g1, g2, g3, g4⟩; obtain rfl := g1.symm; obtain rfl := g2.symm; obtain rfl := g3.symm; subst g4
        refine ph_bif_eq (pc := 16) (tgt := 21) C d_J_leastUnseen_16 (by decide) (fun c16 => ?_) (fun c16 => ?_)
        · refine ph_iinc (pc := 21) C d_J_leastUnseen_21 rfl rfl ?_
          refine ph_goto (pc := 24) (tgt := 2) C d_J_leastUnseen_24 (by decide) ?_
          refine ph_loc (l2 := [(0, .ref (o)), (1, .int (ph_i ((s0 : Int)))), (2, .int (ph_i (((i + 1 : Nat) : Int))))]) ⟨rfl, rfl, rfl, trivial⟩ ?_
          exact ih (i + 1) (by omega) (by omega) (by rw [← h3, luF_f (by assumption)])
        · refine ph_iload_n (pc := 19) C d_J_leastUnseen_19 rfl ?_
          exact ph_iret (pc := 20) C d_J_leastUnseen_20 hr hlk (by rfl) (by decide) (by decide) ⟨rfl, rfl, rfl, (by rw [← h3, luF_t (by assumption)])⟩
  refine ph_iconst (pc := 0) C d_J_leastUnseen_0 ?_
  refine ph_istore_n (pc := 1) C d_J_leastUnseen_1 (by decide) rfl ?_
  refine ph_loc (l2 := [(0, .ref (o)), (1, .int (ph_i ((s0 : Int)))), (2, .int (ph_i (((1 : Nat) : Int))))]) ⟨rfl, rfl, rfl, trivial⟩ ?_
  exact loop (S 0 0 3).toNat 1 (by omega) (by omega) rfl
set_option maxHeartbeats 4000000 in
set_option maxRecDepth 100000 in
theorem c_J_nextStep (l : Launch) (D : va_G) (dT : Nat → ClassId) (A : Nat → Prop) (KX : State → Prop) (L : Nat → Nat → Prop) (ad : Nat → Nat → Nat) (τ : ph_T) (S : ph_T) (o : Nat) (hI : JR S o L ad τ) (hV : IV S) (aR aT : Nat) (hX : ∀ U, KX U → KJ dT A aR aT U) (f0 : Nat) (hf : LC S 3 f0) : ph_M l y_J_nextStep (.code y_J_nextStep b_J_nextStep 1 (some .int) :: TB) ({ frames := 0, cells := 0, slots := 0, locals := 0 } : Room) D CLs (TY dT) dT kd A KX [.ref (ad 3 f0)] L ad τ (fun r L' ad' τ' => L' = L ∧ ad' = ad ∧ τ' = τ ∧ r = some (.int (ph_i (nextv S f0)))) 0 0 := by
  refine ph_M.of (cc := b_J_nextStep) (maxL := 1) (ret := (some .int)) (by decide) rfl (Nat.le_of_ble_eq_true rfl) ?_
  intro p e s m below meth c C0 hr hlk hnm
  have C := C0.sub
  refine ph_loc (l2 := [(0, .ref (ad 3 f0))]) ⟨rfl, trivial⟩ ?_
  have hc := hV.c
  have hf9 := hV.f hf
  refine ph_aload_n (pc := 0) C d_J_nextStep_0 rfl ?_
  refine gt_J_127 (pc := 1) C d_J_nextStep_1 (hI.live hf) rfl (hI.dat hf rfl) ?_
  refine ph_iconst (pc := 4) C d_J_nextStep_4 ?_
  refine ph_icmp_lt (pc := 5) (tgt := 10) C d_J_nextStep_5 (by decide) (by omega) (by omega) (fun c5 => ?_) (fun c5 => ?_)
  · have hk9 := hX s C.kx
    refine ph_gets (pc := 10) C d_J_nextStep_10 hk9.2.1.1 tw_307 rfl ?_
    refine ph_aload_n (pc := 13) C d_J_nextStep_13 rfl ?_
    refine gt_J_114 (pc := 14) C d_J_nextStep_14 (hI.live hf) rfl (hI.dat hf rfl) ?_
    refine ph_iconst (pc := 17) C d_J_nextStep_17 ?_
    refine ph_isub (pc := 18) C d_J_nextStep_18 ?_
    refine ph_iconst (pc := 19) C d_J_nextStep_19 ?_
    refine ph_imul (pc := 20) C d_J_nextStep_20 ?_
    refine ph_aload_n (pc := 21) C d_J_nextStep_21 rfl ?_
    refine gt_J_127 (pc := 22) C d_J_nextStep_22 (hI.live hf) rfl (hI.dat hf rfl) ?_
    refine ph_iadd (pc := 25) C d_J_nextStep_25 ?_
    refine ph_sald (pc := 26) C d_J_nextStep_26 hk9.2.1.2.1 hk9.2.1.2.2 rfl ((S 3 f0 0 - 1) * 3 + S 3 f0 6).toNat (by omega) (by omega) (by decide) rfl ?_
    exact ph_iret (pc := 27) C d_J_nextStep_27 hr hlk (by rfl) (by decide) (by decide) ⟨rfl, rfl, rfl, (by rw [nextv, if_neg (by omega)])⟩
  · refine ph_iconst (pc := 8) C d_J_nextStep_8 ?_
    exact ph_iret (pc := 9) C d_J_nextStep_9 hr hlk (by rfl) (by decide) (by decide) ⟨rfl, rfl, rfl, (by rw [nextv, if_pos (by omega)])⟩
set_option maxHeartbeats 4000000 in
set_option maxRecDepth 100000 in
theorem c_J_isSameTrouble (l : Launch) (D : va_G) (dT : Nat → ClassId) (A : Nat → Prop) (KX : State → Prop) (L : Nat → Nat → Prop) (ad : Nat → Nat → Nat) (τ : ph_T) (S : ph_T) (o : Nat) (hI : JR S o L ad τ) (hV : IV S) (e0 f0 : Nat) (he : LC S 3 e0) (hf : LC S 3 f0) : ph_M l y_J_isSameTrouble (.code y_J_isSameTrouble b_J_isSameTrouble 2 (some .boolean) :: TB) ({ frames := 0, cells := 0, slots := 0, locals := 0 } : Room) D CLs (TY dT) dT kd A KX [.ref (ad 3 e0), .ref (ad 3 f0)] L ad τ (fun r L' ad' τ' => L' = L ∧ ad' = ad ∧ τ' = τ ∧ r = some (.int (ph_i (ph_b (sameT S e0 f0))))) 0 0 := by
  refine ph_M.of (cc := b_J_isSameTrouble) (maxL := 2) (ret := (some .boolean)) (by decide) rfl (Nat.le_of_ble_eq_true rfl) ?_
  intro p e s m below meth c C0 hr hlk hnm
  have C := C0.sub
  refine ph_loc (l2 := [(0, .ref (ad 3 e0)), (1, .ref (ad 3 f0))]) ⟨rfl, rfl, trivial⟩ ?_
  have hc := hV.c
  have hf9 := hV.f hf
  have he9 := hV.f he
  refine ph_aload_n (pc := 0) C d_J_isSameTrouble_0 rfl ?_
  refine gt_J_114 (pc := 1) C d_J_isSameTrouble_1 (hI.live hf) rfl (hI.dat hf rfl) ?_
  refine ph_bipush (pc := 4) C d_J_isSameTrouble_4 (by decide) ?_
  refine ph_icmp_ne (pc := 6) (tgt := 26) C d_J_isSameTrouble_6 (by decide) (by omega) (by omega) (fun c6 => ?_) (fun c6 => ?_)
  · refine ph_aload_n (pc := 26) C d_J_isSameTrouble_26 rfl ?_
    refine gt_J_111 (pc := 27) C d_J_isSameTrouble_27 (hI.live he) rfl (hI.dat he rfl) ?_
    refine ph_aload_n (pc := 30) C d_J_isSameTrouble_30 rfl ?_
    refine gt_J_111 (pc := 31) C d_J_isSameTrouble_31 (hI.live hf) rfl (hI.dat hf rfl) ?_
    refine ph_icmp_ne (pc := 34) (tgt := 41) C d_J_isSameTrouble_34 (by decide) (by omega) (by omega) (fun c34 => ?_) (fun c34 => ?_)
    · refine ph_iconst (pc := 41) C d_J_isSameTrouble_41 ?_
      exact ph_iret (pc := 42) C d_J_isSameTrouble_42 hr hlk (by decide) (by decide) (by decide) ⟨rfl, rfl, rfl, (ph_bf (by unfold sameT; omega))⟩
    · refine ph_iconst (pc := 37) C d_J_isSameTrouble_37 ?_
      refine ph_goto (pc := 38) (tgt := 42) C d_J_isSameTrouble_38 (by decide) ?_
      exact ph_iret (pc := 42) C d_J_isSameTrouble_42 hr hlk (by decide) (by decide) (by decide) ⟨rfl, rfl, rfl, (ph_bt (by unfold sameT; omega))⟩
  · refine ph_aload_n (pc := 9) C d_J_isSameTrouble_9 rfl ?_
    refine gt_J_114 (pc := 10) C d_J_isSameTrouble_10 (hI.live he) rfl (hI.dat he rfl) ?_
    refine ph_bipush (pc := 13) C d_J_isSameTrouble_13 (by decide) ?_
    refine ph_icmp_ne (pc := 15) (tgt := 22) C d_J_isSameTrouble_15 (by decide) (by omega) (by omega) (fun c15 => ?_) (fun c15 => ?_)
    · refine ph_iconst (pc := 22) C d_J_isSameTrouble_22 ?_
      refine ph_goto (pc := 23) (tgt := 42) C d_J_isSameTrouble_23 (by decide) ?_
      exact ph_iret (pc := 42) C d_J_isSameTrouble_42 hr hlk (by decide) (by decide) (by decide) ⟨rfl, rfl, rfl, (ph_bf (by unfold sameT; omega))⟩
    · refine ph_iconst (pc := 18) C d_J_isSameTrouble_18 ?_
      refine ph_goto (pc := 19) (tgt := 42) C d_J_isSameTrouble_19 (by decide) ?_
      exact ph_iret (pc := 42) C d_J_isSameTrouble_42 hr hlk (by decide) (by decide) (by decide) ⟨rfl, rfl, rfl, (ph_bt (by unfold sameT; omega))⟩
set_option maxHeartbeats 4000000 in
set_option maxRecDepth 100000 in
theorem c_J_isInDoubt (l : Launch) (D : va_G) (dT : Nat → ClassId) (A : Nat → Prop) (KX : State → Prop) (L : Nat → Nat → Prop) (ad : Nat → Nat → Nat) (τ : ph_T) (S : ph_T) (o : Nat) (hI : JR S o L ad τ) (hV : IV S) (i s0 : Nat) (hi : LC S 2 i) (hs : LC S 1 s0) : ph_M l y_J_isInDoubt (.code y_J_isInDoubt b_J_isInDoubt 4 (some .boolean) :: TB) ({ frames := 1, cells := 0, slots := 0, locals := 21 } : Room) D CLs (TY dT) dT kd A KX [.ref (o), .int (ph_i ((i : Int))), .int (ph_i ((s0 : Int)))] L ad τ (fun r L' ad' τ' => L' = L ∧ ad' = ad ∧ τ' = τ ∧ r = some (.int (ph_i (ph_b (inD S i s0))))) 0 0 := by
  refine ph_M.of (cc := b_J_isInDoubt) (maxL := 4) (ret := (some .boolean)) (by decide) rfl (Nat.le_of_ble_eq_true rfl) ?_
  intro p e s m below meth c C0 hr hlk hnm
  have C := C0.sub
  refine ph_loc (l2 := [(0, .ref (o)), (1, .int (ph_i ((i : Int)))), (2, .int (ph_i ((s0 : Int))))]) ⟨rfl, rfl, rfl, trivial⟩ ?_
  have hc := hV.c
  have hi9 := hV.i hi
  have hs9 := hV.s hs
  have hi8 := id hi
  have hs8 := id hs
  simp only [LC] at hi8 hs8
  refine ph_aload_n (pc := 0) C d_J_isInDoubt_0 rfl ?_
  refine gt_J_21 (pc := 1) C d_J_isInDoubt_1 (hI.live (g := 0) (i := 0) rfl) hI.ob hI.r2 ?_
  refine ph_iload_n (pc := 4) C d_J_isInDoubt_4 rfl ?_
  refine ph_aald (pc := 5) (t := 1) C d_J_isInDoubt_5 (hI.live (g := 5) (i := 0) rfl) rfl rfl rfl i rfl (by have := hi; simp only [LC] at this; omega) (by decide) (ph_vr (hI.e5 hi)) ?_
  refine ph_astore_n (pc := 6) C d_J_isInDoubt_6 (by decide) rfl ?_
  refine ph_aload_n (pc := 7) C d_J_isInDoubt_7 rfl ?_
  refine ph_callV (pc := 8) (rest := []) C d_J_isInDoubt_8 (c_I_isOnBelt l D dT A KX L ad τ i (ad 2 i) (hI.live hi) rfl (S 2 i 5) (hI.dat hi rfl) (by have := hV.i hi; omega)) (cwV 0 C.hts (gdV tw_214 tw_215 tw_216 tw_4 tw_217) rfl rfl rfl ⟨rfl, by decide, by decide, by decide⟩ ⟨by decide, by decide⟩) (hI.live hi) rfl rfl rfl rfl rfl rfl (by decide) ⟨by decide, by decide⟩ ?_
  rintro r1 L1 ad1 τ1 ⟨g1, g2, g3, g4⟩; obtain rfl := g1.symm; obtain rfl := g2.symm; obtain rfl := g3.symm; subst g4
  refine ph_bif_ne (pc := 11) (tgt := 16) C d_J_isInDoubt_11 (by decide) (fun c11 => ?_) (fun c11 => ?_)
  · refine ph_aload_n (pc := 16) C d_J_isInDoubt_16 rfl ?_
    refine ph_iload_n (pc := 17) C d_J_isInDoubt_17 rfl ?_
    refine ph_callV (pc := 18) (rest := []) C d_J_isInDoubt_18 (c_I_isSeenBy l D dT A KX L ad τ i (ad 2 i) (hI.live hi) rfl (S 2 i 6).toNat s0 (by rw [hI.dat hi rfl]; have := hV.i hi; omega) (by have := hV.i hi; omega) (by have := hs; simp only [LC] at this; omega)) (cwV 1 C.hts (gdV tw_218 tw_219 tw_220 tw_4 tw_221) rfl rfl rfl ⟨rfl, by decide, by decide, by decide⟩ ⟨by decide, by decide⟩) (hI.live hi) rfl rfl rfl rfl rfl rfl (by decide) ⟨by decide, by decide⟩ ?_
    rintro r1 L1 ad1 τ1 ⟨g1, g2, g3, g4⟩; obtain rfl := g1.symm; obtain rfl := g2.symm; obtain rfl := g3.symm; subst g4
    refine ph_bif_eq (pc := 21) (tgt := 55) C d_J_isInDoubt_21 (by decide) (fun c21 => ?_) (fun c21 => ?_)
    · refine ph_iload_n (pc := 55) C d_J_isInDoubt_55 rfl ?_
      refine ph_if_ne (pc := 56) (tgt := 79) C d_J_isInDoubt_56 (by decide) (by omega) (fun c56 => ?_) (fun c56 => ?_)
      · refine ph_aload_n (pc := 79) C d_J_isInDoubt_79 rfl ?_
        refine ph_iload_n (pc := 80) C d_J_isInDoubt_80 rfl ?_
        refine ph_iconst (pc := 81) C d_J_isInDoubt_81 ?_
        refine ph_isub (pc := 82) C d_J_isInDoubt_82 ?_
        obtain ⟨q0, rfl⟩ : ∃ q0 : Nat, s0 = q0 + 1 := ⟨s0 - 1, by omega⟩
        rw [show (((q0 + 1 : Nat) : Int) - 1) = (q0 : Int) by omega]
        refine ph_callV (pc := 83) (rest := []) C d_J_isInDoubt_83 (c_I_isSeenBy l D dT A KX L ad τ i (ad 2 i) (hI.live hi) rfl (S 2 i 6).toNat q0 (by rw [hI.dat hi rfl]; have := hV.i hi; omega) (by have := hV.i hi; omega) (by omega)) (cwV 1 C.hts (gdV tw_218 tw_219 tw_220 tw_4 tw_221) rfl rfl rfl ⟨rfl, by decide, by decide, by decide⟩ ⟨by decide, by decide⟩) (hI.live hi) rfl rfl rfl rfl rfl rfl (by decide) ⟨by decide, by decide⟩ ?_
        rintro r1 L1 ad1 τ1 ⟨g1, g2, g3, g4⟩; obtain rfl := g1.symm; obtain rfl := g2.symm; obtain rfl := g3.symm; subst g4
        exact ph_iret (pc := 86) C d_J_isInDoubt_86 hr hlk (ph_nb _) (by decide) (by decide) ⟨rfl, rfl, rfl, (ph_bq (by unfold inD seenb; simp only [Nat.add_sub_cancel]; grind))⟩
      · refine ph_aload_n (pc := 59) C d_J_isInDoubt_59 rfl ?_
        refine gt_J_174 (pc := 60) C d_J_isInDoubt_60 (hI.live hi) rfl (hI.dat hi rfl) ?_
        refine ph_aload_n (pc := 63) C d_J_isInDoubt_63 rfl ?_
        refine gt_J_54 (pc := 64) C d_J_isInDoubt_64 (hI.live (g := 0) (i := 0) rfl) hI.ob (hI.dat rfl rfl) ?_
        refine ph_l_gt (pc := 67) (tgt := 75) C d_J_isInDoubt_67 d_J_isInDoubt_68 (by decide) (by omega) (by omega) (fun c67 => ?_) (fun c67 => ?_)
        · refine ph_iconst (pc := 75) C d_J_isInDoubt_75 ?_
          refine ph_goto (pc := 76) (tgt := 86) C d_J_isInDoubt_76 (by decide) ?_
          exact ph_iret (pc := 86) C d_J_isInDoubt_86 hr hlk (by decide) (by decide) (by decide) ⟨rfl, rfl, rfl, (ph_bf (by unfold inD seenb; grind))⟩
        · refine ph_iconst (pc := 71) C d_J_isInDoubt_71 ?_
          refine ph_goto (pc := 72) (tgt := 86) C d_J_isInDoubt_72 (by decide) ?_
          exact ph_iret (pc := 86) C d_J_isInDoubt_86 hr hlk (by decide) (by decide) (by decide) ⟨rfl, rfl, rfl, (ph_bt (by unfold inD seenb; grind))⟩
    · refine ph_aload_n (pc := 24) C d_J_isInDoubt_24 rfl ?_
      refine gt_J_11 (pc := 25) C d_J_isInDoubt_25 (hI.live (g := 0) (i := 0) rfl) hI.ob hI.r0 ?_
      refine ph_iload_n (pc := 28) C d_J_isInDoubt_28 rfl ?_
      refine ph_aald (pc := 29) (t := 0) C d_J_isInDoubt_29 (hI.live (g := 4) (i := 0) rfl) rfl rfl rfl s0 rfl (by have := hs; simp only [LC] at this; omega) (by decide) (ph_vr (hI.e4 hs)) ?_
      refine gt_J_91 (pc := 30) C d_J_isInDoubt_30 (hI.live hs) rfl (hI.dat hs rfl) ?_
      refine ph_if_eq (pc := 33) (tgt := 53) C d_J_isInDoubt_33 (by decide) (by omega) (fun c33 => ?_) (fun c33 => ?_)
      · refine ph_iconst (pc := 53) C d_J_isInDoubt_53 ?_
        exact ph_iret (pc := 54) C d_J_isInDoubt_54 hr hlk (by decide) (by decide) (by decide) ⟨rfl, rfl, rfl, (ph_bf (by unfold inD seenb; grind))⟩
      · refine ph_aload_n (pc := 36) C d_J_isInDoubt_36 rfl ?_
        refine gt_J_11 (pc := 37) C d_J_isInDoubt_37 (hI.live (g := 0) (i := 0) rfl) hI.ob hI.r0 ?_
        refine ph_iload_n (pc := 40) C d_J_isInDoubt_40 rfl ?_
        refine ph_aald (pc := 41) (t := 0) C d_J_isInDoubt_41 (hI.live (g := 4) (i := 0) rfl) rfl rfl rfl s0 rfl (by have := hs; simp only [LC] at this; omega) (by decide) (ph_vr (hI.e4 hs)) ?_
        refine gt_J_194 (pc := 42) C d_J_isInDoubt_42 (hI.live hs) rfl (hI.dat hs rfl) ?_
        refine ph_iload_n (pc := 45) C d_J_isInDoubt_45 rfl ?_
        refine ph_icmp_ne (pc := 46) (tgt := 53) C d_J_isInDoubt_46 (by decide) (by omega) (by omega) (fun c46 => ?_) (fun c46 => ?_)
        · refine ph_iconst (pc := 53) C d_J_isInDoubt_53 ?_
          exact ph_iret (pc := 54) C d_J_isInDoubt_54 hr hlk (by decide) (by decide) (by decide) ⟨rfl, rfl, rfl, (ph_bf (by unfold inD seenb; grind))⟩
        · refine ph_iconst (pc := 49) C d_J_isInDoubt_49 ?_
          refine ph_goto (pc := 50) (tgt := 54) C d_J_isInDoubt_50 (by decide) ?_
          exact ph_iret (pc := 54) C d_J_isInDoubt_54 hr hlk (by decide) (by decide) (by decide) ⟨rfl, rfl, rfl, (ph_bt (by unfold inD seenb; grind))⟩
  · refine ph_iconst (pc := 14) C d_J_isInDoubt_14 ?_
    exact ph_iret (pc := 15) C d_J_isInDoubt_15 hr hlk (by decide) (by decide) (by decide) ⟨rfl, rfl, rfl, (ph_bf (by unfold inD seenb; grind))⟩
end
section
/-! ===== more reads of the class ===== -/
set_option maxHeartbeats 4000000 in
set_option maxRecDepth 100000 in
theorem c_J_goesOn (l : Launch) (D : va_G) (dT : Nat → ClassId) (A : Nat → Prop) (KX : State → Prop) (L : Nat → Nat → Prop) (ad : Nat → Nat → Nat) (τ : ph_T) (S : ph_T) (o : Nat) (hI : JR S o L ad τ) (hV : IV S)  : ph_M l y_J_goesOn (.code y_J_goesOn b_J_goesOn 2 (some .boolean) :: TB) ({ frames := 0, cells := 0, slots := 0, locals := 0 } : Room) D CLs (TY dT) dT kd A KX [.ref (o)] L ad τ (fun r L' ad' τ' => L' = L ∧ ad' = ad ∧ τ' = τ ∧ r = some (.int (ph_i (ph_b (runs S))))) 0 0 := by
  refine ph_M.of (cc := b_J_goesOn) (maxL := 2) (ret := (some .boolean)) (by decide) rfl (Nat.le_of_ble_eq_true rfl) ?_
  intro p e s m below meth c C0 hr hlk hnm
  have C := C0.sub
  refine ph_loc (l2 := [(0, .ref (o))]) ⟨rfl, trivial⟩ ?_
  have hc := hV.c
  have loop : ∀ (n : Nat) (i : Nat), S 0 0 5 - S 0 0 6 ≤ 5 → S 0 0 6 < (i : Int) → S 0 0 5 = (i : Int) + n - 1 → (∀ f : Nat, S 0 0 6 < (f : Int) → (f : Int) < (i : Int) → S 3 f 4 = 0) → ph_W p l e ({ frames := 0, cells := 0, slots := 0, locals := 0 } : Room) s m [.ref (o)].toArray below meth c D CLs dT kd A 2 (MQ below (ph_Q D CLs dT kd A (fun r L' ad' τ' => L' = L ∧ ad' = ad ∧ τ' = τ ∧ r = some (.int (ph_i (ph_b (runs S)))))) [.ref (o)].toArray s 0 0 A) L ad τ 0 0 22 (ph_mk [(0, .ref (o)), (1, .int (ph_i ((i : Int))))]) [] := by
    intro n
    induction n with
    | zero =>
      intro i h0 h1 h2 h3
      refine ph_iload_n (pc := 22) C d_J_goesOn_22 rfl ?_
      refine ph_aload_n (pc := 23) C d_J_goesOn_23 rfl ?_
      refine gt_J_34 (pc := 24) C d_J_goesOn_24 (hI.live (g := 0) (i := 0) rfl) hI.ob (hI.dat rfl rfl) ?_
      refine ph_icmp_gt (pc := 27) (tgt := 50) C d_J_goesOn_27 (by decide) (by first | omega | (have := hV.f (show LC S 3 i by simp only [LC]; omega); omega)) (by first | omega | (have := hV.f (show LC S 3 i by simp only [LC]; omega); omega)) (fun c27 => ?_) (fun c27 => ?_)
      · refine ph_iconst (pc := 50) C d_J_goesOn_50 ?_
        exact ph_iret (pc := 51) C d_J_goesOn_51 hr hlk (by decide) (by decide) (by decide) ⟨rfl, rfl, rfl, (ph_bt (⟨by omega, fun f h1 h2 => by first | exact h3 f h1 (by omega) | omega⟩))⟩
      · exfalso; omega
    | succ n ih =>
      intro i h0 h1 h2 h3
      refine ph_iload_n (pc := 22) C d_J_goesOn_22 rfl ?_
      refine ph_aload_n (pc := 23) C d_J_goesOn_23 rfl ?_
      refine gt_J_34 (pc := 24) C d_J_goesOn_24 (hI.live (g := 0) (i := 0) rfl) hI.ob (hI.dat rfl rfl) ?_
      refine ph_icmp_gt (pc := 27) (tgt := 50) C d_J_goesOn_27 (by decide) (by first | omega | (have := hV.f (show LC S 3 i by simp only [LC]; omega); omega)) (by first | omega | (have := hV.f (show LC S 3 i by simp only [LC]; omega); omega)) (fun c27 => ?_) (fun c27 => ?_)
      · exfalso; omega
      · refine ph_aload_n (pc := 30) C d_J_goesOn_30 rfl ?_
        refine gt_J_30 (pc := 31) C d_J_goesOn_31 (hI.live (g := 0) (i := 0) rfl) hI.ob hI.r4 ?_
        refine ph_iload_n (pc := 34) C d_J_goesOn_34 rfl ?_
        refine ph_aald (pc := 35) (t := 2) C d_J_goesOn_35 (hI.live (g := 6) (i := 0) rfl) rfl rfl rfl i rfl (by have := (show LC S 3 i by simp only [LC]; omega); simp only [LC] at this; omega) (by decide) (ph_vr (hI.e6 (show LC S 3 i by simp only [LC]; omega))) ?_
        refine gt_J_169 (pc := 36) C d_J_goesOn_36 (hI.live (show LC S 3 i by simp only [LC]; omega)) rfl (hI.dat (show LC S 3 i by simp only [LC]; omega) rfl) ?_
        refine ph_if_eq (pc := 39) (tgt := 44) C d_J_goesOn_39 (by decide) (by first | omega | (have := hV.f (show LC S 3 i by simp only [LC]; omega); omega)) (fun c39 => ?_) (fun c39 => ?_)
        · refine ph_iinc (pc := 44) C d_J_goesOn_44 rfl rfl ?_
          refine ph_goto (pc := 47) (tgt := 22) C d_J_goesOn_47 (by decide) ?_
          refine ph_loc (l2 := [(0, .ref (o)), (1, .int (ph_i (((i + 1 : Nat) : Int))))]) ⟨rfl, rfl, trivial⟩ ?_
          exact ih (i + 1) h0 (by omega) (by omega) (fun f q1 q2 => (Nat.lt_or_ge f i).elim (fun q => h3 f q1 (by omega)) (fun q => by rw [show f = i by omega]; assumption))
        · refine ph_iconst (pc := 42) C d_J_goesOn_42 ?_
          exact ph_iret (pc := 43) C d_J_goesOn_43 hr hlk (by decide) (by decide) (by decide) ⟨rfl, rfl, rfl, (ph_bf (fun h => by first | (have := h.1; omega) | exact absurd (h.2 i (by omega) (by omega)) (by assumption)))⟩
  refine ph_aload_n (pc := 0) C d_J_goesOn_0 rfl ?_
  refine gt_J_34 (pc := 1) C d_J_goesOn_1 (hI.live (g := 0) (i := 0) rfl) hI.ob (hI.dat rfl rfl) ?_
  refine ph_aload_n (pc := 4) C d_J_goesOn_4 rfl ?_
  refine gt_J_37 (pc := 5) C d_J_goesOn_5 (hI.live (g := 0) (i := 0) rfl) hI.ob (hI.dat rfl rfl) ?_
  refine ph_isub (pc := 8) C d_J_goesOn_8 ?_
  refine ph_iconst (pc := 9) C d_J_goesOn_9 ?_
  refine ph_icmp_le (pc := 10) (tgt := 15) C d_J_goesOn_10 (by decide) (by omega) (by omega) (fun c10 => ?_) (fun c10 => ?_)
  · refine ph_aload_n (pc := 15) C d_J_goesOn_15 rfl ?_
    refine gt_J_37 (pc := 16) C d_J_goesOn_16 (hI.live (g := 0) (i := 0) rfl) hI.ob (hI.dat rfl rfl) ?_
    refine ph_iconst (pc := 19) C d_J_goesOn_19 ?_
    refine ph_iadd (pc := 20) C d_J_goesOn_20 ?_
    refine ph_istore_n (pc := 21) C d_J_goesOn_21 (by decide) rfl ?_
    refine ph_loc (l2 := [(0, .ref (o)), (1, .int (ph_i ((((S 0 0 6).toNat + 1 : Nat) : Int))))]) ⟨rfl, (congrArg (fun z => some (Value.int (ph_i z))) (show (S 0 0 6 + 1 : Int) = (((S 0 0 6).toNat + 1 : Nat) : Int) by omega)), trivial⟩ ?_
    exact loop (S 0 0 5 - S 0 0 6).toNat ((S 0 0 6).toNat + 1) (by omega) (by omega) (by omega) (fun f q1 q2 => by omega)
  · refine ph_iconst (pc := 13) C d_J_goesOn_13 ?_
    exact ph_iret (pc := 14) C d_J_goesOn_14 hr hlk (by decide) (by decide) (by decide) ⟨rfl, rfl, rfl, (ph_bf (fun h => by first | (have := h.1; omega) | exact absurd (h.2 i (by omega) (by omega)) (by assumption)))⟩
set_option maxHeartbeats 4000000 in
set_option maxRecDepth 100000 in
theorem c_J_cameAgain (l : Launch) (D : va_G) (dT : Nat → ClassId) (A : Nat → Prop) (KX : State → Prop) (L : Nat → Nat → Prop) (ad : Nat → Nat → Nat) (τ : ph_T) (S : ph_T) (o : Nat) (hI : JR S o L ad τ) (hV : IV S) (f0 : Nat) (hf : LC S 3 f0) : ph_M l y_J_cameAgain (.code y_J_cameAgain b_J_cameAgain 4 (some .boolean) :: TB) ({ frames := 1, cells := 0, slots := 0, locals := 21 } : Room) D CLs (TY dT) dT kd A KX [.ref (o), .int (ph_i ((f0 : Int)))] L ad τ (fun r L' ad' τ' => L' = L ∧ ad' = ad ∧ τ' = τ ∧ r = some (.int (ph_i (ph_b (again S f0))))) 0 0 := by
  refine ph_M.of (cc := b_J_cameAgain) (maxL := 4) (ret := (some .boolean)) (by decide) rfl (Nat.le_of_ble_eq_true rfl) ?_
  intro p e s m below meth c C0 hr hlk hnm
  have C := C0.sub
  refine ph_loc (l2 := [(0, .ref (o)), (1, .int (ph_i ((f0 : Int))))]) ⟨rfl, rfl, trivial⟩ ?_
  have hc := hV.c
  have hf9 := hV.f hf
  have hf8 := id hf
  simp only [LC] at hf8
  have loop : ∀ (n : Nat) (i : Nat), 1 ≤ i → (f0 : Int) = (i : Int) + n → (∀ e9 : Nat, 1 ≤ e9 → e9 < i → ¬ (S 3 f0 2 - S 3 e9 2 ≤ 10000 ∧ sameT S e9 f0)) → ph_W p l e ({ frames := 1, cells := 0, slots := 0, locals := 21 } : Room) s m [.ref (o), .int (ph_i ((f0 : Int)))].toArray below meth c D CLs dT kd A 4 (MQ below (ph_Q D CLs dT kd A (fun r L' ad' τ' => L' = L ∧ ad' = ad ∧ τ' = τ ∧ r = some (.int (ph_i (ph_b (again S f0)))))) [.ref (o), .int (ph_i ((f0 : Int)))].toArray s 0 0 A) L ad τ 0 0 9 (ph_mk [(0, .ref (o)), (1, .int (ph_i ((f0 : Int)))), (2, .ref (ad 3 f0)), (3, .int (ph_i ((i : Int))))]) [] := by
    intro n
    induction n with
    | zero =>
      intro i h1 h2 h3
      refine ph_iload_n (pc := 9) C d_J_cameAgain_9 rfl ?_
      refine ph_iload_n (pc := 10) C d_J_cameAgain_10 rfl ?_
      refine ph_icmp_ge (pc := 11) (tgt := 56) C d_J_cameAgain_11 (by decide) (by first | omega | (have := hV.f (show LC S 3 i by have := hf; simp only [LC] at this ⊢; omega); omega)) (by first | omega | (have := hV.f (show LC S 3 i by have := hf; simp only [LC] at this ⊢; omega); omega)) (fun c11 => ?_) (fun c11 => ?_)
      · refine ph_iconst (pc := 56) C d_J_cameAgain_56 ?_
        exact ph_iret (pc := 57) C d_J_cameAgain_57 hr hlk (by decide) (by decide) (by decide) ⟨rfl, rfl, rfl, (ph_bf (fun h => by first | (obtain ⟨e9, q1, q2, q3, q4⟩ := h; exact h3 e9 q1 (by omega) ⟨q3, q4⟩) | (exfalso; omega)))⟩
      · exfalso; omega
    | succ n ih =>
      intro i h1 h2 h3
      refine ph_iload_n (pc := 9) C d_J_cameAgain_9 rfl ?_
      refine ph_iload_n (pc := 10) C d_J_cameAgain_10 rfl ?_
      refine ph_icmp_ge (pc := 11) (tgt := 56) C d_J_cameAgain_11 (by decide) (by first | omega | (have := hV.f (show LC S 3 i by have := hf; simp only [LC] at this ⊢; omega); omega)) (by first | omega | (have := hV.f (show LC S 3 i by have := hf; simp only [LC] at this ⊢; omega); omega)) (fun c11 => ?_) (fun c11 => ?_)
      · exfalso; omega
      · refine ph_aload_n (pc := 14) C d_J_cameAgain_14 rfl ?_
        refine gt_J_163 (pc := 15) C d_J_cameAgain_15 (hI.live hf) rfl (hI.dat hf rfl) ?_
        refine ph_aload_n (pc := 18) C d_J_cameAgain_18 rfl ?_
        refine gt_J_30 (pc := 19) C d_J_cameAgain_19 (hI.live (g := 0) (i := 0) rfl) hI.ob hI.r4 ?_
        refine ph_iload_n (pc := 22) C d_J_cameAgain_22 rfl ?_
        refine ph_aald (pc := 23) (t := 2) C d_J_cameAgain_23 (hI.live (g := 6) (i := 0) rfl) rfl rfl rfl i rfl (by have := (show LC S 3 i by have := hf; simp only [LC] at this ⊢; omega); simp only [LC] at this; omega) (by decide) (ph_vr (hI.e6 (show LC S 3 i by have := hf; simp only [LC] at this ⊢; omega))) ?_
        refine gt_J_163 (pc := 24) C d_J_cameAgain_24 (hI.live (show LC S 3 i by have := hf; simp only [LC] at this ⊢; omega)) rfl (hI.dat (show LC S 3 i by have := hf; simp only [LC] at this ⊢; omega) rfl) ?_
        refine ph_lsub (pc := 27) C d_J_cameAgain_27 ?_
        refine ph_ldc2 (pc := 28) C d_J_cameAgain_28 10000 (by decide) tw_296 ?_
        refine ph_l_gt (pc := 31) (tgt := 50) C d_J_cameAgain_31 d_J_cameAgain_32 (by decide) (by first | omega | (have := hV.f (show LC S 3 i by have := hf; simp only [LC] at this ⊢; omega); omega)) (by first | omega | (have := hV.f (show LC S 3 i by have := hf; simp only [LC] at this ⊢; omega); omega)) (fun c31 => ?_) (fun c31 => ?_)
        · refine ph_iinc (pc := 50) C d_J_cameAgain_50 rfl rfl ?_
          refine ph_goto (pc := 53) (tgt := 9) C d_J_cameAgain_53 (by decide) ?_
          refine ph_loc (l2 := [(0, .ref (o)), (1, .int (ph_i ((f0 : Int)))), (2, .ref (ad 3 f0)), (3, .int (ph_i (((i + 1 : Nat) : Int))))]) ⟨rfl, rfl, rfl, rfl, trivial⟩ ?_
          exact ih (i + 1) (by omega) (by omega) (fun e9 q1 q2 q3 => (Nat.lt_or_ge e9 i).elim (fun q => h3 e9 q1 q q3) (fun q => by (have e8 : e9 = i := (by omega)); subst e8; first | exact absurd q3.2 (by assumption) | omega))
        · refine ph_aload_n (pc := 35) C d_J_cameAgain_35 rfl ?_
          refine gt_J_30 (pc := 36) C d_J_cameAgain_36 (hI.live (g := 0) (i := 0) rfl) hI.ob hI.r4 ?_
          refine ph_iload_n (pc := 39) C d_J_cameAgain_39 rfl ?_
          refine ph_aald (pc := 40) (t := 2) C d_J_cameAgain_40 (hI.live (g := 6) (i := 0) rfl) rfl rfl rfl i rfl (by have := (show LC S 3 i by have := hf; simp only [LC] at this ⊢; omega); simp only [LC] at this; omega) (by decide) (ph_vr (hI.e6 (show LC S 3 i by have := hf; simp only [LC] at this ⊢; omega))) ?_
          refine ph_aload_n (pc := 41) C d_J_cameAgain_41 rfl ?_
          refine ph_callS (pc := 42) (rest := []) C d_J_cameAgain_42 (c_J_isSameTrouble l D dT A KX L ad τ S o hI hV i f0 (show LC S 3 i by have := hf; simp only [LC] at this ⊢; omega) hf) (cwS 2 C.hts (gdS tw_297 tw_298 tw_1 tw_299) rfl rfl rfl ⟨rfl, by decide, by decide, by decide⟩ ⟨by decide, by decide⟩) rfl rfl (by decide) ⟨by decide, by decide⟩ ?_
          rintro r1 L1 ad1 τ1 ⟨g1, g2, g3, g4⟩; obtain rfl := g1.symm; obtain rfl := g2.symm; obtain rfl := g3.symm; subst g4
          refine ph_bif_eq (pc := 45) (tgt := 50) C d_J_cameAgain_45 (by decide) (fun c45 => ?_) (fun c45 => ?_)
          · refine ph_iinc (pc := 50) C d_J_cameAgain_50 rfl rfl ?_
            refine ph_goto (pc := 53) (tgt := 9) C d_J_cameAgain_53 (by decide) ?_
            refine ph_loc (l2 := [(0, .ref (o)), (1, .int (ph_i ((f0 : Int)))), (2, .ref (ad 3 f0)), (3, .int (ph_i (((i + 1 : Nat) : Int))))]) ⟨rfl, rfl, rfl, rfl, trivial⟩ ?_
            exact ih (i + 1) (by omega) (by omega) (fun e9 q1 q2 q3 => (Nat.lt_or_ge e9 i).elim (fun q => h3 e9 q1 q q3) (fun q => by (have e8 : e9 = i := (by omega)); subst e8; first | exact absurd q3.2 (by assumption) | omega))
          · refine ph_iconst (pc := 48) C d_J_cameAgain_48 ?_
            exact ph_iret (pc := 49) C d_J_cameAgain_49 hr hlk (by decide) (by decide) (by decide) ⟨rfl, rfl, rfl, (ph_bt (⟨i, by omega, by omega, by omega, by assumption⟩))⟩
  refine ph_aload_n (pc := 0) C d_J_cameAgain_0 rfl ?_
  refine gt_J_30 (pc := 1) C d_J_cameAgain_1 (hI.live (g := 0) (i := 0) rfl) hI.ob hI.r4 ?_
  refine ph_iload_n (pc := 4) C d_J_cameAgain_4 rfl ?_
  refine ph_aald (pc := 5) (t := 2) C d_J_cameAgain_5 (hI.live (g := 6) (i := 0) rfl) rfl rfl rfl f0 rfl (by have := hf; simp only [LC] at this; omega) (by decide) (ph_vr (hI.e6 hf)) ?_
  refine ph_astore_n (pc := 6) C d_J_cameAgain_6 (by decide) rfl ?_
  refine ph_iconst (pc := 7) C d_J_cameAgain_7 ?_
  refine ph_istore_n (pc := 8) C d_J_cameAgain_8 (by decide) rfl ?_
  refine ph_loc (l2 := [(0, .ref (o)), (1, .int (ph_i ((f0 : Int)))), (2, .ref (ad 3 f0)), (3, .int (ph_i (((1 : Nat) : Int))))]) ⟨rfl, rfl, rfl, rfl, trivial⟩ ?_
  exact loop (f0 - 1) 1 (by omega) (by omega) (fun e9 q1 q2 => by omega)
set_option maxHeartbeats 4000000 in
set_option maxRecDepth 100000 in
theorem c_J_doubtAt (l : Launch) (D : va_G) (dT : Nat → ClassId) (A : Nat → Prop) (KX : State → Prop) (L : Nat → Nat → Prop) (ad : Nat → Nat → Nat) (τ : ph_T) (S : ph_T) (o : Nat) (hI : JR S o L ad τ) (hV : IV S) (s0 : Nat) (hs : LC S 1 s0) : ph_M l y_J_doubtAt (.code y_J_doubtAt b_J_doubtAt 5 (some .long) :: TB) ({ frames := 2, cells := 0, slots := 0, locals := 44 } : Room) D CLs (TY dT) dT kd A KX [.ref (o), .int (ph_i ((s0 : Int)))] L ad τ (fun r L' ad' τ' => L' = L ∧ ad' = ad ∧ τ' = τ ∧ r = some (.long (ph_l ((dbm S s0 : Nat) : Int)))) 0 0 := by
  refine ph_M.of (cc := b_J_doubtAt) (maxL := 5) (ret := (some .long)) (by decide) rfl (Nat.le_of_ble_eq_true rfl) ?_
  intro p e s m below meth c C0 hr hlk hnm
  have C := C0.sub
  refine ph_loc (l2 := [(0, .ref (o)), (1, .int (ph_i ((s0 : Int))))]) ⟨rfl, rfl, trivial⟩ ?_
  have hc := hV.c
  have hs9 := id hs
  simp only [LC] at hs9
  have loop : ∀ (n : Nat) (i acc : Nat), 1 ≤ i → S 0 0 3 = (i : Int) + n - 1 → dbF S s0 n i acc = dbm S s0 → ph_W p l e ({ frames := 2, cells := 0, slots := 0, locals := 44 } : Room) s m [.ref (o), .int (ph_i ((s0 : Int)))].toArray below meth c D CLs dT kd A 5 (MQ below (ph_Q D CLs dT kd A (fun r L' ad' τ' => L' = L ∧ ad' = ad ∧ τ' = τ ∧ r = some (.long (ph_l ((dbm S s0 : Nat) : Int))))) [.ref (o), .int (ph_i ((s0 : Int)))].toArray s 0 0 A) L ad τ 0 0 13 (ph_mk [(0, .ref (o)), (1, .int (ph_i ((s0 : Int)))), (2, .long (ph_l ((acc : Int)))), (4, .int (ph_i ((i : Int))))]) [] := by
    intro n
    induction n with
    | zero =>
      intro i acc h1 h2 h3
      refine ph_iload (pc := 13) C d_J_doubtAt_13 rfl ?_
      refine ph_aload_n (pc := 15) C d_J_doubtAt_15 rfl ?_
      refine gt_J_25 (pc := 16) C d_J_doubtAt_16 (hI.live (g := 0) (i := 0) rfl) hI.ob (hI.dat rfl rfl) ?_
      refine ph_icmp_gt (pc := 19) (tgt := 45) C d_J_doubtAt_19 (by decide) (by omega) (by omega) (fun c19 => ?_) (fun c19 => ?_)
      · refine ph_lload_n (pc := 45) C d_J_doubtAt_45 rfl ?_
        exact ph_lret (pc := 46) C d_J_doubtAt_46 hr hlk (by decide) (by decide) ⟨rfl, rfl, rfl, by first | (rw [← h3]; rfl) | (exfalso; omega)⟩
      · exfalso; omega
    | succ n ih =>
      intro i acc h1 h2 h3
      refine ph_iload (pc := 13) C d_J_doubtAt_13 rfl ?_
      refine ph_aload_n (pc := 15) C d_J_doubtAt_15 rfl ?_
      refine gt_J_25 (pc := 16) C d_J_doubtAt_16 (hI.live (g := 0) (i := 0) rfl) hI.ob (hI.dat rfl rfl) ?_
      refine ph_icmp_gt (pc := 19) (tgt := 45) C d_J_doubtAt_19 (by decide) (by omega) (by omega) (fun c19 => ?_) (fun c19 => ?_)
      · exfalso; omega
      · refine ph_aload_n (pc := 22) C d_J_doubtAt_22 rfl ?_
        refine ph_iload (pc := 23) C d_J_doubtAt_23 rfl ?_
        refine ph_iload_n (pc := 25) C d_J_doubtAt_25 rfl ?_
        refine ph_callV (pc := 26) (rest := []) C d_J_doubtAt_26 (c_J_isInDoubt l D dT A KX L ad τ S o hI hV i s0 (show LC S 2 i by simp only [LC]; omega) hs) (cwV 2 C.hts (gdV tw_210 tw_212 se_8 tw_1 tw_213) rfl rfl rfl ⟨rfl, by decide, by decide, by decide⟩ ⟨by decide, by decide⟩) (hI.live (g := 0) (i := 0) rfl) hI.ob rfl rfl rfl rfl rfl (by decide) ⟨by decide, by decide⟩ ?_
        rintro r1 L1 ad1 τ1 ⟨g1, g2, g3, g4⟩; obtain rfl := g1.symm; obtain rfl := g2.symm; obtain rfl := g3.symm; subst g4
        refine ph_bif_eq (pc := 29) (tgt := 39) C d_J_doubtAt_29 (by decide) (fun c29 => ?_) (fun c29 => ?_)
        · refine ph_iinc (pc := 39) C d_J_doubtAt_39 rfl rfl ?_
          refine ph_goto (pc := 42) (tgt := 13) C d_J_doubtAt_42 (by decide) ?_
          refine ph_loc (l2 := [(0, .ref (o)), (1, .int (ph_i ((s0 : Int)))), (2, .long (ph_l ((acc : Int)))), (4, .int (ph_i (((i + 1 : Nat) : Int))))]) ⟨rfl, rfl, rfl, rfl, trivial⟩ ?_
          exact ih (i + 1) acc (by omega) (by omega) (by rw [← h3, dbF_f (by assumption)])
        · refine ph_lload_n (pc := 32) C d_J_doubtAt_32 rfl ?_
          refine ph_lconst (pc := 33) C d_J_doubtAt_33 1 (by decide) ?_
          refine ph_iload (pc := 34) C d_J_doubtAt_34 rfl ?_
          refine ph_lshl (pc := 36) C d_J_doubtAt_36 ((2 ^ i : Nat) : Int) (pb_lshl1 (by omega)) ?_
          refine ph_lor (pc := 37) C d_J_doubtAt_37 ((acc ||| 2 ^ i : Nat) : Int) (pb_lor acc (2 ^ i)) ?_
          refine ph_lstore_n (pc := 38) C d_J_doubtAt_38 (by decide) rfl ?_
          refine ph_iinc (pc := 39) C d_J_doubtAt_39 rfl rfl ?_
          refine ph_goto (pc := 42) (tgt := 13) C d_J_doubtAt_42 (by decide) ?_
          refine ph_loc (l2 := [(0, .ref (o)), (1, .int (ph_i ((s0 : Int)))), (2, .long (ph_l (((acc ||| 2 ^ i : Nat) : Int)))), (4, .int (ph_i (((i + 1 : Nat) : Int))))]) ⟨rfl, rfl, rfl, rfl, trivial⟩ ?_
          exact ih (i + 1) (acc ||| 2 ^ i) (by omega) (by omega) (by rw [← h3, dbF_t (by assumption)])
  refine ph_lconst (pc := 0) C d_J_doubtAt_0 0 (by decide) ?_
  refine ph_lstore_n (pc := 1) C d_J_doubtAt_1 (by decide) rfl ?_
  refine ph_aload_n (pc := 2) C d_J_doubtAt_2 rfl ?_
  refine ph_iload_n (pc := 3) C d_J_doubtAt_3 rfl ?_
  refine ph_callV (pc := 4) (rest := []) C d_J_doubtAt_4 (c_J_isSensor l D dT A KX L ad τ S o hI hV (s0 : Int) (by omega)) (cwV 1 C.hts (gdV tw_151 tw_153 se_2 tw_1 tw_154) rfl rfl rfl ⟨rfl, by decide, by decide, by decide⟩ ⟨by decide, by decide⟩) (hI.live (g := 0) (i := 0) rfl) hI.ob rfl rfl rfl rfl rfl (by decide) ⟨by decide, by decide⟩ ?_
  rintro r1 L1 ad1 τ1 ⟨g1, g2, g3, g4⟩; obtain rfl := g1.symm; obtain rfl := g2.symm; obtain rfl := g3.symm; subst g4
  refine ph_bif_eq (pc := 7) (tgt := 45) C d_J_doubtAt_7 (by decide) (fun c7 => ?_) (fun c7 => ?_)
  · refine ph_lload_n (pc := 45) C d_J_doubtAt_45 rfl ?_
    exact ph_lret (pc := 46) C d_J_doubtAt_46 hr hlk (by decide) (by decide) ⟨rfl, rfl, rfl, by first | (rw [← h3]; rfl) | (exfalso; omega)⟩
  · refine ph_iconst (pc := 10) C d_J_doubtAt_10 ?_
    refine ph_istore (pc := 11) C d_J_doubtAt_11 (by decide) rfl ?_
    refine ph_loc (l2 := [(0, .ref (o)), (1, .int (ph_i ((s0 : Int)))), (2, .long (ph_l (((0 : Nat) : Int)))), (4, .int (ph_i (((1 : Nat) : Int))))]) ⟨rfl, rfl, rfl, rfl, trivial⟩ ?_
    exact loop (S 0 0 3).toNat 1 0 (by omega) (by omega) rfl
set_option maxHeartbeats 4000000 in
set_option maxRecDepth 100000 in
theorem c_J_doubtAtN (l : Launch) (D : va_G) (dT : Nat → ClassId) (A : Nat → Prop) (KX : State → Prop) (L : Nat → Nat → Prop) (ad : Nat → Nat → Nat) (τ : ph_T) (S : ph_T) (o : Nat) (hI : JR S o L ad τ) (hV : IV S) (x : Int) (hx : ph_ri x) (hn : ¬ (0 ≤ x ∧ x < S 0 0 1)) : ph_M l y_J_doubtAt (.code y_J_doubtAt b_J_doubtAt 5 (some .long) :: TB) ({ frames := 2, cells := 0, slots := 0, locals := 44 } : Room) D CLs (TY dT) dT kd A KX [.ref (o), .int (ph_i (x))] L ad τ (fun r L' ad' τ' => L' = L ∧ ad' = ad ∧ τ' = τ ∧ r = some (.long (ph_l 0))) 0 0 := by
  refine ph_M.of (cc := b_J_doubtAt) (maxL := 5) (ret := (some .long)) (by decide) rfl (Nat.le_of_ble_eq_true rfl) ?_
  intro p e s m below meth c C0 hr hlk hnm
  have C := C0.sub
  refine ph_loc (l2 := [(0, .ref (o)), (1, .int (ph_i (x)))]) ⟨rfl, rfl, trivial⟩ ?_
  have hc := hV.c
  refine ph_lconst (pc := 0) C d_J_doubtAt_0 0 (by decide) ?_
  refine ph_lstore_n (pc := 1) C d_J_doubtAt_1 (by decide) rfl ?_
  refine ph_aload_n (pc := 2) C d_J_doubtAt_2 rfl ?_
  refine ph_iload_n (pc := 3) C d_J_doubtAt_3 rfl ?_
  refine ph_callV (pc := 4) (rest := []) C d_J_doubtAt_4 (c_J_isSensor l D dT A KX L ad τ S o hI hV x hx) (cwV 1 C.hts (gdV tw_151 tw_153 se_2 tw_1 tw_154) rfl rfl rfl ⟨rfl, by decide, by decide, by decide⟩ ⟨by decide, by decide⟩) (hI.live (g := 0) (i := 0) rfl) hI.ob rfl rfl rfl rfl rfl (by decide) ⟨by decide, by decide⟩ ?_
  rintro r1 L1 ad1 τ1 ⟨g1, g2, g3, g4⟩; obtain rfl := g1.symm; obtain rfl := g2.symm; obtain rfl := g3.symm; subst g4
  refine ph_bif_eq (pc := 7) (tgt := 45) C d_J_doubtAt_7 (by decide) (fun c7 => ?_) (fun c7 => ?_)
  · refine ph_lload_n (pc := 45) C d_J_doubtAt_45 rfl ?_
    exact ph_lret (pc := 46) C d_J_doubtAt_46 hr hlk (by decide) (by decide) ⟨rfl, rfl, rfl, rfl⟩
  · exact absurd c7 hn
set_option maxHeartbeats 4000000 in
set_option maxRecDepth 100000 in
theorem c_J_listed (l : Launch) (D : va_G) (dT : Nat → ClassId) (A : Nat → Prop) (KX : State → Prop) (L : Nat → Nat → Prop) (ad : Nat → Nat → Nat) (τ : ph_T) (S : ph_T) (o : Nat) (hI : JR S o L ad τ) (hV : IV S) (x : Int) (hx : ph_ri x) : ph_M l y_J_listed (.code y_J_listed b_J_listed 2 (some .int) :: TB) ({ frames := 0, cells := 0, slots := 0, locals := 0 } : Room) D CLs (TY dT) dT kd A KX [.ref (o), .int (ph_i (x))] L ad τ (fun r L' ad' τ' => L' = L ∧ ad' = ad ∧ τ' = τ ∧ r = some (.int (ph_i (listv S x)))) 0 0 := by
  refine ph_M.of (cc := b_J_listed) (maxL := 2) (ret := (some .int)) (by decide) rfl (Nat.le_of_ble_eq_true rfl) ?_
  intro p e s m below meth c C0 hr hlk hnm
  have C := C0.sub
  refine ph_loc (l2 := [(0, .ref (o)), (1, .int (ph_i (x)))]) ⟨rfl, rfl, trivial⟩ ?_
  have hc := hV.c
  refine ph_iload_n (pc := 0) C d_J_listed_0 rfl ?_
  refine ph_if_lt (pc := 1) (tgt := 21) C d_J_listed_1 (by decide) (by omega) (fun c1 => ?_) (fun c1 => ?_)
  · refine ph_iconst (pc := 21) C d_J_listed_21 ?_
    exact ph_iret (pc := 22) C d_J_listed_22 hr hlk (by rfl) (by decide) (by decide) ⟨rfl, rfl, rfl, (by rw [listv, if_neg (by omega)])⟩
  · refine ph_iload_n (pc := 4) C d_J_listed_4 rfl ?_
    refine ph_aload_n (pc := 5) C d_J_listed_5 rfl ?_
    refine gt_J_51 (pc := 6) C d_J_listed_6 (hI.live (g := 0) (i := 0) rfl) hI.ob (hI.dat rfl rfl) ?_
    refine ph_icmp_ge (pc := 9) (tgt := 21) C d_J_listed_9 (by decide) (by omega) (by omega) (fun c9 => ?_) (fun c9 => ?_)
    · refine ph_iconst (pc := 21) C d_J_listed_21 ?_
      exact ph_iret (pc := 22) C d_J_listed_22 hr hlk (by rfl) (by decide) (by decide) ⟨rfl, rfl, rfl, (by rw [listv, if_neg (by omega)])⟩
    · refine ph_aload_n (pc := 12) C d_J_listed_12 rfl ?_
      refine gt_J_47 (pc := 13) C d_J_listed_13 (hI.live (g := 0) (i := 0) rfl) hI.ob hI.r9 ?_
      refine ph_iload_n (pc := 16) C d_J_listed_16 rfl ?_
      refine ph_iald (pc := 17) C d_J_listed_17 (hI.live (g := 9) (i := 0) rfl) rfl rfl rfl x.toNat (by omega) (by omega) (by decide) ?_
      rw [hI.dat (g := 9) (i := 0) (k := x.toNat) rfl rfl]
      refine ph_goto (pc := 18) (tgt := 22) C d_J_listed_18 (by decide) ?_
      exact ph_iret (pc := 22) C d_J_listed_22 hr hlk (by rfl) (by decide) (by decide) ⟨rfl, rfl, rfl, (by rw [listv, if_pos (by omega)])⟩
set_option maxHeartbeats 4000000 in
set_option maxRecDepth 100000 in
theorem c_J_count (l : Launch) (D : va_G) (dT : Nat → ClassId) (A : Nat → Prop) (KX : State → Prop) (L : Nat → Nat → Prop) (ad : Nat → Nat → Nat) (τ : ph_T) (S : ph_T) (o : Nat) (hI : JR S o L ad τ) (hV : IV S) (x : Int) (hx : ph_ri x) : ph_M l y_J_count (.code y_J_count b_J_count 2 (some .int) :: TB) ({ frames := 1, cells := 0, slots := 0, locals := 21 } : Room) D CLs (TY dT) dT kd A KX [.ref (o), .int (ph_i (x))] L ad τ (fun r L' ad' τ' => L' = L ∧ ad' = ad ∧ τ' = τ ∧ r = some (.int (ph_i (countv S x)))) 0 0 := by
  refine ph_M.of (cc := b_J_count) (maxL := 2) (ret := (some .int)) (by decide) rfl (Nat.le_of_ble_eq_true rfl) ?_
  intro p e s m below meth c C0 hr hlk hnm
  have C := C0.sub
  refine ph_loc (l2 := [(0, .ref (o)), (1, .int (ph_i (x)))]) ⟨rfl, rfl, trivial⟩ ?_
  have hc := hV.c
  refine ph_aload_n (pc := 0) C d_J_count_0 rfl ?_
  refine ph_iload_n (pc := 1) C d_J_count_1 rfl ?_
  refine ph_callV (pc := 2) (rest := []) C d_J_count_2 (c_J_isSensor l D dT A KX L ad τ S o hI hV x hx) (cwV 1 C.hts (gdV tw_151 tw_153 se_2 tw_1 tw_154) rfl rfl rfl ⟨rfl, by decide, by decide, by decide⟩ ⟨by decide, by decide⟩) (hI.live (g := 0) (i := 0) rfl) hI.ob rfl rfl rfl rfl rfl (by decide) ⟨by decide, by decide⟩ ?_
  rintro r1 L1 ad1 τ1 ⟨g1, g2, g3, g4⟩; obtain rfl := g1.symm; obtain rfl := g2.symm; obtain rfl := g3.symm; subst g4
  refine ph_bif_eq (pc := 5) (tgt := 20) C d_J_count_5 (by decide) (fun c5 => ?_) (fun c5 => ?_)
  · refine ph_bipush (pc := 20) C d_J_count_20 (by decide) ?_
    exact ph_iret (pc := 22) C d_J_count_22 hr hlk (by rfl) (by decide) (by decide) ⟨rfl, rfl, rfl, (by rw [countv, if_neg (by assumption)])⟩
  · refine ph_aload_n (pc := 8) C d_J_count_8 rfl ?_
    refine gt_J_11 (pc := 9) C d_J_count_9 (hI.live (g := 0) (i := 0) rfl) hI.ob hI.r0 ?_
    refine ph_iload_n (pc := 12) C d_J_count_12 rfl ?_
    refine ph_aald (pc := 13) (t := 0) C d_J_count_13 (hI.live (g := 4) (i := 0) rfl) rfl rfl rfl x.toNat (by omega) (by have := (show LC S 1 x.toNat by simp only [LC]; omega); simp only [LC] at this; omega) (by decide) (ph_vr (hI.e4 (show LC S 1 x.toNat by simp only [LC]; omega))) ?_
    refine gt_J_166 (pc := 14) C d_J_count_14 (hI.live (show LC S 1 x.toNat by simp only [LC]; omega)) rfl (hI.dat (show LC S 1 x.toNat by simp only [LC]; omega) rfl) ?_
    refine ph_goto (pc := 17) (tgt := 22) C d_J_count_17 (by decide) ?_
    exact ph_iret (pc := 22) C d_J_count_22 hr hlk (by rfl) (by decide) (by decide) ⟨rfl, rfl, rfl, (by rw [countv, if_pos (by assumption)])⟩
end
section
/-! ===== switches; ranks ===== -/
section PHSW
variable {p : Program} {l : Launch} {e : Env} {R : Room} {s : State} {m : MethodId} {args : Array Value} {below : List Frame} {meth : Method} {c : Code}
variable {D : va_G} {cl : List vw_C} {tys : List (ClassId × FieldType)} {dT : Nat → ClassId} {kd : Nat → ph_K} {A : Nat → Prop} {KX : State → Prop} {nL : Nat} {Q : State → Prop} {cc : ByteArray} {own : String} {Ts : List Cond}
variable {L : Nat → Nat → Prop} {ad : Nat → Nat → Nat} {τ : ph_T} {cells slots pc : Nat} {lv : ph_V} {st : List Value}
theorem ph_swI (C : ph_C p s m args c cc nL own Ts D cl tys A KX) {dflt lo hi off z : Int} {offs : Array Int} {len tgt : Nat} (hd : decode cc pc = .ok (.tableswitch dflt lo hi offs, len)) (hz : ph_ri z) (h1 : ¬ z < lo) (h2 : ¬ hi < z) (ho : offs[(z - lo).toNat]? = some off) (ht : (pc : Int) + off = (tgt : Int))
    (k : ph_W p l e R s m args below meth c D cl dT kd A nL Q L ad τ cells slots tgt lv st) : ph_W p l e R s m args below meth c D cl dT kd A nL Q L ad τ cells slots pc lv (.int (ph_i z) :: st) := fun H locs ls hU hS hl =>
  lv_tableIn C.hx C.hb hd (by rw [ph_iT hz]; exact h1) (by rw [ph_iT hz]; exact h2) (by rw [ph_iT hz]; exact ho) ht (k H locs ls hU hS hl)
theorem ph_swO (C : ph_C p s m args c cc nL own Ts D cl tys A KX) {dflt lo hi z : Int} {offs : Array Int} {len tgt : Nat} (hd : decode cc pc = .ok (.tableswitch dflt lo hi offs, len)) (hz : ph_ri z) (h : z < lo ∨ hi < z) (ht : (pc : Int) + dflt = (tgt : Int))
    (k : ph_W p l e R s m args below meth c D cl dT kd A nL Q L ad τ cells slots tgt lv st) : ph_W p l e R s m args below meth c D cl dT kd A nL Q L ad τ cells slots pc lv (.int (ph_i z) :: st) := fun H locs ls hU hS hl =>
  lv_tableOut C.hx C.hb hd (by rw [ph_iT hz]; exact h) ht (k H locs ls hU hS hl)
theorem ph_ti {x y : Int} (h : x = y) (k : ph_W p l e R s m args below meth c D cl dT kd A nL Q L ad τ cells slots pc lv (.int (ph_i y) :: st)) : ph_W p l e R s m args below meth c D cl dT kd A nL Q L ad τ cells slots pc lv (.int (ph_i x) :: st) := by
  subst h
  exact k
theorem ph_ti2 {x y : Int} {v : Value} (h : x = y) (k : ph_W p l e R s m args below meth c D cl dT kd A nL Q L ad τ cells slots pc lv (v :: .int (ph_i y) :: st)) : ph_W p l e R s m args below meth c D cl dT kd A nL Q L ad τ cells slots pc lv (v :: .int (ph_i x) :: st) := by
  subst h
  exact k
end PHSW
def rnk (S : ph_T) (f : Nat) : Int := rankv (S 3 f 3) (S 3 f 0)
theorem rankv_r (t k : Int) : 0 ≤ rankv t k ∧ rankv t k ≤ 9 := by
  unfold rankv
  split
  · unfold rkT
    split <;> omega
  · omega
/-- a round over the faults that are not cleared, at one rank: the one that is found (0: none), how many are left to pass -/
def fiF (S : ph_T) (r : Int) : Nat → Nat → Int → Int × Int
  | 0, _, t => (0, t)
  | n + 1, f, t => if rnk S f = r then (if t = 0 then ((f : Int), t) else fiF S r n (f + 1) (t + -1)) else fiF S r n (f + 1) t
theorem fiF_n {S : ph_T} {r : Int} {n f : Nat} {t : Int} (h : ¬ rnk S f = r) : fiF S r (n + 1) f t = fiF S r n (f + 1) t := if_neg h
theorem fiF_p {S : ph_T} {r : Int} {n f : Nat} {t : Int} (h : rnk S f = r) (ht : ¬ t = 0) : fiF S r (n + 1) f t = fiF S r n (f + 1) (t + -1) := (if_pos h).trans (if_neg ht)
theorem fiF_0 {S : ph_T} {r : Int} {n f : Nat} {t : Int} (h : rnk S f = r) (ht : t = 0) : fiF S r (n + 1) f t = ((f : Int), t) := (if_pos h).trans (if_pos ht)
def foF (S : ph_T) : Nat → Int → Int
  | 0, _ => 0
  | r + 1, t => if (fiF S ((r + 1 : Nat) : Int) (S 0 0 5 - S 0 0 6).toNat ((S 0 0 6).toNat + 1) t).1 = 0 then foF S r (fiF S ((r + 1 : Nat) : Int) (S 0 0 5 - S 0 0 6).toNat ((S 0 0 6).toNat + 1) t).2 else (fiF S ((r + 1 : Nat) : Int) (S 0 0 5 - S 0 0 6).toNat ((S 0 0 6).toNat + 1) t).1
theorem foF_s {S : ph_T} {r : Nat} {t : Int} : foF S (r + 1) t = if (fiF S ((r + 1 : Nat) : Int) (S 0 0 5 - S 0 0 6).toNat ((S 0 0 6).toNat + 1) t).1 = 0 then foF S r (fiF S ((r + 1 : Nat) : Int) (S 0 0 5 - S 0 0 6).toNat ((S 0 0 6).toNat + 1) t).2 else (fiF S ((r + 1 : Nat) : Int) (S 0 0 5 - S 0 0 6).toNat ((S 0 0 6).toNat + 1) t).1 := rfl
def fbr (S : ph_T) (x : Int) : Int := if x < 0 then 0 else foF S 9 x
theorem fiF_le {S : ph_T} {r : Int} : ∀ (n f : Nat) (t : Int), 0 ≤ t → 0 ≤ (fiF S r n f t).2 ∧ (fiF S r n f t).2 ≤ t ∧ ((fiF S r n f t).1 = 0 ∨ ((f : Int) ≤ (fiF S r n f t).1 ∧ (fiF S r n f t).1 < (f : Int) + n))
  | 0, f, t, h => ⟨h, Int.le_refl t, Or.inl rfl⟩
  | n + 1, f, t, h => by
    by_cases h1 : rnk S f = r
    · by_cases h2 : t = 0
      · rw [fiF_0 h1 h2]
        exact ⟨h, Int.le_refl t, Or.inr ⟨Int.le_refl _, by show (f : Int) < f + ((n + 1 : Nat) : Int); omega⟩⟩
      · rw [fiF_p h1 h2]
        have := fiF_le (r := r) (S := S) n (f + 1) (t + -1) (by omega)
        omega
    · rw [fiF_n h1]
      have := fiF_le (r := r) (S := S) n (f + 1) t h
      omega
theorem foF_le {S : ph_T} (hc : 0 ≤ S 0 0 6 ∧ S 0 0 6 ≤ S 0 0 5) : ∀ (r : Nat) (t : Int), 0 ≤ t → foF S r t = 0 ∨ (S 0 0 6 < foF S r t ∧ foF S r t ≤ S 0 0 5)
  | 0, _, _ => Or.inl rfl
  | r + 1, t, h => by
    have h1 := fiF_le (S := S) (r := ((r + 1 : Nat) : Int)) (S 0 0 5 - S 0 0 6).toNat ((S 0 0 6).toNat + 1) t h
    rw [foF_s]
    split
    · exact foF_le hc r _ h1.1
    · omega
theorem fbr_le {S : ph_T} (hV : IV S) (x : Int) : fbr S x = 0 ∨ (S 0 0 6 < fbr S x ∧ fbr S x ≤ S 0 0 5) := by
  unfold fbr
  split
  · exact Or.inl rfl
  · exact foF_le ⟨hV.c.2.2.2.2.2.2.1, hV.c.2.2.2.2.2.2.2.1⟩ 9 x (by omega)
def alarmv (S : ph_T) (x y : Int) : Int := if y < 0 ∨ 4 < y then -12 else if fbr S x = 0 then -1 else if y = 0 then fbr S x else if y = 1 then rnk S (fbr S x).toNat else if y = 2 then S 3 (fbr S x).toNat 0 else if y = 3 then S 3 (fbr S x).toNat 1 else S 3 (fbr S x).toNat 2
end
section
/-! ===== doubt, cause, alarm ===== -/
set_option maxHeartbeats 4000000 in
set_option maxRecDepth 100000 in
theorem c_J_doubt (l : Launch) (D : va_G) (dT : Nat → ClassId) (A : Nat → Prop) (KX : State → Prop) (L : Nat → Nat → Prop) (ad : Nat → Nat → Nat) (τ : ph_T) (S : ph_T) (o : Nat) (hI : JR S o L ad τ) (hV : IV S) (x y : Int) (hx : ph_ri x) (hy : ph_ri y) : ph_M l y_J_doubt (.code y_J_doubt b_J_doubt 5 (some .int) :: TB) ({ frames := 1, cells := 0, slots := 0, locals := 21 } : Room) D CLs (TY dT) dT kd A KX [.ref (o), .int (ph_i (x)), .int (ph_i (y))] L ad τ (fun r L' ad' τ' => L' = L ∧ ad' = ad ∧ τ' = τ ∧ r = some (.int (ph_i (doubtv S x y)))) 0 0 := by
  refine ph_M.of (cc := b_J_doubt) (maxL := 5) (ret := (some .int)) (by decide) rfl (Nat.le_of_ble_eq_true rfl) ?_
  intro p e s m below meth c C0 hr hlk hnm
  have C := C0.sub
  refine ph_loc (l2 := [(0, .ref (o)), (1, .int (ph_i (x))), (2, .int (ph_i (y)))]) ⟨rfl, rfl, rfl, trivial⟩ ?_
  have hc := hV.c
  have loop : ∀ (n : Nat) (f0 i : Nat) (t : Int), x = (f0 : Int) → LC S 3 f0 → 1 ≤ i → S 0 0 3 = (i : Int) + n - 1 → 0 ≤ t → t < 2147483648 → dqF S f0 n i t = doubtv S x y → ph_W p l e ({ frames := 1, cells := 0, slots := 0, locals := 21 } : Room) s m [.ref (o), .int (ph_i (x)), .int (ph_i (y))].toArray below meth c D CLs dT kd A 5 (MQ below (ph_Q D CLs dT kd A (fun r L' ad' τ' => L' = L ∧ ad' = ad ∧ τ' = τ ∧ r = some (.int (ph_i (doubtv S x y))))) [.ref (o), .int (ph_i (x)), .int (ph_i (y))].toArray s 0 0 A) L ad τ 0 0 22 (ph_mk [(0, .ref (o)), (1, .int (ph_i (x))), (2, .int (ph_i (y))), (3, .int (ph_i (t))), (4, .int (ph_i ((i : Int))))]) [] := by
    intro n
    induction n with
    | zero =>
      intro f0 i t hx0 hf0 h1 h2 h3 h4 h5
      refine ph_iload (pc := 22) C d_J_doubt_22 rfl ?_
      refine ph_aload_n (pc := 24) C d_J_doubt_24 rfl ?_
      refine gt_J_25 (pc := 25) C d_J_doubt_25 (hI.live (g := 0) (i := 0) rfl) hI.ob (hI.dat rfl rfl) ?_
      refine ph_icmp_gt (pc := 28) (tgt := 61) C d_J_doubt_28 (by decide) (by omega) (by omega) (fun c28 => ?_) (fun c28 => ?_)
      · refine ph_iconst (pc := 61) C d_J_doubt_61 ?_
        exact ph_iret (pc := 62) C d_J_doubt_62 hr hlk (by rfl) (by decide) (by decide) ⟨rfl, rfl, rfl, (by first | (rw [← h5, dqF_0 (by assumption) (by assumption)]) | (rw [← h5]; rfl) | (rw [doubtv, if_pos (by assumption)]) | (rw [doubtv, if_neg (not_not_intro (by assumption)), if_pos (by omega)]))⟩
      · exfalso; omega
    | succ n ih =>
      intro f0 i t hx0 hf0 h1 h2 h3 h4 h5
      refine ph_iload (pc := 22) C d_J_doubt_22 rfl ?_
      refine ph_aload_n (pc := 24) C d_J_doubt_24 rfl ?_
      refine gt_J_25 (pc := 25) C d_J_doubt_25 (hI.live (g := 0) (i := 0) rfl) hI.ob (hI.dat rfl rfl) ?_
      refine ph_icmp_gt (pc := 28) (tgt := 61) C d_J_doubt_28 (by decide) (by omega) (by omega) (fun c28 => ?_) (fun c28 => ?_)
      · exfalso; omega
      · refine ph_aload_n (pc := 31) C d_J_doubt_31 rfl ?_
        refine gt_J_30 (pc := 32) C d_J_doubt_32 (hI.live (g := 0) (i := 0) rfl) hI.ob hI.r4 ?_
        refine ph_iload_n (pc := 35) C d_J_doubt_35 rfl ?_
        refine ph_aald (pc := 36) (t := 2) C d_J_doubt_36 (hI.live (g := 6) (i := 0) rfl) rfl rfl rfl f0 hx0 (by have := hf0; simp only [LC] at this; omega) (by decide) (ph_vr (hI.e6 hf0)) ?_
        refine ph_iload (pc := 37) C d_J_doubt_37 rfl ?_
        refine ph_callV (pc := 39) (rest := []) C d_J_doubt_39 (c_F_doubts l D dT A KX L ad τ f0 (ad 3 f0) (hI.live hf0) rfl (S 3 f0 5).toNat i (by rw [hI.dat hf0 rfl]; have := hV.f hf0; omega) (by have := hV.f hf0; omega) (by omega)) (cwV 1 C.hts (gdV tw_284 tw_285 tw_286 tw_5 tw_287) rfl rfl rfl ⟨rfl, by decide, by decide, by decide⟩ ⟨by decide, by decide⟩) (hI.live hf0) rfl rfl rfl rfl rfl rfl (by decide) ⟨by decide, by decide⟩ ?_
        rintro r1 L1 ad1 τ1 ⟨g1, g2, g3, g4⟩; obtain rfl := g1.symm; obtain rfl := g2.symm; obtain rfl := g3.symm; subst g4
        refine ph_bif_eq (pc := 42) (tgt := 55) C d_J_doubt_42 (by decide) (fun c42 => ?_) (fun c42 => ?_)
        · refine ph_iinc (pc := 55) C d_J_doubt_55 rfl rfl ?_
          refine ph_goto (pc := 58) (tgt := 22) C d_J_doubt_58 (by decide) ?_
          refine ph_loc (l2 := [(0, .ref (o)), (1, .int (ph_i (x))), (2, .int (ph_i (y))), (3, .int (ph_i (t))), (4, .int (ph_i (((i + 1 : Nat) : Int))))]) ⟨rfl, rfl, rfl, rfl, rfl, trivial⟩ ?_
          exact ih f0 (i + 1) t hx0 hf0 (by omega) (by omega) h3 h4 (by rw [← h5, dqF_f (by assumption)])
        · refine ph_iload_n (pc := 45) C d_J_doubt_45 rfl ?_
          refine ph_if_ne (pc := 46) (tgt := 52) C d_J_doubt_46 (by decide) (by omega) (fun c46 => ?_) (fun c46 => ?_)
          · refine ph_iinc (pc := 52) C d_J_doubt_52 rfl rfl ?_
            refine ph_iinc (pc := 55) C d_J_doubt_55 rfl rfl ?_
            refine ph_goto (pc := 58) (tgt := 22) C d_J_doubt_58 (by decide) ?_
            refine ph_loc (l2 := [(0, .ref (o)), (1, .int (ph_i (x))), (2, .int (ph_i (y))), (3, .int (ph_i (t + -1))), (4, .int (ph_i (((i + 1 : Nat) : Int))))]) ⟨rfl, rfl, rfl, rfl, rfl, trivial⟩ ?_
            exact ih f0 (i + 1) (t + -1) hx0 hf0 (by omega) (by omega) (by omega) (by omega) (by rw [← h5, dqF_t (by assumption) (by assumption)])
          · refine ph_iload (pc := 49) C d_J_doubt_49 rfl ?_
            exact ph_iret (pc := 51) C d_J_doubt_51 hr hlk (by rfl) (by decide) (by decide) ⟨rfl, rfl, rfl, (by first | (rw [← h5, dqF_0 (by assumption) (by assumption)]) | (rw [← h5]; rfl) | (rw [doubtv, if_pos (by assumption)]) | (rw [doubtv, if_neg (not_not_intro (by assumption)), if_pos (by omega)]))⟩
  refine ph_aload_n (pc := 0) C d_J_doubt_0 rfl ?_
  refine ph_iload_n (pc := 1) C d_J_doubt_1 rfl ?_
  refine ph_callV (pc := 2) (rest := []) C d_J_doubt_2 (c_J_isFault l D dT A KX L ad τ S o hI hV x hx) (cwV 1 C.hts (gdV tw_280 tw_282 se_17 tw_1 tw_283) rfl rfl rfl ⟨rfl, by decide, by decide, by decide⟩ ⟨by decide, by decide⟩) (hI.live (g := 0) (i := 0) rfl) hI.ob rfl rfl rfl rfl rfl (by decide) ⟨by decide, by decide⟩ ?_
  rintro r1 L1 ad1 τ1 ⟨g1, g2, g3, g4⟩; obtain rfl := g1.symm; obtain rfl := g2.symm; obtain rfl := g3.symm; subst g4
  refine ph_bif_ne (pc := 5) (tgt := 11) C d_J_doubt_5 (by decide) (fun c5 => ?_) (fun c5 => ?_)
  · refine ph_iload_n (pc := 11) C d_J_doubt_11 rfl ?_
    refine ph_if_ge (pc := 12) (tgt := 17) C d_J_doubt_12 (by decide) (by omega) (fun c12 => ?_) (fun c12 => ?_)
    · refine ph_iload_n (pc := 17) C d_J_doubt_17 rfl ?_
      refine ph_istore_n (pc := 18) C d_J_doubt_18 (by decide) rfl ?_
      refine ph_iconst (pc := 19) C d_J_doubt_19 ?_
      refine ph_istore (pc := 20) C d_J_doubt_20 (by decide) rfl ?_
      refine ph_loc (l2 := [(0, .ref (o)), (1, .int (ph_i (x))), (2, .int (ph_i (y))), (3, .int (ph_i (y))), (4, .int (ph_i (((1 : Nat) : Int))))]) ⟨rfl, rfl, rfl, rfl, rfl, trivial⟩ ?_
      exact loop (S 0 0 3).toNat x.toNat 1 y (by omega) (by simp only [LC]; omega) (by omega) (by omega) (by omega) (by omega) (by rw [doubtv, if_neg (not_not_intro (by assumption)), if_neg (by omega)])
    · refine ph_iconst (pc := 15) C d_J_doubt_15 ?_
      exact ph_iret (pc := 16) C d_J_doubt_16 hr hlk (by rfl) (by decide) (by decide) ⟨rfl, rfl, rfl, (by first | (rw [← h5, dqF_0 (by assumption) (by assumption)]) | (rw [← h5]; rfl) | (rw [doubtv, if_pos (by assumption)]) | (rw [doubtv, if_neg (not_not_intro (by assumption)), if_pos (by omega)]))⟩
  · refine ph_bipush (pc := 8) C d_J_doubt_8 (by decide) ?_
    exact ph_iret (pc := 10) C d_J_doubt_10 hr hlk (by rfl) (by decide) (by decide) ⟨rfl, rfl, rfl, (by first | (rw [← h5, dqF_0 (by assumption) (by assumption)]) | (rw [← h5]; rfl) | (rw [doubtv, if_pos (by assumption)]) | (rw [doubtv, if_neg (not_not_intro (by assumption)), if_pos (by omega)]))⟩
set_option maxHeartbeats 4000000 in
set_option maxRecDepth 100000 in
theorem c_J_cause (l : Launch) (D : va_G) (dT : Nat → ClassId) (A : Nat → Prop) (KX : State → Prop) (L : Nat → Nat → Prop) (ad : Nat → Nat → Nat) (τ : ph_T) (S : ph_T) (o : Nat) (hI : JR S o L ad τ) (hV : IV S) (x : Int) (hx : ph_ri x) : ph_M l y_J_cause (.code y_J_cause b_J_cause 4 (some .int) :: TB) ({ frames := 2, cells := 0, slots := 0, locals := 44 } : Room) D CLs (TY dT) dT kd A KX [.ref (o), .int (ph_i (x))] L ad τ (fun r L' ad' τ' => L' = L ∧ ad' = ad ∧ τ' = τ ∧ r = some (.int (ph_i (causev S x)))) 0 0 := by
  refine ph_M.of (cc := b_J_cause) (maxL := 4) (ret := (some .int)) (by decide) rfl (Nat.le_of_ble_eq_true rfl) ?_
  intro p e s m below meth c C0 hr hlk hnm
  have C := C0.sub
  refine ph_loc (l2 := [(0, .ref (o)), (1, .int (ph_i (x)))]) ⟨rfl, rfl, trivial⟩ ?_
  have hc := hV.c
  refine ph_aload_n (pc := 0) C d_J_cause_0 rfl ?_
  refine ph_iload_n (pc := 1) C d_J_cause_1 rfl ?_
  refine ph_callV (pc := 2) (rest := []) C d_J_cause_2 (c_J_isFault l D dT A KX L ad τ S o hI hV x hx) (cwV 1 C.hts (gdV tw_280 tw_282 se_17 tw_1 tw_283) rfl rfl rfl ⟨rfl, by decide, by decide, by decide⟩ ⟨by decide, by decide⟩) (hI.live (g := 0) (i := 0) rfl) hI.ob rfl rfl rfl rfl rfl (by decide) ⟨by decide, by decide⟩ ?_
  rintro r1 L1 ad1 τ1 ⟨g1, g2, g3, g4⟩; obtain rfl := g1.symm; obtain rfl := g2.symm; obtain rfl := g3.symm; subst g4
  refine ph_bif_ne (pc := 5) (tgt := 11) C d_J_cause_5 (by decide) (fun c5 => ?_) (fun c5 => ?_)
  · refine ph_aload_n (pc := 11) C d_J_cause_11 rfl ?_
    refine gt_J_30 (pc := 12) C d_J_cause_12 (hI.live (g := 0) (i := 0) rfl) hI.ob hI.r4 ?_
    refine ph_iload_n (pc := 15) C d_J_cause_15 rfl ?_
    refine ph_aald (pc := 16) (t := 2) C d_J_cause_16 (hI.live (g := 6) (i := 0) rfl) rfl rfl rfl x.toNat (by omega) (by have := (show LC S 3 x.toNat by simp only [LC]; omega); simp only [LC] at this; omega) (by decide) (ph_vr (hI.e6 (show LC S 3 x.toNat by simp only [LC]; omega))) ?_
    refine ph_astore_n (pc := 17) C d_J_cause_17 (by decide) rfl ?_
    refine ph_aload_n (pc := 18) C d_J_cause_18 rfl ?_
    refine gt_J_111 (pc := 19) C d_J_cause_19 (hI.live (show LC S 3 x.toNat by simp only [LC]; omega)) rfl (hI.dat (show LC S 3 x.toNat by simp only [LC]; omega) rfl) ?_
    refine ph_iconst (pc := 22) C d_J_cause_22 ?_
    refine ph_icmp_ne (pc := 23) (tgt := 43) C d_J_cause_23 (by decide) (by first | omega | (have := hV.f (show LC S 3 x.toNat by simp only [LC]; omega); omega)) (by first | omega | (have := hV.f (show LC S 3 x.toNat by simp only [LC]; omega); omega)) (fun c23 => ?_) (fun c23 => ?_)
    · refine ph_bipush (pc := 43) C d_J_cause_43 (by decide) ?_
      refine ph_aload_n (pc := 45) C d_J_cause_45 rfl ?_
      refine gt_J_114 (pc := 46) C d_J_cause_46 (hI.live (show LC S 3 x.toNat by simp only [LC]; omega)) rfl (hI.dat (show LC S 3 x.toNat by simp only [LC]; omega) rfl) ?_
      refine ph_imul (pc := 49) C d_J_cause_49 ?_
      refine ph_istore_n (pc := 50) C d_J_cause_50 (by decide) rfl ?_
      refine ph_aload_n (pc := 51) C d_J_cause_51 rfl ?_
      refine gt_J_117 (pc := 52) C d_J_cause_52 (hI.live (show LC S 3 x.toNat by simp only [LC]; omega)) rfl (hI.dat (show LC S 3 x.toNat by simp only [LC]; omega) rfl) ?_
      refine ph_if_eq (pc := 55) (tgt := 62) C d_J_cause_55 (by decide) (by first | omega | (have := hV.f (show LC S 3 x.toNat by simp only [LC]; omega); omega)) (fun c55 => ?_) (fun c55 => ?_)
      · refine ph_aload_n (pc := 62) C d_J_cause_62 rfl ?_
        refine ph_iload_n (pc := 63) C d_J_cause_63 rfl ?_
        refine ph_ti (y := ((x.toNat : Nat) : Int)) (by omega) ?_
        refine ph_callV (pc := 64) (rest := []) C d_J_cause_64 (c_J_cameAgain l D dT A KX L ad τ S o hI hV x.toNat (show LC S 3 x.toNat by simp only [LC]; omega)) (cwV 1 C.hts (gdV tw_292 tw_294 se_18 tw_1 tw_295) rfl rfl rfl ⟨rfl, by decide, by decide, by decide⟩ ⟨by decide, by decide⟩) (hI.live (g := 0) (i := 0) rfl) hI.ob rfl rfl rfl rfl rfl (by decide) ⟨by decide, by decide⟩ ?_
        rintro r1 L1 ad1 τ1 ⟨g1, g2, g3, g4⟩; obtain rfl := g1.symm; obtain rfl := g2.symm; obtain rfl := g3.symm; subst g4
        refine ph_bif_eq (pc := 67) (tgt := 76) C d_J_cause_67 (by decide) (fun c67 => ?_) (fun c67 => ?_)
        · refine ph_iload_n (pc := 76) C d_J_cause_76 rfl ?_
          exact ph_iret (pc := 77) C d_J_cause_77 hr hlk (by rfl) (by decide) (by decide) ⟨rfl, rfl, rfl, (by rw [causev, if_neg (not_not_intro (by assumption)), if_neg (by omega), if_neg (by omega), ph_b0 (by assumption), Int.add_zero])⟩
        · refine ph_iload_n (pc := 70) C d_J_cause_70 rfl ?_
          refine ph_iconst (pc := 71) C d_J_cause_71 ?_
          refine ph_iadd (pc := 72) C d_J_cause_72 ?_
          refine ph_goto (pc := 73) (tgt := 77) C d_J_cause_73 (by decide) ?_
          exact ph_iret (pc := 77) C d_J_cause_77 hr hlk (by rfl) (by decide) (by decide) ⟨rfl, rfl, rfl, (by rw [causev, if_neg (not_not_intro (by assumption)), if_neg (by omega), if_neg (by omega), ph_b1 (by assumption)])⟩
      · refine ph_iload_n (pc := 58) C d_J_cause_58 rfl ?_
        refine ph_iconst (pc := 59) C d_J_cause_59 ?_
        refine ph_iadd (pc := 60) C d_J_cause_60 ?_
        exact ph_iret (pc := 61) C d_J_cause_61 hr hlk (by rfl) (by decide) (by decide) ⟨rfl, rfl, rfl, (by rw [causev, if_neg (not_not_intro (by assumption)), if_neg (by omega), if_pos (by omega)])⟩
    · refine ph_aload_n (pc := 26) C d_J_cause_26 rfl ?_
      refine gt_J_114 (pc := 27) C d_J_cause_27 (hI.live (show LC S 3 x.toNat by simp only [LC]; omega)) rfl (hI.dat (show LC S 3 x.toNat by simp only [LC]; omega) rfl) ?_
      refine ph_bipush (pc := 30) C d_J_cause_30 (by decide) ?_
      refine ph_icmp_eq (pc := 32) (tgt := 43) C d_J_cause_32 (by decide) (by first | omega | (have := hV.f (show LC S 3 x.toNat by simp only [LC]; omega); omega)) (by first | omega | (have := hV.f (show LC S 3 x.toNat by simp only [LC]; omega); omega)) (fun c32 => ?_) (fun c32 => ?_)
      · refine ph_bipush (pc := 43) C d_J_cause_43 (by decide) ?_
        refine ph_aload_n (pc := 45) C d_J_cause_45 rfl ?_
        refine gt_J_114 (pc := 46) C d_J_cause_46 (hI.live (show LC S 3 x.toNat by simp only [LC]; omega)) rfl (hI.dat (show LC S 3 x.toNat by simp only [LC]; omega) rfl) ?_
        refine ph_imul (pc := 49) C d_J_cause_49 ?_
        refine ph_istore_n (pc := 50) C d_J_cause_50 (by decide) rfl ?_
        refine ph_aload_n (pc := 51) C d_J_cause_51 rfl ?_
        refine gt_J_117 (pc := 52) C d_J_cause_52 (hI.live (show LC S 3 x.toNat by simp only [LC]; omega)) rfl (hI.dat (show LC S 3 x.toNat by simp only [LC]; omega) rfl) ?_
        refine ph_if_eq (pc := 55) (tgt := 62) C d_J_cause_55 (by decide) (by first | omega | (have := hV.f (show LC S 3 x.toNat by simp only [LC]; omega); omega)) (fun c55 => ?_) (fun c55 => ?_)
        · refine ph_aload_n (pc := 62) C d_J_cause_62 rfl ?_
          refine ph_iload_n (pc := 63) C d_J_cause_63 rfl ?_
          refine ph_ti (y := ((x.toNat : Nat) : Int)) (by omega) ?_
          refine ph_callV (pc := 64) (rest := []) C d_J_cause_64 (c_J_cameAgain l D dT A KX L ad τ S o hI hV x.toNat (show LC S 3 x.toNat by simp only [LC]; omega)) (cwV 1 C.hts (gdV tw_292 tw_294 se_18 tw_1 tw_295) rfl rfl rfl ⟨rfl, by decide, by decide, by decide⟩ ⟨by decide, by decide⟩) (hI.live (g := 0) (i := 0) rfl) hI.ob rfl rfl rfl rfl rfl (by decide) ⟨by decide, by decide⟩ ?_
          rintro r1 L1 ad1 τ1 ⟨g1, g2, g3, g4⟩; obtain rfl := g1.symm; obtain rfl := g2.symm; obtain rfl := g3.symm; subst g4
          refine ph_bif_eq (pc := 67) (tgt := 76) C d_J_cause_67 (by decide) (fun c67 => ?_) (fun c67 => ?_)
          · refine ph_iload_n (pc := 76) C d_J_cause_76 rfl ?_
            exact ph_iret (pc := 77) C d_J_cause_77 hr hlk (by rfl) (by decide) (by decide) ⟨rfl, rfl, rfl, (by rw [causev, if_neg (not_not_intro (by assumption)), if_neg (by omega), if_neg (by omega), ph_b0 (by assumption), Int.add_zero])⟩
          · refine ph_iload_n (pc := 70) C d_J_cause_70 rfl ?_
            refine ph_iconst (pc := 71) C d_J_cause_71 ?_
            refine ph_iadd (pc := 72) C d_J_cause_72 ?_
            refine ph_goto (pc := 73) (tgt := 77) C d_J_cause_73 (by decide) ?_
            exact ph_iret (pc := 77) C d_J_cause_77 hr hlk (by rfl) (by decide) (by decide) ⟨rfl, rfl, rfl, (by rw [causev, if_neg (not_not_intro (by assumption)), if_neg (by omega), if_neg (by omega), ph_b1 (by assumption)])⟩
        · refine ph_iload_n (pc := 58) C d_J_cause_58 rfl ?_
          refine ph_iconst (pc := 59) C d_J_cause_59 ?_
          refine ph_iadd (pc := 60) C d_J_cause_60 ?_
          exact ph_iret (pc := 61) C d_J_cause_61 hr hlk (by rfl) (by decide) (by decide) ⟨rfl, rfl, rfl, (by rw [causev, if_neg (not_not_intro (by assumption)), if_neg (by omega), if_pos (by omega)])⟩
      · refine ph_bipush (pc := 35) C d_J_cause_35 (by decide) ?_
        refine ph_aload_n (pc := 37) C d_J_cause_37 rfl ?_
        refine gt_J_114 (pc := 38) C d_J_cause_38 (hI.live (show LC S 3 x.toNat by simp only [LC]; omega)) rfl (hI.dat (show LC S 3 x.toNat by simp only [LC]; omega) rfl) ?_
        refine ph_iadd (pc := 41) C d_J_cause_41 ?_
        exact ph_iret (pc := 42) C d_J_cause_42 hr hlk (by rfl) (by decide) (by decide) ⟨rfl, rfl, rfl, (by rw [causev, if_neg (not_not_intro (by assumption)), if_pos ⟨by omega, by omega⟩])⟩
  · refine ph_bipush (pc := 8) C d_J_cause_8 (by decide) ?_
    exact ph_iret (pc := 10) C d_J_cause_10 hr hlk (by rfl) (by decide) (by decide) ⟨rfl, rfl, rfl, (by rw [causev, if_pos (by assumption)])⟩
set_option maxHeartbeats 4000000 in
set_option maxRecDepth 100000 in
theorem c_J_faultByRank (l : Launch) (D : va_G) (dT : Nat → ClassId) (A : Nat → Prop) (KX : State → Prop) (L : Nat → Nat → Prop) (ad : Nat → Nat → Nat) (τ : ph_T) (S : ph_T) (o : Nat) (hI : JR S o L ad τ) (hV : IV S) (aR aT : Nat) (hX : ∀ U, KX U → KJ dT A aR aT U) (x : Int) (hx : ph_ri x) : ph_M l y_J_faultByRank (.code y_J_faultByRank b_J_faultByRank 5 (some .int) :: TB) ({ frames := 1, cells := 0, slots := 0, locals := 20 } : Room) D CLs (TY dT) dT kd A KX [.ref (o), .int (ph_i (x))] L ad τ (fun r L' ad' τ' => L' = L ∧ ad' = ad ∧ τ' = τ ∧ r = some (.int (ph_i (fbr S x)))) 0 0 := by
  refine ph_M.of (cc := b_J_faultByRank) (maxL := 5) (ret := (some .int)) (by decide) rfl (Nat.le_of_ble_eq_true rfl) ?_
  intro p e s m below meth c C0 hr hlk hnm
  have C := C0.sub
  refine ph_loc (l2 := [(0, .ref (o)), (1, .int (ph_i (x)))]) ⟨rfl, rfl, trivial⟩ ?_
  have hc := hV.c
  have outer : ∀ (r : Nat) (t : Int), r ≤ 9 → 0 ≤ t → t < 2147483648 → foF S r t = fbr S x → ph_W p l e ({ frames := 1, cells := 0, slots := 0, locals := 20 } : Room) s m [.ref (o), .int (ph_i (x))].toArray below meth c D CLs dT kd A 5 (MQ below (ph_Q D CLs dT kd A (fun r L' ad' τ' => L' = L ∧ ad' = ad ∧ τ' = τ ∧ r = some (.int (ph_i (fbr S x))))) [.ref (o), .int (ph_i (x))].toArray s 0 0 A) L ad τ 0 0 11 (ph_mk [(0, .ref (o)), (1, .int (ph_i (x))), (2, .int (ph_i (t))), (3, .int (ph_i ((r : Int))))]) [] := by
    intro r
    induction r with
    | zero =>
      intro t h0 h1 h2 h3
      refine ph_iload_n (pc := 11) C d_J_faultByRank_11 rfl ?_
      refine ph_if_le (pc := 12) (tgt := 68) C d_J_faultByRank_12 (by decide) (by first | omega | (have := rankv_r (S 3 f 3) (S 3 f 0); omega)) (fun c12 => ?_) (fun c12 => ?_)
      · refine ph_iconst (pc := 68) C d_J_faultByRank_68 ?_
        exact ph_iret (pc := 69) C d_J_faultByRank_69 hr hlk (by rfl) (by decide) (by decide) ⟨rfl, rfl, rfl, (by first | exact congrArg (fun z => some (Value.int (ph_i z))) (show (f : Int) = fbr S x by rw [← h4, fiF_0 (by assumption) (by assumption)]; exact (if_neg (show ¬ (f : Int) = 0 by omega)).symm) | (rw [fbr, if_pos (by omega)]) | (rw [← h3]; rfl))⟩
      · exfalso; omega
    | succ r ih =>
      intro t0 h0 h1 h2 h3
      have inner : ∀ (n f : Nat) (t : Int), S 0 0 6 < (f : Int) → S 0 0 5 = (f : Int) + n - 1 → 0 ≤ t → t < 2147483648 → (if (fiF S ((r + 1 : Nat) : Int) n f t).1 = 0 then foF S r (fiF S ((r + 1 : Nat) : Int) n f t).2 else (fiF S ((r + 1 : Nat) : Int) n f t).1) = fbr S x → ph_W p l e ({ frames := 1, cells := 0, slots := 0, locals := 20 } : Room) s m [.ref (o), .int (ph_i (x))].toArray below meth c D CLs dT kd A 5 (MQ below (ph_Q D CLs dT kd A (fun r L' ad' τ' => L' = L ∧ ad' = ad ∧ τ' = τ ∧ r = some (.int (ph_i (fbr S x))))) [.ref (o), .int (ph_i (x))].toArray s 0 0 A) L ad τ 0 0 23 (ph_mk [(0, .ref (o)), (1, .int (ph_i (x))), (2, .int (ph_i (t))), (3, .int (ph_i (((r + 1 : Nat) : Int)))), (4, .int (ph_i ((f : Int))))]) [] := by
        intro n
        induction n with
        | zero =>
          intro f t q1 q2 q3 q4 h4
          refine ph_iload (pc := 23) C d_J_faultByRank_23 rfl ?_
          refine ph_aload_n (pc := 25) C d_J_faultByRank_25 rfl ?_
          refine gt_J_34 (pc := 26) C d_J_faultByRank_26 (hI.live (g := 0) (i := 0) rfl) hI.ob (hI.dat rfl rfl) ?_
          refine ph_icmp_gt (pc := 29) (tgt := 62) C d_J_faultByRank_29 (by decide) (by first | omega | (have := rankv_r (S 3 f 3) (S 3 f 0); omega)) (by first | omega | (have := rankv_r (S 3 f 3) (S 3 f 0); omega)) (fun c29 => ?_) (fun c29 => ?_)
          · refine ph_iinc (pc := 62) C d_J_faultByRank_62 rfl rfl ?_
            refine ph_goto (pc := 65) (tgt := 11) C d_J_faultByRank_65 (by decide) ?_
            refine ph_loc (l2 := [(0, .ref (o)), (1, .int (ph_i (x))), (2, .int (ph_i (t))), (3, .int (ph_i ((r : Int))))]) ⟨rfl, rfl, rfl, (congrArg (fun z => some (Value.int (ph_i z))) (show (((r + 1 : Nat) : Int) + -1 : Int) = (r : Int) by omega)), trivial⟩ ?_
            exact ih t (by omega) (by omega) (by omega) (by rw [← h4]; rfl)
          · exfalso; omega
        | succ n ihn =>
          intro f t q1 q2 q3 q4 h4
          refine ph_iload (pc := 23) C d_J_faultByRank_23 rfl ?_
          refine ph_aload_n (pc := 25) C d_J_faultByRank_25 rfl ?_
          refine gt_J_34 (pc := 26) C d_J_faultByRank_26 (hI.live (g := 0) (i := 0) rfl) hI.ob (hI.dat rfl rfl) ?_
          refine ph_icmp_gt (pc := 29) (tgt := 62) C d_J_faultByRank_29 (by decide) (by first | omega | (have := rankv_r (S 3 f 3) (S 3 f 0); omega)) (by first | omega | (have := rankv_r (S 3 f 3) (S 3 f 0); omega)) (fun c29 => ?_) (fun c29 => ?_)
          · exfalso; omega
          · refine ph_aload_n (pc := 32) C d_J_faultByRank_32 rfl ?_
            refine gt_J_30 (pc := 33) C d_J_faultByRank_33 (hI.live (g := 0) (i := 0) rfl) hI.ob hI.r4 ?_
            refine ph_iload (pc := 36) C d_J_faultByRank_36 rfl ?_
            refine ph_aald (pc := 38) (t := 2) C d_J_faultByRank_38 (hI.live (g := 6) (i := 0) rfl) rfl rfl rfl f rfl (by have := (show LC S 3 f by simp only [LC]; omega); simp only [LC] at this; omega) (by decide) (ph_vr (hI.e6 (show LC S 3 f by simp only [LC]; omega))) ?_
            refine ph_callV (pc := 39) (rest := []) C d_J_faultByRank_39 (c_F_rank l D dT A KX L ad τ f (ad 3 f) (hI.live (show LC S 3 f by simp only [LC]; omega)) rfl aR aT hX (S 3 f 3) (S 3 f 0) (hI.dat (show LC S 3 f by simp only [LC]; omega) rfl) (hI.dat (show LC S 3 f by simp only [LC]; omega) rfl) (by have := hV.f (show LC S 3 f by simp only [LC]; omega); omega) (by have := hV.f (show LC S 3 f by simp only [LC]; omega); omega)) (cwV 0 C.hts (gdV tw_364 tw_365 tw_366 tw_5 tw_367) rfl rfl rfl ⟨rfl, by decide, by decide, by decide⟩ ⟨by decide, by decide⟩) (hI.live (show LC S 3 f by simp only [LC]; omega)) rfl rfl rfl rfl rfl rfl (by decide) ⟨by decide, by decide⟩ ?_
            rintro r1 L1 ad1 τ1 ⟨g1, g2, g3, g4⟩; obtain rfl := g1.symm; obtain rfl := g2.symm; obtain rfl := g3.symm; subst g4
            refine ph_iload_n (pc := 42) C d_J_faultByRank_42 rfl ?_
            refine ph_icmp_ne (pc := 43) (tgt := 56) C d_J_faultByRank_43 (by decide) (by first | omega | (have := rankv_r (S 3 f 3) (S 3 f 0); omega)) (by first | omega | (have := rankv_r (S 3 f 3) (S 3 f 0); omega)) (fun c43 => ?_) (fun c43 => ?_)
            · refine ph_iinc (pc := 56) C d_J_faultByRank_56 rfl rfl ?_
              refine ph_goto (pc := 59) (tgt := 23) C d_J_faultByRank_59 (by decide) ?_
              refine ph_loc (l2 := [(0, .ref (o)), (1, .int (ph_i (x))), (2, .int (ph_i (t))), (3, .int (ph_i (((r + 1 : Nat) : Int)))), (4, .int (ph_i (((f + 1 : Nat) : Int))))]) ⟨rfl, rfl, rfl, rfl, rfl, trivial⟩ ?_
              exact ihn (f + 1) t (by omega) (by omega) q3 q4 (by rw [← h4, fiF_n (by assumption)])
            · refine ph_iload_n (pc := 46) C d_J_faultByRank_46 rfl ?_
              refine ph_if_ne (pc := 47) (tgt := 53) C d_J_faultByRank_47 (by decide) (by first | omega | (have := rankv_r (S 3 f 3) (S 3 f 0); omega)) (fun c47 => ?_) (fun c47 => ?_)
              · refine ph_iinc (pc := 53) C d_J_faultByRank_53 rfl rfl ?_
                refine ph_iinc (pc := 56) C d_J_faultByRank_56 rfl rfl ?_
                refine ph_goto (pc := 59) (tgt := 23) C d_J_faultByRank_59 (by decide) ?_
                refine ph_loc (l2 := [(0, .ref (o)), (1, .int (ph_i (x))), (2, .int (ph_i (t + -1))), (3, .int (ph_i (((r + 1 : Nat) : Int)))), (4, .int (ph_i (((f + 1 : Nat) : Int))))]) ⟨rfl, rfl, rfl, rfl, rfl, trivial⟩ ?_
                exact ihn (f + 1) (t + -1) (by omega) (by omega) (by omega) (by omega) (by rw [← h4, fiF_p (by assumption) (by assumption)])
              · refine ph_iload (pc := 50) C d_J_faultByRank_50 rfl ?_
                exact ph_iret (pc := 52) C d_J_faultByRank_52 hr hlk (by rfl) (by decide) (by decide) ⟨rfl, rfl, rfl, (by first | exact congrArg (fun z => some (Value.int (ph_i z))) (show (f : Int) = fbr S x by rw [← h4, fiF_0 (by assumption) (by assumption)]; exact (if_neg (show ¬ (f : Int) = 0 by omega)).symm) | (rw [fbr, if_pos (by omega)]) | (rw [← h3]; rfl))⟩
      refine ph_iload_n (pc := 11) C d_J_faultByRank_11 rfl ?_
      refine ph_if_le (pc := 12) (tgt := 68) C d_J_faultByRank_12 (by decide) (by first | omega | (have := rankv_r (S 3 f 3) (S 3 f 0); omega)) (fun c12 => ?_) (fun c12 => ?_)
      · exfalso; omega
      · refine ph_aload_n (pc := 15) C d_J_faultByRank_15 rfl ?_
        refine gt_J_37 (pc := 16) C d_J_faultByRank_16 (hI.live (g := 0) (i := 0) rfl) hI.ob (hI.dat rfl rfl) ?_
        refine ph_iconst (pc := 19) C d_J_faultByRank_19 ?_
        refine ph_iadd (pc := 20) C d_J_faultByRank_20 ?_
        refine ph_istore (pc := 21) C d_J_faultByRank_21 (by decide) rfl ?_
        refine ph_loc (l2 := [(0, .ref (o)), (1, .int (ph_i (x))), (2, .int (ph_i (t0))), (3, .int (ph_i (((r + 1 : Nat) : Int)))), (4, .int (ph_i ((((S 0 0 6).toNat + 1 : Nat) : Int))))]) ⟨rfl, rfl, rfl, rfl, (congrArg (fun z => some (Value.int (ph_i z))) (show (S 0 0 6 + 1 : Int) = (((S 0 0 6).toNat + 1 : Nat) : Int) by omega)), trivial⟩ ?_
        exact inner (S 0 0 5 - S 0 0 6).toNat ((S 0 0 6).toNat + 1) t0 (by omega) (by omega) h1 h2 (by rw [← h3, foF_s])
  refine ph_iload_n (pc := 0) C d_J_faultByRank_0 rfl ?_
  refine ph_if_ge (pc := 1) (tgt := 6) C d_J_faultByRank_1 (by decide) (by first | omega | (have := rankv_r (S 3 f 3) (S 3 f 0); omega)) (fun c1 => ?_) (fun c1 => ?_)
  · refine ph_iload_n (pc := 6) C d_J_faultByRank_6 rfl ?_
    refine ph_istore_n (pc := 7) C d_J_faultByRank_7 (by decide) rfl ?_
    refine ph_bipush (pc := 8) C d_J_faultByRank_8 (by decide) ?_
    refine ph_istore_n (pc := 10) C d_J_faultByRank_10 (by decide) rfl ?_
    refine ph_loc (l2 := [(0, .ref (o)), (1, .int (ph_i (x))), (2, .int (ph_i (x))), (3, .int (ph_i (((9 : Nat) : Int))))]) ⟨rfl, rfl, rfl, rfl, trivial⟩ ?_
    exact outer 9 x (by omega) (by omega) (by omega) (by rw [fbr, if_neg (by omega)])
  · refine ph_iconst (pc := 4) C d_J_faultByRank_4 ?_
    exact ph_iret (pc := 5) C d_J_faultByRank_5 hr hlk (by rfl) (by decide) (by decide) ⟨rfl, rfl, rfl, (by first | exact congrArg (fun z => some (Value.int (ph_i z))) (show (f : Int) = fbr S x by rw [← h4, fiF_0 (by assumption) (by assumption)]; exact (if_neg (show ¬ (f : Int) = 0 by omega)).symm) | (rw [fbr, if_pos (by omega)]) | (rw [← h3]; rfl))⟩
set_option maxHeartbeats 4000000 in
set_option maxRecDepth 100000 in
theorem c_J_alarm (l : Launch) (D : va_G) (dT : Nat → ClassId) (A : Nat → Prop) (KX : State → Prop) (L : Nat → Nat → Prop) (ad : Nat → Nat → Nat) (τ : ph_T) (S : ph_T) (o : Nat) (hI : JR S o L ad τ) (hV : IV S) (aR aT : Nat) (hX : ∀ U, KX U → KJ dT A aR aT U) (x y : Int) (hx : ph_ri x) (hy : ph_ri y) : ph_M l y_J_alarm (.code y_J_alarm b_J_alarm 5 (some .int) :: TB) ({ frames := 2, cells := 0, slots := 0, locals := 44 } : Room) D CLs (TY dT) dT kd A KX [.ref (o), .int (ph_i (x)), .int (ph_i (y))] L ad τ (fun r L' ad' τ' => L' = L ∧ ad' = ad ∧ τ' = τ ∧ r = some (.int (ph_i (alarmv S x y)))) 0 0 := by
  refine ph_M.of (cc := b_J_alarm) (maxL := 5) (ret := (some .int)) (by decide) rfl (Nat.le_of_ble_eq_true rfl) ?_
  intro p e s m below meth c C0 hr hlk hnm
  have C := C0.sub
  refine ph_loc (l2 := [(0, .ref (o)), (1, .int (ph_i (x))), (2, .int (ph_i (y)))]) ⟨rfl, rfl, rfl, trivial⟩ ?_
  have hc := hV.c
  have hfb := fbr_le hV x
  refine ph_iload_n (pc := 0) C d_J_alarm_0 rfl ?_
  refine ph_if_lt (pc := 1) (tgt := 9) C d_J_alarm_1 (by decide) (by omega) (fun c1 => ?_) (fun c1 => ?_)
  · refine ph_bipush (pc := 9) C d_J_alarm_9 (by decide) ?_
    exact ph_iret (pc := 11) C d_J_alarm_11 hr hlk (by rfl) (by decide) (by decide) ⟨rfl, rfl, rfl, (by rw [alarmv, if_pos (by omega)])⟩
  · refine ph_iload_n (pc := 4) C d_J_alarm_4 rfl ?_
    refine ph_iconst (pc := 5) C d_J_alarm_5 ?_
    refine ph_icmp_le (pc := 6) (tgt := 12) C d_J_alarm_6 (by decide) (by omega) (by omega) (fun c6 => ?_) (fun c6 => ?_)
    · refine ph_aload_n (pc := 12) C d_J_alarm_12 rfl ?_
      refine ph_iload_n (pc := 13) C d_J_alarm_13 rfl ?_
      refine ph_callV (pc := 14) (rest := []) C d_J_alarm_14 (c_J_faultByRank l D dT A KX L ad τ S o hI hV aR aT hX x hx) (cwV 1 C.hts (gdV tw_360 tw_362 se_25 tw_1 tw_363) rfl rfl rfl ⟨rfl, by decide, by decide, by decide⟩ ⟨by decide, by decide⟩) (hI.live (g := 0) (i := 0) rfl) hI.ob rfl rfl rfl rfl rfl (by decide) ⟨by decide, by decide⟩ ?_
      rintro r1 L1 ad1 τ1 ⟨g1, g2, g3, g4⟩; obtain rfl := g1.symm; obtain rfl := g2.symm; obtain rfl := g3.symm; subst g4
      refine ph_istore_n (pc := 17) C d_J_alarm_17 (by decide) rfl ?_
      refine ph_aload_n (pc := 18) C d_J_alarm_18 rfl ?_
      refine ph_iload_n (pc := 19) C d_J_alarm_19 rfl ?_
      refine ph_callV (pc := 20) (rest := []) C d_J_alarm_20 (c_J_isFault l D dT A KX L ad τ S o hI hV (fbr S x) (by omega)) (cwV 1 C.hts (gdV tw_280 tw_282 se_17 tw_1 tw_283) rfl rfl rfl ⟨rfl, by decide, by decide, by decide⟩ ⟨by decide, by decide⟩) (hI.live (g := 0) (i := 0) rfl) hI.ob rfl rfl rfl rfl rfl (by decide) ⟨by decide, by decide⟩ ?_
      rintro r1 L1 ad1 τ1 ⟨g1, g2, g3, g4⟩; obtain rfl := g1.symm; obtain rfl := g2.symm; obtain rfl := g3.symm; subst g4
      refine ph_bif_ne (pc := 23) (tgt := 28) C d_J_alarm_23 (by decide) (fun c23 => ?_) (fun c23 => ?_)
      · have hn0 : ¬ fbr S x = 0 := by omega
        refine ph_aload_n (pc := 28) C d_J_alarm_28 rfl ?_
        refine gt_J_30 (pc := 29) C d_J_alarm_29 (hI.live (g := 0) (i := 0) rfl) hI.ob hI.r4 ?_
        refine ph_iload_n (pc := 32) C d_J_alarm_32 rfl ?_
        refine ph_aald (pc := 33) (t := 2) C d_J_alarm_33 (hI.live (g := 6) (i := 0) rfl) rfl rfl rfl (fbr S x).toNat (by omega) (by have := (show LC S 3 (fbr S x).toNat by simp only [LC]; omega); simp only [LC] at this; omega) (by decide) (ph_vr (hI.e6 (show LC S 3 (fbr S x).toNat by simp only [LC]; omega))) ?_
        refine ph_astore (pc := 34) C d_J_alarm_34 (by decide) rfl ?_
        refine ph_iload_n (pc := 36) C d_J_alarm_36 rfl ?_
        rcases (show y = 0 ∨ y = 1 ∨ y = 2 ∨ y = 3 ∨ y = 4 by omega) with rfl | rfl | rfl | rfl | rfl
        · refine ph_swI (pc := 37) (tgt := 68) C d_J_alarm_37 (by omega) (by omega) (by omega) rfl (by decide) ?_
          refine ph_iload_n (pc := 68) C d_J_alarm_68 rfl ?_
          exact ph_iret (pc := 69) C d_J_alarm_69 hr hlk (by rfl) (by decide) (by decide) ⟨rfl, rfl, rfl, (by simp [alarmv, hn0, rnk])⟩
        · refine ph_swI (pc := 37) (tgt := 70) C d_J_alarm_37 (by omega) (by omega) (by omega) rfl (by decide) ?_
          refine ph_aload (pc := 70) C d_J_alarm_70 rfl ?_
          refine ph_callV (pc := 72) (rest := []) C d_J_alarm_72 (c_F_rank l D dT A KX L ad τ (fbr S x).toNat (ad 3 (fbr S x).toNat) (hI.live (show LC S 3 (fbr S x).toNat by simp only [LC]; omega)) rfl aR aT hX (S 3 (fbr S x).toNat 3) (S 3 (fbr S x).toNat 0) (hI.dat (show LC S 3 (fbr S x).toNat by simp only [LC]; omega) rfl) (hI.dat (show LC S 3 (fbr S x).toNat by simp only [LC]; omega) rfl) (by have := hV.f (show LC S 3 (fbr S x).toNat by simp only [LC]; omega); omega) (by have := hV.f (show LC S 3 (fbr S x).toNat by simp only [LC]; omega); omega)) (cwV 0 C.hts (gdV tw_364 tw_365 tw_366 tw_5 tw_367) rfl rfl rfl ⟨rfl, by decide, by decide, by decide⟩ ⟨by decide, by decide⟩) (hI.live (show LC S 3 (fbr S x).toNat by simp only [LC]; omega)) rfl rfl rfl rfl rfl rfl (by decide) ⟨by decide, by decide⟩ ?_
          rintro r1 L1 ad1 τ1 ⟨g1, g2, g3, g4⟩; obtain rfl := g1.symm; obtain rfl := g2.symm; obtain rfl := g3.symm; subst g4
          exact ph_iret (pc := 75) C d_J_alarm_75 hr hlk (by rfl) (by decide) (by decide) ⟨rfl, rfl, rfl, (by simp [alarmv, hn0, rnk])⟩
        · refine ph_swI (pc := 37) (tgt := 76) C d_J_alarm_37 (by omega) (by omega) (by omega) rfl (by decide) ?_
          refine ph_aload (pc := 76) C d_J_alarm_76 rfl ?_
          refine gt_J_114 (pc := 78) C d_J_alarm_78 (hI.live (show LC S 3 (fbr S x).toNat by simp only [LC]; omega)) rfl (hI.dat (show LC S 3 (fbr S x).toNat by simp only [LC]; omega) rfl) ?_
          exact ph_iret (pc := 81) C d_J_alarm_81 hr hlk (by rfl) (by decide) (by decide) ⟨rfl, rfl, rfl, (by simp [alarmv, hn0, rnk])⟩
        · refine ph_swI (pc := 37) (tgt := 82) C d_J_alarm_37 (by omega) (by omega) (by omega) rfl (by decide) ?_
          refine ph_aload (pc := 82) C d_J_alarm_82 rfl ?_
          refine gt_J_111 (pc := 84) C d_J_alarm_84 (hI.live (show LC S 3 (fbr S x).toNat by simp only [LC]; omega)) rfl (hI.dat (show LC S 3 (fbr S x).toNat by simp only [LC]; omega) rfl) ?_
          exact ph_iret (pc := 87) C d_J_alarm_87 hr hlk (by rfl) (by decide) (by decide) ⟨rfl, rfl, rfl, (by simp [alarmv, hn0, rnk])⟩
        · refine ph_swO (pc := 37) (tgt := 88) C d_J_alarm_37 (by omega) (by omega) (by decide) ?_
          refine ph_aload (pc := 88) C d_J_alarm_88 rfl ?_
          refine gt_J_163 (pc := 90) C d_J_alarm_90 (hI.live (show LC S 3 (fbr S x).toNat by simp only [LC]; omega)) rfl (hI.dat (show LC S 3 (fbr S x).toNat by simp only [LC]; omega) rfl) ?_
          refine ph_l2i (pc := 93) C d_J_alarm_93 ?_
          exact ph_iret (pc := 94) C d_J_alarm_94 hr hlk (by rfl) (by decide) (by decide) ⟨rfl, rfl, rfl, (by simp [alarmv, hn0, rnk])⟩
      · refine ph_iconst (pc := 26) C d_J_alarm_26 ?_
        exact ph_iret (pc := 27) C d_J_alarm_27 hr hlk (by rfl) (by decide) (by decide) ⟨rfl, rfl, rfl, (by rw [alarmv, if_neg (by omega), if_pos (by omega)])⟩
    · refine ph_bipush (pc := 9) C d_J_alarm_9 (by decide) ?_
      exact ph_iret (pc := 11) C d_J_alarm_11 hr hlk (by rfl) (by decide) (by decide) ⟨rfl, rfl, rfl, (by rw [alarmv, if_pos (by omega)])⟩
end
section
/-! ===== what keeps the numbers' bounds ===== -/
theorem up_ne (S : ph_T) {g i k g' i' k' : Nat} {z : Int} (h : g' ≠ g) : ph_up S g i k z g' i' k' = S g' i' k' := ph_up_no S z (fun q => h q.1)
theorem LC_upn {S : ph_T} {g i k : Nat} {z : Int} (h : g ≠ 0) (g' i' : Nat) : LC (ph_up S g i k z) g' i' ↔ LC S g' i' := LC_up (fun q => h q.1) g' i'
theorem up_if (S : ph_T) (g i k : Nat) (z : Int) (i' k' : Nat) : ph_up S g i k z g i' k' = if i' = i ∧ k' = k then z else S g i' k' := by
  unfold ph_up
  simp
theorem IV.upS {S : ph_T} (h : IV S) {i k : Nat} {z : Int} (h0 : k = 0 → 100 ≤ z ∧ z ≤ 100000) (h2 : k = 2 → z = 0 ∨ z = 1) (h3 : k = 3 → 0 ≤ z ∧ z ≤ S 0 0 3) (h4 : k = 4 → 0 ≤ z ∧ z ≤ S 0 0 11) (h5 : k = 5 → z = 0 ∨ z = 1) : IV (ph_up S 1 i k z) := by
  have hl := fun g' i' => LC_upn (S := S) (g := 1) (i := i) (k := k) (z := z) (by decide) g' i'
  have n0 : ∀ i' k', ph_up S 1 i k z 0 i' k' = S 0 i' k' := fun i' k' => up_ne S (by decide)
  have n2 : ∀ i' k', ph_up S 1 i k z 2 i' k' = S 2 i' k' := fun i' k' => up_ne S (by decide)
  have n3 : ∀ i' k', ph_up S 1 i k z 3 i' k' = S 3 i' k' := fun i' k' => up_ne S (by decide)
  have n7 : ∀ i' k', ph_up S 1 i k z 7 i' k' = S 7 i' k' := fun i' k' => up_ne S (by decide)
  have n8 : ∀ i' k', ph_up S 1 i k z 8 i' k' = S 8 i' k' := fun i' k' => up_ne S (by decide)
  have n9 : ∀ i' k', ph_up S 1 i k z 9 i' k' = S 9 i' k' := fun i' k' => up_ne S (by decide)
  refine ⟨?_, fun j hj => ?_, fun j hj => ?_, fun j hj => ?_, fun j hj => ?_, fun j hj => ?_⟩
  · simp only [n0]; exact h.c
  · have hs := h.s ((hl 1 j).mp hj)
    simp only [n0, up_if]
    grind (splits := 40)
  · simp only [n2]; exact h.i ((hl 2 j).mp hj)
  · simp only [n0, n3]; exact h.f ((hl 3 j).mp hj)
  · simp only [n7, n8]; exact h.r hj
  · simp only [n9]; rw [n0] at hj; exact h.l hj
theorem IV.upI {S : ph_T} (h : IV S) {i k : Nat} {z : Int} (h0 : k = 0 → 50 ≤ z ∧ z ≤ 1000) (h1 : k = 1 → 0 ≤ z ∧ z ≤ 1000000000) (h2 : k = 2 → 0 ≤ z ∧ z ≤ 40) (h3 : k = 3 → z = 0 ∨ z = 1) (h4 : k = 4 → z = 0 ∨ z = 1) (h5 : k = 5 → 0 ≤ z ∧ z ≤ 2) (h6 : k = 6 → 0 ≤ z ∧ z < 256) : IV (ph_up S 2 i k z) := by
  have hl := fun g' i' => LC_upn (S := S) (g := 2) (i := i) (k := k) (z := z) (by decide) g' i'
  have n0 : ∀ i' k', ph_up S 2 i k z 0 i' k' = S 0 i' k' := fun i' k' => up_ne S (by decide)
  have n1 : ∀ i' k', ph_up S 2 i k z 1 i' k' = S 1 i' k' := fun i' k' => up_ne S (by decide)
  have n3 : ∀ i' k', ph_up S 2 i k z 3 i' k' = S 3 i' k' := fun i' k' => up_ne S (by decide)
  have n7 : ∀ i' k', ph_up S 2 i k z 7 i' k' = S 7 i' k' := fun i' k' => up_ne S (by decide)
  have n8 : ∀ i' k', ph_up S 2 i k z 8 i' k' = S 8 i' k' := fun i' k' => up_ne S (by decide)
  have n9 : ∀ i' k', ph_up S 2 i k z 9 i' k' = S 9 i' k' := fun i' k' => up_ne S (by decide)
  refine ⟨?_, fun j hj => ?_, fun j hj => ?_, fun j hj => ?_, fun j hj => ?_, fun j hj => ?_⟩
  · simp only [n0]; exact h.c
  · simp only [n0, n1]; exact h.s ((hl 1 j).mp hj)
  · have hs := h.i ((hl 2 j).mp hj)
    simp only [up_if]
    grind (splits := 40)
  · simp only [n0, n3]; exact h.f ((hl 3 j).mp hj)
  · simp only [n7, n8]; exact h.r hj
  · simp only [n9]; rw [n0] at hj; exact h.l hj
theorem IV.upF {S : ph_T} (h : IV S) {i k : Nat} {z : Int} (h0 : k = 0 → 1 ≤ z ∧ z ≤ 6) (h1 : k = 1 → -1 ≤ z ∧ z ≤ 7) (h2 : k = 2 → 0 ≤ z ∧ z ≤ S 0 0 11) (h3 : k = 3 → z = 0 ∨ z = 1) (h4 : k = 4 → z = 0 ∨ z = 1) (h5 : k = 5 → 0 ≤ z ∧ z < 2305843009213693952) (h6 : k = 6 → 0 ≤ z ∧ z ≤ 3) : IV (ph_up S 3 i k z) := by
  have hl := fun g' i' => LC_upn (S := S) (g := 3) (i := i) (k := k) (z := z) (by decide) g' i'
  have n0 : ∀ i' k', ph_up S 3 i k z 0 i' k' = S 0 i' k' := fun i' k' => up_ne S (by decide)
  have n1 : ∀ i' k', ph_up S 3 i k z 1 i' k' = S 1 i' k' := fun i' k' => up_ne S (by decide)
  have n2 : ∀ i' k', ph_up S 3 i k z 2 i' k' = S 2 i' k' := fun i' k' => up_ne S (by decide)
  have n7 : ∀ i' k', ph_up S 3 i k z 7 i' k' = S 7 i' k' := fun i' k' => up_ne S (by decide)
  have n8 : ∀ i' k', ph_up S 3 i k z 8 i' k' = S 8 i' k' := fun i' k' => up_ne S (by decide)
  have n9 : ∀ i' k', ph_up S 3 i k z 9 i' k' = S 9 i' k' := fun i' k' => up_ne S (by decide)
  refine ⟨?_, fun j hj => ?_, fun j hj => ?_, fun j hj => ?_, fun j hj => ?_, fun j hj => ?_⟩
  · simp only [n0]; exact h.c
  · simp only [n0, n1]; exact h.s ((hl 1 j).mp hj)
  · simp only [n2]; exact h.i ((hl 2 j).mp hj)
  · have hs := h.f ((hl 3 j).mp hj)
    simp only [n0, up_if]
    grind (splits := 40)
  · simp only [n7, n8]; exact h.r hj
  · simp only [n9]; rw [n0] at hj; exact h.l hj
theorem IV.upR {S : ph_T} (h : IV S) {g k : Nat} {z : Int} (hg : g = 7 ∨ g = 8) (hz : z = 0 ∨ z = 1) : IV (ph_up S g 0 k z) := by
  have hg0 : g ≠ 0 := by omega
  have hl := fun g' i' => LC_upn (S := S) (g := g) (i := 0) (k := k) (z := z) hg0 g' i'
  have n0 : ∀ i' k', ph_up S g 0 k z 0 i' k' = S 0 i' k' := fun i' k' => up_ne S (by omega)
  have n1 : ∀ i' k', ph_up S g 0 k z 1 i' k' = S 1 i' k' := fun i' k' => up_ne S (by omega)
  have n2 : ∀ i' k', ph_up S g 0 k z 2 i' k' = S 2 i' k' := fun i' k' => up_ne S (by omega)
  have n3 : ∀ i' k', ph_up S g 0 k z 3 i' k' = S 3 i' k' := fun i' k' => up_ne S (by omega)
  have n9 : ∀ i' k', ph_up S g 0 k z 9 i' k' = S 9 i' k' := fun i' k' => up_ne S (by omega)
  refine ⟨?_, fun j hj => ?_, fun j hj => ?_, fun j hj => ?_, fun j hj => ?_, fun j hj => ?_⟩
  · simp only [n0]; exact h.c
  · simp only [n0, n1]; exact h.s ((hl 1 j).mp hj)
  · simp only [n2]; exact h.i ((hl 2 j).mp hj)
  · simp only [n0, n3]; exact h.f ((hl 3 j).mp hj)
  · have := h.r hj
    unfold ph_up
    grind (splits := 40)
  · simp only [n9]; rw [n0] at hj; exact h.l hj
theorem IV.upL {S : ph_T} (h : IV S) {k : Nat} {z : Int} (hz : 1 ≤ z ∧ z ≤ 60) : IV (ph_up S 9 0 k z) := by
  have hl := fun g' i' => LC_upn (S := S) (g := 9) (i := 0) (k := k) (z := z) (by decide) g' i'
  have n0 : ∀ i' k', ph_up S 9 0 k z 0 i' k' = S 0 i' k' := fun i' k' => up_ne S (by decide)
  have n1 : ∀ i' k', ph_up S 9 0 k z 1 i' k' = S 1 i' k' := fun i' k' => up_ne S (by decide)
  have n2 : ∀ i' k', ph_up S 9 0 k z 2 i' k' = S 2 i' k' := fun i' k' => up_ne S (by decide)
  have n3 : ∀ i' k', ph_up S 9 0 k z 3 i' k' = S 3 i' k' := fun i' k' => up_ne S (by decide)
  have n7 : ∀ i' k', ph_up S 9 0 k z 7 i' k' = S 7 i' k' := fun i' k' => up_ne S (by decide)
  have n8 : ∀ i' k', ph_up S 9 0 k z 8 i' k' = S 8 i' k' := fun i' k' => up_ne S (by decide)
  refine ⟨?_, fun j hj => ?_, fun j hj => ?_, fun j hj => ?_, fun j hj => ?_, fun j hj => ?_⟩
  · simp only [n0]; exact h.c
  · simp only [n0, n1]; exact h.s ((hl 1 j).mp hj)
  · simp only [n2]; exact h.i ((hl 2 j).mp hj)
  · simp only [n0, n3]; exact h.f ((hl 3 j).mp hj)
  · simp only [n7, n8]; exact h.r hj
  · rw [n0] at hj
    have := h.l hj
    rw [up_if]
    grind (splits := 40)
/-- a number of the object itself: cleared (6), the list's size (10), the clock (11) -/
theorem IV.up0 {S : ph_T} (h : IV S) {k : Nat} {z : Int} (hk : k = 6 ∨ k = 10 ∨ k = 11) (h6 : k = 6 → 0 ≤ z ∧ z ≤ S 0 0 5) (h10 : k = 10 → 0 ≤ z ∧ z ≤ 60 ∧ ∀ j : Nat, (j : Int) < z → 1 ≤ S 9 0 j ∧ S 9 0 j ≤ 60) (h11 : k = 11 → S 0 0 11 ≤ z ∧ z ≤ 1000000000) : IV (ph_up S 0 0 k z) := by
  have hl := fun g' i' => LC_up (S := S) (g := 0) (i := 0) (k := k) (z := z) (by omega) g' i'
  have n1 : ∀ i' k', ph_up S 0 0 k z 1 i' k' = S 1 i' k' := fun i' k' => up_ne S (by decide)
  have n2 : ∀ i' k', ph_up S 0 0 k z 2 i' k' = S 2 i' k' := fun i' k' => up_ne S (by decide)
  have n3 : ∀ i' k', ph_up S 0 0 k z 3 i' k' = S 3 i' k' := fun i' k' => up_ne S (by decide)
  have n7 : ∀ i' k', ph_up S 0 0 k z 7 i' k' = S 7 i' k' := fun i' k' => up_ne S (by decide)
  have n8 : ∀ i' k', ph_up S 0 0 k z 8 i' k' = S 8 i' k' := fun i' k' => up_ne S (by decide)
  have n9 : ∀ i' k', ph_up S 0 0 k z 9 i' k' = S 9 i' k' := fun i' k' => up_ne S (by decide)
  have hc := h.c
  refine ⟨?_, fun j hj => ?_, fun j hj => ?_, fun j hj => ?_, fun j hj => ?_, fun j hj => ?_⟩
  · simp only [up_if]; grind (splits := 40)
  · have := h.s ((hl 1 j).mp hj)
    simp only [n1, up_if]; grind (splits := 40)
  · simp only [n2]; exact h.i ((hl 2 j).mp hj)
  · have := h.f ((hl 3 j).mp hj)
    simp only [n3, up_if]; grind (splits := 40)
  · simp only [n7, n8]; exact h.r hj
  · simp only [n9]
    rw [up_if] at hj
    rcases hk with rfl | rfl | rfl
    · rw [if_neg (by decide)] at hj; exact h.l hj
    · rw [if_pos (by decide)] at hj; exact (h10 rfl).2.2 j hj
    · rw [if_neg (by decide)] at hj; exact h.l hj
end
section
/-! ===== what the writes do ===== -/
def putS (S : ph_T) (i : Nat) : ph_T := if S 2 i 3 = 0 ∧ S 0 0 10 < 60 then ph_up (ph_up (ph_up S 2 i 3 1) 9 0 (S 0 0 10).toNat (i : Int)) 0 0 10 (S 0 0 10 + 1) else S
theorem putS_0 {S : ph_T} {i k : Nat} (hk : k ≠ 10) : putS S i 0 0 k = S 0 0 k := by
  unfold putS
  split
  · rw [ph_up_no _ _ (by omega), up_ne _ (by decide), up_ne _ (by decide)]
  · rfl
theorem putS_g {S : ph_T} {i g j k : Nat} (hg : g ≠ 0 ∧ g ≠ 9) (hk : g = 2 → k ≠ 3) : putS S i g j k = S g j k := by
  unfold putS
  split
  · rw [up_ne _ hg.1, up_ne _ hg.2, ph_up_no _ _ (by omega)]
  · rfl
theorem LC_eq {S S1 : ph_T} (h1 : S1 0 0 1 = S 0 0 1) (h3 : S1 0 0 3 = S 0 0 3) (h5 : S1 0 0 5 = S 0 0 5) (g i : Nat) : LC S1 g i ↔ LC S g i := by
  unfold LC
  split <;> simp only [h1, h3, h5]
theorem putS_L {S : ph_T} {i : Nat} (g j : Nat) : LC (putS S i) g j ↔ LC S g j := LC_eq (putS_0 (by decide)) (putS_0 (by decide)) (putS_0 (by decide)) g j
theorem IV.putS {S : ph_T} (h : IV S) {i : Nat} (hi : LC S 2 i) : IV (putS S i) := by
  have hc := h.c
  simp only [LC] at hi
  show IV (if _ then _ else _)
  split
  · have h1 : IV (ph_up S 2 i 3 1) := h.upI (by omega) (by omega) (by omega) (by omega) (by omega) (by omega) (by omega)
    have h2 := h1.upL (k := (S 0 0 10).toNat) (z := (i : Int)) (by omega)
    refine h2.up0 (by omega) (by omega) (fun _ => ⟨by omega, by omega, fun j hj => ?_⟩) (by omega)
    rw [up_if]
    split
    · omega
    · rw [up_ne _ (by decide)]
      exact h.l (by omega)
  · exact h
/-- the items that are off by a fault come on the list -/
noncomputable def loF (f : Int) : Nat → Nat → ph_T → ph_T
  | 0, _, S => S
  | n + 1, i, S => loF f n (i + 1) (if S 2 i 5 = 2 ∧ S 2 i 2 = f then putS S i else S)
theorem loF_t {f : Int} {n i : Nat} {S : ph_T} (h : S 2 i 5 = 2 ∧ S 2 i 2 = f) : loF f (n + 1) i S = loF f n (i + 1) (putS S i) := by
  show loF f n (i + 1) _ = _
  rw [if_pos h]
theorem loF_f {f : Int} {n i : Nat} {S : ph_T} (h : ¬ (S 2 i 5 = 2 ∧ S 2 i 2 = f)) : loF f (n + 1) i S = loF f n (i + 1) S := by
  show loF f n (i + 1) _ = _
  rw [if_neg h]
noncomputable def listS (S : ph_T) (f : Int) : ph_T := loF f (S 0 0 3).toNat 1 S
theorem loF_0 {f : Int} : ∀ (n i : Nat) (S : ph_T) (k : Nat), k ≠ 10 → loF f n i S 0 0 k = S 0 0 k
  | 0, _, _, _, _ => rfl
  | n + 1, i, S, k, hk => by
    by_cases h : S 2 i 5 = 2 ∧ S 2 i 2 = f
    · rw [loF_t h, loF_0 n (i + 1) _ k hk, putS_0 hk]
    · rw [loF_f h, loF_0 n (i + 1) _ k hk]
theorem loF_g {f : Int} {g j k : Nat} (hg : g ≠ 0 ∧ g ≠ 9) (hk : g = 2 → k ≠ 3) : ∀ (n i : Nat) (S : ph_T), loF f n i S g j k = S g j k
  | 0, _, _ => rfl
  | n + 1, i, S => by
    by_cases h : S 2 i 5 = 2 ∧ S 2 i 2 = f
    · rw [loF_t h, loF_g hg hk n (i + 1), putS_g hg hk]
    · rw [loF_f h, loF_g hg hk n (i + 1)]
theorem loF_V {f : Int} : ∀ (n i : Nat) (S : ph_T), IV S → 1 ≤ i → (i : Int) + n - 1 ≤ S 0 0 3 → IV (loF f n i S)
  | 0, _, _, h, _, _ => h
  | n + 1, i, S, h, h1, h2 => by
    by_cases q : S 2 i 5 = 2 ∧ S 2 i 2 = f
    · rw [loF_t q]
      exact loF_V n (i + 1) _ (h.putS (show LC S 2 i by simp only [LC]; omega)) (by omega) (by rw [putS_0 (by decide)]; omega)
    · rw [loF_f q]
      exact loF_V n (i + 1) _ h (by omega) (by omega)
/-- all items on the belt are off by a fault -/
noncomputable def takeS (S : ph_T) (i : Nat) (f : Int) : ph_T := if S 2 i 5 = 2 then S else ph_up (ph_up S 2 i 5 2) 2 i 2 f
theorem takeS_g {S : ph_T} {i g j k : Nat} {f : Int} (hg : g ≠ 2) : takeS S i f g j k = S g j k := by
  unfold takeS
  split
  · rfl
  · rw [up_ne _ hg, up_ne _ hg]
theorem IV.takeS {S : ph_T} (h : IV S) {i : Nat} {f : Int} (hf : 0 ≤ f ∧ f ≤ 40) : IV (takeS S i f) := by
  show IV (if _ then _ else _)
  split
  · exact h
  · exact IV.upI (IV.upI h (by omega) (by omega) (by omega) (by omega) (by omega) (by omega) (by omega)) (by omega) (by omega) (by omega) (by omega) (by omega) (by omega) (by omega)
noncomputable def ebF (f : Int) : Nat → Nat → ph_T → ph_T
  | 0, _, S => S
  | n + 1, i, S => ebF f n (i + 1) (if S 2 i 5 = 0 then takeS S i f else S)
theorem ebF_t {f : Int} {n i : Nat} {S : ph_T} (h : S 2 i 5 = 0) : ebF f (n + 1) i S = ebF f n (i + 1) (takeS S i f) := by
  show ebF f n (i + 1) _ = _
  rw [if_pos h]
theorem ebF_f {f : Int} {n i : Nat} {S : ph_T} (h : ¬ S 2 i 5 = 0) : ebF f (n + 1) i S = ebF f n (i + 1) S := by
  show ebF f n (i + 1) _ = _
  rw [if_neg h]
theorem ebF_g {f : Int} {g j k : Nat} (hg : g ≠ 2) : ∀ (n i : Nat) (S : ph_T), ebF f n i S g j k = S g j k
  | 0, _, _ => rfl
  | n + 1, i, S => by
    by_cases h : S 2 i 5 = 0
    · rw [ebF_t h, ebF_g hg n (i + 1), takeS_g hg]
    · rw [ebF_f h, ebF_g hg n (i + 1)]
theorem ebF_V {f : Int} (hf : 0 ≤ f ∧ f ≤ 40) : ∀ (n i : Nat) (S : ph_T), IV S → IV (ebF f n i S)
  | 0, _, _, h => h
  | n + 1, i, S, h => by
    by_cases q : S 2 i 5 = 0
    · rw [ebF_t q]; exact ebF_V hf n (i + 1) _ (h.takeS hf)
    · rw [ebF_f q]; exact ebF_V hf n (i + 1) _ h
def lightS (S : ph_T) (s : Nat) : ph_T := ph_up (ph_up S 1 s 2 0) 1 s 3 0
theorem lightS_g {S : ph_T} {s g j k : Nat} (hg : g ≠ 1) : lightS S s g j k = S g j k := by
  unfold lightS
  rw [up_ne _ hg, up_ne _ hg]
theorem IV.lightS {S : ph_T} (h : IV S) {s : Nat} : IV (lightS S s) := by
  have hc := h.c
  exact IV.upS (IV.upS h (by omega) (by omega) (by omega) (by omega) (by omega)) (by omega) (by omega) (fun _ => ⟨by omega, by rw [up_ne _ (by decide)]; omega⟩) (by omega) (by omega)
def liF : Nat → Nat → ph_T → ph_T
  | 0, _, S => S
  | n + 1, s, S => liF n (s + 1) (lightS S s)
theorem liF_s {n s : Nat} {S : ph_T} : liF (n + 1) s S = liF n (s + 1) (lightS S s) := rfl
theorem liF_g {g j k : Nat} (hg : g ≠ 1) : ∀ (n s : Nat) (S : ph_T), liF n s S g j k = S g j k
  | 0, _, _ => rfl
  | n + 1, s, S => by rw [liF_s, liF_g hg n (s + 1), lightS_g hg]
theorem liF_V : ∀ (n s : Nat) (S : ph_T), IV S → IV (liF n s S)
  | 0, _, _, h => h
  | n + 1, s, S, h => by rw [liF_s]; exact liF_V n (s + 1) _ h.lightS
noncomputable def emptyS (S : ph_T) (f : Int) : ph_T := liF (S 0 0 1).toNat 0 (ebF f (S 0 0 3).toNat 1 S)
theorem emptyS_g {S : ph_T} {f : Int} {g j k : Nat} (hg : g ≠ 1 ∧ g ≠ 2) : emptyS S f g j k = S g j k := by
  unfold emptyS
  rw [liF_g hg.1, ebF_g hg.2]
/-- step 5: all counts are 0 -/
def rcF : Nat → Nat → ph_T → ph_T
  | 0, _, S => S
  | n + 1, s, S => rcF n (s + 1) (ph_up S 1 s 1 0)
theorem rcF_s {n s : Nat} {S : ph_T} : rcF (n + 1) s S = rcF n (s + 1) (ph_up S 1 s 1 0) := rfl
theorem rcF_g {g j k : Nat} (hg : g ≠ 1) : ∀ (n s : Nat) (S : ph_T), rcF n s S g j k = S g j k
  | 0, _, _ => rfl
  | n + 1, s, S => by rw [rcF_s, rcF_g hg n (s + 1), up_ne _ hg]
theorem rcF_V : ∀ (n s : Nat) (S : ph_T), IV S → IV (rcF n s S)
  | 0, _, _, h => h
  | n + 1, s, S, h => by rw [rcF_s]; exact rcF_V n (s + 1) _ (h.upS (by omega) (by omega) (by omega) (by omega) (by omega))
def resetS (S : ph_T) : ph_T := rcF (S 0 0 1).toNat 0 S
end
section
/-! ===== writes of the class: the list, clearing ===== -/
set_option maxHeartbeats 4000000 in
set_option maxRecDepth 100000 in
theorem c_J_putOnList (l : Launch) (D : va_G) (dT : Nat → ClassId) (A : Nat → Prop) (KX : State → Prop) (L : Nat → Nat → Prop) (ad : Nat → Nat → Nat) (τ : ph_T) (S : ph_T) (o : Nat) (hI : JR S o L ad τ) (hV : IV S) (i : Nat) (hi : LC S 2 i) : ph_M l y_J_putOnList (.code y_J_putOnList b_J_putOnList 2 none :: TB) ({ frames := 0, cells := 0, slots := 0, locals := 0 } : Room) D CLs (TY dT) dT kd A KX [.ref (o), .int (ph_i ((i : Int)))] L ad τ (fun r L' ad' τ' => L' = L ∧ ad' = ad ∧ JR (putS S i) o L ad τ' ∧ r = none) 0 0 := by
  refine ph_M.of (cc := b_J_putOnList) (maxL := 2) (ret := none) (by decide) rfl (Nat.le_of_ble_eq_true rfl) ?_
  intro p e s m below meth c C0 hr hlk hnm
  have C := C0.sub
  refine ph_loc (l2 := [(0, .ref (o)), (1, .int (ph_i ((i : Int))))]) ⟨rfl, rfl, trivial⟩ ?_
  have hc := hV.c
  have hi9 := hV.i hi
  refine ph_aload_n (pc := 0) C d_J_putOnList_0 rfl ?_
  refine gt_J_21 (pc := 1) C d_J_putOnList_1 (hI.live (g := 0) (i := 0) rfl) hI.ob hI.r2 ?_
  refine ph_iload_n (pc := 4) C d_J_putOnList_4 rfl ?_
  refine ph_aald (pc := 5) (t := 1) C d_J_putOnList_5 (hI.live (g := 5) (i := 0) rfl) rfl rfl rfl i rfl (by have := hi; simp only [LC] at this; omega) (by decide) (ph_vr (hI.e5 hi)) ?_
  refine gt_J_142 (pc := 6) C d_J_putOnList_6 (hI.live hi) rfl (z := S 2 i 3) (hI.dat hi rfl) ?_
  refine ph_if_ne (pc := 9) (tgt := 51) C d_J_putOnList_9 (by decide) (by omega) (fun c9 => ?_) (fun c9 => ?_)
  · exact ph_vret (pc := 51) C d_J_putOnList_51 hr hlk (by decide) (by decide) ⟨rfl, rfl, (by unfold putS; rw [if_neg (by omega)]; exact hI), rfl⟩
  · refine ph_aload_n (pc := 12) C d_J_putOnList_12 rfl ?_
    refine gt_J_51 (pc := 13) C d_J_putOnList_13 (hI.live (g := 0) (i := 0) rfl) hI.ob (z := S 0 0 10) (hI.dat rfl rfl) ?_
    refine ph_bipush (pc := 16) C d_J_putOnList_16 (by decide) ?_
    refine ph_icmp_ge (pc := 18) (tgt := 51) C d_J_putOnList_18 (by decide) (by omega) (by omega) (fun c18 => ?_) (fun c18 => ?_)
    · exact ph_vret (pc := 51) C d_J_putOnList_51 hr hlk (by decide) (by decide) ⟨rfl, rfl, (by unfold putS; rw [if_neg (by omega)]; exact hI), rfl⟩
    · refine ph_aload_n (pc := 21) C d_J_putOnList_21 rfl ?_
      refine gt_J_21 (pc := 22) C d_J_putOnList_22 (hI.live (g := 0) (i := 0) rfl) hI.ob hI.r2 ?_
      refine ph_iload_n (pc := 25) C d_J_putOnList_25 rfl ?_
      refine ph_aald (pc := 26) (t := 1) C d_J_putOnList_26 (hI.live (g := 5) (i := 0) rfl) rfl rfl rfl i rfl (by have := hi; simp only [LC] at this; omega) (by decide) (ph_vr (hI.e5 hi)) ?_
      refine ph_iconst (pc := 27) C d_J_putOnList_27 ?_
      refine pt_J_142 (pc := 28) C d_J_putOnList_28 (by omega) (hI.live hi) rfl ?_
      have hI := hI.put (g := 2) (i := i) (k := 3) (1) rfl (by omega)
      generalize ph_up τ 2 i 3 (1) = τ at hI ⊢
      refine ph_aload_n (pc := 31) C d_J_putOnList_31 rfl ?_
      refine gt_J_47 (pc := 32) C d_J_putOnList_32 (hI.live (g := 0) (i := 0) rfl) hI.ob hI.r9 ?_
      refine ph_aload_n (pc := 35) C d_J_putOnList_35 rfl ?_
      refine gt_J_51 (pc := 36) C d_J_putOnList_36 (hI.live (g := 0) (i := 0) rfl) hI.ob (z := S 0 0 10) (hI.dat rfl rfl) ?_
      refine ph_iload_n (pc := 39) C d_J_putOnList_39 rfl ?_
      refine ph_iast (pc := 40) C d_J_putOnList_40 (hI.live (g := 9) (i := 0) rfl) rfl rfl rfl (S 0 0 10).toNat (by omega) (by omega) (by decide) ?_
      have hI := hI.put (g := 9) (i := 0) (k := (S 0 0 10).toNat) ((i : Int)) rfl (by omega)
      generalize ph_up τ 9 0 (S 0 0 10).toNat ((i : Int)) = τ at hI ⊢
      refine ph_aload_n (pc := 41) C d_J_putOnList_41 rfl ?_
      refine ph_dup (pc := 42) C d_J_putOnList_42 rfl ?_
      refine gt_J_51 (pc := 43) C d_J_putOnList_43 (hI.live (g := 0) (i := 0) rfl) hI.ob (z := S 0 0 10) (hI.dat rfl rfl) ?_
      refine ph_iconst (pc := 46) C d_J_putOnList_46 ?_
      refine ph_iadd (pc := 47) C d_J_putOnList_47 ?_
      refine pt_J_51 (pc := 48) C d_J_putOnList_48 (hI.live (g := 0) (i := 0) rfl) hI.ob ?_
      have hI := hI.put (g := 0) (i := 0) (k := 10) ((S 0 0 10) + (1)) rfl (by omega)
      generalize ph_up τ 0 0 10 ((S 0 0 10) + (1)) = τ at hI ⊢
      exact ph_vret (pc := 51) C d_J_putOnList_51 hr hlk (by decide) (by decide) ⟨rfl, rfl, (by unfold putS; rw [if_pos (by omega)]; exact hI), rfl⟩
set_option maxHeartbeats 4000000 in
set_option maxRecDepth 100000 in
theorem c_J_listOffBy (l : Launch) (D : va_G) (dT : Nat → ClassId) (A : Nat → Prop) (KX : State → Prop) (L : Nat → Nat → Prop) (ad : Nat → Nat → Nat) (τ : ph_T) (S : ph_T) (o : Nat) (hI : JR S o L ad τ) (hV : IV S) (f : Int) (hf : ph_ri f) : ph_M l y_J_listOffBy (.code y_J_listOffBy b_J_listOffBy 3 none :: TB) ({ frames := 1, cells := 0, slots := 0, locals := 21 } : Room) D CLs (TY dT) dT kd A KX [.ref (o), .int (ph_i (f))] L ad τ (fun r L' ad' τ' => L' = L ∧ ad' = ad ∧ JR (listS S f) o L ad τ' ∧ r = none) 0 0 := by
  refine ph_M.of (cc := b_J_listOffBy) (maxL := 3) (ret := none) (by decide) rfl (Nat.le_of_ble_eq_true rfl) ?_
  intro p e s m below meth c C0 hr hlk hnm
  have C := C0.sub
  refine ph_loc (l2 := [(0, .ref (o)), (1, .int (ph_i (f)))]) ⟨rfl, rfl, trivial⟩ ?_
  have hc := hV.c
  have loop : ∀ (n : Nat) (i : Nat) (S1 τ : ph_T), JR S1 o L ad τ → IV S1 → 1 ≤ i → S 0 0 3 = (i : Int) + n - 1 → S1 0 0 3 = S 0 0 3 → loF f n i S1 = listS S f → ph_W p l e ({ frames := 1, cells := 0, slots := 0, locals := 21 } : Room) s m [.ref (o), .int (ph_i (f))].toArray below meth c D CLs dT kd A 3 (MQ below (ph_Q D CLs dT kd A (fun r L' ad' τ' => L' = L ∧ ad' = ad ∧ JR (listS S f) o L ad τ' ∧ r = none)) [.ref (o), .int (ph_i (f))].toArray s 0 0 A) L ad τ 0 0 2 (ph_mk [(0, .ref (o)), (1, .int (ph_i (f))), (2, .int (ph_i ((i : Int))))]) [] := by
    intro n
    induction n with
    | zero =>
      intro i S1 τ hI hV h0 h1 h2 h3
      have hc := hV.c
      refine ph_iload_n (pc := 2) C d_J_listOffBy_2 rfl ?_
      refine ph_aload_n (pc := 3) C d_J_listOffBy_3 rfl ?_
      refine gt_J_25 (pc := 4) C d_J_listOffBy_4 (hI.live (g := 0) (i := 0) rfl) hI.ob (z := S1 0 0 3) (hI.dat rfl rfl) ?_
      refine ph_icmp_gt (pc := 7) (tgt := 46) C d_J_listOffBy_7 (by decide) (by first | omega | (have := hV.i (show LC S1 2 i by simp only [LC]; omega); omega)) (by first | omega | (have := hV.i (show LC S1 2 i by simp only [LC]; omega); omega)) (fun c7 => ?_) (fun c7 => ?_)
      · exact ph_vret (pc := 46) C d_J_listOffBy_46 hr hlk (by decide) (by decide) ⟨rfl, rfl, (by rw [← h3]; exact hI), rfl⟩
      · exfalso; omega
    | succ n ih =>
      intro i S1 τ hI hV h0 h1 h2 h3
      have hc := hV.c
      refine ph_iload_n (pc := 2) C d_J_listOffBy_2 rfl ?_
      refine ph_aload_n (pc := 3) C d_J_listOffBy_3 rfl ?_
      refine gt_J_25 (pc := 4) C d_J_listOffBy_4 (hI.live (g := 0) (i := 0) rfl) hI.ob (z := S1 0 0 3) (hI.dat rfl rfl) ?_
      refine ph_icmp_gt (pc := 7) (tgt := 46) C d_J_listOffBy_7 (by decide) (by first | omega | (have := hV.i (show LC S1 2 i by simp only [LC]; omega); omega)) (by first | omega | (have := hV.i (show LC S1 2 i by simp only [LC]; omega); omega)) (fun c7 => ?_) (fun c7 => ?_)
      · exfalso; omega
      · refine ph_aload_n (pc := 10) C d_J_listOffBy_10 rfl ?_
        refine gt_J_21 (pc := 11) C d_J_listOffBy_11 (hI.live (g := 0) (i := 0) rfl) hI.ob hI.r2 ?_
        refine ph_iload_n (pc := 14) C d_J_listOffBy_14 rfl ?_
        refine ph_aald (pc := 15) (t := 1) C d_J_listOffBy_15 (hI.live (g := 5) (i := 0) rfl) rfl rfl rfl i rfl (by have := (show LC S1 2 i by simp only [LC]; omega); simp only [LC] at this; omega) (by decide) (ph_vr (hI.e5 (show LC S1 2 i by simp only [LC]; omega))) ?_
        refine ph_callV (pc := 16) (rest := []) C d_J_listOffBy_16 (c_I_isOff l D dT A KX L ad τ i (ad 2 i) (hI.live (show LC S1 2 i by simp only [LC]; omega)) rfl (S1 2 i 5) (hI.dat (show LC S1 2 i by simp only [LC]; omega) rfl) (by have := hV.i (show LC S1 2 i by simp only [LC]; omega); omega)) (cwV 0 C.hts (gdV tw_321 tw_322 tw_323 tw_4 tw_324) rfl rfl rfl ⟨rfl, by decide, by decide, by decide⟩ ⟨by decide, by decide⟩) (hI.live (show LC S1 2 i by simp only [LC]; omega)) rfl rfl rfl rfl rfl rfl (by decide) ⟨by decide, by decide⟩ ?_
        rintro r1 L1 ad1 τ1 ⟨g1, g2, g3, g4⟩; obtain rfl := g1.symm; obtain rfl := g2.symm; obtain rfl := g3.symm; subst g4
        refine ph_bif_eq (pc := 19) (tgt := 40) C d_J_listOffBy_19 (by decide) (fun c19 => ?_) (fun c19 => ?_)
        · refine ph_iinc (pc := 40) C d_J_listOffBy_40 rfl rfl ?_
          refine ph_goto (pc := 43) (tgt := 2) C d_J_listOffBy_43 (by decide) ?_
          refine ph_loc (l2 := [(0, .ref (o)), (1, .int (ph_i (f))), (2, .int (ph_i (((i + 1 : Nat) : Int))))]) ⟨rfl, rfl, rfl, trivial⟩ ?_
          exact ih (i + 1) S1 τ hI hV (by omega) (by omega) h2 (by rw [← h3, loF_f (by omega)])
        · refine ph_aload_n (pc := 22) C d_J_listOffBy_22 rfl ?_
          refine gt_J_21 (pc := 23) C d_J_listOffBy_23 (hI.live (g := 0) (i := 0) rfl) hI.ob hI.r2 ?_
          refine ph_iload_n (pc := 26) C d_J_listOffBy_26 rfl ?_
          refine ph_aald (pc := 27) (t := 1) C d_J_listOffBy_27 (hI.live (g := 5) (i := 0) rfl) rfl rfl rfl i rfl (by have := (show LC S1 2 i by simp only [LC]; omega); simp only [LC] at this; omega) (by decide) (ph_vr (hI.e5 (show LC S1 2 i by simp only [LC]; omega))) ?_
          refine gt_J_278 (pc := 28) C d_J_listOffBy_28 (hI.live (show LC S1 2 i by simp only [LC]; omega)) rfl (z := S1 2 i 2) (hI.dat (show LC S1 2 i by simp only [LC]; omega) rfl) ?_
          refine ph_iload_n (pc := 31) C d_J_listOffBy_31 rfl ?_
          refine ph_icmp_ne (pc := 32) (tgt := 40) C d_J_listOffBy_32 (by decide) (by first | omega | (have := hV.i (show LC S1 2 i by simp only [LC]; omega); omega)) (by first | omega | (have := hV.i (show LC S1 2 i by simp only [LC]; omega); omega)) (fun c32 => ?_) (fun c32 => ?_)
          · refine ph_iinc (pc := 40) C d_J_listOffBy_40 rfl rfl ?_
            refine ph_goto (pc := 43) (tgt := 2) C d_J_listOffBy_43 (by decide) ?_
            refine ph_loc (l2 := [(0, .ref (o)), (1, .int (ph_i (f))), (2, .int (ph_i (((i + 1 : Nat) : Int))))]) ⟨rfl, rfl, rfl, trivial⟩ ?_
            exact ih (i + 1) S1 τ hI hV (by omega) (by omega) h2 (by rw [← h3, loF_f (by omega)])
          · refine ph_aload_n (pc := 35) C d_J_listOffBy_35 rfl ?_
            refine ph_iload_n (pc := 36) C d_J_listOffBy_36 rfl ?_
            refine ph_callV (pc := 37) (rest := []) C d_J_listOffBy_37 (c_J_putOnList l D dT A KX L ad τ S1 o hI hV i (show LC S1 2 i by simp only [LC]; omega)) (cwV 1 C.hts (gdV tw_325 tw_327 se_22 tw_1 tw_328) rfl rfl rfl ⟨rfl, by decide, by decide, by decide⟩ ⟨by decide, by decide⟩) (hI.live (g := 0) (i := 0) rfl) hI.ob rfl rfl rfl rfl rfl (by decide) ⟨by decide, by decide⟩ ?_
            rintro r1 L1 ad1 τ ⟨g1, g2, hI, g4⟩; obtain rfl := g1.symm; obtain rfl := g2.symm; subst g4
            obtain ⟨S2, e_S2⟩ : ∃ z, z = putS S1 i := ⟨_, rfl⟩
            rw [← e_S2] at hI
            have hV : IV S2 := by rw [e_S2]; exact hV.putS (show LC S1 2 i by simp only [LC]; omega)
            have hc := hV.c
            refine ph_iinc (pc := 40) C d_J_listOffBy_40 rfl rfl ?_
            refine ph_goto (pc := 43) (tgt := 2) C d_J_listOffBy_43 (by decide) ?_
            refine ph_loc (l2 := [(0, .ref (o)), (1, .int (ph_i (f))), (2, .int (ph_i (((i + 1 : Nat) : Int))))]) ⟨rfl, rfl, rfl, trivial⟩ ?_
            exact ih (i + 1) S2 τ hI hV (by omega) (by omega) (by rw [e_S2, putS_0 (by decide)]; exact h2) (by rw [e_S2, ← h3, loF_t ⟨by assumption, by assumption⟩])
  refine ph_iconst (pc := 0) C d_J_listOffBy_0 ?_
  refine ph_istore_n (pc := 1) C d_J_listOffBy_1 (by decide) rfl ?_
  refine ph_loc (l2 := [(0, .ref (o)), (1, .int (ph_i (f))), (2, .int (ph_i (((1 : Nat) : Int))))]) ⟨rfl, rfl, rfl, trivial⟩ ?_
  exact loop (S 0 0 3).toNat 1 S τ hI hV (by omega) (by omega) rfl rfl
set_option maxHeartbeats 4000000 in
set_option maxRecDepth 100000 in
theorem c_J_resetCounts (l : Launch) (D : va_G) (dT : Nat → ClassId) (A : Nat → Prop) (KX : State → Prop) (L : Nat → Nat → Prop) (ad : Nat → Nat → Nat) (τ : ph_T) (S : ph_T) (o : Nat) (hI : JR S o L ad τ) (hV : IV S)  : ph_M l y_J_resetCounts (.code y_J_resetCounts b_J_resetCounts 2 none :: TB) ({ frames := 0, cells := 0, slots := 0, locals := 0 } : Room) D CLs (TY dT) dT kd A KX [.ref (o)] L ad τ (fun r L' ad' τ' => L' = L ∧ ad' = ad ∧ JR (resetS S) o L ad τ' ∧ r = none) 0 0 := by
  refine ph_M.of (cc := b_J_resetCounts) (maxL := 2) (ret := none) (by decide) rfl (Nat.le_of_ble_eq_true rfl) ?_
  intro p e s m below meth c C0 hr hlk hnm
  have C := C0.sub
  refine ph_loc (l2 := [(0, .ref (o))]) ⟨rfl, trivial⟩ ?_
  have hc := hV.c
  have loop : ∀ (n : Nat) (i : Nat) (S1 τ : ph_T), JR S1 o L ad τ → IV S1 → S 0 0 1 = (i : Int) + n → S1 0 0 1 = S 0 0 1 → rcF n i S1 = resetS S → ph_W p l e ({ frames := 0, cells := 0, slots := 0, locals := 0 } : Room) s m [.ref (o)].toArray below meth c D CLs dT kd A 2 (MQ below (ph_Q D CLs dT kd A (fun r L' ad' τ' => L' = L ∧ ad' = ad ∧ JR (resetS S) o L ad τ' ∧ r = none)) [.ref (o)].toArray s 0 0 A) L ad τ 0 0 2 (ph_mk [(0, .ref (o)), (1, .int (ph_i ((i : Int))))]) [] := by
    intro n
    induction n with
    | zero =>
      intro i S1 τ hI hV h1 h2 h3
      have hc := hV.c
      refine ph_iload_n (pc := 2) C d_J_resetCounts_2 rfl ?_
      refine ph_aload_n (pc := 3) C d_J_resetCounts_3 rfl ?_
      refine gt_J_15 (pc := 4) C d_J_resetCounts_4 (hI.live (g := 0) (i := 0) rfl) hI.ob (z := S1 0 0 1) (hI.dat rfl rfl) ?_
      refine ph_icmp_ge (pc := 7) (tgt := 26) C d_J_resetCounts_7 (by decide) (by omega) (by omega) (fun c7 => ?_) (fun c7 => ?_)
      · exact ph_vret (pc := 26) C d_J_resetCounts_26 hr hlk (by decide) (by decide) ⟨rfl, rfl, (by rw [← h3]; exact hI), rfl⟩
      · exfalso; omega
    | succ n ih =>
      intro i S1 τ hI hV h1 h2 h3
      have hc := hV.c
      refine ph_iload_n (pc := 2) C d_J_resetCounts_2 rfl ?_
      refine ph_aload_n (pc := 3) C d_J_resetCounts_3 rfl ?_
      refine gt_J_15 (pc := 4) C d_J_resetCounts_4 (hI.live (g := 0) (i := 0) rfl) hI.ob (z := S1 0 0 1) (hI.dat rfl rfl) ?_
      refine ph_icmp_ge (pc := 7) (tgt := 26) C d_J_resetCounts_7 (by decide) (by omega) (by omega) (fun c7 => ?_) (fun c7 => ?_)
      · exfalso; omega
      · refine ph_aload_n (pc := 10) C d_J_resetCounts_10 rfl ?_
        refine gt_J_11 (pc := 11) C d_J_resetCounts_11 (hI.live (g := 0) (i := 0) rfl) hI.ob hI.r0 ?_
        refine ph_iload_n (pc := 14) C d_J_resetCounts_14 rfl ?_
        refine ph_aald (pc := 15) (t := 0) C d_J_resetCounts_15 (hI.live (g := 4) (i := 0) rfl) rfl rfl rfl i rfl (by have := (show LC S1 1 i by simp only [LC]; omega); simp only [LC] at this; omega) (by decide) (ph_vr (hI.e4 (show LC S1 1 i by simp only [LC]; omega))) ?_
        refine ph_iconst (pc := 16) C d_J_resetCounts_16 ?_
        refine pt_J_166 (pc := 17) C d_J_resetCounts_17 (hI.live (show LC S1 1 i by simp only [LC]; omega)) rfl ?_
        have hI := hI.put (g := 1) (i := i) (k := 1) (0) rfl (by omega)
        generalize ph_up τ 1 i 1 (0) = τ at hI ⊢
        refine ph_iinc (pc := 20) C d_J_resetCounts_20 rfl rfl ?_
        refine ph_goto (pc := 23) (tgt := 2) C d_J_resetCounts_23 (by decide) ?_
        refine ph_loc (l2 := [(0, .ref (o)), (1, .int (ph_i (((i + 1 : Nat) : Int))))]) ⟨rfl, rfl, trivial⟩ ?_
        exact ih (i + 1) (ph_up S1 1 i 1 (0)) τ hI (hV.upS (by omega) (by omega) (by omega) (by omega) (by omega)) (by omega) (by rw [up_ne _ (by decide)]; exact h2) (by rw [← h3, rcF_s])
  refine ph_iconst (pc := 0) C d_J_resetCounts_0 ?_
  refine ph_istore_n (pc := 1) C d_J_resetCounts_1 (by decide) rfl ?_
  refine ph_loc (l2 := [(0, .ref (o)), (1, .int (ph_i (((0 : Nat) : Int))))]) ⟨rfl, rfl, trivial⟩ ?_
  exact loop (S 0 0 1).toNat 0 S τ hI hV (by omega) rfl rfl
end
section
/-! ===== the small writes in the class's own words ===== -/
section JRW
variable {S : ph_T} {o : Nat} {L : Nat → Nat → Prop} {ad : Nat → Nat → Nat} {τ : ph_T}
theorem JR.take (h : JR S o L ad τ) (i : Nat) (f : Int) : JR (takeS S i f) o L ad (if S 2 i 5 = 2 then τ else ph_up (ph_up τ 2 i 5 2) 2 i 2 f) := by
  unfold takeS
  split
  · exact h
  · exact (h.put _ rfl (by omega)).put _ rfl (by omega)
theorem JR.light (h : JR S o L ad τ) (s : Nat) : JR (lightS S s) o L ad (ph_up (ph_up τ 1 s 2 0) 1 s 3 0) := (h.put _ rfl (by omega)).put _ rfl (by omega)
def darkS (S : ph_T) (s : Nat) (b t : Int) : ph_T := ph_up (ph_up (ph_up (ph_up S 1 s 2 1) 1 s 3 b) 1 s 4 t) 1 s 5 0
theorem JR.dark (h : JR S o L ad τ) (s : Nat) (b t : Int) : JR (darkS S s b t) o L ad (ph_up (ph_up (ph_up (ph_up τ 1 s 2 1) 1 s 3 b) 1 s 4 t) 1 s 5 0) := (((h.put _ rfl (by omega)).put _ rfl (by omega)).put _ rfl (by omega)).put _ rfl (by omega)
def leaveS (S : ph_T) (i : Nat) : ph_T := if S 2 i 5 = 0 then ph_up S 2 i 5 1 else S
theorem JR.leave (h : JR S o L ad τ) (i : Nat) : JR (leaveS S i) o L ad (if S 2 i 5 = 0 then ph_up τ 2 i 5 1 else τ) := by
  unfold leaveS
  split
  · exact h.put _ rfl (by omega)
  · exact h
def seeS (S : ph_T) (i s : Nat) : ph_T := ph_up S 2 i 6 (((S 2 i 6).toNat ||| 2 ^ s : Nat) : Int)
theorem JR.see (h : JR S o L ad τ) (i s : Nat) : JR (seeS S i s) o L ad (ph_up τ 2 i 6 (((S 2 i 6).toNat ||| 2 ^ s : Nat) : Int)) := h.put _ rfl (by omega)
end JRW
theorem IV.darkS {S : ph_T} (h : IV S) {s : Nat} {b t : Int} (hb : 0 ≤ b ∧ b ≤ S 0 0 3) (ht : 0 ≤ t ∧ t ≤ S 0 0 11) : IV (darkS S s b t) := by
  have h1 := h.upS (i := s) (k := 2) (z := 1) (by omega) (by omega) (by omega) (by omega) (by omega)
  have h2 := h1.upS (i := s) (k := 3) (z := b) (by omega) (by omega) (fun _ => by rw [up_ne _ (by decide)]; exact hb) (by omega) (by omega)
  have h3 := h2.upS (i := s) (k := 4) (z := t) (by omega) (by omega) (by omega) (fun _ => by rw [up_ne _ (by decide), up_ne _ (by decide)]; exact ht) (by omega)
  exact h3.upS (i := s) (k := 5) (z := 0) (by omega) (by omega) (by omega) (by omega) (by omega)
theorem IV.leaveS {S : ph_T} (h : IV S) {i : Nat} : IV (leaveS S i) := by
  show IV (if _ then _ else _)
  split
  · exact h.upI (by omega) (by omega) (by omega) (by omega) (by omega) (by omega) (by omega)
  · exact h
theorem IV.seeS {S : ph_T} (h : IV S) {i s : Nat} (hi : LC S 2 i) (hs : s < 8) : IV (seeS S i s) := by
  have h9 := h.i hi
  have h1 : (S 2 i 6).toNat ||| 2 ^ s < 2 ^ 8 := Nat.or_lt_two_pow (by omega) (Nat.pow_lt_pow_right (by decide) hs)
  generalize hq : (S 2 i 6).toNat ||| 2 ^ s = q at h1
  show IV (ph_up S 2 i 6 _)
  rw [hq]
  exact h.upI (by omega) (by omega) (by omega) (by omega) (by omega) (by omega) (by omega)
theorem darkS_g {S : ph_T} {s g j k : Nat} {b t : Int} (hg : g ≠ 1) : darkS S s b t g j k = S g j k := by
  unfold darkS
  rw [up_ne _ hg, up_ne _ hg, up_ne _ hg, up_ne _ hg]
theorem leaveS_g {S : ph_T} {i g j k : Nat} (hg : g ≠ 2) : leaveS S i g j k = S g j k := by
  unfold leaveS
  split
  · rw [up_ne _ hg]
  · rfl
theorem seeS_g {S : ph_T} {i s g j k : Nat} (hg : g ≠ 2) : seeS S i s g j k = S g j k := up_ne _ hg
theorem IV.emptyS {S : ph_T} (h : IV S) {f : Int} (hf : 0 ≤ f ∧ f ≤ 40) : IV (emptyS S f) := liF_V _ _ _ (ebF_V hf _ _ _ h)
theorem IV.listS {S : ph_T} (h : IV S) {f : Int} : IV (listS S f) := loF_V _ _ _ h (by omega) (by have := h.c; omega)
theorem IV.resetS {S : ph_T} (h : IV S) : IV (resetS S) := rcF_V _ _ _ h
/-- what is in a fault's doubt and off comes on the list -/
noncomputable def clF (f : Nat) : Nat → Nat → ph_T → ph_T
  | 0, _, S => S
  | n + 1, i, S => clF f n (i + 1) (@ite ph_T (dbit S f i ∧ S 2 i 5 = 2) (Classical.propDecidable _) (putS S i) S)
theorem clF_t {f n i : Nat} {S : ph_T} (h : dbit S f i ∧ S 2 i 5 = 2) : clF f (n + 1) i S = clF f n (i + 1) (putS S i) := by
  show clF f n (i + 1) _ = _
  rw [if_pos h]
theorem clF_f {f n i : Nat} {S : ph_T} (h : ¬ (dbit S f i ∧ S 2 i 5 = 2)) : clF f (n + 1) i S = clF f n (i + 1) S := by
  show clF f n (i + 1) _ = _
  rw [if_neg h]
theorem clF_0 {f : Nat} : ∀ (n i : Nat) (S : ph_T) (k : Nat), k ≠ 10 → clF f n i S 0 0 k = S 0 0 k
  | 0, _, _, _, _ => rfl
  | n + 1, i, S, k, hk => by
    rcases Classical.em (dbit S f i ∧ S 2 i 5 = 2) with h | h
    · rw [clF_t h, clF_0 n (i + 1) _ k hk, putS_0 hk]
    · rw [clF_f h, clF_0 n (i + 1) _ k hk]
theorem clF_g {f g j k : Nat} (hg : g ≠ 0 ∧ g ≠ 9) (hk : g = 2 → k ≠ 3) : ∀ (n i : Nat) (S : ph_T), clF f n i S g j k = S g j k
  | 0, _, _ => rfl
  | n + 1, i, S => by
    rcases Classical.em (dbit S f i ∧ S 2 i 5 = 2) with h | h
    · rw [clF_t h, clF_g hg hk n (i + 1), putS_g hg hk]
    · rw [clF_f h, clF_g hg hk n (i + 1)]
theorem clF_V {f : Nat} : ∀ (n i : Nat) (S : ph_T), IV S → 1 ≤ i → (i : Int) + n - 1 ≤ S 0 0 3 → IV (clF f n i S)
  | 0, _, _, h, _, _ => h
  | n + 1, i, S, h, h1, h2 => by
    rcases Classical.em (dbit S f i ∧ S 2 i 5 = 2) with q | q
    · rw [clF_t q]
      exact clF_V n (i + 1) _ (h.putS (show LC S 2 i by simp only [LC]; omega)) (by omega) (by rw [putS_0 (by decide)]; omega)
    · rw [clF_f q]
      exact clF_V n (i + 1) _ h (by omega) (by omega)
noncomputable def clrA (S : ph_T) (f : Nat) : ph_T := if S 3 f 4 = 0 then ph_up S 0 0 6 (f : Int) else emptyS (ph_up S 0 0 6 (f : Int)) (f : Int)
noncomputable def clrB (S : ph_T) (f : Nat) : ph_T := clF f (S 0 0 3).toNat 1 (clrA S f)
noncomputable def clearS (S : ph_T) (f : Nat) : ph_T := if S 3 f 4 = 0 then clrB S f else listS (clrB S f) (f : Int)
end
section
/-! ===== writes of the class: emptying, clearing ===== -/
set_option maxHeartbeats 4000000 in
set_option maxRecDepth 100000 in
theorem c_J_emptyBelt (l : Launch) (D : va_G) (dT : Nat → ClassId) (A : Nat → Prop) (KX : State → Prop) (L : Nat → Nat → Prop) (ad : Nat → Nat → Nat) (τ : ph_T) (S : ph_T) (o : Nat) (hI : JR S o L ad τ) (hV : IV S) (f : Int) (hf : 0 ≤ f ∧ f ≤ 40) : ph_M l y_J_emptyBelt (.code y_J_emptyBelt b_J_emptyBelt 3 none :: TB) ({ frames := 1, cells := 0, slots := 0, locals := 21 } : Room) D CLs (TY dT) dT kd A KX [.ref (o), .int (ph_i (f))] L ad τ (fun r L' ad' τ' => L' = L ∧ ad' = ad ∧ JR (emptyS S f) o L ad τ' ∧ r = none) 0 0 := by
  refine ph_M.of (cc := b_J_emptyBelt) (maxL := 3) (ret := none) (by decide) rfl (Nat.le_of_ble_eq_true rfl) ?_
  intro p e s m below meth c C0 hr hlk hnm
  have C := C0.sub
  refine ph_loc (l2 := [(0, .ref (o)), (1, .int (ph_i (f)))]) ⟨rfl, rfl, trivial⟩ ?_
  have hc := hV.c
  have loop2 : ∀ (n : Nat) (i : Nat) (S1 τ : ph_T), JR S1 o L ad τ → IV S1 → S 0 0 1 = (i : Int) + n → S1 0 0 1 = S 0 0 1 → liF n i S1 = emptyS S f → ph_W p l e ({ frames := 1, cells := 0, slots := 0, locals := 21 } : Room) s m [.ref (o), .int (ph_i (f))].toArray below meth c D CLs dT kd A 3 (MQ below (ph_Q D CLs dT kd A (fun r L' ad' τ' => L' = L ∧ ad' = ad ∧ JR (emptyS S f) o L ad τ' ∧ r = none)) [.ref (o), .int (ph_i (f))].toArray s 0 0 A) L ad τ 0 0 40 (ph_mk [(0, .ref (o)), (1, .int (ph_i (f))), (2, .int (ph_i ((i : Int))))]) [] := by
    intro n
    induction n with
    | zero =>
      intro i S1 τ hI hV h1 h2 h3
      have hc := hV.c
      refine ph_iload_n (pc := 40) C d_J_emptyBelt_40 rfl ?_
      refine ph_aload_n (pc := 41) C d_J_emptyBelt_41 rfl ?_
      refine gt_J_15 (pc := 42) C d_J_emptyBelt_42 (hI.live (g := 0) (i := 0) rfl) hI.ob (z := S1 0 0 1) (hI.dat rfl rfl) ?_
      refine ph_icmp_ge (pc := 45) (tgt := 63) C d_J_emptyBelt_45 (by decide) (by omega) (by omega) (fun c45 => ?_) (fun c45 => ?_)
      · exact ph_vret (pc := 63) C d_J_emptyBelt_63 hr hlk (by decide) (by decide) ⟨rfl, rfl, (by rw [← h3]; exact hI), rfl⟩
      · exfalso; omega
    | succ n ih =>
      intro i S1 τ hI hV h1 h2 h3
      have hc := hV.c
      refine ph_iload_n (pc := 40) C d_J_emptyBelt_40 rfl ?_
      refine ph_aload_n (pc := 41) C d_J_emptyBelt_41 rfl ?_
      refine gt_J_15 (pc := 42) C d_J_emptyBelt_42 (hI.live (g := 0) (i := 0) rfl) hI.ob (z := S1 0 0 1) (hI.dat rfl rfl) ?_
      refine ph_icmp_ge (pc := 45) (tgt := 63) C d_J_emptyBelt_45 (by decide) (by omega) (by omega) (fun c45 => ?_) (fun c45 => ?_)
      · exfalso; omega
      · refine ph_aload_n (pc := 48) C d_J_emptyBelt_48 rfl ?_
        refine gt_J_11 (pc := 49) C d_J_emptyBelt_49 (hI.live (g := 0) (i := 0) rfl) hI.ob hI.r0 ?_
        refine ph_iload_n (pc := 52) C d_J_emptyBelt_52 rfl ?_
        refine ph_aald (pc := 53) (t := 0) C d_J_emptyBelt_53 (hI.live (g := 4) (i := 0) rfl) rfl rfl rfl i rfl (by have := (show LC S1 1 i by simp only [LC]; omega); simp only [LC] at this; omega) (by decide) (ph_vr (hI.e4 (show LC S1 1 i by simp only [LC]; omega))) ?_
        refine ph_callV (pc := 54) (rest := []) C d_J_emptyBelt_54 (c_S_lighten l D dT A KX L ad τ i (ad 1 i) (hI.live (show LC S1 1 i by simp only [LC]; omega)) rfl) (cwV 0 C.hts (gdV tw_272 tw_273 tw_274 tw_3 tw_275) rfl rfl rfl ⟨rfl, by decide, by decide, by decide⟩ ⟨by decide, by decide⟩) (hI.live (show LC S1 1 i by simp only [LC]; omega)) rfl rfl rfl rfl rfl rfl (by decide) ⟨by decide, by decide⟩ ?_
        rintro r1 L1 ad1 τ2 ⟨g1, g2, g3, g4⟩; obtain rfl := g1.symm; obtain rfl := g2.symm; subst g4
        have hI := hI.light i
        rw [← g3] at hI
        clear g3
        obtain ⟨τ, rfl⟩ : ∃ z, z = τ2 := ⟨_, rfl⟩
        obtain ⟨S2, e_S2⟩ : ∃ z, z = lightS S1 i := ⟨_, rfl⟩
        rw [← e_S2] at hI
        have hV : IV S2 := by rw [e_S2]; exact hV.lightS
        have hc := hV.c
        refine ph_iinc (pc := 57) C d_J_emptyBelt_57 rfl rfl ?_
        refine ph_goto (pc := 60) (tgt := 40) C d_J_emptyBelt_60 (by decide) ?_
        refine ph_loc (l2 := [(0, .ref (o)), (1, .int (ph_i (f))), (2, .int (ph_i (((i + 1 : Nat) : Int))))]) ⟨rfl, rfl, rfl, trivial⟩ ?_
        exact ih (i + 1) S2 τ hI hV (by omega) (by rw [e_S2, lightS_g (by decide)]; exact h2) (by rw [e_S2, ← h3, liF_s])
  have loop1 : ∀ (n : Nat) (i : Nat) (S1 τ : ph_T), JR S1 o L ad τ → IV S1 → 1 ≤ i → S 0 0 3 = (i : Int) + n - 1 → S1 0 0 3 = S 0 0 3 → S1 0 0 1 = S 0 0 1 → ebF f n i S1 = ebF f (S 0 0 3).toNat 1 S → ph_W p l e ({ frames := 1, cells := 0, slots := 0, locals := 21 } : Room) s m [.ref (o), .int (ph_i (f))].toArray below meth c D CLs dT kd A 3 (MQ below (ph_Q D CLs dT kd A (fun r L' ad' τ' => L' = L ∧ ad' = ad ∧ JR (emptyS S f) o L ad τ' ∧ r = none)) [.ref (o), .int (ph_i (f))].toArray s 0 0 A) L ad τ 0 0 2 (ph_mk [(0, .ref (o)), (1, .int (ph_i (f))), (2, .int (ph_i ((i : Int))))]) [] := by
    intro n
    induction n with
    | zero =>
      intro i S1 τ hI hV h0 h1 h2 h3 h4
      have hc := hV.c
      refine ph_iload_n (pc := 2) C d_J_emptyBelt_2 rfl ?_
      refine ph_aload_n (pc := 3) C d_J_emptyBelt_3 rfl ?_
      refine gt_J_25 (pc := 4) C d_J_emptyBelt_4 (hI.live (g := 0) (i := 0) rfl) hI.ob (z := S1 0 0 3) (hI.dat rfl rfl) ?_
      refine ph_icmp_gt (pc := 7) (tgt := 38) C d_J_emptyBelt_7 (by decide) (by omega) (by omega) (fun c7 => ?_) (fun c7 => ?_)
      · refine ph_iconst (pc := 38) C d_J_emptyBelt_38 ?_
        refine ph_istore_n (pc := 39) C d_J_emptyBelt_39 (by decide) rfl ?_
        refine ph_loc (l2 := [(0, .ref (o)), (1, .int (ph_i (f))), (2, .int (ph_i (((0 : Nat) : Int))))]) ⟨rfl, rfl, rfl, trivial⟩ ?_
        exact loop2 (S 0 0 1).toNat 0 S1 τ hI hV (by omega) h3 (by rw [emptyS, ← h4]; rfl)
      · exfalso; omega
    | succ n ih =>
      intro i S1 τ hI hV h0 h1 h2 h3 h4
      have hc := hV.c
      refine ph_iload_n (pc := 2) C d_J_emptyBelt_2 rfl ?_
      refine ph_aload_n (pc := 3) C d_J_emptyBelt_3 rfl ?_
      refine gt_J_25 (pc := 4) C d_J_emptyBelt_4 (hI.live (g := 0) (i := 0) rfl) hI.ob (z := S1 0 0 3) (hI.dat rfl rfl) ?_
      refine ph_icmp_gt (pc := 7) (tgt := 38) C d_J_emptyBelt_7 (by decide) (by omega) (by omega) (fun c7 => ?_) (fun c7 => ?_)
      · exfalso; omega
      · refine ph_aload_n (pc := 10) C d_J_emptyBelt_10 rfl ?_
        refine gt_J_21 (pc := 11) C d_J_emptyBelt_11 (hI.live (g := 0) (i := 0) rfl) hI.ob hI.r2 ?_
        refine ph_iload_n (pc := 14) C d_J_emptyBelt_14 rfl ?_
        refine ph_aald (pc := 15) (t := 1) C d_J_emptyBelt_15 (hI.live (g := 5) (i := 0) rfl) rfl rfl rfl i rfl (by have := (show LC S1 2 i by simp only [LC]; omega); simp only [LC] at this; omega) (by decide) (ph_vr (hI.e5 (show LC S1 2 i by simp only [LC]; omega))) ?_
        refine ph_callV (pc := 16) (rest := []) C d_J_emptyBelt_16 (c_I_isOnBelt l D dT A KX L ad τ i (ad 2 i) (hI.live (show LC S1 2 i by simp only [LC]; omega)) rfl (S1 2 i 5) (hI.dat (show LC S1 2 i by simp only [LC]; omega) rfl) (by have := hV.i (show LC S1 2 i by simp only [LC]; omega); omega)) (cwV 0 C.hts (gdV tw_214 tw_215 tw_216 tw_4 tw_217) rfl rfl rfl ⟨rfl, by decide, by decide, by decide⟩ ⟨by decide, by decide⟩) (hI.live (show LC S1 2 i by simp only [LC]; omega)) rfl rfl rfl rfl rfl rfl (by decide) ⟨by decide, by decide⟩ ?_
        rintro r1 L1 ad1 τ1 ⟨g1, g2, g3, g4⟩; obtain rfl := g1.symm; obtain rfl := g2.symm; obtain rfl := g3.symm; subst g4
        refine ph_bif_eq (pc := 19) (tgt := 32) C d_J_emptyBelt_19 (by decide) (fun c19 => ?_) (fun c19 => ?_)
        · refine ph_iinc (pc := 32) C d_J_emptyBelt_32 rfl rfl ?_
          refine ph_goto (pc := 35) (tgt := 2) C d_J_emptyBelt_35 (by decide) ?_
          refine ph_loc (l2 := [(0, .ref (o)), (1, .int (ph_i (f))), (2, .int (ph_i (((i + 1 : Nat) : Int))))]) ⟨rfl, rfl, rfl, trivial⟩ ?_
          exact ih (i + 1) S1 τ hI hV (by omega) (by omega) h2 h3 (by rw [← h4, ebF_f (by assumption)])
        · refine ph_aload_n (pc := 22) C d_J_emptyBelt_22 rfl ?_
          refine gt_J_21 (pc := 23) C d_J_emptyBelt_23 (hI.live (g := 0) (i := 0) rfl) hI.ob hI.r2 ?_
          refine ph_iload_n (pc := 26) C d_J_emptyBelt_26 rfl ?_
          refine ph_aald (pc := 27) (t := 1) C d_J_emptyBelt_27 (hI.live (g := 5) (i := 0) rfl) rfl rfl rfl i rfl (by have := (show LC S1 2 i by simp only [LC]; omega); simp only [LC] at this; omega) (by decide) (ph_vr (hI.e5 (show LC S1 2 i by simp only [LC]; omega))) ?_
          refine ph_iload_n (pc := 28) C d_J_emptyBelt_28 rfl ?_
          refine ph_callV (pc := 29) (rest := []) C d_J_emptyBelt_29 (c_I_takeOffBelt l D dT A KX L ad τ i (ad 2 i) (hI.live (show LC S1 2 i by simp only [LC]; omega)) rfl (S1 2 i 5) (hI.dat (show LC S1 2 i by simp only [LC]; omega) rfl) (by have := hV.i (show LC S1 2 i by simp only [LC]; omega); omega) f) (cwV 1 C.hts (gdV tw_239 tw_240 tw_241 tw_4 tw_242) rfl rfl rfl ⟨rfl, by decide, by decide, by decide⟩ ⟨by decide, by decide⟩) (hI.live (show LC S1 2 i by simp only [LC]; omega)) rfl rfl rfl rfl rfl rfl (by decide) ⟨by decide, by decide⟩ ?_
          rintro r1 L1 ad1 τ2 ⟨g1, g2, g3, g4⟩; obtain rfl := g1.symm; obtain rfl := g2.symm; subst g4
          have hI := hI.take i f
          rw [← g3] at hI
          clear g3
          obtain ⟨τ, rfl⟩ : ∃ z, z = τ2 := ⟨_, rfl⟩
          obtain ⟨S2, e_S2⟩ : ∃ z, z = takeS S1 i f := ⟨_, rfl⟩
          rw [← e_S2] at hI
          have hV : IV S2 := by rw [e_S2]; exact hV.takeS hf
          have hc := hV.c
          refine ph_iinc (pc := 32) C d_J_emptyBelt_32 rfl rfl ?_
          refine ph_goto (pc := 35) (tgt := 2) C d_J_emptyBelt_35 (by decide) ?_
          refine ph_loc (l2 := [(0, .ref (o)), (1, .int (ph_i (f))), (2, .int (ph_i (((i + 1 : Nat) : Int))))]) ⟨rfl, rfl, rfl, trivial⟩ ?_
          exact ih (i + 1) S2 τ hI hV (by omega) (by omega) (by rw [e_S2, takeS_g (by decide)]; exact h2) (by rw [e_S2, takeS_g (by decide)]; exact h3) (by rw [e_S2, ← h4, ebF_t (by assumption)])
  refine ph_iconst (pc := 0) C d_J_emptyBelt_0 ?_
  refine ph_istore_n (pc := 1) C d_J_emptyBelt_1 (by decide) rfl ?_
  refine ph_loc (l2 := [(0, .ref (o)), (1, .int (ph_i (f))), (2, .int (ph_i (((1 : Nat) : Int))))]) ⟨rfl, rfl, rfl, trivial⟩ ?_
  exact loop1 (S 0 0 3).toNat 1 S τ hI hV (by omega) (by omega) rfl rfl rfl
end
section
/-! ===== rule, feed, step ===== -/
def ruleOk (x y : Int) : Prop := (1 ≤ x ∧ x ≤ 6) ∧ 0 ≤ y ∧ y ≤ 1
noncomputable def rulev (S : ph_T) (x y : Int) : Int := @ite Int (ruleOk x y) (Classical.propDecidable _) (if S 7 0 x.toNat = 0 then 0 else 1) (-12)
noncomputable def ruleS (S : ph_T) (x y t : Int) : ph_T := @ite ph_T (ruleOk x y) (Classical.propDecidable _) (ph_up (ph_up S 7 0 x.toNat (if y = 1 then 1 else 0)) 8 0 x.toNat t) S
theorem ruleS_t {S : ph_T} {x y t : Int} (h : ruleOk x y) : ruleS S x y t = ph_up (ph_up S 7 0 x.toNat (if y = 1 then 1 else 0)) 8 0 x.toNat t := if_pos h
theorem ruleS_f {S : ph_T} {x y t : Int} (h : ¬ ruleOk x y) : ruleS S x y t = S := if_neg h
theorem IV.ruleS {S : ph_T} (h : IV S) {x y t : Int} (ht : t = 0 ∨ t = 1) : IV (ruleS S x y t) := by
  rcases Classical.em (ruleOk x y) with q | q
  · rw [ruleS_t q]
    exact (h.upR (Or.inl rfl) (by split <;> omega)).upR (Or.inr rfl) ht
  · rw [ruleS_f q]
    exact h
/-- an item goes off the list: those behind it move up -/
def tlF (x : Int) : Nat → Nat → Nat → ph_T → ph_T
  | 0, _, kp, S => ph_up S 0 0 10 (kp : Int)
  | n + 1, k, kp, S => if S 9 0 k = x then tlF x n (k + 1) kp S else tlF x n (k + 1) (kp + 1) (ph_up S 9 0 kp (S 9 0 k))
theorem tlF_t {x : Int} {n k kp : Nat} {S : ph_T} (h : S 9 0 k = x) : tlF x (n + 1) k kp S = tlF x n (k + 1) kp S := if_pos h
theorem tlF_f {x : Int} {n k kp : Nat} {S : ph_T} (h : ¬ S 9 0 k = x) : tlF x (n + 1) k kp S = tlF x n (k + 1) (kp + 1) (ph_up S 9 0 kp (S 9 0 k)) := if_neg h
def dropS (S : ph_T) (x : Int) : ph_T := tlF x (S 0 0 10).toNat 0 0 S
theorem tlF_V {x : Int} : ∀ (n k kp : Nat) (S : ph_T), IV S → kp ≤ k → S 0 0 10 = (k : Int) + n → IV (tlF x n k kp S)
  | 0, k, kp, S, h, h1, h2 => by
    have hc := h.c
    exact h.up0 (k := 10) (by omega) (by omega) (fun _ => ⟨by omega, by omega, fun j hj => h.l (by omega)⟩) (by omega)
  | n + 1, k, kp, S, h, h1, h2 => by
    by_cases q : S 9 0 k = x
    · rw [tlF_t q]
      exact tlF_V n (k + 1) kp S h (by omega) (by omega)
    · rw [tlF_f q]
      exact tlF_V n (k + 1) (kp + 1) _ (h.upL (h.l (by omega))) (by omega) (by rw [up_ne _ (by decide)]; omega)
theorem IV.dropS {S : ph_T} (h : IV S) {x : Int} : IV (dropS S x) := tlF_V _ _ _ _ h (by omega) (by have := h.c; omega)
theorem tlF_0 {x : Int} {g j q : Nat} (hg : g ≠ 9) (hq : g = 0 → q ≠ 10) : ∀ (n k kp : Nat) (S : ph_T), tlF x n k kp S g j q = S g j q
  | 0, k, kp, S => ph_up_no _ _ (by omega)
  | n + 1, k, kp, S => by
    by_cases h : S 9 0 k = x
    · rw [tlF_t h, tlF_0 hg hq n]
    · rw [tlF_f h, tlF_0 hg hq n, up_ne _ hg]
def feedv (S : ph_T) (x : Int) : Int := if ¬ (1 ≤ x ∧ x ≤ S 0 0 3) then -11 else if ¬ S 2 x.toNat 4 = 0 then 0 else if S 2 x.toNat 3 = 0 then -13 else 1
def feedS (S : ph_T) (x : Int) : ph_T := if (1 ≤ x ∧ x ≤ S 0 0 3) ∧ S 2 x.toNat 4 = 0 ∧ ¬ S 2 x.toNat 3 = 0 then dropS (ph_up S 2 x.toNat 4 1) x else S
theorem IV.feedS {S : ph_T} (h : IV S) {x : Int} : IV (feedS S x) := by
  show IV (if _ then _ else _)
  split
  · exact IV.dropS (h.upI (by omega) (by omega) (by omega) (by omega) (by omega) (by omega) (by omega))
  · exact h
theorem IV.clrA {S : ph_T} (h : IV S) {f : Nat} (hf : LC S 3 f) : IV (clrA S f) := by
  have hc := h.c
  simp only [LC] at hf
  have h1 : IV (ph_up S 0 0 6 (f : Int)) := h.up0 (by omega) (by omega) (by omega) (by omega)
  show IV (if _ then _ else _)
  split
  · exact h1
  · exact h1.emptyS (by omega)
theorem clrA_0 {S : ph_T} {f k : Nat} (hk : k ≠ 6) : clrA S f 0 0 k = S 0 0 k := by
  unfold clrA
  split
  · exact ph_up_no _ _ (by omega)
  · rw [emptyS_g (by decide)]; exact ph_up_no _ _ (by omega)
theorem IV.clrB {S : ph_T} (h : IV S) {f : Nat} (hf : LC S 3 f) : IV (clrB S f) := clF_V _ _ _ (h.clrA hf) (by omega) (by have := h.c; rw [clrA_0 (by decide)]; omega)
theorem IV.clearS {S : ph_T} (h : IV S) {f : Nat} (hf : LC S 3 f) : IV (clearS S f) := by
  show IV (if _ then _ else _)
  split
  · exact h.clrB hf
  · exact (h.clrB hf).listS
noncomputable def stA (S : ph_T) (f : Nat) (y : Int) : ph_T := if y = 5 then resetS (ph_up S 3 f 6 (S 3 f 6 + 1)) else ph_up S 3 f 6 (S 3 f 6 + 1)
noncomputable def stB (S : ph_T) (f : Nat) (y : Int) : ph_T := if nextv (stA S f y) f = 0 then clearS (stA S f y) f else stA S f y
def stOk (S : ph_T) (x y : Int) : Prop := (1 ≤ x ∧ x ≤ S 0 0 5) ∧ (1 ≤ y ∧ y ≤ 5) ∧ x = S 0 0 6 + 1 ∧ nextv S x.toNat = y
noncomputable def stepS (S : ph_T) (x y : Int) : ph_T := @ite ph_T (stOk S x y) (Classical.propDecidable _) (stB S x.toNat y) S
def stepv (S : ph_T) (x y : Int) : Int := if ¬ (1 ≤ x ∧ x ≤ S 0 0 5) then -11 else if y < 1 ∨ 5 < y then -12 else if ¬ x = S 0 0 6 + 1 then -13 else if nextv S x.toNat = y then 1 else 0
theorem resetS_g {S : ph_T} {g j k : Nat} (hg : g ≠ 1) : resetS S g j k = S g j k := rcF_g hg _ _ _
theorem stT_r (j : Nat) : 0 ≤ stT j ∧ stT j ≤ 5 := by
  unfold stT
  split <;> omega
theorem nextv_r (S : ph_T) (f : Nat) : 0 ≤ nextv S f ∧ nextv S f ≤ 5 := by
  unfold nextv
  split
  · omega
  · exact stT_r _
theorem nextv_l {S : ph_T} {f : Nat} (h : 1 ≤ nextv S f) : S 3 f 6 ≤ 2 := by
  unfold nextv at h
  split at h
  · omega
  · omega
end
section
/-! ===== clear, rule, feed, step ===== -/
set_option maxHeartbeats 4000000 in
set_option maxRecDepth 100000 in
theorem c_J_clear (l : Launch) (D : va_G) (dT : Nat → ClassId) (A : Nat → Prop) (KX : State → Prop) (L : Nat → Nat → Prop) (ad : Nat → Nat → Nat) (τ : ph_T) (S : ph_T) (o : Nat) (hI : JR S o L ad τ) (hV : IV S) (f0 : Nat) (hf : LC S 3 f0) : ph_M l y_J_clear (.code y_J_clear b_J_clear 4 none :: TB) ({ frames := 2, cells := 0, slots := 0, locals := 43 } : Room) D CLs (TY dT) dT kd A KX [.ref (o), .int (ph_i ((f0 : Int)))] L ad τ (fun r L' ad' τ' => L' = L ∧ ad' = ad ∧ JR (clearS S f0) o L ad τ' ∧ r = none) 0 0 := by
  refine ph_M.of (cc := b_J_clear) (maxL := 4) (ret := none) (by decide) rfl (Nat.le_of_ble_eq_true rfl) ?_
  intro p e s m below meth c C0 hr hlk hnm
  have C := C0.sub
  refine ph_loc (l2 := [(0, .ref (o)), (1, .int (ph_i ((f0 : Int))))]) ⟨rfl, rfl, trivial⟩ ?_
  have hc := hV.c
  have hf8 := id hf
  simp only [LC] at hf8
  have hf9 := hV.f hf
  have loop : ∀ (n : Nat) (i : Nat) (S1 τ : ph_T), JR S1 o L ad τ → IV S1 → LC S1 3 f0 → 1 ≤ i → S 0 0 3 = (i : Int) + n - 1 → S1 0 0 3 = S 0 0 3 → S1 3 f0 4 = S 3 f0 4 → clF f0 n i S1 = clrB S f0 → ph_W p l e ({ frames := 2, cells := 0, slots := 0, locals := 43 } : Room) s m [.ref (o), .int (ph_i ((f0 : Int)))].toArray below meth c D CLs dT kd A 4 (MQ below (ph_Q D CLs dT kd A (fun r L' ad' τ' => L' = L ∧ ad' = ad ∧ JR (clearS S f0) o L ad τ' ∧ r = none)) [.ref (o), .int (ph_i ((f0 : Int)))].toArray s 0 0 A) L ad τ 0 0 26 (ph_mk [(0, .ref (o)), (1, .int (ph_i ((f0 : Int)))), (2, .ref (ad 3 f0)), (3, .int (ph_i ((i : Int))))]) [] := by
    intro n
    induction n with
    | zero =>
      intro i S1 τ hI hV hf h0 h1 h2 h3 h5
      have hc := hV.c
      refine ph_iload_n (pc := 26) C d_J_clear_26 rfl ?_
      refine ph_aload_n (pc := 27) C d_J_clear_27 rfl ?_
      refine gt_J_25 (pc := 28) C d_J_clear_28 (hI.live (g := 0) (i := 0) rfl) hI.ob (z := S1 0 0 3) (hI.dat rfl rfl) ?_
      refine ph_icmp_gt (pc := 31) (tgt := 65) C d_J_clear_31 (by decide) (by first | omega | (have := hV.f hf; omega)) (by first | omega | (have := hV.f hf; omega)) (fun c31 => ?_) (fun c31 => ?_)
      · refine ph_aload_n (pc := 65) C d_J_clear_65 rfl ?_
        refine gt_J_169 (pc := 66) C d_J_clear_66 (hI.live hf) rfl (z := S1 3 f0 4) (hI.dat hf rfl) ?_
        refine ph_if_eq (pc := 69) (tgt := 77) C d_J_clear_69 (by decide) (by first | omega | (have := hV.f hf; omega)) (fun c69 => ?_) (fun c69 => ?_)
        · exact ph_vret (pc := 77) C d_J_clear_77 hr hlk (by decide) (by decide) ⟨rfl, rfl, (by unfold clearS; rw [if_pos (by omega), ← h5]; exact hI), rfl⟩
        · refine ph_aload_n (pc := 72) C d_J_clear_72 rfl ?_
          refine ph_iload_n (pc := 73) C d_J_clear_73 rfl ?_
          refine ph_callV (pc := 74) (rest := []) C d_J_clear_74 (c_J_listOffBy l D dT A KX L ad τ S1 o hI hV (f0 : Int) (by omega)) (cwV 1 C.hts (gdV tw_329 tw_331 se_23 tw_1 tw_332) rfl rfl rfl ⟨rfl, by decide, by decide, by decide⟩ ⟨by decide, by decide⟩) (hI.live (g := 0) (i := 0) rfl) hI.ob rfl rfl rfl rfl rfl (by decide) ⟨by decide, by decide⟩ ?_
          rintro r1 L1 ad1 τ ⟨g1, g2, hI, g4⟩; obtain rfl := g1.symm; obtain rfl := g2.symm; subst g4
          obtain ⟨S3, e_S3⟩ : ∃ z, z = listS S1 (f0 : Int) := ⟨_, rfl⟩
          rw [← e_S3] at hI
          have hV : IV S3 := by rw [e_S3]; exact hV.listS
          have hc := hV.c
          exact ph_vret (pc := 77) C d_J_clear_77 hr hlk (by decide) (by decide) ⟨rfl, rfl, (by rw [e_S3] at hI; unfold clearS; rw [if_neg (by omega), ← h5]; exact hI), rfl⟩
      · exfalso; omega
    | succ n ih =>
      intro i S1 τ hI hV hf h0 h1 h2 h3 h5
      have hc := hV.c
      refine ph_iload_n (pc := 26) C d_J_clear_26 rfl ?_
      refine ph_aload_n (pc := 27) C d_J_clear_27 rfl ?_
      refine gt_J_25 (pc := 28) C d_J_clear_28 (hI.live (g := 0) (i := 0) rfl) hI.ob (z := S1 0 0 3) (hI.dat rfl rfl) ?_
      refine ph_icmp_gt (pc := 31) (tgt := 65) C d_J_clear_31 (by decide) (by first | omega | (have := hV.f hf; omega)) (by first | omega | (have := hV.f hf; omega)) (fun c31 => ?_) (fun c31 => ?_)
      · exfalso; omega
      · refine ph_aload_n (pc := 34) C d_J_clear_34 rfl ?_
        refine ph_iload_n (pc := 35) C d_J_clear_35 rfl ?_
        refine ph_callV (pc := 36) (rest := []) C d_J_clear_36 (c_F_doubts l D dT A KX L ad τ f0 (ad 3 f0) (hI.live hf) rfl (S1 3 f0 5).toNat i (by rw [hI.dat hf rfl]; have := hV.f hf; omega) (by have := hV.f hf; omega) (by omega)) (cwV 1 C.hts (gdV tw_284 tw_285 tw_286 tw_5 tw_287) rfl rfl rfl ⟨rfl, by decide, by decide, by decide⟩ ⟨by decide, by decide⟩) (hI.live hf) rfl rfl rfl rfl rfl rfl (by decide) ⟨by decide, by decide⟩ ?_
        rintro r1 L1 ad1 τ1 ⟨g1, g2, g3, g4⟩; obtain rfl := g1.symm; obtain rfl := g2.symm; obtain rfl := g3.symm; subst g4
        refine ph_bif_eq (pc := 39) (tgt := 59) C d_J_clear_39 (by decide) (fun c39 => ?_) (fun c39 => ?_)
        · refine ph_iinc (pc := 59) C d_J_clear_59 rfl rfl ?_
          refine ph_goto (pc := 62) (tgt := 26) C d_J_clear_62 (by decide) ?_
          refine ph_loc (l2 := [(0, .ref (o)), (1, .int (ph_i ((f0 : Int)))), (2, .ref (ad 3 f0)), (3, .int (ph_i (((i + 1 : Nat) : Int))))]) ⟨rfl, rfl, rfl, rfl, trivial⟩ ?_
          exact ih (i + 1) S1 τ hI hV hf (by omega) (by omega) h2 h3 (by rw [← h5, clF_f (fun q => by first | exact absurd q.1 (by assumption) | exact absurd q.2 (by assumption))])
        · refine ph_aload_n (pc := 42) C d_J_clear_42 rfl ?_
          refine gt_J_21 (pc := 43) C d_J_clear_43 (hI.live (g := 0) (i := 0) rfl) hI.ob hI.r2 ?_
          refine ph_iload_n (pc := 46) C d_J_clear_46 rfl ?_
          refine ph_aald (pc := 47) (t := 1) C d_J_clear_47 (hI.live (g := 5) (i := 0) rfl) rfl rfl rfl i rfl (by have := (show LC S1 2 i by simp only [LC]; omega); simp only [LC] at this; omega) (by decide) (ph_vr (hI.e5 (show LC S1 2 i by simp only [LC]; omega))) ?_
          refine ph_callV (pc := 48) (rest := []) C d_J_clear_48 (c_I_isOff l D dT A KX L ad τ i (ad 2 i) (hI.live (show LC S1 2 i by simp only [LC]; omega)) rfl (S1 2 i 5) (hI.dat (show LC S1 2 i by simp only [LC]; omega) rfl) (by have := hV.i (show LC S1 2 i by simp only [LC]; omega); omega)) (cwV 0 C.hts (gdV tw_321 tw_322 tw_323 tw_4 tw_324) rfl rfl rfl ⟨rfl, by decide, by decide, by decide⟩ ⟨by decide, by decide⟩) (hI.live (show LC S1 2 i by simp only [LC]; omega)) rfl rfl rfl rfl rfl rfl (by decide) ⟨by decide, by decide⟩ ?_
          rintro r1 L1 ad1 τ1 ⟨g1, g2, g3, g4⟩; obtain rfl := g1.symm; obtain rfl := g2.symm; obtain rfl := g3.symm; subst g4
          refine ph_bif_eq (pc := 51) (tgt := 59) C d_J_clear_51 (by decide) (fun c51 => ?_) (fun c51 => ?_)
          · refine ph_iinc (pc := 59) C d_J_clear_59 rfl rfl ?_
            refine ph_goto (pc := 62) (tgt := 26) C d_J_clear_62 (by decide) ?_
            refine ph_loc (l2 := [(0, .ref (o)), (1, .int (ph_i ((f0 : Int)))), (2, .ref (ad 3 f0)), (3, .int (ph_i (((i + 1 : Nat) : Int))))]) ⟨rfl, rfl, rfl, rfl, trivial⟩ ?_
            exact ih (i + 1) S1 τ hI hV hf (by omega) (by omega) h2 h3 (by rw [← h5, clF_f (fun q => by first | exact absurd q.1 (by assumption) | exact absurd q.2 (by assumption))])
          · refine ph_aload_n (pc := 54) C d_J_clear_54 rfl ?_
            refine ph_iload_n (pc := 55) C d_J_clear_55 rfl ?_
            refine ph_callV (pc := 56) (rest := []) C d_J_clear_56 (c_J_putOnList l D dT A KX L ad τ S1 o hI hV i (show LC S1 2 i by simp only [LC]; omega)) (cwV 1 C.hts (gdV tw_325 tw_327 se_22 tw_1 tw_328) rfl rfl rfl ⟨rfl, by decide, by decide, by decide⟩ ⟨by decide, by decide⟩) (hI.live (g := 0) (i := 0) rfl) hI.ob rfl rfl rfl rfl rfl (by decide) ⟨by decide, by decide⟩ ?_
            rintro r1 L1 ad1 τ ⟨g1, g2, hI, g4⟩; obtain rfl := g1.symm; obtain rfl := g2.symm; subst g4
            obtain ⟨S2, e_S2⟩ : ∃ z, z = putS S1 i := ⟨_, rfl⟩
            rw [← e_S2] at hI
            have hV : IV S2 := by rw [e_S2]; exact hV.putS (show LC S1 2 i by simp only [LC]; omega)
            have hc := hV.c
            have hf : LC S2 3 f0 := by rw [e_S2]; exact (putS_L 3 f0).mpr hf
            refine ph_iinc (pc := 59) C d_J_clear_59 rfl rfl ?_
            refine ph_goto (pc := 62) (tgt := 26) C d_J_clear_62 (by decide) ?_
            refine ph_loc (l2 := [(0, .ref (o)), (1, .int (ph_i ((f0 : Int)))), (2, .ref (ad 3 f0)), (3, .int (ph_i (((i + 1 : Nat) : Int))))]) ⟨rfl, rfl, rfl, rfl, trivial⟩ ?_
            exact ih (i + 1) S2 τ hI hV hf (by omega) (by omega) (by rw [e_S2, putS_0 (by decide)]; exact h2) (by rw [e_S2, putS_g (by decide) (by decide)]; exact h3) (by rw [e_S2, ← h5, clF_t ⟨by assumption, by assumption⟩])
  refine ph_aload_n (pc := 0) C d_J_clear_0 rfl ?_
  refine gt_J_30 (pc := 1) C d_J_clear_1 (hI.live (g := 0) (i := 0) rfl) hI.ob hI.r4 ?_
  refine ph_iload_n (pc := 4) C d_J_clear_4 rfl ?_
  refine ph_aald (pc := 5) (t := 2) C d_J_clear_5 (hI.live (g := 6) (i := 0) rfl) rfl rfl rfl f0 rfl (by have := hf; simp only [LC] at this; omega) (by decide) (ph_vr (hI.e6 hf)) ?_
  refine ph_astore_n (pc := 6) C d_J_clear_6 (by decide) rfl ?_
  refine ph_aload_n (pc := 7) C d_J_clear_7 rfl ?_
  refine ph_iload_n (pc := 8) C d_J_clear_8 rfl ?_
  refine pt_J_37 (pc := 9) C d_J_clear_9 (hI.live (g := 0) (i := 0) rfl) hI.ob ?_
  have hI := hI.put (g := 0) (i := 0) (k := 6) ((f0 : Int)) rfl (by omega)
  generalize ph_up τ 0 0 6 ((f0 : Int)) = τ at hI ⊢
  refine ph_aload_n (pc := 12) C d_J_clear_12 rfl ?_
  refine gt_J_169 (pc := 13) C d_J_clear_13 (hI.live hf) rfl (z := S 3 f0 4) (hI.dat hf rfl) ?_
  refine ph_if_eq (pc := 16) (tgt := 24) C d_J_clear_16 (by decide) (by first | omega | (have := hV.f hf; omega)) (fun c16 => ?_) (fun c16 => ?_)
  · refine ph_iconst (pc := 24) C d_J_clear_24 ?_
    refine ph_istore_n (pc := 25) C d_J_clear_25 (by decide) rfl ?_
    refine ph_loc (l2 := [(0, .ref (o)), (1, .int (ph_i ((f0 : Int)))), (2, .ref (ad 3 f0)), (3, .int (ph_i (((1 : Nat) : Int))))]) ⟨rfl, rfl, rfl, rfl, trivial⟩ ?_
    exact loop (S 0 0 3).toNat 1 (ph_up S 0 0 6 ((f0 : Int))) τ hI (hV.up0 (k := 6) (z := (f0 : Int)) (by omega) (by omega) (by omega) (by omega)) hf (by omega) (by omega) rfl rfl (by rw [clrB, clrA, if_pos (by assumption)])
  · refine ph_aload_n (pc := 19) C d_J_clear_19 rfl ?_
    refine ph_iload_n (pc := 20) C d_J_clear_20 rfl ?_
    refine ph_callV (pc := 21) (rest := []) C d_J_clear_21 (c_J_emptyBelt l D dT A KX L ad τ (ph_up S 0 0 6 ((f0 : Int))) o hI (hV.up0 (k := 6) (z := (f0 : Int)) (by omega) (by omega) (by omega) (by omega)) (f0 : Int) (by omega)) (cwV 1 C.hts (gdV tw_317 tw_319 se_21 tw_1 tw_320) rfl rfl rfl ⟨rfl, by decide, by decide, by decide⟩ ⟨by decide, by decide⟩) (hI.live (g := 0) (i := 0) rfl) hI.ob rfl rfl rfl rfl rfl (by decide) ⟨by decide, by decide⟩ ?_
    rintro r1 L1 ad1 τ ⟨g1, g2, hI, g4⟩; obtain rfl := g1.symm; obtain rfl := g2.symm; subst g4
    obtain ⟨S2, e_S2⟩ : ∃ z, z = emptyS (ph_up S 0 0 6 ((f0 : Int))) (f0 : Int) := ⟨_, rfl⟩
    rw [← e_S2] at hI
    have hV : IV S2 := by rw [e_S2]; exact (hV.up0 (k := 6) (z := (f0 : Int)) (by omega) (by omega) (by omega) (by omega)).emptyS (by omega)
    have hc := hV.c
    have hf : LC S2 3 f0 := (LC_eq (S := S) (by rw [e_S2, emptyS_g (by decide)]; rfl) (by rw [e_S2, emptyS_g (by decide)]; rfl) (by rw [e_S2, emptyS_g (by decide)]; rfl) 3 f0).mpr hf
    refine ph_iconst (pc := 24) C d_J_clear_24 ?_
    refine ph_istore_n (pc := 25) C d_J_clear_25 (by decide) rfl ?_
    refine ph_loc (l2 := [(0, .ref (o)), (1, .int (ph_i ((f0 : Int)))), (2, .ref (ad 3 f0)), (3, .int (ph_i (((1 : Nat) : Int))))]) ⟨rfl, rfl, rfl, rfl, trivial⟩ ?_
    exact loop (S 0 0 3).toNat 1 S2 τ hI hV hf (by omega) (by omega) (by rw [e_S2, emptyS_g (by decide)]; rfl) (by rw [e_S2, emptyS_g (by decide)]; rfl) (by rw [e_S2, clrB, clrA, if_neg (by assumption)])
set_option maxHeartbeats 4000000 in
set_option maxRecDepth 100000 in
theorem c_J_rule (l : Launch) (D : va_G) (dT : Nat → ClassId) (A : Nat → Prop) (KX : State → Prop) (L : Nat → Nat → Prop) (ad : Nat → Nat → Nat) (τ : ph_T) (S : ph_T) (o : Nat) (hI : JR S o L ad τ) (hV : IV S) (x y t : Int) (hx : ph_ri x) (hy : ph_ri y) (ht : t = 0 ∨ t = 1) : ph_M l y_J_rule (.code y_J_rule b_J_rule 5 (some .int) :: TB) ({ frames := 1, cells := 0, slots := 0, locals := 20 } : Room) D CLs (TY dT) dT kd A KX [.ref (o), .int (ph_i (x)), .int (ph_i (y)), .int (ph_i (t))] L ad τ (fun r L' ad' τ' => L' = L ∧ ad' = ad ∧ JR (ruleS S x y t) o L ad τ' ∧ r = some (.int (ph_i (rulev S x y)))) 0 0 := by
  refine ph_M.of (cc := b_J_rule) (maxL := 5) (ret := (some .int)) (by decide) rfl (Nat.le_of_ble_eq_true rfl) ?_
  intro p e s m below meth c C0 hr hlk hnm
  have C := C0.sub
  refine ph_loc (l2 := [(0, .ref (o)), (1, .int (ph_i (x))), (2, .int (ph_i (y))), (3, .int (ph_i (t)))]) ⟨rfl, rfl, rfl, rfl, trivial⟩ ?_
  have hc := hV.c
  refine ph_iload_n (pc := 0) C d_J_rule_0 rfl ?_
  refine ph_callS (pc := 1) (rest := []) C d_J_rule_1 (c_J_isKind l D dT A KX L ad τ x hx) (cwS 1 C.hts (gdS tw_349 tw_350 tw_1 tw_351) rfl rfl rfl ⟨rfl, by decide, by decide, by decide⟩ ⟨by decide, by decide⟩) rfl rfl (by decide) ⟨by decide, by decide⟩ ?_
  rintro r1 L1 ad1 τ1 ⟨g1, g2, g3, g4⟩; obtain rfl := g1.symm; obtain rfl := g2.symm; obtain rfl := g3.symm; subst g4
  refine ph_bif_eq (pc := 4) (tgt := 16) C d_J_rule_4 (by decide) (fun c4 => ?_) (fun c4 => ?_)
  · refine ph_bipush (pc := 16) C d_J_rule_16 (by decide) ?_
    exact ph_iret (pc := 18) C d_J_rule_18 hr hlk rfl (by decide) (by decide) ⟨rfl, rfl, (by unfold ruleS; rw [if_neg (fun q => by first | exact absurd q.1 (by assumption) | (have := q.2; omega))]; exact hI), (by unfold rulev; rw [if_neg (fun q => by first | exact absurd q.1 (by assumption) | (have := q.2; omega))])⟩
  · refine ph_iload_n (pc := 7) C d_J_rule_7 rfl ?_
    refine ph_if_lt (pc := 8) (tgt := 16) C d_J_rule_8 (by decide) (by first | omega | (have := hV.r (k := x.toNat) (by omega); omega)) (fun c8 => ?_) (fun c8 => ?_)
    · refine ph_bipush (pc := 16) C d_J_rule_16 (by decide) ?_
      exact ph_iret (pc := 18) C d_J_rule_18 hr hlk rfl (by decide) (by decide) ⟨rfl, rfl, (by unfold ruleS; rw [if_neg (fun q => by first | exact absurd q.1 (by assumption) | (have := q.2; omega))]; exact hI), (by unfold rulev; rw [if_neg (fun q => by first | exact absurd q.1 (by assumption) | (have := q.2; omega))])⟩
    · refine ph_iload_n (pc := 11) C d_J_rule_11 rfl ?_
      refine ph_iconst (pc := 12) C d_J_rule_12 ?_
      refine ph_icmp_le (pc := 13) (tgt := 19) C d_J_rule_13 (by decide) (by first | omega | (have := hV.r (k := x.toNat) (by omega); omega)) (by first | omega | (have := hV.r (k := x.toNat) (by omega); omega)) (fun c13 => ?_) (fun c13 => ?_)
      · refine ph_aload_n (pc := 19) C d_J_rule_19 rfl ?_
        refine gt_J_40 (pc := 20) C d_J_rule_20 (hI.live (g := 0) (i := 0) rfl) hI.ob hI.r7 ?_
        refine ph_iload_n (pc := 23) C d_J_rule_23 rfl ?_
        refine ph_zald (pc := 24) C d_J_rule_24 (hI.live (g := 7) (i := 0) rfl) rfl rfl rfl x.toNat (by omega) (by omega) (by decide) ?_
        rw [hI.dat (g := 7) (i := 0) (k := x.toNat) rfl rfl]
        refine ph_if_eq (pc := 25) (tgt := 32) C d_J_rule_25 (by decide) (by first | omega | (have := hV.r (k := x.toNat) (by omega); omega)) (fun c25 => ?_) (fun c25 => ?_)
        · refine ph_iconst (pc := 32) C d_J_rule_32 ?_
          refine ph_istore (pc := 33) C d_J_rule_33 (by decide) rfl ?_
          refine ph_aload_n (pc := 35) C d_J_rule_35 rfl ?_
          refine gt_J_40 (pc := 36) C d_J_rule_36 (hI.live (g := 0) (i := 0) rfl) hI.ob hI.r7 ?_
          refine ph_iload_n (pc := 39) C d_J_rule_39 rfl ?_
          refine ph_iload_n (pc := 40) C d_J_rule_40 rfl ?_
          refine ph_iconst (pc := 41) C d_J_rule_41 ?_
          refine ph_icmp_ne (pc := 42) (tgt := 49) C d_J_rule_42 (by decide) (by first | omega | (have := hV.r (k := x.toNat) (by omega); omega)) (by first | omega | (have := hV.r (k := x.toNat) (by omega); omega)) (fun c42 => ?_) (fun c42 => ?_)
          · refine ph_iconst (pc := 49) C d_J_rule_49 ?_
            refine ph_zast (pc := 50) C d_J_rule_50 (by omega) (hI.live (g := 7) (i := 0) rfl) rfl rfl rfl x.toNat (by omega) (by omega) (by decide) ?_
            have hI := hI.put (g := 7) (i := 0) (k := x.toNat) (0) rfl (by omega)
            generalize ph_up τ 7 0 x.toNat (0) = τ at hI ⊢
            refine ph_aload_n (pc := 51) C d_J_rule_51 rfl ?_
            refine gt_J_44 (pc := 52) C d_J_rule_52 (hI.live (g := 0) (i := 0) rfl) hI.ob hI.r8 ?_
            refine ph_iload_n (pc := 55) C d_J_rule_55 rfl ?_
            refine ph_iload_n (pc := 56) C d_J_rule_56 rfl ?_
            refine ph_zast (pc := 57) C d_J_rule_57 (by omega) (hI.live (g := 8) (i := 0) rfl) rfl rfl rfl x.toNat (by omega) (by omega) (by decide) ?_
            have hI := hI.put (g := 8) (i := 0) (k := x.toNat) (t) rfl (by omega)
            generalize ph_up τ 8 0 x.toNat (t) = τ at hI ⊢
            refine ph_iload (pc := 58) C d_J_rule_58 rfl ?_
            exact ph_iret (pc := 60) C d_J_rule_60 hr hlk rfl (by decide) (by decide) ⟨rfl, rfl, (by unfold ruleS; rw [if_pos ⟨by assumption, by omega, by omega⟩]; first | (rw [if_pos (by assumption)]; exact hI) | (rw [if_neg (by assumption)]; exact hI)), (by unfold rulev; rw [if_pos ⟨by assumption, by omega, by omega⟩]; first | rw [if_pos (by assumption)] | rw [if_neg (by assumption)])⟩
          · refine ph_iconst (pc := 45) C d_J_rule_45 ?_
            refine ph_goto (pc := 46) (tgt := 50) C d_J_rule_46 (by decide) ?_
            refine ph_zast (pc := 50) C d_J_rule_50 (by omega) (hI.live (g := 7) (i := 0) rfl) rfl rfl rfl x.toNat (by omega) (by omega) (by decide) ?_
            have hI := hI.put (g := 7) (i := 0) (k := x.toNat) (1) rfl (by omega)
            generalize ph_up τ 7 0 x.toNat (1) = τ at hI ⊢
            refine ph_aload_n (pc := 51) C d_J_rule_51 rfl ?_
            refine gt_J_44 (pc := 52) C d_J_rule_52 (hI.live (g := 0) (i := 0) rfl) hI.ob hI.r8 ?_
            refine ph_iload_n (pc := 55) C d_J_rule_55 rfl ?_
            refine ph_iload_n (pc := 56) C d_J_rule_56 rfl ?_
            refine ph_zast (pc := 57) C d_J_rule_57 (by omega) (hI.live (g := 8) (i := 0) rfl) rfl rfl rfl x.toNat (by omega) (by omega) (by decide) ?_
            have hI := hI.put (g := 8) (i := 0) (k := x.toNat) (t) rfl (by omega)
            generalize ph_up τ 8 0 x.toNat (t) = τ at hI ⊢
            refine ph_iload (pc := 58) C d_J_rule_58 rfl ?_
            exact ph_iret (pc := 60) C d_J_rule_60 hr hlk rfl (by decide) (by decide) ⟨rfl, rfl, (by unfold ruleS; rw [if_pos ⟨by assumption, by omega, by omega⟩]; first | (rw [if_pos (by assumption)]; exact hI) | (rw [if_neg (by assumption)]; exact hI)), (by unfold rulev; rw [if_pos ⟨by assumption, by omega, by omega⟩]; first | rw [if_pos (by assumption)] | rw [if_neg (by assumption)])⟩
        · refine ph_iconst (pc := 28) C d_J_rule_28 ?_
          refine ph_goto (pc := 29) (tgt := 33) C d_J_rule_29 (by decide) ?_
          refine ph_istore (pc := 33) C d_J_rule_33 (by decide) rfl ?_
          refine ph_aload_n (pc := 35) C d_J_rule_35 rfl ?_
          refine gt_J_40 (pc := 36) C d_J_rule_36 (hI.live (g := 0) (i := 0) rfl) hI.ob hI.r7 ?_
          refine ph_iload_n (pc := 39) C d_J_rule_39 rfl ?_
          refine ph_iload_n (pc := 40) C d_J_rule_40 rfl ?_
          refine ph_iconst (pc := 41) C d_J_rule_41 ?_
          refine ph_icmp_ne (pc := 42) (tgt := 49) C d_J_rule_42 (by decide) (by first | omega | (have := hV.r (k := x.toNat) (by omega); omega)) (by first | omega | (have := hV.r (k := x.toNat) (by omega); omega)) (fun c42 => ?_) (fun c42 => ?_)
          · refine ph_iconst (pc := 49) C d_J_rule_49 ?_
            refine ph_zast (pc := 50) C d_J_rule_50 (by omega) (hI.live (g := 7) (i := 0) rfl) rfl rfl rfl x.toNat (by omega) (by omega) (by decide) ?_
            have hI := hI.put (g := 7) (i := 0) (k := x.toNat) (0) rfl (by omega)
            generalize ph_up τ 7 0 x.toNat (0) = τ at hI ⊢
            refine ph_aload_n (pc := 51) C d_J_rule_51 rfl ?_
            refine gt_J_44 (pc := 52) C d_J_rule_52 (hI.live (g := 0) (i := 0) rfl) hI.ob hI.r8 ?_
            refine ph_iload_n (pc := 55) C d_J_rule_55 rfl ?_
            refine ph_iload_n (pc := 56) C d_J_rule_56 rfl ?_
            refine ph_zast (pc := 57) C d_J_rule_57 (by omega) (hI.live (g := 8) (i := 0) rfl) rfl rfl rfl x.toNat (by omega) (by omega) (by decide) ?_
            have hI := hI.put (g := 8) (i := 0) (k := x.toNat) (t) rfl (by omega)
            generalize ph_up τ 8 0 x.toNat (t) = τ at hI ⊢
            refine ph_iload (pc := 58) C d_J_rule_58 rfl ?_
            exact ph_iret (pc := 60) C d_J_rule_60 hr hlk rfl (by decide) (by decide) ⟨rfl, rfl, (by unfold ruleS; rw [if_pos ⟨by assumption, by omega, by omega⟩]; first | (rw [if_pos (by assumption)]; exact hI) | (rw [if_neg (by assumption)]; exact hI)), (by unfold rulev; rw [if_pos ⟨by assumption, by omega, by omega⟩]; first | rw [if_pos (by assumption)] | rw [if_neg (by assumption)])⟩
          · refine ph_iconst (pc := 45) C d_J_rule_45 ?_
            refine ph_goto (pc := 46) (tgt := 50) C d_J_rule_46 (by decide) ?_
            refine ph_zast (pc := 50) C d_J_rule_50 (by omega) (hI.live (g := 7) (i := 0) rfl) rfl rfl rfl x.toNat (by omega) (by omega) (by decide) ?_
            have hI := hI.put (g := 7) (i := 0) (k := x.toNat) (1) rfl (by omega)
            generalize ph_up τ 7 0 x.toNat (1) = τ at hI ⊢
            refine ph_aload_n (pc := 51) C d_J_rule_51 rfl ?_
            refine gt_J_44 (pc := 52) C d_J_rule_52 (hI.live (g := 0) (i := 0) rfl) hI.ob hI.r8 ?_
            refine ph_iload_n (pc := 55) C d_J_rule_55 rfl ?_
            refine ph_iload_n (pc := 56) C d_J_rule_56 rfl ?_
            refine ph_zast (pc := 57) C d_J_rule_57 (by omega) (hI.live (g := 8) (i := 0) rfl) rfl rfl rfl x.toNat (by omega) (by omega) (by decide) ?_
            have hI := hI.put (g := 8) (i := 0) (k := x.toNat) (t) rfl (by omega)
            generalize ph_up τ 8 0 x.toNat (t) = τ at hI ⊢
            refine ph_iload (pc := 58) C d_J_rule_58 rfl ?_
            exact ph_iret (pc := 60) C d_J_rule_60 hr hlk rfl (by decide) (by decide) ⟨rfl, rfl, (by unfold ruleS; rw [if_pos ⟨by assumption, by omega, by omega⟩]; first | (rw [if_pos (by assumption)]; exact hI) | (rw [if_neg (by assumption)]; exact hI)), (by unfold rulev; rw [if_pos ⟨by assumption, by omega, by omega⟩]; first | rw [if_pos (by assumption)] | rw [if_neg (by assumption)])⟩
      · refine ph_bipush (pc := 16) C d_J_rule_16 (by decide) ?_
        exact ph_iret (pc := 18) C d_J_rule_18 hr hlk rfl (by decide) (by decide) ⟨rfl, rfl, (by unfold ruleS; rw [if_neg (fun q => by first | exact absurd q.1 (by assumption) | (have := q.2; omega))]; exact hI), (by unfold rulev; rw [if_neg (fun q => by first | exact absurd q.1 (by assumption) | (have := q.2; omega))])⟩
set_option maxHeartbeats 4000000 in
set_option maxRecDepth 100000 in
theorem c_J_takeOffList (l : Launch) (D : va_G) (dT : Nat → ClassId) (A : Nat → Prop) (KX : State → Prop) (L : Nat → Nat → Prop) (ad : Nat → Nat → Nat) (τ : ph_T) (S : ph_T) (o : Nat) (hI : JR S o L ad τ) (hV : IV S) (x : Int) (hx : ph_ri x) : ph_M l y_J_takeOffList (.code y_J_takeOffList b_J_takeOffList 4 none :: TB) ({ frames := 0, cells := 0, slots := 0, locals := 0 } : Room) D CLs (TY dT) dT kd A KX [.ref (o), .int (ph_i (x))] L ad τ (fun r L' ad' τ' => L' = L ∧ ad' = ad ∧ JR (dropS S x) o L ad τ' ∧ r = none) 0 0 := by
  refine ph_M.of (cc := b_J_takeOffList) (maxL := 4) (ret := none) (by decide) rfl (Nat.le_of_ble_eq_true rfl) ?_
  intro p e s m below meth c C0 hr hlk hnm
  have C := C0.sub
  refine ph_loc (l2 := [(0, .ref (o)), (1, .int (ph_i (x)))]) ⟨rfl, rfl, trivial⟩ ?_
  have hc := hV.c
  have loop : ∀ (n : Nat) (i kp : Nat) (S1 τ : ph_T), JR S1 o L ad τ → IV S1 → kp ≤ i → S 0 0 10 = (i : Int) + n → S1 0 0 10 = S 0 0 10 → tlF x n i kp S1 = dropS S x → ph_W p l e ({ frames := 0, cells := 0, slots := 0, locals := 0 } : Room) s m [.ref (o), .int (ph_i (x))].toArray below meth c D CLs dT kd A 4 (MQ below (ph_Q D CLs dT kd A (fun r L' ad' τ' => L' = L ∧ ad' = ad ∧ JR (dropS S x) o L ad τ' ∧ r = none)) [.ref (o), .int (ph_i (x))].toArray s 0 0 A) L ad τ 0 0 4 (ph_mk [(0, .ref (o)), (1, .int (ph_i (x))), (2, .int (ph_i ((kp : Int)))), (3, .int (ph_i ((i : Int))))]) [] := by
    intro n
    induction n with
    | zero =>
      intro i kp S1 τ hI hV h0 h1 h2 h3
      have hc := hV.c
      refine ph_iload_n (pc := 4) C d_J_takeOffList_4 rfl ?_
      refine ph_aload_n (pc := 5) C d_J_takeOffList_5 rfl ?_
      refine gt_J_51 (pc := 6) C d_J_takeOffList_6 (hI.live (g := 0) (i := 0) rfl) hI.ob (z := S1 0 0 10) (hI.dat rfl rfl) ?_
      refine ph_icmp_ge (pc := 9) (tgt := 43) C d_J_takeOffList_9 (by decide) (by first | omega | (have := hV.l (k := i) (by omega); omega)) (by first | omega | (have := hV.l (k := i) (by omega); omega)) (fun c9 => ?_) (fun c9 => ?_)
      · refine ph_aload_n (pc := 43) C d_J_takeOffList_43 rfl ?_
        refine ph_iload_n (pc := 44) C d_J_takeOffList_44 rfl ?_
        refine pt_J_51 (pc := 45) C d_J_takeOffList_45 (hI.live (g := 0) (i := 0) rfl) hI.ob ?_
        have hI := hI.put (g := 0) (i := 0) (k := 10) ((kp : Int)) rfl (by omega)
        generalize ph_up τ 0 0 10 ((kp : Int)) = τ at hI ⊢
        exact ph_vret (pc := 48) C d_J_takeOffList_48 hr hlk (by decide) (by decide) ⟨rfl, rfl, (by rw [← h3]; exact hI), rfl⟩
      · exfalso; omega
    | succ n ih =>
      intro i kp S1 τ hI hV h0 h1 h2 h3
      have hc := hV.c
      refine ph_iload_n (pc := 4) C d_J_takeOffList_4 rfl ?_
      refine ph_aload_n (pc := 5) C d_J_takeOffList_5 rfl ?_
      refine gt_J_51 (pc := 6) C d_J_takeOffList_6 (hI.live (g := 0) (i := 0) rfl) hI.ob (z := S1 0 0 10) (hI.dat rfl rfl) ?_
      refine ph_icmp_ge (pc := 9) (tgt := 43) C d_J_takeOffList_9 (by decide) (by first | omega | (have := hV.l (k := i) (by omega); omega)) (by first | omega | (have := hV.l (k := i) (by omega); omega)) (fun c9 => ?_) (fun c9 => ?_)
      · exfalso; omega
      · refine ph_aload_n (pc := 12) C d_J_takeOffList_12 rfl ?_
        refine gt_J_47 (pc := 13) C d_J_takeOffList_13 (hI.live (g := 0) (i := 0) rfl) hI.ob hI.r9 ?_
        refine ph_iload_n (pc := 16) C d_J_takeOffList_16 rfl ?_
        refine ph_iald (pc := 17) C d_J_takeOffList_17 (hI.live (g := 9) (i := 0) rfl) rfl rfl rfl i rfl (by omega) (by decide) ?_
        rw [hI.dat (g := 9) (i := 0) (k := i) rfl rfl]
        refine ph_iload_n (pc := 18) C d_J_takeOffList_18 rfl ?_
        refine ph_icmp_eq (pc := 19) (tgt := 37) C d_J_takeOffList_19 (by decide) (by first | omega | (have := hV.l (k := i) (by omega); omega)) (by first | omega | (have := hV.l (k := i) (by omega); omega)) (fun c19 => ?_) (fun c19 => ?_)
        · refine ph_iinc (pc := 37) C d_J_takeOffList_37 rfl rfl ?_
          refine ph_goto (pc := 40) (tgt := 4) C d_J_takeOffList_40 (by decide) ?_
          refine ph_loc (l2 := [(0, .ref (o)), (1, .int (ph_i (x))), (2, .int (ph_i ((kp : Int)))), (3, .int (ph_i (((i + 1 : Nat) : Int))))]) ⟨rfl, rfl, rfl, rfl, trivial⟩ ?_
          exact ih (i + 1) kp S1 τ hI hV (by omega) (by omega) h2 (by rw [← h3, tlF_t (by assumption)])
        · refine ph_aload_n (pc := 22) C d_J_takeOffList_22 rfl ?_
          refine gt_J_47 (pc := 23) C d_J_takeOffList_23 (hI.live (g := 0) (i := 0) rfl) hI.ob hI.r9 ?_
          refine ph_iload_n (pc := 26) C d_J_takeOffList_26 rfl ?_
          refine ph_aload_n (pc := 27) C d_J_takeOffList_27 rfl ?_
          refine gt_J_47 (pc := 28) C d_J_takeOffList_28 (hI.live (g := 0) (i := 0) rfl) hI.ob hI.r9 ?_
          refine ph_iload_n (pc := 31) C d_J_takeOffList_31 rfl ?_
          refine ph_iald (pc := 32) C d_J_takeOffList_32 (hI.live (g := 9) (i := 0) rfl) rfl rfl rfl i rfl (by omega) (by decide) ?_
          rw [hI.dat (g := 9) (i := 0) (k := i) rfl rfl]
          refine ph_iast (pc := 33) C d_J_takeOffList_33 (hI.live (g := 9) (i := 0) rfl) rfl rfl rfl kp rfl (by omega) (by decide) ?_
          have hI := hI.put (g := 9) (i := 0) (k := kp) (S1 9 0 i) rfl (by omega)
          generalize ph_up τ 9 0 kp (S1 9 0 i) = τ at hI ⊢
          refine ph_iinc (pc := 34) C d_J_takeOffList_34 rfl rfl ?_
          refine ph_iinc (pc := 37) C d_J_takeOffList_37 rfl rfl ?_
          refine ph_goto (pc := 40) (tgt := 4) C d_J_takeOffList_40 (by decide) ?_
          refine ph_loc (l2 := [(0, .ref (o)), (1, .int (ph_i (x))), (2, .int (ph_i (((kp + 1 : Nat) : Int)))), (3, .int (ph_i (((i + 1 : Nat) : Int))))]) ⟨rfl, rfl, rfl, rfl, trivial⟩ ?_
          exact ih (i + 1) (kp + 1) (ph_up S1 9 0 kp (S1 9 0 i)) τ hI (hV.upL (hV.l (by omega))) (by omega) (by omega) (by rw [up_ne _ (by decide)]; exact h2) (by rw [← h3, tlF_f (by assumption)])
  refine ph_iconst (pc := 0) C d_J_takeOffList_0 ?_
  refine ph_istore_n (pc := 1) C d_J_takeOffList_1 (by decide) rfl ?_
  refine ph_iconst (pc := 2) C d_J_takeOffList_2 ?_
  refine ph_istore_n (pc := 3) C d_J_takeOffList_3 (by decide) rfl ?_
  refine ph_loc (l2 := [(0, .ref (o)), (1, .int (ph_i (x))), (2, .int (ph_i (((0 : Nat) : Int)))), (3, .int (ph_i (((0 : Nat) : Int))))]) ⟨rfl, rfl, rfl, rfl, trivial⟩ ?_
  exact loop (S 0 0 10).toNat 0 0 S τ hI hV (by omega) (by omega) rfl rfl
set_option maxHeartbeats 4000000 in
set_option maxRecDepth 100000 in
theorem c_J_feed (l : Launch) (D : va_G) (dT : Nat → ClassId) (A : Nat → Prop) (KX : State → Prop) (L : Nat → Nat → Prop) (ad : Nat → Nat → Nat) (τ : ph_T) (S : ph_T) (o : Nat) (hI : JR S o L ad τ) (hV : IV S) (x : Int) (hx : ph_ri x) : ph_M l y_J_feed (.code y_J_feed b_J_feed 3 (some .int) :: TB) ({ frames := 1, cells := 0, slots := 0, locals := 23 } : Room) D CLs (TY dT) dT kd A KX [.ref (o), .int (ph_i (x))] L ad τ (fun r L' ad' τ' => L' = L ∧ ad' = ad ∧ JR (feedS S x) o L ad τ' ∧ r = some (.int (ph_i (feedv S x)))) 0 0 := by
  refine ph_M.of (cc := b_J_feed) (maxL := 3) (ret := (some .int)) (by decide) rfl (Nat.le_of_ble_eq_true rfl) ?_
  intro p e s m below meth c C0 hr hlk hnm
  have C := C0.sub
  refine ph_loc (l2 := [(0, .ref (o)), (1, .int (ph_i (x)))]) ⟨rfl, rfl, trivial⟩ ?_
  have hc := hV.c
  refine ph_aload_n (pc := 0) C d_J_feed_0 rfl ?_
  refine ph_iload_n (pc := 1) C d_J_feed_1 rfl ?_
  refine ph_callV (pc := 2) (rest := []) C d_J_feed_2 (c_J_isItem l D dT A KX L ad τ S o hI hV x hx) (cwV 1 C.hts (gdV tw_164 tw_166 se_5 tw_1 tw_167) rfl rfl rfl ⟨rfl, by decide, by decide, by decide⟩ ⟨by decide, by decide⟩) (hI.live (g := 0) (i := 0) rfl) hI.ob rfl rfl rfl rfl rfl (by decide) ⟨by decide, by decide⟩ ?_
  rintro r1 L1 ad1 τ1 ⟨g1, g2, g3, g4⟩; obtain rfl := g1.symm; obtain rfl := g2.symm; obtain rfl := g3.symm; subst g4
  refine ph_bif_ne (pc := 5) (tgt := 11) C d_J_feed_5 (by decide) (fun c5 => ?_) (fun c5 => ?_)
  · refine ph_aload_n (pc := 11) C d_J_feed_11 rfl ?_
    refine gt_J_21 (pc := 12) C d_J_feed_12 (hI.live (g := 0) (i := 0) rfl) hI.ob hI.r2 ?_
    refine ph_iload_n (pc := 15) C d_J_feed_15 rfl ?_
    refine ph_aald (pc := 16) (t := 1) C d_J_feed_16 (hI.live (g := 5) (i := 0) rfl) rfl rfl rfl x.toNat (by omega) (by have := (show LC S 2 x.toNat by simp only [LC]; omega); simp only [LC] at this; omega) (by decide) (ph_vr (hI.e5 (show LC S 2 x.toNat by simp only [LC]; omega))) ?_
    refine ph_astore_n (pc := 17) C d_J_feed_17 (by decide) rfl ?_
    refine ph_aload_n (pc := 18) C d_J_feed_18 rfl ?_
    refine gt_J_139 (pc := 19) C d_J_feed_19 (hI.live (show LC S 2 x.toNat by simp only [LC]; omega)) rfl (z := S 2 x.toNat 4) (hI.dat (show LC S 2 x.toNat by simp only [LC]; omega) rfl) ?_
    refine ph_if_eq (pc := 22) (tgt := 27) C d_J_feed_22 (by decide) (by first | omega | (have := hV.i (show LC S 2 x.toNat by simp only [LC]; omega); omega)) (fun c22 => ?_) (fun c22 => ?_)
    · refine ph_aload_n (pc := 27) C d_J_feed_27 rfl ?_
      refine gt_J_142 (pc := 28) C d_J_feed_28 (hI.live (show LC S 2 x.toNat by simp only [LC]; omega)) rfl (z := S 2 x.toNat 3) (hI.dat (show LC S 2 x.toNat by simp only [LC]; omega) rfl) ?_
      refine ph_if_ne (pc := 31) (tgt := 37) C d_J_feed_31 (by decide) (by first | omega | (have := hV.i (show LC S 2 x.toNat by simp only [LC]; omega); omega)) (fun c31 => ?_) (fun c31 => ?_)
      · refine ph_aload_n (pc := 37) C d_J_feed_37 rfl ?_
        refine ph_iconst (pc := 38) C d_J_feed_38 ?_
        refine pt_J_139 (pc := 39) C d_J_feed_39 (by omega) (hI.live (show LC S 2 x.toNat by simp only [LC]; omega)) rfl ?_
        have hI := hI.put (g := 2) (i := x.toNat) (k := 4) (1) rfl (by omega)
        generalize ph_up τ 2 x.toNat 4 (1) = τ at hI ⊢
        refine ph_aload_n (pc := 42) C d_J_feed_42 rfl ?_
        refine ph_iload_n (pc := 43) C d_J_feed_43 rfl ?_
        refine ph_callV (pc := 44) (rest := []) C d_J_feed_44 (c_J_takeOffList l D dT A KX L ad τ (ph_up S 2 x.toNat 4 1) o hI (hV.upI (i := x.toNat) (k := 4) (z := 1) (by omega) (by omega) (by omega) (by omega) (by omega) (by omega) (by omega)) x hx) (cwV 1 C.hts (gdV tw_337 tw_339 se_24 tw_1 tw_340) rfl rfl rfl ⟨rfl, by decide, by decide, by decide⟩ ⟨by decide, by decide⟩) (hI.live (g := 0) (i := 0) rfl) hI.ob rfl rfl rfl rfl rfl (by decide) ⟨by decide, by decide⟩ ?_
        rintro r1 L1 ad1 τ ⟨g1, g2, hI, g4⟩; obtain rfl := g1.symm; obtain rfl := g2.symm; subst g4
        obtain ⟨S2, e_S2⟩ : ∃ z, z = dropS (ph_up S 2 x.toNat 4 1) x := ⟨_, rfl⟩
        rw [← e_S2] at hI
        have hV : IV S2 := by rw [e_S2]; exact (hV.upI (i := x.toNat) (k := 4) (z := 1) (by omega) (by omega) (by omega) (by omega) (by omega) (by omega) (by omega)).dropS
        have hc := hV.c
        refine ph_iconst (pc := 47) C d_J_feed_47 ?_
        exact ph_iret (pc := 48) C d_J_feed_48 hr hlk rfl (by decide) (by decide) ⟨rfl, rfl, (by rw [e_S2] at hI; unfold feedS; rw [if_pos ⟨by assumption, by omega, by omega⟩]; exact hI), (by rw [feedv, if_neg (not_not_intro (by assumption)), if_neg (by omega), if_neg (by omega)])⟩
      · refine ph_bipush (pc := 34) C d_J_feed_34 (by decide) ?_
        exact ph_iret (pc := 36) C d_J_feed_36 hr hlk rfl (by decide) (by decide) ⟨rfl, rfl, (by unfold feedS; rw [if_neg (fun q => by first | exact absurd q.1 (by assumption) | (have := q.2; omega))]; exact hI), (by rw [feedv, if_neg (not_not_intro (by assumption)), if_neg (by omega), if_pos (by assumption)])⟩
    · refine ph_iconst (pc := 25) C d_J_feed_25 ?_
      exact ph_iret (pc := 26) C d_J_feed_26 hr hlk rfl (by decide) (by decide) ⟨rfl, rfl, (by unfold feedS; rw [if_neg (fun q => by first | exact absurd q.1 (by assumption) | (have := q.2; omega))]; exact hI), (by rw [feedv, if_neg (not_not_intro (by assumption)), if_pos (by assumption)])⟩
  · refine ph_bipush (pc := 8) C d_J_feed_8 (by decide) ?_
    exact ph_iret (pc := 10) C d_J_feed_10 hr hlk rfl (by decide) (by decide) ⟨rfl, rfl, (by unfold feedS; rw [if_neg (fun q => by first | exact absurd q.1 (by assumption) | (have := q.2; omega))]; exact hI), (by rw [feedv, if_pos (by assumption)])⟩
end
section
theorem stepS_t {S : ph_T} {x y : Int} (h : stOk S x y) : stepS S x y = stB S x.toNat y := if_pos h
theorem stepS_f {S : ph_T} {x y : Int} (h : ¬ stOk S x y) : stepS S x y = S := if_neg h
theorem IV.stepS {S : ph_T} (h : IV S) {x y : Int} : IV (stepS S x y) := by
  rcases Classical.em (stOk S x y) with q | q
  · rw [stepS_t q]
    obtain ⟨q1, q2, q3, q4⟩ := q
    have hf : LC S 3 x.toNat := by simp only [LC]; omega
    have hn := nextv_l (S := S) (f := x.toNat) (by omega)
    have h9 := h.f hf
    have h1 : IV (ph_up S 3 x.toNat 6 (S 3 x.toNat 6 + 1)) := h.upF (by omega) (by omega) (by omega) (by omega) (by omega) (by omega) (by omega)
    have h2 : IV (stA S x.toNat y) := by
      unfold stA
      split
      · exact h1.resetS
      · exact h1
    have hf2 : LC (stA S x.toNat y) 3 x.toNat := by
      have e : ∀ k, stA S x.toNat y 0 0 k = S 0 0 k := fun k => by
        unfold stA
        split
        · rw [resetS_g (by decide), up_ne _ (by decide)]
        · rw [up_ne _ (by decide)]
      exact (LC_eq (e 1) (e 3) (e 5) 3 x.toNat).mpr hf
    unfold stB
    split
    · exact h2.clearS hf2
    · exact h2
  · rw [stepS_f q]
    exact h
end
section
/-! ===== step ===== -/
set_option maxHeartbeats 4000000 in
set_option maxRecDepth 100000 in
theorem c_J_step (l : Launch) (D : va_G) (dT : Nat → ClassId) (A : Nat → Prop) (KX : State → Prop) (L : Nat → Nat → Prop) (ad : Nat → Nat → Nat) (τ : ph_T) (S : ph_T) (o : Nat) (hI : JR S o L ad τ) (hV : IV S) (aR aT : Nat) (hX : ∀ U, KX U → KJ dT A aR aT U) (x y : Int) (hx : ph_ri x) (hy : ph_ri y) : ph_M l y_J_step (.code y_J_step b_J_step 4 (some .int) :: TB) ({ frames := 3, cells := 0, slots := 0, locals := 66 } : Room) D CLs (TY dT) dT kd A KX [.ref (o), .int (ph_i (x)), .int (ph_i (y))] L ad τ (fun r L' ad' τ' => L' = L ∧ ad' = ad ∧ JR (stepS S x y) o L ad τ' ∧ r = some (.int (ph_i (stepv S x y)))) 0 0 := by
  refine ph_M.of (cc := b_J_step) (maxL := 4) (ret := (some .int)) (by decide) rfl (Nat.le_of_ble_eq_true rfl) ?_
  intro p e s m below meth c C0 hr hlk hnm
  have C := C0.sub
  refine ph_loc (l2 := [(0, .ref (o)), (1, .int (ph_i (x))), (2, .int (ph_i (y)))]) ⟨rfl, rfl, rfl, trivial⟩ ?_
  have hc := hV.c
  refine ph_aload_n (pc := 0) C d_J_step_0 rfl ?_
  refine ph_iload_n (pc := 1) C d_J_step_1 rfl ?_
  refine ph_callV (pc := 2) (rest := []) C d_J_step_2 (c_J_isFault l D dT A KX L ad τ S o hI hV x hx) (cwV 1 C.hts (gdV tw_280 tw_282 se_17 tw_1 tw_283) rfl rfl rfl ⟨rfl, by decide, by decide, by decide⟩ ⟨by decide, by decide⟩) (hI.live (g := 0) (i := 0) rfl) hI.ob rfl rfl rfl rfl rfl (by decide) ⟨by decide, by decide⟩ ?_
  rintro r1 L1 ad1 τ1 ⟨g1, g2, g3, g4⟩; obtain rfl := g1.symm; obtain rfl := g2.symm; obtain rfl := g3.symm; subst g4
  refine ph_bif_ne (pc := 5) (tgt := 11) C d_J_step_5 (by decide) (fun c5 => ?_) (fun c5 => ?_)
  · refine ph_iload_n (pc := 11) C d_J_step_11 rfl ?_
    refine ph_iconst (pc := 12) C d_J_step_12 ?_
    refine ph_icmp_lt (pc := 13) (tgt := 21) C d_J_step_13 (by decide) (by first | omega | (have := hV.f hf; omega)) (by first | omega | (have := hV.f hf; omega)) (fun c13 => ?_) (fun c13 => ?_)
    · refine ph_bipush (pc := 21) C d_J_step_21 (by decide) ?_
      exact ph_iret (pc := 23) C d_J_step_23 hr hlk rfl (by decide) (by decide) ⟨rfl, rfl, (by rw [stepS_f (fun q => by first | exact absurd q.1 (by assumption) | (have := q.2.1; omega) | (have := q.2.2.1; omega) | exact absurd q.2.2.2 (by assumption))]; exact hI), (by rw [stepv, if_neg (not_not_intro (by assumption)), if_pos (by omega)])⟩
    · refine ph_iload_n (pc := 16) C d_J_step_16 rfl ?_
      refine ph_iconst (pc := 17) C d_J_step_17 ?_
      refine ph_icmp_le (pc := 18) (tgt := 24) C d_J_step_18 (by decide) (by first | omega | (have := hV.f hf; omega)) (by first | omega | (have := hV.f hf; omega)) (fun c18 => ?_) (fun c18 => ?_)
      · refine ph_iload_n (pc := 24) C d_J_step_24 rfl ?_
        refine ph_aload_n (pc := 25) C d_J_step_25 rfl ?_
        refine gt_J_37 (pc := 26) C d_J_step_26 (hI.live (g := 0) (i := 0) rfl) hI.ob (z := S 0 0 6) (hI.dat rfl rfl) ?_
        refine ph_iconst (pc := 29) C d_J_step_29 ?_
        refine ph_iadd (pc := 30) C d_J_step_30 ?_
        refine ph_icmp_eq (pc := 31) (tgt := 37) C d_J_step_31 (by decide) (by first | omega | (have := hV.f hf; omega)) (by first | omega | (have := hV.f hf; omega)) (fun c31 => ?_) (fun c31 => ?_)
        · have hf : LC S 3 x.toNat := by simp only [LC]; omega
          refine ph_aload_n (pc := 37) C d_J_step_37 rfl ?_
          refine gt_J_30 (pc := 38) C d_J_step_38 (hI.live (g := 0) (i := 0) rfl) hI.ob hI.r4 ?_
          refine ph_iload_n (pc := 41) C d_J_step_41 rfl ?_
          refine ph_aald (pc := 42) (t := 2) C d_J_step_42 (hI.live (g := 6) (i := 0) rfl) rfl rfl rfl x.toNat (by omega) (by have := hf; simp only [LC] at this; omega) (by decide) (ph_vr (hI.e6 hf)) ?_
          refine ph_astore_n (pc := 43) C d_J_step_43 (by decide) rfl ?_
          refine ph_aload_n (pc := 44) C d_J_step_44 rfl ?_
          refine ph_callS (pc := 45) (rest := []) C d_J_step_45 (c_J_nextStep l D dT A KX L ad τ S o hI hV aR aT hX x.toNat hf) (cwS 1 C.hts (gdS tw_304 tw_305 tw_1 tw_306) rfl rfl rfl ⟨rfl, by decide, by decide, by decide⟩ ⟨by decide, by decide⟩) rfl rfl (by decide) ⟨by decide, by decide⟩ ?_
          rintro r1 L1 ad1 τ1 ⟨g1, g2, g3, g4⟩; obtain rfl := g1.symm; obtain rfl := g2.symm; obtain rfl := g3.symm; subst g4
          have hn9 := nextv_r S x.toNat
          refine ph_iload_n (pc := 48) C d_J_step_48 rfl ?_
          refine ph_icmp_eq (pc := 49) (tgt := 54) C d_J_step_49 (by decide) (by first | omega | (have := hV.f hf; omega)) (by first | omega | (have := hV.f hf; omega)) (fun c49 => ?_) (fun c49 => ?_)
          · refine ph_aload_n (pc := 54) C d_J_step_54 rfl ?_
            refine ph_dup (pc := 55) C d_J_step_55 rfl ?_
            refine gt_J_127 (pc := 56) C d_J_step_56 (hI.live hf) rfl (z := S 3 x.toNat 6) (hI.dat hf rfl) ?_
            refine ph_iconst (pc := 59) C d_J_step_59 ?_
            refine ph_iadd (pc := 60) C d_J_step_60 ?_
            refine pt_J_127 (pc := 61) C d_J_step_61 (hI.live hf) rfl ?_
            have hI := hI.put (g := 3) (i := x.toNat) (k := 6) ((S 3 x.toNat 6) + (1)) rfl (by omega)
            generalize ph_up τ 3 x.toNat 6 ((S 3 x.toNat 6) + (1)) = τ at hI ⊢
            refine ph_iload_n (pc := 64) C d_J_step_64 rfl ?_
            refine ph_iconst (pc := 65) C d_J_step_65 ?_
            refine ph_icmp_ne (pc := 66) (tgt := 73) C d_J_step_66 (by decide) (by first | omega | (have := hV.f hf; omega)) (by first | omega | (have := hV.f hf; omega)) (fun c66 => ?_) (fun c66 => ?_)
            · obtain ⟨S3, e_S3⟩ : ∃ z, z = (ph_up S 3 x.toNat 6 ((S 3 x.toNat 6) + (1))) := ⟨_, rfl⟩
              rw [← e_S3] at hI
              have hV2 : IV S3 := by rw [e_S3]; exact (hV.upF (i := x.toNat) (k := 6) (z := (S 3 x.toNat 6) + (1)) (by omega) (by omega) (by omega) (by omega) (by omega) (by omega) (by have := hV.f hf; have := nextv_l (S := S) (f := x.toNat) (by omega); omega))
              have hf2 : LC S3 3 x.toNat := by rw [e_S3]; exact (LC_upn (by decide) 3 _).mpr hf
              have e_S2 : S3 = stA S x.toNat y := by rw [e_S3, stA, if_neg (by assumption)]
              replace hV := hV2
              replace hf := hf2
              refine ph_aload_n (pc := 73) C d_J_step_73 rfl ?_
              refine ph_callS (pc := 74) (rest := []) C d_J_step_74 (c_J_nextStep l D dT A KX L ad τ S3 o hI hV aR aT hX x.toNat hf) (cwS 1 C.hts (gdS tw_304 tw_305 tw_1 tw_306) rfl rfl rfl ⟨rfl, by decide, by decide, by decide⟩ ⟨by decide, by decide⟩) rfl rfl (by decide) ⟨by decide, by decide⟩ ?_
              rintro r1 L1 ad1 τ1 ⟨g1, g2, g3, g4⟩; obtain rfl := g1.symm; obtain rfl := g2.symm; obtain rfl := g3.symm; subst g4
              have hn9 := nextv_r S3 x.toNat
              refine ph_if_ne (pc := 77) (tgt := 85) C d_J_step_77 (by decide) (by first | omega | (have := hV.f hf; omega)) (fun c77 => ?_) (fun c77 => ?_)
              · refine ph_iconst (pc := 85) C d_J_step_85 ?_
                exact ph_iret (pc := 86) C d_J_step_86 hr hlk rfl (by decide) (by decide) ⟨rfl, rfl, (by rw [e_S2] at hI; rw [stepS_t ⟨by assumption, by omega, by omega, by assumption⟩, stB, if_neg (by rw [← e_S2]; assumption)]; exact hI), (by rw [stepv, if_neg (not_not_intro (by assumption)), if_neg (by omega), if_neg (by omega), if_pos (by assumption)])⟩
              · refine ph_aload_n (pc := 80) C d_J_step_80 rfl ?_
                refine ph_iload_n (pc := 81) C d_J_step_81 rfl ?_
                refine ph_ti (y := ((x.toNat : Nat) : Int)) (by omega) ?_
                refine ph_callV (pc := 82) (rest := []) C d_J_step_82 (c_J_clear l D dT A KX L ad τ S3 o hI hV x.toNat hf) (cwV 1 C.hts (gdV tw_313 tw_315 se_20 tw_1 tw_316) rfl rfl rfl ⟨rfl, by decide, by decide, by decide⟩ ⟨by decide, by decide⟩) (hI.live (g := 0) (i := 0) rfl) hI.ob rfl rfl rfl rfl rfl (by decide) ⟨by decide, by decide⟩ ?_
                rintro r1 L1 ad1 τ ⟨g1, g2, hI, g4⟩; obtain rfl := g1.symm; obtain rfl := g2.symm; subst g4
                obtain ⟨S5, e_S5⟩ : ∃ z, z = clearS S3 x.toNat := ⟨_, rfl⟩
                rw [← e_S5] at hI
                have hV : IV S5 := by rw [e_S5]; exact hV.clearS hf
                have hc := hV.c
                refine ph_iconst (pc := 85) C d_J_step_85 ?_
                exact ph_iret (pc := 86) C d_J_step_86 hr hlk rfl (by decide) (by decide) ⟨rfl, rfl, (by rw [e_S5, e_S2] at hI; rw [stepS_t ⟨by assumption, by omega, by omega, by assumption⟩, stB, if_pos (by rw [← e_S2]; assumption)]; exact hI), (by rw [stepv, if_neg (not_not_intro (by assumption)), if_neg (by omega), if_neg (by omega), if_pos (by assumption)])⟩
            · refine ph_aload_n (pc := 69) C d_J_step_69 rfl ?_
              refine ph_callV (pc := 70) (rest := []) C d_J_step_70 (c_J_resetCounts l D dT A KX L ad τ (ph_up S 3 x.toNat 6 ((S 3 x.toNat 6) + (1))) o hI (hV.upF (i := x.toNat) (k := 6) (z := (S 3 x.toNat 6) + (1)) (by omega) (by omega) (by omega) (by omega) (by omega) (by omega) (by have := hV.f hf; have := nextv_l (S := S) (f := x.toNat) (by omega); omega))) (cwV 0 C.hts (gdV tw_309 tw_311 se_19 tw_1 tw_312) rfl rfl rfl ⟨rfl, by decide, by decide, by decide⟩ ⟨by decide, by decide⟩) (hI.live (g := 0) (i := 0) rfl) hI.ob rfl rfl rfl rfl rfl (by decide) ⟨by decide, by decide⟩ ?_
              rintro r1 L1 ad1 τ ⟨g1, g2, hI, g4⟩; obtain rfl := g1.symm; obtain rfl := g2.symm; subst g4
              obtain ⟨S4, e_S4⟩ : ∃ z, z = resetS (ph_up S 3 x.toNat 6 ((S 3 x.toNat 6) + (1))) := ⟨_, rfl⟩
              rw [← e_S4] at hI
              have hV : IV S4 := by rw [e_S4]; exact (hV.upF (i := x.toNat) (k := 6) (z := (S 3 x.toNat 6) + (1)) (by omega) (by omega) (by omega) (by omega) (by omega) (by omega) (by have := hV.f hf; have := nextv_l (S := S) (f := x.toNat) (by omega); omega)).resetS
              have hc := hV.c
              have hf : LC S4 3 x.toNat := (LC_eq (S := S) (by rw [e_S4, resetS_g (by decide)]; rfl) (by rw [e_S4, resetS_g (by decide)]; rfl) (by rw [e_S4, resetS_g (by decide)]; rfl) 3 x.toNat).mpr hf
              have e_S2 : S4 = stA S x.toNat y := by rw [e_S4, stA, if_pos (by assumption)]
              refine ph_aload_n (pc := 73) C d_J_step_73 rfl ?_
              refine ph_callS (pc := 74) (rest := []) C d_J_step_74 (c_J_nextStep l D dT A KX L ad τ S4 o hI hV aR aT hX x.toNat hf) (cwS 1 C.hts (gdS tw_304 tw_305 tw_1 tw_306) rfl rfl rfl ⟨rfl, by decide, by decide, by decide⟩ ⟨by decide, by decide⟩) rfl rfl (by decide) ⟨by decide, by decide⟩ ?_
              rintro r1 L1 ad1 τ1 ⟨g1, g2, g3, g4⟩; obtain rfl := g1.symm; obtain rfl := g2.symm; obtain rfl := g3.symm; subst g4
              have hn9 := nextv_r S4 x.toNat
              refine ph_if_ne (pc := 77) (tgt := 85) C d_J_step_77 (by decide) (by first | omega | (have := hV.f hf; omega)) (fun c77 => ?_) (fun c77 => ?_)
              · refine ph_iconst (pc := 85) C d_J_step_85 ?_
                exact ph_iret (pc := 86) C d_J_step_86 hr hlk rfl (by decide) (by decide) ⟨rfl, rfl, (by rw [e_S2] at hI; rw [stepS_t ⟨by assumption, by omega, by omega, by assumption⟩, stB, if_neg (by rw [← e_S2]; assumption)]; exact hI), (by rw [stepv, if_neg (not_not_intro (by assumption)), if_neg (by omega), if_neg (by omega), if_pos (by assumption)])⟩
              · refine ph_aload_n (pc := 80) C d_J_step_80 rfl ?_
                refine ph_iload_n (pc := 81) C d_J_step_81 rfl ?_
                refine ph_ti (y := ((x.toNat : Nat) : Int)) (by omega) ?_
                refine ph_callV (pc := 82) (rest := []) C d_J_step_82 (c_J_clear l D dT A KX L ad τ S4 o hI hV x.toNat hf) (cwV 1 C.hts (gdV tw_313 tw_315 se_20 tw_1 tw_316) rfl rfl rfl ⟨rfl, by decide, by decide, by decide⟩ ⟨by decide, by decide⟩) (hI.live (g := 0) (i := 0) rfl) hI.ob rfl rfl rfl rfl rfl (by decide) ⟨by decide, by decide⟩ ?_
                rintro r1 L1 ad1 τ ⟨g1, g2, hI, g4⟩; obtain rfl := g1.symm; obtain rfl := g2.symm; subst g4
                obtain ⟨S5, e_S5⟩ : ∃ z, z = clearS S4 x.toNat := ⟨_, rfl⟩
                rw [← e_S5] at hI
                have hV : IV S5 := by rw [e_S5]; exact hV.clearS hf
                have hc := hV.c
                refine ph_iconst (pc := 85) C d_J_step_85 ?_
                exact ph_iret (pc := 86) C d_J_step_86 hr hlk rfl (by decide) (by decide) ⟨rfl, rfl, (by rw [e_S5, e_S2] at hI; rw [stepS_t ⟨by assumption, by omega, by omega, by assumption⟩, stB, if_pos (by rw [← e_S2]; assumption)]; exact hI), (by rw [stepv, if_neg (not_not_intro (by assumption)), if_neg (by omega), if_neg (by omega), if_pos (by assumption)])⟩
          · refine ph_iconst (pc := 52) C d_J_step_52 ?_
            exact ph_iret (pc := 53) C d_J_step_53 hr hlk rfl (by decide) (by decide) ⟨rfl, rfl, (by rw [stepS_f (fun q => by first | exact absurd q.1 (by assumption) | (have := q.2.1; omega) | (have := q.2.2.1; omega) | exact absurd q.2.2.2 (by assumption))]; exact hI), (by rw [stepv, if_neg (not_not_intro (by assumption)), if_neg (by omega), if_neg (by omega), if_neg (by assumption)])⟩
        · refine ph_bipush (pc := 34) C d_J_step_34 (by decide) ?_
          exact ph_iret (pc := 36) C d_J_step_36 hr hlk rfl (by decide) (by decide) ⟨rfl, rfl, (by rw [stepS_f (fun q => by first | exact absurd q.1 (by assumption) | (have := q.2.1; omega) | (have := q.2.2.1; omega) | exact absurd q.2.2.2 (by assumption))]; exact hI), (by rw [stepv, if_neg (not_not_intro (by assumption)), if_neg (by omega), if_pos (by omega)])⟩
      · refine ph_bipush (pc := 21) C d_J_step_21 (by decide) ?_
        exact ph_iret (pc := 23) C d_J_step_23 hr hlk rfl (by decide) (by decide) ⟨rfl, rfl, (by rw [stepS_f (fun q => by first | exact absurd q.1 (by assumption) | (have := q.2.1; omega) | (have := q.2.2.1; omega) | exact absurd q.2.2.2 (by assumption))]; exact hI), (by rw [stepv, if_neg (not_not_intro (by assumption)), if_pos (by omega)])⟩
  · refine ph_bipush (pc := 8) C d_J_step_8 (by decide) ?_
    exact ph_iret (pc := 10) C d_J_step_10 hr hlk rfl (by decide) (by decide) ⟨rfl, rfl, (by rw [stepS_f (fun q => by first | exact absurd q.1 (by assumption) | (have := q.2.1; omega) | (have := q.2.2.1; omega) | exact absurd q.2.2.2 (by assumption))]; exact hI), (by rw [stepv, if_pos (by assumption)])⟩
end
section
/-! ===== new objects ===== -/
def JF (S : ph_T) (L : Nat → Nat → Prop) : Prop := ∀ g i : Nat, (g = 1 ∨ g = 2 ∨ g = 3) → L g i → LC S g i
section ALC
variable {S : ph_T} {o : Nat} {L : Nat → Nat → Prop} {ad : Nat → Nat → Nat} {τ : ph_T}
theorem tn_ne (τ : ph_T) {g i g' i' : Nat} (v : Nat → Int) (h : ¬ (g' = g ∧ i' = i)) : ph_tn τ g i v g' i' = τ g' i' := by
  unfold ph_tn
  rw [if_neg h]
theorem an_ne (ad : Nat → Nat → Nat) {g i g' i' : Nat} (a : Nat) (h : ¬ (g' = g ∧ i' = i)) : ph_an ad g i a g' i' = ad g' i' := by
  unfold ph_an
  rw [if_neg h]
theorem tn_at (τ : ph_T) (g i : Nat) (v : Nat → Int) : ph_tn τ g i v g i = v := by
  unfold ph_tn
  rw [if_pos ⟨rfl, rfl⟩]
theorem an_at (ad : Nat → Nat → Nat) (g i a : Nat) : ph_an ad g i a g i = a := by
  unfold ph_an
  rw [if_pos ⟨rfl, rfl⟩]
theorem JR.new (h : JR S o L ad τ) {g i : Nat} (a : Nat) (v : Nat → Int) (hg : g = 1 ∨ g = 2 ∨ g = 3) (hn : ¬ LC S g i) : JR S o (ph_Ln L g i) (ph_an ad g i a) (ph_tn τ g i v) := by
  have hne : ∀ {g' i'}, LC S g' i' → ¬ (g' = g ∧ i' = i) := fun hl e => hn (by obtain ⟨rfl, rfl⟩ := e; exact hl)
  have hz : ∀ g' i', g' ≠ 1 → g' ≠ 2 → g' ≠ 3 → ¬ (g' = g ∧ i' = i) := fun g' i' h1 h2 h3 e => by omega
  refine ⟨fun g' i' hl => Or.inl (h.1 g' i' hl), by rw [an_ne _ _ (hz 0 0 (by decide) (by decide) (by decide))]; exact h.ob, fun g' i' k' hl hd => by rw [tn_ne _ _ (hne hl)]; exact h.dat hl hd, ⟨?_, ?_, ?_, ?_, ?_, ?_⟩, fun i' hl => ?_, fun i' hl => ?_, fun i' hl => ?_⟩
  · rw [tn_ne _ _ (hz 0 0 (by decide) (by decide) (by decide)), an_ne _ _ (hz 4 0 (by decide) (by decide) (by decide))]; exact h.r0
  · rw [tn_ne _ _ (hz 0 0 (by decide) (by decide) (by decide)), an_ne _ _ (hz 5 0 (by decide) (by decide) (by decide))]; exact h.r2
  · rw [tn_ne _ _ (hz 0 0 (by decide) (by decide) (by decide)), an_ne _ _ (hz 6 0 (by decide) (by decide) (by decide))]; exact h.r4
  · rw [tn_ne _ _ (hz 0 0 (by decide) (by decide) (by decide)), an_ne _ _ (hz 7 0 (by decide) (by decide) (by decide))]; exact h.r7
  · rw [tn_ne _ _ (hz 0 0 (by decide) (by decide) (by decide)), an_ne _ _ (hz 8 0 (by decide) (by decide) (by decide))]; exact h.r8
  · rw [tn_ne _ _ (hz 0 0 (by decide) (by decide) (by decide)), an_ne _ _ (hz 9 0 (by decide) (by decide) (by decide))]; exact h.r9
  · rw [tn_ne _ _ (hz 4 0 (by decide) (by decide) (by decide)), an_ne _ _ (hne hl)]; exact h.e4 hl
  · rw [tn_ne _ _ (hz 5 0 (by decide) (by decide) (by decide)), an_ne _ _ (hne hl)]; exact h.e5 hl
  · rw [tn_ne _ _ (hz 6 0 (by decide) (by decide) (by decide)), an_ne _ _ (hne hl)]; exact h.e6 hl
/-- a write into an object that doesn't count yet -/
theorem JR.dead (h : JR S o L ad τ) {g i k : Nat} (z : Int) (hg : g = 1 ∨ g = 2 ∨ g = 3) (hn : ¬ LC S g i) : JR S o L ad (ph_up τ g i k z) := by
  have hz : ∀ g' i' k', g' ≠ 1 → g' ≠ 2 → g' ≠ 3 → ph_up τ g i k z g' i' k' = τ g' i' k' := fun g' i' k' h1 h2 h3 => up_ne τ (by omega)
  refine ⟨h.1, h.2.1, fun g' i' k' hl hd => ?_, ⟨?_, ?_, ?_, ?_, ?_, ?_⟩, fun i' hl => ?_, fun i' hl => ?_, fun i' hl => ?_⟩
  · rw [ph_up_no _ _ (fun e => hn (by obtain ⟨rfl, rfl, -⟩ := e; exact hl))]; exact h.dat hl hd
  · rw [hz _ _ _ (by decide) (by decide) (by decide)]; exact h.r0
  · rw [hz _ _ _ (by decide) (by decide) (by decide)]; exact h.r2
  · rw [hz _ _ _ (by decide) (by decide) (by decide)]; exact h.r4
  · rw [hz _ _ _ (by decide) (by decide) (by decide)]; exact h.r7
  · rw [hz _ _ _ (by decide) (by decide) (by decide)]; exact h.r8
  · rw [hz _ _ _ (by decide) (by decide) (by decide)]; exact h.r9
  · rw [hz _ _ _ (by decide) (by decide) (by decide)]; exact h.e4 hl
  · rw [hz _ _ _ (by decide) (by decide) (by decide)]; exact h.e5 hl
  · rw [hz _ _ _ (by decide) (by decide) (by decide)]; exact h.e6 hl
def addF (S : ph_T) (v : Nat → Int) : ph_T := ph_up (ph_tn S 3 (S 0 0 5 + 1).toNat v) 0 0 5 (S 0 0 5 + 1)
theorem addF_0 (S : ph_T) (v : Nat → Int) {k : Nat} (hk : k ≠ 5) : addF S v 0 0 k = S 0 0 k := by
  unfold addF
  rw [ph_up_no _ _ (by omega), tn_ne _ _ (by omega)]
theorem addF_5 (S : ph_T) (v : Nat → Int) : addF S v 0 0 5 = S 0 0 5 + 1 := ph_up_at _ _ _ _ _
theorem addF_g (S : ph_T) (v : Nat → Int) {g i k : Nat} (hg : g ≠ 0 ∧ g ≠ 3) : addF S v g i k = S g i k := by
  unfold addF
  rw [up_ne _ hg.1, tn_ne _ _ (by omega)]
theorem addF_3 (S : ph_T) (v : Nat → Int) {i k : Nat} : addF S v 3 i k = if i = (S 0 0 5 + 1).toNat then v k else S 3 i k := by
  unfold addF
  rw [up_ne _ (by decide)]
  unfold ph_tn
  by_cases h : i = (S 0 0 5 + 1).toNat
  · rw [if_pos ⟨rfl, h⟩, if_pos h]
  · rw [if_neg (fun q => h q.2), if_neg h]
theorem addF_L {S : ph_T} {v : Nat → Int} (h5 : 0 ≤ S 0 0 5) (g i : Nat) : LC (addF S v) g i ↔ (LC S g i ∨ (g = 3 ∧ i = (S 0 0 5 + 1).toNat)) := by
  by_cases hg : g = 3
  · subst hg
    show (1 ≤ i ∧ (i : Int) ≤ addF S v 0 0 5) ↔ ((1 ≤ i ∧ (i : Int) ≤ S 0 0 5) ∨ (3 = 3 ∧ i = (S 0 0 5 + 1).toNat))
    rw [addF_5]
    generalize S 0 0 5 = q at h5 ⊢
    constructor
    · intro h
      by_cases e : (i : Int) ≤ q
      · exact Or.inl ⟨h.1, e⟩
      · exact Or.inr ⟨rfl, by omega⟩
    · rintro (h | ⟨-, h⟩) <;> omega
  · have e1 : addF S v 0 0 1 = S 0 0 1 := addF_0 S v (by decide)
    have e3 : addF S v 0 0 3 = S 0 0 3 := addF_0 S v (by decide)
    have e : LC (addF S v) g i ↔ LC S g i := by
      unfold LC
      split
      · exact Iff.rfl
      · rw [e1]
      · rw [e3]
      · exact absurd rfl hg
      all_goals exact Iff.rfl
    rw [e]
    exact ⟨Or.inl, fun q => q.elim id (fun q => absurd q.1 hg)⟩
theorem JR.addF (h : JR S o L ad τ) (h5 : 0 ≤ S 0 0 5) {v : Nat → Int} {f : Nat} (hf : (f : Int) = S 0 0 5 + 1) (hL : L 3 f) (hv : ∀ k, k < 7 → τ 3 f k = v k) : JR (addF S v) o L ad (ph_up (ph_up τ 0 0 5 (S 0 0 5 + 1)) 6 0 f (ad 3 f : Int)) := by
  have hfn : f = (S 0 0 5 + 1).toNat := by omega
  have n0 : ∀ k, k ≠ 5 → ph_up (ph_up τ 0 0 5 (S 0 0 5 + 1)) 6 0 f (ad 3 f : Int) 0 0 k = τ 0 0 k := fun k hk => by rw [up_ne _ (by decide), ph_up_no _ _ (by omega)]
  have nn : ∀ g i k, g ≠ 0 → g ≠ 6 → ph_up (ph_up τ 0 0 5 (S 0 0 5 + 1)) 6 0 f (ad 3 f : Int) g i k = τ g i k := fun g i k h1 h2 => by rw [up_ne _ h2, up_ne _ h1]
  refine ⟨fun g i hl => ?_, h.ob, fun g i k hl hd => ?_, ⟨?_, ?_, ?_, ?_, ?_, ?_⟩, fun i hl => ?_, fun i hl => ?_, fun i hl => ?_⟩
  · rcases (addF_L h5 g i).mp hl with q | ⟨rfl, rfl⟩
    · exact h.1 g i q
    · rw [← hfn]; exact hL
  · rcases (addF_L h5 g i).mp hl with q | ⟨rfl, rfl⟩
    · by_cases g0 : g = 0
      · subst g0
        have i0 : i = 0 := q
        subst i0
        by_cases k5 : k = 5
        · subst k5
          rw [addF_5, up_ne _ (by decide), ph_up_at]
        · rw [addF_0 _ _ k5, n0 k k5]; exact h.dat q hd
      · have g6 : g ≠ 6 := fun e => by subst e; cases hd
        rw [nn g i k g0 g6]
        by_cases g3 : g = 3
        · subst g3
          rw [addF_3, if_neg (by simp only [LC] at q; omega)]; exact h.dat q hd
        · rw [addF_g _ _ ⟨g0, g3⟩]; exact h.dat q hd
    · rw [nn 3 _ k (by decide) (by decide), addF_3, if_pos rfl, ← hfn]
      exact hv k (Nat.blt_eq.mp hd)
  · rw [n0 _ (by decide)]; exact h.r0
  · rw [n0 _ (by decide)]; exact h.r2
  · rw [n0 _ (by decide)]; exact h.r4
  · rw [n0 _ (by decide)]; exact h.r7
  · rw [n0 _ (by decide)]; exact h.r8
  · rw [n0 _ (by decide)]; exact h.r9
  · rw [nn 4 0 i (by decide) (by decide)]
    rcases (addF_L h5 1 i).mp hl with q | ⟨q, -⟩
    · exact h.e4 q
    · cases q
  · rw [nn 5 0 i (by decide) (by decide)]
    rcases (addF_L h5 2 i).mp hl with q | ⟨q, -⟩
    · exact h.e5 q
    · cases q
  · rcases (addF_L h5 3 i).mp hl with q | ⟨-, q⟩
    · have hne : ¬ i = f := by simp only [LC] at q; omega
      rw [ph_up_no _ _ (fun e => hne e.2.2), up_ne _ (by decide)]
      exact h.e6 q
    · have e : i = f := by omega
      subst e
      exact ph_up_at _ _ _ _ _
theorem JF.addF (hF : JF S L) (h5 : 0 ≤ S 0 0 5) (v : Nat → Int) {f : Nat} (hf : (f : Int) = S 0 0 5 + 1) : JF (addF S v) (ph_Ln L 3 f) := fun g i hg hl => by
  refine (addF_L h5 g i).mpr ?_
  rcases hl with q | ⟨rfl, rfl⟩
  · exact Or.inl (hF g i hg q)
  · exact Or.inr ⟨rfl, by omega⟩
theorem IV.addF (h : IV S) (h4 : S 0 0 5 < 40) {v : Nat → Int} (hv : 1 ≤ v 0 ∧ v 0 ≤ 6 ∧ -1 ≤ v 1 ∧ v 1 ≤ 7 ∧ 0 ≤ v 2 ∧ v 2 ≤ S 0 0 11 ∧ (v 3 = 0 ∨ v 3 = 1) ∧ (v 4 = 0 ∨ v 4 = 1) ∧ 0 ≤ v 5 ∧ v 5 < 2305843009213693952 ∧ 0 ≤ v 6 ∧ v 6 ≤ 3) : IV (addF S v) := by
  have hc := h.c
  have hL := fun g i => addF_L (S := S) (v := v) (by omega) g i
  refine ⟨?_, fun j hj => ?_, fun j hj => ?_, fun j hj => ?_, fun j hj => ?_, fun j hj => ?_⟩
  · rw [addF_0 _ _ (by decide), addF_0 _ _ (by decide), addF_5, addF_0 _ _ (by decide), addF_0 _ _ (by decide), addF_0 _ _ (by decide)]
    omega
  · rcases (hL 1 j).mp hj with q | ⟨q, -⟩
    · simp only [addF_g _ _ (show (1 : Nat) ≠ 0 ∧ (1 : Nat) ≠ 3 by decide)]
      rw [addF_0 _ _ (by decide), addF_0 _ _ (by decide)]
      exact h.s q
    · cases q
  · rcases (hL 2 j).mp hj with q | ⟨q, -⟩
    · simp only [addF_g _ _ (show (2 : Nat) ≠ 0 ∧ (2 : Nat) ≠ 3 by decide)]
      exact h.i q
    · cases q
  · simp only [addF_3]
    rw [addF_0 _ _ (by decide)]
    by_cases e : j = (S 0 0 5 + 1).toNat
    · simp only [if_pos e]
      exact hv
    · simp only [if_neg e]
      rcases (hL 3 j).mp hj with q | ⟨-, q⟩
      · exact h.f q
      · exact absurd q e
  · simp only [addF_g _ _ (show (7 : Nat) ≠ 0 ∧ (7 : Nat) ≠ 3 by decide), addF_g _ _ (show (8 : Nat) ≠ 0 ∧ (8 : Nat) ≠ 3 by decide)]
    exact h.r hj
  · simp only [addF_g _ _ (show (9 : Nat) ≠ 0 ∧ (9 : Nat) ≠ 3 by decide)]
    rw [addF_0 _ _ (by decide)] at hj
    exact h.l hj
end ALC
end
section
/-! ===== tell ===== -/
def thrS (S : ph_T) (k : Nat) : ph_T := if S 8 0 k = 0 then S else ph_up (ph_up S 7 0 k 1) 8 0 k 0
def fvl (kd s ck th st db : Int) : Nat → Int := fun k => match k with
  | 0 => kd
  | 1 => s
  | 2 => ck
  | 3 => th
  | 4 => st
  | 5 => db
  | _ => 0
def tellS (S : ph_T) (kd : Nat) (s db : Int) : ph_T := if 40 ≤ S 0 0 5 then S else addF (thrS S kd) (fvl (kd : Int) s (S 0 0 11) (S 8 0 kd) (thrS S kd 7 0 kd) db)
def tellv (S : ph_T) : Int := if 40 ≤ S 0 0 5 then 0 else S 0 0 5 + 1
theorem thrS_g {S : ph_T} {k g i j : Nat} (hg : g ≠ 7 ∧ g ≠ 8) : thrS S k g i j = S g i j := by
  unfold thrS
  split
  · rfl
  · rw [up_ne _ hg.2, up_ne _ hg.1]
theorem thrS_L {S : ph_T} {k : Nat} (g i : Nat) : LC (thrS S k) g i ↔ LC S g i := LC_eq (thrS_g (by decide)) (thrS_g (by decide)) (thrS_g (by decide)) g i
theorem IV.thrS {S : ph_T} (h : IV S) {k : Nat} : IV (thrS S k) := by
  show IV (if _ then _ else _)
  split
  · exact h
  · exact (h.upR (Or.inl rfl) (Or.inr rfl)).upR (Or.inr rfl) (Or.inl rfl)
theorem IV.tellS {S : ph_T} (h : IV S) {kd : Nat} {s db : Int} (hk : 1 ≤ kd ∧ kd ≤ 6) (hs : -1 ≤ s ∧ s ≤ 7) (hd : 0 ≤ db ∧ db < 2305843009213693952) : IV (tellS S kd s db) := by
  have hc := h.c
  have h1 := h.thrS (k := kd)
  have e := fun k : Nat => thrS_g (S := S) (k := kd) (g := 0) (i := 0) (j := k) (by decide)
  show IV (if _ then _ else _)
  split
  · exact h
  · refine h1.addF (by rw [e]; omega) ?_
    have r1 := (h.r (k := kd) (by omega)).2
    have r2 := (h1.r (k := kd) (by omega)).1
    rw [e]
    exact ⟨by show 1 ≤ (kd : Int); omega, by show (kd : Int) ≤ 6; omega, hs.1, hs.2, by show 0 ≤ S 0 0 11; omega, Int.le_refl _, r1, r2, hd.1, hd.2, by show (0 : Int) ≤ 0; omega, by show (0 : Int) ≤ 3; omega⟩
section FVL
variable {τ : ph_T} {f : Nat} {a b c d e g z : Int}
theorem fvl3 (h : ∀ k, k < 7 → τ 3 f k = fvl a b c d e g k) : ∀ k, k < 7 → ph_up τ 3 f 3 z 3 f k = fvl a b c z e g k := fun k hk => by
  rw [up_if]
  have h1 := h k hk
  rcases (show k = 0 ∨ k = 1 ∨ k = 2 ∨ k = 3 ∨ k = 4 ∨ k = 5 ∨ k = 6 by omega) with rfl | rfl | rfl | rfl | rfl | rfl | rfl <;> first | (rw [if_neg (by omega)]; exact h1) | (rw [if_pos ⟨rfl, rfl⟩]; rfl)
theorem fvl4 (h : ∀ k, k < 7 → τ 3 f k = fvl a b c d e g k) : ∀ k, k < 7 → ph_up τ 3 f 4 z 3 f k = fvl a b c d z g k := fun k hk => by
  rw [up_if]
  have h1 := h k hk
  rcases (show k = 0 ∨ k = 1 ∨ k = 2 ∨ k = 3 ∨ k = 4 ∨ k = 5 ∨ k = 6 by omega) with rfl | rfl | rfl | rfl | rfl | rfl | rfl <;> first | (rw [if_neg (by omega)]; exact h1) | (rw [if_pos ⟨rfl, rfl⟩]; rfl)
theorem fvl5 (h : ∀ k, k < 7 → τ 3 f k = fvl a b c d e g k) : ∀ k, k < 7 → ph_up τ 3 f 5 z 3 f k = fvl a b c d e z k := fun k hk => by
  rw [up_if]
  have h1 := h k hk
  rcases (show k = 0 ∨ k = 1 ∨ k = 2 ∨ k = 3 ∨ k = 4 ∨ k = 5 ∨ k = 6 by omega) with rfl | rfl | rfl | rfl | rfl | rfl | rfl <;> first | (rw [if_neg (by omega)]; exact h1) | (rw [if_pos ⟨rfl, rfl⟩]; rfl)
end FVL
theorem dbm_lt {S : ph_T} (h : IV S) (s : Nat) : dbm S s < 2305843009213693952 := by
  have hc := h.c
  have := dbF_lt (S := S) (s := s) (S 0 0 3).toNat 1 0 (by omega) (by decide)
  unfold dbm
  omega
theorem dbm_thr {S : ph_T} {k s : Nat} : dbm (thrS S k) s = dbm S s := by
  have hD : ∀ i, inD (thrS S k) i s ↔ inD S i s := fun i => by
    unfold inD seenb
    rw [thrS_g (by decide), thrS_g (by decide), thrS_g (by decide), thrS_g (by decide), thrS_g (by decide), thrS_g (by decide)]
  have hF : ∀ n i acc, dbF (thrS S k) s n i acc = dbF S s n i acc := by
    intro n
    induction n with
    | zero => intro i acc; rfl
    | succ n ih =>
      intro i acc
      rcases Classical.em (inD S i s) with q | q
      · rw [dbF_t q, dbF_t ((hD i).mpr q), ih]
      · rw [dbF_f q, dbF_f (fun z => q ((hD i).mp z)), ih]
  unfold dbm
  rw [hF, thrS_g (by decide)]
end
section
/-! ===== tell ===== -/
set_option maxHeartbeats 4000000 in
set_option maxRecDepth 100000 in
theorem c_J_tell (l : Launch) (D : va_G) (dT : Nat → ClassId) (A : Nat → Prop) (KX : State → Prop) (L : Nat → Nat → Prop) (ad : Nat → Nat → Nat) (τ : ph_T) (S : ph_T) (o : Nat) (hI : JR S o L ad τ) (hV : IV S) (hF : JF S L) (kd0 : Nat) (hk : 1 ≤ kd0 ∧ kd0 ≤ 6) (s0 : Nat) (hs : LC S 1 s0) : ph_M l y_J_tell (.code y_J_tell b_J_tell 5 (some .int) :: TB) ({ frames := 3, cells := 1, slots := 7, locals := 68 } : Room) D CLs (TY dT) dT kd A KX [.ref (o), .int (ph_i ((kd0 : Int))), .int (ph_i ((s0 : Int)))] L ad τ (fun r L' ad' τ' => JR (tellS S kd0 (s0 : Int) ((dbm S s0 : Nat) : Int)) o L' ad' τ' ∧ JF (tellS S kd0 (s0 : Int) ((dbm S s0 : Nat) : Int)) L' ∧ r = some (.int (ph_i (tellv S)))) 1 7 := by
  refine ph_M.of (cc := b_J_tell) (maxL := 5) (ret := (some .int)) (by decide) rfl (Nat.le_of_ble_eq_true rfl) ?_
  intro p e s m below meth c C0 hr hlk hnm
  have C := C0.sub
  refine ph_loc (l2 := [(0, .ref (o)), (1, .int (ph_i ((kd0 : Int)))), (2, .int (ph_i ((s0 : Int))))]) ⟨rfl, rfl, rfl, trivial⟩ ?_
  have hc := hV.c
  have hth := (hV.r (k := kd0) (by omega)).2
  refine ph_aload_n (pc := 0) C d_J_tell_0 rfl ?_
  refine gt_J_34 (pc := 1) C d_J_tell_1 (hI.live (g := 0) (i := 0) rfl) hI.ob (z := S 0 0 5) (hI.dat rfl rfl) ?_
  refine ph_bipush (pc := 4) C d_J_tell_4 (by decide) ?_
  refine ph_icmp_lt (pc := 6) (tgt := 11) C d_J_tell_6 (by decide) (by omega) (by omega) (fun c6 => ?_) (fun c6 => ?_)
  · refine ph_aload_n (pc := 11) C d_J_tell_11 rfl ?_
    refine gt_J_44 (pc := 12) C d_J_tell_12 (hI.live (g := 0) (i := 0) rfl) hI.ob hI.r8 ?_
    refine ph_iload_n (pc := 15) C d_J_tell_15 rfl ?_
    refine ph_zald (pc := 16) C d_J_tell_16 (hI.live (g := 8) (i := 0) rfl) rfl rfl rfl kd0 rfl (by omega) (by decide) ?_
    rw [hI.dat (g := 8) (i := 0) (k := kd0) rfl rfl]
    refine ph_istore_n (pc := 17) C d_J_tell_17 (by decide) rfl ?_
    refine ph_iload_n (pc := 18) C d_J_tell_18 rfl ?_
    refine ph_if_eq (pc := 19) (tgt := 36) C d_J_tell_19 (by decide) (by omega) (fun c19 => ?_) (fun c19 => ?_)
    · have e_S0 : S = thrS S kd0 := by rw [thrS, if_pos (by assumption)]
      have hI : JR (thrS S kd0) o L ad τ := by rw [← e_S0]; exact hI
      obtain ⟨S1, e_S1⟩ : ∃ z, z = thrS S kd0 := ⟨_, rfl⟩
      rw [← e_S1] at hI
      have hV1 : IV S1 := by rw [e_S1]; exact hV.thrS
      have hF1 : JF S1 L := fun g i q1 q2 => by rw [e_S1]; exact (thrS_L g i).mpr (hF g i q1 q2)
      have e0 : ∀ q, S1 0 0 q = S 0 0 q := fun q => by rw [e_S1]; exact thrS_g (by decide)
      have hs : LC S1 1 s0 := by rw [e_S1]; exact (thrS_L 1 s0).mpr hs
      have e05 := e0 5
      have e011 := e0 11
      obtain ⟨f, hf⟩ : ∃ f : Nat, (f : Int) = S1 0 0 5 + 1 := ⟨(S1 0 0 5 + 1).toNat, by omega⟩
      have hn : ¬ LC S1 3 f := by simp only [LC]; omega
      have hst := (hV1.r (k := kd0) (by omega)).1
      refine ph_new (pc := 36) (g := 3) C d_J_tell_36 f (fun q => hn (hF1 3 f (by omega) q)) rfl rfl in_F t_F_ok tw_18 tw_172 tw_5 (fun j hj => by rcases (show j = 0 ∨ j = 1 ∨ j = 2 ∨ j = 3 ∨ j = 4 ∨ j = 5 ∨ j = 6 by omega) with rfl | rfl | rfl | rfl | rfl | rfl | rfl <;> rfl) (by decide) (by decide) ?_
      intro a hfresh
      have hI := hI.new (g := 3) (i := f) a (ph_df [0, 0, 1, 0, 0, 1, 0]) (by omega) hn
      have hLf : ph_Ln L 3 f 3 f := Or.inr ⟨rfl, rfl⟩
      have haf : ph_an ad 3 f a 3 f = a := an_at ad 3 f a
      have hF2 := fun v => hF1.addF (by omega) v hf
      generalize ph_Ln L 3 f = L at hI hLf hF2 ⊢
      generalize ph_an ad 3 f a = ad at hI haf ⊢
      generalize ph_tn τ 3 f (ph_df [0, 0, 1, 0, 0, 1, 0]) = τ at hI ⊢
      replace hV := hV1
      have hc := hV.c
      refine ph_dup (pc := 39) C d_J_tell_39 rfl ?_
      refine ph_iload_n (pc := 40) C d_J_tell_40 rfl ?_
      refine ph_iload_n (pc := 41) C d_J_tell_41 rfl ?_
      refine ph_aload_n (pc := 42) C d_J_tell_42 rfl ?_
      refine gt_J_54 (pc := 43) C d_J_tell_43 (hI.live (g := 0) (i := 0) rfl) hI.ob (z := S1 0 0 11) (hI.dat rfl rfl) ?_
      refine ph_callI (pc := 46) (rest := [.ref (a)]) C d_J_tell_46 (c_F_init l D dT A KX L ad τ f a hLf haf ((kd0 : Int)) ((s0 : Int)) (S1 0 0 11)) (cwI 3 C.hts (gdI tw_175) rfl rfl rfl (C.hts _ tw_5) (C.hts _ tw_173) (C.hts _ tw_174) rfl (by decide) ⟨by decide, by decide⟩) rfl rfl (Nat.le_of_ble_eq_true rfl) ⟨by decide, by decide⟩ ?_
      rintro r1 L1 ad1 τ2 ⟨g1, g2, g3, g4⟩; obtain rfl := g1.symm; obtain rfl := g2.symm; subst g4
      have hI : JR S1 o L ad τ2 := by rw [g3]; exact ((((((hI.dead _ (by omega) hn).dead _ (by omega) hn).dead _ (by omega) hn).dead _ (by omega) hn).dead _ (by omega) hn).dead _ (by omega) hn).dead _ (by omega) hn
      have hv : ∀ q, q < 7 → τ2 3 f q = fvl (kd0 : Int) ((s0 : Int)) (S1 0 0 11) 0 0 0 q := fun q hq => by rw [g3]; rcases (show q = 0 ∨ q = 1 ∨ q = 2 ∨ q = 3 ∨ q = 4 ∨ q = 5 ∨ q = 6 by omega) with rfl | rfl | rfl | rfl | rfl | rfl | rfl <;> simp [ph_up, fvl]
      clear g3
      obtain ⟨τ, rfl⟩ : ∃ z, z = τ2 := ⟨_, rfl⟩
      refine ph_astore (pc := 49) C d_J_tell_49 (by decide) rfl ?_
      refine ph_aload (pc := 51) C d_J_tell_51 rfl ?_
      refine ph_iload_n (pc := 53) C d_J_tell_53 rfl ?_
      refine pt_J_117 (pc := 54) C d_J_tell_54 hth hLf haf ?_
      have hI := hI.dead (g := 3) (i := f) (k := 3) (S 8 0 kd0) (by omega) hn
      have hv := fvl3 (z := S 8 0 kd0) hv
      generalize ph_up τ 3 f 3 (S 8 0 kd0) = τ at hI hv ⊢
      refine ph_aload (pc := 57) C d_J_tell_57 rfl ?_
      refine ph_aload_n (pc := 59) C d_J_tell_59 rfl ?_
      refine gt_J_40 (pc := 60) C d_J_tell_60 (hI.live (g := 0) (i := 0) rfl) hI.ob hI.r7 ?_
      refine ph_iload_n (pc := 63) C d_J_tell_63 rfl ?_
      refine ph_zald (pc := 64) C d_J_tell_64 (hI.live (g := 7) (i := 0) rfl) rfl rfl rfl kd0 rfl (by omega) (by decide) ?_
      rw [hI.dat (g := 7) (i := 0) (k := kd0) rfl rfl]
      refine pt_J_169 (pc := 65) C d_J_tell_65 hst hLf haf ?_
      have hI := hI.dead (g := 3) (i := f) (k := 4) (S1 7 0 kd0) (by omega) hn
      have hv := fvl4 (z := S1 7 0 kd0) hv
      generalize ph_up τ 3 f 4 (S1 7 0 kd0) = τ at hI hv ⊢
      refine ph_aload (pc := 68) C d_J_tell_68 rfl ?_
      refine ph_aload_n (pc := 70) C d_J_tell_70 rfl ?_
      refine ph_iload_n (pc := 71) C d_J_tell_71 rfl ?_
      refine ph_callV (pc := 72) (rest := [.ref (a)]) C d_J_tell_72 (c_J_doubtAt l D dT A KX L ad τ S1 o hI hV s0 hs) (cwV 1 C.hts (gdV tw_206 tw_208 se_7 tw_1 tw_209) rfl rfl rfl ⟨rfl, by decide, by decide, by decide⟩ ⟨by decide, by decide⟩) (hI.live (g := 0) (i := 0) rfl) hI.ob rfl rfl rfl rfl rfl (Nat.le_of_ble_eq_true rfl) ⟨by decide, by decide⟩ ?_
      rintro r1 L1 ad1 τ1 ⟨g1, g2, g3, g4⟩; obtain rfl := g1.symm; obtain rfl := g2.symm; obtain rfl := g3.symm; subst g4
      refine pt_J_251 (pc := 75) C d_J_tell_75 hLf haf ?_
      have hI := hI.dead (g := 3) (i := f) (k := 5) (((dbm S1 s0 : Nat) : Int)) (by omega) hn
      have hv := fvl5 (z := ((dbm S1 s0 : Nat) : Int)) hv
      generalize ph_up τ 3 f 5 (((dbm S1 s0 : Nat) : Int)) = τ at hI hv ⊢
      refine ph_aload_n (pc := 78) C d_J_tell_78 rfl ?_
      refine ph_dup (pc := 79) C d_J_tell_79 rfl ?_
      refine gt_J_34 (pc := 80) C d_J_tell_80 (hI.live (g := 0) (i := 0) rfl) hI.ob (z := S1 0 0 5) (hI.dat rfl rfl) ?_
      refine ph_iconst (pc := 83) C d_J_tell_83 ?_
      refine ph_iadd (pc := 84) C d_J_tell_84 ?_
      refine pt_J_34 (pc := 85) C d_J_tell_85 (hI.live (g := 0) (i := 0) rfl) hI.ob ?_
      refine ph_aload_n (pc := 88) C d_J_tell_88 rfl ?_
      refine gt_J_30 (pc := 89) C d_J_tell_89 (hI.live (g := 0) (i := 0) rfl) hI.ob (by rw [ph_up_no _ _ (by decide)]; exact hI.r4) ?_
      refine ph_aload_n (pc := 92) C d_J_tell_92 rfl ?_
      refine gt_J_34 (pc := 93) C d_J_tell_93 (hI.live (g := 0) (i := 0) rfl) hI.ob (ph_up_at _ _ _ _ _) ?_
      refine ph_aload (pc := 96) C d_J_tell_96 rfl ?_
      refine ph_aast (pc := 98) (t := 2) C (hI.live (g := 6) (i := 0) rfl) rfl rfl rfl hLf haf rfl rfl f (by omega) (by omega) (by decide) d_J_tell_98 ?_
      have hI := hI.addF (by omega) hf hLf hv
      rw [haf] at hI
      generalize ph_up (ph_up τ 0 0 5 ((S1 0 0 5) + (1))) 6 0 f (a : Int) = τ at hI ⊢
      refine ph_aload_n (pc := 99) C d_J_tell_99 rfl ?_
      refine gt_J_34 (pc := 100) C d_J_tell_100 (hI.live (g := 0) (i := 0) rfl) hI.ob ((hI.dat (g := 0) (i := 0) (k := 5) rfl rfl).trans (addF_5 _ _)) ?_
      rw [(show addF S1 (fvl (kd0 : Int) ((s0 : Int)) (S1 0 0 11) (S 8 0 kd0) (S1 7 0 kd0) (((dbm S1 s0 : Nat) : Int))) = tellS S kd0 (s0 : Int) ((dbm S s0 : Nat) : Int) by rw [tellS, if_neg (by omega), ← e_S1, e011, e_S1, dbm_thr, ← e_S1])] at hI
      have hF3 := hF2 (fvl (kd0 : Int) ((s0 : Int)) (S1 0 0 11) (S 8 0 kd0) (S1 7 0 kd0) (((dbm S1 s0 : Nat) : Int)))
      rw [(show addF S1 (fvl (kd0 : Int) ((s0 : Int)) (S1 0 0 11) (S 8 0 kd0) (S1 7 0 kd0) (((dbm S1 s0 : Nat) : Int))) = tellS S kd0 (s0 : Int) ((dbm S s0 : Nat) : Int) by rw [tellS, if_neg (by omega), ← e_S1, e011, e_S1, dbm_thr, ← e_S1])] at hF3
      exact ph_iret (pc := 103) C d_J_tell_103 hr hlk rfl (by decide) (by decide) ⟨hI, hF3, by rw [tellv, if_neg (by omega), e05]⟩
    · refine ph_aload_n (pc := 22) C d_J_tell_22 rfl ?_
      refine gt_J_40 (pc := 23) C d_J_tell_23 (hI.live (g := 0) (i := 0) rfl) hI.ob hI.r7 ?_
      refine ph_iload_n (pc := 26) C d_J_tell_26 rfl ?_
      refine ph_iconst (pc := 27) C d_J_tell_27 ?_
      refine ph_zast (pc := 28) C d_J_tell_28 (by omega) (hI.live (g := 7) (i := 0) rfl) rfl rfl rfl kd0 rfl (by omega) (by decide) ?_
      have hI := hI.put (g := 7) (i := 0) (k := kd0) (1) rfl (by omega)
      generalize ph_up τ 7 0 kd0 (1) = τ at hI ⊢
      refine ph_aload_n (pc := 29) C d_J_tell_29 rfl ?_
      refine gt_J_44 (pc := 30) C d_J_tell_30 (hI.live (g := 0) (i := 0) rfl) hI.ob hI.r8 ?_
      refine ph_iload_n (pc := 33) C d_J_tell_33 rfl ?_
      refine ph_iconst (pc := 34) C d_J_tell_34 ?_
      refine ph_zast (pc := 35) C d_J_tell_35 (by omega) (hI.live (g := 8) (i := 0) rfl) rfl rfl rfl kd0 rfl (by omega) (by decide) ?_
      have hI := hI.put (g := 8) (i := 0) (k := kd0) (0) rfl (by omega)
      generalize ph_up τ 8 0 kd0 (0) = τ at hI ⊢
      have e_S0 : (ph_up (ph_up S 7 0 kd0 (1)) 8 0 kd0 (0)) = thrS S kd0 := by rw [thrS, if_neg (by assumption)]
      rw [e_S0] at hI
      obtain ⟨S1, e_S1⟩ : ∃ z, z = thrS S kd0 := ⟨_, rfl⟩
      rw [← e_S1] at hI
      have hV1 : IV S1 := by rw [e_S1]; exact hV.thrS
      have hF1 : JF S1 L := fun g i q1 q2 => by rw [e_S1]; exact (thrS_L g i).mpr (hF g i q1 q2)
      have e0 : ∀ q, S1 0 0 q = S 0 0 q := fun q => by rw [e_S1]; exact thrS_g (by decide)
      have hs : LC S1 1 s0 := by rw [e_S1]; exact (thrS_L 1 s0).mpr hs
      have e05 := e0 5
      have e011 := e0 11
      obtain ⟨f, hf⟩ : ∃ f : Nat, (f : Int) = S1 0 0 5 + 1 := ⟨(S1 0 0 5 + 1).toNat, by omega⟩
      have hn : ¬ LC S1 3 f := by simp only [LC]; omega
      have hst := (hV1.r (k := kd0) (by omega)).1
      refine ph_new (pc := 36) (g := 3) C d_J_tell_36 f (fun q => hn (hF1 3 f (by omega) q)) rfl rfl in_F t_F_ok tw_18 tw_172 tw_5 (fun j hj => by rcases (show j = 0 ∨ j = 1 ∨ j = 2 ∨ j = 3 ∨ j = 4 ∨ j = 5 ∨ j = 6 by omega) with rfl | rfl | rfl | rfl | rfl | rfl | rfl <;> rfl) (by decide) (by decide) ?_
      intro a hfresh
      have hI := hI.new (g := 3) (i := f) a (ph_df [0, 0, 1, 0, 0, 1, 0]) (by omega) hn
      have hLf : ph_Ln L 3 f 3 f := Or.inr ⟨rfl, rfl⟩
      have haf : ph_an ad 3 f a 3 f = a := an_at ad 3 f a
      have hF2 := fun v => hF1.addF (by omega) v hf
      generalize ph_Ln L 3 f = L at hI hLf hF2 ⊢
      generalize ph_an ad 3 f a = ad at hI haf ⊢
      generalize ph_tn τ 3 f (ph_df [0, 0, 1, 0, 0, 1, 0]) = τ at hI ⊢
      replace hV := hV1
      have hc := hV.c
      refine ph_dup (pc := 39) C d_J_tell_39 rfl ?_
      refine ph_iload_n (pc := 40) C d_J_tell_40 rfl ?_
      refine ph_iload_n (pc := 41) C d_J_tell_41 rfl ?_
      refine ph_aload_n (pc := 42) C d_J_tell_42 rfl ?_
      refine gt_J_54 (pc := 43) C d_J_tell_43 (hI.live (g := 0) (i := 0) rfl) hI.ob (z := S1 0 0 11) (hI.dat rfl rfl) ?_
      refine ph_callI (pc := 46) (rest := [.ref (a)]) C d_J_tell_46 (c_F_init l D dT A KX L ad τ f a hLf haf ((kd0 : Int)) ((s0 : Int)) (S1 0 0 11)) (cwI 3 C.hts (gdI tw_175) rfl rfl rfl (C.hts _ tw_5) (C.hts _ tw_173) (C.hts _ tw_174) rfl (by decide) ⟨by decide, by decide⟩) rfl rfl (Nat.le_of_ble_eq_true rfl) ⟨by decide, by decide⟩ ?_
      rintro r1 L1 ad1 τ2 ⟨g1, g2, g3, g4⟩; obtain rfl := g1.symm; obtain rfl := g2.symm; subst g4
      have hI : JR S1 o L ad τ2 := by rw [g3]; exact ((((((hI.dead _ (by omega) hn).dead _ (by omega) hn).dead _ (by omega) hn).dead _ (by omega) hn).dead _ (by omega) hn).dead _ (by omega) hn).dead _ (by omega) hn
      have hv : ∀ q, q < 7 → τ2 3 f q = fvl (kd0 : Int) ((s0 : Int)) (S1 0 0 11) 0 0 0 q := fun q hq => by rw [g3]; rcases (show q = 0 ∨ q = 1 ∨ q = 2 ∨ q = 3 ∨ q = 4 ∨ q = 5 ∨ q = 6 by omega) with rfl | rfl | rfl | rfl | rfl | rfl | rfl <;> simp [ph_up, fvl]
      clear g3
      obtain ⟨τ, rfl⟩ : ∃ z, z = τ2 := ⟨_, rfl⟩
      refine ph_astore (pc := 49) C d_J_tell_49 (by decide) rfl ?_
      refine ph_aload (pc := 51) C d_J_tell_51 rfl ?_
      refine ph_iload_n (pc := 53) C d_J_tell_53 rfl ?_
      refine pt_J_117 (pc := 54) C d_J_tell_54 hth hLf haf ?_
      have hI := hI.dead (g := 3) (i := f) (k := 3) (S 8 0 kd0) (by omega) hn
      have hv := fvl3 (z := S 8 0 kd0) hv
      generalize ph_up τ 3 f 3 (S 8 0 kd0) = τ at hI hv ⊢
      refine ph_aload (pc := 57) C d_J_tell_57 rfl ?_
      refine ph_aload_n (pc := 59) C d_J_tell_59 rfl ?_
      refine gt_J_40 (pc := 60) C d_J_tell_60 (hI.live (g := 0) (i := 0) rfl) hI.ob hI.r7 ?_
      refine ph_iload_n (pc := 63) C d_J_tell_63 rfl ?_
      refine ph_zald (pc := 64) C d_J_tell_64 (hI.live (g := 7) (i := 0) rfl) rfl rfl rfl kd0 rfl (by omega) (by decide) ?_
      rw [hI.dat (g := 7) (i := 0) (k := kd0) rfl rfl]
      refine pt_J_169 (pc := 65) C d_J_tell_65 hst hLf haf ?_
      have hI := hI.dead (g := 3) (i := f) (k := 4) (S1 7 0 kd0) (by omega) hn
      have hv := fvl4 (z := S1 7 0 kd0) hv
      generalize ph_up τ 3 f 4 (S1 7 0 kd0) = τ at hI hv ⊢
      refine ph_aload (pc := 68) C d_J_tell_68 rfl ?_
      refine ph_aload_n (pc := 70) C d_J_tell_70 rfl ?_
      refine ph_iload_n (pc := 71) C d_J_tell_71 rfl ?_
      refine ph_callV (pc := 72) (rest := [.ref (a)]) C d_J_tell_72 (c_J_doubtAt l D dT A KX L ad τ S1 o hI hV s0 hs) (cwV 1 C.hts (gdV tw_206 tw_208 se_7 tw_1 tw_209) rfl rfl rfl ⟨rfl, by decide, by decide, by decide⟩ ⟨by decide, by decide⟩) (hI.live (g := 0) (i := 0) rfl) hI.ob rfl rfl rfl rfl rfl (Nat.le_of_ble_eq_true rfl) ⟨by decide, by decide⟩ ?_
      rintro r1 L1 ad1 τ1 ⟨g1, g2, g3, g4⟩; obtain rfl := g1.symm; obtain rfl := g2.symm; obtain rfl := g3.symm; subst g4
      refine pt_J_251 (pc := 75) C d_J_tell_75 hLf haf ?_
      have hI := hI.dead (g := 3) (i := f) (k := 5) (((dbm S1 s0 : Nat) : Int)) (by omega) hn
      have hv := fvl5 (z := ((dbm S1 s0 : Nat) : Int)) hv
      generalize ph_up τ 3 f 5 (((dbm S1 s0 : Nat) : Int)) = τ at hI hv ⊢
      refine ph_aload_n (pc := 78) C d_J_tell_78 rfl ?_
      refine ph_dup (pc := 79) C d_J_tell_79 rfl ?_
      refine gt_J_34 (pc := 80) C d_J_tell_80 (hI.live (g := 0) (i := 0) rfl) hI.ob (z := S1 0 0 5) (hI.dat rfl rfl) ?_
      refine ph_iconst (pc := 83) C d_J_tell_83 ?_
      refine ph_iadd (pc := 84) C d_J_tell_84 ?_
      refine pt_J_34 (pc := 85) C d_J_tell_85 (hI.live (g := 0) (i := 0) rfl) hI.ob ?_
      refine ph_aload_n (pc := 88) C d_J_tell_88 rfl ?_
      refine gt_J_30 (pc := 89) C d_J_tell_89 (hI.live (g := 0) (i := 0) rfl) hI.ob (by rw [ph_up_no _ _ (by decide)]; exact hI.r4) ?_
      refine ph_aload_n (pc := 92) C d_J_tell_92 rfl ?_
      refine gt_J_34 (pc := 93) C d_J_tell_93 (hI.live (g := 0) (i := 0) rfl) hI.ob (ph_up_at _ _ _ _ _) ?_
      refine ph_aload (pc := 96) C d_J_tell_96 rfl ?_
      refine ph_aast (pc := 98) (t := 2) C (hI.live (g := 6) (i := 0) rfl) rfl rfl rfl hLf haf rfl rfl f (by omega) (by omega) (by decide) d_J_tell_98 ?_
      have hI := hI.addF (by omega) hf hLf hv
      rw [haf] at hI
      generalize ph_up (ph_up τ 0 0 5 ((S1 0 0 5) + (1))) 6 0 f (a : Int) = τ at hI ⊢
      refine ph_aload_n (pc := 99) C d_J_tell_99 rfl ?_
      refine gt_J_34 (pc := 100) C d_J_tell_100 (hI.live (g := 0) (i := 0) rfl) hI.ob ((hI.dat (g := 0) (i := 0) (k := 5) rfl rfl).trans (addF_5 _ _)) ?_
      rw [(show addF S1 (fvl (kd0 : Int) ((s0 : Int)) (S1 0 0 11) (S 8 0 kd0) (S1 7 0 kd0) (((dbm S1 s0 : Nat) : Int))) = tellS S kd0 (s0 : Int) ((dbm S s0 : Nat) : Int) by rw [tellS, if_neg (by omega), ← e_S1, e011, e_S1, dbm_thr, ← e_S1])] at hI
      have hF3 := hF2 (fvl (kd0 : Int) ((s0 : Int)) (S1 0 0 11) (S 8 0 kd0) (S1 7 0 kd0) (((dbm S1 s0 : Nat) : Int)))
      rw [(show addF S1 (fvl (kd0 : Int) ((s0 : Int)) (S1 0 0 11) (S 8 0 kd0) (S1 7 0 kd0) (((dbm S1 s0 : Nat) : Int))) = tellS S kd0 (s0 : Int) ((dbm S s0 : Nat) : Int) by rw [tellS, if_neg (by omega), ← e_S1, e011, e_S1, dbm_thr, ← e_S1])] at hF3
      exact ph_iret (pc := 103) C d_J_tell_103 hr hlk rfl (by decide) (by decide) ⟨hI, hF3, by rw [tellv, if_neg (by omega), e05]⟩
  · refine ph_iconst (pc := 9) C d_J_tell_9 ?_
    exact ph_iret (pc := 10) C d_J_tell_10 hr hlk rfl (by decide) (by decide) ⟨by rw [tellS, if_pos (by omega)]; exact hI, by rw [tellS, if_pos (by omega)]; exact hF, by rw [tellv, if_pos (by omega)]⟩
set_option maxHeartbeats 4000000 in
set_option maxRecDepth 100000 in
theorem c_J_tellN (l : Launch) (D : va_G) (dT : Nat → ClassId) (A : Nat → Prop) (KX : State → Prop) (L : Nat → Nat → Prop) (ad : Nat → Nat → Nat) (τ : ph_T) (S : ph_T) (o : Nat) (hI : JR S o L ad τ) (hV : IV S) (hF : JF S L) (kd0 : Nat) (hk : 1 ≤ kd0 ∧ kd0 ≤ 6)  : ph_M l y_J_tell (.code y_J_tell b_J_tell 5 (some .int) :: TB) ({ frames := 3, cells := 1, slots := 7, locals := 68 } : Room) D CLs (TY dT) dT kd A KX [.ref (o), .int (ph_i ((kd0 : Int))), .int (ph_i (-1))] L ad τ (fun r L' ad' τ' => JR (tellS S kd0 (-1) 0) o L' ad' τ' ∧ JF (tellS S kd0 (-1) 0) L' ∧ r = some (.int (ph_i (tellv S)))) 1 7 := by
  refine ph_M.of (cc := b_J_tell) (maxL := 5) (ret := (some .int)) (by decide) rfl (Nat.le_of_ble_eq_true rfl) ?_
  intro p e s m below meth c C0 hr hlk hnm
  have C := C0.sub
  refine ph_loc (l2 := [(0, .ref (o)), (1, .int (ph_i ((kd0 : Int)))), (2, .int (ph_i (-1)))]) ⟨rfl, rfl, rfl, trivial⟩ ?_
  have hc := hV.c
  have hth := (hV.r (k := kd0) (by omega)).2
  refine ph_aload_n (pc := 0) C d_J_tell_0 rfl ?_
  refine gt_J_34 (pc := 1) C d_J_tell_1 (hI.live (g := 0) (i := 0) rfl) hI.ob (z := S 0 0 5) (hI.dat rfl rfl) ?_
  refine ph_bipush (pc := 4) C d_J_tell_4 (by decide) ?_
  refine ph_icmp_lt (pc := 6) (tgt := 11) C d_J_tell_6 (by decide) (by omega) (by omega) (fun c6 => ?_) (fun c6 => ?_)
  · refine ph_aload_n (pc := 11) C d_J_tell_11 rfl ?_
    refine gt_J_44 (pc := 12) C d_J_tell_12 (hI.live (g := 0) (i := 0) rfl) hI.ob hI.r8 ?_
    refine ph_iload_n (pc := 15) C d_J_tell_15 rfl ?_
    refine ph_zald (pc := 16) C d_J_tell_16 (hI.live (g := 8) (i := 0) rfl) rfl rfl rfl kd0 rfl (by omega) (by decide) ?_
    rw [hI.dat (g := 8) (i := 0) (k := kd0) rfl rfl]
    refine ph_istore_n (pc := 17) C d_J_tell_17 (by decide) rfl ?_
    refine ph_iload_n (pc := 18) C d_J_tell_18 rfl ?_
    refine ph_if_eq (pc := 19) (tgt := 36) C d_J_tell_19 (by decide) (by omega) (fun c19 => ?_) (fun c19 => ?_)
    · have e_S0 : S = thrS S kd0 := by rw [thrS, if_pos (by assumption)]
      have hI : JR (thrS S kd0) o L ad τ := by rw [← e_S0]; exact hI
      obtain ⟨S1, e_S1⟩ : ∃ z, z = thrS S kd0 := ⟨_, rfl⟩
      rw [← e_S1] at hI
      have hV1 : IV S1 := by rw [e_S1]; exact hV.thrS
      have hF1 : JF S1 L := fun g i q1 q2 => by rw [e_S1]; exact (thrS_L g i).mpr (hF g i q1 q2)
      have e0 : ∀ q, S1 0 0 q = S 0 0 q := fun q => by rw [e_S1]; exact thrS_g (by decide)
      have e05 := e0 5
      have e011 := e0 11
      obtain ⟨f, hf⟩ : ∃ f : Nat, (f : Int) = S1 0 0 5 + 1 := ⟨(S1 0 0 5 + 1).toNat, by omega⟩
      have hn : ¬ LC S1 3 f := by simp only [LC]; omega
      have hst := (hV1.r (k := kd0) (by omega)).1
      refine ph_new (pc := 36) (g := 3) C d_J_tell_36 f (fun q => hn (hF1 3 f (by omega) q)) rfl rfl in_F t_F_ok tw_18 tw_172 tw_5 (fun j hj => by rcases (show j = 0 ∨ j = 1 ∨ j = 2 ∨ j = 3 ∨ j = 4 ∨ j = 5 ∨ j = 6 by omega) with rfl | rfl | rfl | rfl | rfl | rfl | rfl <;> rfl) (by decide) (by decide) ?_
      intro a hfresh
      have hI := hI.new (g := 3) (i := f) a (ph_df [0, 0, 1, 0, 0, 1, 0]) (by omega) hn
      have hLf : ph_Ln L 3 f 3 f := Or.inr ⟨rfl, rfl⟩
      have haf : ph_an ad 3 f a 3 f = a := an_at ad 3 f a
      have hF2 := fun v => hF1.addF (by omega) v hf
      generalize ph_Ln L 3 f = L at hI hLf hF2 ⊢
      generalize ph_an ad 3 f a = ad at hI haf ⊢
      generalize ph_tn τ 3 f (ph_df [0, 0, 1, 0, 0, 1, 0]) = τ at hI ⊢
      replace hV := hV1
      have hc := hV.c
      refine ph_dup (pc := 39) C d_J_tell_39 rfl ?_
      refine ph_iload_n (pc := 40) C d_J_tell_40 rfl ?_
      refine ph_iload_n (pc := 41) C d_J_tell_41 rfl ?_
      refine ph_aload_n (pc := 42) C d_J_tell_42 rfl ?_
      refine gt_J_54 (pc := 43) C d_J_tell_43 (hI.live (g := 0) (i := 0) rfl) hI.ob (z := S1 0 0 11) (hI.dat rfl rfl) ?_
      refine ph_callI (pc := 46) (rest := [.ref (a)]) C d_J_tell_46 (c_F_init l D dT A KX L ad τ f a hLf haf ((kd0 : Int)) (-1) (S1 0 0 11)) (cwI 3 C.hts (gdI tw_175) rfl rfl rfl (C.hts _ tw_5) (C.hts _ tw_173) (C.hts _ tw_174) rfl (by decide) ⟨by decide, by decide⟩) rfl rfl (Nat.le_of_ble_eq_true rfl) ⟨by decide, by decide⟩ ?_
      rintro r1 L1 ad1 τ2 ⟨g1, g2, g3, g4⟩; obtain rfl := g1.symm; obtain rfl := g2.symm; subst g4
      have hI : JR S1 o L ad τ2 := by rw [g3]; exact ((((((hI.dead _ (by omega) hn).dead _ (by omega) hn).dead _ (by omega) hn).dead _ (by omega) hn).dead _ (by omega) hn).dead _ (by omega) hn).dead _ (by omega) hn
      have hv : ∀ q, q < 7 → τ2 3 f q = fvl (kd0 : Int) (-1) (S1 0 0 11) 0 0 0 q := fun q hq => by rw [g3]; rcases (show q = 0 ∨ q = 1 ∨ q = 2 ∨ q = 3 ∨ q = 4 ∨ q = 5 ∨ q = 6 by omega) with rfl | rfl | rfl | rfl | rfl | rfl | rfl <;> simp [ph_up, fvl]
      clear g3
      obtain ⟨τ, rfl⟩ : ∃ z, z = τ2 := ⟨_, rfl⟩
      refine ph_astore (pc := 49) C d_J_tell_49 (by decide) rfl ?_
      refine ph_aload (pc := 51) C d_J_tell_51 rfl ?_
      refine ph_iload_n (pc := 53) C d_J_tell_53 rfl ?_
      refine pt_J_117 (pc := 54) C d_J_tell_54 hth hLf haf ?_
      have hI := hI.dead (g := 3) (i := f) (k := 3) (S 8 0 kd0) (by omega) hn
      have hv := fvl3 (z := S 8 0 kd0) hv
      generalize ph_up τ 3 f 3 (S 8 0 kd0) = τ at hI hv ⊢
      refine ph_aload (pc := 57) C d_J_tell_57 rfl ?_
      refine ph_aload_n (pc := 59) C d_J_tell_59 rfl ?_
      refine gt_J_40 (pc := 60) C d_J_tell_60 (hI.live (g := 0) (i := 0) rfl) hI.ob hI.r7 ?_
      refine ph_iload_n (pc := 63) C d_J_tell_63 rfl ?_
      refine ph_zald (pc := 64) C d_J_tell_64 (hI.live (g := 7) (i := 0) rfl) rfl rfl rfl kd0 rfl (by omega) (by decide) ?_
      rw [hI.dat (g := 7) (i := 0) (k := kd0) rfl rfl]
      refine pt_J_169 (pc := 65) C d_J_tell_65 hst hLf haf ?_
      have hI := hI.dead (g := 3) (i := f) (k := 4) (S1 7 0 kd0) (by omega) hn
      have hv := fvl4 (z := S1 7 0 kd0) hv
      generalize ph_up τ 3 f 4 (S1 7 0 kd0) = τ at hI hv ⊢
      refine ph_aload (pc := 68) C d_J_tell_68 rfl ?_
      refine ph_aload_n (pc := 70) C d_J_tell_70 rfl ?_
      refine ph_iload_n (pc := 71) C d_J_tell_71 rfl ?_
      refine ph_callV (pc := 72) (rest := [.ref (a)]) C d_J_tell_72 (c_J_doubtAtN l D dT A KX L ad τ S1 o hI hV (-1) (by omega) (by omega)) (cwV 1 C.hts (gdV tw_206 tw_208 se_7 tw_1 tw_209) rfl rfl rfl ⟨rfl, by decide, by decide, by decide⟩ ⟨by decide, by decide⟩) (hI.live (g := 0) (i := 0) rfl) hI.ob rfl rfl rfl rfl rfl (Nat.le_of_ble_eq_true rfl) ⟨by decide, by decide⟩ ?_
      rintro r1 L1 ad1 τ1 ⟨g1, g2, g3, g4⟩; obtain rfl := g1.symm; obtain rfl := g2.symm; obtain rfl := g3.symm; subst g4
      refine pt_J_251 (pc := 75) C d_J_tell_75 hLf haf ?_
      have hI := hI.dead (g := 3) (i := f) (k := 5) (0) (by omega) hn
      have hv := fvl5 (z := 0) hv
      generalize ph_up τ 3 f 5 (0) = τ at hI hv ⊢
      refine ph_aload_n (pc := 78) C d_J_tell_78 rfl ?_
      refine ph_dup (pc := 79) C d_J_tell_79 rfl ?_
      refine gt_J_34 (pc := 80) C d_J_tell_80 (hI.live (g := 0) (i := 0) rfl) hI.ob (z := S1 0 0 5) (hI.dat rfl rfl) ?_
      refine ph_iconst (pc := 83) C d_J_tell_83 ?_
      refine ph_iadd (pc := 84) C d_J_tell_84 ?_
      refine pt_J_34 (pc := 85) C d_J_tell_85 (hI.live (g := 0) (i := 0) rfl) hI.ob ?_
      refine ph_aload_n (pc := 88) C d_J_tell_88 rfl ?_
      refine gt_J_30 (pc := 89) C d_J_tell_89 (hI.live (g := 0) (i := 0) rfl) hI.ob (by rw [ph_up_no _ _ (by decide)]; exact hI.r4) ?_
      refine ph_aload_n (pc := 92) C d_J_tell_92 rfl ?_
      refine gt_J_34 (pc := 93) C d_J_tell_93 (hI.live (g := 0) (i := 0) rfl) hI.ob (ph_up_at _ _ _ _ _) ?_
      refine ph_aload (pc := 96) C d_J_tell_96 rfl ?_
      refine ph_aast (pc := 98) (t := 2) C (hI.live (g := 6) (i := 0) rfl) rfl rfl rfl hLf haf rfl rfl f (by omega) (by omega) (by decide) d_J_tell_98 ?_
      have hI := hI.addF (by omega) hf hLf hv
      rw [haf] at hI
      generalize ph_up (ph_up τ 0 0 5 ((S1 0 0 5) + (1))) 6 0 f (a : Int) = τ at hI ⊢
      refine ph_aload_n (pc := 99) C d_J_tell_99 rfl ?_
      refine gt_J_34 (pc := 100) C d_J_tell_100 (hI.live (g := 0) (i := 0) rfl) hI.ob ((hI.dat (g := 0) (i := 0) (k := 5) rfl rfl).trans (addF_5 _ _)) ?_
      rw [(show addF S1 (fvl (kd0 : Int) (-1) (S1 0 0 11) (S 8 0 kd0) (S1 7 0 kd0) (0)) = tellS S kd0 (-1) 0 by rw [tellS, if_neg (by omega), ← e_S1, e011])] at hI
      have hF3 := hF2 (fvl (kd0 : Int) (-1) (S1 0 0 11) (S 8 0 kd0) (S1 7 0 kd0) (0))
      rw [(show addF S1 (fvl (kd0 : Int) (-1) (S1 0 0 11) (S 8 0 kd0) (S1 7 0 kd0) (0)) = tellS S kd0 (-1) 0 by rw [tellS, if_neg (by omega), ← e_S1, e011])] at hF3
      exact ph_iret (pc := 103) C d_J_tell_103 hr hlk rfl (by decide) (by decide) ⟨hI, hF3, by rw [tellv, if_neg (by omega), e05]⟩
    · refine ph_aload_n (pc := 22) C d_J_tell_22 rfl ?_
      refine gt_J_40 (pc := 23) C d_J_tell_23 (hI.live (g := 0) (i := 0) rfl) hI.ob hI.r7 ?_
      refine ph_iload_n (pc := 26) C d_J_tell_26 rfl ?_
      refine ph_iconst (pc := 27) C d_J_tell_27 ?_
      refine ph_zast (pc := 28) C d_J_tell_28 (by omega) (hI.live (g := 7) (i := 0) rfl) rfl rfl rfl kd0 rfl (by omega) (by decide) ?_
      have hI := hI.put (g := 7) (i := 0) (k := kd0) (1) rfl (by omega)
      generalize ph_up τ 7 0 kd0 (1) = τ at hI ⊢
      refine ph_aload_n (pc := 29) C d_J_tell_29 rfl ?_
      refine gt_J_44 (pc := 30) C d_J_tell_30 (hI.live (g := 0) (i := 0) rfl) hI.ob hI.r8 ?_
      refine ph_iload_n (pc := 33) C d_J_tell_33 rfl ?_
      refine ph_iconst (pc := 34) C d_J_tell_34 ?_
      refine ph_zast (pc := 35) C d_J_tell_35 (by omega) (hI.live (g := 8) (i := 0) rfl) rfl rfl rfl kd0 rfl (by omega) (by decide) ?_
      have hI := hI.put (g := 8) (i := 0) (k := kd0) (0) rfl (by omega)
      generalize ph_up τ 8 0 kd0 (0) = τ at hI ⊢
      have e_S0 : (ph_up (ph_up S 7 0 kd0 (1)) 8 0 kd0 (0)) = thrS S kd0 := by rw [thrS, if_neg (by assumption)]
      rw [e_S0] at hI
      obtain ⟨S1, e_S1⟩ : ∃ z, z = thrS S kd0 := ⟨_, rfl⟩
      rw [← e_S1] at hI
      have hV1 : IV S1 := by rw [e_S1]; exact hV.thrS
      have hF1 : JF S1 L := fun g i q1 q2 => by rw [e_S1]; exact (thrS_L g i).mpr (hF g i q1 q2)
      have e0 : ∀ q, S1 0 0 q = S 0 0 q := fun q => by rw [e_S1]; exact thrS_g (by decide)
      have e05 := e0 5
      have e011 := e0 11
      obtain ⟨f, hf⟩ : ∃ f : Nat, (f : Int) = S1 0 0 5 + 1 := ⟨(S1 0 0 5 + 1).toNat, by omega⟩
      have hn : ¬ LC S1 3 f := by simp only [LC]; omega
      have hst := (hV1.r (k := kd0) (by omega)).1
      refine ph_new (pc := 36) (g := 3) C d_J_tell_36 f (fun q => hn (hF1 3 f (by omega) q)) rfl rfl in_F t_F_ok tw_18 tw_172 tw_5 (fun j hj => by rcases (show j = 0 ∨ j = 1 ∨ j = 2 ∨ j = 3 ∨ j = 4 ∨ j = 5 ∨ j = 6 by omega) with rfl | rfl | rfl | rfl | rfl | rfl | rfl <;> rfl) (by decide) (by decide) ?_
      intro a hfresh
      have hI := hI.new (g := 3) (i := f) a (ph_df [0, 0, 1, 0, 0, 1, 0]) (by omega) hn
      have hLf : ph_Ln L 3 f 3 f := Or.inr ⟨rfl, rfl⟩
      have haf : ph_an ad 3 f a 3 f = a := an_at ad 3 f a
      have hF2 := fun v => hF1.addF (by omega) v hf
      generalize ph_Ln L 3 f = L at hI hLf hF2 ⊢
      generalize ph_an ad 3 f a = ad at hI haf ⊢
      generalize ph_tn τ 3 f (ph_df [0, 0, 1, 0, 0, 1, 0]) = τ at hI ⊢
      replace hV := hV1
      have hc := hV.c
      refine ph_dup (pc := 39) C d_J_tell_39 rfl ?_
      refine ph_iload_n (pc := 40) C d_J_tell_40 rfl ?_
      refine ph_iload_n (pc := 41) C d_J_tell_41 rfl ?_
      refine ph_aload_n (pc := 42) C d_J_tell_42 rfl ?_
      refine gt_J_54 (pc := 43) C d_J_tell_43 (hI.live (g := 0) (i := 0) rfl) hI.ob (z := S1 0 0 11) (hI.dat rfl rfl) ?_
      refine ph_callI (pc := 46) (rest := [.ref (a)]) C d_J_tell_46 (c_F_init l D dT A KX L ad τ f a hLf haf ((kd0 : Int)) (-1) (S1 0 0 11)) (cwI 3 C.hts (gdI tw_175) rfl rfl rfl (C.hts _ tw_5) (C.hts _ tw_173) (C.hts _ tw_174) rfl (by decide) ⟨by decide, by decide⟩) rfl rfl (Nat.le_of_ble_eq_true rfl) ⟨by decide, by decide⟩ ?_
      rintro r1 L1 ad1 τ2 ⟨g1, g2, g3, g4⟩; obtain rfl := g1.symm; obtain rfl := g2.symm; subst g4
      have hI : JR S1 o L ad τ2 := by rw [g3]; exact ((((((hI.dead _ (by omega) hn).dead _ (by omega) hn).dead _ (by omega) hn).dead _ (by omega) hn).dead _ (by omega) hn).dead _ (by omega) hn).dead _ (by omega) hn
      have hv : ∀ q, q < 7 → τ2 3 f q = fvl (kd0 : Int) (-1) (S1 0 0 11) 0 0 0 q := fun q hq => by rw [g3]; rcases (show q = 0 ∨ q = 1 ∨ q = 2 ∨ q = 3 ∨ q = 4 ∨ q = 5 ∨ q = 6 by omega) with rfl | rfl | rfl | rfl | rfl | rfl | rfl <;> simp [ph_up, fvl]
      clear g3
      obtain ⟨τ, rfl⟩ : ∃ z, z = τ2 := ⟨_, rfl⟩
      refine ph_astore (pc := 49) C d_J_tell_49 (by decide) rfl ?_
      refine ph_aload (pc := 51) C d_J_tell_51 rfl ?_
      refine ph_iload_n (pc := 53) C d_J_tell_53 rfl ?_
      refine pt_J_117 (pc := 54) C d_J_tell_54 hth hLf haf ?_
      have hI := hI.dead (g := 3) (i := f) (k := 3) (S 8 0 kd0) (by omega) hn
      have hv := fvl3 (z := S 8 0 kd0) hv
      generalize ph_up τ 3 f 3 (S 8 0 kd0) = τ at hI hv ⊢
      refine ph_aload (pc := 57) C d_J_tell_57 rfl ?_
      refine ph_aload_n (pc := 59) C d_J_tell_59 rfl ?_
      refine gt_J_40 (pc := 60) C d_J_tell_60 (hI.live (g := 0) (i := 0) rfl) hI.ob hI.r7 ?_
      refine ph_iload_n (pc := 63) C d_J_tell_63 rfl ?_
      refine ph_zald (pc := 64) C d_J_tell_64 (hI.live (g := 7) (i := 0) rfl) rfl rfl rfl kd0 rfl (by omega) (by decide) ?_
      rw [hI.dat (g := 7) (i := 0) (k := kd0) rfl rfl]
      refine pt_J_169 (pc := 65) C d_J_tell_65 hst hLf haf ?_
      have hI := hI.dead (g := 3) (i := f) (k := 4) (S1 7 0 kd0) (by omega) hn
      have hv := fvl4 (z := S1 7 0 kd0) hv
      generalize ph_up τ 3 f 4 (S1 7 0 kd0) = τ at hI hv ⊢
      refine ph_aload (pc := 68) C d_J_tell_68 rfl ?_
      refine ph_aload_n (pc := 70) C d_J_tell_70 rfl ?_
      refine ph_iload_n (pc := 71) C d_J_tell_71 rfl ?_
      refine ph_callV (pc := 72) (rest := [.ref (a)]) C d_J_tell_72 (c_J_doubtAtN l D dT A KX L ad τ S1 o hI hV (-1) (by omega) (by omega)) (cwV 1 C.hts (gdV tw_206 tw_208 se_7 tw_1 tw_209) rfl rfl rfl ⟨rfl, by decide, by decide, by decide⟩ ⟨by decide, by decide⟩) (hI.live (g := 0) (i := 0) rfl) hI.ob rfl rfl rfl rfl rfl (Nat.le_of_ble_eq_true rfl) ⟨by decide, by decide⟩ ?_
      rintro r1 L1 ad1 τ1 ⟨g1, g2, g3, g4⟩; obtain rfl := g1.symm; obtain rfl := g2.symm; obtain rfl := g3.symm; subst g4
      refine pt_J_251 (pc := 75) C d_J_tell_75 hLf haf ?_
      have hI := hI.dead (g := 3) (i := f) (k := 5) (0) (by omega) hn
      have hv := fvl5 (z := 0) hv
      generalize ph_up τ 3 f 5 (0) = τ at hI hv ⊢
      refine ph_aload_n (pc := 78) C d_J_tell_78 rfl ?_
      refine ph_dup (pc := 79) C d_J_tell_79 rfl ?_
      refine gt_J_34 (pc := 80) C d_J_tell_80 (hI.live (g := 0) (i := 0) rfl) hI.ob (z := S1 0 0 5) (hI.dat rfl rfl) ?_
      refine ph_iconst (pc := 83) C d_J_tell_83 ?_
      refine ph_iadd (pc := 84) C d_J_tell_84 ?_
      refine pt_J_34 (pc := 85) C d_J_tell_85 (hI.live (g := 0) (i := 0) rfl) hI.ob ?_
      refine ph_aload_n (pc := 88) C d_J_tell_88 rfl ?_
      refine gt_J_30 (pc := 89) C d_J_tell_89 (hI.live (g := 0) (i := 0) rfl) hI.ob (by rw [ph_up_no _ _ (by decide)]; exact hI.r4) ?_
      refine ph_aload_n (pc := 92) C d_J_tell_92 rfl ?_
      refine gt_J_34 (pc := 93) C d_J_tell_93 (hI.live (g := 0) (i := 0) rfl) hI.ob (ph_up_at _ _ _ _ _) ?_
      refine ph_aload (pc := 96) C d_J_tell_96 rfl ?_
      refine ph_aast (pc := 98) (t := 2) C (hI.live (g := 6) (i := 0) rfl) rfl rfl rfl hLf haf rfl rfl f (by omega) (by omega) (by decide) d_J_tell_98 ?_
      have hI := hI.addF (by omega) hf hLf hv
      rw [haf] at hI
      generalize ph_up (ph_up τ 0 0 5 ((S1 0 0 5) + (1))) 6 0 f (a : Int) = τ at hI ⊢
      refine ph_aload_n (pc := 99) C d_J_tell_99 rfl ?_
      refine gt_J_34 (pc := 100) C d_J_tell_100 (hI.live (g := 0) (i := 0) rfl) hI.ob ((hI.dat (g := 0) (i := 0) (k := 5) rfl rfl).trans (addF_5 _ _)) ?_
      rw [(show addF S1 (fvl (kd0 : Int) (-1) (S1 0 0 11) (S 8 0 kd0) (S1 7 0 kd0) (0)) = tellS S kd0 (-1) 0 by rw [tellS, if_neg (by omega), ← e_S1, e011])] at hI
      have hF3 := hF2 (fvl (kd0 : Int) (-1) (S1 0 0 11) (S 8 0 kd0) (S1 7 0 kd0) (0))
      rw [(show addF S1 (fvl (kd0 : Int) (-1) (S1 0 0 11) (S 8 0 kd0) (S1 7 0 kd0) (0)) = tellS S kd0 (-1) 0 by rw [tellS, if_neg (by omega), ← e_S1, e011])] at hF3
      exact ph_iret (pc := 103) C d_J_tell_103 hr hlk rfl (by decide) (by decide) ⟨hI, hF3, by rw [tellv, if_neg (by omega), e05]⟩
  · refine ph_iconst (pc := 9) C d_J_tell_9 ?_
    exact ph_iret (pc := 10) C d_J_tell_10 hr hlk rfl (by decide) (by decide) ⟨by rw [tellS, if_pos (by omega)]; exact hI, by rw [tellS, if_pos (by omega)]; exact hF, by rw [tellv, if_pos (by omega)]⟩
end
section
/-! ===== plant, jams, lost ones ===== -/
def plantOk (S : ph_T) (x t : Int) : Prop := (1 ≤ x ∧ x ≤ 6) ∧ (S 0 0 11 ≤ t ∧ t ≤ 1000000000) ∧ runs S ∧ S 0 0 5 < 40
noncomputable def plantS (S : ph_T) (x t : Int) : ph_T := @ite ph_T (plantOk S x t) (Classical.propDecidable _) (tellS (ph_up S 0 0 11 t) x.toNat (-1) 0) S
theorem plantS_t {S : ph_T} {x t : Int} (h : plantOk S x t) : plantS S x t = tellS (ph_up S 0 0 11 t) x.toNat (-1) 0 := if_pos h
theorem plantS_f {S : ph_T} {x t : Int} (h : ¬ plantOk S x t) : plantS S x t = S := if_neg h
noncomputable def plantv (S : ph_T) (x t : Int) : Int := if ¬ ((1 ≤ x ∧ x ≤ 6) ∧ S 0 0 11 ≤ t ∧ t ≤ 1000000000) then -12 else @ite Int (runs S) (Classical.propDecidable _) (if 40 ≤ S 0 0 5 then 0 else S 0 0 5 + 1) (-13)
theorem IV.plantS {S : ph_T} (h : IV S) {x t : Int} : IV (plantS S x t) := by
  rcases Classical.em (plantOk S x t) with q | q
  · rw [plantS_t q]
    obtain ⟨q1, q2, q3, q4⟩ := q
    exact IV.tellS (h.up0 (k := 11) (by omega) (by omega) (by omega) (by omega)) (by omega) (by omega) (by omega)
  · rw [plantS_f q]
    exact h
theorem lenAt_r {S : ph_T} (h : IV S) (s : Nat) : 0 ≤ lenAt S s ∧ lenAt S s ≤ 1000 := by
  rcases Classical.em (1 ≤ S 1 s 3 ∧ S 1 s 3 ≤ S 0 0 3) with q | q
  · have := h.i (show LC S 2 (S 1 s 3).toNat by simp only [LC]; omega)
    rw [lenAt, if_pos q]
    omega
  · rw [lenAt, if_neg q]
    omega
theorem tellS_g {S : ph_T} {kd : Nat} {s db : Int} {g i k : Nat} (hg : g ≠ 0 ∧ g ≠ 3 ∧ g ≠ 7 ∧ g ≠ 8) : tellS S kd s db g i k = S g i k := by
  unfold tellS
  split
  · rfl
  · rw [addF_g _ _ ⟨hg.1, hg.2.1⟩, thrS_g ⟨hg.2.2.1, hg.2.2.2⟩]
theorem tellS_0 {S : ph_T} {kd : Nat} {s db : Int} {k : Nat} (hk : k ≠ 5) : tellS S kd s db 0 0 k = S 0 0 k := by
  unfold tellS
  split
  · rfl
  · rw [addF_0 _ _ hk, thrS_g (by decide)]
theorem tellS_5 {S : ph_T} {kd : Nat} {s db : Int} : tellS S kd s db 0 0 5 = if 40 ≤ S 0 0 5 then S 0 0 5 else S 0 0 5 + 1 := by
  unfold tellS
  split
  · rfl
  · rw [addF_5, thrS_g (by decide)]
theorem tellS_L {S : ph_T} {kd : Nat} {s db : Int} {g i : Nat} (hg : g ≠ 3) : LC (tellS S kd s db) g i ↔ LC S g i := by
  have e1 : tellS S kd s db 0 0 1 = S 0 0 1 := tellS_0 (by decide)
  have e3 : tellS S kd s db 0 0 3 = S 0 0 3 := tellS_0 (by decide)
  unfold LC
  split
  · exact Iff.rfl
  · rw [e1]
  · rw [e3]
  · exact absurd rfl hg
  all_goals exact Iff.rfl
theorem tellv_r {S : ph_T} (h : IV S) : 0 ≤ tellv S ∧ tellv S ≤ 40 := by
  have := h.c
  unfold tellv
  split <;> omega
def jamC (S : ph_T) (s : Nat) : Prop := (¬ S 1 s 2 = 0) ∧ S 1 s 5 = 0 ∧ 500 + lenAt S s < S 0 0 11 - S 1 s 4
noncomputable def jamS (S : ph_T) (s : Nat) : ph_T := @ite ph_T (jamC S s) (Classical.propDecidable _) (tellS (ph_up S 1 s 5 1) 5 (s : Int) ((dbm (ph_up S 1 s 5 1) s : Nat) : Int)) S
theorem jamS_t {S : ph_T} {s : Nat} (h : jamC S s) : jamS S s = tellS (ph_up S 1 s 5 1) 5 (s : Int) ((dbm (ph_up S 1 s 5 1) s : Nat) : Int) := if_pos h
theorem jamS_f {S : ph_T} {s : Nat} (h : ¬ jamC S s) : jamS S s = S := if_neg h
theorem IV.jamS {S : ph_T} (h : IV S) {s : Nat} (hs : LC S 1 s) : IV (jamS S s) := by
  rcases Classical.em (jamC S s) with q | q
  · rw [jamS_t q]
    have h1 := h.upS (i := s) (k := 5) (z := 1) (by omega) (by omega) (by omega) (by omega) (by omega)
    have hc := h.c
    simp only [LC] at hs
    have := dbm_lt h1 s
    exact h1.tellS (by omega) (by omega) (by omega)
  · rw [jamS_f q]
    exact h
noncomputable def tjF : Nat → Nat → ph_T → ph_T
  | 0, _, S => S
  | n + 1, s, S => tjF n (s + 1) (jamS S s)
theorem tjF_s {n s : Nat} {S : ph_T} : tjF (n + 1) s S = tjF n (s + 1) (jamS S s) := rfl
noncomputable def jamsS (S : ph_T) : ph_T := tjF (S 0 0 1).toNat 0 S
theorem jamS_0 {S : ph_T} {s k : Nat} (hk : k ≠ 5) : jamS S s 0 0 k = S 0 0 k := by
  rcases Classical.em (jamC S s) with q | q
  · rw [jamS_t q, tellS_0 hk, up_ne _ (by decide)]
  · rw [jamS_f q]
theorem tjF_0 {k : Nat} (hk : k ≠ 5) : ∀ (n s : Nat) (S : ph_T), tjF n s S 0 0 k = S 0 0 k
  | 0, _, _ => rfl
  | n + 1, s, S => by rw [tjF_s, tjF_0 hk n (s + 1), jamS_0 hk]
theorem tjF_V : ∀ (n s : Nat) (S : ph_T), IV S → (s : Int) + n ≤ S 0 0 1 → IV (tjF n s S)
  | 0, _, _, h, _ => h
  | n + 1, s, S, h, h1 => by
    rw [tjF_s]
    exact tjF_V n (s + 1) _ (h.jamS (show (s : Int) < S 0 0 1 by omega)) (by rw [jamS_0 (by decide)]; omega)
theorem IV.jamsS {S : ph_T} (h : IV S) : IV (jamsS S) := tjF_V _ _ _ h (by have := h.c; omega)
theorem jamsS_0 {S : ph_T} {k : Nat} (hk : k ≠ 5) : jamsS S 0 0 k = S 0 0 k := tjF_0 hk _ _ _
def lostC (S : ph_T) (i s : Nat) : Prop := aw S i s ∧ 15 < S 0 0 11 - due S i s
noncomputable def lostS (S : ph_T) (i s : Nat) : ph_T := @ite ph_T (lostC S i s) (Classical.propDecidable _) (takeS (tellS S 2 (s : Int) ((dbm S s : Nat) : Int)) i (tellv S)) S
theorem lostS_t {S : ph_T} {i s : Nat} (h : lostC S i s) : lostS S i s = takeS (tellS S 2 (s : Int) ((dbm S s : Nat) : Int)) i (tellv S) := if_pos h
theorem lostS_f {S : ph_T} {i s : Nat} (h : ¬ lostC S i s) : lostS S i s = S := if_neg h
theorem lostS_0 {S : ph_T} {i s k : Nat} (hk : k ≠ 5) : lostS S i s 0 0 k = S 0 0 k := by
  rcases Classical.em (lostC S i s) with q | q
  · rw [lostS_t q, takeS_g (by decide), tellS_0 hk]
  · rw [lostS_f q]
theorem lostS_1 {S : ph_T} {i s j k : Nat} : lostS S i s 1 j k = S 1 j k := by
  rcases Classical.em (lostC S i s) with q | q
  · rw [lostS_t q, takeS_g (by decide), tellS_g (by decide)]
  · rw [lostS_f q]
theorem IV.lostS {S : ph_T} (h : IV S) {i s : Nat} (hs : LC S 1 s) : IV (lostS S i s) := by
  rcases Classical.em (lostC S i s) with q | q
  · rw [lostS_t q]
    have hc := h.c
    simp only [LC] at hs
    have := dbm_lt h s
    exact IV.takeS (h.tellS (by omega) (by omega) (by omega)) (tellv_r h)
  · rw [lostS_f q]
    exact h
noncomputable def lsF (s : Nat) : Nat → Nat → ph_T → ph_T
  | 0, _, S => S
  | n + 1, i, S => lsF s n (i + 1) (lostS S i s)
theorem lsF_s {s n i : Nat} {S : ph_T} : lsF s (n + 1) i S = lsF s n (i + 1) (lostS S i s) := rfl
noncomputable def losesS (S : ph_T) (s : Nat) : ph_T := lsF s (S 0 0 3).toNat 1 S
theorem lsF_0 {s k : Nat} (hk : k ≠ 5) : ∀ (n i : Nat) (S : ph_T), lsF s n i S 0 0 k = S 0 0 k
  | 0, _, _ => rfl
  | n + 1, i, S => by rw [lsF_s, lsF_0 hk n (i + 1), lostS_0 hk]
theorem lsF_1 {s j k : Nat} : ∀ (n i : Nat) (S : ph_T), lsF s n i S 1 j k = S 1 j k
  | 0, _, _ => rfl
  | n + 1, i, S => by rw [lsF_s, lsF_1 n (i + 1), lostS_1]
theorem lsF_V {s : Nat} : ∀ (n i : Nat) (S : ph_T), IV S → LC S 1 s → IV (lsF s n i S)
  | 0, _, _, h, _ => h
  | n + 1, i, S, h, h1 => by
    rw [lsF_s]
    exact lsF_V n (i + 1) _ (h.lostS h1) (show (s : Int) < _ by rw [lostS_0 (by decide)]; exact h1)
theorem IV.losesS {S : ph_T} (h : IV S) {s : Nat} (hs : LC S 1 s) : IV (losesS S s) := lsF_V _ _ _ h hs
end
section
/-! ===== plant, jams, lost ones ===== -/
set_option maxHeartbeats 4000000 in
set_option maxRecDepth 100000 in
theorem c_J_plant (l : Launch) (D : va_G) (dT : Nat → ClassId) (A : Nat → Prop) (KX : State → Prop) (L : Nat → Nat → Prop) (ad : Nat → Nat → Nat) (τ : ph_T) (S : ph_T) (o : Nat) (hI : JR S o L ad τ) (hV : IV S) (hF : JF S L) (x t : Int) (hx : ph_ri x) (ht : ph_rl t) : ph_M l y_J_plant (.code y_J_plant b_J_plant 4 (some .int) :: TB) ({ frames := 4, cells := 1, slots := 7, locals := 92 } : Room) D CLs (TY dT) dT kd A KX [.ref (o), .int (ph_i (x)), .long (ph_l (t))] L ad τ (fun r L' ad' τ' => JR (plantS S x t) o L' ad' τ' ∧ JF (plantS S x t) L' ∧ r = some (.int (ph_i (plantv S x t)))) 1 7 := by
  refine ph_M.of (cc := b_J_plant) (maxL := 4) (ret := (some .int)) (by decide) rfl (Nat.le_of_ble_eq_true rfl) ?_
  intro p e s m below meth c C0 hr hlk hnm
  have C := C0.sub
  refine ph_loc (l2 := [(0, .ref (o)), (1, .int (ph_i (x))), (2, .long (ph_l (t)))]) ⟨rfl, rfl, rfl, trivial⟩ ?_
  have hc := hV.c
  refine ph_iload_n (pc := 0) C d_J_plant_0 rfl ?_
  refine ph_callS (pc := 1) (rest := []) C d_J_plant_1 (c_J_isKind l D dT A KX L ad τ x hx) (cwS 1 C.hts (gdS tw_349 tw_350 tw_1 tw_351) rfl rfl rfl ⟨rfl, by decide, by decide, by decide⟩ ⟨by decide, by decide⟩) rfl rfl (Nat.le_of_ble_eq_true rfl) ⟨by decide, by decide⟩ ?_
  rintro r1 L1 ad1 τ1 ⟨g1, g2, g3, g4⟩; obtain rfl := g1.symm; obtain rfl := g2.symm; obtain rfl := g3.symm; subst g4
  refine ph_bif_eq (pc := 4) (tgt := 15) C d_J_plant_4 (by decide) (fun c4 => ?_) (fun c4 => ?_)
  · refine ph_bipush (pc := 15) C d_J_plant_15 (by decide) ?_
    exact ph_iret (pc := 17) C d_J_plant_17 hr hlk rfl (by omega) (by omega) ⟨(by rw [plantS_f (fun q => by first | exact absurd q.1 (by assumption) | exact absurd q.2.1 (by assumption) | exact absurd q.2.2.1 (by assumption) | (have := q.2.2.2; omega))]; exact hI), (by rw [plantS_f (fun q => by first | exact absurd q.1 (by assumption) | exact absurd q.2.1 (by assumption) | exact absurd q.2.2.1 (by assumption) | (have := q.2.2.2; omega))]; exact hF), (by rw [plantv, if_pos (fun q => by first | exact absurd q.1 (by assumption) | exact absurd q.2 (by assumption))])⟩
  · refine ph_aload_n (pc := 7) C d_J_plant_7 rfl ?_
    refine ph_lload_n (pc := 8) C d_J_plant_8 rfl ?_
    refine ph_callV (pc := 9) (rest := []) C d_J_plant_9 (c_J_isTime l D dT A KX L ad τ S o hI hV t ht) (cwV 1 C.hts (gdV tw_101 tw_103 se_0 tw_1 tw_104) rfl rfl rfl ⟨rfl, by decide, by decide, by decide⟩ ⟨by decide, by decide⟩) (hI.live (g := 0) (i := 0) rfl) hI.ob rfl rfl rfl rfl rfl (Nat.le_of_ble_eq_true rfl) ⟨by decide, by decide⟩ ?_
    rintro r1 L1 ad1 τ1 ⟨g1, g2, g3, g4⟩; obtain rfl := g1.symm; obtain rfl := g2.symm; obtain rfl := g3.symm; subst g4
    refine ph_bif_ne (pc := 12) (tgt := 18) C d_J_plant_12 (by decide) (fun c12 => ?_) (fun c12 => ?_)
    · refine ph_aload_n (pc := 18) C d_J_plant_18 rfl ?_
      refine ph_callV (pc := 19) (rest := []) C d_J_plant_19 (c_J_goesOn l D dT A KX L ad τ S o hI hV) (cwV 0 C.hts (gdV tw_111 tw_112 tw_113 tw_1 tw_114) rfl rfl rfl ⟨rfl, by decide, by decide, by decide⟩ ⟨by decide, by decide⟩) (hI.live (g := 0) (i := 0) rfl) hI.ob rfl rfl rfl rfl rfl (Nat.le_of_ble_eq_true rfl) ⟨by decide, by decide⟩ ?_
      rintro r1 L1 ad1 τ1 ⟨g1, g2, g3, g4⟩; obtain rfl := g1.symm; obtain rfl := g2.symm; obtain rfl := g3.symm; subst g4
      refine ph_bif_ne (pc := 22) (tgt := 28) C d_J_plant_22 (by decide) (fun c22 => ?_) (fun c22 => ?_)
      · refine ph_aload_n (pc := 28) C d_J_plant_28 rfl ?_
        refine gt_J_34 (pc := 29) C d_J_plant_29 (hI.live (g := 0) (i := 0) rfl) hI.ob (z := S 0 0 5) (hI.dat rfl rfl) ?_
        refine ph_bipush (pc := 32) C d_J_plant_32 (by decide) ?_
        refine ph_icmp_lt (pc := 34) (tgt := 39) C d_J_plant_34 (by decide) (by omega) (by omega) (fun c34 => ?_) (fun c34 => ?_)
        · refine ph_aload_n (pc := 39) C d_J_plant_39 rfl ?_
          refine ph_lload_n (pc := 40) C d_J_plant_40 rfl ?_
          refine pt_J_54 (pc := 41) C d_J_plant_41 (hI.live (g := 0) (i := 0) rfl) hI.ob ?_
          have hI := hI.put (g := 0) (i := 0) (k := 11) (t) rfl (by omega)
          generalize ph_up τ 0 0 11 (t) = τ at hI ⊢
          refine ph_aload_n (pc := 44) C d_J_plant_44 rfl ?_
          refine ph_iload_n (pc := 45) C d_J_plant_45 rfl ?_
          refine ph_iconst (pc := 46) C d_J_plant_46 ?_
          refine ph_ti2 (y := ((x.toNat : Nat) : Int)) (by omega) ?_
          refine ph_callV (pc := 47) (rest := []) C d_J_plant_47 (c_J_tellN l D dT A KX L ad τ (ph_up S 0 0 11 (t)) o hI (hV.up0 (k := 11) (z := t) (by omega) (by omega) (by omega) (by omega)) (fun g i q1 q2 => (LC_up (by omega) g i).mpr (hF g i q1 q2)) x.toNat (by omega)) (cwV 2 C.hts (gdV tw_168 tw_170 se_6 tw_1 tw_171) rfl rfl rfl ⟨rfl, by decide, by decide, by decide⟩ ⟨by decide, by decide⟩) (hI.live (g := 0) (i := 0) rfl) hI.ob rfl rfl rfl rfl rfl (Nat.le_of_ble_eq_true rfl) ⟨by decide, by decide⟩ ?_
          rintro r1 L ad τ ⟨hI, hF, g4⟩; subst g4
          obtain ⟨S2, e_S2⟩ : ∃ z, z = tellS (ph_up S 0 0 11 (t)) x.toNat (-1) 0 := ⟨_, rfl⟩
          rw [← e_S2] at hI hF
          have hV : IV S2 := by rw [e_S2]; exact (hV.up0 (k := 11) (z := t) (by omega) (by omega) (by omega) (by omega)).tellS (by omega) (by omega) (by omega)
          have hc := hV.c
          exact ph_iret (pc := 50) C d_J_plant_50 hr hlk rfl (by omega) (by omega) ⟨(by rw [plantS_t ⟨by assumption, by assumption, by assumption, by omega⟩, ← e_S2]; exact hI), (by rw [plantS_t ⟨by assumption, by assumption, by assumption, by omega⟩, ← e_S2]; exact hF), (by rw [plantv, if_neg (not_not_intro ⟨by assumption, by assumption⟩), if_pos (by assumption), if_neg (by omega), tellv, if_neg (by rw [ph_up_no _ _ (by decide)]; omega), ph_up_no _ _ (by decide)])⟩
        · refine ph_iconst (pc := 37) C d_J_plant_37 ?_
          exact ph_iret (pc := 38) C d_J_plant_38 hr hlk rfl (by omega) (by omega) ⟨(by rw [plantS_f (fun q => by first | exact absurd q.1 (by assumption) | exact absurd q.2.1 (by assumption) | exact absurd q.2.2.1 (by assumption) | (have := q.2.2.2; omega))]; exact hI), (by rw [plantS_f (fun q => by first | exact absurd q.1 (by assumption) | exact absurd q.2.1 (by assumption) | exact absurd q.2.2.1 (by assumption) | (have := q.2.2.2; omega))]; exact hF), (by rw [plantv, if_neg (not_not_intro ⟨by assumption, by assumption⟩), if_pos (by assumption), if_pos (by omega)])⟩
      · refine ph_bipush (pc := 25) C d_J_plant_25 (by decide) ?_
        exact ph_iret (pc := 27) C d_J_plant_27 hr hlk rfl (by omega) (by omega) ⟨(by rw [plantS_f (fun q => by first | exact absurd q.1 (by assumption) | exact absurd q.2.1 (by assumption) | exact absurd q.2.2.1 (by assumption) | (have := q.2.2.2; omega))]; exact hI), (by rw [plantS_f (fun q => by first | exact absurd q.1 (by assumption) | exact absurd q.2.1 (by assumption) | exact absurd q.2.2.1 (by assumption) | (have := q.2.2.2; omega))]; exact hF), (by rw [plantv, if_neg (not_not_intro ⟨by assumption, by assumption⟩), if_neg (by assumption)])⟩
    · refine ph_bipush (pc := 15) C d_J_plant_15 (by decide) ?_
      exact ph_iret (pc := 17) C d_J_plant_17 hr hlk rfl (by omega) (by omega) ⟨(by rw [plantS_f (fun q => by first | exact absurd q.1 (by assumption) | exact absurd q.2.1 (by assumption) | exact absurd q.2.2.1 (by assumption) | (have := q.2.2.2; omega))]; exact hI), (by rw [plantS_f (fun q => by first | exact absurd q.1 (by assumption) | exact absurd q.2.1 (by assumption) | exact absurd q.2.2.1 (by assumption) | (have := q.2.2.2; omega))]; exact hF), (by rw [plantv, if_pos (fun q => by first | exact absurd q.1 (by assumption) | exact absurd q.2 (by assumption))])⟩
set_option maxHeartbeats 4000000 in
set_option maxRecDepth 100000 in
theorem c_J_tellJams (l : Launch) (D : va_G) (dT : Nat → ClassId) (A : Nat → Prop) (KX : State → Prop) (L : Nat → Nat → Prop) (ad : Nat → Nat → Nat) (τ : ph_T) (S : ph_T) (o : Nat) (hI : JR S o L ad τ) (hV : IV S) (hF : JF S L) : ph_M l y_J_tellJams (.code y_J_tellJams b_J_tellJams 3 none :: TB) ({ frames := 4, cells := 8, slots := 56, locals := 92 } : Room) D CLs (TY dT) dT kd A KX [.ref (o)] L ad τ (fun r L' ad' τ' => JR (jamsS S) o L' ad' τ' ∧ JF (jamsS S) L' ∧ r = none) 8 56 := by
  refine ph_M.of (cc := b_J_tellJams) (maxL := 3) (ret := none) (by decide) rfl (Nat.le_of_ble_eq_true rfl) ?_
  intro p e s m below meth c C0 hr hlk hnm
  have C := C0.sub
  refine ph_loc (l2 := [(0, .ref (o))]) ⟨rfl, trivial⟩ ?_
  have hc := hV.c
  have loop : ∀ (n : Nat) (i : Nat) (S1 : ph_T) (L : Nat → Nat → Prop) (ad : Nat → Nat → Nat) (τ : ph_T) (cs sl : Nat), JR S1 o L ad τ → IV S1 → JF S1 L → S 0 0 1 = (i : Int) + n → S1 0 0 1 = S 0 0 1 → cs + n ≤ 8 → sl + 7 * n ≤ 56 → tjF n i S1 = jamsS S → ph_W p l e ({ frames := 4, cells := 8, slots := 56, locals := 92 } : Room) s m [.ref (o)].toArray below meth c D CLs dT kd A 3 (MQ below (ph_Q D CLs dT kd A (fun r L' ad' τ' => JR (jamsS S) o L' ad' τ' ∧ JF (jamsS S) L' ∧ r = none)) [.ref (o)].toArray s 8 56 A) L ad τ cs sl 2 (ph_mk [(0, .ref (o)), (1, .int (ph_i ((i : Int))))]) [] := by
    intro n
    induction n with
    | zero =>
      intro i S1 L ad τ cs sl hI hV hF h1 h2 hcs hsl h3
      have hc := hV.c
      refine ph_iload_n (pc := 2) C d_J_tellJams_2 rfl ?_
      refine ph_aload_n (pc := 3) C d_J_tellJams_3 rfl ?_
      refine gt_J_15 (pc := 4) C d_J_tellJams_4 (hI.live (g := 0) (i := 0) rfl) hI.ob (z := S1 0 0 1) (hI.dat rfl rfl) ?_
      refine ph_icmp_ge (pc := 7) (tgt := 71) C d_J_tellJams_7 (by decide) (by first | omega | (have := hV.s (show LC S1 1 i by simp only [LC]; omega); have := lenAt_r hV i; omega)) (by first | omega | (have := hV.s (show LC S1 1 i by simp only [LC]; omega); have := lenAt_r hV i; omega)) (fun c7 => ?_) (fun c7 => ?_)
      · exact ph_vret (pc := 71) C d_J_tellJams_71 hr hlk (by omega) (by omega) ⟨(by rw [← h3]; exact hI), (by rw [← h3]; exact hF), rfl⟩
      · exfalso; omega
    | succ n ih =>
      intro i S1 L ad τ cs sl hI hV hF h1 h2 hcs hsl h3
      have hc := hV.c
      refine ph_iload_n (pc := 2) C d_J_tellJams_2 rfl ?_
      refine ph_aload_n (pc := 3) C d_J_tellJams_3 rfl ?_
      refine gt_J_15 (pc := 4) C d_J_tellJams_4 (hI.live (g := 0) (i := 0) rfl) hI.ob (z := S1 0 0 1) (hI.dat rfl rfl) ?_
      refine ph_icmp_ge (pc := 7) (tgt := 71) C d_J_tellJams_7 (by decide) (by first | omega | (have := hV.s (show LC S1 1 i by simp only [LC]; omega); have := lenAt_r hV i; omega)) (by first | omega | (have := hV.s (show LC S1 1 i by simp only [LC]; omega); have := lenAt_r hV i; omega)) (fun c7 => ?_) (fun c7 => ?_)
      · exfalso; omega
      · refine ph_aload_n (pc := 10) C d_J_tellJams_10 rfl ?_
        refine gt_J_11 (pc := 11) C d_J_tellJams_11 (hI.live (g := 0) (i := 0) rfl) hI.ob hI.r0 ?_
        refine ph_iload_n (pc := 14) C d_J_tellJams_14 rfl ?_
        refine ph_aald (pc := 15) (t := 0) C d_J_tellJams_15 (hI.live (g := 4) (i := 0) rfl) rfl rfl rfl i rfl (by have := (show LC S1 1 i by simp only [LC]; omega); simp only [LC] at this; omega) (by decide) (ph_vr (hI.e4 (show LC S1 1 i by simp only [LC]; omega))) ?_
        refine ph_astore_n (pc := 16) C d_J_tellJams_16 (by decide) rfl ?_
        refine ph_aload_n (pc := 17) C d_J_tellJams_17 rfl ?_
        refine gt_J_91 (pc := 18) C d_J_tellJams_18 (hI.live (show LC S1 1 i by simp only [LC]; omega)) rfl (z := S1 1 i 2) (hI.dat (show LC S1 1 i by simp only [LC]; omega) rfl) ?_
        refine ph_if_eq (pc := 21) (tgt := 65) C d_J_tellJams_21 (by decide) (by first | omega | (have := hV.s (show LC S1 1 i by simp only [LC]; omega); have := lenAt_r hV i; omega)) (fun c21 => ?_) (fun c21 => ?_)
        · refine ph_iinc (pc := 65) C d_J_tellJams_65 rfl rfl ?_
          refine ph_goto (pc := 68) (tgt := 2) C d_J_tellJams_68 (by decide) ?_
          refine ph_loc (l2 := [(0, .ref (o)), (1, .int (ph_i (((i + 1 : Nat) : Int))))]) ⟨rfl, rfl, trivial⟩ ?_
          exact ih (i + 1) S1 L ad τ cs sl hI hV hF (by omega) h2 (by omega) (by omega) (by rw [← h3, tjF_s, jamS_f (fun q => by have := q.1; have := q.2.1; have := q.2.2; omega)])
        · refine ph_aload_n (pc := 24) C d_J_tellJams_24 rfl ?_
          refine gt_J_182 (pc := 25) C d_J_tellJams_25 (hI.live (show LC S1 1 i by simp only [LC]; omega)) rfl (z := S1 1 i 5) (hI.dat (show LC S1 1 i by simp only [LC]; omega) rfl) ?_
          refine ph_if_ne (pc := 28) (tgt := 65) C d_J_tellJams_28 (by decide) (by first | omega | (have := hV.s (show LC S1 1 i by simp only [LC]; omega); have := lenAt_r hV i; omega)) (fun c28 => ?_) (fun c28 => ?_)
          · refine ph_iinc (pc := 65) C d_J_tellJams_65 rfl rfl ?_
            refine ph_goto (pc := 68) (tgt := 2) C d_J_tellJams_68 (by decide) ?_
            refine ph_loc (l2 := [(0, .ref (o)), (1, .int (ph_i (((i + 1 : Nat) : Int))))]) ⟨rfl, rfl, trivial⟩ ?_
            exact ih (i + 1) S1 L ad τ cs sl hI hV hF (by omega) h2 (by omega) (by omega) (by rw [← h3, tjF_s, jamS_f (fun q => by have := q.1; have := q.2.1; have := q.2.2; omega)])
          · refine ph_aload_n (pc := 31) C d_J_tellJams_31 rfl ?_
            refine gt_J_54 (pc := 32) C d_J_tellJams_32 (hI.live (g := 0) (i := 0) rfl) hI.ob (z := S1 0 0 11) (hI.dat rfl rfl) ?_
            refine ph_aload_n (pc := 35) C d_J_tellJams_35 rfl ?_
            refine gt_J_185 (pc := 36) C d_J_tellJams_36 (hI.live (show LC S1 1 i by simp only [LC]; omega)) rfl (z := S1 1 i 4) (hI.dat (show LC S1 1 i by simp only [LC]; omega) rfl) ?_
            refine ph_lsub (pc := 39) C d_J_tellJams_39 ?_
            refine ph_ldc2 (pc := 40) C d_J_tellJams_40 500 (by decide) tw_159 ?_
            refine ph_aload_n (pc := 43) C d_J_tellJams_43 rfl ?_
            refine ph_aload_n (pc := 44) C d_J_tellJams_44 rfl ?_
            refine ph_callV (pc := 45) (rest := [.long (ph_l (500)), .long (ph_l ((S1 0 0 11) - (S1 1 i 4)))]) C d_J_tellJams_45 (c_J_lengthAt l D dT A KX L ad τ S1 o hI hV i (show LC S1 1 i by simp only [LC]; omega)) (cwV 1 C.hts (gdV tw_160 tw_162 se_4 tw_1 tw_163) rfl rfl rfl ⟨rfl, by decide, by decide, by decide⟩ ⟨by decide, by decide⟩) (hI.live (g := 0) (i := 0) rfl) hI.ob rfl rfl rfl rfl rfl (Nat.le_of_ble_eq_true rfl) ⟨by show _ + _ ≤ (8 : Nat); omega, by show _ + _ ≤ (56 : Nat); omega⟩ ?_
            rintro r1 L1 ad1 τ1 ⟨g1, g2, g3, g4⟩; obtain rfl := g1.symm; obtain rfl := g2.symm; obtain rfl := g3.symm; subst g4
            refine ph_ladd (pc := 48) C d_J_tellJams_48 ?_
            refine ph_l_le (pc := 49) (tgt := 65) C d_J_tellJams_49 d_J_tellJams_50 (by decide) (by first | omega | (have := hV.s (show LC S1 1 i by simp only [LC]; omega); have := lenAt_r hV i; omega)) (by first | omega | (have := hV.s (show LC S1 1 i by simp only [LC]; omega); have := lenAt_r hV i; omega)) (fun c49 => ?_) (fun c49 => ?_)
            · refine ph_iinc (pc := 65) C d_J_tellJams_65 rfl rfl ?_
              refine ph_goto (pc := 68) (tgt := 2) C d_J_tellJams_68 (by decide) ?_
              refine ph_loc (l2 := [(0, .ref (o)), (1, .int (ph_i (((i + 1 : Nat) : Int))))]) ⟨rfl, rfl, trivial⟩ ?_
              exact ih (i + 1) S1 L ad τ cs sl hI hV hF (by omega) h2 (by omega) (by omega) (by rw [← h3, tjF_s, jamS_f (fun q => by have := q.1; have := q.2.1; have := q.2.2; omega)])
            · refine ph_aload_n (pc := 53) C d_J_tellJams_53 rfl ?_
              refine ph_iconst (pc := 54) C d_J_tellJams_54 ?_
              refine pt_J_182 (pc := 55) C d_J_tellJams_55 (by omega) (hI.live (show LC S1 1 i by simp only [LC]; omega)) rfl ?_
              have hI := hI.put (g := 1) (i := i) (k := 5) (1) rfl (by omega)
              generalize ph_up τ 1 i 5 (1) = τ at hI ⊢
              refine ph_aload_n (pc := 58) C d_J_tellJams_58 rfl ?_
              refine ph_iconst (pc := 59) C d_J_tellJams_59 ?_
              refine ph_iload_n (pc := 60) C d_J_tellJams_60 rfl ?_
              refine ph_callV (pc := 61) (rest := []) C d_J_tellJams_61 (c_J_tell l D dT A KX L ad τ (ph_up S1 1 i 5 (1)) o hI (hV.upS (i := i) (k := 5) (z := 1) (by omega) (by omega) (by omega) (by omega) (by omega)) (fun g j q1 q2 => (LC_upn (by decide) g j).mpr (hF g j q1 q2)) 5 (by omega) i ((LC_upn (by decide) 1 i).mpr (show LC S1 1 i by simp only [LC]; omega))) (cwV 2 C.hts (gdV tw_168 tw_170 se_6 tw_1 tw_171) rfl rfl rfl ⟨rfl, by decide, by decide, by decide⟩ ⟨by decide, by decide⟩) (hI.live (g := 0) (i := 0) rfl) hI.ob rfl rfl rfl rfl rfl (Nat.le_of_ble_eq_true rfl) ⟨by show _ + _ ≤ (8 : Nat); omega, by show _ + _ ≤ (56 : Nat); omega⟩ ?_
              rintro r1 L ad τ ⟨hI, hF, g4⟩; subst g4
              obtain ⟨S2, e_S2⟩ : ∃ z, z = tellS (ph_up S1 1 i 5 (1)) 5 (i : Int) ((dbm (ph_up S1 1 i 5 (1)) i : Nat) : Int) := ⟨_, rfl⟩
              rw [← e_S2] at hI hF
              have hV : IV S2 := by rw [e_S2]; exact (hV.upS (i := i) (k := 5) (z := 1) (by omega) (by omega) (by omega) (by omega) (by omega)).tellS (by omega) (by omega) (by have := dbm_lt (hV.upS (i := i) (k := 5) (z := 1) (by omega) (by omega) (by omega) (by omega) (by omega)) i; omega)
              have hc := hV.c
              refine ph_pop (pc := 64) C d_J_tellJams_64 rfl ?_
              refine ph_iinc (pc := 65) C d_J_tellJams_65 rfl rfl ?_
              refine ph_goto (pc := 68) (tgt := 2) C d_J_tellJams_68 (by decide) ?_
              refine ph_loc (l2 := [(0, .ref (o)), (1, .int (ph_i (((i + 1 : Nat) : Int))))]) ⟨rfl, rfl, trivial⟩ ?_
              exact ih (i + 1) S2 L ad τ (cs + 1) (sl + 7) hI hV hF (by omega) (by rw [e_S2, tellS_0 (by decide), up_ne _ (by decide)]; exact h2) (by omega) (by omega) (by rw [e_S2, ← h3, tjF_s, jamS_t ⟨by omega, by omega, by omega⟩])
  refine ph_iconst (pc := 0) C d_J_tellJams_0 ?_
  refine ph_istore_n (pc := 1) C d_J_tellJams_1 (by decide) rfl ?_
  refine ph_loc (l2 := [(0, .ref (o)), (1, .int (ph_i (((0 : Nat) : Int))))]) ⟨rfl, rfl, trivial⟩ ?_
  exact loop (S 0 0 1).toNat 0 S L ad τ 0 0 hI hV hF (by omega) rfl (by omega) (by omega) rfl
set_option maxHeartbeats 4000000 in
set_option maxRecDepth 100000 in
theorem c_J_loseLateItems (l : Launch) (D : va_G) (dT : Nat → ClassId) (A : Nat → Prop) (KX : State → Prop) (L : Nat → Nat → Prop) (ad : Nat → Nat → Nat) (τ : ph_T) (S : ph_T) (o : Nat) (hI : JR S o L ad τ) (hV : IV S) (hF : JF S L) (s0 : Nat) (hs : LC S 1 s0) : ph_M l y_J_loseLateItems (.code y_J_loseLateItems b_J_loseLateItems 4 none :: TB) ({ frames := 4, cells := 60, slots := 420, locals := 92 } : Room) D CLs (TY dT) dT kd A KX [.ref (o), .int (ph_i ((s0 : Int)))] L ad τ (fun r L' ad' τ' => JR (losesS S s0) o L' ad' τ' ∧ JF (losesS S s0) L' ∧ r = none) 60 420 := by
  refine ph_M.of (cc := b_J_loseLateItems) (maxL := 4) (ret := none) (by decide) rfl (Nat.le_of_ble_eq_true rfl) ?_
  intro p e s m below meth c C0 hr hlk hnm
  have C := C0.sub
  refine ph_loc (l2 := [(0, .ref (o)), (1, .int (ph_i ((s0 : Int))))]) ⟨rfl, rfl, trivial⟩ ?_
  have hc := hV.c
  have loop : ∀ (n : Nat) (i : Nat) (S1 : ph_T) (L : Nat → Nat → Prop) (ad : Nat → Nat → Nat) (τ : ph_T) (cs sl : Nat), JR S1 o L ad τ → IV S1 → JF S1 L → LC S1 1 s0 → 1 ≤ i → S 0 0 3 = (i : Int) + n - 1 → S1 0 0 3 = S 0 0 3 → cs + n ≤ 60 → sl + 7 * n ≤ 420 → lsF s0 n i S1 = losesS S s0 → ph_W p l e ({ frames := 4, cells := 60, slots := 420, locals := 92 } : Room) s m [.ref (o), .int (ph_i ((s0 : Int)))].toArray below meth c D CLs dT kd A 4 (MQ below (ph_Q D CLs dT kd A (fun r L' ad' τ' => JR (losesS S s0) o L' ad' τ' ∧ JF (losesS S s0) L' ∧ r = none)) [.ref (o), .int (ph_i ((s0 : Int)))].toArray s 60 420 A) L ad τ cs sl 2 (ph_mk [(0, .ref (o)), (1, .int (ph_i ((s0 : Int)))), (2, .int (ph_i ((i : Int))))]) [] := by
    intro n
    induction n with
    | zero =>
      intro i S1 L ad τ cs sl hI hV hF hs h0 h1 h2 hcs hsl h3
      have hc := hV.c
      refine ph_iload_n (pc := 2) C d_J_loseLateItems_2 rfl ?_
      refine ph_aload_n (pc := 3) C d_J_loseLateItems_3 rfl ?_
      refine gt_J_25 (pc := 4) C d_J_loseLateItems_4 (hI.live (g := 0) (i := 0) rfl) hI.ob (z := S1 0 0 3) (hI.dat rfl rfl) ?_
      refine ph_icmp_gt (pc := 7) (tgt := 60) C d_J_loseLateItems_7 (by decide) (by first | omega | (have := hV.i (show LC S1 2 i by simp only [LC]; omega); have := hV.s hs; omega)) (by first | omega | (have := hV.i (show LC S1 2 i by simp only [LC]; omega); have := hV.s hs; omega)) (fun c7 => ?_) (fun c7 => ?_)
      · exact ph_vret (pc := 60) C d_J_loseLateItems_60 hr hlk (by omega) (by omega) ⟨(by rw [← h3]; exact hI), (by rw [← h3]; exact hF), rfl⟩
      · exfalso; omega
    | succ n ih =>
      intro i S1 L ad τ cs sl hI hV hF hs h0 h1 h2 hcs hsl h3
      have hc := hV.c
      refine ph_iload_n (pc := 2) C d_J_loseLateItems_2 rfl ?_
      refine ph_aload_n (pc := 3) C d_J_loseLateItems_3 rfl ?_
      refine gt_J_25 (pc := 4) C d_J_loseLateItems_4 (hI.live (g := 0) (i := 0) rfl) hI.ob (z := S1 0 0 3) (hI.dat rfl rfl) ?_
      refine ph_icmp_gt (pc := 7) (tgt := 60) C d_J_loseLateItems_7 (by decide) (by first | omega | (have := hV.i (show LC S1 2 i by simp only [LC]; omega); have := hV.s hs; omega)) (by first | omega | (have := hV.i (show LC S1 2 i by simp only [LC]; omega); have := hV.s hs; omega)) (fun c7 => ?_) (fun c7 => ?_)
      · exfalso; omega
      · refine ph_aload_n (pc := 10) C d_J_loseLateItems_10 rfl ?_
        refine ph_iload_n (pc := 11) C d_J_loseLateItems_11 rfl ?_
        refine ph_iload_n (pc := 12) C d_J_loseLateItems_12 rfl ?_
        refine ph_callV (pc := 13) (rest := []) C d_J_loseLateItems_13 (c_J_isAwaited l D dT A KX L ad τ S1 o hI hV i s0 (show LC S1 2 i by simp only [LC]; omega) hs) (cwV 2 C.hts (gdV tw_230 tw_232 se_11 tw_1 tw_233) rfl rfl rfl ⟨rfl, by decide, by decide, by decide⟩ ⟨by decide, by decide⟩) (hI.live (g := 0) (i := 0) rfl) hI.ob rfl rfl rfl rfl rfl (Nat.le_of_ble_eq_true rfl) ⟨by show _ + _ ≤ (60 : Nat); omega, by show _ + _ ≤ (420 : Nat); omega⟩ ?_
        rintro r1 L1 ad1 τ1 ⟨g1, g2, g3, g4⟩; obtain rfl := g1.symm; obtain rfl := g2.symm; obtain rfl := g3.symm; subst g4
        refine ph_bif_eq (pc := 16) (tgt := 54) C d_J_loseLateItems_16 (by decide) (fun c16 => ?_) (fun c16 => ?_)
        · refine ph_iinc (pc := 54) C d_J_loseLateItems_54 rfl rfl ?_
          refine ph_goto (pc := 57) (tgt := 2) C d_J_loseLateItems_57 (by decide) ?_
          refine ph_loc (l2 := [(0, .ref (o)), (1, .int (ph_i ((s0 : Int)))), (2, .int (ph_i (((i + 1 : Nat) : Int))))]) ⟨rfl, rfl, rfl, trivial⟩ ?_
          exact ih (i + 1) S1 L ad τ cs sl hI hV hF hs (by omega) (by omega) h2 (by omega) (by omega) (by rw [← h3, lsF_s, lostS_f (fun q => by first | exact absurd q.1 (by assumption) | (have := q.2; unfold due at this; omega))])
        · refine ph_aload_n (pc := 19) C d_J_loseLateItems_19 rfl ?_
          refine gt_J_54 (pc := 20) C d_J_loseLateItems_20 (hI.live (g := 0) (i := 0) rfl) hI.ob (z := S1 0 0 11) (hI.dat rfl rfl) ?_
          refine ph_aload_n (pc := 23) C d_J_loseLateItems_23 rfl ?_
          refine ph_iload_n (pc := 24) C d_J_loseLateItems_24 rfl ?_
          refine ph_iload_n (pc := 25) C d_J_loseLateItems_25 rfl ?_
          refine ph_callV (pc := 26) (rest := [.long (ph_l (S1 0 0 11))]) C d_J_loseLateItems_26 (c_J_dueAt l D dT A KX L ad τ S1 o hI hV i s0 (show LC S1 2 i by simp only [LC]; omega) hs) (cwV 2 C.hts (gdV tw_234 tw_236 se_12 tw_1 tw_237) rfl rfl rfl ⟨rfl, by decide, by decide, by decide⟩ ⟨by decide, by decide⟩) (hI.live (g := 0) (i := 0) rfl) hI.ob rfl rfl rfl rfl rfl (Nat.le_of_ble_eq_true rfl) ⟨by show _ + _ ≤ (60 : Nat); omega, by show _ + _ ≤ (420 : Nat); omega⟩ ?_
          rintro r1 L1 ad1 τ1 ⟨g1, g2, g3, g4⟩; obtain rfl := g1.symm; obtain rfl := g2.symm; obtain rfl := g3.symm; subst g4
          refine ph_lsub (pc := 29) C d_J_loseLateItems_29 ?_
          refine ph_ldc2 (pc := 30) C d_J_loseLateItems_30 15 (by decide) tw_238 ?_
          refine ph_l_le (pc := 33) (tgt := 54) C d_J_loseLateItems_33 d_J_loseLateItems_34 (by decide) (by first | omega | (have := hV.i (show LC S1 2 i by simp only [LC]; omega); have := hV.s hs; omega)) (by first | omega | (have := hV.i (show LC S1 2 i by simp only [LC]; omega); have := hV.s hs; omega)) (fun c33 => ?_) (fun c33 => ?_)
          · refine ph_iinc (pc := 54) C d_J_loseLateItems_54 rfl rfl ?_
            refine ph_goto (pc := 57) (tgt := 2) C d_J_loseLateItems_57 (by decide) ?_
            refine ph_loc (l2 := [(0, .ref (o)), (1, .int (ph_i ((s0 : Int)))), (2, .int (ph_i (((i + 1 : Nat) : Int))))]) ⟨rfl, rfl, rfl, trivial⟩ ?_
            exact ih (i + 1) S1 L ad τ cs sl hI hV hF hs (by omega) (by omega) h2 (by omega) (by omega) (by rw [← h3, lsF_s, lostS_f (fun q => by first | exact absurd q.1 (by assumption) | (have := q.2; unfold due at this; omega))])
          · refine ph_aload_n (pc := 37) C d_J_loseLateItems_37 rfl ?_
            refine ph_iconst (pc := 38) C d_J_loseLateItems_38 ?_
            refine ph_iload_n (pc := 39) C d_J_loseLateItems_39 rfl ?_
            have hVo := hV
            refine ph_callV (pc := 40) (rest := []) C d_J_loseLateItems_40 (c_J_tell l D dT A KX L ad τ S1 o hI hV hF 2 (by omega) s0 hs) (cwV 2 C.hts (gdV tw_168 tw_170 se_6 tw_1 tw_171) rfl rfl rfl ⟨rfl, by decide, by decide, by decide⟩ ⟨by decide, by decide⟩) (hI.live (g := 0) (i := 0) rfl) hI.ob rfl rfl rfl rfl rfl (Nat.le_of_ble_eq_true rfl) ⟨by show _ + _ ≤ (60 : Nat); omega, by show _ + _ ≤ (420 : Nat); omega⟩ ?_
            rintro r1 L ad τ ⟨hI, hF, g4⟩; subst g4
            obtain ⟨S2, e_S2⟩ : ∃ z, z = tellS S1 2 (s0 : Int) ((dbm S1 s0 : Nat) : Int) := ⟨_, rfl⟩
            rw [← e_S2] at hI hF
            have hV : IV S2 := by rw [e_S2]; exact hV.tellS (by omega) (by have := hs; simp only [LC] at this; omega) (by have := dbm_lt hV s0; omega)
            have hc := hV.c
            have hi2 : LC S2 2 i := by rw [e_S2]; exact (tellS_L (by decide)).mpr (by simp only [LC]; omega)
            have hs : LC S2 1 s0 := by rw [e_S2]; exact (tellS_L (by decide)).mpr hs
            have htv := tellv_r hVo
            refine ph_istore_n (pc := 43) C d_J_loseLateItems_43 (by decide) rfl ?_
            refine ph_aload_n (pc := 44) C d_J_loseLateItems_44 rfl ?_
            refine gt_J_21 (pc := 45) C d_J_loseLateItems_45 (hI.live (g := 0) (i := 0) rfl) hI.ob hI.r2 ?_
            refine ph_iload_n (pc := 48) C d_J_loseLateItems_48 rfl ?_
            refine ph_aald (pc := 49) (t := 1) C d_J_loseLateItems_49 (hI.live (g := 5) (i := 0) rfl) rfl rfl rfl i rfl (by have := hi2; simp only [LC] at this; omega) (by decide) (ph_vr (hI.e5 hi2)) ?_
            refine ph_iload_n (pc := 50) C d_J_loseLateItems_50 rfl ?_
            refine ph_callV (pc := 51) (rest := []) C d_J_loseLateItems_51 (c_I_takeOffBelt l D dT A KX L ad τ i (ad 2 i) (hI.live hi2) rfl (S2 2 i 5) (hI.dat hi2 rfl) (by have := hV.i hi2; omega) (tellv S1)) (cwV 1 C.hts (gdV tw_239 tw_240 tw_241 tw_4 tw_242) rfl rfl rfl ⟨rfl, by decide, by decide, by decide⟩ ⟨by decide, by decide⟩) (hI.live hi2) rfl rfl rfl rfl rfl rfl (Nat.le_of_ble_eq_true rfl) ⟨by show _ + _ ≤ (60 : Nat); omega, by show _ + _ ≤ (420 : Nat); omega⟩ ?_
            rintro r1 L1 ad1 τ2 ⟨g1, g2, g3, g4⟩; obtain rfl := g1.symm; obtain rfl := g2.symm; subst g4
            have hI := hI.take i (tellv S1)
            rw [← g3] at hI
            clear g3
            obtain ⟨τ, rfl⟩ : ∃ z, z = τ2 := ⟨_, rfl⟩
            obtain ⟨S3, e_S3⟩ : ∃ z, z = takeS S2 i (tellv S1) := ⟨_, rfl⟩
            rw [← e_S3] at hI
            have hV : IV S3 := by rw [e_S3]; exact hV.takeS htv
            have hc := hV.c
            have hF : JF S3 L := fun g j q1 q2 => by rw [e_S3]; exact (LC_eq (takeS_g (by decide)) (takeS_g (by decide)) (takeS_g (by decide)) g j).mpr (hF g j q1 q2)
            have hs : LC S3 1 s0 := by rw [e_S3]; exact (LC_eq (takeS_g (by decide)) (takeS_g (by decide)) (takeS_g (by decide)) 1 s0).mpr hs
            refine ph_iinc (pc := 54) C d_J_loseLateItems_54 rfl rfl ?_
            refine ph_goto (pc := 57) (tgt := 2) C d_J_loseLateItems_57 (by decide) ?_
            refine ph_loc (l2 := [(0, .ref (o)), (1, .int (ph_i ((s0 : Int)))), (2, .int (ph_i (((i + 1 : Nat) : Int))))]) ⟨rfl, rfl, rfl, trivial⟩ ?_
            exact ih (i + 1) S3 L ad τ (cs + 1) (sl + 7) hI hV hF hs (by omega) (by omega) (by rw [e_S3, takeS_g (by decide), e_S2, tellS_0 (by decide)]; exact h2) (by omega) (by omega) (by rw [e_S3, e_S2, ← h3, lsF_s, lostS_t ⟨by assumption, by unfold due; omega⟩])
  refine ph_iconst (pc := 0) C d_J_loseLateItems_0 ?_
  refine ph_istore_n (pc := 1) C d_J_loseLateItems_1 (by decide) rfl ?_
  refine ph_loc (l2 := [(0, .ref (o)), (1, .int (ph_i ((s0 : Int)))), (2, .int (ph_i (((1 : Nat) : Int))))]) ⟨rfl, rfl, rfl, trivial⟩ ?_
  exact loop (S 0 0 3).toNat 1 S L ad τ 0 0 hI hV hF hs (by omega) (by omega) rfl (by omega) (by omega) rfl
end
section
/-! ===== an edge ===== -/
theorem luF_le {S : ph_T} {s : Nat} : ∀ (n i : Nat), luF S s n i = 0 ∨ (i ≤ luF S s n i ∧ luF S s n i < i + n)
  | 0, _ => Or.inl rfl
  | n + 1, i => by
    rcases Classical.em (aw S i s) with q | q
    · rw [luF_t q]
      exact Or.inr ⟨Nat.le_refl i, by omega⟩
    · rw [luF_f q]
      have := luF_le (S := S) (s := s) n (i + 1)
      omega
theorem lu_le {S : ph_T} (h : IV S) (s : Nat) : (lu S s : Int) ≤ S 0 0 3 ∧ lu S s ≤ 60 := by
  have hc := h.c
  have := luF_le (S := S) (s := s) (S 0 0 3).toNat 1
  unfold lu
  omega
noncomputable def dkA (S : ph_T) (s : Nat) : ph_T := losesS (ph_up S 1 s 1 (S 1 s 1 + 1)) s
noncomputable def dkT (S : ph_T) (s : Nat) : ph_T := darkS (seeS S (lu S s) s) s ((lu S s : Nat) : Int) (seeS S (lu S s) s 0 0 11)
noncomputable def dkN (S : ph_T) (s : Nat) : ph_T := darkS (tellS S 1 (s : Int) ((dbm S s : Nat) : Int)) s 0 (tellS S 1 (s : Int) ((dbm S s : Nat) : Int) 0 0 11)
noncomputable def dkB (S : ph_T) (s : Nat) : ph_T := @ite ph_T (coming S ((lu S s : Nat) : Int) s) (Classical.propDecidable _) (dkT S s) (dkN S s)
theorem dkB_t {S : ph_T} {s : Nat} (h : coming S ((lu S s : Nat) : Int) s) : dkB S s = dkT S s := if_pos h
theorem dkB_f {S : ph_T} {s : Nat} (h : ¬ coming S ((lu S s : Nat) : Int) s) : dkB S s = dkN S s := if_neg h
noncomputable def bdS (S : ph_T) (s : Nat) : ph_T := dkB (dkA S s) s
theorem LC1 {S S1 : ph_T} {s : Nat} (e : S1 0 0 1 = S 0 0 1) (h : LC S 1 s) : LC S1 1 s := by
  simp only [LC] at h ⊢
  omega
theorem dkA_0 {S : ph_T} {s k : Nat} (hk : k ≠ 5) : dkA S s 0 0 k = S 0 0 k := by
  unfold dkA losesS
  rw [lsF_0 hk, up_ne _ (by decide)]
theorem IV.dkA {S : ph_T} (h : IV S) {s : Nat} (hs : LC S 1 s) : IV (dkA S s) := IV.losesS (h.upS (by omega) (by omega) (by omega) (by omega) (by omega)) (LC1 (up_ne _ (by decide)) hs)
theorem IV.dkB {S : ph_T} (h : IV S) {s : Nat} (hs : LC S 1 s) : IV (dkB S s) := by
  have hc := h.c
  have hs9 := id hs
  simp only [LC] at hs9
  have hl := lu_le h s
  rcases Classical.em (coming S ((lu S s : Nat) : Int) s) with q | q
  · rw [dkB_t q]
    have h1 := h.seeS (i := lu S s) (s := s) (show LC S 2 (lu S s) by have := q.1; simp only [LC]; omega) (by omega)
    exact h1.darkS ⟨by omega, by rw [seeS_g (by decide)]; omega⟩ ⟨by rw [seeS_g (by decide)]; omega, Int.le_refl _⟩
  · rw [dkB_f q]
    have hd := dbm_lt h s
    have h1 := h.tellS (kd := 1) (s := (s : Int)) (db := ((dbm S s : Nat) : Int)) (by omega) (by omega) (by omega)
    exact h1.darkS ⟨by omega, by rw [tellS_0 (by decide)]; omega⟩ ⟨by rw [tellS_0 (by decide)]; omega, Int.le_refl _⟩
theorem IV.bdS {S : ph_T} (h : IV S) {s : Nat} (hs : LC S 1 s) : IV (bdS S s) := (h.dkA hs).dkB (LC1 (dkA_0 (by decide)) hs)
def longer (S : ph_T) (s i : Nat) : Int := S 0 0 11 - S 1 s 4 - S 2 i 0
noncomputable def jlA (S : ph_T) (s i : Nat) : ph_T := takeS (tellS S 3 (s : Int) ((dbm S s : Nat) : Int)) i (tellv S)
noncomputable def jlB (S : ph_T) (s : Nat) (f : Int) : ph_T := @ite ph_T (coming S ((lu S s : Nat) : Int) s) (Classical.propDecidable _) (takeS S (lu S s) f) S
theorem jlB_t {S : ph_T} {s : Nat} {f : Int} (h : coming S ((lu S s : Nat) : Int) s) : jlB S s f = takeS S (lu S s) f := if_pos h
theorem jlB_f {S : ph_T} {s : Nat} {f : Int} (h : ¬ coming S ((lu S s : Nat) : Int) s) : jlB S s f = S := if_neg h
noncomputable def judgeS (S : ph_T) (s i : Nat) : ph_T := if 15 < longer S s i then jlB (jlA S s i) s (tellv S) else if longer S s i < -15 then tellS S 4 (s : Int) ((dbm S s : Nat) : Int) else S
theorem jlB_0 {S : ph_T} {s : Nat} {f : Int} {g j k : Nat} (hg : g ≠ 2) : jlB S s f g j k = S g j k := by
  rcases Classical.em (coming S ((lu S s : Nat) : Int) s) with q | q
  · rw [jlB_t q, takeS_g hg]
  · rw [jlB_f q]
theorem judgeS_0 {S : ph_T} {s i k : Nat} (hk : k ≠ 5) : judgeS S s i 0 0 k = S 0 0 k := by
  unfold judgeS
  split
  · rw [jlB_0 (by decide), jlA, takeS_g (by decide), tellS_0 hk]
  · split
    · exact tellS_0 hk
    · rfl
theorem iv_judge {S : ph_T} (h : IV S) {s i : Nat} (hs : LC S 1 s) : IV (judgeS S s i) := by
  have hc := h.c
  have hd := dbm_lt h s
  simp only [LC] at hs
  have h1 : ∀ kd : Nat, 1 ≤ kd ∧ kd ≤ 6 → IV (tellS S kd (s : Int) ((dbm S s : Nat) : Int)) := fun kd hk => h.tellS hk (by omega) (by omega)
  show IV (if _ then _ else _)
  split
  · have h2 : IV (jlA S s i) := (h1 3 (by omega)).takeS (tellv_r h)
    rcases Classical.em (coming (jlA S s i) ((lu (jlA S s i) s : Nat) : Int) s) with q | q
    · rw [jlB_t q]; exact h2.takeS (tellv_r h)
    · rw [jlB_f q]; exact h2
  · split
    · exact h1 4 (by omega)
    · exact h
theorem IV.judgeS {S : ph_T} (h : IV S) {s i : Nat} (hs : LC S 1 s) : IV (judgeS S s i) := iv_judge h hs
noncomputable def blB (S : ph_T) (s i : Nat) : ph_T := if (s : Int) = S 0 0 1 - 1 then leaveS S i else S
noncomputable def blA (S : ph_T) (s : Nat) : ph_T := if 1 ≤ S 1 s 3 ∧ S 1 s 3 ≤ S 0 0 3 then blB (judgeS S s (S 1 s 3).toNat) s (S 1 s 3).toNat else S
noncomputable def blS (S : ph_T) (s : Nat) : ph_T := lightS (blA S s) s
theorem blB_g {S : ph_T} {s i g j k : Nat} (hg : g ≠ 2) : blB S s i g j k = S g j k := by
  unfold blB
  split
  · exact leaveS_g hg
  · rfl
theorem IV.blS {S : ph_T} (h : IV S) {s : Nat} (hs : LC S 1 s) : IV (blS S s) := by
  refine IV.lightS ?_
  show IV (if _ then _ else _)
  split
  · show IV (if _ then _ else _)
    split
    · exact (h.judgeS hs).leaveS
    · exact h.judgeS hs
  · exact h
def edOk (S : ph_T) (x d t : Int) : Prop := (0 ≤ x ∧ x < S 0 0 1) ∧ (S 0 0 11 ≤ t ∧ t ≤ 1000000000) ∧ runs S ∧ ¬ S 1 x.toNat 2 = d
noncomputable def edJ (S : ph_T) (t : Int) : ph_T := jamsS (ph_up S 0 0 11 t)
noncomputable def edB (S : ph_T) (s : Nat) (d : Int) : ph_T := @ite ph_T (runs S) (Classical.propDecidable _) (if d = 0 then blS S s else bdS S s) S
noncomputable def edgeS (S : ph_T) (x d t : Int) : ph_T := @ite ph_T (edOk S x d t) (Classical.propDecidable _) (edB (edJ S t) x.toNat d) S
theorem edgeS_t {S : ph_T} {x d t : Int} (h : edOk S x d t) : edgeS S x d t = edB (edJ S t) x.toNat d := if_pos h
theorem edgeS_f {S : ph_T} {x d t : Int} (h : ¬ edOk S x d t) : edgeS S x d t = S := if_neg h
theorem edB_n {S : ph_T} {s : Nat} {d : Int} (h : ¬ runs S) : edB S s d = S := if_neg h
theorem edB_l {S : ph_T} {s : Nat} {d : Int} (h : runs S) (hd : d = 0) : edB S s d = blS S s := (if_pos h).trans (if_pos hd)
theorem edB_d {S : ph_T} {s : Nat} {d : Int} (h : runs S) (hd : ¬ d = 0) : edB S s d = bdS S s := (if_pos h).trans (if_neg hd)
noncomputable def edgev (S : ph_T) (x d t : Int) : Int := if ¬ (0 ≤ x ∧ x < S 0 0 1) then -11 else if ¬ (S 0 0 11 ≤ t ∧ t ≤ 1000000000) then -12 else @ite Int (runs S ∧ ¬ S 1 x.toNat 2 = d) (Classical.propDecidable _) (if S 0 0 5 < edB (edJ S t) x.toNat d 0 0 5 then S 0 0 5 + 1 else 0) (-13)
theorem IV.edJ {S : ph_T} (h : IV S) {t : Int} (ht : S 0 0 11 ≤ t ∧ t ≤ 1000000000) : IV (edJ S t) := IV.jamsS (h.up0 (k := 11) (by omega) (by omega) (by omega) (by omega))
theorem edJ_0 {S : ph_T} {t : Int} {k : Nat} (hk : k ≠ 5) (hk2 : k ≠ 11) : edJ S t 0 0 k = S 0 0 k := by
  unfold edJ
  rw [jamsS_0 hk, ph_up_no _ _ (by omega)]
theorem iv_edge {S : ph_T} (h : IV S) {x d t : Int} : IV (edgeS S x d t) := by
  rcases Classical.em (edOk S x d t) with q | q
  · rw [edgeS_t q]
    obtain ⟨q1, q2, q3, q4⟩ := q
    have h1 := h.edJ q2
    have hs := LC1 (S := S) (s := x.toNat) (edJ_0 (S := S) (t := t) (k := 1) (by decide) (by decide)) (show (x.toNat : Int) < S 0 0 1 by omega)
    rcases Classical.em (runs (edJ S t)) with r | r
    · by_cases hd : d = 0
      · rw [edB_l r hd]; exact h1.blS hs
      · rw [edB_d r hd]; exact h1.bdS hs
    · rw [edB_n r]; exact h1
  · rw [edgeS_f q]
    exact h
end
section
/-! ===== an edge ===== -/
set_option maxHeartbeats 4000000 in
set_option maxRecDepth 100000 in
theorem c_J_becomeDark (l : Launch) (D : va_G) (dT : Nat → ClassId) (A : Nat → Prop) (KX : State → Prop) (L : Nat → Nat → Prop) (ad : Nat → Nat → Nat) (τ : ph_T) (S : ph_T) (o : Nat) (hI : JR S o L ad τ) (hV : IV S) (hF : JF S L) (s0 : Nat) (hs : LC S 1 s0) : ph_M l y_J_becomeDark (.code y_J_becomeDark b_J_becomeDark 3 none :: TB) ({ frames := 5, cells := 61, slots := 427, locals := 115 } : Room) D CLs (TY dT) dT kd A KX [.ref (o), .int (ph_i ((s0 : Int)))] L ad τ (fun r L' ad' τ' => JR (bdS S s0) o L' ad' τ' ∧ JF (bdS S s0) L' ∧ r = none) 61 427 := by
  refine ph_M.of (cc := b_J_becomeDark) (maxL := 3) (ret := none) (by decide) rfl (Nat.le_of_ble_eq_true rfl) ?_
  intro p e s m below meth c C0 hr hlk hnm
  have C := C0.sub
  refine ph_loc (l2 := [(0, .ref (o)), (1, .int (ph_i ((s0 : Int))))]) ⟨rfl, rfl, trivial⟩ ?_
  have hc := hV.c
  refine ph_aload_n (pc := 0) C d_J_becomeDark_0 rfl ?_
  refine gt_J_11 (pc := 1) C d_J_becomeDark_1 (hI.live (g := 0) (i := 0) rfl) hI.ob hI.r0 ?_
  refine ph_iload_n (pc := 4) C d_J_becomeDark_4 rfl ?_
  refine ph_aald (pc := 5) (t := 0) C d_J_becomeDark_5 (hI.live (g := 4) (i := 0) rfl) rfl rfl rfl s0 rfl (by have := hs; simp only [LC] at this; omega) (by decide) (ph_vr (hI.e4 hs)) ?_
  refine ph_dup (pc := 6) C d_J_becomeDark_6 rfl ?_
  refine gt_J_166 (pc := 7) C d_J_becomeDark_7 (hI.live hs) rfl (z := S 1 s0 1) (hI.dat hs rfl) ?_
  refine ph_iconst (pc := 10) C d_J_becomeDark_10 ?_
  refine ph_iadd (pc := 11) C d_J_becomeDark_11 ?_
  refine pt_J_166 (pc := 12) C d_J_becomeDark_12 (hI.live hs) rfl ?_
  have hI := hI.put (g := 1) (i := s0) (k := 1) ((S 1 s0 1) + (1)) rfl (by omega)
  generalize ph_up τ 1 s0 1 ((S 1 s0 1) + (1)) = τ at hI ⊢
  refine ph_aload_n (pc := 15) C d_J_becomeDark_15 rfl ?_
  refine ph_iload_n (pc := 16) C d_J_becomeDark_16 rfl ?_
  refine ph_callV (pc := 17) (rest := []) C d_J_becomeDark_17 (c_J_loseLateItems l D dT A KX L ad τ (ph_up S 1 s0 1 ((S 1 s0 1) + (1))) o hI (hV.upS (i := s0) (k := 1) (z := (S 1 s0 1) + (1)) (by omega) (by omega) (by omega) (by omega) (by omega)) (fun g j q1 q2 => (LC_upn (by decide) g j).mpr (hF g j q1 q2)) s0 ((LC_upn (by decide) 1 s0).mpr hs)) (cwV 1 C.hts (gdV tw_226 tw_228 se_10 tw_1 tw_229) rfl rfl rfl ⟨rfl, by decide, by decide, by decide⟩ ⟨by decide, by decide⟩) (hI.live (g := 0) (i := 0) rfl) hI.ob rfl rfl rfl rfl rfl (Nat.le_of_ble_eq_true rfl) ⟨by decide, by decide⟩ ?_
  rintro r1 L ad τ ⟨hI, hF, g4⟩; subst g4
  change JR (dkA S s0) o L ad τ at hI; change JF (dkA S s0) L at hF
  obtain ⟨S2, e_S2⟩ : ∃ z, z = dkA S s0 := ⟨_, rfl⟩
  rw [← e_S2] at hI hF
  have hV : IV S2 := by rw [e_S2]; exact hV.dkA hs
  have hc := hV.c
  have hs : LC S2 1 s0 := LC1 (by rw [e_S2]; exact dkA_0 (by decide)) hs
  have hlu := lu_le hV s0
  refine ph_aload_n (pc := 20) C d_J_becomeDark_20 rfl ?_
  refine ph_iload_n (pc := 21) C d_J_becomeDark_21 rfl ?_
  refine ph_callV (pc := 22) (rest := []) C d_J_becomeDark_22 (c_J_leastUnseen l D dT A KX L ad τ S2 o hI hV s0 hs) (cwV 1 C.hts (gdV tw_243 tw_245 se_13 tw_1 tw_246) rfl rfl rfl ⟨rfl, by decide, by decide, by decide⟩ ⟨by decide, by decide⟩) (hI.live (g := 0) (i := 0) rfl) hI.ob rfl rfl rfl rfl rfl (Nat.le_of_ble_eq_true rfl) ⟨by decide, by decide⟩ ?_
  rintro r1 L1 ad1 τ1 ⟨g1, g2, g3, g4⟩; obtain rfl := g1.symm; obtain rfl := g2.symm; obtain rfl := g3.symm; subst g4
  refine ph_istore_n (pc := 25) C d_J_becomeDark_25 (by decide) rfl ?_
  refine ph_aload_n (pc := 26) C d_J_becomeDark_26 rfl ?_
  refine ph_iload_n (pc := 27) C d_J_becomeDark_27 rfl ?_
  refine ph_iload_n (pc := 28) C d_J_becomeDark_28 rfl ?_
  refine ph_callV (pc := 29) (rest := []) C d_J_becomeDark_29 (c_J_isComing l D dT A KX L ad τ S2 o hI hV ((lu S2 s0 : Nat) : Int) (by omega) s0 hs) (cwV 2 C.hts (gdV tw_247 tw_249 se_14 tw_1 tw_250) rfl rfl rfl ⟨rfl, by decide, by decide, by decide⟩ ⟨by decide, by decide⟩) (hI.live (g := 0) (i := 0) rfl) hI.ob rfl rfl rfl rfl rfl (Nat.le_of_ble_eq_true rfl) ⟨by decide, by decide⟩ ?_
  rintro r1 L1 ad1 τ1 ⟨g1, g2, g3, g4⟩; obtain rfl := g1.symm; obtain rfl := g2.symm; obtain rfl := g3.symm; subst g4
  refine ph_bif_eq (pc := 32) (tgt := 62) C d_J_becomeDark_32 (by decide) (fun c32 => ?_) (fun c32 => ?_)
  · refine ph_aload_n (pc := 62) C d_J_becomeDark_62 rfl ?_
    refine ph_iconst (pc := 63) C d_J_becomeDark_63 ?_
    refine ph_iload_n (pc := 64) C d_J_becomeDark_64 rfl ?_
    have hVo := hV
    refine ph_callV (pc := 65) (rest := []) C d_J_becomeDark_65 (c_J_tell l D dT A KX L ad τ S2 o hI hV hF 1 (by omega) s0 hs) (cwV 2 C.hts (gdV tw_168 tw_170 se_6 tw_1 tw_171) rfl rfl rfl ⟨rfl, by decide, by decide, by decide⟩ ⟨by decide, by decide⟩) (hI.live (g := 0) (i := 0) rfl) hI.ob rfl rfl rfl rfl rfl (Nat.le_of_ble_eq_true rfl) ⟨by decide, by decide⟩ ?_
    rintro r1 L ad τ ⟨hI, hF, g4⟩; subst g4
    change JR (tellS S2 1 (s0 : Int) ((dbm S2 s0 : Nat) : Int)) o L ad τ at hI; change JF (tellS S2 1 (s0 : Int) ((dbm S2 s0 : Nat) : Int)) L at hF
    obtain ⟨S5, e_S5⟩ : ∃ z, z = tellS S2 1 (s0 : Int) ((dbm S2 s0 : Nat) : Int) := ⟨_, rfl⟩
    rw [← e_S5] at hI hF
    have hV : IV S5 := by rw [e_S5]; exact hV.tellS (by omega) (by have := hs; simp only [LC] at this; omega) (by have := dbm_lt hV s0; omega)
    have hc := hV.c
    have htv := tellv_r hVo
    have hs : LC S5 1 s0 := by rw [e_S5]; exact (tellS_L (by decide)).mpr hs
    have hlu : 0 ≤ (0 : Int) ∧ (0 : Int) ≤ S5 0 0 3 := by omega
    refine ph_pop (pc := 68) C d_J_becomeDark_68 rfl ?_
    refine ph_aload_n (pc := 69) C d_J_becomeDark_69 rfl ?_
    refine gt_J_11 (pc := 70) C d_J_becomeDark_70 (hI.live (g := 0) (i := 0) rfl) hI.ob hI.r0 ?_
    refine ph_iload_n (pc := 73) C d_J_becomeDark_73 rfl ?_
    refine ph_aald (pc := 74) (t := 0) C d_J_becomeDark_74 (hI.live (g := 4) (i := 0) rfl) rfl rfl rfl s0 rfl (by have := hs; simp only [LC] at this; omega) (by decide) (ph_vr (hI.e4 hs)) ?_
    refine ph_iconst (pc := 75) C d_J_becomeDark_75 ?_
    refine ph_aload_n (pc := 76) C d_J_becomeDark_76 rfl ?_
    refine gt_J_54 (pc := 77) C d_J_becomeDark_77 (hI.live (g := 0) (i := 0) rfl) hI.ob (z := S5 0 0 11) (hI.dat rfl rfl) ?_
    refine ph_callV (pc := 80) (rest := []) C d_J_becomeDark_80 (c_S_darken l D dT A KX L ad τ s0 (ad 1 s0) (hI.live hs) rfl (0) (S5 0 0 11)) (cwV 2 C.hts (gdV tw_255 tw_256 tw_257 tw_3 tw_258) rfl rfl rfl ⟨rfl, by decide, by decide, by decide⟩ ⟨by decide, by decide⟩) (hI.live hs) rfl rfl rfl rfl rfl rfl (Nat.le_of_ble_eq_true rfl) ⟨by decide, by decide⟩ ?_
    rintro r1 L1 ad1 τ2 ⟨g1, g2, g3, g4⟩; obtain rfl := g1.symm; obtain rfl := g2.symm; subst g4
    have hI := hI.dark s0 (0) (S5 0 0 11)
    rw [← g3] at hI
    clear g3
    obtain ⟨τ, rfl⟩ : ∃ z, z = τ2 := ⟨_, rfl⟩
    obtain ⟨S6, e_S6⟩ : ∃ z, z = darkS S5 s0 (0) (S5 0 0 11) := ⟨_, rfl⟩
    rw [← e_S6] at hI
    have hV : IV S6 := by rw [e_S6]; exact hV.darkS (by have := hlu; omega) (by omega)
    have hc := hV.c
    have hF : JF S6 L := fun g j q1 q2 => by rw [e_S6]; exact (LC_eq (darkS_g (by decide)) (darkS_g (by decide)) (darkS_g (by decide)) g j).mpr (hF g j q1 q2)
    exact ph_vret (pc := 83) C d_J_becomeDark_83 hr hlk (by omega) (by omega) ⟨(by rw [bdS, ← e_S2, dkB_f (by assumption), dkN, ← e_S5, ← e_S6]; exact hI), (by rw [bdS, ← e_S2, dkB_f (by assumption), dkN, ← e_S5, ← e_S6]; exact hF), rfl⟩
  · have hl2 : LC S2 2 (lu S2 s0) := by have := c32.1; simp only [LC]; omega
    refine ph_aload_n (pc := 35) C d_J_becomeDark_35 rfl ?_
    refine gt_J_21 (pc := 36) C d_J_becomeDark_36 (hI.live (g := 0) (i := 0) rfl) hI.ob hI.r2 ?_
    refine ph_iload_n (pc := 39) C d_J_becomeDark_39 rfl ?_
    refine ph_aald (pc := 40) (t := 1) C d_J_becomeDark_40 (hI.live (g := 5) (i := 0) rfl) rfl rfl rfl (lu S2 s0) rfl (by have := hl2; simp only [LC] at this; omega) (by decide) (ph_vr (hI.e5 hl2)) ?_
    refine ph_iload_n (pc := 41) C d_J_becomeDark_41 rfl ?_
    refine ph_callV (pc := 42) (rest := []) C d_J_becomeDark_42 (c_I_beSeenBy l D dT A KX L ad τ (lu S2 s0) (ad 2 (lu S2 s0)) (hI.live hl2) rfl (S2 2 (lu S2 s0) 6).toNat s0 (by rw [hI.dat hl2 rfl]; have := hV.i hl2; omega) (by have := hV.i hl2; omega) (by have := hs; simp only [LC] at this; omega)) (cwV 1 C.hts (gdV tw_251 tw_252 tw_253 tw_4 tw_254) rfl rfl rfl ⟨rfl, by decide, by decide, by decide⟩ ⟨by decide, by decide⟩) (hI.live hl2) rfl rfl rfl rfl rfl rfl (Nat.le_of_ble_eq_true rfl) ⟨by decide, by decide⟩ ?_
    rintro r1 L1 ad1 τ2 ⟨g1, g2, g3, g4⟩; obtain rfl := g1.symm; obtain rfl := g2.symm; subst g4
    have hI := hI.see (lu S2 s0) s0
    rw [← g3] at hI
    clear g3
    obtain ⟨τ, rfl⟩ : ∃ z, z = τ2 := ⟨_, rfl⟩
    obtain ⟨S3, e_S3⟩ : ∃ z, z = seeS S2 (lu S2 s0) s0 := ⟨_, rfl⟩
    rw [← e_S3] at hI
    have hV : IV S3 := by rw [e_S3]; exact hV.seeS hl2 (by have := hs; simp only [LC] at this; omega)
    have hc := hV.c
    have hF : JF S3 L := fun g j q1 q2 => by rw [e_S3]; exact (LC_eq (seeS_g (by decide)) (seeS_g (by decide)) (seeS_g (by decide)) g j).mpr (hF g j q1 q2)
    have hs : LC S3 1 s0 := by rw [e_S3]; exact (LC_eq (seeS_g (by decide)) (seeS_g (by decide)) (seeS_g (by decide)) 1 s0).mpr hs
    have hlu : 0 ≤ ((lu S2 s0 : Nat) : Int) ∧ ((lu S2 s0 : Nat) : Int) ≤ S3 0 0 3 := by rw [e_S3, seeS_g (by decide)]; omega
    refine ph_aload_n (pc := 45) C d_J_becomeDark_45 rfl ?_
    refine gt_J_11 (pc := 46) C d_J_becomeDark_46 (hI.live (g := 0) (i := 0) rfl) hI.ob hI.r0 ?_
    refine ph_iload_n (pc := 49) C d_J_becomeDark_49 rfl ?_
    refine ph_aald (pc := 50) (t := 0) C d_J_becomeDark_50 (hI.live (g := 4) (i := 0) rfl) rfl rfl rfl s0 rfl (by have := hs; simp only [LC] at this; omega) (by decide) (ph_vr (hI.e4 hs)) ?_
    refine ph_iload_n (pc := 51) C d_J_becomeDark_51 rfl ?_
    refine ph_aload_n (pc := 52) C d_J_becomeDark_52 rfl ?_
    refine gt_J_54 (pc := 53) C d_J_becomeDark_53 (hI.live (g := 0) (i := 0) rfl) hI.ob (z := S3 0 0 11) (hI.dat rfl rfl) ?_
    refine ph_callV (pc := 56) (rest := []) C d_J_becomeDark_56 (c_S_darken l D dT A KX L ad τ s0 (ad 1 s0) (hI.live hs) rfl (((lu S2 s0 : Nat) : Int)) (S3 0 0 11)) (cwV 2 C.hts (gdV tw_255 tw_256 tw_257 tw_3 tw_258) rfl rfl rfl ⟨rfl, by decide, by decide, by decide⟩ ⟨by decide, by decide⟩) (hI.live hs) rfl rfl rfl rfl rfl rfl (Nat.le_of_ble_eq_true rfl) ⟨by decide, by decide⟩ ?_
    rintro r1 L1 ad1 τ2 ⟨g1, g2, g3, g4⟩; obtain rfl := g1.symm; obtain rfl := g2.symm; subst g4
    have hI := hI.dark s0 (((lu S2 s0 : Nat) : Int)) (S3 0 0 11)
    rw [← g3] at hI
    clear g3
    obtain ⟨τ, rfl⟩ : ∃ z, z = τ2 := ⟨_, rfl⟩
    obtain ⟨S4, e_S4⟩ : ∃ z, z = darkS S3 s0 (((lu S2 s0 : Nat) : Int)) (S3 0 0 11) := ⟨_, rfl⟩
    rw [← e_S4] at hI
    have hV : IV S4 := by rw [e_S4]; exact hV.darkS (by have := hlu; omega) (by omega)
    have hc := hV.c
    have hF : JF S4 L := fun g j q1 q2 => by rw [e_S4]; exact (LC_eq (darkS_g (by decide)) (darkS_g (by decide)) (darkS_g (by decide)) g j).mpr (hF g j q1 q2)
    refine ph_goto (pc := 59) (tgt := 83) C d_J_becomeDark_59 (by decide) ?_
    exact ph_vret (pc := 83) C d_J_becomeDark_83 hr hlk (by omega) (by omega) ⟨(by rw [bdS, ← e_S2, dkB_t (by assumption), dkT, ← e_S3, ← e_S4]; exact hI), (by rw [bdS, ← e_S2, dkB_t (by assumption), dkT, ← e_S3, ← e_S4]; exact hF), rfl⟩
set_option maxHeartbeats 4000000 in
set_option maxRecDepth 100000 in
theorem c_J_judgeLength (l : Launch) (D : va_G) (dT : Nat → ClassId) (A : Nat → Prop) (KX : State → Prop) (L : Nat → Nat → Prop) (ad : Nat → Nat → Nat) (τ : ph_T) (S : ph_T) (o : Nat) (hI : JR S o L ad τ) (hV : IV S) (hF : JF S L) (s0 i : Nat) (hs : LC S 1 s0) (hi : LC S 2 i) : ph_M l y_J_judgeLength (.code y_J_judgeLength b_J_judgeLength 7 none :: TB) ({ frames := 4, cells := 1, slots := 7, locals := 92 } : Room) D CLs (TY dT) dT kd A KX [.ref (o), .int (ph_i ((s0 : Int))), .int (ph_i ((i : Int)))] L ad τ (fun r L' ad' τ' => JR (judgeS S s0 i) o L' ad' τ' ∧ JF (judgeS S s0 i) L' ∧ r = none) 1 7 := by
  refine ph_M.of (cc := b_J_judgeLength) (maxL := 7) (ret := none) (by decide) rfl (Nat.le_of_ble_eq_true rfl) ?_
  intro p e s m below meth c C0 hr hlk hnm
  have C := C0.sub
  refine ph_loc (l2 := [(0, .ref (o)), (1, .int (ph_i ((s0 : Int)))), (2, .int (ph_i ((i : Int))))]) ⟨rfl, rfl, rfl, trivial⟩ ?_
  have hc := hV.c
  have hs9 := hV.s hs
  have hi9 := hV.i hi
  refine ph_aload_n (pc := 0) C d_J_judgeLength_0 rfl ?_
  refine gt_J_54 (pc := 1) C d_J_judgeLength_1 (hI.live (g := 0) (i := 0) rfl) hI.ob (z := S 0 0 11) (hI.dat rfl rfl) ?_
  refine ph_aload_n (pc := 4) C d_J_judgeLength_4 rfl ?_
  refine gt_J_11 (pc := 5) C d_J_judgeLength_5 (hI.live (g := 0) (i := 0) rfl) hI.ob hI.r0 ?_
  refine ph_iload_n (pc := 8) C d_J_judgeLength_8 rfl ?_
  refine ph_aald (pc := 9) (t := 0) C d_J_judgeLength_9 (hI.live (g := 4) (i := 0) rfl) rfl rfl rfl s0 rfl (by have := hs; simp only [LC] at this; omega) (by decide) (ph_vr (hI.e4 hs)) ?_
  refine gt_J_185 (pc := 10) C d_J_judgeLength_10 (hI.live hs) rfl (z := S 1 s0 4) (hI.dat hs rfl) ?_
  refine ph_lsub (pc := 13) C d_J_judgeLength_13 ?_
  refine ph_aload_n (pc := 14) C d_J_judgeLength_14 rfl ?_
  refine gt_J_21 (pc := 15) C d_J_judgeLength_15 (hI.live (g := 0) (i := 0) rfl) hI.ob hI.r2 ?_
  refine ph_iload_n (pc := 18) C d_J_judgeLength_18 rfl ?_
  refine ph_aald (pc := 19) (t := 1) C d_J_judgeLength_19 (hI.live (g := 5) (i := 0) rfl) rfl rfl rfl i rfl (by have := hi; simp only [LC] at this; omega) (by decide) (ph_vr (hI.e5 hi)) ?_
  refine gt_J_177 (pc := 20) C d_J_judgeLength_20 (hI.live hi) rfl (z := S 2 i 0) (hI.dat hi rfl) ?_
  refine ph_lsub (pc := 23) C d_J_judgeLength_23 ?_
  refine ph_lstore_n (pc := 24) C d_J_judgeLength_24 (by decide) rfl ?_
  refine ph_lload_n (pc := 25) C d_J_judgeLength_25 rfl ?_
  refine ph_ldc2 (pc := 26) C d_J_judgeLength_26 (15) (by decide) tw_238 ?_
  refine ph_l_le (pc := 29) (tgt := 84) C d_J_judgeLength_29 d_J_judgeLength_30 (by decide) (by omega) (by omega) (fun c29 => ?_) (fun c29 => ?_)
  · refine ph_lload_n (pc := 84) C d_J_judgeLength_84 rfl ?_
    refine ph_ldc2 (pc := 85) C d_J_judgeLength_85 (-15) (by decide) tw_267 ?_
    refine ph_l_ge (pc := 88) (tgt := 99) C d_J_judgeLength_88 d_J_judgeLength_89 (by decide) (by omega) (by omega) (fun c88 => ?_) (fun c88 => ?_)
    · exact ph_vret (pc := 99) C d_J_judgeLength_99 hr hlk (by omega) (by omega) ⟨(by rw [judgeS, if_neg (by unfold longer; omega), if_neg (by unfold longer; omega)]; exact hI), (by rw [judgeS, if_neg (by unfold longer; omega), if_neg (by unfold longer; omega)]; exact hF), rfl⟩
    · refine ph_aload_n (pc := 92) C d_J_judgeLength_92 rfl ?_
      refine ph_iconst (pc := 93) C d_J_judgeLength_93 ?_
      refine ph_iload_n (pc := 94) C d_J_judgeLength_94 rfl ?_
      have hVo := hV
      refine ph_callV (pc := 95) (rest := []) C d_J_judgeLength_95 (c_J_tell l D dT A KX L ad τ S o hI hV hF 4 (by omega) s0 hs) (cwV 2 C.hts (gdV tw_168 tw_170 se_6 tw_1 tw_171) rfl rfl rfl ⟨rfl, by decide, by decide, by decide⟩ ⟨by decide, by decide⟩) (hI.live (g := 0) (i := 0) rfl) hI.ob rfl rfl rfl rfl rfl (Nat.le_of_ble_eq_true rfl) ⟨by decide, by decide⟩ ?_
      rintro r1 L ad τ ⟨hI, hF, g4⟩; subst g4
      change JR (tellS S 4 (s0 : Int) ((dbm S s0 : Nat) : Int)) o L ad τ at hI; change JF (tellS S 4 (s0 : Int) ((dbm S s0 : Nat) : Int)) L at hF
      obtain ⟨S5, e_S5⟩ : ∃ z, z = tellS S 4 (s0 : Int) ((dbm S s0 : Nat) : Int) := ⟨_, rfl⟩
      rw [← e_S5] at hI hF
      have hV : IV S5 := by rw [e_S5]; exact hV.tellS (by omega) (by have := hs; simp only [LC] at this; omega) (by have := dbm_lt hV s0; omega)
      have hc := hV.c
      have htv := tellv_r hVo
      have hs : LC S5 1 s0 := by rw [e_S5]; exact (tellS_L (by decide)).mpr hs
      refine ph_pop (pc := 98) C d_J_judgeLength_98 rfl ?_
      exact ph_vret (pc := 99) C d_J_judgeLength_99 hr hlk (by omega) (by omega) ⟨(by rw [judgeS, if_neg (by unfold longer; omega), if_pos (by unfold longer; omega), ← e_S5]; exact hI), (by rw [judgeS, if_neg (by unfold longer; omega), if_pos (by unfold longer; omega), ← e_S5]; exact hF), rfl⟩
  · refine ph_aload_n (pc := 33) C d_J_judgeLength_33 rfl ?_
    refine ph_iconst (pc := 34) C d_J_judgeLength_34 ?_
    refine ph_iload_n (pc := 35) C d_J_judgeLength_35 rfl ?_
    have hVo := hV
    refine ph_callV (pc := 36) (rest := []) C d_J_judgeLength_36 (c_J_tell l D dT A KX L ad τ S o hI hV hF 3 (by omega) s0 hs) (cwV 2 C.hts (gdV tw_168 tw_170 se_6 tw_1 tw_171) rfl rfl rfl ⟨rfl, by decide, by decide, by decide⟩ ⟨by decide, by decide⟩) (hI.live (g := 0) (i := 0) rfl) hI.ob rfl rfl rfl rfl rfl (Nat.le_of_ble_eq_true rfl) ⟨by decide, by decide⟩ ?_
    rintro r1 L ad τ ⟨hI, hF, g4⟩; subst g4
    change JR (tellS S 3 (s0 : Int) ((dbm S s0 : Nat) : Int)) o L ad τ at hI; change JF (tellS S 3 (s0 : Int) ((dbm S s0 : Nat) : Int)) L at hF
    obtain ⟨S2, e_S2⟩ : ∃ z, z = tellS S 3 (s0 : Int) ((dbm S s0 : Nat) : Int) := ⟨_, rfl⟩
    rw [← e_S2] at hI hF
    have hV : IV S2 := by rw [e_S2]; exact hV.tellS (by omega) (by have := hs; simp only [LC] at this; omega) (by have := dbm_lt hV s0; omega)
    have hc := hV.c
    have htv := tellv_r hVo
    have hs : LC S2 1 s0 := by rw [e_S2]; exact (tellS_L (by decide)).mpr hs
    have hi : LC S2 2 i := by rw [e_S2]; exact (tellS_L (by decide)).mpr hi
    refine ph_istore (pc := 39) C d_J_judgeLength_39 (by decide) rfl ?_
    refine ph_aload_n (pc := 41) C d_J_judgeLength_41 rfl ?_
    refine gt_J_21 (pc := 42) C d_J_judgeLength_42 (hI.live (g := 0) (i := 0) rfl) hI.ob hI.r2 ?_
    refine ph_iload_n (pc := 45) C d_J_judgeLength_45 rfl ?_
    refine ph_aald (pc := 46) (t := 1) C d_J_judgeLength_46 (hI.live (g := 5) (i := 0) rfl) rfl rfl rfl i rfl (by have := hi; simp only [LC] at this; omega) (by decide) (ph_vr (hI.e5 hi)) ?_
    refine ph_iload (pc := 47) C d_J_judgeLength_47 rfl ?_
    refine ph_callV (pc := 49) (rest := []) C d_J_judgeLength_49 (c_I_takeOffBelt l D dT A KX L ad τ i (ad 2 i) (hI.live hi) rfl (S2 2 i 5) (hI.dat hi rfl) (by have := hV.i hi; omega) (tellv S)) (cwV 1 C.hts (gdV tw_239 tw_240 tw_241 tw_4 tw_242) rfl rfl rfl ⟨rfl, by decide, by decide, by decide⟩ ⟨by decide, by decide⟩) (hI.live hi) rfl rfl rfl rfl rfl rfl (Nat.le_of_ble_eq_true rfl) ⟨by decide, by decide⟩ ?_
    rintro r1 L1 ad1 τ2 ⟨g1, g2, g3, g4⟩; obtain rfl := g1.symm; obtain rfl := g2.symm; subst g4
    have hI := hI.take i (tellv S)
    rw [← g3] at hI
    clear g3
    obtain ⟨τ, rfl⟩ : ∃ z, z = τ2 := ⟨_, rfl⟩
    obtain ⟨S3, e_S3⟩ : ∃ z, z = takeS S2 i (tellv S) := ⟨_, rfl⟩
    rw [← e_S3] at hI
    have hV : IV S3 := by rw [e_S3]; exact hV.takeS htv
    have hc := hV.c
    have hF : JF S3 L := fun g j q1 q2 => by rw [e_S3]; exact (LC_eq (takeS_g (by decide)) (takeS_g (by decide)) (takeS_g (by decide)) g j).mpr (hF g j q1 q2)
    have hs : LC S3 1 s0 := by rw [e_S3]; exact (LC_eq (takeS_g (by decide)) (takeS_g (by decide)) (takeS_g (by decide)) 1 s0).mpr hs
    have hlu := lu_le hV s0
    refine ph_aload_n (pc := 52) C d_J_judgeLength_52 rfl ?_
    refine ph_iload_n (pc := 53) C d_J_judgeLength_53 rfl ?_
    refine ph_callV (pc := 54) (rest := []) C d_J_judgeLength_54 (c_J_leastUnseen l D dT A KX L ad τ S3 o hI hV s0 hs) (cwV 1 C.hts (gdV tw_243 tw_245 se_13 tw_1 tw_246) rfl rfl rfl ⟨rfl, by decide, by decide, by decide⟩ ⟨by decide, by decide⟩) (hI.live (g := 0) (i := 0) rfl) hI.ob rfl rfl rfl rfl rfl (Nat.le_of_ble_eq_true rfl) ⟨by decide, by decide⟩ ?_
    rintro r1 L1 ad1 τ1 ⟨g1, g2, g3, g4⟩; obtain rfl := g1.symm; obtain rfl := g2.symm; obtain rfl := g3.symm; subst g4
    refine ph_istore (pc := 57) C d_J_judgeLength_57 (by decide) rfl ?_
    refine ph_aload_n (pc := 59) C d_J_judgeLength_59 rfl ?_
    refine ph_iload (pc := 60) C d_J_judgeLength_60 rfl ?_
    refine ph_iload_n (pc := 62) C d_J_judgeLength_62 rfl ?_
    refine ph_callV (pc := 63) (rest := []) C d_J_judgeLength_63 (c_J_isComing l D dT A KX L ad τ S3 o hI hV ((lu S3 s0 : Nat) : Int) (by omega) s0 hs) (cwV 2 C.hts (gdV tw_247 tw_249 se_14 tw_1 tw_250) rfl rfl rfl ⟨rfl, by decide, by decide, by decide⟩ ⟨by decide, by decide⟩) (hI.live (g := 0) (i := 0) rfl) hI.ob rfl rfl rfl rfl rfl (Nat.le_of_ble_eq_true rfl) ⟨by decide, by decide⟩ ?_
    rintro r1 L1 ad1 τ1 ⟨g1, g2, g3, g4⟩; obtain rfl := g1.symm; obtain rfl := g2.symm; obtain rfl := g3.symm; subst g4
    refine ph_bif_eq (pc := 66) (tgt := 81) C d_J_judgeLength_66 (by decide) (fun c66 => ?_) (fun c66 => ?_)
    · refine ph_goto (pc := 81) (tgt := 99) C d_J_judgeLength_81 (by decide) ?_
      exact ph_vret (pc := 99) C d_J_judgeLength_99 hr hlk (by omega) (by omega) ⟨(by rw [judgeS, if_pos (by unfold longer; omega), jlA, ← e_S2, ← e_S3, jlB_f (by assumption)]; exact hI), (by rw [judgeS, if_pos (by unfold longer; omega), jlA, ← e_S2, ← e_S3, jlB_f (by assumption)]; exact hF), rfl⟩
    · have hl3 : LC S3 2 (lu S3 s0) := by have := c66.1; simp only [LC]; omega
      refine ph_aload_n (pc := 69) C d_J_judgeLength_69 rfl ?_
      refine gt_J_21 (pc := 70) C d_J_judgeLength_70 (hI.live (g := 0) (i := 0) rfl) hI.ob hI.r2 ?_
      refine ph_iload (pc := 73) C d_J_judgeLength_73 rfl ?_
      refine ph_aald (pc := 75) (t := 1) C d_J_judgeLength_75 (hI.live (g := 5) (i := 0) rfl) rfl rfl rfl (lu S3 s0) rfl (by have := hl3; simp only [LC] at this; omega) (by decide) (ph_vr (hI.e5 hl3)) ?_
      refine ph_iload (pc := 76) C d_J_judgeLength_76 rfl ?_
      refine ph_callV (pc := 78) (rest := []) C d_J_judgeLength_78 (c_I_takeOffBelt l D dT A KX L ad τ (lu S3 s0) (ad 2 (lu S3 s0)) (hI.live hl3) rfl (S3 2 (lu S3 s0) 5) (hI.dat hl3 rfl) (by have := hV.i hl3; omega) (tellv S)) (cwV 1 C.hts (gdV tw_239 tw_240 tw_241 tw_4 tw_242) rfl rfl rfl ⟨rfl, by decide, by decide, by decide⟩ ⟨by decide, by decide⟩) (hI.live hl3) rfl rfl rfl rfl rfl rfl (Nat.le_of_ble_eq_true rfl) ⟨by decide, by decide⟩ ?_
      rintro r1 L1 ad1 τ2 ⟨g1, g2, g3, g4⟩; obtain rfl := g1.symm; obtain rfl := g2.symm; subst g4
      have hI := hI.take (lu S3 s0) (tellv S)
      rw [← g3] at hI
      clear g3
      obtain ⟨τ, rfl⟩ : ∃ z, z = τ2 := ⟨_, rfl⟩
      obtain ⟨S4, e_S4⟩ : ∃ z, z = takeS S3 (lu S3 s0) (tellv S) := ⟨_, rfl⟩
      rw [← e_S4] at hI
      have hV : IV S4 := by rw [e_S4]; exact hV.takeS htv
      have hc := hV.c
      have hF : JF S4 L := fun g j q1 q2 => by rw [e_S4]; exact (LC_eq (takeS_g (by decide)) (takeS_g (by decide)) (takeS_g (by decide)) g j).mpr (hF g j q1 q2)
      refine ph_goto (pc := 81) (tgt := 99) C d_J_judgeLength_81 (by decide) ?_
      exact ph_vret (pc := 99) C d_J_judgeLength_99 hr hlk (by omega) (by omega) ⟨(by rw [judgeS, if_pos (by unfold longer; omega), jlA, ← e_S2, ← e_S3, jlB_t (by assumption), ← e_S4]; exact hI), (by rw [judgeS, if_pos (by unfold longer; omega), jlA, ← e_S2, ← e_S3, jlB_t (by assumption), ← e_S4]; exact hF), rfl⟩
set_option maxHeartbeats 4000000 in
set_option maxRecDepth 100000 in
theorem c_J_becomeLight (l : Launch) (D : va_G) (dT : Nat → ClassId) (A : Nat → Prop) (KX : State → Prop) (L : Nat → Nat → Prop) (ad : Nat → Nat → Nat) (τ : ph_T) (S : ph_T) (o : Nat) (hI : JR S o L ad τ) (hV : IV S) (hF : JF S L) (s0 : Nat) (hs : LC S 1 s0) : ph_M l y_J_becomeLight (.code y_J_becomeLight b_J_becomeLight 3 none :: TB) ({ frames := 5, cells := 1, slots := 7, locals := 118 } : Room) D CLs (TY dT) dT kd A KX [.ref (o), .int (ph_i ((s0 : Int)))] L ad τ (fun r L' ad' τ' => JR (blS S s0) o L' ad' τ' ∧ JF (blS S s0) L' ∧ r = none) 1 7 := by
  refine ph_M.of (cc := b_J_becomeLight) (maxL := 3) (ret := none) (by decide) rfl (Nat.le_of_ble_eq_true rfl) ?_
  intro p e s m below meth c C0 hr hlk hnm
  have C := C0.sub
  refine ph_loc (l2 := [(0, .ref (o)), (1, .int (ph_i ((s0 : Int))))]) ⟨rfl, rfl, trivial⟩ ?_
  have hc := hV.c
  have hs9 := hV.s hs
  have hs7 := id hs
  simp only [LC] at hs7
  refine ph_aload_n (pc := 0) C d_J_becomeLight_0 rfl ?_
  refine gt_J_11 (pc := 1) C d_J_becomeLight_1 (hI.live (g := 0) (i := 0) rfl) hI.ob hI.r0 ?_
  refine ph_iload_n (pc := 4) C d_J_becomeLight_4 rfl ?_
  refine ph_aald (pc := 5) (t := 0) C d_J_becomeLight_5 (hI.live (g := 4) (i := 0) rfl) rfl rfl rfl s0 rfl (by have := hs; simp only [LC] at this; omega) (by decide) (ph_vr (hI.e4 hs)) ?_
  refine gt_J_194 (pc := 6) C d_J_becomeLight_6 (hI.live hs) rfl (z := S 1 s0 3) (hI.dat hs rfl) ?_
  refine ph_istore_n (pc := 9) C d_J_becomeLight_9 (by decide) rfl ?_
  refine ph_aload_n (pc := 10) C d_J_becomeLight_10 rfl ?_
  refine ph_iload_n (pc := 11) C d_J_becomeLight_11 rfl ?_
  refine ph_callV (pc := 12) (rest := []) C d_J_becomeLight_12 (c_J_isItem l D dT A KX L ad τ S o hI hV (S 1 s0 3) (by omega)) (cwV 1 C.hts (gdV tw_164 tw_166 se_5 tw_1 tw_167) rfl rfl rfl ⟨rfl, by decide, by decide, by decide⟩ ⟨by decide, by decide⟩) (hI.live (g := 0) (i := 0) rfl) hI.ob rfl rfl rfl rfl rfl (Nat.le_of_ble_eq_true rfl) ⟨by decide, by decide⟩ ?_
  rintro r1 L1 ad1 τ1 ⟨g1, g2, g3, g4⟩; obtain rfl := g1.symm; obtain rfl := g2.symm; obtain rfl := g3.symm; subst g4
  refine ph_bif_eq (pc := 15) (tgt := 43) C d_J_becomeLight_15 (by decide) (fun c15 => ?_) (fun c15 => ?_)
  · refine ph_aload_n (pc := 43) C d_J_becomeLight_43 rfl ?_
    refine gt_J_11 (pc := 44) C d_J_becomeLight_44 (hI.live (g := 0) (i := 0) rfl) hI.ob hI.r0 ?_
    refine ph_iload_n (pc := 47) C d_J_becomeLight_47 rfl ?_
    refine ph_aald (pc := 48) (t := 0) C d_J_becomeLight_48 (hI.live (g := 4) (i := 0) rfl) rfl rfl rfl s0 rfl (by have := hs; simp only [LC] at this; omega) (by decide) (ph_vr (hI.e4 hs)) ?_
    refine ph_callV (pc := 49) (rest := []) C d_J_becomeLight_49 (c_S_lighten l D dT A KX L ad τ s0 (ad 1 s0) (hI.live hs) rfl) (cwV 0 C.hts (gdV tw_272 tw_273 tw_274 tw_3 tw_275) rfl rfl rfl ⟨rfl, by decide, by decide, by decide⟩ ⟨by decide, by decide⟩) (hI.live hs) rfl rfl rfl rfl rfl rfl (Nat.le_of_ble_eq_true rfl) ⟨by decide, by decide⟩ ?_
    rintro r1 L1 ad1 τ2 ⟨g1, g2, g3, g4⟩; obtain rfl := g1.symm; obtain rfl := g2.symm; subst g4
    have hI := hI.light s0
    rw [← g3] at hI
    clear g3
    obtain ⟨τ, rfl⟩ : ∃ z, z = τ2 := ⟨_, rfl⟩
    obtain ⟨S6, e_S6⟩ : ∃ z, z = lightS S s0 := ⟨_, rfl⟩
    rw [← e_S6] at hI
    have hV : IV S6 := by rw [e_S6]; exact hV.lightS
    have hc := hV.c
    have hF : JF S6 L := fun g j q1 q2 => by rw [e_S6]; exact (LC_eq (lightS_g (by decide)) (lightS_g (by decide)) (lightS_g (by decide)) g j).mpr (hF g j q1 q2)
    exact ph_vret (pc := 52) C d_J_becomeLight_52 hr hlk (by omega) (by omega) ⟨(by rw [blS, blA, if_neg (by assumption), ← e_S6]; exact hI), (by rw [blS, blA, if_neg (by assumption), ← e_S6]; exact hF), rfl⟩
  · refine ph_aload_n (pc := 18) C d_J_becomeLight_18 rfl ?_
    refine ph_iload_n (pc := 19) C d_J_becomeLight_19 rfl ?_
    refine ph_iload_n (pc := 20) C d_J_becomeLight_20 rfl ?_
    have hi : LC S 2 (S 1 s0 3).toNat := by simp only [LC]; omega
    refine ph_ti (y := (((S 1 s0 3).toNat : Nat) : Int)) (by omega) ?_
    refine ph_callV (pc := 21) (rest := []) C d_J_becomeLight_21 (c_J_judgeLength l D dT A KX L ad τ S o hI hV hF s0 (S 1 s0 3).toNat hs hi) (cwV 2 C.hts (gdV tw_263 tw_265 se_16 tw_1 tw_266) rfl rfl rfl ⟨rfl, by decide, by decide, by decide⟩ ⟨by decide, by decide⟩) (hI.live (g := 0) (i := 0) rfl) hI.ob rfl rfl rfl rfl rfl (Nat.le_of_ble_eq_true rfl) ⟨by decide, by decide⟩ ?_
    rintro r1 L ad τ ⟨hI, hF, g4⟩; subst g4
    change JR (judgeS S s0 (S 1 s0 3).toNat) o L ad τ at hI; change JF (judgeS S s0 (S 1 s0 3).toNat) L at hF
    obtain ⟨S2, e_S2⟩ : ∃ z, z = judgeS S s0 (S 1 s0 3).toNat := ⟨_, rfl⟩
    rw [← e_S2] at hI hF
    have hV : IV S2 := by rw [e_S2]; exact hV.judgeS hs
    have hc := hV.c
    have e1 : S2 0 0 1 = S 0 0 1 := by rw [e_S2]; exact judgeS_0 (by decide)
    have e3 : S2 0 0 3 = S 0 0 3 := by rw [e_S2]; exact judgeS_0 (by decide)
    have hs : LC S2 1 s0 := LC1 e1 hs
    have hi : LC S2 2 (S 1 s0 3).toNat := by simp only [LC]; omega
    refine ph_iload_n (pc := 24) C d_J_becomeLight_24 rfl ?_
    refine ph_aload_n (pc := 25) C d_J_becomeLight_25 rfl ?_
    refine gt_J_15 (pc := 26) C d_J_becomeLight_26 (hI.live (g := 0) (i := 0) rfl) hI.ob (z := S2 0 0 1) (hI.dat rfl rfl) ?_
    refine ph_iconst (pc := 29) C d_J_becomeLight_29 ?_
    refine ph_isub (pc := 30) C d_J_becomeLight_30 ?_
    refine ph_icmp_ne (pc := 31) (tgt := 43) C d_J_becomeLight_31 (by decide) (by omega) (by omega) (fun c31 => ?_) (fun c31 => ?_)
    · refine ph_aload_n (pc := 43) C d_J_becomeLight_43 rfl ?_
      refine gt_J_11 (pc := 44) C d_J_becomeLight_44 (hI.live (g := 0) (i := 0) rfl) hI.ob hI.r0 ?_
      refine ph_iload_n (pc := 47) C d_J_becomeLight_47 rfl ?_
      refine ph_aald (pc := 48) (t := 0) C d_J_becomeLight_48 (hI.live (g := 4) (i := 0) rfl) rfl rfl rfl s0 rfl (by have := hs; simp only [LC] at this; omega) (by decide) (ph_vr (hI.e4 hs)) ?_
      refine ph_callV (pc := 49) (rest := []) C d_J_becomeLight_49 (c_S_lighten l D dT A KX L ad τ s0 (ad 1 s0) (hI.live hs) rfl) (cwV 0 C.hts (gdV tw_272 tw_273 tw_274 tw_3 tw_275) rfl rfl rfl ⟨rfl, by decide, by decide, by decide⟩ ⟨by decide, by decide⟩) (hI.live hs) rfl rfl rfl rfl rfl rfl (Nat.le_of_ble_eq_true rfl) ⟨by decide, by decide⟩ ?_
      rintro r1 L1 ad1 τ2 ⟨g1, g2, g3, g4⟩; obtain rfl := g1.symm; obtain rfl := g2.symm; subst g4
      have hI := hI.light s0
      rw [← g3] at hI
      clear g3
      obtain ⟨τ, rfl⟩ : ∃ z, z = τ2 := ⟨_, rfl⟩
      obtain ⟨S5, e_S5⟩ : ∃ z, z = lightS S2 s0 := ⟨_, rfl⟩
      rw [← e_S5] at hI
      have hV : IV S5 := by rw [e_S5]; exact hV.lightS
      have hc := hV.c
      have hF : JF S5 L := fun g j q1 q2 => by rw [e_S5]; exact (LC_eq (lightS_g (by decide)) (lightS_g (by decide)) (lightS_g (by decide)) g j).mpr (hF g j q1 q2)
      exact ph_vret (pc := 52) C d_J_becomeLight_52 hr hlk (by omega) (by omega) ⟨(by rw [blS, blA, if_pos (by assumption), ← e_S2, blB, if_neg (by omega), ← e_S5]; exact hI), (by rw [blS, blA, if_pos (by assumption), ← e_S2, blB, if_neg (by omega), ← e_S5]; exact hF), rfl⟩
    · refine ph_aload_n (pc := 34) C d_J_becomeLight_34 rfl ?_
      refine gt_J_21 (pc := 35) C d_J_becomeLight_35 (hI.live (g := 0) (i := 0) rfl) hI.ob hI.r2 ?_
      refine ph_iload_n (pc := 38) C d_J_becomeLight_38 rfl ?_
      refine ph_aald (pc := 39) (t := 1) C d_J_becomeLight_39 (hI.live (g := 5) (i := 0) rfl) rfl rfl rfl (S 1 s0 3).toNat (by omega) (by have := hi; simp only [LC] at this; omega) (by decide) (ph_vr (hI.e5 hi)) ?_
      refine ph_callV (pc := 40) (rest := []) C d_J_becomeLight_40 (c_I_leaveBelt l D dT A KX L ad τ (S 1 s0 3).toNat (ad 2 (S 1 s0 3).toNat) (hI.live hi) rfl (S2 2 (S 1 s0 3).toNat 5) (hI.dat hi rfl) (by have := hV.i hi; omega)) (cwV 0 C.hts (gdV tw_268 tw_269 tw_270 tw_4 tw_271) rfl rfl rfl ⟨rfl, by decide, by decide, by decide⟩ ⟨by decide, by decide⟩) (hI.live hi) rfl rfl rfl rfl rfl rfl (Nat.le_of_ble_eq_true rfl) ⟨by decide, by decide⟩ ?_
      rintro r1 L1 ad1 τ2 ⟨g1, g2, g3, g4⟩; obtain rfl := g1.symm; obtain rfl := g2.symm; subst g4
      have hI := hI.leave (S 1 s0 3).toNat
      rw [← g3] at hI
      clear g3
      obtain ⟨τ, rfl⟩ : ∃ z, z = τ2 := ⟨_, rfl⟩
      obtain ⟨S3, e_S3⟩ : ∃ z, z = leaveS S2 (S 1 s0 3).toNat := ⟨_, rfl⟩
      rw [← e_S3] at hI
      have hV : IV S3 := by rw [e_S3]; exact hV.leaveS
      have hc := hV.c
      have hF : JF S3 L := fun g j q1 q2 => by rw [e_S3]; exact (LC_eq (leaveS_g (by decide)) (leaveS_g (by decide)) (leaveS_g (by decide)) g j).mpr (hF g j q1 q2)
      have hs : LC S3 1 s0 := by rw [e_S3]; exact (LC_eq (leaveS_g (by decide)) (leaveS_g (by decide)) (leaveS_g (by decide)) 1 s0).mpr hs
      refine ph_aload_n (pc := 43) C d_J_becomeLight_43 rfl ?_
      refine gt_J_11 (pc := 44) C d_J_becomeLight_44 (hI.live (g := 0) (i := 0) rfl) hI.ob hI.r0 ?_
      refine ph_iload_n (pc := 47) C d_J_becomeLight_47 rfl ?_
      refine ph_aald (pc := 48) (t := 0) C d_J_becomeLight_48 (hI.live (g := 4) (i := 0) rfl) rfl rfl rfl s0 rfl (by have := hs; simp only [LC] at this; omega) (by decide) (ph_vr (hI.e4 hs)) ?_
      refine ph_callV (pc := 49) (rest := []) C d_J_becomeLight_49 (c_S_lighten l D dT A KX L ad τ s0 (ad 1 s0) (hI.live hs) rfl) (cwV 0 C.hts (gdV tw_272 tw_273 tw_274 tw_3 tw_275) rfl rfl rfl ⟨rfl, by decide, by decide, by decide⟩ ⟨by decide, by decide⟩) (hI.live hs) rfl rfl rfl rfl rfl rfl (Nat.le_of_ble_eq_true rfl) ⟨by decide, by decide⟩ ?_
      rintro r1 L1 ad1 τ2 ⟨g1, g2, g3, g4⟩; obtain rfl := g1.symm; obtain rfl := g2.symm; subst g4
      have hI := hI.light s0
      rw [← g3] at hI
      clear g3
      obtain ⟨τ, rfl⟩ : ∃ z, z = τ2 := ⟨_, rfl⟩
      obtain ⟨S4, e_S4⟩ : ∃ z, z = lightS S3 s0 := ⟨_, rfl⟩
      rw [← e_S4] at hI
      have hV : IV S4 := by rw [e_S4]; exact hV.lightS
      have hc := hV.c
      have hF : JF S4 L := fun g j q1 q2 => by rw [e_S4]; exact (LC_eq (lightS_g (by decide)) (lightS_g (by decide)) (lightS_g (by decide)) g j).mpr (hF g j q1 q2)
      exact ph_vret (pc := 52) C d_J_becomeLight_52 hr hlk (by omega) (by omega) ⟨(by rw [blS, blA, if_pos (by assumption), ← e_S2, blB, if_pos (by omega), ← e_S3, ← e_S4]; exact hI), (by rw [blS, blA, if_pos (by assumption), ← e_S2, blB, if_pos (by omega), ← e_S3, ← e_S4]; exact hF), rfl⟩
end
section
/-! ===== edge ===== -/
set_option maxHeartbeats 4000000 in
set_option maxRecDepth 100000 in
theorem c_J_edge (l : Launch) (D : va_G) (dT : Nat → ClassId) (A : Nat → Prop) (KX : State → Prop) (L : Nat → Nat → Prop) (ad : Nat → Nat → Nat) (τ : ph_T) (S : ph_T) (o : Nat) (hI : JR S o L ad τ) (hV : IV S) (hF : JF S L) (x d t : Int) (hx : ph_ri x) (hd : d = 0 ∨ d = 1) (ht : ph_rl t) : ph_M l y_J_edge (.code y_J_edge b_J_edge 6 (some .int) :: TB) ({ frames := 6, cells := 69, slots := 483, locals := 140 } : Room) D CLs (TY dT) dT kd A KX [.ref (o), .int (ph_i (x)), .int (ph_i (d)), .long (ph_l (t))] L ad τ (fun r L' ad' τ' => JR (edgeS S x d t) o L' ad' τ' ∧ JF (edgeS S x d t) L' ∧ r = some (.int (ph_i (edgev S x d t)))) 69 483 := by
  refine ph_M.of (cc := b_J_edge) (maxL := 6) (ret := (some .int)) (by decide) rfl (Nat.le_of_ble_eq_true rfl) ?_
  intro p e s m below meth c C0 hr hlk hnm
  have C := C0.sub
  refine ph_loc (l2 := [(0, .ref (o)), (1, .int (ph_i (x))), (2, .int (ph_i (d))), (3, .long (ph_l (t)))]) ⟨rfl, rfl, rfl, rfl, trivial⟩ ?_
  have hc := hV.c
  refine ph_aload_n (pc := 0) C d_J_edge_0 rfl ?_
  refine ph_iload_n (pc := 1) C d_J_edge_1 rfl ?_
  refine ph_callV (pc := 2) (rest := []) C d_J_edge_2 (c_J_isSensor l D dT A KX L ad τ S o hI hV x hx) (cwV 1 C.hts (gdV tw_151 tw_153 se_2 tw_1 tw_154) rfl rfl rfl ⟨rfl, by decide, by decide, by decide⟩ ⟨by decide, by decide⟩) (hI.live (g := 0) (i := 0) rfl) hI.ob rfl rfl rfl rfl rfl (Nat.le_of_ble_eq_true rfl) ⟨by decide, by decide⟩ ?_
  rintro r1 L1 ad1 τ1 ⟨g1, g2, g3, g4⟩; obtain rfl := g1.symm; obtain rfl := g2.symm; obtain rfl := g3.symm; subst g4
  refine ph_bif_ne (pc := 5) (tgt := 11) C d_J_edge_5 (by decide) (fun c5 => ?_) (fun c5 => ?_)
  · refine ph_aload_n (pc := 11) C d_J_edge_11 rfl ?_
    refine ph_lload_n (pc := 12) C d_J_edge_12 rfl ?_
    refine ph_callV (pc := 13) (rest := []) C d_J_edge_13 (c_J_isTime l D dT A KX L ad τ S o hI hV t ht) (cwV 1 C.hts (gdV tw_101 tw_103 se_0 tw_1 tw_104) rfl rfl rfl ⟨rfl, by decide, by decide, by decide⟩ ⟨by decide, by decide⟩) (hI.live (g := 0) (i := 0) rfl) hI.ob rfl rfl rfl rfl rfl (Nat.le_of_ble_eq_true rfl) ⟨by decide, by decide⟩ ?_
    rintro r1 L1 ad1 τ1 ⟨g1, g2, g3, g4⟩; obtain rfl := g1.symm; obtain rfl := g2.symm; obtain rfl := g3.symm; subst g4
    refine ph_bif_ne (pc := 16) (tgt := 22) C d_J_edge_16 (by decide) (fun c16 => ?_) (fun c16 => ?_)
    · refine ph_aload_n (pc := 22) C d_J_edge_22 rfl ?_
      refine ph_callV (pc := 23) (rest := []) C d_J_edge_23 (c_J_goesOn l D dT A KX L ad τ S o hI hV) (cwV 0 C.hts (gdV tw_111 tw_112 tw_113 tw_1 tw_114) rfl rfl rfl ⟨rfl, by decide, by decide, by decide⟩ ⟨by decide, by decide⟩) (hI.live (g := 0) (i := 0) rfl) hI.ob rfl rfl rfl rfl rfl (Nat.le_of_ble_eq_true rfl) ⟨by decide, by decide⟩ ?_
      rintro r1 L1 ad1 τ1 ⟨g1, g2, g3, g4⟩; obtain rfl := g1.symm; obtain rfl := g2.symm; obtain rfl := g3.symm; subst g4
      refine ph_bif_eq (pc := 26) (tgt := 42) C d_J_edge_26 (by decide) (fun c26 => ?_) (fun c26 => ?_)
      · refine ph_bipush (pc := 42) C d_J_edge_42 (by decide) ?_
        exact ph_iret (pc := 44) C d_J_edge_44 hr hlk rfl (by omega) (by omega) ⟨(by rw [edgeS_f (fun q => by first | exact absurd q.1 (by assumption) | exact absurd q.2.1 (by assumption) | exact absurd q.2.2.1 (by assumption) | exact absurd (by assumption) q.2.2.2)]; exact hI), (by rw [edgeS_f (fun q => by first | exact absurd q.1 (by assumption) | exact absurd q.2.1 (by assumption) | exact absurd q.2.2.1 (by assumption) | exact absurd (by assumption) q.2.2.2)]; exact hF), (by rw [edgev, if_neg (not_not_intro (by assumption)), if_neg (not_not_intro (by assumption)), if_neg (fun q => by first | exact absurd q.1 (by assumption) | exact absurd (by assumption) q.2)])⟩
      · refine ph_aload_n (pc := 29) C d_J_edge_29 rfl ?_
        refine gt_J_11 (pc := 30) C d_J_edge_30 (hI.live (g := 0) (i := 0) rfl) hI.ob hI.r0 ?_
        refine ph_iload_n (pc := 33) C d_J_edge_33 rfl ?_
        refine ph_aald (pc := 34) (t := 0) C d_J_edge_34 (hI.live (g := 4) (i := 0) rfl) rfl rfl rfl x.toNat (by omega) (by have := (show LC S 1 x.toNat by simp only [LC]; omega); simp only [LC] at this; omega) (by decide) (ph_vr (hI.e4 (show LC S 1 x.toNat by simp only [LC]; omega))) ?_
        refine gt_J_91 (pc := 35) C d_J_edge_35 (hI.live (show LC S 1 x.toNat by simp only [LC]; omega)) rfl (z := S 1 x.toNat 2) (hI.dat (show LC S 1 x.toNat by simp only [LC]; omega) rfl) ?_
        refine ph_iload_n (pc := 38) C d_J_edge_38 rfl ?_
        refine ph_icmp_ne (pc := 39) (tgt := 45) C d_J_edge_39 (by decide) (by first | omega | (have := hV.s (show LC S 1 x.toNat by simp only [LC]; omega); omega)) (by first | omega | (have := hV.s (show LC S 1 x.toNat by simp only [LC]; omega); omega)) (fun c39 => ?_) (fun c39 => ?_)
        · refine ph_aload_n (pc := 45) C d_J_edge_45 rfl ?_
          refine ph_lload_n (pc := 46) C d_J_edge_46 rfl ?_
          refine pt_J_54 (pc := 47) C d_J_edge_47 (hI.live (g := 0) (i := 0) rfl) hI.ob ?_
          have hI := hI.put (g := 0) (i := 0) (k := 11) (t) rfl (by omega)
          generalize ph_up τ 0 0 11 (t) = τ at hI ⊢
          refine ph_aload_n (pc := 50) C d_J_edge_50 rfl ?_
          refine gt_J_34 (pc := 51) C d_J_edge_51 (hI.live (g := 0) (i := 0) rfl) hI.ob (z := S 0 0 5) (hI.dat rfl rfl) ?_
          refine ph_istore (pc := 54) C d_J_edge_54 (by decide) rfl ?_
          refine ph_aload_n (pc := 56) C d_J_edge_56 rfl ?_
          have hcS := hV.c
          refine ph_callV (pc := 57) (rest := []) C d_J_edge_57 (c_J_tellJams l D dT A KX L ad τ (ph_up S 0 0 11 (t)) o hI (hV.up0 (k := 11) (z := t) (by omega) (by omega) (by omega) (by omega)) (fun g i q1 q2 => (LC_up (by omega) g i).mpr (hF g i q1 q2))) (cwV 0 C.hts (gdV tw_155 tw_157 se_3 tw_1 tw_158) rfl rfl rfl ⟨rfl, by decide, by decide, by decide⟩ ⟨by decide, by decide⟩) (hI.live (g := 0) (i := 0) rfl) hI.ob rfl rfl rfl rfl rfl (Nat.le_of_ble_eq_true rfl) ⟨by decide, by decide⟩ ?_
          rintro r1 L ad τ ⟨hI, hF, g4⟩; subst g4
          change JR (edJ S t) o L ad τ at hI; change JF (edJ S t) L at hF
          obtain ⟨S2, e_S2⟩ : ∃ z, z = edJ S t := ⟨_, rfl⟩
          rw [← e_S2] at hI hF
          have hV : IV S2 := by rw [e_S2]; exact hV.edJ (by assumption)
          have hc := hV.c
          have hs : LC S2 1 x.toNat := LC1 (S := S) (by rw [e_S2]; exact edJ_0 (by decide) (by decide)) (show (x.toNat : Int) < S 0 0 1 by omega)
          refine ph_aload_n (pc := 60) C d_J_edge_60 rfl ?_
          refine ph_callV (pc := 61) (rest := []) C d_J_edge_61 (c_J_goesOn l D dT A KX L ad τ S2 o hI hV) (cwV 0 C.hts (gdV tw_111 tw_112 tw_113 tw_1 tw_114) rfl rfl rfl ⟨rfl, by decide, by decide, by decide⟩ ⟨by decide, by decide⟩) (hI.live (g := 0) (i := 0) rfl) hI.ob rfl rfl rfl rfl rfl (Nat.le_of_ble_eq_true rfl) ⟨by decide, by decide⟩ ?_
          rintro r1 L1 ad1 τ1 ⟨g1, g2, g3, g4⟩; obtain rfl := g1.symm; obtain rfl := g2.symm; obtain rfl := g3.symm; subst g4
          refine ph_bif_eq (pc := 64) (tgt := 84) C d_J_edge_64 (by decide) (fun c64 => ?_) (fun c64 => ?_)
          · refine ph_aload_n (pc := 84) C d_J_edge_84 rfl ?_
            refine gt_J_34 (pc := 85) C d_J_edge_85 (hI.live (g := 0) (i := 0) rfl) hI.ob (z := S2 0 0 5) (hI.dat rfl rfl) ?_
            refine ph_iload (pc := 88) C d_J_edge_88 rfl ?_
            refine ph_icmp_le (pc := 90) (tgt := 100) C d_J_edge_90 (by decide) (by first | omega | (have := hV.s (show LC S 1 x.toNat by simp only [LC]; omega); omega)) (by first | omega | (have := hV.s (show LC S 1 x.toNat by simp only [LC]; omega); omega)) (fun c90 => ?_) (fun c90 => ?_)
            · refine ph_iconst (pc := 100) C d_J_edge_100 ?_
              exact ph_iret (pc := 101) C d_J_edge_101 hr hlk rfl (by omega) (by omega) ⟨(by rw [edgeS_t ⟨by assumption, by assumption, by assumption, by assumption⟩, ← e_S2, edB_n (by assumption)]; exact hI), (by rw [edgeS_t ⟨by assumption, by assumption, by assumption, by assumption⟩, ← e_S2, edB_n (by assumption)]; exact hF), (by rw [edgev, if_neg (not_not_intro (by assumption)), if_neg (not_not_intro (by assumption)), if_pos ⟨by assumption, by assumption⟩, ← e_S2, edB_n (by assumption), if_neg (by omega)])⟩
            · refine ph_iload (pc := 93) C d_J_edge_93 rfl ?_
              refine ph_iconst (pc := 95) C d_J_edge_95 ?_
              refine ph_iadd (pc := 96) C d_J_edge_96 ?_
              refine ph_goto (pc := 97) (tgt := 101) C d_J_edge_97 (by decide) ?_
              exact ph_iret (pc := 101) C d_J_edge_101 hr hlk rfl (by omega) (by omega) ⟨(by rw [edgeS_t ⟨by assumption, by assumption, by assumption, by assumption⟩, ← e_S2, edB_n (by assumption)]; exact hI), (by rw [edgeS_t ⟨by assumption, by assumption, by assumption, by assumption⟩, ← e_S2, edB_n (by assumption)]; exact hF), (by rw [edgev, if_neg (not_not_intro (by assumption)), if_neg (not_not_intro (by assumption)), if_pos ⟨by assumption, by assumption⟩, ← e_S2, edB_n (by assumption), if_pos (by omega)])⟩
          · refine ph_iload_n (pc := 67) C d_J_edge_67 rfl ?_
            refine ph_if_eq (pc := 68) (tgt := 79) C d_J_edge_68 (by decide) (by first | omega | (have := hV.s (show LC S 1 x.toNat by simp only [LC]; omega); omega)) (fun c68 => ?_) (fun c68 => ?_)
            · refine ph_aload_n (pc := 79) C d_J_edge_79 rfl ?_
              refine ph_iload_n (pc := 80) C d_J_edge_80 rfl ?_
              refine ph_ti (y := ((x.toNat : Nat) : Int)) (by omega) ?_
              refine ph_callV (pc := 81) (rest := []) C d_J_edge_81 (c_J_becomeLight l D dT A KX L ad τ S2 o hI hV hF x.toNat hs) (cwV 1 C.hts (gdV tw_259 tw_261 se_15 tw_1 tw_262) rfl rfl rfl ⟨rfl, by decide, by decide, by decide⟩ ⟨by decide, by decide⟩) (hI.live (g := 0) (i := 0) rfl) hI.ob rfl rfl rfl rfl rfl (Nat.le_of_ble_eq_true rfl) ⟨by decide, by decide⟩ ?_
              rintro r1 L ad τ ⟨hI, hF, g4⟩; subst g4
              change JR (blS S2 x.toNat) o L ad τ at hI; change JF (blS S2 x.toNat) L at hF
              obtain ⟨S4, e_S4⟩ : ∃ z, z = blS S2 x.toNat := ⟨_, rfl⟩
              rw [← e_S4] at hI hF
              have hV : IV S4 := by rw [e_S4]; exact hV.blS hs
              have hc := hV.c
              refine ph_aload_n (pc := 84) C d_J_edge_84 rfl ?_
              refine gt_J_34 (pc := 85) C d_J_edge_85 (hI.live (g := 0) (i := 0) rfl) hI.ob (z := S4 0 0 5) (hI.dat rfl rfl) ?_
              refine ph_iload (pc := 88) C d_J_edge_88 rfl ?_
              refine ph_icmp_le (pc := 90) (tgt := 100) C d_J_edge_90 (by decide) (by first | omega | (have := hV.s (show LC S 1 x.toNat by simp only [LC]; omega); omega)) (by first | omega | (have := hV.s (show LC S 1 x.toNat by simp only [LC]; omega); omega)) (fun c90 => ?_) (fun c90 => ?_)
              · refine ph_iconst (pc := 100) C d_J_edge_100 ?_
                exact ph_iret (pc := 101) C d_J_edge_101 hr hlk rfl (by omega) (by omega) ⟨(by rw [edgeS_t ⟨by assumption, by assumption, by assumption, by assumption⟩, ← e_S2, edB_l (by assumption) (by assumption), ← e_S4]; exact hI), (by rw [edgeS_t ⟨by assumption, by assumption, by assumption, by assumption⟩, ← e_S2, edB_l (by assumption) (by assumption), ← e_S4]; exact hF), (by rw [edgev, if_neg (not_not_intro (by assumption)), if_neg (not_not_intro (by assumption)), if_pos ⟨by assumption, by assumption⟩, ← e_S2, edB_l (by assumption) (by assumption), ← e_S4, if_neg (by omega)])⟩
              · refine ph_iload (pc := 93) C d_J_edge_93 rfl ?_
                refine ph_iconst (pc := 95) C d_J_edge_95 ?_
                refine ph_iadd (pc := 96) C d_J_edge_96 ?_
                refine ph_goto (pc := 97) (tgt := 101) C d_J_edge_97 (by decide) ?_
                exact ph_iret (pc := 101) C d_J_edge_101 hr hlk rfl (by omega) (by omega) ⟨(by rw [edgeS_t ⟨by assumption, by assumption, by assumption, by assumption⟩, ← e_S2, edB_l (by assumption) (by assumption), ← e_S4]; exact hI), (by rw [edgeS_t ⟨by assumption, by assumption, by assumption, by assumption⟩, ← e_S2, edB_l (by assumption) (by assumption), ← e_S4]; exact hF), (by rw [edgev, if_neg (not_not_intro (by assumption)), if_neg (not_not_intro (by assumption)), if_pos ⟨by assumption, by assumption⟩, ← e_S2, edB_l (by assumption) (by assumption), ← e_S4, if_pos (by omega)])⟩
            · refine ph_aload_n (pc := 71) C d_J_edge_71 rfl ?_
              refine ph_iload_n (pc := 72) C d_J_edge_72 rfl ?_
              refine ph_ti (y := ((x.toNat : Nat) : Int)) (by omega) ?_
              refine ph_callV (pc := 73) (rest := []) C d_J_edge_73 (c_J_becomeDark l D dT A KX L ad τ S2 o hI hV hF x.toNat hs) (cwV 1 C.hts (gdV tw_222 tw_224 se_9 tw_1 tw_225) rfl rfl rfl ⟨rfl, by decide, by decide, by decide⟩ ⟨by decide, by decide⟩) (hI.live (g := 0) (i := 0) rfl) hI.ob rfl rfl rfl rfl rfl (Nat.le_of_ble_eq_true rfl) ⟨by decide, by decide⟩ ?_
              rintro r1 L ad τ ⟨hI, hF, g4⟩; subst g4
              change JR (bdS S2 x.toNat) o L ad τ at hI; change JF (bdS S2 x.toNat) L at hF
              obtain ⟨S3, e_S3⟩ : ∃ z, z = bdS S2 x.toNat := ⟨_, rfl⟩
              rw [← e_S3] at hI hF
              have hV : IV S3 := by rw [e_S3]; exact hV.bdS hs
              have hc := hV.c
              refine ph_goto (pc := 76) (tgt := 84) C d_J_edge_76 (by decide) ?_
              refine ph_aload_n (pc := 84) C d_J_edge_84 rfl ?_
              refine gt_J_34 (pc := 85) C d_J_edge_85 (hI.live (g := 0) (i := 0) rfl) hI.ob (z := S3 0 0 5) (hI.dat rfl rfl) ?_
              refine ph_iload (pc := 88) C d_J_edge_88 rfl ?_
              refine ph_icmp_le (pc := 90) (tgt := 100) C d_J_edge_90 (by decide) (by first | omega | (have := hV.s (show LC S 1 x.toNat by simp only [LC]; omega); omega)) (by first | omega | (have := hV.s (show LC S 1 x.toNat by simp only [LC]; omega); omega)) (fun c90 => ?_) (fun c90 => ?_)
              · refine ph_iconst (pc := 100) C d_J_edge_100 ?_
                exact ph_iret (pc := 101) C d_J_edge_101 hr hlk rfl (by omega) (by omega) ⟨(by rw [edgeS_t ⟨by assumption, by assumption, by assumption, by assumption⟩, ← e_S2, edB_d (by assumption) (by assumption), ← e_S3]; exact hI), (by rw [edgeS_t ⟨by assumption, by assumption, by assumption, by assumption⟩, ← e_S2, edB_d (by assumption) (by assumption), ← e_S3]; exact hF), (by rw [edgev, if_neg (not_not_intro (by assumption)), if_neg (not_not_intro (by assumption)), if_pos ⟨by assumption, by assumption⟩, ← e_S2, edB_d (by assumption) (by assumption), ← e_S3, if_neg (by omega)])⟩
              · refine ph_iload (pc := 93) C d_J_edge_93 rfl ?_
                refine ph_iconst (pc := 95) C d_J_edge_95 ?_
                refine ph_iadd (pc := 96) C d_J_edge_96 ?_
                refine ph_goto (pc := 97) (tgt := 101) C d_J_edge_97 (by decide) ?_
                exact ph_iret (pc := 101) C d_J_edge_101 hr hlk rfl (by omega) (by omega) ⟨(by rw [edgeS_t ⟨by assumption, by assumption, by assumption, by assumption⟩, ← e_S2, edB_d (by assumption) (by assumption), ← e_S3]; exact hI), (by rw [edgeS_t ⟨by assumption, by assumption, by assumption, by assumption⟩, ← e_S2, edB_d (by assumption) (by assumption), ← e_S3]; exact hF), (by rw [edgev, if_neg (not_not_intro (by assumption)), if_neg (not_not_intro (by assumption)), if_pos ⟨by assumption, by assumption⟩, ← e_S2, edB_d (by assumption) (by assumption), ← e_S3, if_pos (by omega)])⟩
        · refine ph_bipush (pc := 42) C d_J_edge_42 (by decide) ?_
          exact ph_iret (pc := 44) C d_J_edge_44 hr hlk rfl (by omega) (by omega) ⟨(by rw [edgeS_f (fun q => by first | exact absurd q.1 (by assumption) | exact absurd q.2.1 (by assumption) | exact absurd q.2.2.1 (by assumption) | exact absurd (by assumption) q.2.2.2)]; exact hI), (by rw [edgeS_f (fun q => by first | exact absurd q.1 (by assumption) | exact absurd q.2.1 (by assumption) | exact absurd q.2.2.1 (by assumption) | exact absurd (by assumption) q.2.2.2)]; exact hF), (by rw [edgev, if_neg (not_not_intro (by assumption)), if_neg (not_not_intro (by assumption)), if_neg (fun q => by first | exact absurd q.1 (by assumption) | exact absurd (by assumption) q.2)])⟩
    · refine ph_bipush (pc := 19) C d_J_edge_19 (by decide) ?_
      exact ph_iret (pc := 21) C d_J_edge_21 hr hlk rfl (by omega) (by omega) ⟨(by rw [edgeS_f (fun q => by first | exact absurd q.1 (by assumption) | exact absurd q.2.1 (by assumption) | exact absurd q.2.2.1 (by assumption) | exact absurd (by assumption) q.2.2.2)]; exact hI), (by rw [edgeS_f (fun q => by first | exact absurd q.1 (by assumption) | exact absurd q.2.1 (by assumption) | exact absurd q.2.2.1 (by assumption) | exact absurd (by assumption) q.2.2.2)]; exact hF), (by rw [edgev, if_neg (not_not_intro (by assumption)), if_pos (by assumption)])⟩
  · refine ph_bipush (pc := 8) C d_J_edge_8 (by decide) ?_
    exact ph_iret (pc := 10) C d_J_edge_10 hr hlk rfl (by omega) (by omega) ⟨(by rw [edgeS_f (fun q => by first | exact absurd q.1 (by assumption) | exact absurd q.2.1 (by assumption) | exact absurd q.2.2.1 (by assumption) | exact absurd (by assumption) q.2.2.2)]; exact hI), (by rw [edgeS_f (fun q => by first | exact absurd q.1 (by assumption) | exact absurd q.2.1 (by assumption) | exact absurd q.2.2.1 (by assumption) | exact absurd (by assumption) q.2.2.2)]; exact hF), (by rw [edgev, if_pos (by assumption)])⟩
end
section
/-! ===== sensor, item ===== -/
def addS (S : ph_T) (v : Nat → Int) : ph_T := ph_up (ph_tn S 1 (S 0 0 1).toNat v) 0 0 1 (S 0 0 1 + 1)
theorem addS_0 (S : ph_T) (v : Nat → Int) {k : Nat} (hk : k ≠ 1) : addS S v 0 0 k = S 0 0 k := by
  unfold addS
  rw [ph_up_no _ _ (by omega), tn_ne _ _ (by omega)]
theorem addS_c (S : ph_T) (v : Nat → Int) : addS S v 0 0 1 = S 0 0 1 + 1 := ph_up_at _ _ _ _ _
theorem addS_g (S : ph_T) (v : Nat → Int) {g i k : Nat} (hg : g ≠ 0 ∧ g ≠ 1) : addS S v g i k = S g i k := by
  unfold addS
  rw [up_ne _ hg.1, tn_ne _ _ (by omega)]
theorem addS_s (S : ph_T) (v : Nat → Int) {i k : Nat} : addS S v 1 i k = if i = (S 0 0 1).toNat then v k else S 1 i k := by
  unfold addS
  rw [up_ne _ (by decide)]
  unfold ph_tn
  by_cases h : i = (S 0 0 1).toNat
  · rw [if_pos ⟨rfl, h⟩, if_pos h]
  · rw [if_neg (fun q => h q.2), if_neg h]
theorem addS_L {S : ph_T} {v : Nat → Int} (h0 : 0 ≤ S 0 0 1) (g i : Nat) : LC (addS S v) g i ↔ (LC S g i ∨ (g = 1 ∧ i = (S 0 0 1).toNat)) := by
  by_cases hg : g = 1
  · subst hg
    show ((i : Int) < addS S v 0 0 1) ↔ (((i : Int) < S 0 0 1) ∨ (1 = 1 ∧ i = (S 0 0 1).toNat))
    rw [addS_c]
    generalize S 0 0 1 = q at h0 ⊢
    constructor
    · intro h
      by_cases e : (i : Int) < q
      · exact Or.inl e
      · exact Or.inr ⟨rfl, by omega⟩
    · rintro (h | ⟨-, h⟩) <;> omega
  · have e1 : addS S v 0 0 3 = S 0 0 3 := addS_0 S v (by decide)
    have e2 : addS S v 0 0 5 = S 0 0 5 := addS_0 S v (by decide)
    have e : LC (addS S v) g i ↔ LC S g i := by
      unfold LC
      split
      · exact Iff.rfl
      · exact absurd rfl hg
      · rw [e1]
      · rw [e2]
      all_goals exact Iff.rfl
    rw [e]
    exact ⟨Or.inl, fun q => q.elim id (fun q => absurd q.1 hg)⟩
theorem JR.addS {S : ph_T} {o : Nat} {L L' : Nat → Nat → Prop} {ad ad' : Nat → Nat → Nat} {τ τ' : ph_T} (h : JR S o L ad τ) (h0 : 0 ≤ S 0 0 1) {v : Nat → Int} {f : Nat} (hf : (f : Int) = S 0 0 1) (hL : ∀ g i, L g i → L' g i) (hA : ∀ g i, LC S g i → ad' g i = ad g i) (hLf : L' 1 f)
    (e : ∀ g i k, ¬ (g = 0 ∧ i = 0 ∧ k = 1) → ¬ (g = 4 ∧ i = 0 ∧ k = f) → ¬ (g = 1 ∧ i = f) → τ' g i k = τ g i k) (e1 : τ' 0 0 1 = S 0 0 1 + 1) (e2 : τ' 4 0 f = (ad' 1 f : Int)) (e3 : ∀ k, k < 6 → τ' 1 f k = v k) : JR (addS S v) o L' ad' τ' := by
  have hfn : f = (S 0 0 1).toNat := by omega
  have r : ∀ k, k ≠ 1 → τ' 0 0 k = τ 0 0 k := fun k hk => e 0 0 k (by omega) (by omega) (by omega)
  refine ⟨fun g i hl => ?_, by rw [hA 0 0 rfl]; exact h.ob, fun g i k hl hd => ?_, ⟨?_, ?_, ?_, ?_, ?_, ?_⟩, fun i hl => ?_, fun i hl => ?_, fun i hl => ?_⟩
  · rcases (addS_L h0 g i).mp hl with q | ⟨rfl, rfl⟩
    · exact hL g i (h.1 g i q)
    · rw [← hfn]; exact hLf
  · rcases (addS_L h0 g i).mp hl with q | ⟨rfl, rfl⟩
    · by_cases g0 : g = 0
      · subst g0
        have i0 : i = 0 := q
        subst i0
        by_cases k5 : k = 1
        · subst k5
          rw [addS_c, e1]
        · rw [addS_0 _ _ k5, r k k5]; exact h.dat q hd
      · have ga : g ≠ 4 := fun z => by subst z; cases hd
        by_cases g3 : g = 1
        · subst g3
          have hne : ¬ i = f := by simp only [LC] at q; omega
          rw [addS_s, if_neg (by omega), e _ _ _ (by omega) (by omega) (by omega)]; exact h.dat q hd
        · rw [addS_g _ _ ⟨g0, g3⟩, e _ _ _ (by omega) (by omega) (by omega)]; exact h.dat q hd
    · rw [addS_s, if_pos rfl, ← hfn]
      exact e3 k (Nat.blt_eq.mp hd)
  · rw [r 0 (by decide), hA 4 0 rfl]; exact h.r0
  · rw [r 2 (by decide), hA 5 0 rfl]; exact h.r2
  · rw [r 4 (by decide), hA 6 0 rfl]; exact h.r4
  · rw [r 7 (by decide), hA 7 0 rfl]; exact h.r7
  · rw [r 8 (by decide), hA 8 0 rfl]; exact h.r8
  · rw [r 9 (by decide), hA 9 0 rfl]; exact h.r9
  · rcases (addS_L h0 1 i).mp hl with q | ⟨-, q⟩
    · have hne : ¬ i = f := by simp only [LC] at q; omega
      rw [e _ _ _ (by omega) (by omega) (by omega), hA 1 i q]
      exact h.e4 q
    · have z : i = f := by omega
      subst z
      exact e2
  · rcases (addS_L h0 2 i).mp hl with q | ⟨q, -⟩
    · rw [e _ _ _ (by omega) (by omega) (by omega), hA 2 i q]
      exact h.e5 q
    · cases q
  · rcases (addS_L h0 3 i).mp hl with q | ⟨q, -⟩
    · rw [e _ _ _ (by omega) (by omega) (by omega), hA 3 i q]
      exact h.e6 q
    · cases q
theorem JF.addS {S : ph_T} {L : Nat → Nat → Prop} (hF : JF S L) (h0 : 0 ≤ S 0 0 1) (v : Nat → Int) {f : Nat} (hf : (f : Int) = S 0 0 1) : JF (addS S v) (ph_Ln L 1 f) := fun g i hg hl => by
  refine (addS_L h0 g i).mpr ?_
  rcases hl with q | ⟨rfl, rfl⟩
  · exact Or.inl (hF g i hg q)
  · exact Or.inr ⟨rfl, by omega⟩
def addI (S : ph_T) (v : Nat → Int) : ph_T := ph_up (ph_tn S 2 (S 0 0 3 + 1).toNat v) 0 0 3 (S 0 0 3 + 1)
theorem addI_0 (S : ph_T) (v : Nat → Int) {k : Nat} (hk : k ≠ 3) : addI S v 0 0 k = S 0 0 k := by
  unfold addI
  rw [ph_up_no _ _ (by omega), tn_ne _ _ (by omega)]
theorem addI_c (S : ph_T) (v : Nat → Int) : addI S v 0 0 3 = S 0 0 3 + 1 := ph_up_at _ _ _ _ _
theorem addI_g (S : ph_T) (v : Nat → Int) {g i k : Nat} (hg : g ≠ 0 ∧ g ≠ 2) : addI S v g i k = S g i k := by
  unfold addI
  rw [up_ne _ hg.1, tn_ne _ _ (by omega)]
theorem addI_s (S : ph_T) (v : Nat → Int) {i k : Nat} : addI S v 2 i k = if i = (S 0 0 3 + 1).toNat then v k else S 2 i k := by
  unfold addI
  rw [up_ne _ (by decide)]
  unfold ph_tn
  by_cases h : i = (S 0 0 3 + 1).toNat
  · rw [if_pos ⟨rfl, h⟩, if_pos h]
  · rw [if_neg (fun q => h q.2), if_neg h]
theorem addI_L {S : ph_T} {v : Nat → Int} (h0 : 0 ≤ S 0 0 3) (g i : Nat) : LC (addI S v) g i ↔ (LC S g i ∨ (g = 2 ∧ i = (S 0 0 3 + 1).toNat)) := by
  by_cases hg : g = 2
  · subst hg
    show (1 ≤ i ∧ (i : Int) ≤ addI S v 0 0 3) ↔ ((1 ≤ i ∧ (i : Int) ≤ S 0 0 3) ∨ (2 = 2 ∧ i = (S 0 0 3 + 1).toNat))
    rw [addI_c]
    generalize S 0 0 3 = q at h0 ⊢
    constructor
    · intro h
      by_cases e : (i : Int) ≤ q
      · exact Or.inl ⟨h.1, e⟩
      · exact Or.inr ⟨rfl, by omega⟩
    · rintro (h | ⟨-, h⟩) <;> omega
  · have e1 : addI S v 0 0 1 = S 0 0 1 := addI_0 S v (by decide)
    have e2 : addI S v 0 0 5 = S 0 0 5 := addI_0 S v (by decide)
    have e : LC (addI S v) g i ↔ LC S g i := by
      unfold LC
      split
      · exact Iff.rfl
      · rw [e1]
      · exact absurd rfl hg
      · rw [e2]
      all_goals exact Iff.rfl
    rw [e]
    exact ⟨Or.inl, fun q => q.elim id (fun q => absurd q.1 hg)⟩
theorem JR.addI {S : ph_T} {o : Nat} {L L' : Nat → Nat → Prop} {ad ad' : Nat → Nat → Nat} {τ τ' : ph_T} (h : JR S o L ad τ) (h0 : 0 ≤ S 0 0 3) {v : Nat → Int} {f : Nat} (hf : (f : Int) = S 0 0 3 + 1) (hL : ∀ g i, L g i → L' g i) (hA : ∀ g i, LC S g i → ad' g i = ad g i) (hLf : L' 2 f)
    (e : ∀ g i k, ¬ (g = 0 ∧ i = 0 ∧ k = 3) → ¬ (g = 5 ∧ i = 0 ∧ k = f) → ¬ (g = 2 ∧ i = f) → τ' g i k = τ g i k) (e1 : τ' 0 0 3 = S 0 0 3 + 1) (e2 : τ' 5 0 f = (ad' 2 f : Int)) (e3 : ∀ k, k < 7 → τ' 2 f k = v k) : JR (addI S v) o L' ad' τ' := by
  have hfn : f = (S 0 0 3 + 1).toNat := by omega
  have r : ∀ k, k ≠ 3 → τ' 0 0 k = τ 0 0 k := fun k hk => e 0 0 k (by omega) (by omega) (by omega)
  refine ⟨fun g i hl => ?_, by rw [hA 0 0 rfl]; exact h.ob, fun g i k hl hd => ?_, ⟨?_, ?_, ?_, ?_, ?_, ?_⟩, fun i hl => ?_, fun i hl => ?_, fun i hl => ?_⟩
  · rcases (addI_L h0 g i).mp hl with q | ⟨rfl, rfl⟩
    · exact hL g i (h.1 g i q)
    · rw [← hfn]; exact hLf
  · rcases (addI_L h0 g i).mp hl with q | ⟨rfl, rfl⟩
    · by_cases g0 : g = 0
      · subst g0
        have i0 : i = 0 := q
        subst i0
        by_cases k5 : k = 3
        · subst k5
          rw [addI_c, e1]
        · rw [addI_0 _ _ k5, r k k5]; exact h.dat q hd
      · have ga : g ≠ 5 := fun z => by subst z; cases hd
        by_cases g3 : g = 2
        · subst g3
          have hne : ¬ i = f := by simp only [LC] at q; omega
          rw [addI_s, if_neg (by omega), e _ _ _ (by omega) (by omega) (by omega)]; exact h.dat q hd
        · rw [addI_g _ _ ⟨g0, g3⟩, e _ _ _ (by omega) (by omega) (by omega)]; exact h.dat q hd
    · rw [addI_s, if_pos rfl, ← hfn]
      exact e3 k (Nat.blt_eq.mp hd)
  · rw [r 0 (by decide), hA 4 0 rfl]; exact h.r0
  · rw [r 2 (by decide), hA 5 0 rfl]; exact h.r2
  · rw [r 4 (by decide), hA 6 0 rfl]; exact h.r4
  · rw [r 7 (by decide), hA 7 0 rfl]; exact h.r7
  · rw [r 8 (by decide), hA 8 0 rfl]; exact h.r8
  · rw [r 9 (by decide), hA 9 0 rfl]; exact h.r9
  · rcases (addI_L h0 1 i).mp hl with q | ⟨q, -⟩
    · rw [e _ _ _ (by omega) (by omega) (by omega), hA 1 i q]
      exact h.e4 q
    · cases q
  · rcases (addI_L h0 2 i).mp hl with q | ⟨-, q⟩
    · have hne : ¬ i = f := by simp only [LC] at q; omega
      rw [e _ _ _ (by omega) (by omega) (by omega), hA 2 i q]
      exact h.e5 q
    · have z : i = f := by omega
      subst z
      exact e2
  · rcases (addI_L h0 3 i).mp hl with q | ⟨q, -⟩
    · rw [e _ _ _ (by omega) (by omega) (by omega), hA 3 i q]
      exact h.e6 q
    · cases q
theorem JF.addI {S : ph_T} {L : Nat → Nat → Prop} (hF : JF S L) (h0 : 0 ≤ S 0 0 3) (v : Nat → Int) {f : Nat} (hf : (f : Int) = S 0 0 3 + 1) : JF (addI S v) (ph_Ln L 2 f) := fun g i hg hl => by
  refine (addI_L h0 g i).mpr ?_
  rcases hl with q | ⟨rfl, rfl⟩
  · exact Or.inl (hF g i hg q)
  · exact Or.inr ⟨rfl, by omega⟩
theorem iv_addS {S : ph_T} (h : IV S) (h8 : S 0 0 1 < 8) {v : Nat → Int} (hv : 100 ≤ v 0 ∧ v 0 ≤ 100000 ∧ (v 2 = 0 ∨ v 2 = 1) ∧ 0 ≤ v 3 ∧ v 3 ≤ S 0 0 3 ∧ 0 ≤ v 4 ∧ v 4 ≤ S 0 0 11 ∧ (v 5 = 0 ∨ v 5 = 1)) : IV (addS S v) := by
  have hc := h.c
  have hL := fun g i => addS_L (S := S) (v := v) (by omega) g i
  refine ⟨?_, fun j hj => ?_, fun j hj => ?_, fun j hj => ?_, fun j hj => ?_, fun j hj => ?_⟩
  · rw [addS_c, addS_0 _ _ (by decide), addS_0 _ _ (by decide), addS_0 _ _ (by decide), addS_0 _ _ (by decide), addS_0 _ _ (by decide)]
    omega
  · simp only [addS_s]
    rw [addS_0 _ _ (by decide), addS_0 _ _ (by decide)]
    by_cases e : j = (S 0 0 1).toNat
    · simp only [if_pos e]
      exact hv
    · simp only [if_neg e]
      rcases (hL 1 j).mp hj with q | ⟨-, q⟩
      · exact h.s q
      · exact absurd q e
  · rcases (hL 2 j).mp hj with q | ⟨q, -⟩
    · simp only [addS_g _ _ (show (2 : Nat) ≠ 0 ∧ (2 : Nat) ≠ 1 by decide)]
      exact h.i q
    · cases q
  · rcases (hL 3 j).mp hj with q | ⟨q, -⟩
    · simp only [addS_g _ _ (show (3 : Nat) ≠ 0 ∧ (3 : Nat) ≠ 1 by decide)]
      rw [addS_0 _ _ (by decide)]
      exact h.f q
    · cases q
  · simp only [addS_g _ _ (show (7 : Nat) ≠ 0 ∧ (7 : Nat) ≠ 1 by decide), addS_g _ _ (show (8 : Nat) ≠ 0 ∧ (8 : Nat) ≠ 1 by decide)]
    exact h.r hj
  · simp only [addS_g _ _ (show (9 : Nat) ≠ 0 ∧ (9 : Nat) ≠ 1 by decide)]
    rw [addS_0 _ _ (by decide)] at hj
    exact h.l hj
theorem iv_addI {S : ph_T} (h : IV S) (h8 : S 0 0 3 < 60) {v : Nat → Int} (hv : 50 ≤ v 0 ∧ v 0 ≤ 1000 ∧ 0 ≤ v 1 ∧ v 1 ≤ 1000000000 ∧ 0 ≤ v 2 ∧ v 2 ≤ 40 ∧ (v 3 = 0 ∨ v 3 = 1) ∧ (v 4 = 0 ∨ v 4 = 1) ∧ 0 ≤ v 5 ∧ v 5 ≤ 2 ∧ 0 ≤ v 6 ∧ v 6 < 256) : IV (addI S v) := by
  have hc := h.c
  have hL := fun g i => addI_L (S := S) (v := v) (by omega) g i
  refine ⟨?_, fun j hj => ?_, fun j hj => ?_, fun j hj => ?_, fun j hj => ?_, fun j hj => ?_⟩
  · rw [addI_c, addI_0 _ _ (by decide), addI_0 _ _ (by decide), addI_0 _ _ (by decide), addI_0 _ _ (by decide), addI_0 _ _ (by decide)]
    omega
  · rcases (hL 1 j).mp hj with q | ⟨q, -⟩
    · simp only [addI_g _ _ (show (1 : Nat) ≠ 0 ∧ (1 : Nat) ≠ 2 by decide)]
      rw [addI_c, addI_0 _ _ (by decide)]
      have := h.s q
      omega
    · cases q
  · simp only [addI_s]
    by_cases e : j = (S 0 0 3 + 1).toNat
    · simp only [if_pos e]
      exact hv
    · simp only [if_neg e]
      rcases (hL 2 j).mp hj with q | ⟨-, q⟩
      · exact h.i q
      · exact absurd q e
  · rcases (hL 3 j).mp hj with q | ⟨q, -⟩
    · simp only [addI_g _ _ (show (3 : Nat) ≠ 0 ∧ (3 : Nat) ≠ 2 by decide)]
      rw [addI_0 _ _ (by decide)]
      exact h.f q
    · cases q
  · simp only [addI_g _ _ (show (7 : Nat) ≠ 0 ∧ (7 : Nat) ≠ 2 by decide), addI_g _ _ (show (8 : Nat) ≠ 0 ∧ (8 : Nat) ≠ 2 by decide)]
    exact h.r hj
  · simp only [addI_g _ _ (show (9 : Nat) ≠ 0 ∧ (9 : Nat) ≠ 2 by decide)]
    rw [addI_0 _ _ (by decide)] at hj
    exact h.l hj
def svl (x : Int) : Nat → Int := fun k => if k = 0 then x else 0
def ivl (x t : Int) : Nat → Int := fun k => if k = 0 then x else if k = 1 then t else 0
def bef (S : ph_T) : Int := if S 0 0 1 = 0 then 0 else S 1 (S 0 0 1 - 1).toNat 0
def senOk (S : ph_T) (x : Int) : Prop := bef S + 100 ≤ x ∧ x ≤ 100000 ∧ S 0 0 3 = 0 ∧ S 0 0 1 < 8
noncomputable def senS (S : ph_T) (x : Int) : ph_T := @ite ph_T (senOk S x) (Classical.propDecidable _) (addS S (svl x)) S
theorem senS_t {S : ph_T} {x : Int} (h : senOk S x) : senS S x = addS S (svl x) := if_pos h
theorem senS_f {S : ph_T} {x : Int} (h : ¬ senOk S x) : senS S x = S := if_neg h
def senv (S : ph_T) (x : Int) : Int := if x < bef S + 100 ∨ 100000 < x then -12 else if ¬ S 0 0 3 = 0 then -13 else if 8 ≤ S 0 0 1 then -14 else S 0 0 1
theorem bef_r {S : ph_T} (h : IV S) : 0 ≤ bef S ∧ bef S ≤ 100000 := by
  have hc := h.c
  unfold bef
  split
  · omega
  · have := h.s (show LC S 1 (S 0 0 1 - 1).toNat by simp only [LC]; omega)
    omega
theorem iv_sen {S : ph_T} (h : IV S) {x : Int} : IV (senS S x) := by
  have hc := h.c
  have hb := bef_r h
  rcases Classical.em (senOk S x) with q | q
  · rw [senS_t q]
    obtain ⟨q1, q2, q3, q4⟩ := q
    exact iv_addS h q4 ⟨by show 100 ≤ x; omega, by show x ≤ 100000; omega, Or.inl rfl, Int.le_refl 0, by show (0 : Int) ≤ _; omega, Int.le_refl 0, by show (0 : Int) ≤ _; omega, Or.inl rfl⟩
  · rw [senS_f q]
    exact h
def itOk (S : ph_T) (x t : Int) : Prop := (50 ≤ x ∧ x ≤ 1000 ∧ (S 0 0 11 ≤ t ∧ t ≤ 1000000000) ∧ earliest S ≤ t) ∧ (runs S ∧ ¬ S 0 0 1 = 0) ∧ S 0 0 3 < 60
noncomputable def itS (S : ph_T) (x t : Int) : ph_T := @ite ph_T (itOk S x t) (Classical.propDecidable _) (addI S (ivl x t)) S
theorem itS_t {S : ph_T} {x t : Int} (h : itOk S x t) : itS S x t = addI S (ivl x t) := if_pos h
theorem itS_f {S : ph_T} {x t : Int} (h : ¬ itOk S x t) : itS S x t = S := if_neg h
noncomputable def itv (S : ph_T) (x t : Int) : Int := if ¬ (50 ≤ x ∧ x ≤ 1000 ∧ (S 0 0 11 ≤ t ∧ t ≤ 1000000000) ∧ earliest S ≤ t) then -12 else @ite Int (runs S ∧ ¬ S 0 0 1 = 0) (Classical.propDecidable _) (if 60 ≤ S 0 0 3 then -14 else S 0 0 3 + 1) (-13)
theorem earliest_r {S : ph_T} (h : IV S) : 0 ≤ earliest S ∧ earliest S ≤ 1000001030 := by
  have hc := h.c
  unfold earliest
  split
  · omega
  · have := h.i (show LC S 2 (S 0 0 3).toNat by simp only [LC]; omega)
    omega
theorem iv_it {S : ph_T} (h : IV S) {x t : Int} : IV (itS S x t) := by
  have hc := h.c
  rcases Classical.em (itOk S x t) with q | q
  · rw [itS_t q]
    obtain ⟨⟨q1, q2, q3, q4⟩, q5, q6⟩ := q
    exact iv_addI h q6 ⟨q1, q2, by show 0 ≤ t; omega, by show t ≤ 1000000000; omega, Int.le_refl 0, by show (0 : Int) ≤ 40; omega, Or.inl rfl, Or.inl rfl, Int.le_refl 0, by show (0 : Int) ≤ 2; omega, Int.le_refl 0, by show (0 : Int) < 256; omega⟩
  · rw [itS_f q]
    exact h
end
section
/-! ===== sensor, item ===== -/
set_option maxHeartbeats 4000000 in
set_option maxRecDepth 100000 in
theorem c_J_sensor (l : Launch) (D : va_G) (dT : Nat → ClassId) (A : Nat → Prop) (KX : State → Prop) (L : Nat → Nat → Prop) (ad : Nat → Nat → Nat) (τ : ph_T) (S : ph_T) (o : Nat) (hI : JR S o L ad τ) (hV : IV S) (hF : JF S L) (x : Int) (hx : ph_rl x) : ph_M l y_J_sensor (.code y_J_sensor b_J_sensor 5 (some .int) :: TB) ({ frames := 2, cells := 1, slots := 6, locals := 34 } : Room) D CLs (TY dT) dT kd A KX [.ref (o), .long (ph_l (x))] L ad τ (fun r L' ad' τ' => JR (senS S x) o L' ad' τ' ∧ JF (senS S x) L' ∧ r = some (.int (ph_i (senv S x)))) 1 6 := by
  refine ph_M.of (cc := b_J_sensor) (maxL := 5) (ret := (some .int)) (by decide) rfl (Nat.le_of_ble_eq_true rfl) ?_
  intro p e s m below meth c C0 hr hlk hnm
  have C := C0.sub
  refine ph_loc (l2 := [(0, .ref (o)), (1, .long (ph_l (x)))]) ⟨rfl, rfl, trivial⟩ ?_
  have hc := hV.c
  have hbr := bef_r hV
  refine ph_aload_n (pc := 0) C d_J_sensor_0 rfl ?_
  refine gt_J_15 (pc := 1) C d_J_sensor_1 (hI.live (g := 0) (i := 0) rfl) hI.ob (z := S 0 0 1) (hI.dat rfl rfl) ?_
  refine ph_if_ne (pc := 4) (tgt := 11) C d_J_sensor_4 (by decide) (by omega) (fun c4 => ?_) (fun c4 => ?_)
  · refine ph_aload_n (pc := 11) C d_J_sensor_11 rfl ?_
    refine gt_J_11 (pc := 12) C d_J_sensor_12 (hI.live (g := 0) (i := 0) rfl) hI.ob hI.r0 ?_
    refine ph_aload_n (pc := 15) C d_J_sensor_15 rfl ?_
    refine gt_J_15 (pc := 16) C d_J_sensor_16 (hI.live (g := 0) (i := 0) rfl) hI.ob (z := S 0 0 1) (hI.dat rfl rfl) ?_
    refine ph_iconst (pc := 19) C d_J_sensor_19 ?_
    refine ph_isub (pc := 20) C d_J_sensor_20 ?_
    refine ph_aald (pc := 21) (t := 0) C d_J_sensor_21 (hI.live (g := 4) (i := 0) rfl) rfl rfl rfl (S 0 0 1 - 1).toNat (by omega) (by have := (show LC S 1 (S 0 0 1 - 1).toNat by simp only [LC]; omega); simp only [LC] at this; omega) (by decide) (ph_vr (hI.e4 (show LC S 1 (S 0 0 1 - 1).toNat by simp only [LC]; omega))) ?_
    refine gt_J_58 (pc := 22) C d_J_sensor_22 (hI.live (show LC S 1 (S 0 0 1 - 1).toNat by simp only [LC]; omega)) rfl (z := S 1 (S 0 0 1 - 1).toNat 0) (hI.dat (show LC S 1 (S 0 0 1 - 1).toNat by simp only [LC]; omega) rfl) ?_
    have hbe : bef S = S 1 (S 0 0 1 - 1).toNat 0 := by first | rw [bef, if_pos (by assumption)] | rw [bef, if_neg (by assumption)]
    refine ph_lstore_n (pc := 25) C d_J_sensor_25 (by decide) rfl ?_
    refine ph_lload_n (pc := 26) C d_J_sensor_26 rfl ?_
    refine ph_lload_n (pc := 27) C d_J_sensor_27 rfl ?_
    refine ph_ldc2 (pc := 28) C d_J_sensor_28 (100) (by decide) tw_63 ?_
    refine ph_ladd (pc := 31) C d_J_sensor_31 ?_
    refine ph_l_lt (pc := 32) (tgt := 44) C d_J_sensor_32 d_J_sensor_33 (by decide) (by omega) (by omega) (fun c32 => ?_) (fun c32 => ?_)
    · refine ph_bipush (pc := 44) C d_J_sensor_44 (by decide) ?_
      exact ph_iret (pc := 46) C d_J_sensor_46 hr hlk rfl (by omega) (by omega) ⟨(by rw [senS_f (fun q => by have q1 := q.1; have q2 := q.2.1; have q3 := q.2.2.1; have q4 := q.2.2.2; omega)]; exact hI), (by rw [senS_f (fun q => by have q1 := q.1; have q2 := q.2.1; have q3 := q.2.2.1; have q4 := q.2.2.2; omega)]; exact hF), (by rw [senv, if_pos (by omega)])⟩
    · refine ph_lload_n (pc := 36) C d_J_sensor_36 rfl ?_
      refine ph_ldc2 (pc := 37) C d_J_sensor_37 (100000) (by decide) tw_64 ?_
      refine ph_l_le (pc := 40) (tgt := 47) C d_J_sensor_40 d_J_sensor_41 (by decide) (by omega) (by omega) (fun c40 => ?_) (fun c40 => ?_)
      · refine ph_aload_n (pc := 47) C d_J_sensor_47 rfl ?_
        refine gt_J_25 (pc := 48) C d_J_sensor_48 (hI.live (g := 0) (i := 0) rfl) hI.ob (z := S 0 0 3) (hI.dat rfl rfl) ?_
        refine ph_if_le (pc := 51) (tgt := 57) C d_J_sensor_51 (by decide) (by omega) (fun c51 => ?_) (fun c51 => ?_)
        · refine ph_aload_n (pc := 57) C d_J_sensor_57 rfl ?_
          refine gt_J_15 (pc := 58) C d_J_sensor_58 (hI.live (g := 0) (i := 0) rfl) hI.ob (z := S 0 0 1) (hI.dat rfl rfl) ?_
          refine ph_bipush (pc := 61) C d_J_sensor_61 (by decide) ?_
          refine ph_icmp_lt (pc := 63) (tgt := 69) C d_J_sensor_63 (by decide) (by omega) (by omega) (fun c63 => ?_) (fun c63 => ?_)
          · refine ph_aload_n (pc := 69) C d_J_sensor_69 rfl ?_
            refine gt_J_11 (pc := 70) C d_J_sensor_70 (hI.live (g := 0) (i := 0) rfl) hI.ob hI.r0 ?_
            refine ph_aload_n (pc := 73) C d_J_sensor_73 rfl ?_
            refine gt_J_15 (pc := 74) C d_J_sensor_74 (hI.live (g := 0) (i := 0) rfl) hI.ob (z := S 0 0 1) (hI.dat rfl rfl) ?_
            obtain ⟨f, hf⟩ : ∃ f : Nat, (f : Int) = S 0 0 1 := ⟨(S 0 0 1).toNat, by omega⟩
            have hn : ¬ LC S 1 f := by simp only [LC]; omega
            refine ph_new (pc := 77) (g := 1) C d_J_sensor_77 f (fun q => hn (hF 1 f (by omega) q)) rfl rfl in_S t_S_ok tw_14 tw_65 tw_3 (fun j hj => by rcases (show j = 0 ∨ j = 1 ∨ j = 2 ∨ j = 3 ∨ j = 4 ∨ j = 5 by omega) with rfl | rfl | rfl | rfl | rfl | rfl <;> rfl) (by decide) (by decide) ?_
            intro a hfresh
            have hLf : ph_Ln L 1 f 1 f := Or.inr ⟨rfl, rfl⟩
            have haf : ph_an ad 1 f a 1 f = a := an_at ad 1 f a
            have h40 : ph_an ad 1 f a 4 0 = ad 4 0 := an_ne _ _ (by omega)
            have h00 : ph_an ad 1 f a 0 0 = o := by rw [an_ne _ _ (by omega)]; exact hI.ob
            have hl0 : ph_Ln L 1 f 0 0 := Or.inl (hI.live (g := 0) (i := 0) rfl)
            refine ph_dup (pc := 80) C d_J_sensor_80 rfl ?_
            refine ph_lload_n (pc := 81) C d_J_sensor_81 rfl ?_
            refine ph_callI (pc := 82) (rest := [.ref a, .int (ph_i (S 0 0 1)), .ref (ad 4 0)]) C d_J_sensor_82 (c_S_init l D dT A KX (ph_Ln L 1 f) (ph_an ad 1 f a) (ph_tn τ 1 f (ph_df [1, 0, 0, 0, 1, 0])) f a hLf haf x) (cwI 1 C.hts (gdI tw_68) rfl rfl rfl (C.hts _ tw_3) (C.hts _ tw_66) (C.hts _ tw_67) rfl (by decide) ⟨by decide, by decide⟩) rfl rfl (Nat.le_of_ble_eq_true rfl) ⟨by decide, by decide⟩ ?_
            rintro r1 L1 ad1 τ2 ⟨g1, g2, g3, g4⟩; subst g1; subst g2; subst g4
            have hq : ∀ g i q, ¬ (g = 1 ∧ i = f) → τ2 g i q = τ g i q := fun g i q hz => by rw [g3, ph_up_no _ _ (by omega), ph_up_no _ _ (by omega), ph_up_no _ _ (by omega), ph_up_no _ _ (by omega), ph_up_no _ _ (by omega), ph_up_no _ _ (by omega), tn_ne _ _ hz]
            have hv : ∀ q, q < 6 → τ2 1 f q = svl x q := fun q hq2 => by rw [g3]; rcases (show q = 0 ∨ q = 1 ∨ q = 2 ∨ q = 3 ∨ q = 4 ∨ q = 5 by omega) with rfl | rfl | rfl | rfl | rfl | rfl <;> simp [ph_up, svl]
            refine ph_aast (pc := 85) (t := 0) C (Or.inl (hI.live (g := 4) (i := 0) rfl)) h40 rfl rfl hLf haf rfl rfl f hf.symm (by omega) (by decide) d_J_sensor_85 ?_
            refine ph_aload_n (pc := 86) C d_J_sensor_86 rfl ?_
            refine ph_dup (pc := 87) C d_J_sensor_87 rfl ?_
            refine gt_J_15 (pc := 88) (z := S 0 0 1) C d_J_sensor_88 hl0 h00 (by rw [up_ne _ (by decide), hq _ _ _ (by omega)]; exact hI.dat rfl rfl) ?_
            refine ph_iconst (pc := 91) C d_J_sensor_91 ?_
            refine ph_iadd (pc := 92) C d_J_sensor_92 ?_
            refine pt_J_15 (pc := 93) C d_J_sensor_93 hl0 h00 ?_
            refine ph_aload_n (pc := 96) C d_J_sensor_96 rfl ?_
            refine gt_J_15 (pc := 97) C d_J_sensor_97 hl0 h00 (ph_up_at _ _ _ _ _) ?_
            refine ph_iconst (pc := 100) C d_J_sensor_100 ?_
            refine ph_isub (pc := 101) C d_J_sensor_101 ?_
            exact ph_iret (pc := 102) C d_J_sensor_102 hr hlk rfl (by decide) (by decide) ⟨(by rw [senS_t ⟨by omega, by omega, by omega, by omega⟩]; exact hI.addS (by omega) hf (fun g i q => Or.inl q) (fun g i q => an_ne _ _ (fun z => hn (by obtain ⟨rfl, rfl⟩ := z; exact q))) hLf (fun g i q z1 z2 z3 => by rw [ph_up_no _ _ z1, ph_up_no _ _ z2, hq g i q z3]) (ph_up_at _ _ _ _ _) (by rw [up_ne _ (by decide), ph_up_at, haf]) (fun q hq2 => by rw [up_ne _ (by decide), up_ne _ (by decide)]; exact hv q hq2)), (by rw [senS_t ⟨by omega, by omega, by omega, by omega⟩]; exact hF.addS (by omega) _ hf), (by rw [senv, if_neg (by omega), if_neg (by omega), if_neg (by omega), show S 0 0 1 + 1 - 1 = S 0 0 1 by omega])⟩
          · refine ph_bipush (pc := 66) C d_J_sensor_66 (by decide) ?_
            exact ph_iret (pc := 68) C d_J_sensor_68 hr hlk rfl (by omega) (by omega) ⟨(by rw [senS_f (fun q => by have q1 := q.1; have q2 := q.2.1; have q3 := q.2.2.1; have q4 := q.2.2.2; omega)]; exact hI), (by rw [senS_f (fun q => by have q1 := q.1; have q2 := q.2.1; have q3 := q.2.2.1; have q4 := q.2.2.2; omega)]; exact hF), (by rw [senv, if_neg (by omega), if_neg (by omega), if_pos (by omega)])⟩
        · refine ph_bipush (pc := 54) C d_J_sensor_54 (by decide) ?_
          exact ph_iret (pc := 56) C d_J_sensor_56 hr hlk rfl (by omega) (by omega) ⟨(by rw [senS_f (fun q => by have q1 := q.1; have q2 := q.2.1; have q3 := q.2.2.1; have q4 := q.2.2.2; omega)]; exact hI), (by rw [senS_f (fun q => by have q1 := q.1; have q2 := q.2.1; have q3 := q.2.2.1; have q4 := q.2.2.2; omega)]; exact hF), (by rw [senv, if_neg (by omega), if_pos (by omega)])⟩
      · refine ph_bipush (pc := 44) C d_J_sensor_44 (by decide) ?_
        exact ph_iret (pc := 46) C d_J_sensor_46 hr hlk rfl (by omega) (by omega) ⟨(by rw [senS_f (fun q => by have q1 := q.1; have q2 := q.2.1; have q3 := q.2.2.1; have q4 := q.2.2.2; omega)]; exact hI), (by rw [senS_f (fun q => by have q1 := q.1; have q2 := q.2.1; have q3 := q.2.2.1; have q4 := q.2.2.2; omega)]; exact hF), (by rw [senv, if_pos (by omega)])⟩
  · refine ph_lconst (pc := 7) C d_J_sensor_7 0 (by decide) ?_
    refine ph_goto (pc := 8) (tgt := 25) C d_J_sensor_8 (by decide) ?_
    have hbe : bef S = 0 := by first | rw [bef, if_pos (by assumption)] | rw [bef, if_neg (by assumption)]
    refine ph_lstore_n (pc := 25) C d_J_sensor_25 (by decide) rfl ?_
    refine ph_lload_n (pc := 26) C d_J_sensor_26 rfl ?_
    refine ph_lload_n (pc := 27) C d_J_sensor_27 rfl ?_
    refine ph_ldc2 (pc := 28) C d_J_sensor_28 (100) (by decide) tw_63 ?_
    refine ph_ladd (pc := 31) C d_J_sensor_31 ?_
    refine ph_l_lt (pc := 32) (tgt := 44) C d_J_sensor_32 d_J_sensor_33 (by decide) (by omega) (by omega) (fun c32 => ?_) (fun c32 => ?_)
    · refine ph_bipush (pc := 44) C d_J_sensor_44 (by decide) ?_
      exact ph_iret (pc := 46) C d_J_sensor_46 hr hlk rfl (by omega) (by omega) ⟨(by rw [senS_f (fun q => by have q1 := q.1; have q2 := q.2.1; have q3 := q.2.2.1; have q4 := q.2.2.2; omega)]; exact hI), (by rw [senS_f (fun q => by have q1 := q.1; have q2 := q.2.1; have q3 := q.2.2.1; have q4 := q.2.2.2; omega)]; exact hF), (by rw [senv, if_pos (by omega)])⟩
    · refine ph_lload_n (pc := 36) C d_J_sensor_36 rfl ?_
      refine ph_ldc2 (pc := 37) C d_J_sensor_37 (100000) (by decide) tw_64 ?_
      refine ph_l_le (pc := 40) (tgt := 47) C d_J_sensor_40 d_J_sensor_41 (by decide) (by omega) (by omega) (fun c40 => ?_) (fun c40 => ?_)
      · refine ph_aload_n (pc := 47) C d_J_sensor_47 rfl ?_
        refine gt_J_25 (pc := 48) C d_J_sensor_48 (hI.live (g := 0) (i := 0) rfl) hI.ob (z := S 0 0 3) (hI.dat rfl rfl) ?_
        refine ph_if_le (pc := 51) (tgt := 57) C d_J_sensor_51 (by decide) (by omega) (fun c51 => ?_) (fun c51 => ?_)
        · refine ph_aload_n (pc := 57) C d_J_sensor_57 rfl ?_
          refine gt_J_15 (pc := 58) C d_J_sensor_58 (hI.live (g := 0) (i := 0) rfl) hI.ob (z := S 0 0 1) (hI.dat rfl rfl) ?_
          refine ph_bipush (pc := 61) C d_J_sensor_61 (by decide) ?_
          refine ph_icmp_lt (pc := 63) (tgt := 69) C d_J_sensor_63 (by decide) (by omega) (by omega) (fun c63 => ?_) (fun c63 => ?_)
          · refine ph_aload_n (pc := 69) C d_J_sensor_69 rfl ?_
            refine gt_J_11 (pc := 70) C d_J_sensor_70 (hI.live (g := 0) (i := 0) rfl) hI.ob hI.r0 ?_
            refine ph_aload_n (pc := 73) C d_J_sensor_73 rfl ?_
            refine gt_J_15 (pc := 74) C d_J_sensor_74 (hI.live (g := 0) (i := 0) rfl) hI.ob (z := S 0 0 1) (hI.dat rfl rfl) ?_
            obtain ⟨f, hf⟩ : ∃ f : Nat, (f : Int) = S 0 0 1 := ⟨(S 0 0 1).toNat, by omega⟩
            have hn : ¬ LC S 1 f := by simp only [LC]; omega
            refine ph_new (pc := 77) (g := 1) C d_J_sensor_77 f (fun q => hn (hF 1 f (by omega) q)) rfl rfl in_S t_S_ok tw_14 tw_65 tw_3 (fun j hj => by rcases (show j = 0 ∨ j = 1 ∨ j = 2 ∨ j = 3 ∨ j = 4 ∨ j = 5 by omega) with rfl | rfl | rfl | rfl | rfl | rfl <;> rfl) (by decide) (by decide) ?_
            intro a hfresh
            have hLf : ph_Ln L 1 f 1 f := Or.inr ⟨rfl, rfl⟩
            have haf : ph_an ad 1 f a 1 f = a := an_at ad 1 f a
            have h40 : ph_an ad 1 f a 4 0 = ad 4 0 := an_ne _ _ (by omega)
            have h00 : ph_an ad 1 f a 0 0 = o := by rw [an_ne _ _ (by omega)]; exact hI.ob
            have hl0 : ph_Ln L 1 f 0 0 := Or.inl (hI.live (g := 0) (i := 0) rfl)
            refine ph_dup (pc := 80) C d_J_sensor_80 rfl ?_
            refine ph_lload_n (pc := 81) C d_J_sensor_81 rfl ?_
            refine ph_callI (pc := 82) (rest := [.ref a, .int (ph_i (S 0 0 1)), .ref (ad 4 0)]) C d_J_sensor_82 (c_S_init l D dT A KX (ph_Ln L 1 f) (ph_an ad 1 f a) (ph_tn τ 1 f (ph_df [1, 0, 0, 0, 1, 0])) f a hLf haf x) (cwI 1 C.hts (gdI tw_68) rfl rfl rfl (C.hts _ tw_3) (C.hts _ tw_66) (C.hts _ tw_67) rfl (by decide) ⟨by decide, by decide⟩) rfl rfl (Nat.le_of_ble_eq_true rfl) ⟨by decide, by decide⟩ ?_
            rintro r1 L1 ad1 τ2 ⟨g1, g2, g3, g4⟩; subst g1; subst g2; subst g4
            have hq : ∀ g i q, ¬ (g = 1 ∧ i = f) → τ2 g i q = τ g i q := fun g i q hz => by rw [g3, ph_up_no _ _ (by omega), ph_up_no _ _ (by omega), ph_up_no _ _ (by omega), ph_up_no _ _ (by omega), ph_up_no _ _ (by omega), ph_up_no _ _ (by omega), tn_ne _ _ hz]
            have hv : ∀ q, q < 6 → τ2 1 f q = svl x q := fun q hq2 => by rw [g3]; rcases (show q = 0 ∨ q = 1 ∨ q = 2 ∨ q = 3 ∨ q = 4 ∨ q = 5 by omega) with rfl | rfl | rfl | rfl | rfl | rfl <;> simp [ph_up, svl]
            refine ph_aast (pc := 85) (t := 0) C (Or.inl (hI.live (g := 4) (i := 0) rfl)) h40 rfl rfl hLf haf rfl rfl f hf.symm (by omega) (by decide) d_J_sensor_85 ?_
            refine ph_aload_n (pc := 86) C d_J_sensor_86 rfl ?_
            refine ph_dup (pc := 87) C d_J_sensor_87 rfl ?_
            refine gt_J_15 (pc := 88) (z := S 0 0 1) C d_J_sensor_88 hl0 h00 (by rw [up_ne _ (by decide), hq _ _ _ (by omega)]; exact hI.dat rfl rfl) ?_
            refine ph_iconst (pc := 91) C d_J_sensor_91 ?_
            refine ph_iadd (pc := 92) C d_J_sensor_92 ?_
            refine pt_J_15 (pc := 93) C d_J_sensor_93 hl0 h00 ?_
            refine ph_aload_n (pc := 96) C d_J_sensor_96 rfl ?_
            refine gt_J_15 (pc := 97) C d_J_sensor_97 hl0 h00 (ph_up_at _ _ _ _ _) ?_
            refine ph_iconst (pc := 100) C d_J_sensor_100 ?_
            refine ph_isub (pc := 101) C d_J_sensor_101 ?_
            exact ph_iret (pc := 102) C d_J_sensor_102 hr hlk rfl (by decide) (by decide) ⟨(by rw [senS_t ⟨by omega, by omega, by omega, by omega⟩]; exact hI.addS (by omega) hf (fun g i q => Or.inl q) (fun g i q => an_ne _ _ (fun z => hn (by obtain ⟨rfl, rfl⟩ := z; exact q))) hLf (fun g i q z1 z2 z3 => by rw [ph_up_no _ _ z1, ph_up_no _ _ z2, hq g i q z3]) (ph_up_at _ _ _ _ _) (by rw [up_ne _ (by decide), ph_up_at, haf]) (fun q hq2 => by rw [up_ne _ (by decide), up_ne _ (by decide)]; exact hv q hq2)), (by rw [senS_t ⟨by omega, by omega, by omega, by omega⟩]; exact hF.addS (by omega) _ hf), (by rw [senv, if_neg (by omega), if_neg (by omega), if_neg (by omega), show S 0 0 1 + 1 - 1 = S 0 0 1 by omega])⟩
          · refine ph_bipush (pc := 66) C d_J_sensor_66 (by decide) ?_
            exact ph_iret (pc := 68) C d_J_sensor_68 hr hlk rfl (by omega) (by omega) ⟨(by rw [senS_f (fun q => by have q1 := q.1; have q2 := q.2.1; have q3 := q.2.2.1; have q4 := q.2.2.2; omega)]; exact hI), (by rw [senS_f (fun q => by have q1 := q.1; have q2 := q.2.1; have q3 := q.2.2.1; have q4 := q.2.2.2; omega)]; exact hF), (by rw [senv, if_neg (by omega), if_neg (by omega), if_pos (by omega)])⟩
        · refine ph_bipush (pc := 54) C d_J_sensor_54 (by decide) ?_
          exact ph_iret (pc := 56) C d_J_sensor_56 hr hlk rfl (by omega) (by omega) ⟨(by rw [senS_f (fun q => by have q1 := q.1; have q2 := q.2.1; have q3 := q.2.2.1; have q4 := q.2.2.2; omega)]; exact hI), (by rw [senS_f (fun q => by have q1 := q.1; have q2 := q.2.1; have q3 := q.2.2.1; have q4 := q.2.2.2; omega)]; exact hF), (by rw [senv, if_neg (by omega), if_pos (by omega)])⟩
      · refine ph_bipush (pc := 44) C d_J_sensor_44 (by decide) ?_
        exact ph_iret (pc := 46) C d_J_sensor_46 hr hlk rfl (by omega) (by omega) ⟨(by rw [senS_f (fun q => by have q1 := q.1; have q2 := q.2.1; have q3 := q.2.2.1; have q4 := q.2.2.2; omega)]; exact hI), (by rw [senS_f (fun q => by have q1 := q.1; have q2 := q.2.1; have q3 := q.2.2.1; have q4 := q.2.2.2; omega)]; exact hF), (by rw [senv, if_pos (by omega)])⟩
set_option maxHeartbeats 4000000 in
set_option maxRecDepth 100000 in
theorem c_J_item (l : Launch) (D : va_G) (dT : Nat → ClassId) (A : Nat → Prop) (KX : State → Prop) (L : Nat → Nat → Prop) (ad : Nat → Nat → Nat) (τ : ph_T) (S : ph_T) (o : Nat) (hI : JR S o L ad τ) (hV : IV S) (hF : JF S L) (x t : Int) (hx : ph_rl x) (ht : ph_rl t) : ph_M l y_J_item (.code y_J_item b_J_item 5 (some .int) :: TB) ({ frames := 2, cells := 1, slots := 7, locals := 36 } : Room) D CLs (TY dT) dT kd A KX [.ref (o), .long (ph_l (x)), .long (ph_l (t))] L ad τ (fun r L' ad' τ' => JR (itS S x t) o L' ad' τ' ∧ JF (itS S x t) L' ∧ r = some (.int (ph_i (itv S x t)))) 1 7 := by
  refine ph_M.of (cc := b_J_item) (maxL := 5) (ret := (some .int)) (by decide) rfl (Nat.le_of_ble_eq_true rfl) ?_
  intro p e s m below meth c C0 hr hlk hnm
  have C := C0.sub
  refine ph_loc (l2 := [(0, .ref (o)), (1, .long (ph_l (x))), (3, .long (ph_l (t)))]) ⟨rfl, rfl, rfl, trivial⟩ ?_
  have hc := hV.c
  have her := earliest_r hV
  refine ph_lload_n (pc := 0) C d_J_item_0 rfl ?_
  refine ph_ldc2 (pc := 1) C d_J_item_1 (50) (by decide) tw_99 ?_
  refine ph_l_lt (pc := 4) (tgt := 33) C d_J_item_4 d_J_item_5 (by decide) (by omega) (by omega) (fun c4 => ?_) (fun c4 => ?_)
  · refine ph_bipush (pc := 33) C d_J_item_33 (by decide) ?_
    exact ph_iret (pc := 35) C d_J_item_35 hr hlk rfl (by omega) (by omega) ⟨(by rw [itS_f (fun q => by first | exact absurd q.1.2.2.1 (by assumption) | exact absurd q.2.1.1 (by assumption) | exact absurd (by assumption) q.2.1.2 | (have q1 := q.1.1; have q2 := q.1.2.1; have q3 := q.1.2.2.2; have q4 := q.2.2; omega))]; exact hI), (by rw [itS_f (fun q => by first | exact absurd q.1.2.2.1 (by assumption) | exact absurd q.2.1.1 (by assumption) | exact absurd (by assumption) q.2.1.2 | (have q1 := q.1.1; have q2 := q.1.2.1; have q3 := q.1.2.2.2; have q4 := q.2.2; omega))]; exact hF), (by rw [itv, if_pos (fun q => by first | exact absurd q.2.2.1 (by assumption) | (have q1 := q.1; have q2 := q.2.1; have q3 := q.2.2.2; omega))])⟩
  · refine ph_lload_n (pc := 8) C d_J_item_8 rfl ?_
    refine ph_ldc2 (pc := 9) C d_J_item_9 (1000) (by decide) tw_100 ?_
    refine ph_l_gt (pc := 12) (tgt := 33) C d_J_item_12 d_J_item_13 (by decide) (by omega) (by omega) (fun c12 => ?_) (fun c12 => ?_)
    · refine ph_bipush (pc := 33) C d_J_item_33 (by decide) ?_
      exact ph_iret (pc := 35) C d_J_item_35 hr hlk rfl (by omega) (by omega) ⟨(by rw [itS_f (fun q => by first | exact absurd q.1.2.2.1 (by assumption) | exact absurd q.2.1.1 (by assumption) | exact absurd (by assumption) q.2.1.2 | (have q1 := q.1.1; have q2 := q.1.2.1; have q3 := q.1.2.2.2; have q4 := q.2.2; omega))]; exact hI), (by rw [itS_f (fun q => by first | exact absurd q.1.2.2.1 (by assumption) | exact absurd q.2.1.1 (by assumption) | exact absurd (by assumption) q.2.1.2 | (have q1 := q.1.1; have q2 := q.1.2.1; have q3 := q.1.2.2.2; have q4 := q.2.2; omega))]; exact hF), (by rw [itv, if_pos (fun q => by first | exact absurd q.2.2.1 (by assumption) | (have q1 := q.1; have q2 := q.2.1; have q3 := q.2.2.2; omega))])⟩
    · refine ph_aload_n (pc := 16) C d_J_item_16 rfl ?_
      refine ph_lload_n (pc := 17) C d_J_item_17 rfl ?_
      refine ph_callV (pc := 18) (rest := []) C d_J_item_18 (c_J_isTime l D dT A KX L ad τ S o hI hV t ht) (cwV 1 C.hts (gdV tw_101 tw_103 se_0 tw_1 tw_104) rfl rfl rfl ⟨rfl, by decide, by decide, by decide⟩ ⟨by decide, by decide⟩) (hI.live (g := 0) (i := 0) rfl) hI.ob rfl rfl rfl rfl rfl (Nat.le_of_ble_eq_true rfl) ⟨by decide, by decide⟩ ?_
      rintro r1 L1 ad1 τ1 ⟨g1, g2, g3, g4⟩; obtain rfl := g1.symm; obtain rfl := g2.symm; obtain rfl := g3.symm; subst g4
      refine ph_bif_eq (pc := 21) (tgt := 33) C d_J_item_21 (by decide) (fun c21 => ?_) (fun c21 => ?_)
      · refine ph_bipush (pc := 33) C d_J_item_33 (by decide) ?_
        exact ph_iret (pc := 35) C d_J_item_35 hr hlk rfl (by omega) (by omega) ⟨(by rw [itS_f (fun q => by first | exact absurd q.1.2.2.1 (by assumption) | exact absurd q.2.1.1 (by assumption) | exact absurd (by assumption) q.2.1.2 | (have q1 := q.1.1; have q2 := q.1.2.1; have q3 := q.1.2.2.2; have q4 := q.2.2; omega))]; exact hI), (by rw [itS_f (fun q => by first | exact absurd q.1.2.2.1 (by assumption) | exact absurd q.2.1.1 (by assumption) | exact absurd (by assumption) q.2.1.2 | (have q1 := q.1.1; have q2 := q.1.2.1; have q3 := q.1.2.2.2; have q4 := q.2.2; omega))]; exact hF), (by rw [itv, if_pos (fun q => by first | exact absurd q.2.2.1 (by assumption) | (have q1 := q.1; have q2 := q.2.1; have q3 := q.2.2.2; omega))])⟩
      · refine ph_lload_n (pc := 24) C d_J_item_24 rfl ?_
        refine ph_aload_n (pc := 25) C d_J_item_25 rfl ?_
        refine ph_callV (pc := 26) (rest := [.long (ph_l (t))]) C d_J_item_26 (c_J_earliestHead l D dT A KX L ad τ S o hI hV) (cwV 0 C.hts (gdV tw_106 tw_108 se_1 tw_1 tw_109) rfl rfl rfl ⟨rfl, by decide, by decide, by decide⟩ ⟨by decide, by decide⟩) (hI.live (g := 0) (i := 0) rfl) hI.ob rfl rfl rfl rfl rfl (Nat.le_of_ble_eq_true rfl) ⟨by decide, by decide⟩ ?_
        rintro r1 L1 ad1 τ1 ⟨g1, g2, g3, g4⟩; obtain rfl := g1.symm; obtain rfl := g2.symm; obtain rfl := g3.symm; subst g4
        refine ph_l_ge (pc := 29) (tgt := 36) C d_J_item_29 d_J_item_30 (by decide) (by omega) (by omega) (fun c29 => ?_) (fun c29 => ?_)
        · refine ph_aload_n (pc := 36) C d_J_item_36 rfl ?_
          refine ph_callV (pc := 37) (rest := []) C d_J_item_37 (c_J_goesOn l D dT A KX L ad τ S o hI hV) (cwV 0 C.hts (gdV tw_111 tw_112 tw_113 tw_1 tw_114) rfl rfl rfl ⟨rfl, by decide, by decide, by decide⟩ ⟨by decide, by decide⟩) (hI.live (g := 0) (i := 0) rfl) hI.ob rfl rfl rfl rfl rfl (Nat.le_of_ble_eq_true rfl) ⟨by decide, by decide⟩ ?_
          rintro r1 L1 ad1 τ1 ⟨g1, g2, g3, g4⟩; obtain rfl := g1.symm; obtain rfl := g2.symm; obtain rfl := g3.symm; subst g4
          refine ph_bif_eq (pc := 40) (tgt := 50) C d_J_item_40 (by decide) (fun c40 => ?_) (fun c40 => ?_)
          · refine ph_bipush (pc := 50) C d_J_item_50 (by decide) ?_
            exact ph_iret (pc := 52) C d_J_item_52 hr hlk rfl (by omega) (by omega) ⟨(by rw [itS_f (fun q => by first | exact absurd q.1.2.2.1 (by assumption) | exact absurd q.2.1.1 (by assumption) | exact absurd (by assumption) q.2.1.2 | (have q1 := q.1.1; have q2 := q.1.2.1; have q3 := q.1.2.2.2; have q4 := q.2.2; omega))]; exact hI), (by rw [itS_f (fun q => by first | exact absurd q.1.2.2.1 (by assumption) | exact absurd q.2.1.1 (by assumption) | exact absurd (by assumption) q.2.1.2 | (have q1 := q.1.1; have q2 := q.1.2.1; have q3 := q.1.2.2.2; have q4 := q.2.2; omega))]; exact hF), (by rw [itv, if_neg (not_not_intro ⟨by omega, by omega, by assumption, by omega⟩), if_neg (fun q => by first | exact absurd q.1 (by assumption) | exact absurd (by assumption) q.2)])⟩
          · refine ph_aload_n (pc := 43) C d_J_item_43 rfl ?_
            refine gt_J_15 (pc := 44) C d_J_item_44 (hI.live (g := 0) (i := 0) rfl) hI.ob (z := S 0 0 1) (hI.dat rfl rfl) ?_
            refine ph_if_ne (pc := 47) (tgt := 53) C d_J_item_47 (by decide) (by omega) (fun c47 => ?_) (fun c47 => ?_)
            · refine ph_aload_n (pc := 53) C d_J_item_53 rfl ?_
              refine gt_J_25 (pc := 54) C d_J_item_54 (hI.live (g := 0) (i := 0) rfl) hI.ob (z := S 0 0 3) (hI.dat rfl rfl) ?_
              refine ph_bipush (pc := 57) C d_J_item_57 (by decide) ?_
              refine ph_icmp_lt (pc := 59) (tgt := 65) C d_J_item_59 (by decide) (by omega) (by omega) (fun c59 => ?_) (fun c59 => ?_)
              · refine ph_aload_n (pc := 65) C d_J_item_65 rfl ?_
                refine ph_dup (pc := 66) C d_J_item_66 rfl ?_
                refine gt_J_25 (pc := 67) C d_J_item_67 (hI.live (g := 0) (i := 0) rfl) hI.ob (z := S 0 0 3) (hI.dat rfl rfl) ?_
                refine ph_iconst (pc := 70) C d_J_item_70 ?_
                refine ph_iadd (pc := 71) C d_J_item_71 ?_
                obtain ⟨f, hf⟩ : ∃ f : Nat, (f : Int) = S 0 0 3 + 1 := ⟨(S 0 0 3 + 1).toNat, by omega⟩
                have hn : ¬ LC S 2 f := by simp only [LC]; omega
                refine pt_J_25 (pc := 72) C d_J_item_72 (hI.live (g := 0) (i := 0) rfl) hI.ob ?_
                refine ph_aload_n (pc := 75) C d_J_item_75 rfl ?_
                refine gt_J_21 (pc := 76) C d_J_item_76 (hI.live (g := 0) (i := 0) rfl) hI.ob (by rw [ph_up_no _ _ (by decide)]; exact hI.r2) ?_
                refine ph_aload_n (pc := 79) C d_J_item_79 rfl ?_
                refine gt_J_25 (pc := 80) C d_J_item_80 (hI.live (g := 0) (i := 0) rfl) hI.ob (ph_up_at _ _ _ _ _) ?_
                refine ph_new (pc := 83) (g := 2) C d_J_item_83 f (fun q => hn (hF 2 f (by omega) q)) rfl rfl in_I t_I_ok tw_16 tw_115 tw_4 (fun j hj => by rcases (show j = 0 ∨ j = 1 ∨ j = 2 ∨ j = 3 ∨ j = 4 ∨ j = 5 ∨ j = 6 by omega) with rfl | rfl | rfl | rfl | rfl | rfl | rfl <;> rfl) (by decide) (by decide) ?_
                intro a hfresh
                have hLf : ph_Ln L 2 f 2 f := Or.inr ⟨rfl, rfl⟩
                have haf : ph_an ad 2 f a 2 f = a := an_at ad 2 f a
                have h50 : ph_an ad 2 f a 5 0 = ad 5 0 := an_ne _ _ (by omega)
                have h00 : ph_an ad 2 f a 0 0 = o := by rw [an_ne _ _ (by omega)]; exact hI.ob
                have hl0 : ph_Ln L 2 f 0 0 := Or.inl (hI.live (g := 0) (i := 0) rfl)
                refine ph_dup (pc := 86) C d_J_item_86 rfl ?_
                refine ph_lload_n (pc := 87) C d_J_item_87 rfl ?_
                refine ph_lload_n (pc := 88) C d_J_item_88 rfl ?_
                refine ph_callI (pc := 89) (rest := [.ref a, .int (ph_i (S 0 0 3 + 1)), .ref (ad 5 0)]) C d_J_item_89 (c_I_init l D dT A KX (ph_Ln L 2 f) (ph_an ad 2 f a) (ph_tn (ph_up τ 0 0 3 (S 0 0 3 + 1)) 2 f (ph_df [1, 1, 0, 0, 0, 0, 0])) f a hLf haf x t) (cwI 2 C.hts (gdI tw_118) rfl rfl rfl (C.hts _ tw_4) (C.hts _ tw_116) (C.hts _ tw_117) rfl (by decide) ⟨by decide, by decide⟩) rfl rfl (Nat.le_of_ble_eq_true rfl) ⟨by decide, by decide⟩ ?_
                rintro r1 L1 ad1 τ2 ⟨g1, g2, g3, g4⟩; subst g1; subst g2; subst g4
                have hq : ∀ g i q, ¬ (g = 2 ∧ i = f) → τ2 g i q = ph_up τ 0 0 3 (S 0 0 3 + 1) g i q := fun g i q hz => by rw [g3, ph_up_no _ _ (by omega), ph_up_no _ _ (by omega), ph_up_no _ _ (by omega), ph_up_no _ _ (by omega), ph_up_no _ _ (by omega), ph_up_no _ _ (by omega), ph_up_no _ _ (by omega), tn_ne _ _ hz]
                have hv : ∀ q, q < 7 → τ2 2 f q = ivl x t q := fun q hq2 => by rw [g3]; rcases (show q = 0 ∨ q = 1 ∨ q = 2 ∨ q = 3 ∨ q = 4 ∨ q = 5 ∨ q = 6 by omega) with rfl | rfl | rfl | rfl | rfl | rfl | rfl <;> simp [ph_up, ivl]
                refine ph_aast (pc := 92) (t := 1) C (Or.inl (hI.live (g := 5) (i := 0) rfl)) h50 rfl rfl hLf haf rfl rfl f hf.symm (by omega) (by decide) d_J_item_92 ?_
                refine ph_aload_n (pc := 93) C d_J_item_93 rfl ?_
                refine gt_J_25 (pc := 94) (z := S 0 0 3 + 1) C d_J_item_94 hl0 h00 (by rw [up_ne _ (by decide), hq _ _ _ (by omega)]; exact ph_up_at _ _ _ _ _) ?_
                exact ph_iret (pc := 97) C d_J_item_97 hr hlk rfl (by decide) (by decide) ⟨(by rw [itS_t ⟨⟨by omega, by omega, by assumption, by omega⟩, ⟨by assumption, by assumption⟩, by omega⟩]; exact hI.addI (by omega) hf (fun g i q => Or.inl q) (fun g i q => an_ne _ _ (fun z => hn (by obtain ⟨rfl, rfl⟩ := z; exact q))) hLf (fun g i q z1 z2 z3 => by rw [ph_up_no _ _ z2, hq g i q z3, ph_up_no _ _ z1]) (by rw [up_ne _ (by decide), hq _ _ _ (by omega)]; exact ph_up_at _ _ _ _ _) (by rw [ph_up_at, haf]) (fun q hq2 => by rw [up_ne _ (by decide)]; exact hv q hq2)), (by rw [itS_t ⟨⟨by omega, by omega, by assumption, by omega⟩, ⟨by assumption, by assumption⟩, by omega⟩]; exact hF.addI (by omega) _ hf), (by rw [itv, if_neg (not_not_intro ⟨by omega, by omega, by assumption, by omega⟩), if_pos ⟨by assumption, by assumption⟩, if_neg (by omega)])⟩
              · refine ph_bipush (pc := 62) C d_J_item_62 (by decide) ?_
                exact ph_iret (pc := 64) C d_J_item_64 hr hlk rfl (by omega) (by omega) ⟨(by rw [itS_f (fun q => by first | exact absurd q.1.2.2.1 (by assumption) | exact absurd q.2.1.1 (by assumption) | exact absurd (by assumption) q.2.1.2 | (have q1 := q.1.1; have q2 := q.1.2.1; have q3 := q.1.2.2.2; have q4 := q.2.2; omega))]; exact hI), (by rw [itS_f (fun q => by first | exact absurd q.1.2.2.1 (by assumption) | exact absurd q.2.1.1 (by assumption) | exact absurd (by assumption) q.2.1.2 | (have q1 := q.1.1; have q2 := q.1.2.1; have q3 := q.1.2.2.2; have q4 := q.2.2; omega))]; exact hF), (by rw [itv, if_neg (not_not_intro ⟨by omega, by omega, by assumption, by omega⟩), if_pos ⟨by assumption, by assumption⟩, if_pos (by omega)])⟩
            · refine ph_bipush (pc := 50) C d_J_item_50 (by decide) ?_
              exact ph_iret (pc := 52) C d_J_item_52 hr hlk rfl (by omega) (by omega) ⟨(by rw [itS_f (fun q => by first | exact absurd q.1.2.2.1 (by assumption) | exact absurd q.2.1.1 (by assumption) | exact absurd (by assumption) q.2.1.2 | (have q1 := q.1.1; have q2 := q.1.2.1; have q3 := q.1.2.2.2; have q4 := q.2.2; omega))]; exact hI), (by rw [itS_f (fun q => by first | exact absurd q.1.2.2.1 (by assumption) | exact absurd q.2.1.1 (by assumption) | exact absurd (by assumption) q.2.1.2 | (have q1 := q.1.1; have q2 := q.1.2.1; have q3 := q.1.2.2.2; have q4 := q.2.2; omega))]; exact hF), (by rw [itv, if_neg (not_not_intro ⟨by omega, by omega, by assumption, by omega⟩), if_neg (fun q => by first | exact absurd q.1 (by assumption) | exact absurd (by assumption) q.2)])⟩
        · refine ph_bipush (pc := 33) C d_J_item_33 (by decide) ?_
          exact ph_iret (pc := 35) C d_J_item_35 hr hlk rfl (by omega) (by omega) ⟨(by rw [itS_f (fun q => by first | exact absurd q.1.2.2.1 (by assumption) | exact absurd q.2.1.1 (by assumption) | exact absurd (by assumption) q.2.1.2 | (have q1 := q.1.1; have q2 := q.1.2.1; have q3 := q.1.2.2.2; have q4 := q.2.2; omega))]; exact hI), (by rw [itS_f (fun q => by first | exact absurd q.1.2.2.1 (by assumption) | exact absurd q.2.1.1 (by assumption) | exact absurd (by assumption) q.2.1.2 | (have q1 := q.1.1; have q2 := q.1.2.1; have q3 := q.1.2.2.2; have q4 := q.2.2; omega))]; exact hF), (by rw [itv, if_pos (fun q => by first | exact absurd q.2.2.1 (by assumption) | (have q1 := q.1; have q2 := q.2.1; have q3 := q.2.2.2; omega))])⟩
end
section
/-! ===== a new object ===== -/
def S00 : ph_T := fun g _ k => if g = 7 ∧ (k = 5 ∨ k = 6) then 1 else 0
theorem iv_S00 : IV S00 := by
  refine ⟨by decide, fun i hi => ?_, fun i hi => ?_, fun i hi => ?_, fun k hk => ?_, fun k hk => ?_⟩
  · exact absurd hi (by show ¬ (i : Int) < 0; omega)
  · exact absurd hi (by show ¬ (1 ≤ i ∧ (i : Int) ≤ 0); omega)
  · exact absurd hi (by show ¬ (1 ≤ i ∧ (i : Int) ≤ 0); omega)
  · refine ⟨?_, Or.inl rfl⟩
    by_cases h : k = 5 ∨ k = 6
    · exact Or.inr (if_pos ⟨rfl, h⟩)
    · exact Or.inl (if_neg (fun q => h q.2))
  · exact absurd hk (by show ¬ (k : Int) < 0; omega)
set_option maxHeartbeats 4000000 in
set_option maxRecDepth 100000 in
theorem c_J_init (l : Launch) (D : va_G) (dT : Nat → ClassId) (A : Nat → Prop) (KX : State → Prop) (L : Nat → Nat → Prop) (ad : Nat → Nat → Nat) (τ : ph_T) (o : Nat) (aR aT : Nat) (hX : ∀ U, KX U → KJ dT A aR aT U) (hl0 : L 0 0) (ho : ad 0 0 = o) (hN : ∀ g i, g ≠ 0 → g < 10 → ¬ L g i) : ph_M l y_J_init (.code y_J_init b_J_init 1 none :: TB) ({ frames := 1, cells := 6, slots := 184, locals := 12 } : Room) D CLs (TY dT) dT kd A KX [.ref (o)] L ad τ (fun r L' ad' τ' => JR S00 o L' ad' τ' ∧ JF S00 L' ∧ r = none) 6 184 := by
  refine ph_M.of (cc := b_J_init) (maxL := 1) (ret := none) (by decide) rfl (Nat.le_of_ble_eq_true rfl) ?_
  intro p e s m below meth c C0 hr hlk hnm
  have C := C0.sub
  refine ph_loc (l2 := [(0, .ref (o))]) ⟨rfl, trivial⟩ ?_
  have hk9 := hX s C.kx
  refine ph_aload_n (pc := 0) C d_J_init_0 rfl ?_
  refine ph_objInit (pc := 1) C d_J_init_1 tw_11 tw_12 tw_13 (by decide) (by decide) ?_
  refine ph_aload_n (pc := 4) C d_J_init_4 rfl ?_
  refine ph_bipush (pc := 5) C d_J_init_5 (by decide) ?_
  refine ph_newq (pc := 7) (g := 4) (t := 0) C d_J_init_7 0 (hN 4 0 (by decide) (by decide)) rfl rfl tw_14 hk9.2.2.1.1 rfl (by decide) (by decide) (by decide) ?_
  intro x4 hfr
  have hl0 : ph_Ln L 4 0 0 0 := Or.inl hl0
  have ho : ph_an ad 4 0 x4 0 0 = o := (an_ne _ _ (by decide)).trans ho
  have l4 : ph_Ln L 4 0 4 0 := Or.inr ⟨rfl, rfl⟩
  have a4 : ph_an ad 4 0 x4 4 0 = x4 := an_at _ _ _ _
  have t4 : ∀ q, ph_tn τ 4 0 (fun _ => -1) 4 0 q = -1 := fun q => by rw [tn_at]
  have hN : ∀ g i, g ≠ 0 → g < 10 → g ≠ 4 → ¬ ph_Ln L 4 0 g i := fun g i z0 z1 nn q => q.elim (fun q => hN g i z0 z1 q) (fun q => nn q.1)
  generalize ph_Ln L 4 0 = L at hl0 l4 hN ⊢
  generalize ph_an ad 4 0 x4 = ad at ho a4 ⊢
  generalize ph_tn τ 4 0 (fun _ => -1) = τ at t4 ⊢
  refine pt_J_11 (pc := 10) C d_J_init_10 hnm hl0 ho ?_
  have t4 : ∀ q, ph_up τ 0 0 0 ((x4 : Int)) 4 0 q = -1 := fun q => by rw [up_ne _ (by decide)]; exact t4 q
  have f0 : ph_up τ 0 0 0 ((x4 : Int)) 0 0 0 = (x4 : Int) := ph_up_at _ _ _ _ _
  generalize ph_up τ 0 0 0 ((x4 : Int)) = τ at t4 f0 ⊢
  refine ph_aload_n (pc := 13) C d_J_init_13 rfl ?_
  refine ph_iconst (pc := 14) C d_J_init_14 ?_
  refine pt_J_15 (pc := 15) C d_J_init_15 hl0 ho ?_
  have t4 : ∀ q, ph_up τ 0 0 1 (0) 4 0 q = -1 := fun q => by rw [up_ne _ (by decide)]; exact t4 q
  have f0 : ph_up τ 0 0 1 (0) 0 0 0 = (x4 : Int) := by rw [ph_up_no _ _ (by decide)]; exact f0
  have f1 : ph_up τ 0 0 1 (0) 0 0 1 = 0 := ph_up_at _ _ _ _ _
  generalize ph_up τ 0 0 1 (0) = τ at t4 f0 f1 ⊢
  refine ph_aload_n (pc := 18) C d_J_init_18 rfl ?_
  refine ph_bipush (pc := 19) C d_J_init_19 (by decide) ?_
  refine ph_newq (pc := 21) (g := 5) (t := 1) C d_J_init_21 0 (hN 5 0 (by decide) (by decide) (by decide)) rfl rfl tw_16 hk9.2.2.1.2.1 rfl (by decide) (by decide) (by decide) ?_
  intro x5 hfr
  have hl0 : ph_Ln L 5 0 0 0 := Or.inl hl0
  have ho : ph_an ad 5 0 x5 0 0 = o := (an_ne _ _ (by decide)).trans ho
  have l4 : ph_Ln L 5 0 4 0 := Or.inl l4
  have a4 : ph_an ad 5 0 x5 4 0 = x4 := (an_ne _ _ (by decide)).trans a4
  have t4 : ∀ q, ph_tn τ 5 0 (fun _ => -1) 4 0 q = -1 := fun q => by rw [tn_ne _ _ (by decide)]; exact t4 q
  have f0 : ph_tn τ 5 0 (fun _ => -1) 0 0 0 = (x4 : Int) := by rw [tn_ne _ _ (by decide)]; exact f0
  have f1 : ph_tn τ 5 0 (fun _ => -1) 0 0 1 = 0 := by rw [tn_ne _ _ (by decide)]; exact f1
  have l5 : ph_Ln L 5 0 5 0 := Or.inr ⟨rfl, rfl⟩
  have a5 : ph_an ad 5 0 x5 5 0 = x5 := an_at _ _ _ _
  have t5 : ∀ q, ph_tn τ 5 0 (fun _ => -1) 5 0 q = -1 := fun q => by rw [tn_at]
  have hN : ∀ g i, g ≠ 0 → g < 10 → g ≠ 4 → g ≠ 5 → ¬ ph_Ln L 5 0 g i := fun g i z0 z1 n4 nn q => q.elim (fun q => hN g i z0 z1 n4 q) (fun q => nn q.1)
  generalize ph_Ln L 5 0 = L at hl0 l4 l5 hN ⊢
  generalize ph_an ad 5 0 x5 = ad at ho a4 a5 ⊢
  generalize ph_tn τ 5 0 (fun _ => -1) = τ at t4 f0 f1 t5 ⊢
  refine pt_J_21 (pc := 24) C d_J_init_24 hnm hl0 ho ?_
  have t4 : ∀ q, ph_up τ 0 0 2 ((x5 : Int)) 4 0 q = -1 := fun q => by rw [up_ne _ (by decide)]; exact t4 q
  have t5 : ∀ q, ph_up τ 0 0 2 ((x5 : Int)) 5 0 q = -1 := fun q => by rw [up_ne _ (by decide)]; exact t5 q
  have f0 : ph_up τ 0 0 2 ((x5 : Int)) 0 0 0 = (x4 : Int) := by rw [ph_up_no _ _ (by decide)]; exact f0
  have f1 : ph_up τ 0 0 2 ((x5 : Int)) 0 0 1 = 0 := by rw [ph_up_no _ _ (by decide)]; exact f1
  have f2 : ph_up τ 0 0 2 ((x5 : Int)) 0 0 2 = (x5 : Int) := ph_up_at _ _ _ _ _
  generalize ph_up τ 0 0 2 ((x5 : Int)) = τ at t4 t5 f0 f1 f2 ⊢
  refine ph_aload_n (pc := 27) C d_J_init_27 rfl ?_
  refine ph_iconst (pc := 28) C d_J_init_28 ?_
  refine pt_J_25 (pc := 29) C d_J_init_29 hl0 ho ?_
  have t4 : ∀ q, ph_up τ 0 0 3 (0) 4 0 q = -1 := fun q => by rw [up_ne _ (by decide)]; exact t4 q
  have t5 : ∀ q, ph_up τ 0 0 3 (0) 5 0 q = -1 := fun q => by rw [up_ne _ (by decide)]; exact t5 q
  have f0 : ph_up τ 0 0 3 (0) 0 0 0 = (x4 : Int) := by rw [ph_up_no _ _ (by decide)]; exact f0
  have f1 : ph_up τ 0 0 3 (0) 0 0 1 = 0 := by rw [ph_up_no _ _ (by decide)]; exact f1
  have f2 : ph_up τ 0 0 3 (0) 0 0 2 = (x5 : Int) := by rw [ph_up_no _ _ (by decide)]; exact f2
  have f3 : ph_up τ 0 0 3 (0) 0 0 3 = 0 := ph_up_at _ _ _ _ _
  generalize ph_up τ 0 0 3 (0) = τ at t4 t5 f0 f1 f2 f3 ⊢
  refine ph_aload_n (pc := 32) C d_J_init_32 rfl ?_
  refine ph_bipush (pc := 33) C d_J_init_33 (by decide) ?_
  refine ph_newq (pc := 35) (g := 6) (t := 2) C d_J_init_35 0 (hN 6 0 (by decide) (by decide) (by decide) (by decide)) rfl rfl tw_18 hk9.2.2.1.2.2 rfl (by decide) (by decide) (by decide) ?_
  intro x6 hfr
  have hl0 : ph_Ln L 6 0 0 0 := Or.inl hl0
  have ho : ph_an ad 6 0 x6 0 0 = o := (an_ne _ _ (by decide)).trans ho
  have l4 : ph_Ln L 6 0 4 0 := Or.inl l4
  have a4 : ph_an ad 6 0 x6 4 0 = x4 := (an_ne _ _ (by decide)).trans a4
  have t4 : ∀ q, ph_tn τ 6 0 (fun _ => -1) 4 0 q = -1 := fun q => by rw [tn_ne _ _ (by decide)]; exact t4 q
  have l5 : ph_Ln L 6 0 5 0 := Or.inl l5
  have a5 : ph_an ad 6 0 x6 5 0 = x5 := (an_ne _ _ (by decide)).trans a5
  have t5 : ∀ q, ph_tn τ 6 0 (fun _ => -1) 5 0 q = -1 := fun q => by rw [tn_ne _ _ (by decide)]; exact t5 q
  have f0 : ph_tn τ 6 0 (fun _ => -1) 0 0 0 = (x4 : Int) := by rw [tn_ne _ _ (by decide)]; exact f0
  have f1 : ph_tn τ 6 0 (fun _ => -1) 0 0 1 = 0 := by rw [tn_ne _ _ (by decide)]; exact f1
  have f2 : ph_tn τ 6 0 (fun _ => -1) 0 0 2 = (x5 : Int) := by rw [tn_ne _ _ (by decide)]; exact f2
  have f3 : ph_tn τ 6 0 (fun _ => -1) 0 0 3 = 0 := by rw [tn_ne _ _ (by decide)]; exact f3
  have l6 : ph_Ln L 6 0 6 0 := Or.inr ⟨rfl, rfl⟩
  have a6 : ph_an ad 6 0 x6 6 0 = x6 := an_at _ _ _ _
  have t6 : ∀ q, ph_tn τ 6 0 (fun _ => -1) 6 0 q = -1 := fun q => by rw [tn_at]
  have hN : ∀ g i, g ≠ 0 → g < 10 → g ≠ 4 → g ≠ 5 → g ≠ 6 → ¬ ph_Ln L 6 0 g i := fun g i z0 z1 n4 n5 nn q => q.elim (fun q => hN g i z0 z1 n4 n5 q) (fun q => nn q.1)
  generalize ph_Ln L 6 0 = L at hl0 l4 l5 l6 hN ⊢
  generalize ph_an ad 6 0 x6 = ad at ho a4 a5 a6 ⊢
  generalize ph_tn τ 6 0 (fun _ => -1) = τ at t4 t5 f0 f1 f2 f3 t6 ⊢
  refine pt_J_30 (pc := 38) C d_J_init_38 hnm hl0 ho ?_
  have t4 : ∀ q, ph_up τ 0 0 4 ((x6 : Int)) 4 0 q = -1 := fun q => by rw [up_ne _ (by decide)]; exact t4 q
  have t5 : ∀ q, ph_up τ 0 0 4 ((x6 : Int)) 5 0 q = -1 := fun q => by rw [up_ne _ (by decide)]; exact t5 q
  have t6 : ∀ q, ph_up τ 0 0 4 ((x6 : Int)) 6 0 q = -1 := fun q => by rw [up_ne _ (by decide)]; exact t6 q
  have f0 : ph_up τ 0 0 4 ((x6 : Int)) 0 0 0 = (x4 : Int) := by rw [ph_up_no _ _ (by decide)]; exact f0
  have f1 : ph_up τ 0 0 4 ((x6 : Int)) 0 0 1 = 0 := by rw [ph_up_no _ _ (by decide)]; exact f1
  have f2 : ph_up τ 0 0 4 ((x6 : Int)) 0 0 2 = (x5 : Int) := by rw [ph_up_no _ _ (by decide)]; exact f2
  have f3 : ph_up τ 0 0 4 ((x6 : Int)) 0 0 3 = 0 := by rw [ph_up_no _ _ (by decide)]; exact f3
  have f4 : ph_up τ 0 0 4 ((x6 : Int)) 0 0 4 = (x6 : Int) := ph_up_at _ _ _ _ _
  generalize ph_up τ 0 0 4 ((x6 : Int)) = τ at t4 t5 t6 f0 f1 f2 f3 f4 ⊢
  refine ph_aload_n (pc := 41) C d_J_init_41 rfl ?_
  refine ph_iconst (pc := 42) C d_J_init_42 ?_
  refine pt_J_34 (pc := 43) C d_J_init_43 hl0 ho ?_
  have t4 : ∀ q, ph_up τ 0 0 5 (0) 4 0 q = -1 := fun q => by rw [up_ne _ (by decide)]; exact t4 q
  have t5 : ∀ q, ph_up τ 0 0 5 (0) 5 0 q = -1 := fun q => by rw [up_ne _ (by decide)]; exact t5 q
  have t6 : ∀ q, ph_up τ 0 0 5 (0) 6 0 q = -1 := fun q => by rw [up_ne _ (by decide)]; exact t6 q
  have f0 : ph_up τ 0 0 5 (0) 0 0 0 = (x4 : Int) := by rw [ph_up_no _ _ (by decide)]; exact f0
  have f1 : ph_up τ 0 0 5 (0) 0 0 1 = 0 := by rw [ph_up_no _ _ (by decide)]; exact f1
  have f2 : ph_up τ 0 0 5 (0) 0 0 2 = (x5 : Int) := by rw [ph_up_no _ _ (by decide)]; exact f2
  have f3 : ph_up τ 0 0 5 (0) 0 0 3 = 0 := by rw [ph_up_no _ _ (by decide)]; exact f3
  have f4 : ph_up τ 0 0 5 (0) 0 0 4 = (x6 : Int) := by rw [ph_up_no _ _ (by decide)]; exact f4
  have f5 : ph_up τ 0 0 5 (0) 0 0 5 = 0 := ph_up_at _ _ _ _ _
  generalize ph_up τ 0 0 5 (0) = τ at t4 t5 t6 f0 f1 f2 f3 f4 f5 ⊢
  refine ph_aload_n (pc := 46) C d_J_init_46 rfl ?_
  refine ph_iconst (pc := 47) C d_J_init_47 ?_
  refine pt_J_37 (pc := 48) C d_J_init_48 hl0 ho ?_
  have t4 : ∀ q, ph_up τ 0 0 6 (0) 4 0 q = -1 := fun q => by rw [up_ne _ (by decide)]; exact t4 q
  have t5 : ∀ q, ph_up τ 0 0 6 (0) 5 0 q = -1 := fun q => by rw [up_ne _ (by decide)]; exact t5 q
  have t6 : ∀ q, ph_up τ 0 0 6 (0) 6 0 q = -1 := fun q => by rw [up_ne _ (by decide)]; exact t6 q
  have f0 : ph_up τ 0 0 6 (0) 0 0 0 = (x4 : Int) := by rw [ph_up_no _ _ (by decide)]; exact f0
  have f1 : ph_up τ 0 0 6 (0) 0 0 1 = 0 := by rw [ph_up_no _ _ (by decide)]; exact f1
  have f2 : ph_up τ 0 0 6 (0) 0 0 2 = (x5 : Int) := by rw [ph_up_no _ _ (by decide)]; exact f2
  have f3 : ph_up τ 0 0 6 (0) 0 0 3 = 0 := by rw [ph_up_no _ _ (by decide)]; exact f3
  have f4 : ph_up τ 0 0 6 (0) 0 0 4 = (x6 : Int) := by rw [ph_up_no _ _ (by decide)]; exact f4
  have f5 : ph_up τ 0 0 6 (0) 0 0 5 = 0 := by rw [ph_up_no _ _ (by decide)]; exact f5
  have f6 : ph_up τ 0 0 6 (0) 0 0 6 = 0 := ph_up_at _ _ _ _ _
  generalize ph_up τ 0 0 6 (0) = τ at t4 t5 t6 f0 f1 f2 f3 f4 f5 f6 ⊢
  refine ph_aload_n (pc := 51) C d_J_init_51 rfl ?_
  refine ph_bipush (pc := 52) C d_J_init_52 (by decide) ?_
  refine ph_newz (pc := 54) (g := 7) C d_J_init_54 0 (hN 7 0 (by decide) (by decide) (by decide) (by decide) (by decide)) rfl rfl tw_57 rfl (by decide) (by decide) (by decide) rfl ?_
  intro x7 hfr
  have hl0 : ph_Ln L 7 0 0 0 := Or.inl hl0
  have ho : ph_an ad 7 0 x7 0 0 = o := (an_ne _ _ (by decide)).trans ho
  have l4 : ph_Ln L 7 0 4 0 := Or.inl l4
  have a4 : ph_an ad 7 0 x7 4 0 = x4 := (an_ne _ _ (by decide)).trans a4
  have t4 : ∀ q, ph_tn τ 7 0 (fun _ => 0) 4 0 q = -1 := fun q => by rw [tn_ne _ _ (by decide)]; exact t4 q
  have l5 : ph_Ln L 7 0 5 0 := Or.inl l5
  have a5 : ph_an ad 7 0 x7 5 0 = x5 := (an_ne _ _ (by decide)).trans a5
  have t5 : ∀ q, ph_tn τ 7 0 (fun _ => 0) 5 0 q = -1 := fun q => by rw [tn_ne _ _ (by decide)]; exact t5 q
  have l6 : ph_Ln L 7 0 6 0 := Or.inl l6
  have a6 : ph_an ad 7 0 x7 6 0 = x6 := (an_ne _ _ (by decide)).trans a6
  have t6 : ∀ q, ph_tn τ 7 0 (fun _ => 0) 6 0 q = -1 := fun q => by rw [tn_ne _ _ (by decide)]; exact t6 q
  have f0 : ph_tn τ 7 0 (fun _ => 0) 0 0 0 = (x4 : Int) := by rw [tn_ne _ _ (by decide)]; exact f0
  have f1 : ph_tn τ 7 0 (fun _ => 0) 0 0 1 = 0 := by rw [tn_ne _ _ (by decide)]; exact f1
  have f2 : ph_tn τ 7 0 (fun _ => 0) 0 0 2 = (x5 : Int) := by rw [tn_ne _ _ (by decide)]; exact f2
  have f3 : ph_tn τ 7 0 (fun _ => 0) 0 0 3 = 0 := by rw [tn_ne _ _ (by decide)]; exact f3
  have f4 : ph_tn τ 7 0 (fun _ => 0) 0 0 4 = (x6 : Int) := by rw [tn_ne _ _ (by decide)]; exact f4
  have f5 : ph_tn τ 7 0 (fun _ => 0) 0 0 5 = 0 := by rw [tn_ne _ _ (by decide)]; exact f5
  have f6 : ph_tn τ 7 0 (fun _ => 0) 0 0 6 = 0 := by rw [tn_ne _ _ (by decide)]; exact f6
  have l7 : ph_Ln L 7 0 7 0 := Or.inr ⟨rfl, rfl⟩
  have a7 : ph_an ad 7 0 x7 7 0 = x7 := an_at _ _ _ _
  have t7 : ∀ q, ph_tn τ 7 0 (fun _ => 0) 7 0 q = 0 := fun q => by rw [tn_at]
  have hN : ∀ g i, g ≠ 0 → g < 10 → g ≠ 4 → g ≠ 5 → g ≠ 6 → g ≠ 7 → ¬ ph_Ln L 7 0 g i := fun g i z0 z1 n4 n5 n6 nn q => q.elim (fun q => hN g i z0 z1 n4 n5 n6 q) (fun q => nn q.1)
  generalize ph_Ln L 7 0 = L at hl0 l4 l5 l6 l7 hN ⊢
  generalize ph_an ad 7 0 x7 = ad at ho a4 a5 a6 a7 ⊢
  generalize ph_tn τ 7 0 (fun _ => 0) = τ at t4 t5 t6 f0 f1 f2 f3 f4 f5 f6 t7 ⊢
  refine pt_J_40 (pc := 56) C d_J_init_56 hnm hl0 ho ?_
  have t4 : ∀ q, ph_up τ 0 0 7 ((x7 : Int)) 4 0 q = -1 := fun q => by rw [up_ne _ (by decide)]; exact t4 q
  have t5 : ∀ q, ph_up τ 0 0 7 ((x7 : Int)) 5 0 q = -1 := fun q => by rw [up_ne _ (by decide)]; exact t5 q
  have t6 : ∀ q, ph_up τ 0 0 7 ((x7 : Int)) 6 0 q = -1 := fun q => by rw [up_ne _ (by decide)]; exact t6 q
  have t7 : ∀ q, ph_up τ 0 0 7 ((x7 : Int)) 7 0 q = 0 := fun q => by rw [up_ne _ (by decide)]; exact t7 q
  have f0 : ph_up τ 0 0 7 ((x7 : Int)) 0 0 0 = (x4 : Int) := by rw [ph_up_no _ _ (by decide)]; exact f0
  have f1 : ph_up τ 0 0 7 ((x7 : Int)) 0 0 1 = 0 := by rw [ph_up_no _ _ (by decide)]; exact f1
  have f2 : ph_up τ 0 0 7 ((x7 : Int)) 0 0 2 = (x5 : Int) := by rw [ph_up_no _ _ (by decide)]; exact f2
  have f3 : ph_up τ 0 0 7 ((x7 : Int)) 0 0 3 = 0 := by rw [ph_up_no _ _ (by decide)]; exact f3
  have f4 : ph_up τ 0 0 7 ((x7 : Int)) 0 0 4 = (x6 : Int) := by rw [ph_up_no _ _ (by decide)]; exact f4
  have f5 : ph_up τ 0 0 7 ((x7 : Int)) 0 0 5 = 0 := by rw [ph_up_no _ _ (by decide)]; exact f5
  have f6 : ph_up τ 0 0 7 ((x7 : Int)) 0 0 6 = 0 := by rw [ph_up_no _ _ (by decide)]; exact f6
  have f7 : ph_up τ 0 0 7 ((x7 : Int)) 0 0 7 = (x7 : Int) := ph_up_at _ _ _ _ _
  generalize ph_up τ 0 0 7 ((x7 : Int)) = τ at t4 t5 t6 t7 f0 f1 f2 f3 f4 f5 f6 f7 ⊢
  refine ph_aload_n (pc := 59) C d_J_init_59 rfl ?_
  refine ph_bipush (pc := 60) C d_J_init_60 (by decide) ?_
  refine ph_newz (pc := 62) (g := 8) C d_J_init_62 0 (hN 8 0 (by decide) (by decide) (by decide) (by decide) (by decide) (by decide)) rfl rfl tw_57 rfl (by decide) (by decide) (by decide) rfl ?_
  intro x8 hfr
  have hl0 : ph_Ln L 8 0 0 0 := Or.inl hl0
  have ho : ph_an ad 8 0 x8 0 0 = o := (an_ne _ _ (by decide)).trans ho
  have l4 : ph_Ln L 8 0 4 0 := Or.inl l4
  have a4 : ph_an ad 8 0 x8 4 0 = x4 := (an_ne _ _ (by decide)).trans a4
  have t4 : ∀ q, ph_tn τ 8 0 (fun _ => 0) 4 0 q = -1 := fun q => by rw [tn_ne _ _ (by decide)]; exact t4 q
  have l5 : ph_Ln L 8 0 5 0 := Or.inl l5
  have a5 : ph_an ad 8 0 x8 5 0 = x5 := (an_ne _ _ (by decide)).trans a5
  have t5 : ∀ q, ph_tn τ 8 0 (fun _ => 0) 5 0 q = -1 := fun q => by rw [tn_ne _ _ (by decide)]; exact t5 q
  have l6 : ph_Ln L 8 0 6 0 := Or.inl l6
  have a6 : ph_an ad 8 0 x8 6 0 = x6 := (an_ne _ _ (by decide)).trans a6
  have t6 : ∀ q, ph_tn τ 8 0 (fun _ => 0) 6 0 q = -1 := fun q => by rw [tn_ne _ _ (by decide)]; exact t6 q
  have l7 : ph_Ln L 8 0 7 0 := Or.inl l7
  have a7 : ph_an ad 8 0 x8 7 0 = x7 := (an_ne _ _ (by decide)).trans a7
  have t7 : ∀ q, ph_tn τ 8 0 (fun _ => 0) 7 0 q = 0 := fun q => by rw [tn_ne _ _ (by decide)]; exact t7 q
  have f0 : ph_tn τ 8 0 (fun _ => 0) 0 0 0 = (x4 : Int) := by rw [tn_ne _ _ (by decide)]; exact f0
  have f1 : ph_tn τ 8 0 (fun _ => 0) 0 0 1 = 0 := by rw [tn_ne _ _ (by decide)]; exact f1
  have f2 : ph_tn τ 8 0 (fun _ => 0) 0 0 2 = (x5 : Int) := by rw [tn_ne _ _ (by decide)]; exact f2
  have f3 : ph_tn τ 8 0 (fun _ => 0) 0 0 3 = 0 := by rw [tn_ne _ _ (by decide)]; exact f3
  have f4 : ph_tn τ 8 0 (fun _ => 0) 0 0 4 = (x6 : Int) := by rw [tn_ne _ _ (by decide)]; exact f4
  have f5 : ph_tn τ 8 0 (fun _ => 0) 0 0 5 = 0 := by rw [tn_ne _ _ (by decide)]; exact f5
  have f6 : ph_tn τ 8 0 (fun _ => 0) 0 0 6 = 0 := by rw [tn_ne _ _ (by decide)]; exact f6
  have f7 : ph_tn τ 8 0 (fun _ => 0) 0 0 7 = (x7 : Int) := by rw [tn_ne _ _ (by decide)]; exact f7
  have l8 : ph_Ln L 8 0 8 0 := Or.inr ⟨rfl, rfl⟩
  have a8 : ph_an ad 8 0 x8 8 0 = x8 := an_at _ _ _ _
  have t8 : ∀ q, ph_tn τ 8 0 (fun _ => 0) 8 0 q = 0 := fun q => by rw [tn_at]
  have hN : ∀ g i, g ≠ 0 → g < 10 → g ≠ 4 → g ≠ 5 → g ≠ 6 → g ≠ 7 → g ≠ 8 → ¬ ph_Ln L 8 0 g i := fun g i z0 z1 n4 n5 n6 n7 nn q => q.elim (fun q => hN g i z0 z1 n4 n5 n6 n7 q) (fun q => nn q.1)
  generalize ph_Ln L 8 0 = L at hl0 l4 l5 l6 l7 l8 hN ⊢
  generalize ph_an ad 8 0 x8 = ad at ho a4 a5 a6 a7 a8 ⊢
  generalize ph_tn τ 8 0 (fun _ => 0) = τ at t4 t5 t6 t7 f0 f1 f2 f3 f4 f5 f6 f7 t8 ⊢
  refine pt_J_44 (pc := 64) C d_J_init_64 hnm hl0 ho ?_
  have t4 : ∀ q, ph_up τ 0 0 8 ((x8 : Int)) 4 0 q = -1 := fun q => by rw [up_ne _ (by decide)]; exact t4 q
  have t5 : ∀ q, ph_up τ 0 0 8 ((x8 : Int)) 5 0 q = -1 := fun q => by rw [up_ne _ (by decide)]; exact t5 q
  have t6 : ∀ q, ph_up τ 0 0 8 ((x8 : Int)) 6 0 q = -1 := fun q => by rw [up_ne _ (by decide)]; exact t6 q
  have t7 : ∀ q, ph_up τ 0 0 8 ((x8 : Int)) 7 0 q = 0 := fun q => by rw [up_ne _ (by decide)]; exact t7 q
  have t8 : ∀ q, ph_up τ 0 0 8 ((x8 : Int)) 8 0 q = 0 := fun q => by rw [up_ne _ (by decide)]; exact t8 q
  have f0 : ph_up τ 0 0 8 ((x8 : Int)) 0 0 0 = (x4 : Int) := by rw [ph_up_no _ _ (by decide)]; exact f0
  have f1 : ph_up τ 0 0 8 ((x8 : Int)) 0 0 1 = 0 := by rw [ph_up_no _ _ (by decide)]; exact f1
  have f2 : ph_up τ 0 0 8 ((x8 : Int)) 0 0 2 = (x5 : Int) := by rw [ph_up_no _ _ (by decide)]; exact f2
  have f3 : ph_up τ 0 0 8 ((x8 : Int)) 0 0 3 = 0 := by rw [ph_up_no _ _ (by decide)]; exact f3
  have f4 : ph_up τ 0 0 8 ((x8 : Int)) 0 0 4 = (x6 : Int) := by rw [ph_up_no _ _ (by decide)]; exact f4
  have f5 : ph_up τ 0 0 8 ((x8 : Int)) 0 0 5 = 0 := by rw [ph_up_no _ _ (by decide)]; exact f5
  have f6 : ph_up τ 0 0 8 ((x8 : Int)) 0 0 6 = 0 := by rw [ph_up_no _ _ (by decide)]; exact f6
  have f7 : ph_up τ 0 0 8 ((x8 : Int)) 0 0 7 = (x7 : Int) := by rw [ph_up_no _ _ (by decide)]; exact f7
  have f8 : ph_up τ 0 0 8 ((x8 : Int)) 0 0 8 = (x8 : Int) := ph_up_at _ _ _ _ _
  generalize ph_up τ 0 0 8 ((x8 : Int)) = τ at t4 t5 t6 t7 t8 f0 f1 f2 f3 f4 f5 f6 f7 f8 ⊢
  refine ph_aload_n (pc := 67) C d_J_init_67 rfl ?_
  refine ph_bipush (pc := 68) C d_J_init_68 (by decide) ?_
  refine ph_newi (pc := 70) (g := 9) C d_J_init_70 0 (hN 9 0 (by decide) (by decide) (by decide) (by decide) (by decide) (by decide) (by decide)) rfl rfl tw_58 rfl (by decide) (by decide) (by decide) rfl ?_
  intro x9 hfr
  have hl0 : ph_Ln L 9 0 0 0 := Or.inl hl0
  have ho : ph_an ad 9 0 x9 0 0 = o := (an_ne _ _ (by decide)).trans ho
  have l4 : ph_Ln L 9 0 4 0 := Or.inl l4
  have a4 : ph_an ad 9 0 x9 4 0 = x4 := (an_ne _ _ (by decide)).trans a4
  have t4 : ∀ q, ph_tn τ 9 0 (fun _ => 0) 4 0 q = -1 := fun q => by rw [tn_ne _ _ (by decide)]; exact t4 q
  have l5 : ph_Ln L 9 0 5 0 := Or.inl l5
  have a5 : ph_an ad 9 0 x9 5 0 = x5 := (an_ne _ _ (by decide)).trans a5
  have t5 : ∀ q, ph_tn τ 9 0 (fun _ => 0) 5 0 q = -1 := fun q => by rw [tn_ne _ _ (by decide)]; exact t5 q
  have l6 : ph_Ln L 9 0 6 0 := Or.inl l6
  have a6 : ph_an ad 9 0 x9 6 0 = x6 := (an_ne _ _ (by decide)).trans a6
  have t6 : ∀ q, ph_tn τ 9 0 (fun _ => 0) 6 0 q = -1 := fun q => by rw [tn_ne _ _ (by decide)]; exact t6 q
  have l7 : ph_Ln L 9 0 7 0 := Or.inl l7
  have a7 : ph_an ad 9 0 x9 7 0 = x7 := (an_ne _ _ (by decide)).trans a7
  have t7 : ∀ q, ph_tn τ 9 0 (fun _ => 0) 7 0 q = 0 := fun q => by rw [tn_ne _ _ (by decide)]; exact t7 q
  have l8 : ph_Ln L 9 0 8 0 := Or.inl l8
  have a8 : ph_an ad 9 0 x9 8 0 = x8 := (an_ne _ _ (by decide)).trans a8
  have t8 : ∀ q, ph_tn τ 9 0 (fun _ => 0) 8 0 q = 0 := fun q => by rw [tn_ne _ _ (by decide)]; exact t8 q
  have f0 : ph_tn τ 9 0 (fun _ => 0) 0 0 0 = (x4 : Int) := by rw [tn_ne _ _ (by decide)]; exact f0
  have f1 : ph_tn τ 9 0 (fun _ => 0) 0 0 1 = 0 := by rw [tn_ne _ _ (by decide)]; exact f1
  have f2 : ph_tn τ 9 0 (fun _ => 0) 0 0 2 = (x5 : Int) := by rw [tn_ne _ _ (by decide)]; exact f2
  have f3 : ph_tn τ 9 0 (fun _ => 0) 0 0 3 = 0 := by rw [tn_ne _ _ (by decide)]; exact f3
  have f4 : ph_tn τ 9 0 (fun _ => 0) 0 0 4 = (x6 : Int) := by rw [tn_ne _ _ (by decide)]; exact f4
  have f5 : ph_tn τ 9 0 (fun _ => 0) 0 0 5 = 0 := by rw [tn_ne _ _ (by decide)]; exact f5
  have f6 : ph_tn τ 9 0 (fun _ => 0) 0 0 6 = 0 := by rw [tn_ne _ _ (by decide)]; exact f6
  have f7 : ph_tn τ 9 0 (fun _ => 0) 0 0 7 = (x7 : Int) := by rw [tn_ne _ _ (by decide)]; exact f7
  have f8 : ph_tn τ 9 0 (fun _ => 0) 0 0 8 = (x8 : Int) := by rw [tn_ne _ _ (by decide)]; exact f8
  have l9 : ph_Ln L 9 0 9 0 := Or.inr ⟨rfl, rfl⟩
  have a9 : ph_an ad 9 0 x9 9 0 = x9 := an_at _ _ _ _
  have t9 : ∀ q, ph_tn τ 9 0 (fun _ => 0) 9 0 q = 0 := fun q => by rw [tn_at]
  have hN : ∀ g i, g ≠ 0 → g < 10 → g ≠ 4 → g ≠ 5 → g ≠ 6 → g ≠ 7 → g ≠ 8 → g ≠ 9 → ¬ ph_Ln L 9 0 g i := fun g i z0 z1 n4 n5 n6 n7 n8 nn q => q.elim (fun q => hN g i z0 z1 n4 n5 n6 n7 n8 q) (fun q => nn q.1)
  generalize ph_Ln L 9 0 = L at hl0 l4 l5 l6 l7 l8 l9 hN ⊢
  generalize ph_an ad 9 0 x9 = ad at ho a4 a5 a6 a7 a8 a9 ⊢
  generalize ph_tn τ 9 0 (fun _ => 0) = τ at t4 t5 t6 t7 t8 f0 f1 f2 f3 f4 f5 f6 f7 f8 t9 ⊢
  refine pt_J_47 (pc := 72) C d_J_init_72 hnm hl0 ho ?_
  have t4 : ∀ q, ph_up τ 0 0 9 ((x9 : Int)) 4 0 q = -1 := fun q => by rw [up_ne _ (by decide)]; exact t4 q
  have t5 : ∀ q, ph_up τ 0 0 9 ((x9 : Int)) 5 0 q = -1 := fun q => by rw [up_ne _ (by decide)]; exact t5 q
  have t6 : ∀ q, ph_up τ 0 0 9 ((x9 : Int)) 6 0 q = -1 := fun q => by rw [up_ne _ (by decide)]; exact t6 q
  have t7 : ∀ q, ph_up τ 0 0 9 ((x9 : Int)) 7 0 q = 0 := fun q => by rw [up_ne _ (by decide)]; exact t7 q
  have t8 : ∀ q, ph_up τ 0 0 9 ((x9 : Int)) 8 0 q = 0 := fun q => by rw [up_ne _ (by decide)]; exact t8 q
  have t9 : ∀ q, ph_up τ 0 0 9 ((x9 : Int)) 9 0 q = 0 := fun q => by rw [up_ne _ (by decide)]; exact t9 q
  have f0 : ph_up τ 0 0 9 ((x9 : Int)) 0 0 0 = (x4 : Int) := by rw [ph_up_no _ _ (by decide)]; exact f0
  have f1 : ph_up τ 0 0 9 ((x9 : Int)) 0 0 1 = 0 := by rw [ph_up_no _ _ (by decide)]; exact f1
  have f2 : ph_up τ 0 0 9 ((x9 : Int)) 0 0 2 = (x5 : Int) := by rw [ph_up_no _ _ (by decide)]; exact f2
  have f3 : ph_up τ 0 0 9 ((x9 : Int)) 0 0 3 = 0 := by rw [ph_up_no _ _ (by decide)]; exact f3
  have f4 : ph_up τ 0 0 9 ((x9 : Int)) 0 0 4 = (x6 : Int) := by rw [ph_up_no _ _ (by decide)]; exact f4
  have f5 : ph_up τ 0 0 9 ((x9 : Int)) 0 0 5 = 0 := by rw [ph_up_no _ _ (by decide)]; exact f5
  have f6 : ph_up τ 0 0 9 ((x9 : Int)) 0 0 6 = 0 := by rw [ph_up_no _ _ (by decide)]; exact f6
  have f7 : ph_up τ 0 0 9 ((x9 : Int)) 0 0 7 = (x7 : Int) := by rw [ph_up_no _ _ (by decide)]; exact f7
  have f8 : ph_up τ 0 0 9 ((x9 : Int)) 0 0 8 = (x8 : Int) := by rw [ph_up_no _ _ (by decide)]; exact f8
  have f9 : ph_up τ 0 0 9 ((x9 : Int)) 0 0 9 = (x9 : Int) := ph_up_at _ _ _ _ _
  generalize ph_up τ 0 0 9 ((x9 : Int)) = τ at t4 t5 t6 t7 t8 t9 f0 f1 f2 f3 f4 f5 f6 f7 f8 f9 ⊢
  refine ph_aload_n (pc := 75) C d_J_init_75 rfl ?_
  refine ph_iconst (pc := 76) C d_J_init_76 ?_
  refine pt_J_51 (pc := 77) C d_J_init_77 hl0 ho ?_
  have t4 : ∀ q, ph_up τ 0 0 10 (0) 4 0 q = -1 := fun q => by rw [up_ne _ (by decide)]; exact t4 q
  have t5 : ∀ q, ph_up τ 0 0 10 (0) 5 0 q = -1 := fun q => by rw [up_ne _ (by decide)]; exact t5 q
  have t6 : ∀ q, ph_up τ 0 0 10 (0) 6 0 q = -1 := fun q => by rw [up_ne _ (by decide)]; exact t6 q
  have t7 : ∀ q, ph_up τ 0 0 10 (0) 7 0 q = 0 := fun q => by rw [up_ne _ (by decide)]; exact t7 q
  have t8 : ∀ q, ph_up τ 0 0 10 (0) 8 0 q = 0 := fun q => by rw [up_ne _ (by decide)]; exact t8 q
  have t9 : ∀ q, ph_up τ 0 0 10 (0) 9 0 q = 0 := fun q => by rw [up_ne _ (by decide)]; exact t9 q
  have f0 : ph_up τ 0 0 10 (0) 0 0 0 = (x4 : Int) := by rw [ph_up_no _ _ (by decide)]; exact f0
  have f1 : ph_up τ 0 0 10 (0) 0 0 1 = 0 := by rw [ph_up_no _ _ (by decide)]; exact f1
  have f2 : ph_up τ 0 0 10 (0) 0 0 2 = (x5 : Int) := by rw [ph_up_no _ _ (by decide)]; exact f2
  have f3 : ph_up τ 0 0 10 (0) 0 0 3 = 0 := by rw [ph_up_no _ _ (by decide)]; exact f3
  have f4 : ph_up τ 0 0 10 (0) 0 0 4 = (x6 : Int) := by rw [ph_up_no _ _ (by decide)]; exact f4
  have f5 : ph_up τ 0 0 10 (0) 0 0 5 = 0 := by rw [ph_up_no _ _ (by decide)]; exact f5
  have f6 : ph_up τ 0 0 10 (0) 0 0 6 = 0 := by rw [ph_up_no _ _ (by decide)]; exact f6
  have f7 : ph_up τ 0 0 10 (0) 0 0 7 = (x7 : Int) := by rw [ph_up_no _ _ (by decide)]; exact f7
  have f8 : ph_up τ 0 0 10 (0) 0 0 8 = (x8 : Int) := by rw [ph_up_no _ _ (by decide)]; exact f8
  have f9 : ph_up τ 0 0 10 (0) 0 0 9 = (x9 : Int) := by rw [ph_up_no _ _ (by decide)]; exact f9
  have f10 : ph_up τ 0 0 10 (0) 0 0 10 = 0 := ph_up_at _ _ _ _ _
  generalize ph_up τ 0 0 10 (0) = τ at t4 t5 t6 t7 t8 t9 f0 f1 f2 f3 f4 f5 f6 f7 f8 f9 f10 ⊢
  refine ph_aload_n (pc := 80) C d_J_init_80 rfl ?_
  refine ph_lconst (pc := 81) C d_J_init_81 0 (by decide) ?_
  refine pt_J_54 (pc := 82) C d_J_init_82 hl0 ho ?_
  have t4 : ∀ q, ph_up τ 0 0 11 (0) 4 0 q = -1 := fun q => by rw [up_ne _ (by decide)]; exact t4 q
  have t5 : ∀ q, ph_up τ 0 0 11 (0) 5 0 q = -1 := fun q => by rw [up_ne _ (by decide)]; exact t5 q
  have t6 : ∀ q, ph_up τ 0 0 11 (0) 6 0 q = -1 := fun q => by rw [up_ne _ (by decide)]; exact t6 q
  have t7 : ∀ q, ph_up τ 0 0 11 (0) 7 0 q = 0 := fun q => by rw [up_ne _ (by decide)]; exact t7 q
  have t8 : ∀ q, ph_up τ 0 0 11 (0) 8 0 q = 0 := fun q => by rw [up_ne _ (by decide)]; exact t8 q
  have t9 : ∀ q, ph_up τ 0 0 11 (0) 9 0 q = 0 := fun q => by rw [up_ne _ (by decide)]; exact t9 q
  have f0 : ph_up τ 0 0 11 (0) 0 0 0 = (x4 : Int) := by rw [ph_up_no _ _ (by decide)]; exact f0
  have f1 : ph_up τ 0 0 11 (0) 0 0 1 = 0 := by rw [ph_up_no _ _ (by decide)]; exact f1
  have f2 : ph_up τ 0 0 11 (0) 0 0 2 = (x5 : Int) := by rw [ph_up_no _ _ (by decide)]; exact f2
  have f3 : ph_up τ 0 0 11 (0) 0 0 3 = 0 := by rw [ph_up_no _ _ (by decide)]; exact f3
  have f4 : ph_up τ 0 0 11 (0) 0 0 4 = (x6 : Int) := by rw [ph_up_no _ _ (by decide)]; exact f4
  have f5 : ph_up τ 0 0 11 (0) 0 0 5 = 0 := by rw [ph_up_no _ _ (by decide)]; exact f5
  have f6 : ph_up τ 0 0 11 (0) 0 0 6 = 0 := by rw [ph_up_no _ _ (by decide)]; exact f6
  have f7 : ph_up τ 0 0 11 (0) 0 0 7 = (x7 : Int) := by rw [ph_up_no _ _ (by decide)]; exact f7
  have f8 : ph_up τ 0 0 11 (0) 0 0 8 = (x8 : Int) := by rw [ph_up_no _ _ (by decide)]; exact f8
  have f9 : ph_up τ 0 0 11 (0) 0 0 9 = (x9 : Int) := by rw [ph_up_no _ _ (by decide)]; exact f9
  have f10 : ph_up τ 0 0 11 (0) 0 0 10 = 0 := by rw [ph_up_no _ _ (by decide)]; exact f10
  have f11 : ph_up τ 0 0 11 (0) 0 0 11 = 0 := ph_up_at _ _ _ _ _
  generalize ph_up τ 0 0 11 (0) = τ at t4 t5 t6 t7 t8 t9 f0 f1 f2 f3 f4 f5 f6 f7 f8 f9 f10 f11 ⊢
  refine ph_aload_n (pc := 85) C d_J_init_85 rfl ?_
  refine gt_J_40 (pc := 86) C d_J_init_86 hl0 ho f7 ?_
  refine ph_iconst (pc := 89) C d_J_init_89 ?_
  refine ph_iconst (pc := 90) C d_J_init_90 ?_
  refine ph_zast (pc := 91) C d_J_init_91 (by omega) l7 a7 rfl rfl 5 rfl (by decide) (by decide) ?_
  have t4 : ∀ q, ph_up τ 7 0 5 1 4 0 q = -1 := fun q => by rw [up_ne _ (by decide)]; exact t4 q
  have t5 : ∀ q, ph_up τ 7 0 5 1 5 0 q = -1 := fun q => by rw [up_ne _ (by decide)]; exact t5 q
  have t6 : ∀ q, ph_up τ 7 0 5 1 6 0 q = -1 := fun q => by rw [up_ne _ (by decide)]; exact t6 q
  have t8 : ∀ q, ph_up τ 7 0 5 1 8 0 q = 0 := fun q => by rw [up_ne _ (by decide)]; exact t8 q
  have t9 : ∀ q, ph_up τ 7 0 5 1 9 0 q = 0 := fun q => by rw [up_ne _ (by decide)]; exact t9 q
  have f0 : ph_up τ 7 0 5 1 0 0 0 = (x4 : Int) := by rw [up_ne _ (by decide)]; exact f0
  have f1 : ph_up τ 7 0 5 1 0 0 1 = 0 := by rw [up_ne _ (by decide)]; exact f1
  have f2 : ph_up τ 7 0 5 1 0 0 2 = (x5 : Int) := by rw [up_ne _ (by decide)]; exact f2
  have f3 : ph_up τ 7 0 5 1 0 0 3 = 0 := by rw [up_ne _ (by decide)]; exact f3
  have f4 : ph_up τ 7 0 5 1 0 0 4 = (x6 : Int) := by rw [up_ne _ (by decide)]; exact f4
  have f5 : ph_up τ 7 0 5 1 0 0 5 = 0 := by rw [up_ne _ (by decide)]; exact f5
  have f6 : ph_up τ 7 0 5 1 0 0 6 = 0 := by rw [up_ne _ (by decide)]; exact f6
  have f7 : ph_up τ 7 0 5 1 0 0 7 = (x7 : Int) := by rw [up_ne _ (by decide)]; exact f7
  have f8 : ph_up τ 7 0 5 1 0 0 8 = (x8 : Int) := by rw [up_ne _ (by decide)]; exact f8
  have f9 : ph_up τ 7 0 5 1 0 0 9 = (x9 : Int) := by rw [up_ne _ (by decide)]; exact f9
  have f10 : ph_up τ 7 0 5 1 0 0 10 = 0 := by rw [up_ne _ (by decide)]; exact f10
  have f11 : ph_up τ 7 0 5 1 0 0 11 = 0 := by rw [up_ne _ (by decide)]; exact f11
  have t7 : ∀ q, ph_up τ 7 0 5 1 7 0 q = if q = 5 then 1 else 0 := fun q => by rw [up_if]; have h9 := t7 q; grind
  generalize ph_up τ 7 0 5 1 = τ at t4 t5 t6 t8 t9 f0 f1 f2 f3 f4 f5 f6 f7 f8 f9 f10 f11 t7 ⊢
  refine ph_aload_n (pc := 92) C d_J_init_92 rfl ?_
  refine gt_J_40 (pc := 93) C d_J_init_93 hl0 ho f7 ?_
  refine ph_bipush (pc := 96) C d_J_init_96 (by decide) ?_
  refine ph_iconst (pc := 98) C d_J_init_98 ?_
  refine ph_zast (pc := 99) C d_J_init_99 (by omega) l7 a7 rfl rfl 6 rfl (by decide) (by decide) ?_
  have t4 : ∀ q, ph_up τ 7 0 6 1 4 0 q = -1 := fun q => by rw [up_ne _ (by decide)]; exact t4 q
  have t5 : ∀ q, ph_up τ 7 0 6 1 5 0 q = -1 := fun q => by rw [up_ne _ (by decide)]; exact t5 q
  have t6 : ∀ q, ph_up τ 7 0 6 1 6 0 q = -1 := fun q => by rw [up_ne _ (by decide)]; exact t6 q
  have t8 : ∀ q, ph_up τ 7 0 6 1 8 0 q = 0 := fun q => by rw [up_ne _ (by decide)]; exact t8 q
  have t9 : ∀ q, ph_up τ 7 0 6 1 9 0 q = 0 := fun q => by rw [up_ne _ (by decide)]; exact t9 q
  have f0 : ph_up τ 7 0 6 1 0 0 0 = (x4 : Int) := by rw [up_ne _ (by decide)]; exact f0
  have f1 : ph_up τ 7 0 6 1 0 0 1 = 0 := by rw [up_ne _ (by decide)]; exact f1
  have f2 : ph_up τ 7 0 6 1 0 0 2 = (x5 : Int) := by rw [up_ne _ (by decide)]; exact f2
  have f3 : ph_up τ 7 0 6 1 0 0 3 = 0 := by rw [up_ne _ (by decide)]; exact f3
  have f4 : ph_up τ 7 0 6 1 0 0 4 = (x6 : Int) := by rw [up_ne _ (by decide)]; exact f4
  have f5 : ph_up τ 7 0 6 1 0 0 5 = 0 := by rw [up_ne _ (by decide)]; exact f5
  have f6 : ph_up τ 7 0 6 1 0 0 6 = 0 := by rw [up_ne _ (by decide)]; exact f6
  have f7 : ph_up τ 7 0 6 1 0 0 7 = (x7 : Int) := by rw [up_ne _ (by decide)]; exact f7
  have f8 : ph_up τ 7 0 6 1 0 0 8 = (x8 : Int) := by rw [up_ne _ (by decide)]; exact f8
  have f9 : ph_up τ 7 0 6 1 0 0 9 = (x9 : Int) := by rw [up_ne _ (by decide)]; exact f9
  have f10 : ph_up τ 7 0 6 1 0 0 10 = 0 := by rw [up_ne _ (by decide)]; exact f10
  have f11 : ph_up τ 7 0 6 1 0 0 11 = 0 := by rw [up_ne _ (by decide)]; exact f11
  have t7 : ∀ q, ph_up τ 7 0 6 1 7 0 q = S00 7 0 q := fun q => by rw [up_if]; unfold S00; have h9 := t7 q; grind
  generalize ph_up τ 7 0 6 1 = τ at t4 t5 t6 t8 t9 f0 f1 f2 f3 f4 f5 f6 f7 f8 f9 f10 f11 t7 ⊢
  have hz : ∀ g i, LC S00 g i → (g = 0 ∨ g = 4 ∨ g = 5 ∨ g = 6 ∨ g = 7 ∨ g = 8 ∨ g = 9) ∧ i = 0 := fun g i h => by
    unfold LC at h
    split at h
    · exact ⟨Or.inl rfl, h⟩
    · exact absurd h (by show ¬ (i : Int) < 0; omega)
    · exact absurd h (by show ¬ (1 ≤ i ∧ (i : Int) ≤ 0); omega)
    · exact absurd h (by show ¬ (1 ≤ i ∧ (i : Int) ≤ 0); omega)
    all_goals first | exact ⟨by decide, h⟩ | exact h.elim
  have hJ : JR S00 o L ad τ := by
    refine ⟨fun g i h => ?_, ho, fun g i q h hd => ?_, ⟨by rw [f0, a4], by rw [f2, a5], by rw [f4, a6], by rw [f7, a7], by rw [f8, a8], by rw [f9, a9]⟩, fun i h => ?_, fun i h => ?_, fun i h => ?_⟩
    · obtain ⟨hg, rfl⟩ := hz g i h
      rcases hg with rfl | rfl | rfl | rfl | rfl | rfl | rfl
      · exact hl0
      · exact l4
      · exact l5
      · exact l6
      · exact l7
      · exact l8
      · exact l9
    · obtain ⟨hg, rfl⟩ := hz g i h
      rcases hg with rfl | rfl | rfl | rfl | rfl | rfl | rfl
      · have hq : q = 1 ∨ q = 3 ∨ q = 5 ∨ q = 6 ∨ q = 10 ∨ q = 11 := by simp [dp] at hd; omega
        rcases hq with rfl | rfl | rfl | rfl | rfl | rfl
        · exact f1
        · exact f3
        · exact f5
        · exact f6
        · exact f10
        · exact f11
      · cases hd
      · cases hd
      · cases hd
      · exact t7 q
      · exact t8 q
      · exact t9 q
    · exact absurd h (by show ¬ (i : Int) < 0; omega)
    · exact absurd h (by show ¬ (1 ≤ i ∧ (i : Int) ≤ 0); omega)
    · exact absurd h (by show ¬ (1 ≤ i ∧ (i : Int) ≤ 0); omega)
  have hJF : JF S00 L := fun g i hg hl => absurd hl (hN g i (by omega) (by omega) (by omega) (by omega) (by omega) (by omega) (by omega) (by omega))
  exact ph_vret (pc := 100) C d_J_init_100 hr hlk (by decide) (by decide) ⟨hJ, hJF, rfl⟩
end
