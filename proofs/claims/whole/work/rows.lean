section
-- ===== PART A: goes FIRST, ahead of the names: the tables' words, and 'selects' of the private methods out of them =====
/-- a private method of a class that the tables say can be made, by its rows of tables_1 -/
def lw_okq (q : MethodName × Nat) : Prop := (q.1.cls ≠ "java/lang/invoke/MethodHandle" ∧ q.1.cls ≠ "java/lang/invoke/VarHandle") ∧ Cond.instantiable q.1.cls q.2 ∈ tables_1 ∧ Cond.privateMethod q.1 ∈ tables_1 ∧ Cond.instanceMethod q.1 ∈ tables_1
theorem lw_p0 : lw_okq (⟨"AlikeStates", "forgetAnswers", "()V"⟩, 4) := ⟨⟨by decide +kernel, by decide +kernel⟩, List.mem_of_getElem? (i := 9) (by decide +kernel), List.mem_of_getElem? (i := 154) (by decide +kernel), List.mem_of_getElem? (i := 155) (by decide +kernel)⟩
theorem lw_p1 : lw_okq (⟨"AlikeStates", "settledLikeness", "()LAlikeStates$Likeness;"⟩, 4) := ⟨⟨by decide +kernel, by decide +kernel⟩, List.mem_of_getElem? (i := 9) (by decide +kernel), List.mem_of_getElem? (i := 198) (by decide +kernel), List.mem_of_getElem? (i := 199) (by decide +kernel)⟩
theorem lw_p2 : lw_okq (⟨"AlikeStates$Net", "sameColour", "(I)I"⟩, 3) := ⟨⟨by decide +kernel, by decide +kernel⟩, List.mem_of_getElem? (i := 17) (by decide +kernel), List.mem_of_getElem? (i := 210) (by decide +kernel), List.mem_of_getElem? (i := 211) (by decide +kernel)⟩
theorem lw_p3 : lw_okq (⟨"AlikeStates$Likeness", "partsMore", "(I)Z"⟩, 7) := ⟨⟨by decide +kernel, by decide +kernel⟩, List.mem_of_getElem? (i := 34) (by decide +kernel), List.mem_of_getElem? (i := 214) (by decide +kernel), List.mem_of_getElem? (i := 215) (by decide +kernel)⟩
theorem lw_p4 : lw_okq (⟨"AlikeStates$Likeness", "stillAlike", "(II)I"⟩, 7) := ⟨⟨by decide +kernel, by decide +kernel⟩, List.mem_of_getElem? (i := 34) (by decide +kernel), List.mem_of_getElem? (i := 225) (by decide +kernel), List.mem_of_getElem? (i := 226) (by decide +kernel)⟩
theorem lw_p5 : lw_okq (⟨"AlikeStates$Likeness", "movesAlike", "(II)Z"⟩, 7) := ⟨⟨by decide +kernel, by decide +kernel⟩, List.mem_of_getElem? (i := 34) (by decide +kernel), List.mem_of_getElem? (i := 230) (by decide +kernel), List.mem_of_getElem? (i := 231) (by decide +kernel)⟩
theorem lw_p6 : lw_okq (⟨"AlikeStates$Likeness", "numberKinds", "()V"⟩, 7) := ⟨⟨by decide +kernel, by decide +kernel⟩, List.mem_of_getElem? (i := 34) (by decide +kernel), List.mem_of_getElem? (i := 234) (by decide +kernel), List.mem_of_getElem? (i := 235) (by decide +kernel)⟩
theorem lw_p7 : lw_okq (⟨"AlikeStates$Likeness", "leastAlike", "(I)I"⟩, 7) := ⟨⟨by decide +kernel, by decide +kernel⟩, List.mem_of_getElem? (i := 34) (by decide +kernel), List.mem_of_getElem? (i := 238) (by decide +kernel), List.mem_of_getElem? (i := 239) (by decide +kernel)⟩
theorem lw_p8 : lw_okq (⟨"AlikeStates$Likeness", "kindsAmong", "(I)I"⟩, 7) := ⟨⟨by decide +kernel, by decide +kernel⟩, List.mem_of_getElem? (i := 34) (by decide +kernel), List.mem_of_getElem? (i := 287) (by decide +kernel), List.mem_of_getElem? (i := 288) (by decide +kernel)⟩
theorem lw_p9 : lw_okq (⟨"AlikeStates", "settledCover", "()LAlikeStates$Cover;"⟩, 4) := ⟨⟨by decide +kernel, by decide +kernel⟩, List.mem_of_getElem? (i := 9) (by decide +kernel), List.mem_of_getElem? (i := 310) (by decide +kernel), List.mem_of_getElem? (i := 311) (by decide +kernel)⟩
theorem lw_p10 : lw_okq (⟨"AlikeStates$Cover", "shrinks", "()Z"⟩, 4) := ⟨⟨by decide +kernel, by decide +kernel⟩, List.mem_of_getElem? (i := 62) (by decide +kernel), List.mem_of_getElem? (i := 319) (by decide +kernel), List.mem_of_getElem? (i := 320) (by decide +kernel)⟩
theorem lw_p11 : lw_okq (⟨"AlikeStates$Cover", "stillBelow", "(I)I"⟩, 4) := ⟨⟨by decide +kernel, by decide +kernel⟩, List.mem_of_getElem? (i := 62) (by decide +kernel), List.mem_of_getElem? (i := 324) (by decide +kernel), List.mem_of_getElem? (i := 325) (by decide +kernel)⟩
theorem lw_p12 : lw_okq (⟨"AlikeStates$Cover", "canFollow", "(II)Z"⟩, 4) := ⟨⟨by decide +kernel, by decide +kernel⟩, List.mem_of_getElem? (i := 62) (by decide +kernel), List.mem_of_getElem? (i := 329) (by decide +kernel), List.mem_of_getElem? (i := 330) (by decide +kernel)⟩
theorem lw_p13 : lw_okq (⟨"AlikeStates$Game", "countOf", "(III)I"⟩, 6) := ⟨⟨by decide +kernel, by decide +kernel⟩, List.mem_of_getElem? (i := 81) (by decide +kernel), List.mem_of_getElem? (i := 353) (by decide +kernel), List.mem_of_getElem? (i := 354) (by decide +kernel)⟩
theorem lw_p14 : lw_okq (⟨"AlikeStates$Game", "isAttack", "(IIIII)Z"⟩, 6) := ⟨⟨by decide +kernel, by decide +kernel⟩, List.mem_of_getElem? (i := 81) (by decide +kernel), List.mem_of_getElem? (i := 357) (by decide +kernel), List.mem_of_getElem? (i := 358) (by decide +kernel)⟩
theorem lw_p15 : lw_okq (⟨"AlikeStates", "playedAttacks", "(II)I"⟩, 4) := ⟨⟨by decide +kernel, by decide +kernel⟩, List.mem_of_getElem? (i := 9) (by decide +kernel), List.mem_of_getElem? (i := 368) (by decide +kernel), List.mem_of_getElem? (i := 369) (by decide +kernel)⟩
def lw_privs_1 : List (MethodName × Nat) := [(⟨"AlikeStates", "forgetAnswers", "()V"⟩, 4), (⟨"AlikeStates", "settledLikeness", "()LAlikeStates$Likeness;"⟩, 4), (⟨"AlikeStates$Net", "sameColour", "(I)I"⟩, 3), (⟨"AlikeStates$Likeness", "partsMore", "(I)Z"⟩, 7), (⟨"AlikeStates$Likeness", "stillAlike", "(II)I"⟩, 7), (⟨"AlikeStates$Likeness", "movesAlike", "(II)Z"⟩, 7), (⟨"AlikeStates$Likeness", "numberKinds", "()V"⟩, 7), (⟨"AlikeStates$Likeness", "leastAlike", "(I)I"⟩, 7), (⟨"AlikeStates$Likeness", "kindsAmong", "(I)I"⟩, 7), (⟨"AlikeStates", "settledCover", "()LAlikeStates$Cover;"⟩, 4), (⟨"AlikeStates$Cover", "shrinks", "()Z"⟩, 4), (⟨"AlikeStates$Cover", "stillBelow", "(I)I"⟩, 4), (⟨"AlikeStates$Cover", "canFollow", "(II)Z"⟩, 4), (⟨"AlikeStates$Game", "countOf", "(III)I"⟩, 6), (⟨"AlikeStates$Game", "isAttack", "(IIIII)Z"⟩, 6), (⟨"AlikeStates", "playedAttacks", "(II)I"⟩, 4)]
theorem lw_r1 : ∀ q ∈ lw_privs_1, lw_okq q := List.forall_mem_cons.mpr ⟨lw_p0, List.forall_mem_cons.mpr ⟨lw_p1, List.forall_mem_cons.mpr ⟨lw_p2, List.forall_mem_cons.mpr ⟨lw_p3, List.forall_mem_cons.mpr ⟨lw_p4, List.forall_mem_cons.mpr ⟨lw_p5, List.forall_mem_cons.mpr ⟨lw_p6, List.forall_mem_cons.mpr ⟨lw_p7, List.forall_mem_cons.mpr ⟨lw_p8, List.forall_mem_cons.mpr ⟨lw_p9, List.forall_mem_cons.mpr ⟨lw_p10, List.forall_mem_cons.mpr ⟨lw_p11, List.forall_mem_cons.mpr ⟨lw_p12, List.forall_mem_cons.mpr ⟨lw_p13, List.forall_mem_cons.mpr ⟨lw_p14, List.forall_mem_cons.mpr ⟨lw_p15, fun _ h => absurd h List.not_mem_nil⟩⟩⟩⟩⟩⟩⟩⟩⟩⟩⟩⟩⟩⟩⟩⟩
theorem lw_p16 : lw_okq (⟨"AlikeStates$Game", "attackOnce", "()Z"⟩, 6) := ⟨⟨by decide +kernel, by decide +kernel⟩, List.mem_of_getElem? (i := 81) (by decide +kernel), List.mem_of_getElem? (i := 376) (by decide +kernel), List.mem_of_getElem? (i := 377) (by decide +kernel)⟩
theorem lw_p17 : lw_okq (⟨"AlikeStates$Game", "firstOf", "(III)I"⟩, 6) := ⟨⟨by decide +kernel, by decide +kernel⟩, List.mem_of_getElem? (i := 81) (by decide +kernel), List.mem_of_getElem? (i := 380) (by decide +kernel), List.mem_of_getElem? (i := 381) (by decide +kernel)⟩
theorem lw_p18 : lw_okq (⟨"AlikeStates$Game", "bestAnswer", "(II)I"⟩, 6) := ⟨⟨by decide +kernel, by decide +kernel⟩, List.mem_of_getElem? (i := 81) (by decide +kernel), List.mem_of_getElem? (i := 384) (by decide +kernel), List.mem_of_getElem? (i := 385) (by decide +kernel)⟩
theorem lw_p19 : lw_okq (⟨"AlikeStatesModel", "has", "(III)Z"⟩, 12) := ⟨⟨by decide +kernel, by decide +kernel⟩, List.mem_of_getElem? (i := 404) (by decide +kernel), List.mem_of_getElem? (i := 458) (by decide +kernel), List.mem_of_getElem? (i := 459) (by decide +kernel)⟩
theorem lw_p20 : lw_okq (⟨"AlikeStatesModel", "look", "()V"⟩, 12) := ⟨⟨by decide +kernel, by decide +kernel⟩, List.mem_of_getElem? (i := 404) (by decide +kernel), List.mem_of_getElem? (i := 482) (by decide +kernel), List.mem_of_getElem? (i := 483) (by decide +kernel)⟩
theorem lw_p21 : lw_okq (⟨"AlikeStatesModel", "findBreaches", "()V"⟩, 12) := ⟨⟨by decide +kernel, by decide +kernel⟩, List.mem_of_getElem? (i := 404) (by decide +kernel), List.mem_of_getElem? (i := 486) (by decide +kernel), List.mem_of_getElem? (i := 487) (by decide +kernel)⟩
theorem lw_p22 : lw_okq (⟨"AlikeStatesModel", "follows", "(III)Z"⟩, 12) := ⟨⟨by decide +kernel, by decide +kernel⟩, List.mem_of_getElem? (i := 404) (by decide +kernel), List.mem_of_getElem? (i := 490) (by decide +kernel), List.mem_of_getElem? (i := 491) (by decide +kernel)⟩
theorem lw_p23 : lw_okq (⟨"AlikeStatesModel", "answers", "(IIII)Z"⟩, 12) := ⟨⟨by decide +kernel, by decide +kernel⟩, List.mem_of_getElem? (i := 404) (by decide +kernel), List.mem_of_getElem? (i := 494) (by decide +kernel), List.mem_of_getElem? (i := 495) (by decide +kernel)⟩
theorem lw_p24 : lw_okq (⟨"AlikeStatesModel", "findCovers", "()V"⟩, 12) := ⟨⟨by decide +kernel, by decide +kernel⟩, List.mem_of_getElem? (i := 404) (by decide +kernel), List.mem_of_getElem? (i := 498) (by decide +kernel), List.mem_of_getElem? (i := 499) (by decide +kernel)⟩
theorem lw_p25 : lw_okq (⟨"AlikeStatesModel", "matches", "(II)Z"⟩, 12) := ⟨⟨by decide +kernel, by decide +kernel⟩, List.mem_of_getElem? (i := 404) (by decide +kernel), List.mem_of_getElem? (i := 502) (by decide +kernel), List.mem_of_getElem? (i := 503) (by decide +kernel)⟩
theorem lw_p26 : lw_okq (⟨"AlikeStatesModel", "findKinds", "()V"⟩, 12) := ⟨⟨by decide +kernel, by decide +kernel⟩, List.mem_of_getElem? (i := 404) (by decide +kernel), List.mem_of_getElem? (i := 506) (by decide +kernel), List.mem_of_getElem? (i := 507) (by decide +kernel)⟩
theorem lw_p27 : lw_okq (⟨"AlikeStatesModel", "areAlike", "(II)Z"⟩, 12) := ⟨⟨by decide +kernel, by decide +kernel⟩, List.mem_of_getElem? (i := 404) (by decide +kernel), List.mem_of_getElem? (i := 510) (by decide +kernel), List.mem_of_getElem? (i := 511) (by decide +kernel)⟩
theorem lw_p28 : lw_okq (⟨"AlikeStatesModel", "reachOf", "(II)I"⟩, 12) := ⟨⟨by decide +kernel, by decide +kernel⟩, List.mem_of_getElem? (i := 404) (by decide +kernel), List.mem_of_getElem? (i := 534) (by decide +kernel), List.mem_of_getElem? (i := 535) (by decide +kernel)⟩
theorem lw_p29 : lw_okq (⟨"AlikeStatesModel", "isPlayed", "(II)Z"⟩, 12) := ⟨⟨by decide +kernel, by decide +kernel⟩, List.mem_of_getElem? (i := 404) (by decide +kernel), List.mem_of_getElem? (i := 554) (by decide +kernel), List.mem_of_getElem? (i := 555) (by decide +kernel)⟩
theorem lw_p30 : lw_okq (⟨"AlikeStatesModel", "isAttack", "(IIII)Z"⟩, 12) := ⟨⟨by decide +kernel, by decide +kernel⟩, List.mem_of_getElem? (i := 404) (by decide +kernel), List.mem_of_getElem? (i := 558) (by decide +kernel), List.mem_of_getElem? (i := 559) (by decide +kernel)⟩
theorem lw_p31 : lw_okq (⟨"AlikeStatesModel", "playOn", "(II)V"⟩, 12) := ⟨⟨by decide +kernel, by decide +kernel⟩, List.mem_of_getElem? (i := 404) (by decide +kernel), List.mem_of_getElem? (i := 566) (by decide +kernel), List.mem_of_getElem? (i := 567) (by decide +kernel)⟩
def lw_privs_2 : List (MethodName × Nat) := [(⟨"AlikeStates$Game", "attackOnce", "()Z"⟩, 6), (⟨"AlikeStates$Game", "firstOf", "(III)I"⟩, 6), (⟨"AlikeStates$Game", "bestAnswer", "(II)I"⟩, 6), (⟨"AlikeStatesModel", "has", "(III)Z"⟩, 12), (⟨"AlikeStatesModel", "look", "()V"⟩, 12), (⟨"AlikeStatesModel", "findBreaches", "()V"⟩, 12), (⟨"AlikeStatesModel", "follows", "(III)Z"⟩, 12), (⟨"AlikeStatesModel", "answers", "(IIII)Z"⟩, 12), (⟨"AlikeStatesModel", "findCovers", "()V"⟩, 12), (⟨"AlikeStatesModel", "matches", "(II)Z"⟩, 12), (⟨"AlikeStatesModel", "findKinds", "()V"⟩, 12), (⟨"AlikeStatesModel", "areAlike", "(II)Z"⟩, 12), (⟨"AlikeStatesModel", "reachOf", "(II)I"⟩, 12), (⟨"AlikeStatesModel", "isPlayed", "(II)Z"⟩, 12), (⟨"AlikeStatesModel", "isAttack", "(IIII)Z"⟩, 12), (⟨"AlikeStatesModel", "playOn", "(II)V"⟩, 12)]
theorem lw_r2 : ∀ q ∈ lw_privs_2, lw_okq q := List.forall_mem_cons.mpr ⟨lw_p16, List.forall_mem_cons.mpr ⟨lw_p17, List.forall_mem_cons.mpr ⟨lw_p18, List.forall_mem_cons.mpr ⟨lw_p19, List.forall_mem_cons.mpr ⟨lw_p20, List.forall_mem_cons.mpr ⟨lw_p21, List.forall_mem_cons.mpr ⟨lw_p22, List.forall_mem_cons.mpr ⟨lw_p23, List.forall_mem_cons.mpr ⟨lw_p24, List.forall_mem_cons.mpr ⟨lw_p25, List.forall_mem_cons.mpr ⟨lw_p26, List.forall_mem_cons.mpr ⟨lw_p27, List.forall_mem_cons.mpr ⟨lw_p28, List.forall_mem_cons.mpr ⟨lw_p29, List.forall_mem_cons.mpr ⟨lw_p30, List.forall_mem_cons.mpr ⟨lw_p31, fun _ h => absurd h List.not_mem_nil⟩⟩⟩⟩⟩⟩⟩⟩⟩⟩⟩⟩⟩⟩⟩⟩
theorem lw_p32 : lw_okq (⟨"AlikeStatesModel", "firstAttack", "(II)I"⟩, 12) := ⟨⟨by decide +kernel, by decide +kernel⟩, List.mem_of_getElem? (i := 404) (by decide +kernel), List.mem_of_getElem? (i := 570) (by decide +kernel), List.mem_of_getElem? (i := 571) (by decide +kernel)⟩
theorem lw_p33 : lw_okq (⟨"AlikeStatesModel", "answerOf", "(III)I"⟩, 12) := ⟨⟨by decide +kernel, by decide +kernel⟩, List.mem_of_getElem? (i := 404) (by decide +kernel), List.mem_of_getElem? (i := 574) (by decide +kernel), List.mem_of_getElem? (i := 575) (by decide +kernel)⟩
def lw_privs_3 : List (MethodName × Nat) := [(⟨"AlikeStatesModel", "firstAttack", "(II)I"⟩, 12), (⟨"AlikeStatesModel", "answerOf", "(III)I"⟩, 12)]
theorem lw_r3 : ∀ q ∈ lw_privs_3, lw_okq q := List.forall_mem_cons.mpr ⟨lw_p32, List.forall_mem_cons.mpr ⟨lw_p33, fun _ h => absurd h List.not_mem_nil⟩⟩
def lw_privs : List (MethodName × Nat) := lw_privs_1 ++ (lw_privs_2 ++ (lw_privs_3))
def lw_tbl : List Cond := k2_sels lw_privs ++ tables_1
theorem lw_privs_ok : ∀ q ∈ lw_privs, lw_okq q := by
  show ∀ q ∈ lw_privs_1 ++ (lw_privs_2 ++ (lw_privs_3)), lw_okq q
  exact List.forall_mem_append.mpr ⟨lw_r1, List.forall_mem_append.mpr ⟨lw_r2, lw_r3⟩⟩
end
section
def zs_N : String := "AlikeStates$Net"
def zt_N : u_T := fun k => match k with
  | 0 => ("AlikeStates$Net", "targets", "[I", true)
  | 1 => ("AlikeStates$Net", "colours", "[I", true)
  | _ => ("AlikeStates$Net", "count", "I", false)
def zy_N : Nat → FieldType := fun k => match k with
  | 0 => .array .int
  | 1 => .array .int
  | _ => .int
theorem zn_N : ∀ a, a < 3 → ∀ b, b < 3 → a ≠ b → (zt_N a).2.1 ≠ (zt_N b).2.1 := by decide +kernel
theorem zk_N : ∀ k, k < 3 → parseFieldDescriptor (zt_N k).2.2.1 = some (zy_N k) := by decide +kernel
def zs_L : String := "AlikeStates$Likeness"
def zt_L : u_T := fun k => match k with
  | 0 => ("AlikeStates$Likeness", "net", "LAlikeStates$Net;", true)
  | 1 => ("AlikeStates$Likeness", "rows", "[I", true)
  | 2 => ("AlikeStates$Likeness", "unions", "[I", true)
  | 3 => ("AlikeStates$Likeness", "kindOfState", "[I", true)
  | 4 => ("AlikeStates$Likeness", "lastRound", "I", false)
  | 5 => ("AlikeStates$Likeness", "kindCount", "I", false)
  | _ => ("AlikeStates$Likeness", "settled", "Z", false)
def zy_L : Nat → FieldType := fun k => match k with
  | 0 => .object "AlikeStates$Net"
  | 1 => .array .int
  | 2 => .array .int
  | 3 => .array .int
  | 4 => .int
  | 5 => .int
  | _ => .boolean
theorem zn_L : ∀ a, a < 7 → ∀ b, b < 7 → a ≠ b → (zt_L a).2.1 ≠ (zt_L b).2.1 := by decide +kernel
theorem zk_L : ∀ k, k < 7 → parseFieldDescriptor (zt_L k).2.2.1 = some (zy_L k) := by decide +kernel
def zs_C : String := "AlikeStates$Cover"
def zt_C : u_T := fun k => match k with
  | 0 => ("AlikeStates$Cover", "net", "LAlikeStates$Net;", true)
  | 1 => ("AlikeStates$Cover", "below", "[I", true)
  | 2 => ("AlikeStates$Cover", "unions", "[I", true)
  | _ => ("AlikeStates$Cover", "settled", "Z", false)
def zy_C : Nat → FieldType := fun k => match k with
  | 0 => .object "AlikeStates$Net"
  | 1 => .array .int
  | 2 => .array .int
  | _ => .boolean
theorem zn_C : ∀ a, a < 4 → ∀ b, b < 4 → a ≠ b → (zt_C a).2.1 ≠ (zt_C b).2.1 := by decide +kernel
theorem zk_C : ∀ k, k < 4 → parseFieldDescriptor (zt_C k).2.2.1 = some (zy_C k) := by decide +kernel
def zs_G : String := "AlikeStates$Game"
def zt_G : u_T := fun k => match k with
  | 0 => ("AlikeStates$Game", "net", "LAlikeStates$Net;", true)
  | 1 => ("AlikeStates$Game", "likeness", "LAlikeStates$Likeness;", true)
  | 2 => ("AlikeStates$Game", "sides", "[I", true)
  | 3 => ("AlikeStates$Game", "made", "[I", true)
  | 4 => ("AlikeStates$Game", "answered", "[I", true)
  | _ => ("AlikeStates$Game", "length", "I", false)
def zy_G : Nat → FieldType := fun k => match k with
  | 0 => .object "AlikeStates$Net"
  | 1 => .object "AlikeStates$Likeness"
  | 2 => .array .int
  | 3 => .array .int
  | 4 => .array .int
  | _ => .int
theorem zn_G : ∀ a, a < 6 → ∀ b, b < 6 → a ≠ b → (zt_G a).2.1 ≠ (zt_G b).2.1 := by decide +kernel
theorem zk_G : ∀ k, k < 6 → parseFieldDescriptor (zt_G k).2.2.1 = some (zy_G k) := by decide +kernel
def zs_X : String := "AlikeStates"
def zt_X : u_T := fun k => match k with
  | 0 => ("AlikeStates", "net", "LAlikeStates$Net;", true)
  | 1 => ("AlikeStates", "likeness", "LAlikeStates$Likeness;", true)
  | 2 => ("AlikeStates", "cover", "LAlikeStates$Cover;", true)
  | _ => ("AlikeStates", "game", "LAlikeStates$Game;", true)
def zy_X : Nat → FieldType := fun k => match k with
  | 0 => .object "AlikeStates$Net"
  | 1 => .object "AlikeStates$Likeness"
  | 2 => .object "AlikeStates$Cover"
  | _ => .object "AlikeStates$Game"
theorem zn_X : ∀ a, a < 4 → ∀ b, b < 4 → a ≠ b → (zt_X a).2.1 ≠ (zt_X b).2.1 := by decide +kernel
theorem zk_X : ∀ k, k < 4 → parseFieldDescriptor (zt_X k).2.2.1 = some (zy_X k) := by decide +kernel
def zs_M : String := "AlikeStatesModel"
def zt_M : u_T := fun k => match k with
  | 0 => ("AlikeStatesModel", "moves", "[Z", true)
  | 1 => ("AlikeStatesModel", "many", "I", false)
  | 2 => ("AlikeStatesModel", "colours", "[I", true)
  | 3 => ("AlikeStatesModel", "known", "Z", false)
  | 4 => ("AlikeStatesModel", "breaches", "[I", true)
  | 5 => ("AlikeStatesModel", "covered", "[Z", true)
  | 6 => ("AlikeStatesModel", "next", "[Z", true)
  | 7 => ("AlikeStatesModel", "kinds", "I", false)
  | 8 => ("AlikeStatesModel", "kindOf", "[I", true)
  | 9 => ("AlikeStatesModel", "plays", "I", false)
  | 10 => ("AlikeStatesModel", "attacks", "[I", true)
  | _ => ("AlikeStatesModel", "answers", "[I", true)
def zy_M : Nat → FieldType := fun k => match k with
  | 0 => .array .boolean
  | 1 => .int
  | 2 => .array .int
  | 3 => .boolean
  | 4 => .array .int
  | 5 => .array .boolean
  | 6 => .array .boolean
  | 7 => .int
  | 8 => .array .int
  | 9 => .int
  | 10 => .array .int
  | _ => .array .int
theorem zn_M : ∀ a, a < 12 → ∀ b, b < 12 → a ≠ b → (zt_M a).2.1 ≠ (zt_M b).2.1 := by decide +kernel
theorem zk_M : ∀ k, k < 12 → parseFieldDescriptor (zt_M k).2.2.1 = some (zy_M k) := by decide +kernel
abbrev zo_X_init : ByteArray := prog_1_method_1_code
def zm_X_init : MethodName := ⟨zs_X, "<init>", "()V"⟩
abbrev zo_N_init : ByteArray := prog_5_method_1_code
def zm_N_init : MethodName := ⟨zs_N, "<init>", "()V"⟩
abbrev zo_L_init : ByteArray := prog_4_method_1_code
def zm_L_init : MethodName := ⟨zs_L, "<init>", "(LAlikeStates$Net;)V"⟩
abbrev zo_C_init : ByteArray := prog_2_method_1_code
def zm_C_init : MethodName := ⟨zs_C, "<init>", "(LAlikeStates$Net;)V"⟩
abbrev zo_G_init : ByteArray := prog_3_method_1_code
def zm_G_init : MethodName := ⟨zs_G, "<init>", "(LAlikeStates$Net;LAlikeStates$Likeness;)V"⟩
abbrev zo_X_move : ByteArray := prog_1_method_2_code
def zm_X_move : MethodName := ⟨zs_X, "move", "(III)Z"⟩
abbrev zo_X_isMove : ByteArray := prog_1_method_27_code
def zm_X_isMove : MethodName := ⟨zs_X, "isMove", "(III)Z"⟩
abbrev zo_X_areStates : ByteArray := prog_1_method_25_code
def zm_X_areStates : MethodName := ⟨zs_X, "areStates", "(II)Z"⟩
abbrev zo_X_isState : ByteArray := prog_1_method_24_code
def zm_X_isState : MethodName := ⟨zs_X, "isState", "(I)Z"⟩
abbrev zo_X_isLabel : ByteArray := prog_1_method_26_code
def zm_X_isLabel : MethodName := ⟨zs_X, "isLabel", "(I)Z"⟩
abbrev zo_N_holds : ByteArray := prog_5_method_4_code
def zm_N_holds : MethodName := ⟨zs_N, "holds", "(III)Z"⟩
abbrev zo_N_targetsOf : ByteArray := prog_5_method_3_code
def zm_N_targetsOf : MethodName := ⟨zs_N, "targetsOf", "(II)I"⟩
abbrev zo_X_hasBit : ByteArray := prog_1_method_28_code
def zm_X_hasBit : MethodName := ⟨zs_X, "hasBit", "(II)Z"⟩
abbrev zo_N_count : ByteArray := prog_5_method_2_code
def zm_N_count : MethodName := ⟨zs_N, "count", "()I"⟩
abbrev zo_N_put : ByteArray := prog_5_method_5_code
def zm_N_put : MethodName := ⟨zs_N, "put", "(III)V"⟩
abbrev zo_X_forgetAnswers : ByteArray := prog_1_method_21_code
def zm_X_forgetAnswers : MethodName := ⟨zs_X, "forgetAnswers", "()V"⟩
abbrev zo_L_forget : ByteArray := prog_4_method_2_code
def zm_L_forget : MethodName := ⟨zs_L, "forget", "()V"⟩
abbrev zo_C_forget : ByteArray := prog_2_method_2_code
def zm_C_forget : MethodName := ⟨zs_C, "forget", "()V"⟩
abbrev zo_X_drop : ByteArray := prog_1_method_3_code
def zm_X_drop : MethodName := ⟨zs_X, "drop", "(III)Z"⟩
abbrev zo_N_take : ByteArray := prog_5_method_6_code
def zm_N_take : MethodName := ⟨zs_N, "take", "(III)V"⟩
abbrev zo_X_colour : ByteArray := prog_1_method_4_code
def zm_X_colour : MethodName := ⟨zs_X, "colour", "(II)Z"⟩
abbrev zo_N_paint : ByteArray := prog_5_method_7_code
def zm_N_paint : MethodName := ⟨zs_N, "paint", "(II)V"⟩
abbrev zo_X_moves : ByteArray := prog_1_method_5_code
def zm_X_moves : MethodName := ⟨zs_X, "moves", "()I"⟩
abbrev zo_X_clear : ByteArray := prog_1_method_6_code
def zm_X_clear : MethodName := ⟨zs_X, "clear", "()I"⟩
abbrev zo_N_wipe : ByteArray := prog_5_method_8_code
def zm_N_wipe : MethodName := ⟨zs_N, "wipe", "()V"⟩
abbrev zo_X_alike : ByteArray := prog_1_method_7_code
def zm_X_alike : MethodName := ⟨zs_X, "alike", "(II)Z"⟩
abbrev zo_X_settledLikeness : ByteArray := prog_1_method_22_code
def zm_X_settledLikeness : MethodName := ⟨zs_X, "settledLikeness", "()LAlikeStates$Likeness;"⟩
abbrev zo_L_settle : ByteArray := prog_4_method_3_code
def zm_L_settle : MethodName := ⟨zs_L, "settle", "()V"⟩
abbrev zo_N_groupByColour : ByteArray := prog_5_method_9_code
def zm_N_groupByColour : MethodName := ⟨zs_N, "groupByColour", "([I)V"⟩
abbrev zo_N_sameColour : ByteArray := prog_5_method_10_code
def zm_N_sameColour : MethodName := ⟨zs_N, "sameColour", "(I)I"⟩
abbrev zo_L_partsMore : ByteArray := prog_4_method_4_code
def zm_L_partsMore : MethodName := ⟨zs_L, "partsMore", "(I)Z"⟩
abbrev zo_N_unite : ByteArray := prog_5_method_11_code
def zm_N_unite : MethodName := ⟨zs_N, "unite", "([II[I)V"⟩
abbrev zo_N_union : ByteArray := prog_5_method_12_code
def zm_N_union : MethodName := ⟨zs_N, "union", "(I[II)I"⟩
abbrev zo_L_stillAlike : ByteArray := prog_4_method_5_code
def zm_L_stillAlike : MethodName := ⟨zs_L, "stillAlike", "(II)I"⟩
abbrev zo_L_movesAlike : ByteArray := prog_4_method_6_code
def zm_L_movesAlike : MethodName := ⟨zs_L, "movesAlike", "(II)Z"⟩
abbrev zo_L_numberKinds : ByteArray := prog_4_method_7_code
def zm_L_numberKinds : MethodName := ⟨zs_L, "numberKinds", "()V"⟩
abbrev zo_L_leastAlike : ByteArray := prog_4_method_8_code
def zm_L_leastAlike : MethodName := ⟨zs_L, "leastAlike", "(I)I"⟩
abbrev zo_L_alikeFor : ByteArray := prog_4_method_9_code
def zm_L_alikeFor : MethodName := ⟨zs_L, "alikeFor", "(II)I"⟩
abbrev zo_L_breachOf : ByteArray := prog_4_method_10_code
def zm_L_breachOf : MethodName := ⟨zs_L, "breachOf", "(II)I"⟩
abbrev zo_X_breach : ByteArray := prog_1_method_8_code
def zm_X_breach : MethodName := ⟨zs_X, "breach", "(II)I"⟩
abbrev zo_X_kinds : ByteArray := prog_1_method_9_code
def zm_X_kinds : MethodName := ⟨zs_X, "kinds", "()I"⟩
abbrev zo_L_kindCount : ByteArray := prog_4_method_11_code
def zm_L_kindCount : MethodName := ⟨zs_L, "kindCount", "()I"⟩
abbrev zo_X_kind : ByteArray := prog_1_method_10_code
def zm_X_kind : MethodName := ⟨zs_X, "kind", "(I)I"⟩
abbrev zo_L_kindOf : ByteArray := prog_4_method_12_code
def zm_L_kindOf : MethodName := ⟨zs_L, "kindOf", "(I)I"⟩
abbrev zo_X_size : ByteArray := prog_1_method_11_code
def zm_X_size : MethodName := ⟨zs_X, "size", "(I)I"⟩
abbrev zo_L_sizeOf : ByteArray := prog_4_method_13_code
def zm_L_sizeOf : MethodName := ⟨zs_L, "sizeOf", "(I)I"⟩
abbrev zo_X_reach : ByteArray := prog_1_method_12_code
def zm_X_reach : MethodName := ⟨zs_X, "reach", "(II)I"⟩
abbrev zo_L_kindsReached : ByteArray := prog_4_method_14_code
def zm_L_kindsReached : MethodName := ⟨zs_L, "kindsReached", "(II)I"⟩
abbrev zo_L_kindsAmong : ByteArray := prog_4_method_15_code
def zm_L_kindsAmong : MethodName := ⟨zs_L, "kindsAmong", "(I)I"⟩
abbrev zo_X_links : ByteArray := prog_1_method_13_code
def zm_X_links : MethodName := ⟨zs_X, "links", "()I"⟩
abbrev zo_L_linkCount : ByteArray := prog_4_method_16_code
def zm_L_linkCount : MethodName := ⟨zs_L, "linkCount", "()I"⟩
abbrev zo_J_bitCount : ByteArray := prog_8_method_49_code
def zm_J_bitCount : MethodName := ⟨"java/lang/Integer", "bitCount", "(I)I"⟩
abbrev zo_X_covers : ByteArray := prog_1_method_14_code
def zm_X_covers : MethodName := ⟨zs_X, "covers", "(II)Z"⟩
abbrev zo_X_settledCover : ByteArray := prog_1_method_23_code
def zm_X_settledCover : MethodName := ⟨zs_X, "settledCover", "()LAlikeStates$Cover;"⟩
abbrev zo_C_settle : ByteArray := prog_2_method_3_code
def zm_C_settle : MethodName := ⟨zs_C, "settle", "()V"⟩
abbrev zo_C_shrinks : ByteArray := prog_2_method_4_code
def zm_C_shrinks : MethodName := ⟨zs_C, "shrinks", "()Z"⟩
abbrev zo_C_stillBelow : ByteArray := prog_2_method_5_code
def zm_C_stillBelow : MethodName := ⟨zs_C, "stillBelow", "(I)I"⟩
abbrev zo_C_canFollow : ByteArray := prog_2_method_6_code
def zm_C_canFollow : MethodName := ⟨zs_C, "canFollow", "(II)Z"⟩
abbrev zo_C_belowOf : ByteArray := prog_2_method_7_code
def zm_C_belowOf : MethodName := ⟨zs_C, "belowOf", "(I)I"⟩
abbrev zo_X_below : ByteArray := prog_1_method_15_code
def zm_X_below : MethodName := ⟨zs_X, "below", "(I)I"⟩
abbrev zo_X_attacks : ByteArray := prog_1_method_16_code
def zm_X_attacks : MethodName := ⟨zs_X, "attacks", "(II)I"⟩
abbrev zo_G_countAttacks : ByteArray := prog_3_method_2_code
def zm_G_countAttacks : MethodName := ⟨zs_G, "countAttacks", "(II)I"⟩
abbrev zo_G_countOf : ByteArray := prog_3_method_3_code
def zm_G_countOf : MethodName := ⟨zs_G, "countOf", "(III)I"⟩
abbrev zo_G_isAttack : ByteArray := prog_3_method_4_code
def zm_G_isAttack : MethodName := ⟨zs_G, "isAttack", "(IIIII)Z"⟩
abbrev zo_X_play : ByteArray := prog_1_method_17_code
def zm_X_play : MethodName := ⟨zs_X, "play", "(II)I"⟩
abbrev zo_X_playedAttacks : ByteArray := prog_1_method_20_code
def zm_X_playedAttacks : MethodName := ⟨zs_X, "playedAttacks", "(II)I"⟩
abbrev zo_G_playThrough : ByteArray := prog_3_method_5_code
def zm_G_playThrough : MethodName := ⟨zs_G, "playThrough", "(II)I"⟩
abbrev zo_G_attackOnce : ByteArray := prog_3_method_6_code
def zm_G_attackOnce : MethodName := ⟨zs_G, "attackOnce", "()Z"⟩
abbrev zo_G_firstOf : ByteArray := prog_3_method_7_code
def zm_G_firstOf : MethodName := ⟨zs_G, "firstOf", "(III)I"⟩
abbrev zo_G_bestAnswer : ByteArray := prog_3_method_8_code
def zm_G_bestAnswer : MethodName := ⟨zs_G, "bestAnswer", "(II)I"⟩
abbrev zo_X_attack : ByteArray := prog_1_method_18_code
def zm_X_attack : MethodName := ⟨zs_X, "attack", "(III)I"⟩
abbrev zo_G_attackAt : ByteArray := prog_3_method_9_code
def zm_G_attackAt : MethodName := ⟨zs_G, "attackAt", "(I)I"⟩
abbrev zo_X_answer : ByteArray := prog_1_method_19_code
def zm_X_answer : MethodName := ⟨zs_X, "answer", "(III)I"⟩
abbrev zo_G_answerAt : ByteArray := prog_3_method_10_code
def zm_G_answerAt : MethodName := ⟨zs_G, "answerAt", "(I)I"⟩
abbrev zo_M_init : ByteArray := prog_7_method_1_code
def zm_M_init : MethodName := ⟨zs_M, "<init>", "()V"⟩
abbrev zo_M_move : ByteArray := prog_7_method_5_code
def zm_M_move : MethodName := ⟨zs_M, "move", "(III)Z"⟩
abbrev zo_M_isState : ByteArray := prog_7_method_2_code
def zm_M_isState : MethodName := ⟨zs_M, "isState", "(I)Z"⟩
abbrev zo_M_isLabel : ByteArray := prog_7_method_3_code
def zm_M_isLabel : MethodName := ⟨zs_M, "isLabel", "(I)Z"⟩
abbrev zo_M_has : ByteArray := prog_7_method_4_code
def zm_M_has : MethodName := ⟨zs_M, "has", "(III)Z"⟩
abbrev zo_M_drop : ByteArray := prog_7_method_6_code
def zm_M_drop : MethodName := ⟨zs_M, "drop", "(III)Z"⟩
abbrev zo_M_colour : ByteArray := prog_7_method_7_code
def zm_M_colour : MethodName := ⟨zs_M, "colour", "(II)Z"⟩
abbrev zo_M_moves : ByteArray := prog_7_method_8_code
def zm_M_moves : MethodName := ⟨zs_M, "moves", "()I"⟩
abbrev zo_M_clear : ByteArray := prog_7_method_9_code
def zm_M_clear : MethodName := ⟨zs_M, "clear", "()I"⟩
abbrev zo_M_alike : ByteArray := prog_7_method_18_code
def zm_M_alike : MethodName := ⟨zs_M, "alike", "(II)Z"⟩
abbrev zo_M_look : ByteArray := prog_7_method_17_code
def zm_M_look : MethodName := ⟨zs_M, "look", "()V"⟩
abbrev zo_M_findBreaches : ByteArray := prog_7_method_12_code
def zm_M_findBreaches : MethodName := ⟨zs_M, "findBreaches", "()V"⟩
abbrev zo_M_follows : ByteArray := prog_7_method_11_code
def zm_M_follows : MethodName := ⟨zs_M, "follows", "(III)Z"⟩
abbrev zo_M_answers : ByteArray := prog_7_method_10_code
def zm_M_answers : MethodName := ⟨zs_M, "answers", "(IIII)Z"⟩
abbrev zo_M_findCovers : ByteArray := prog_7_method_14_code
def zm_M_findCovers : MethodName := ⟨zs_M, "findCovers", "()V"⟩
abbrev zo_M_matches : ByteArray := prog_7_method_13_code
def zm_M_matches : MethodName := ⟨zs_M, "matches", "(II)Z"⟩
abbrev zo_M_findKinds : ByteArray := prog_7_method_16_code
def zm_M_findKinds : MethodName := ⟨zs_M, "findKinds", "()V"⟩
abbrev zo_M_areAlike : ByteArray := prog_7_method_15_code
def zm_M_areAlike : MethodName := ⟨zs_M, "areAlike", "(II)Z"⟩
abbrev zo_M_breach : ByteArray := prog_7_method_19_code
def zm_M_breach : MethodName := ⟨zs_M, "breach", "(II)I"⟩
abbrev zo_M_kinds : ByteArray := prog_7_method_20_code
def zm_M_kinds : MethodName := ⟨zs_M, "kinds", "()I"⟩
abbrev zo_M_kind : ByteArray := prog_7_method_21_code
def zm_M_kind : MethodName := ⟨zs_M, "kind", "(I)I"⟩
abbrev zo_M_size : ByteArray := prog_7_method_22_code
def zm_M_size : MethodName := ⟨zs_M, "size", "(I)I"⟩
abbrev zo_M_reach : ByteArray := prog_7_method_24_code
def zm_M_reach : MethodName := ⟨zs_M, "reach", "(II)I"⟩
abbrev zo_M_reachOf : ByteArray := prog_7_method_23_code
def zm_M_reachOf : MethodName := ⟨zs_M, "reachOf", "(II)I"⟩
abbrev zo_M_links : ByteArray := prog_7_method_25_code
def zm_M_links : MethodName := ⟨zs_M, "links", "()I"⟩
abbrev zo_M_covers : ByteArray := prog_7_method_26_code
def zm_M_covers : MethodName := ⟨zs_M, "covers", "(II)Z"⟩
abbrev zo_M_below : ByteArray := prog_7_method_27_code
def zm_M_below : MethodName := ⟨zs_M, "below", "(I)I"⟩
abbrev zo_M_attacks : ByteArray := prog_7_method_30_code
def zm_M_attacks : MethodName := ⟨zs_M, "attacks", "(II)I"⟩
abbrev zo_M_isPlayed : ByteArray := prog_7_method_28_code
def zm_M_isPlayed : MethodName := ⟨zs_M, "isPlayed", "(II)Z"⟩
abbrev zo_M_isAttack : ByteArray := prog_7_method_29_code
def zm_M_isAttack : MethodName := ⟨zs_M, "isAttack", "(IIII)Z"⟩
abbrev zo_M_play : ByteArray := prog_7_method_34_code
def zm_M_play : MethodName := ⟨zs_M, "play", "(II)I"⟩
abbrev zo_M_playOn : ByteArray := prog_7_method_33_code
def zm_M_playOn : MethodName := ⟨zs_M, "playOn", "(II)V"⟩
abbrev zo_M_firstAttack : ByteArray := prog_7_method_31_code
def zm_M_firstAttack : MethodName := ⟨zs_M, "firstAttack", "(II)I"⟩
abbrev zo_M_answerOf : ByteArray := prog_7_method_32_code
def zm_M_answerOf : MethodName := ⟨zs_M, "answerOf", "(III)I"⟩
abbrev zo_M_attack : ByteArray := prog_7_method_35_code
def zm_M_attack : MethodName := ⟨zs_M, "attack", "(III)I"⟩
abbrev zo_M_answer : ByteArray := prog_7_method_36_code
def zm_M_answer : MethodName := ⟨zs_M, "answer", "(III)I"⟩
abbrev vwCl : List vw_C := [(zs_N, zt_N, 3), (zs_L, zt_L, 7), (zs_C, zt_C, 4), (zs_G, zt_G, 6), (zs_X, zt_X, 4), (zs_M, zt_M, 12)]
end
section
/-! the words of the tables that a method may have, and where each of them stands -/
def zb_big : List Cond := lw_tbl.filter goodWord
theorem zb_in {w : Cond} (i : Nat) (h : lw_tbl[i]? = some w) (hg : goodWord w = true) : w ∈ zb_big := List.mem_filter.mpr ⟨List.mem_of_getElem? h, hg⟩
theorem zb_good : ∀ w ∈ zb_big, w ∈ zb_big ∧ ((w.onTables && w.keeps) = true ∨ ∃ ty, w = .arrayClass ty) := fun w h => ⟨h, good_of_word (List.mem_filter.mp h).2⟩
theorem zw_0 : Cond.selects zs_X zm_X_forgetAnswers zm_X_forgetAnswers ∈ zb_big := zb_in 0 (by decide +kernel) rfl
theorem zw_1 : Cond.selects zs_X zm_X_settledLikeness zm_X_settledLikeness ∈ zb_big := zb_in 1 (by decide +kernel) rfl
theorem zw_2 : Cond.selects zs_N zm_N_sameColour zm_N_sameColour ∈ zb_big := zb_in 2 (by decide +kernel) rfl
theorem zw_3 : Cond.selects zs_L zm_L_partsMore zm_L_partsMore ∈ zb_big := zb_in 3 (by decide +kernel) rfl
theorem zw_4 : Cond.selects zs_L zm_L_stillAlike zm_L_stillAlike ∈ zb_big := zb_in 4 (by decide +kernel) rfl
theorem zw_5 : Cond.selects zs_L zm_L_movesAlike zm_L_movesAlike ∈ zb_big := zb_in 5 (by decide +kernel) rfl
theorem zw_6 : Cond.selects zs_L zm_L_numberKinds zm_L_numberKinds ∈ zb_big := zb_in 6 (by decide +kernel) rfl
theorem zw_7 : Cond.selects zs_L zm_L_leastAlike zm_L_leastAlike ∈ zb_big := zb_in 7 (by decide +kernel) rfl
theorem zw_8 : Cond.selects zs_L zm_L_kindsAmong zm_L_kindsAmong ∈ zb_big := zb_in 8 (by decide +kernel) rfl
theorem zw_9 : Cond.selects zs_X zm_X_settledCover zm_X_settledCover ∈ zb_big := zb_in 9 (by decide +kernel) rfl
theorem zw_10 : Cond.selects zs_C zm_C_shrinks zm_C_shrinks ∈ zb_big := zb_in 10 (by decide +kernel) rfl
theorem zw_11 : Cond.selects zs_C zm_C_stillBelow zm_C_stillBelow ∈ zb_big := zb_in 11 (by decide +kernel) rfl
theorem zw_12 : Cond.selects zs_C zm_C_canFollow zm_C_canFollow ∈ zb_big := zb_in 12 (by decide +kernel) rfl
theorem zw_13 : Cond.selects zs_G zm_G_countOf zm_G_countOf ∈ zb_big := zb_in 13 (by decide +kernel) rfl
theorem zw_14 : Cond.selects zs_G zm_G_isAttack zm_G_isAttack ∈ zb_big := zb_in 14 (by decide +kernel) rfl
theorem zw_15 : Cond.selects zs_X zm_X_playedAttacks zm_X_playedAttacks ∈ zb_big := zb_in 15 (by decide +kernel) rfl
theorem zw_16 : Cond.selects zs_G zm_G_attackOnce zm_G_attackOnce ∈ zb_big := zb_in 16 (by decide +kernel) rfl
theorem zw_17 : Cond.selects zs_G zm_G_firstOf zm_G_firstOf ∈ zb_big := zb_in 17 (by decide +kernel) rfl
theorem zw_18 : Cond.selects zs_G zm_G_bestAnswer zm_G_bestAnswer ∈ zb_big := zb_in 18 (by decide +kernel) rfl
theorem zw_35 : Cond.initialized zs_X ∈ zb_big := zb_in 35 (by decide +kernel) rfl
theorem zw_36 : Cond.initialized zs_N ∈ zb_big := zb_in 36 (by decide +kernel) rfl
theorem zw_37 : Cond.initialized zs_L ∈ zb_big := zb_in 37 (by decide +kernel) rfl
theorem zw_38 : Cond.initialized zs_C ∈ zb_big := zb_in 38 (by decide +kernel) rfl
theorem zw_39 : Cond.initialized zs_G ∈ zb_big := zb_in 39 (by decide +kernel) rfl
theorem zw_47 : Cond.methodLink zs_X 1 objectInit ∈ zb_big := zb_in 47 (by decide +kernel) rfl
theorem zw_48 : Cond.instanceMethod objectInit ∈ zb_big := zb_in 48 (by decide +kernel) rfl
theorem zw_49 : Cond.code objectInit ⟨#[0xb1]⟩ 1 none ∈ zb_big := zb_in 49 (by decide +kernel) rfl
theorem zw_50 : Cond.classLink zs_X 7 zs_N ∈ zb_big := zb_in 50 (by decide +kernel) rfl
theorem zw_51 : Cond.instantiable zs_N 3 ∈ zb_big := zb_in 51 (by decide +kernel) rfl
theorem zw_52 : Cond.methodLink zs_X 9 zm_N_init ∈ zb_big := zb_in 52 (by decide +kernel) rfl
theorem zw_53 : Cond.instanceMethod zm_N_init ∈ zb_big := zb_in 53 (by decide +kernel) rfl
theorem zw_54 : Cond.code zm_N_init zo_N_init 1 none ∈ zb_big := zb_in 54 (by decide +kernel) rfl
theorem zw_55 : Cond.methodLink zs_N 3 objectInit ∈ zb_big := zb_in 55 (by decide +kernel) rfl
theorem zw_56 : Cond.fieldLink zs_N 9 "AlikeStates$Net" "targets" "[I" ∈ zb_big := zb_in 56 (by decide +kernel) rfl
theorem zw_57 : Cond.fieldLink zs_N 15 "AlikeStates$Net" "colours" "[I" ∈ zb_big := zb_in 57 (by decide +kernel) rfl
theorem zw_58 : Cond.fieldLink zs_N 18 "AlikeStates$Net" "count" "I" ∈ zb_big := zb_in 58 (by decide +kernel) rfl
theorem zw_66 : Cond.arrayClass .int ∈ zb_big := zb_in 66 (by decide +kernel) rfl
theorem zw_67 : Cond.classLink zs_X 16 zs_L ∈ zb_big := zb_in 67 (by decide +kernel) rfl
theorem zw_68 : Cond.instantiable zs_L 7 ∈ zb_big := zb_in 68 (by decide +kernel) rfl
theorem zw_69 : Cond.methodLink zs_X 18 zm_L_init ∈ zb_big := zb_in 69 (by decide +kernel) rfl
theorem zw_70 : Cond.instanceMethod zm_L_init ∈ zb_big := zb_in 70 (by decide +kernel) rfl
theorem zw_71 : Cond.code zm_L_init zo_L_init 2 none ∈ zb_big := zb_in 71 (by decide +kernel) rfl
theorem zw_72 : Cond.methodLink zs_L 3 objectInit ∈ zb_big := zb_in 72 (by decide +kernel) rfl
theorem zw_73 : Cond.fieldLink zs_L 9 "AlikeStates$Likeness" "net" "LAlikeStates$Net;" ∈ zb_big := zb_in 73 (by decide +kernel) rfl
theorem zw_74 : Cond.fieldLink zs_L 15 "AlikeStates$Likeness" "rows" "[I" ∈ zb_big := zb_in 74 (by decide +kernel) rfl
theorem zw_75 : Cond.fieldLink zs_L 19 "AlikeStates$Likeness" "unions" "[I" ∈ zb_big := zb_in 75 (by decide +kernel) rfl
theorem zw_76 : Cond.fieldLink zs_L 22 "AlikeStates$Likeness" "kindOfState" "[I" ∈ zb_big := zb_in 76 (by decide +kernel) rfl
theorem zw_77 : Cond.fieldLink zs_L 35 "AlikeStates$Likeness" "lastRound" "I" ∈ zb_big := zb_in 77 (by decide +kernel) rfl
theorem zw_78 : Cond.fieldLink zs_L 61 "AlikeStates$Likeness" "kindCount" "I" ∈ zb_big := zb_in 78 (by decide +kernel) rfl
theorem zw_79 : Cond.fieldLink zs_L 25 "AlikeStates$Likeness" "settled" "Z" ∈ zb_big := zb_in 79 (by decide +kernel) rfl
theorem zw_95 : Cond.classLink zs_X 25 zs_C ∈ zb_big := zb_in 95 (by decide +kernel) rfl
theorem zw_96 : Cond.instantiable zs_C 4 ∈ zb_big := zb_in 96 (by decide +kernel) rfl
theorem zw_97 : Cond.methodLink zs_X 27 zm_C_init ∈ zb_big := zb_in 97 (by decide +kernel) rfl
theorem zw_98 : Cond.instanceMethod zm_C_init ∈ zb_big := zb_in 98 (by decide +kernel) rfl
theorem zw_99 : Cond.code zm_C_init zo_C_init 2 none ∈ zb_big := zb_in 99 (by decide +kernel) rfl
theorem zw_100 : Cond.methodLink zs_C 3 objectInit ∈ zb_big := zb_in 100 (by decide +kernel) rfl
theorem zw_101 : Cond.fieldLink zs_C 9 "AlikeStates$Cover" "net" "LAlikeStates$Net;" ∈ zb_big := zb_in 101 (by decide +kernel) rfl
theorem zw_102 : Cond.fieldLink zs_C 15 "AlikeStates$Cover" "below" "[I" ∈ zb_big := zb_in 102 (by decide +kernel) rfl
theorem zw_103 : Cond.fieldLink zs_C 19 "AlikeStates$Cover" "unions" "[I" ∈ zb_big := zb_in 103 (by decide +kernel) rfl
theorem zw_104 : Cond.fieldLink zs_C 22 "AlikeStates$Cover" "settled" "Z" ∈ zb_big := zb_in 104 (by decide +kernel) rfl
theorem zw_114 : Cond.classLink zs_X 32 zs_G ∈ zb_big := zb_in 114 (by decide +kernel) rfl
theorem zw_115 : Cond.instantiable zs_G 6 ∈ zb_big := zb_in 115 (by decide +kernel) rfl
theorem zw_116 : Cond.methodLink zs_X 34 zm_G_init ∈ zb_big := zb_in 116 (by decide +kernel) rfl
theorem zw_117 : Cond.instanceMethod zm_G_init ∈ zb_big := zb_in 117 (by decide +kernel) rfl
theorem zw_118 : Cond.code zm_G_init zo_G_init 3 none ∈ zb_big := zb_in 118 (by decide +kernel) rfl
theorem zw_119 : Cond.methodLink zs_G 3 objectInit ∈ zb_big := zb_in 119 (by decide +kernel) rfl
theorem zw_120 : Cond.fieldLink zs_G 9 "AlikeStates$Game" "net" "LAlikeStates$Net;" ∈ zb_big := zb_in 120 (by decide +kernel) rfl
theorem zw_121 : Cond.fieldLink zs_G 15 "AlikeStates$Game" "likeness" "LAlikeStates$Likeness;" ∈ zb_big := zb_in 121 (by decide +kernel) rfl
theorem zw_122 : Cond.fieldLink zs_G 19 "AlikeStates$Game" "sides" "[I" ∈ zb_big := zb_in 122 (by decide +kernel) rfl
theorem zw_123 : Cond.fieldLink zs_G 23 "AlikeStates$Game" "made" "[I" ∈ zb_big := zb_in 123 (by decide +kernel) rfl
theorem zw_124 : Cond.fieldLink zs_G 26 "AlikeStates$Game" "answered" "[I" ∈ zb_big := zb_in 124 (by decide +kernel) rfl
theorem zw_125 : Cond.fieldLink zs_G 55 "AlikeStates$Game" "length" "I" ∈ zb_big := zb_in 125 (by decide +kernel) rfl
theorem zw_139 : Cond.fieldLink zs_X 10 "AlikeStates" "net" "LAlikeStates$Net;" ∈ zb_big := zb_in 139 (by decide +kernel) rfl
theorem zw_140 : Cond.fieldLink zs_X 21 "AlikeStates" "likeness" "LAlikeStates$Likeness;" ∈ zb_big := zb_in 140 (by decide +kernel) rfl
theorem zw_141 : Cond.fieldLink zs_X 28 "AlikeStates" "cover" "LAlikeStates$Cover;" ∈ zb_big := zb_in 141 (by decide +kernel) rfl
theorem zw_142 : Cond.fieldLink zs_X 37 "AlikeStates" "game" "LAlikeStates$Game;" ∈ zb_big := zb_in 142 (by decide +kernel) rfl
theorem zw_156 : Cond.methodLink zs_X 41 zm_X_isMove ∈ zb_big := zb_in 156 (by decide +kernel) rfl
theorem zw_157 : Cond.static zm_X_isMove ∈ zb_big := zb_in 157 (by decide +kernel) rfl
theorem zw_158 : Cond.code zm_X_isMove zo_X_isMove 3 (some .boolean) ∈ zb_big := zb_in 158 (by decide +kernel) rfl
theorem zw_159 : Cond.methodLink zs_X 73 zm_X_areStates ∈ zb_big := zb_in 159 (by decide +kernel) rfl
theorem zw_160 : Cond.static zm_X_areStates ∈ zb_big := zb_in 160 (by decide +kernel) rfl
theorem zw_161 : Cond.code zm_X_areStates zo_X_areStates 2 (some .boolean) ∈ zb_big := zb_in 161 (by decide +kernel) rfl
theorem zw_162 : Cond.methodLink zs_X 62 zm_X_isState ∈ zb_big := zb_in 162 (by decide +kernel) rfl
theorem zw_163 : Cond.static zm_X_isState ∈ zb_big := zb_in 163 (by decide +kernel) rfl
theorem zw_164 : Cond.code zm_X_isState zo_X_isState 1 (some .boolean) ∈ zb_big := zb_in 164 (by decide +kernel) rfl
theorem zw_165 : Cond.methodLink zs_X 95 zm_X_isLabel ∈ zb_big := zb_in 165 (by decide +kernel) rfl
theorem zw_166 : Cond.static zm_X_isLabel ∈ zb_big := zb_in 166 (by decide +kernel) rfl
theorem zw_167 : Cond.code zm_X_isLabel zo_X_isLabel 1 (some .boolean) ∈ zb_big := zb_in 167 (by decide +kernel) rfl
theorem zw_168 : Cond.methodLink zs_X 45 zm_N_holds ∈ zb_big := zb_in 168 (by decide +kernel) rfl
theorem zw_169 : Cond.instanceMethod zm_N_holds ∈ zb_big := zb_in 169 (by decide +kernel) rfl
theorem zw_170 : Cond.selects zs_N zm_N_holds zm_N_holds ∈ zb_big := zb_in 170 (by decide +kernel) rfl
theorem zw_171 : Cond.code zm_N_holds zo_N_holds 4 (some .boolean) ∈ zb_big := zb_in 171 (by decide +kernel) rfl
theorem zw_172 : Cond.methodLink zs_N 22 zm_N_targetsOf ∈ zb_big := zb_in 172 (by decide +kernel) rfl
theorem zw_173 : Cond.instanceMethod zm_N_targetsOf ∈ zb_big := zb_in 173 (by decide +kernel) rfl
theorem zw_174 : Cond.selects zs_N zm_N_targetsOf zm_N_targetsOf ∈ zb_big := zb_in 174 (by decide +kernel) rfl
theorem zw_175 : Cond.code zm_N_targetsOf zo_N_targetsOf 3 (some .int) ∈ zb_big := zb_in 175 (by decide +kernel) rfl
theorem zw_177 : Cond.static zm_X_hasBit ∈ zb_big := zb_in 177 (by decide +kernel) rfl
theorem zw_178 : Cond.code zm_X_hasBit zo_X_hasBit 2 (some .boolean) ∈ zb_big := zb_in 178 (by decide +kernel) rfl
theorem zw_179 : Cond.methodLink zs_X 48 zm_N_count ∈ zb_big := zb_in 179 (by decide +kernel) rfl
theorem zw_180 : Cond.instanceMethod zm_N_count ∈ zb_big := zb_in 180 (by decide +kernel) rfl
theorem zw_181 : Cond.selects zs_N zm_N_count zm_N_count ∈ zb_big := zb_in 181 (by decide +kernel) rfl
theorem zw_182 : Cond.code zm_N_count zo_N_count 1 (some .int) ∈ zb_big := zb_in 182 (by decide +kernel) rfl
theorem zw_183 : Cond.methodLink zs_X 52 zm_N_put ∈ zb_big := zb_in 183 (by decide +kernel) rfl
theorem zw_184 : Cond.instanceMethod zm_N_put ∈ zb_big := zb_in 184 (by decide +kernel) rfl
theorem zw_185 : Cond.selects zs_N zm_N_put zm_N_put ∈ zb_big := zb_in 185 (by decide +kernel) rfl
theorem zw_186 : Cond.code zm_N_put zo_N_put 4 none ∈ zb_big := zb_in 186 (by decide +kernel) rfl
theorem zw_187 : Cond.methodLink zs_X 56 zm_X_forgetAnswers ∈ zb_big := zb_in 187 (by decide +kernel) rfl
theorem zw_189 : Cond.instanceMethod zm_X_forgetAnswers ∈ zb_big := zb_in 189 (by decide +kernel) rfl
theorem zw_190 : Cond.code zm_X_forgetAnswers zo_X_forgetAnswers 1 none ∈ zb_big := zb_in 190 (by decide +kernel) rfl
theorem zw_191 : Cond.methodLink zs_X 137 zm_L_forget ∈ zb_big := zb_in 191 (by decide +kernel) rfl
theorem zw_192 : Cond.instanceMethod zm_L_forget ∈ zb_big := zb_in 192 (by decide +kernel) rfl
theorem zw_193 : Cond.selects zs_L zm_L_forget zm_L_forget ∈ zb_big := zb_in 193 (by decide +kernel) rfl
theorem zw_194 : Cond.code zm_L_forget zo_L_forget 1 none ∈ zb_big := zb_in 194 (by decide +kernel) rfl
theorem zw_195 : Cond.methodLink zs_X 140 zm_C_forget ∈ zb_big := zb_in 195 (by decide +kernel) rfl
theorem zw_196 : Cond.instanceMethod zm_C_forget ∈ zb_big := zb_in 196 (by decide +kernel) rfl
theorem zw_197 : Cond.selects zs_C zm_C_forget zm_C_forget ∈ zb_big := zb_in 197 (by decide +kernel) rfl
theorem zw_198 : Cond.code zm_C_forget zo_C_forget 1 none ∈ zb_big := zb_in 198 (by decide +kernel) rfl
theorem zw_203 : Cond.methodLink zs_X 59 zm_N_take ∈ zb_big := zb_in 203 (by decide +kernel) rfl
theorem zw_204 : Cond.instanceMethod zm_N_take ∈ zb_big := zb_in 204 (by decide +kernel) rfl
theorem zw_205 : Cond.selects zs_N zm_N_take zm_N_take ∈ zb_big := zb_in 205 (by decide +kernel) rfl
theorem zw_206 : Cond.code zm_N_take zo_N_take 4 none ∈ zb_big := zb_in 206 (by decide +kernel) rfl
theorem zw_211 : Cond.methodLink zs_X 66 zm_N_paint ∈ zb_big := zb_in 211 (by decide +kernel) rfl
theorem zw_212 : Cond.instanceMethod zm_N_paint ∈ zb_big := zb_in 212 (by decide +kernel) rfl
theorem zw_213 : Cond.selects zs_N zm_N_paint zm_N_paint ∈ zb_big := zb_in 213 (by decide +kernel) rfl
theorem zw_214 : Cond.code zm_N_paint zo_N_paint 3 none ∈ zb_big := zb_in 214 (by decide +kernel) rfl
theorem zw_223 : Cond.methodLink zs_X 70 zm_N_wipe ∈ zb_big := zb_in 223 (by decide +kernel) rfl
theorem zw_224 : Cond.instanceMethod zm_N_wipe ∈ zb_big := zb_in 224 (by decide +kernel) rfl
theorem zw_225 : Cond.selects zs_N zm_N_wipe zm_N_wipe ∈ zb_big := zb_in 225 (by decide +kernel) rfl
theorem zw_226 : Cond.code zm_N_wipe zo_N_wipe 2 none ∈ zb_big := zb_in 226 (by decide +kernel) rfl
theorem zw_231 : Cond.methodLink zs_X 77 zm_X_settledLikeness ∈ zb_big := zb_in 231 (by decide +kernel) rfl
theorem zw_233 : Cond.instanceMethod zm_X_settledLikeness ∈ zb_big := zb_in 233 (by decide +kernel) rfl
theorem zw_234 : Cond.code zm_X_settledLikeness zo_X_settledLikeness 1 (some (.object "AlikeStates$Likeness")) ∈ zb_big := zb_in 234 (by decide +kernel) rfl
theorem zw_235 : Cond.methodLink zs_X 119 zm_L_settle ∈ zb_big := zb_in 235 (by decide +kernel) rfl
theorem zw_236 : Cond.instanceMethod zm_L_settle ∈ zb_big := zb_in 236 (by decide +kernel) rfl
theorem zw_237 : Cond.selects zs_L zm_L_settle zm_L_settle ∈ zb_big := zb_in 237 (by decide +kernel) rfl
theorem zw_238 : Cond.code zm_L_settle zo_L_settle 2 none ∈ zb_big := zb_in 238 (by decide +kernel) rfl
theorem zw_239 : Cond.methodLink zs_L 29 zm_N_groupByColour ∈ zb_big := zb_in 239 (by decide +kernel) rfl
theorem zw_240 : Cond.instanceMethod zm_N_groupByColour ∈ zb_big := zb_in 240 (by decide +kernel) rfl
theorem zw_241 : Cond.selects zs_N zm_N_groupByColour zm_N_groupByColour ∈ zb_big := zb_in 241 (by decide +kernel) rfl
theorem zw_242 : Cond.code zm_N_groupByColour zo_N_groupByColour 3 none ∈ zb_big := zb_in 242 (by decide +kernel) rfl
theorem zw_243 : Cond.methodLink zs_N 30 zm_N_sameColour ∈ zb_big := zb_in 243 (by decide +kernel) rfl
theorem zw_245 : Cond.instanceMethod zm_N_sameColour ∈ zb_big := zb_in 245 (by decide +kernel) rfl
theorem zw_246 : Cond.code zm_N_sameColour zo_N_sameColour 4 (some .int) ∈ zb_big := zb_in 246 (by decide +kernel) rfl
theorem zw_247 : Cond.methodLink zs_L 39 zm_L_partsMore ∈ zb_big := zb_in 247 (by decide +kernel) rfl
theorem zw_249 : Cond.instanceMethod zm_L_partsMore ∈ zb_big := zb_in 249 (by decide +kernel) rfl
theorem zw_250 : Cond.code zm_L_partsMore zo_L_partsMore 6 (some .boolean) ∈ zb_big := zb_in 250 (by decide +kernel) rfl
theorem zw_251 : Cond.methodLink zs_L 46 zm_N_unite ∈ zb_big := zb_in 251 (by decide +kernel) rfl
theorem zw_252 : Cond.instanceMethod zm_N_unite ∈ zb_big := zb_in 252 (by decide +kernel) rfl
theorem zw_253 : Cond.selects zs_N zm_N_unite zm_N_unite ∈ zb_big := zb_in 253 (by decide +kernel) rfl
theorem zw_254 : Cond.code zm_N_unite zo_N_unite 5 none ∈ zb_big := zb_in 254 (by decide +kernel) rfl
theorem zw_255 : Cond.methodLink zs_N 34 zm_N_union ∈ zb_big := zb_in 255 (by decide +kernel) rfl
theorem zw_256 : Cond.static zm_N_union ∈ zb_big := zb_in 256 (by decide +kernel) rfl
theorem zw_257 : Cond.code zm_N_union zo_N_union 5 (some .int) ∈ zb_big := zb_in 257 (by decide +kernel) rfl
theorem zw_258 : Cond.methodLink zs_L 50 zm_L_stillAlike ∈ zb_big := zb_in 258 (by decide +kernel) rfl
theorem zw_260 : Cond.instanceMethod zm_L_stillAlike ∈ zb_big := zb_in 260 (by decide +kernel) rfl
theorem zw_261 : Cond.code zm_L_stillAlike zo_L_stillAlike 5 (some .int) ∈ zb_big := zb_in 261 (by decide +kernel) rfl
theorem zw_263 : Cond.methodLink zs_L 58 zm_L_movesAlike ∈ zb_big := zb_in 263 (by decide +kernel) rfl
theorem zw_265 : Cond.instanceMethod zm_L_movesAlike ∈ zb_big := zb_in 265 (by decide +kernel) rfl
theorem zw_266 : Cond.code zm_L_movesAlike zo_L_movesAlike 4 (some .boolean) ∈ zb_big := zb_in 266 (by decide +kernel) rfl
theorem zw_267 : Cond.methodLink zs_L 43 zm_L_numberKinds ∈ zb_big := zb_in 267 (by decide +kernel) rfl
theorem zw_269 : Cond.instanceMethod zm_L_numberKinds ∈ zb_big := zb_in 269 (by decide +kernel) rfl
theorem zw_270 : Cond.code zm_L_numberKinds zo_L_numberKinds 3 none ∈ zb_big := zb_in 270 (by decide +kernel) rfl
theorem zw_271 : Cond.methodLink zs_L 64 zm_L_leastAlike ∈ zb_big := zb_in 271 (by decide +kernel) rfl
theorem zw_273 : Cond.instanceMethod zm_L_leastAlike ∈ zb_big := zb_in 273 (by decide +kernel) rfl
theorem zw_274 : Cond.code zm_L_leastAlike zo_L_leastAlike 4 (some .int) ∈ zb_big := zb_in 274 (by decide +kernel) rfl
theorem zw_275 : Cond.methodLink zs_L 68 zm_L_alikeFor ∈ zb_big := zb_in 275 (by decide +kernel) rfl
theorem zw_276 : Cond.instanceMethod zm_L_alikeFor ∈ zb_big := zb_in 276 (by decide +kernel) rfl
theorem zw_277 : Cond.selects zs_L zm_L_alikeFor zm_L_alikeFor ∈ zb_big := zb_in 277 (by decide +kernel) rfl
theorem zw_278 : Cond.code zm_L_alikeFor zo_L_alikeFor 3 (some .int) ∈ zb_big := zb_in 278 (by decide +kernel) rfl
theorem zw_279 : Cond.methodLink zs_X 81 zm_L_breachOf ∈ zb_big := zb_in 279 (by decide +kernel) rfl
theorem zw_280 : Cond.instanceMethod zm_L_breachOf ∈ zb_big := zb_in 280 (by decide +kernel) rfl
theorem zw_281 : Cond.selects zs_L zm_L_breachOf zm_L_breachOf ∈ zb_big := zb_in 281 (by decide +kernel) rfl
theorem zw_282 : Cond.code zm_L_breachOf zo_L_breachOf 4 (some .int) ∈ zb_big := zb_in 282 (by decide +kernel) rfl
theorem zw_291 : Cond.methodLink zs_X 85 zm_L_kindCount ∈ zb_big := zb_in 291 (by decide +kernel) rfl
theorem zw_292 : Cond.instanceMethod zm_L_kindCount ∈ zb_big := zb_in 292 (by decide +kernel) rfl
theorem zw_293 : Cond.selects zs_L zm_L_kindCount zm_L_kindCount ∈ zb_big := zb_in 293 (by decide +kernel) rfl
theorem zw_294 : Cond.code zm_L_kindCount zo_L_kindCount 1 (some .int) ∈ zb_big := zb_in 294 (by decide +kernel) rfl
theorem zw_299 : Cond.methodLink zs_X 88 zm_L_kindOf ∈ zb_big := zb_in 299 (by decide +kernel) rfl
theorem zw_300 : Cond.instanceMethod zm_L_kindOf ∈ zb_big := zb_in 300 (by decide +kernel) rfl
theorem zw_301 : Cond.selects zs_L zm_L_kindOf zm_L_kindOf ∈ zb_big := zb_in 301 (by decide +kernel) rfl
theorem zw_302 : Cond.code zm_L_kindOf zo_L_kindOf 2 (some .int) ∈ zb_big := zb_in 302 (by decide +kernel) rfl
theorem zw_307 : Cond.methodLink zs_X 92 zm_L_sizeOf ∈ zb_big := zb_in 307 (by decide +kernel) rfl
theorem zw_308 : Cond.instanceMethod zm_L_sizeOf ∈ zb_big := zb_in 308 (by decide +kernel) rfl
theorem zw_309 : Cond.selects zs_L zm_L_sizeOf zm_L_sizeOf ∈ zb_big := zb_in 309 (by decide +kernel) rfl
theorem zw_310 : Cond.code zm_L_sizeOf zo_L_sizeOf 4 (some .int) ∈ zb_big := zb_in 310 (by decide +kernel) rfl
theorem zw_315 : Cond.methodLink zs_X 98 zm_L_kindsReached ∈ zb_big := zb_in 315 (by decide +kernel) rfl
theorem zw_316 : Cond.instanceMethod zm_L_kindsReached ∈ zb_big := zb_in 316 (by decide +kernel) rfl
theorem zw_317 : Cond.selects zs_L zm_L_kindsReached zm_L_kindsReached ∈ zb_big := zb_in 317 (by decide +kernel) rfl
theorem zw_318 : Cond.code zm_L_kindsReached zo_L_kindsReached 5 (some .int) ∈ zb_big := zb_in 318 (by decide +kernel) rfl
theorem zw_319 : Cond.methodLink zs_L 71 zm_N_targetsOf ∈ zb_big := zb_in 319 (by decide +kernel) rfl
theorem zw_320 : Cond.methodLink zs_L 74 zm_L_kindsAmong ∈ zb_big := zb_in 320 (by decide +kernel) rfl
theorem zw_322 : Cond.instanceMethod zm_L_kindsAmong ∈ zb_big := zb_in 322 (by decide +kernel) rfl
theorem zw_323 : Cond.code zm_L_kindsAmong zo_L_kindsAmong 4 (some .int) ∈ zb_big := zb_in 323 (by decide +kernel) rfl
theorem zw_343 : Cond.methodLink zs_X 104 zm_X_settledCover ∈ zb_big := zb_in 343 (by decide +kernel) rfl
theorem zw_345 : Cond.instanceMethod zm_X_settledCover ∈ zb_big := zb_in 345 (by decide +kernel) rfl
theorem zw_346 : Cond.code zm_X_settledCover zo_X_settledCover 1 (some (.object "AlikeStates$Cover")) ∈ zb_big := zb_in 346 (by decide +kernel) rfl
theorem zw_347 : Cond.methodLink zs_X 141 zm_C_settle ∈ zb_big := zb_in 347 (by decide +kernel) rfl
theorem zw_348 : Cond.instanceMethod zm_C_settle ∈ zb_big := zb_in 348 (by decide +kernel) rfl
theorem zw_349 : Cond.selects zs_C zm_C_settle zm_C_settle ∈ zb_big := zb_in 349 (by decide +kernel) rfl
theorem zw_350 : Cond.code zm_C_settle zo_C_settle 3 none ∈ zb_big := zb_in 350 (by decide +kernel) rfl
theorem zw_351 : Cond.methodLink zs_C 26 zm_N_groupByColour ∈ zb_big := zb_in 351 (by decide +kernel) rfl
theorem zw_352 : Cond.methodLink zs_C 32 zm_C_shrinks ∈ zb_big := zb_in 352 (by decide +kernel) rfl
theorem zw_354 : Cond.instanceMethod zm_C_shrinks ∈ zb_big := zb_in 354 (by decide +kernel) rfl
theorem zw_355 : Cond.code zm_C_shrinks zo_C_shrinks 4 (some .boolean) ∈ zb_big := zb_in 355 (by decide +kernel) rfl
theorem zw_356 : Cond.methodLink zs_C 36 zm_N_unite ∈ zb_big := zb_in 356 (by decide +kernel) rfl
theorem zw_357 : Cond.methodLink zs_C 40 zm_C_stillBelow ∈ zb_big := zb_in 357 (by decide +kernel) rfl
theorem zw_359 : Cond.instanceMethod zm_C_stillBelow ∈ zb_big := zb_in 359 (by decide +kernel) rfl
theorem zw_360 : Cond.code zm_C_stillBelow zo_C_stillBelow 4 (some .int) ∈ zb_big := zb_in 360 (by decide +kernel) rfl
theorem zw_362 : Cond.methodLink zs_C 48 zm_C_canFollow ∈ zb_big := zb_in 362 (by decide +kernel) rfl
theorem zw_364 : Cond.instanceMethod zm_C_canFollow ∈ zb_big := zb_in 364 (by decide +kernel) rfl
theorem zw_365 : Cond.code zm_C_canFollow zo_C_canFollow 4 (some .boolean) ∈ zb_big := zb_in 365 (by decide +kernel) rfl
theorem zw_366 : Cond.methodLink zs_C 51 zm_N_targetsOf ∈ zb_big := zb_in 366 (by decide +kernel) rfl
theorem zw_367 : Cond.methodLink zs_X 108 zm_C_belowOf ∈ zb_big := zb_in 367 (by decide +kernel) rfl
theorem zw_368 : Cond.instanceMethod zm_C_belowOf ∈ zb_big := zb_in 368 (by decide +kernel) rfl
theorem zw_369 : Cond.selects zs_C zm_C_belowOf zm_C_belowOf ∈ zb_big := zb_in 369 (by decide +kernel) rfl
theorem zw_370 : Cond.code zm_C_belowOf zo_C_belowOf 2 (some .int) ∈ zb_big := zb_in 370 (by decide +kernel) rfl
theorem zw_371 : Cond.methodLink zs_X 111 zm_X_hasBit ∈ zb_big := zb_in 371 (by decide +kernel) rfl
theorem zw_381 : Cond.methodLink zs_X 122 zm_G_countAttacks ∈ zb_big := zb_in 381 (by decide +kernel) rfl
theorem zw_382 : Cond.instanceMethod zm_G_countAttacks ∈ zb_big := zb_in 382 (by decide +kernel) rfl
theorem zw_383 : Cond.selects zs_G zm_G_countAttacks zm_G_countAttacks ∈ zb_big := zb_in 383 (by decide +kernel) rfl
theorem zw_384 : Cond.code zm_G_countAttacks zo_G_countAttacks 4 (some .int) ∈ zb_big := zb_in 384 (by decide +kernel) rfl
theorem zw_385 : Cond.methodLink zs_G 29 zm_L_breachOf ∈ zb_big := zb_in 385 (by decide +kernel) rfl
theorem zw_386 : Cond.methodLink zs_G 35 zm_G_countOf ∈ zb_big := zb_in 386 (by decide +kernel) rfl
theorem zw_388 : Cond.instanceMethod zm_G_countOf ∈ zb_big := zb_in 388 (by decide +kernel) rfl
theorem zw_389 : Cond.code zm_G_countOf zo_G_countOf 7 (some .int) ∈ zb_big := zb_in 389 (by decide +kernel) rfl
theorem zw_390 : Cond.methodLink zs_G 39 zm_G_isAttack ∈ zb_big := zb_in 390 (by decide +kernel) rfl
theorem zw_392 : Cond.instanceMethod zm_G_isAttack ∈ zb_big := zb_in 392 (by decide +kernel) rfl
theorem zw_393 : Cond.code zm_G_isAttack zo_G_isAttack 6 (some .boolean) ∈ zb_big := zb_in 393 (by decide +kernel) rfl
theorem zw_394 : Cond.methodLink zs_G 43 zm_N_targetsOf ∈ zb_big := zb_in 394 (by decide +kernel) rfl
theorem zw_396 : Cond.methodLink zs_G 52 zm_L_alikeFor ∈ zb_big := zb_in 396 (by decide +kernel) rfl
theorem zw_401 : Cond.methodLink zs_X 125 zm_X_playedAttacks ∈ zb_big := zb_in 401 (by decide +kernel) rfl
theorem zw_403 : Cond.instanceMethod zm_X_playedAttacks ∈ zb_big := zb_in 403 (by decide +kernel) rfl
theorem zw_404 : Cond.code zm_X_playedAttacks zo_X_playedAttacks 3 (some .int) ∈ zb_big := zb_in 404 (by decide +kernel) rfl
theorem zw_405 : Cond.methodLink zs_X 134 zm_G_playThrough ∈ zb_big := zb_in 405 (by decide +kernel) rfl
theorem zw_406 : Cond.instanceMethod zm_G_playThrough ∈ zb_big := zb_in 406 (by decide +kernel) rfl
theorem zw_407 : Cond.selects zs_G zm_G_playThrough zm_G_playThrough ∈ zb_big := zb_in 407 (by decide +kernel) rfl
theorem zw_408 : Cond.code zm_G_playThrough zo_G_playThrough 5 (some .int) ∈ zb_big := zb_in 408 (by decide +kernel) rfl
theorem zw_409 : Cond.methodLink zs_G 59 zm_G_attackOnce ∈ zb_big := zb_in 409 (by decide +kernel) rfl
theorem zw_411 : Cond.instanceMethod zm_G_attackOnce ∈ zb_big := zb_in 411 (by decide +kernel) rfl
theorem zw_412 : Cond.code zm_G_attackOnce zo_G_attackOnce 5 (some .boolean) ∈ zb_big := zb_in 412 (by decide +kernel) rfl
theorem zw_413 : Cond.methodLink zs_G 63 zm_G_firstOf ∈ zb_big := zb_in 413 (by decide +kernel) rfl
theorem zw_415 : Cond.instanceMethod zm_G_firstOf ∈ zb_big := zb_in 415 (by decide +kernel) rfl
theorem zw_416 : Cond.code zm_G_firstOf zo_G_firstOf 6 (some .int) ∈ zb_big := zb_in 416 (by decide +kernel) rfl
theorem zw_417 : Cond.methodLink zs_G 66 zm_G_bestAnswer ∈ zb_big := zb_in 417 (by decide +kernel) rfl
theorem zw_419 : Cond.instanceMethod zm_G_bestAnswer ∈ zb_big := zb_in 419 (by decide +kernel) rfl
theorem zw_420 : Cond.code zm_G_bestAnswer zo_G_bestAnswer 9 (some .int) ∈ zb_big := zb_in 420 (by decide +kernel) rfl
theorem zw_425 : Cond.methodLink zs_X 128 zm_G_attackAt ∈ zb_big := zb_in 425 (by decide +kernel) rfl
theorem zw_426 : Cond.instanceMethod zm_G_attackAt ∈ zb_big := zb_in 426 (by decide +kernel) rfl
theorem zw_427 : Cond.selects zs_G zm_G_attackAt zm_G_attackAt ∈ zb_big := zb_in 427 (by decide +kernel) rfl
theorem zw_428 : Cond.code zm_G_attackAt zo_G_attackAt 2 (some .int) ∈ zb_big := zb_in 428 (by decide +kernel) rfl
theorem zw_433 : Cond.methodLink zs_X 131 zm_G_answerAt ∈ zb_big := zb_in 433 (by decide +kernel) rfl
theorem zw_434 : Cond.instanceMethod zm_G_answerAt ∈ zb_big := zb_in 434 (by decide +kernel) rfl
theorem zw_435 : Cond.selects zs_G zm_G_answerAt zm_G_answerAt ∈ zb_big := zb_in 435 (by decide +kernel) rfl
theorem zw_436 : Cond.code zm_G_answerAt zo_G_answerAt 2 (some .int) ∈ zb_big := zb_in 436 (by decide +kernel) rfl
theorem zi_N : ∀ w ∈ u_ws zs_N zt_N 3, w ∈ zb_big := by decide +kernel
theorem zi_L : ∀ w ∈ u_ws zs_L zt_L 7, w ∈ zb_big := by decide +kernel
theorem zi_C : ∀ w ∈ u_ws zs_C zt_C 4, w ∈ zb_big := by decide +kernel
theorem zi_G : ∀ w ∈ u_ws zs_G zt_G 6, w ∈ zb_big := by decide +kernel
theorem zi_X : ∀ w ∈ u_ws zs_X zt_X 4, w ∈ zb_big := by decide +kernel
theorem zi_M : ∀ w ∈ u_ws zs_M zt_M 12, w ∈ zb_big := by decide +kernel
end
section
/-! ===== Int32 by its bits: bt x i ===== -/
def bt (x : Int32) (i : Nat) : Bool := x.toBitVec.getLsbD i
theorem b_ext {x y : Int32} (h : ∀ i, i < 32 → bt x i = bt y i) : x = y := Int32.toBitVec_inj.mp (BitVec.eq_of_getLsbD_eq (fun i hi => h i hi))
theorem b_or (x y : Int32) (i : Nat) : bt (x ||| y) i = (bt x i || bt y i) := by unfold bt; rw [Int32.toBitVec_or, BitVec.getLsbD_or]
theorem b_and (x y : Int32) (i : Nat) : bt (x &&& y) i = (bt x i && bt y i) := by unfold bt; rw [Int32.toBitVec_and, BitVec.getLsbD_and]
theorem b_xor (x y : Int32) (i : Nat) : bt (x ^^^ y) i = (bt x i ^^ bt y i) := by unfold bt; rw [Int32.toBitVec_xor, BitVec.getLsbD_xor]
theorem b_big {x : Int32} {i : Nat} (h : 32 ≤ i) : bt x i = false := BitVec.getLsbD_of_ge _ _ h
theorem b_255 (i : Nat) : bt 255 i = decide (i < 8) := by
  rcases Nat.lt_or_ge i 32 with h | h
  · exact (by decide +kernel : ∀ i, i < 32 → bt 255 i = decide (i < 8)) i h
  · rw [b_big h, decide_eq_false (by omega)]
theorem b_65535 (i : Nat) : bt 65535 i = decide (i < 16) := by
  rcases Nat.lt_or_ge i 32 with h | h
  · exact (by decide +kernel : ∀ i, i < 32 → bt 65535 i = decide (i < 16)) i h
  · rw [b_big h, decide_eq_false (by omega)]
theorem b_m1 : ∀ i, i < 32 → bt (-1) i = true := by decide +kernel
theorem b_0 (i : Nat) : bt 0 i = false := BitVec.getLsbD_zero
theorem s_l : ∀ n, n < 32 → ((nI n &&& 31).toBitVec.smod 32).toNat = n := by decide +kernel
theorem s_u : ∀ n, n < 32 → (((nI n).toUInt32 &&& Int32.toUInt32 31).toBitVec % 32).toNat = n := by decide +kernel
theorem b_shl (n : Nat) (hn : n < 32) (x : Int32) {i : Nat} (hi : i < 32) : bt (x <<< (nI n &&& 31)) i = (decide (n ≤ i) && bt x (i - n)) := by
  unfold bt
  rw [Int32.toBitVec_shiftLeft]
  show (x.toBitVec <<< ((nI n &&& 31).toBitVec.smod 32).toNat).getLsbD i = _
  rw [s_l n hn, BitVec.getLsbD_shiftLeft]
  rcases Nat.lt_or_ge i n with h | h
  · simp [h, Nat.not_le.mpr h]
  · simp [hi, h, Nat.not_lt.mpr h]
theorem b_ushr (n : Nat) (hn : n < 32) (x : Int32) (i : Nat) : bt ((x.toUInt32 >>> ((nI n).toUInt32 &&& Int32.toUInt32 31)).toInt32) i = bt x (n + i) := by
  show (x.toUInt32 >>> ((nI n).toUInt32 &&& Int32.toUInt32 31)).toBitVec.getLsbD i = x.toUInt32.toBitVec.getLsbD (n + i)
  rw [UInt32.toBitVec_shiftRight]
  show (x.toUInt32.toBitVec >>> (((nI n).toUInt32 &&& Int32.toUInt32 31).toBitVec % 32).toNat).getLsbD i = _
  rw [s_u n hn, BitVec.getLsbD_ushiftRight]
theorem b_sshr (n : Nat) (hn : n < 32) (x : Int32) {i : Nat} (hi : i < 32) : bt (x >>> (nI n &&& 31)) i = if n + i < 32 then bt x (n + i) else bt x 31 := by
  unfold bt
  rw [Int32.toBitVec_shiftRight]
  show (x.toBitVec.sshiftRight ((nI n &&& 31).toBitVec.smod 32).toNat).getLsbD i = _
  rw [s_l n hn, BitVec.getLsbD_sshiftRight, BitVec.msb_eq_getLsbD_last]
  simp [hi]
/-! words of mine: readers and writers by contract, calls in one row, loops that fill, numbers and sets of states -/
section ZA
variable {p : Program} {l : Launch} {e : Env} {R : Room} {s : State} {m : MethodId} {args : Array Value} {below : List Frame} {meth : Method} {c : Code} {H : Heap} {locs : List Loc} {cells slots : Nat} {Q : State → Prop} {cc : ByteArray} {pc : Nat} {ls : Array Slot} {rest : List Value}
theorem za_eqi {x y : Int32} (h : x = y) (k : W p l e R s m args below meth c H locs cells slots Q (F0 m pc ls (.int y :: rest))) : W p l e R s m args below meth c H locs cells slots Q (F0 m pc ls (.int x :: rest)) := by
  subst h
  exact k
theorem za_addN (hx : p.tables.exec = Jvm.exec) (hb : c.code = cc) {a b : Nat} (hd : decode cc pc = .ok (.iadd, 1)) (k : W p l e R s m args below meth c H locs cells slots Q (F0 m (pc + 1) ls (.int (nI (a + b)) :: rest))) : W p l e R s m args below meth c H locs cells slots Q (F0 m pc ls (.int (nI b) :: .int (nI a) :: rest)) := lv_iadd hx hb hd (za_eqi (nI_add a b) k)
theorem za_mulN (hx : p.tables.exec = Jvm.exec) (hb : c.code = cc) {a b : Nat} (hd : decode cc pc = .ok (.imul, 1)) (k : W p l e R s m args below meth c H locs cells slots Q (F0 m (pc + 1) ls (.int (nI (a * b)) :: rest))) : W p l e R s m args below meth c H locs cells slots Q (F0 m pc ls (.int (nI b) :: .int (nI a) :: rest)) := lv_imul hx hb hd (za_eqi (pk_mul a b) k)
theorem za_subN (hx : p.tables.exec = Jvm.exec) (hb : c.code = cc) {a b : Nat} (h : b ≤ a) (hd : decode cc pc = .ok (.isub, 1)) (k : W p l e R s m args below meth c H locs cells slots Q (F0 m (pc + 1) ls (.int (nI (a - b)) :: rest))) : W p l e R s m args below meth c H locs cells slots Q (F0 m pc ls (.int (nI b) :: .int (nI a) :: rest)) := lv_isub hx hb hd (za_eqi (pk_sub h) k)
theorem za_nI0 {d : Nat} (h0 : 0 < d) (hd : d < 2 ^ 31) : ¬ nI d = 0 := nI_ne0 h0 hd
theorem za_divN (hx : p.tables.exec = Jvm.exec) (hb : c.code = cc) {a d : Nat} (ha : a < 2 ^ 31) (h0 : 0 < d) (h1 : d < 2 ^ 31) (hd : decode cc pc = .ok (.idiv, 1)) (k : W p l e R s m args below meth c H locs cells slots Q (F0 m (pc + 1) ls (.int (nI (a / d)) :: rest))) : W p l e R s m args below meth c H locs cells slots Q (F0 m pc ls (.int (nI d) :: .int (nI a) :: rest)) := lv_idiv hx hb hd (za_nI0 h0 h1) (za_eqi (pk_div ha h0 h1) k)
theorem za_remN (hx : p.tables.exec = Jvm.exec) (hb : c.code = cc) {a d : Nat} (ha : a < 2 ^ 31) (h0 : 0 < d) (h1 : d < 2 ^ 31) (hd : decode cc pc = .ok (.irem, 1)) (k : W p l e R s m args below meth c H locs cells slots Q (F0 m (pc + 1) ls (.int (nI (a % d)) :: rest))) : W p l e R s m args below meth c H locs cells slots Q (F0 m pc ls (.int (nI d) :: .int (nI a) :: rest)) := lv_irem hx hb hd (za_nI0 h0 h1) (za_eqi (pk_rem ha h0 h1) k)
end ZA
theorem za_inc (i : Nat) : nI i + Int32.ofInt 1 = nI (i + 1) := by
  rw [show Int32.ofInt 1 = (1 : Int32) from by decide]
  exact nI_1 i
/-- a boolean as the machine has it -/
def za_bi (b : Bool) : Int32 := if b = true then nI 1 else nI 0
theorem za_b1 {b : Bool} (h : b = true) : nI 1 = za_bi b := by rw [h]; rfl
theorem za_b0 {b : Bool} (h : b = false) : nI 0 = za_bi b := by rw [h]; rfl
theorem za_bi1 : za_bi true = nI 1 := rfl
theorem za_bi0 : za_bi false = nI 0 := rfl
theorem za_10 : ¬ nI 1 = 0 := by decide
theorem za_bF {b : Bool} (h : za_bi b = 0) : b = false := by
  cases b with
  | false => rfl
  | true => exact absurd h za_10
theorem za_bT {b : Bool} (h : ¬ za_bi b = 0) : b = true := by
  cases b with
  | false => exact absurd rfl h
  | true => rfl
theorem za_binj {a b : Bool} (h : za_bi a = za_bi b) : a = b := by
  cases a <;> cases b <;> first | rfl | exact absurd h (by decide)
theorem za_bne {a b : Bool} (h : ¬ za_bi a = za_bi b) : ¬ a = b := fun q => h (by rw [q])
theorem za_nar (b : Bool) : narrow .boolean (.int (za_bi b)) = .int (za_bi b) := by cases b <;> decide
theorem za_fit (b : Bool) : fits .boolean (.int (za_bi b)) = true := by cases b <;> decide
theorem za_vnar (b : Bool) : vp_nar .boolean (za_bi b) = za_bi b := by cases b <;> decide
theorem za_bor (a b : Bool) : za_bi a ||| za_bi b = za_bi (a || b) := by cases a <;> cases b <;> decide
theorem za_leN {a b : Nat} (h : nI a ≤ nI b) (ha : a < 2 ^ 31) (hb : b < 2 ^ 31) : a ≤ b := (nI_leI ha hb).mp h
theorem za_nleN {a b : Nat} (h : ¬ nI a ≤ nI b) (ha : a < 2 ^ 31) (hb : b < 2 ^ 31) : b < a := Nat.lt_of_not_le (fun q => h ((nI_leI ha hb).mpr q))
theorem za_ltN {a b : Nat} (h : nI a < nI b) (ha : a < 2 ^ 31) (hb : b < 2 ^ 31) : a < b := (nI_ltI ha hb).mp h
theorem za_nltN {a b : Nat} (h : ¬ nI a < nI b) (ha : a < 2 ^ 31) (hb : b < 2 ^ 31) : b ≤ a := Nat.le_of_not_lt (fun q => h ((nI_ltI ha hb).mpr q))
theorem za_eqN {a b : Nat} (h : nI a = nI b) (ha : a < 2 ^ 31) (hb : b < 2 ^ 31) : a = b := (nI_eq ha hb).mp h
theorem za_neN {a b : Nat} (h : ¬ nI a = nI b) : ¬ a = b := fun q => h (by rw [q])
section ZB
variable {p : Program} {l : Launch} {e : Env} {R : Room} {s : State} {m : MethodId} {args : Array Value} {below : List Frame} {meth : Method} {c : Code} {H : Heap} {locs : List Loc} {cells slots : Nat} {Q : State → Prop} {cc : ByteArray} {pc : Nat} {ls : Array Slot} {rest : List Value}
variable {D : va_G} {cl : List vw_C} {tys : List (ClassId × FieldType)} {ws : va_W} {A : Nat → Prop} {H0 : Heap} {a : Nat}
theorem za_ild (hx : p.tables.exec = Jvm.exec) (hb : c.code = cc) (hK : va_K D cl tys s) (hP : va_P D cl ws H) (q0 t0 : Nat) {cA : ClassId} {n : Nat} {f : Nat → Int32} (ha : ws[q0]? = some (a, .inl (cA, n, .inl f))) (ht : tys[t0]? = some (cA, .int)) {k : Nat} (hk : k < n) (hn : n < 2 ^ 31) (hd : decode cc pc = .ok (.iaload, 1))
    (kk : W p l e R s m args below meth c H locs cells slots Q (F0 m (pc + 1) ls (.int (f k) :: rest))) : W p l e R s m args below meth c H locs cells slots Q (F0 m pc ls (.int (nI k) :: .ref a :: rest)) :=
  va_iald hx hb hK hP q0 t0 ha ht (vp_in_nI hk hn) hd (by rw [nI_clamp (Nat.lt_trans hk hn)]; exact kk)
theorem za_zld (hx : p.tables.exec = Jvm.exec) (hb : c.code = cc) (hK : va_K D cl tys s) (hP : va_P D cl ws H) (q0 t0 : Nat) {cA : ClassId} {n : Nat} {f : Nat → Bool} (ha : ws[q0]? = some (a, .inl (cA, n, .inl (fun j => za_bi (f j))))) (ht : tys[t0]? = some (cA, .boolean)) {k : Nat} (hk : k < n) (hn : n < 2 ^ 31) (hd : decode cc pc = .ok (.baload, 1))
    (kk : W p l e R s m args below meth c H locs cells slots Q (F0 m (pc + 1) ls (.int (za_bi (f k)) :: rest))) : W p l e R s m args below meth c H locs cells slots Q (F0 m pc ls (.int (nI k) :: .ref a :: rest)) :=
  va_zald hx hb hK hP q0 t0 ha ht (vp_in_nI hk hn) hd (by rw [nI_clamp (Nat.lt_trans hk hn)]; exact kk)
theorem za_ist (hx : p.tables.exec = Jvm.exec) (hb : c.code = cc) (hK : va_K D cl tys s) (hP : va_P D cl ws H) (hD : va_D A ws) (hS : va_S A H0 H locs) (q0 t0 : Nat) {cA : ClassId} {n : Nat} {f : Nat → Int32} (ha : ws[q0]? = some (a, .inl (cA, n, .inl f))) (ht : tys[t0]? = some (cA, .int)) {k : Nat} {x : Int32} (hk : k < n) (hn : n < 2 ^ 31) (hd : decode cc pc = .ok (.iastore, 1))
    (kk : ∀ (H1 : Heap) (locs1 : List Loc), va_P D cl (ws.set q0 (a, .inl (cA, n, .inl (upd f k x)))) H1 → va_D A (ws.set q0 (a, .inl (cA, n, .inl (upd f k x)))) → va_S A H0 H1 locs1 → W p l e R s m args below meth c H1 locs1 cells slots Q (F0 m (pc + 1) ls rest)) : W p l e R s m args below meth c H locs cells slots Q (F0 m pc ls (.int x :: .int (nI k) :: .ref a :: rest)) :=
  va_iast hx hb hK hP hD hS q0 t0 ha ht (vp_in_nI hk hn) hd (by rw [nI_clamp (Nat.lt_trans hk hn)]; exact kk)
/-- the booleans of an array, one place new -/
def za_ub (f : Nat → Bool) (k : Nat) (b : Bool) : Nat → Bool := fun j => if j = k then b else f j
theorem za_ubi (f : Nat → Bool) (k : Nat) (b : Bool) : upd (fun j => za_bi (f j)) k (za_bi b) = fun j => za_bi (za_ub f k b j) := by
  funext j
  unfold upd za_ub
  by_cases h : j = k <;> simp [h]
theorem za_zst (hx : p.tables.exec = Jvm.exec) (hb : c.code = cc) (hK : va_K D cl tys s) (hP : va_P D cl ws H) (hD : va_D A ws) (hS : va_S A H0 H locs) (q0 t0 : Nat) {cA : ClassId} {n : Nat} {f : Nat → Bool} (ha : ws[q0]? = some (a, .inl (cA, n, .inl (fun j => za_bi (f j))))) (ht : tys[t0]? = some (cA, .boolean)) {k : Nat} {b : Bool} (hk : k < n) (hn : n < 2 ^ 31) (hd : decode cc pc = .ok (.bastore, 1))
    (kk : ∀ (H1 : Heap) (locs1 : List Loc), va_P D cl (ws.set q0 (a, .inl (cA, n, .inl (fun j => za_bi (za_ub f k b j))))) H1 → va_D A (ws.set q0 (a, .inl (cA, n, .inl (fun j => za_bi (za_ub f k b j))))) → va_S A H0 H1 locs1 → W p l e R s m args below meth c H1 locs1 cells slots Q (F0 m (pc + 1) ls rest)) : W p l e R s m args below meth c H locs cells slots Q (F0 m pc ls (.int (za_bi b) :: .int (nI k) :: .ref a :: rest)) :=
  va_zast hx hb hK hP hD hS q0 t0 ha ht (vp_in_nI hk hn) hd (by rw [nI_clamp (Nat.lt_trans hk hn), za_vnar, za_ubi]; exact kk)
theorem za_cA {cI cA : ClassId} {ty : FieldType} (hty : ∀ C, ty ≠ .object C) (h1 : va_RA s cI ty) (h2 : va_RA s cA ty) : cA = cI := by
  have e1 : s.vm.findClass ("[" ++ ty.toString) = some cI := by
    cases ty with
    | object C => exact absurd rfl (hty C)
    | _ => exact h1
  have e2 : s.vm.findClass ("[" ++ ty.toString) = some cA := by
    cases ty with
    | object C => exact absurd rfl (hty C)
    | _ => exact h2
  exact Option.some.inj (e2.symm.trans e1)
theorem za_newI {cI cZ : ClassId} (hx : p.tables.exec = Jvm.exec) (hb : c.code = cc) (harr : (Cond.arrayClass .int).before args s = true) (hK : va_K D cl [(cI, .int), (cZ, .boolean)] s) (hP : va_P D cl ws H) (hD : va_D A ws) (hS : va_S A H0 H locs) (hA : ∀ q, H0.size ≤ q → A q) {N : Nat} (hN : N < 2 ^ 31) (hby : N * componentBytes .int ≤ 536870912) (hcells : cells + 1 ≤ R.cells) (hslots : slots + N ≤ R.slots) (hd : decode cc pc = .ok (.newarray .int, 2))
    (kk : ∀ (q : Nat) (H1 : Heap), va_P D cl (ws ++ [(q, .inl (cI, N, .inl (fun _ => nI 0)))]) H1 → va_D A (ws ++ [(q, .inl (cI, N, .inl (fun _ => nI 0)))]) → va_S A H0 H1 locs → W p l e R s m args below meth c H1 locs (cells + 1) (slots + N) Q (F0 m (pc + 2) ls (.ref q :: rest))) : W p l e R s m args below meth c H locs cells slots Q (F0 m pc ls (.int (nI N) :: rest)) := by
  refine va_newa (atype := .int) (ty := .int) (a0 := (N, .inl (fun _ => nI 0))) hx hb harr rfl hK hP hD hS hA (fun cA => rfl) (nI_pos hN) (nI_clamp hN) hby hcells hslots hd (fun q cA H1 hK1 hP1 hD1 hS1 => ?_)
  have e : cA = cI := za_cA (fun C h => by cases h) (hK.2 0 _ rfl).2 (hK1.2 2 _ rfl).2
  subst e
  exact kk q H1 hP1 hD1 hS1
theorem za_newZ {cI cZ : ClassId} (hx : p.tables.exec = Jvm.exec) (hb : c.code = cc) (harr : (Cond.arrayClass .boolean).before args s = true) (hK : va_K D cl [(cI, .int), (cZ, .boolean)] s) (hP : va_P D cl ws H) (hD : va_D A ws) (hS : va_S A H0 H locs) (hA : ∀ q, H0.size ≤ q → A q) {N : Nat} (hN : N < 2 ^ 31) (hby : N * componentBytes .boolean ≤ 536870912) (hcells : cells + 1 ≤ R.cells) (hslots : slots + N ≤ R.slots) (hd : decode cc pc = .ok (.newarray .boolean, 2))
    (kk : ∀ (q : Nat) (H1 : Heap), va_P D cl (ws ++ [(q, .inl (cZ, N, .inl (fun j => za_bi ((fun _ => false) j))))]) H1 → va_D A (ws ++ [(q, .inl (cZ, N, .inl (fun j => za_bi ((fun _ => false) j))))]) → va_S A H0 H1 locs → W p l e R s m args below meth c H1 locs (cells + 1) (slots + N) Q (F0 m (pc + 2) ls (.ref q :: rest))) : W p l e R s m args below meth c H locs cells slots Q (F0 m pc ls (.int (nI N) :: rest)) := by
  refine va_newa (atype := .boolean) (ty := .boolean) (a0 := (N, .inl (fun _ => nI 0))) hx hb harr rfl hK hP hD hS hA (fun cA => rfl) (nI_pos hN) (nI_clamp hN) hby hcells hslots hd (fun q cA H1 hK1 hP1 hD1 hS1 => ?_)
  have e : cA = cZ := za_cA (fun C h => by cases h) (hK.2 1 _ rfl).2 (hK1.2 2 _ rfl).2
  subst e
  exact kk q H1 hP1 hD1 hS1
end ZB
/-- the four calls of hasBit by the nest's mates: links that no list of words keeps -/
def za_Nn (U : State) : Prop := va_Nw (.methodLinkNest zs_N 26 zm_X_hasBit zs_X) U ∧ va_Nw (.methodLinkNest zs_L 54 zm_X_hasBit zs_X) U ∧ va_Nw (.methodLinkNest zs_C 44 zm_X_hasBit zs_X) U ∧ va_Nw (.methodLinkNest zs_G 48 zm_X_hasBit zs_X) U
theorem za_Nn_warm {s U : State} (hW : s.WarmedH U.vm) (h : za_Nn s) : za_Nn U := ⟨va_Nw.warmM hW h.1, va_Nw.warmM hW h.2.1, va_Nw.warmM hW h.2.2.1, va_Nw.warmM hW h.2.2.2⟩
theorem za_Nn_same {s U : State} (e : s.vm = U.vm) (h : za_Nn s) : za_Nn U := ⟨va_Nw.same rfl e h.1, va_Nw.same rfl e h.2.1, va_Nw.same rfl e h.2.2.1, va_Nw.same rfl e h.2.2.2⟩
/-- a reader's start: arguments, cells -/
def za_Pr (D : va_G) (cl : List vw_C) (tys : List (ClassId × FieldType)) (av : List Value) (ws : va_W) : Array Value → State → Prop := va_Pc av (fun U => va_P D cl ws U.heap ∧ va_K D cl tys U ∧ za_Nn U)
theorem za_Pr_bl {D : va_G} {cl : List vw_C} {tys : List (ClassId × FieldType)} {av : List Value} {ws : va_W} : FrameBlind (za_Pr D cl tys av ws) := fun a U g mk q => ⟨q.1, q.2.1, va_K.moved (u := U) (U := U.calling g mk a) (Vm.Alike.refl U.vm) q.2.2.1, za_Nn_same rfl q.2.2.2⟩
theorem za_Pr_at {s : State} {H : Heap} {D : va_G} {cl : List vw_C} {tys : List (ClassId × FieldType)} {av : List Value} {ws : va_W} (hP : va_P D cl ws H) (hK : va_K D cl tys s) (hN : za_Nn s) : ∀ U : State, U.heap = H → s.WarmedH U.vm → za_Pr D cl tys av ws av.toArray U := fun U hU hW => ⟨rfl, by rw [hU]; exact hP, va_K.moved hW.alike hK, za_Nn_warm hW hN⟩
/-- a writer's start -/
def za_Pw (D : va_G) (cl : List vw_C) (tys : List (ClassId × FieldType)) (av : List Value) (ws : va_W) (sz : Nat) : Array Value → State → Prop := va_Pc av (fun U => U.heap.size = sz ∧ va_P D cl ws U.heap ∧ va_K D cl tys U ∧ za_Nn U ∧ va_D (fun _ => True) ws)
theorem za_Pw_bl {D : va_G} {cl : List vw_C} {tys : List (ClassId × FieldType)} {av : List Value} {ws : va_W} {sz : Nat} : FrameBlind (za_Pw D cl tys av ws sz) := fun a U g mk q => ⟨q.1, q.2.1, q.2.2.1, va_K.moved (u := U) (U := U.calling g mk a) (Vm.Alike.refl U.vm) q.2.2.2.1, za_Nn_same rfl q.2.2.2.2.1, q.2.2.2.2.2⟩
theorem za_Pw_at {s : State} {H : Heap} {A : Nat → Prop} {D : va_G} {cl : List vw_C} {tys : List (ClassId × FieldType)} {av : List Value} {ws : va_W} (hP : va_P D cl ws H) (hD : va_D A ws) (hK : va_K D cl tys s) (hN : za_Nn s) : ∀ U : State, U.heap = H → s.WarmedH U.vm → za_Pw D cl tys av ws H.size av.toArray U := fun U hU hW => ⟨rfl, by rw [hU], by rw [hU]; exact hP, va_K.moved hW.alike hK, za_Nn_warm hW hN, hD.weaken (fun _ _ _ _ => trivial)⟩
abbrev za_B {S0 : Type} (D : va_G) (cl : List vw_C) (ws : va_W) (sz : Nat) (wf : S0 → va_W) : S0 → State → Prop := fun u t => va_P D cl (wf u) t.heap ∧ va_D (va_A ws sz) (wf u)
abbrev za_Br {S0 : Type} (D : va_G) (cl : List vw_C) (ws : va_W) (sz : Nat) (a0 : Nat) (wf : S0 → va_W) : S0 → Nat → State → Prop := fun u a t => a = a0 ∧ va_P D cl (wf u) t.heap ∧ va_D (va_A ws sz) (wf u)
theorem za_fm {α β : Type} {f : α → Option β} {is : List α} {w : List β} (h : is.map f = w.map some) : is.filterMap f = w := by
  induction is generalizing w with
  | nil =>
    cases w with
    | nil => rfl
    | cons a w => cases h
  | cons a is ih =>
    cases w with
    | nil => cases h
    | cons b w =>
      rw [List.map_cons, List.map_cons, List.cons.injEq] at h
      rw [List.filterMap_cons_some h.1, ih h.2]
/-- a reader by its walk -/
theorem za_reader {l : Launch} {y : MethodName} {rm : Room} {av : List Value} {D : va_G} {cl : List vw_C} {tys : List (ClassId × FieldType)} {wc : va_W} {post : Int32 → Prop} {cc : ByteArray} {maxL : Nat} {ty : FieldType} (hy : plainName y.cls = true) (hlen : (lg_sl av).length ≤ maxL) (hn : ∀ v, post v → narrow ty (.int v) = .int v)
    (body : ∀ (p : Program) (e : Env) (s : State) (m : MethodId) (args : Array Value) (below : List Frame) (meth : Method) (c : Code) (H : Heap) (Q : State → Prop), p.tables.exec = Jvm.exec → c.code = cc → c.maxLocals = maxL → (∀ w ∈ zb_big, w.before args s = true) → s.vm.findClass y.cls = some m.cls → va_P D cl wc H → va_K D cl tys s → za_Nn s →
      (∀ (v : Int32) (pc : Nat) (ls : Array Slot), post v → decode cc pc = .ok (.ireturn, 1) → W p l e rm s m args below meth c H [] 0 0 Q (F0 m pc ls [.int v])) →
      ∀ ls : Array Slot, lv_has ls maxL (lv_args 0 av) → W p l e rm s m args below meth c H [] 0 0 Q (F0 m 0 ls [])) :
    Met l y (Cond.code y cc maxL (some ty) :: zb_big) rm (za_Pr D cl tys av wc) (vp_Si post) 0 0 (fun _ => False) := by
  refine Met.ofW (cc := cc) (maxL := maxL) (ret := some ty) hy rfl ?_
  intro p e s m args below meth c s₁ B hml hv
  obtain ⟨rfl, hP, hK, hN⟩ := hv
  have hts0 := atoms_spec B.pre
  have hts : ∀ w ∈ zb_big, w.before av.toArray s = true := fun w h => hts0 w (List.mem_cons_of_mem _ h)
  have hlocks := B.notSynchronized
  have hl := lv_entry av (n := maxL) hlen
  rw [lg_entry_eq]
  exact body p e s m av.toArray below meth c s.heap _ B.exec B.bytes hml hts (findClass_of_methodNamed B.named) hP hK hN (fun v pc ls hpv hd => W.zret B.exec B.bytes B.returns (hn v hpv) (fun t ht _ => ⟨v, rfl, hpv, ht⟩) (fun _ h => by cases h) hd) _ hl
section ZW
variable {l : Launch} {y : MethodName} {rm : Room} {av : List Value} {D : va_G} {cl : List vw_C} {tys : List (ClassId × FieldType)} {wc : va_W} {sz : Nat} {cc : ByteArray} {maxL mc ms : Nat} {S0 : Type} {wf : S0 → va_W}
/-- a writer that answers nothing, by its walk -/
theorem za_wv {post : S0 → Prop} (hy : plainName y.cls = true) (hlen : (lg_sl av).length ≤ maxL)
    (body : ∀ (p : Program) (e : Env) (s : State) (m : MethodId) (args : Array Value) (below : List Frame) (meth : Method) (c : Code) (H0 : Heap) (A : Nat → Prop) (Q : State → Prop), p.tables.exec = Jvm.exec → c.code = cc → c.maxLocals = maxL → (∀ w ∈ zb_big, w.before args s = true) → s.vm.findClass y.cls = some m.cls → meth.name = y.name → va_P D cl wc H0 → va_K D cl tys s → za_Nn s → va_D A wc → (∀ q : Nat, H0.size ≤ q → A q) → va_S A H0 H0 [] →
      (∀ (u : S0) (H : Heap) (locs : List Loc) (pc : Nat) (ls : Array Slot), post u → va_P D cl (wf u) H → va_D A (wf u) → va_S A H0 H locs → decode cc pc = .ok (.return_, 1) → W p l e rm s m args below meth c H locs mc ms Q (F0 m pc ls [])) →
      ∀ ls : Array Slot, lv_has ls maxL (lv_args 0 av) → W p l e rm s m args below meth c H0 [] 0 0 Q (F0 m 0 ls [])) :
    Met l y (Cond.code y cc maxL none :: zb_big) rm (za_Pw D cl tys av wc sz) (va_Qv post (za_B D cl wc sz wf) (va_A wc sz)) mc ms (va_A wc sz) := by
  refine Met.ofW (cc := cc) (maxL := maxL) (ret := none) hy rfl ?_
  intro p e s m args below meth c s₁ B hml hv
  obtain ⟨rfl, hsz, hP, hK, hN, hD0⟩ := hv
  subst hsz
  have hts0 := atoms_spec B.pre
  have hts : ∀ w ∈ zb_big, w.before av.toArray s = true := fun w h => hts0 w (List.mem_cons_of_mem _ h)
  have hlocks := B.notSynchronized
  have hl := lv_entry av (n := maxL) hlen
  rw [lg_entry_eq]
  exact body p e s m av.toArray below meth c s.heap (va_A wc s.heap.size) _ B.exec B.bytes hml hts (findClass_of_methodNamed B.named) (name_of_methodNamed B.named B.method).1 hP hK hN (hD0.self (sz := s.heap.size)) (fun q h => Or.inr h) va_S.rf (fun u H locs pc ls hu hP9 hD9 hS hd => W.vret B.exec B.bytes B.returns (fun t ht _ => ⟨⟨u, rfl, hu, by rw [ht]; exact hP9, hD9⟩, hS.F ht⟩) hS.2.2 hd) _ hl
/-- a writer that answers a number, by its walk -/
theorem za_wi {ty : FieldType} {post : Int32 → S0 → Prop} (hy : plainName y.cls = true) (hlen : (lg_sl av).length ≤ maxL) (hn : ∀ v u, post v u → narrow ty (.int v) = .int v)
    (body : ∀ (p : Program) (e : Env) (s : State) (m : MethodId) (args : Array Value) (below : List Frame) (meth : Method) (c : Code) (H0 : Heap) (A : Nat → Prop) (Q : State → Prop), p.tables.exec = Jvm.exec → c.code = cc → c.maxLocals = maxL → (∀ w ∈ zb_big, w.before args s = true) → s.vm.findClass y.cls = some m.cls → meth.name = y.name → va_P D cl wc H0 → va_K D cl tys s → za_Nn s → va_D A wc → (∀ q : Nat, H0.size ≤ q → A q) → va_S A H0 H0 [] →
      (∀ (v : Int32) (u : S0) (H : Heap) (locs : List Loc) (pc : Nat) (ls : Array Slot), post v u → va_P D cl (wf u) H → va_D A (wf u) → va_S A H0 H locs → decode cc pc = .ok (.ireturn, 1) → W p l e rm s m args below meth c H locs mc ms Q (F0 m pc ls [.int v])) →
      ∀ ls : Array Slot, lv_has ls maxL (lv_args 0 av) → W p l e rm s m args below meth c H0 [] 0 0 Q (F0 m 0 ls [])) :
    Met l y (Cond.code y cc maxL (some ty) :: zb_big) rm (za_Pw D cl tys av wc sz) (va_Qi post (za_B D cl wc sz wf) (va_A wc sz)) mc ms (va_A wc sz) := by
  refine Met.ofW (cc := cc) (maxL := maxL) (ret := some ty) hy rfl ?_
  intro p e s m args below meth c s₁ B hml hv
  obtain ⟨rfl, hsz, hP, hK, hN, hD0⟩ := hv
  subst hsz
  have hts0 := atoms_spec B.pre
  have hts : ∀ w ∈ zb_big, w.before av.toArray s = true := fun w h => hts0 w (List.mem_cons_of_mem _ h)
  have hlocks := B.notSynchronized
  have hl := lv_entry av (n := maxL) hlen
  rw [lg_entry_eq]
  exact body p e s m av.toArray below meth c s.heap (va_A wc s.heap.size) _ B.exec B.bytes hml hts (findClass_of_methodNamed B.named) (name_of_methodNamed B.named B.method).1 hP hK hN (hD0.self (sz := s.heap.size)) (fun q h => Or.inr h) va_S.rf (fun v u H locs pc ls hu hP9 hD9 hS hd => W.zret B.exec B.bytes B.returns (hn v u hu) (fun t ht _ => ⟨⟨v, u, rfl, hu, by rw [ht]; exact hP9, hD9⟩, hS.F ht⟩) hS.2.2 hd) _ hl
/-- a writer that answers a cell that is known, by its walk -/
theorem za_wr {C : String} {a0 : Nat} {post : S0 → Prop} (hy : plainName y.cls = true) (hlen : (lg_sl av).length ≤ maxL)
    (body : ∀ (p : Program) (e : Env) (s : State) (m : MethodId) (args : Array Value) (below : List Frame) (meth : Method) (c : Code) (H0 : Heap) (A : Nat → Prop) (Q : State → Prop), p.tables.exec = Jvm.exec → c.code = cc → c.maxLocals = maxL → (∀ w ∈ zb_big, w.before args s = true) → s.vm.findClass y.cls = some m.cls → meth.name = y.name → va_P D cl wc H0 → va_K D cl tys s → za_Nn s → va_D A wc → (∀ q : Nat, H0.size ≤ q → A q) → va_S A H0 H0 [] →
      (∀ (u : S0) (H : Heap) (locs : List Loc) (pc : Nat) (ls : Array Slot), post u → va_P D cl (wf u) H → va_D A (wf u) → va_S A H0 H locs → decode cc pc = .ok (.areturn, 1) → W p l e rm s m args below meth c H locs mc ms Q (F0 m pc ls [.ref a0])) →
      ∀ ls : Array Slot, lv_has ls maxL (lv_args 0 av) → W p l e rm s m args below meth c H0 [] 0 0 Q (F0 m 0 ls [])) :
    Met l y (Cond.code y cc maxL (some (.object C)) :: zb_big) rm (za_Pw D cl tys av wc sz) (va_Qr post (za_Br D cl wc sz a0 wf) (va_A wc sz)) mc ms (va_A wc sz) := by
  refine Met.ofW (cc := cc) (maxL := maxL) (ret := some (.object C)) hy rfl ?_
  intro p e s m args below meth c s₁ B hml hv
  obtain ⟨rfl, hsz, hP, hK, hN, hD0⟩ := hv
  subst hsz
  have hts0 := atoms_spec B.pre
  have hts : ∀ w ∈ zb_big, w.before av.toArray s = true := fun w h => hts0 w (List.mem_cons_of_mem _ h)
  have hlocks := B.notSynchronized
  have hl := lv_entry av (n := maxL) hlen
  rw [lg_entry_eq]
  exact body p e s m av.toArray below meth c s.heap (va_A wc s.heap.size) _ B.exec B.bytes hml hts (findClass_of_methodNamed B.named) (name_of_methodNamed B.named B.method).1 hP hK hN (hD0.self (sz := s.heap.size)) (fun q h => Or.inr h) va_S.rf (fun u H locs pc ls hu hP9 hD9 hS hd => W.aret B.exec B.bytes B.returns (Or.inl ⟨C, rfl⟩) (Or.inr ⟨a0, rfl⟩) (fun t ht _ => ⟨⟨u, a0, rfl, hu, rfl, by rw [ht]; exact hP9, hD9⟩, hS.F ht⟩) hS.2.2 hd) _ hl
end ZW
section ZG
variable {R : Room} {s : State} {args : Array Value} {own C host : String} {index maxL mc ms : Nat} {y : MethodName} {bytes : ByteArray} {ret : Option FieldType} {rm : Room}
theorem za_good {c : Cond} (hc : c ∈ zb_big) : GoodIn zb_big (c :: zb_big) := fun w h => by
  rcases List.mem_cons.mp h with e | e
  · rw [e]; exact zb_good c hc
  · exact zb_good w e
theorem za_gB (n : Nat) (ht : ∀ w ∈ zb_big, w.before args s = true) (hl : Cond.methodLink own index y ∈ zb_big) (hi : Cond.initialized y.cls ∈ zb_big) (hc : Cond.code y bytes maxL ret ∈ zb_big) (hd : y.cls ≠ "java/lang/invoke/MethodHandle" ∧ y.cls ≠ "java/lang/invoke/VarHandle" ∧ (parseMethodDescriptor y.desc).map (fun d => d.parameters.length) = some n) (hR : rm.frames + 1 ≤ R.frames ∧ 8 + (maxL + 11) + rm.locals ≤ R.locals) : CallB R s args own index y bytes maxL ret (Cond.code y bytes maxL ret :: zb_big) rm rm.cells rm.slots n :=
  callB_of n ht (za_good hc) rfl rfl rfl (ht _ hi) (ht _ hl) hd hR
theorem za_gV (n : Nat) (ht : ∀ w ∈ zb_big, w.before args s = true) (hl : Cond.methodLink own index y ∈ zb_big) (him : Cond.instanceMethod y ∈ zb_big) (hs : Cond.selects C y y ∈ zb_big) (hi : Cond.initialized y.cls ∈ zb_big) (hc : Cond.code y bytes maxL ret ∈ zb_big) (hd : y.cls ≠ "java/lang/invoke/MethodHandle" ∧ y.cls ≠ "java/lang/invoke/VarHandle" ∧ (parseMethodDescriptor y.desc).map (fun d => d.parameters.length) = some n) (hR : rm.frames + 1 ≤ R.frames ∧ 8 + (maxL + 11) + rm.locals ≤ R.locals) : CallW R s args own C index y bytes maxL ret (Cond.code y bytes maxL ret :: zb_big) rm rm.cells rm.slots n :=
  ⟨za_gB n ht hl hi hc hd hR, ht _ him, ht _ hs⟩
theorem za_gS (n : Nat) (ht : ∀ w ∈ zb_big, w.before args s = true) (hl : Cond.methodLink own index y ∈ zb_big) (hst : Cond.static y ∈ zb_big) (hi : Cond.initialized y.cls ∈ zb_big) (hc : Cond.code y bytes maxL ret ∈ zb_big) (hd : y.cls ≠ "java/lang/invoke/MethodHandle" ∧ y.cls ≠ "java/lang/invoke/VarHandle" ∧ (parseMethodDescriptor y.desc).map (fun d => d.parameters.length) = some n) (hR : rm.frames + 1 ≤ R.frames ∧ 8 + (maxL + 11) + rm.locals ≤ R.locals) : CallB R s args own index y bytes maxL ret (Cond.code y bytes maxL ret :: zb_big) rm rm.cells rm.slots n ∧ (Cond.static y).before args s = true :=
  ⟨za_gB n ht hl hi hc hd hR, ht _ hst⟩
theorem za_gI (n : Nat) (ht : ∀ w ∈ zb_big, w.before args s = true) (hl : Cond.methodLink own index y ∈ zb_big) (him : Cond.instanceMethod y ∈ zb_big) (hi : Cond.initialized y.cls ∈ zb_big) (hc : Cond.code y bytes maxL none ∈ zb_big) (hd : y.cls ≠ "java/lang/invoke/MethodHandle" ∧ y.cls ≠ "java/lang/invoke/VarHandle" ∧ (parseMethodDescriptor y.desc).map (fun d => d.parameters.length) = some n) (hn : y.name = "<init>") (hR : rm.frames + 1 ≤ R.frames ∧ 8 + (maxL + 11) + rm.locals ≤ R.locals) : CallB R s args own index y bytes maxL none (Cond.code y bytes maxL none :: zb_big) rm rm.cells rm.slots n ∧ y.name = "<init>" ∧ (Cond.instanceMethod y).before args s = true :=
  ⟨za_gB n ht hl hi hc hd hR, hn, ht _ him⟩
theorem za_gSN (n : Nat) (ht : ∀ w ∈ zb_big, w.before args s = true) (hl : va_Nw (.methodLinkNest own index y host) s) (hst : Cond.static y ∈ zb_big) (hi : Cond.initialized y.cls ∈ zb_big) (hc : Cond.code y bytes maxL ret ∈ zb_big) (hd : y.cls ≠ "java/lang/invoke/MethodHandle" ∧ y.cls ≠ "java/lang/invoke/VarHandle" ∧ (parseMethodDescriptor y.desc).map (fun d => d.parameters.length) = some n) (hR : rm.frames + 1 ≤ R.frames ∧ 8 + (maxL + 11) + rm.locals ≤ R.locals) : va_CN R s args own index y host bytes maxL ret (Cond.code y bytes maxL ret :: zb_big) rm rm.cells rm.slots n ∧ (Cond.static y).before args s = true ∧ True :=
  ⟨va_cnB n ht (za_good hc) rfl rfl rfl hl (ht _ hi) hd hR, ht _ hst, trivial⟩
end ZG
section ZC
variable {p : Program} {l : Launch} {e : Env} {R : Room} {s : State} {m : MethodId} {args : Array Value} {below : List Frame} {meth : Method} {c : Code} {H : Heap} {locs : List Loc} {cells slots : Nat} {Q : State → Prop} {cc : ByteArray} {pc : Nat} {ls : Array Slot} {rest st0 : List Value}
variable {D : va_G} {cl : List vw_C} {tys : List (ClassId × FieldType)} {ws wc wr : va_W} {A : Nat → Prop} {H0 : Heap} {y : MethodName} {bytes : ByteArray} {maxL nL n index mc ms : Nat} {ret : Option FieldType} {wy : List Cond} {rm : Room} {Ts : List Cond} {own C host : String} {b q0 ci N : Nat} {T : u_T} {fs : List Value} {As : List Value} {lv : List (Nat × Value)} {S0 : Type} {wf wz : S0 → va_W}
theorem za_cV {v : Int32} (F : CallFix p m c cc nL s args Ts own) (hM : Met l y wy rm (za_Pr D cl tys (.ref b :: As) wc) (vp_Si (fun r => r = v)) 0 0 (fun _ => False)) (cw : CallW R s args own C index y bytes maxL ret wy rm 0 0 n) (hK : va_K D cl tys s) (hN : za_Nn s) (hP : va_P D cl ws H) (is : List Nat) (hs : is.filterMap (fun i => ws[i]?) = wc) (he : ws[q0]? = some (b, .inr (ci, fs))) (hc : cl[ci]? = some (C, T, N)) (hl : lv_has ls nL lv) (hn : As.length = n) (hst : st0 = As.reverse ++ .ref b :: rest) (hr : (rest.map fun v => v.category).sum ≤ 8) (hd : decode cc pc = .ok (.invokevirtual index, 3)) (hf : cells + 0 ≤ R.cells ∧ slots + 0 ≤ R.slots)
    (kk : W p l e R s m args below meth c H locs cells slots Q (F0 m (pc + 3) ls (.int v :: rest))) : W p l e R s m args below meth c H locs cells slots Q (F0 m pc ls st0) :=
  vp_callSi (va_runV (As := As) (rest := rest) (g := F0 m pc ls st0) F hM cw ⟨za_Pr_bl, va_recv hK hP hc he, za_Pr_at (hP.sub is hs) hK hN⟩ rfl hn hl.1 hst (lv_room (pc := pc) (ls := ls) (rest := st0) hr) hd hf).run (fun r h => by subst h; exact kk)
theorem za_cVN {v : Int32} (F : CallFix p m c cc nL s args Ts own) (hM : Met l y wy rm (za_Pr D cl tys (.ref b :: As) wc) (vp_Si (fun r => r = v)) 0 0 (fun _ => False)) (cw : va_CN R s args own index y host bytes maxL ret wy rm 0 0 n ∧ (Cond.instanceMethod y).before args s = true ∧ (Cond.selects C y y).before args s = true) (hK : va_K D cl tys s) (hN : za_Nn s) (hP : va_P D cl ws H) (is : List Nat) (hs : is.filterMap (fun i => ws[i]?) = wc) (he : ws[q0]? = some (b, .inr (ci, fs))) (hc : cl[ci]? = some (C, T, N)) (hl : lv_has ls nL lv) (hn : As.length = n) (hst : st0 = As.reverse ++ .ref b :: rest) (hr : (rest.map fun v => v.category).sum ≤ 8) (hd : decode cc pc = .ok (.invokevirtual index, 3)) (hf : cells + 0 ≤ R.cells ∧ slots + 0 ≤ R.slots)
    (kk : W p l e R s m args below meth c H locs cells slots Q (F0 m (pc + 3) ls (.int v :: rest))) : W p l e R s m args below meth c H locs cells slots Q (F0 m pc ls st0) :=
  vp_callSi (va_runVN (As := As) (rest := rest) (g := F0 m pc ls st0) F hM cw ⟨za_Pr_bl, va_recv hK hP hc he, za_Pr_at (hP.sub is hs) hK hN⟩ rfl hn hl.1 hst (lv_room (pc := pc) (ls := ls) (rest := st0) hr) hd hf).run (fun r h => by subst h; exact kk)
theorem za_cS {v : Int32} (F : CallFix p m c cc nL s args Ts own) (hM : Met l y wy rm (za_Pr D cl tys As wc) (vp_Si (fun r => r = v)) 0 0 (fun _ => False)) (cw : CallB R s args own index y bytes maxL ret wy rm 0 0 n ∧ (Cond.static y).before args s = true) (hK : va_K D cl tys s) (hN : za_Nn s) (hP : va_P D cl ws H) (is : List Nat) (hs : is.filterMap (fun i => ws[i]?) = wc) (hl : lv_has ls nL lv) (hn : As.length = n) (hst : st0 = As.reverse ++ rest) (hr : (rest.map fun v => v.category).sum ≤ 8) (hd : decode cc pc = .ok (.invokestatic index, 3)) (hf : cells + 0 ≤ R.cells ∧ slots + 0 ≤ R.slots)
    (kk : W p l e R s m args below meth c H locs cells slots Q (F0 m (pc + 3) ls (.int v :: rest))) : W p l e R s m args below meth c H locs cells slots Q (F0 m pc ls st0) :=
  vp_callSi (va_runS (As := As) (rest := rest) (g := F0 m pc ls st0) F hM cw ⟨za_Pr_bl, za_Pr_at (hP.sub is hs) hK hN⟩ rfl hn hl.1 hst (lv_room (pc := pc) (ls := ls) (rest := st0) hr) hd hf).run (fun r h => by subst h; exact kk)
theorem za_cSN {v : Int32} (F : CallFix p m c cc nL s args Ts own) (hM : Met l y wy rm (za_Pr D cl tys As wc) (vp_Si (fun r => r = v)) 0 0 (fun _ => False)) (cw : va_CN R s args own index y host bytes maxL ret wy rm 0 0 n ∧ (Cond.static y).before args s = true ∧ True) (hK : va_K D cl tys s) (hN : za_Nn s) (hP : va_P D cl ws H) (is : List Nat) (hs : is.filterMap (fun i => ws[i]?) = wc) (hl : lv_has ls nL lv) (hn : As.length = n) (hst : st0 = As.reverse ++ rest) (hr : (rest.map fun v => v.category).sum ≤ 8) (hd : decode cc pc = .ok (.invokestatic index, 3)) (hf : cells + 0 ≤ R.cells ∧ slots + 0 ≤ R.slots)
    (kk : W p l e R s m args below meth c H locs cells slots Q (F0 m (pc + 3) ls (.int v :: rest))) : W p l e R s m args below meth c H locs cells slots Q (F0 m pc ls st0) :=
  vp_callSi (va_runSN (As := As) (rest := rest) (g := F0 m pc ls st0) F hM cw ⟨za_Pr_bl, za_Pr_at (hP.sub is hs) hK hN⟩ rfl hn hl.1 hst (lv_room (pc := pc) (ls := ls) (rest := st0) hr) hd hf).run (fun r h => by subst h; exact kk)
theorem za_wVv {post : S0 → Prop} (F : CallFix p m c cc nL s args Ts own) (hM : Met l y wy rm (za_Pw D cl tys (.ref b :: As) wc H.size) (va_Qv post (za_B D cl wc H.size wf) (va_A wc H.size)) mc ms (va_A wc H.size)) (cw : CallW R s args own C index y bytes maxL ret wy rm mc ms n) (hK : va_K D cl tys s) (hN : za_Nn s) (hP : va_P D cl ws H) (hD : va_D A ws) (hS : va_S A H0 H locs) (hA : ∀ q, H0.size ≤ q → A q) (isC isR isZ : List Nat) (hC : isC.map (fun i => ws[i]?) = wc.map some) (hR : isR.map (fun i => ws[i]?) = wr.map some) (hnC : va_nd isC = true) (hnR : va_nd isR = true) (hdis : ∀ i ∈ isR, i ∉ isC) (hnZ : va_nd isZ = true) (hZ : ∀ u, isZ.map (fun i => (wr ++ wf u)[i]?) = (wz u).map some) (he : ws[q0]? = some (b, .inr (ci, fs))) (hc : cl[ci]? = some (C, T, N)) (hl : lv_has ls nL lv) (hn : As.length = n) (hst : st0 = As.reverse ++ .ref b :: rest) (hr : (rest.map fun v => v.category).sum ≤ 8) (hd : decode cc pc = .ok (.invokevirtual index, 3)) (hf : cells + mc ≤ R.cells ∧ slots + ms ≤ R.slots)
    (kk : ∀ (u : S0) (H1 : Heap) (locs1 : List Loc), post u → va_P D cl (wz u) H1 → va_D A (wz u) → va_S A H0 H1 locs1 → W p l e R s m args below meth c H1 locs1 (cells + mc) (slots + ms) Q (F0 m (pc + 3) ls rest)) : W p l e R s m args below meth c H locs cells slots Q (F0 m pc ls st0) := by
  have hFc := va_free (wc := wc) hD hS hA isC hC
  refine va_callv (va_runV (As := As) (rest := rest) (g := F0 m pc ls st0) F hM cw ⟨za_Pw_bl, va_recv hK hP hc he, za_Pw_at (hP.sub isC (za_fm hC)) (hD.sub isC hnC hC) hK hN⟩ rfl hn hl.1 hst (lv_room (pc := pc) (ls := ls) (rest := st0) hr) hd hf) hS (fun q _ h => hFc q h) hFc (fun u t H1 locs1 ht hvm hw hB hz hk hS1 => ?_)
  obtain ⟨hP1, hD1⟩ := hB
  rw [ht] at hP1
  obtain ⟨hP2, hD2⟩ := va_join hP hD isC isR hC hR hnR hdis hk hFc hP1 hD1
  exact kk u H1 locs1 hw (hP2.sub isZ (za_fm (hZ u))) (hD2.sub isZ hnZ (hZ u)) hS1
theorem za_wVi {post : Int32 → S0 → Prop} (F : CallFix p m c cc nL s args Ts own) (hM : Met l y wy rm (za_Pw D cl tys (.ref b :: As) wc H.size) (va_Qi post (za_B D cl wc H.size wf) (va_A wc H.size)) mc ms (va_A wc H.size)) (cw : CallW R s args own C index y bytes maxL ret wy rm mc ms n) (hK : va_K D cl tys s) (hN : za_Nn s) (hP : va_P D cl ws H) (hD : va_D A ws) (hS : va_S A H0 H locs) (hA : ∀ q, H0.size ≤ q → A q) (isC isR isZ : List Nat) (hC : isC.map (fun i => ws[i]?) = wc.map some) (hR : isR.map (fun i => ws[i]?) = wr.map some) (hnC : va_nd isC = true) (hnR : va_nd isR = true) (hdis : ∀ i ∈ isR, i ∉ isC) (hnZ : va_nd isZ = true) (hZ : ∀ u, isZ.map (fun i => (wr ++ wf u)[i]?) = (wz u).map some) (he : ws[q0]? = some (b, .inr (ci, fs))) (hc : cl[ci]? = some (C, T, N)) (hl : lv_has ls nL lv) (hn : As.length = n) (hst : st0 = As.reverse ++ .ref b :: rest) (hr : (rest.map fun v => v.category).sum ≤ 8) (hd : decode cc pc = .ok (.invokevirtual index, 3)) (hf : cells + mc ≤ R.cells ∧ slots + ms ≤ R.slots)
    (kk : ∀ (r : Int32) (u : S0) (H1 : Heap) (locs1 : List Loc), post r u → va_P D cl (wz u) H1 → va_D A (wz u) → va_S A H0 H1 locs1 → W p l e R s m args below meth c H1 locs1 (cells + mc) (slots + ms) Q (F0 m (pc + 3) ls (.int r :: rest))) : W p l e R s m args below meth c H locs cells slots Q (F0 m pc ls st0) := by
  have hFc := va_free (wc := wc) hD hS hA isC hC
  refine va_calli (va_runV (As := As) (rest := rest) (g := F0 m pc ls st0) F hM cw ⟨za_Pw_bl, va_recv hK hP hc he, za_Pw_at (hP.sub isC (za_fm hC)) (hD.sub isC hnC hC) hK hN⟩ rfl hn hl.1 hst (lv_room (pc := pc) (ls := ls) (rest := st0) hr) hd hf) hS (fun q _ h => hFc q h) hFc (fun r u t H1 locs1 ht hvm hw hB hz hk hS1 => ?_)
  obtain ⟨hP1, hD1⟩ := hB
  rw [ht] at hP1
  obtain ⟨hP2, hD2⟩ := va_join hP hD isC isR hC hR hnR hdis hk hFc hP1 hD1
  exact kk r u H1 locs1 hw (hP2.sub isZ (za_fm (hZ u))) (hD2.sub isZ hnZ (hZ u)) hS1
theorem za_wVr {post : S0 → Prop} {a0 : Nat} (F : CallFix p m c cc nL s args Ts own) (hM : Met l y wy rm (za_Pw D cl tys (.ref b :: As) wc H.size) (va_Qr post (za_Br D cl wc H.size a0 wf) (va_A wc H.size)) mc ms (va_A wc H.size)) (cw : CallW R s args own C index y bytes maxL ret wy rm mc ms n) (hK : va_K D cl tys s) (hN : za_Nn s) (hP : va_P D cl ws H) (hD : va_D A ws) (hS : va_S A H0 H locs) (hA : ∀ q, H0.size ≤ q → A q) (isC isR isZ : List Nat) (hC : isC.map (fun i => ws[i]?) = wc.map some) (hR : isR.map (fun i => ws[i]?) = wr.map some) (hnC : va_nd isC = true) (hnR : va_nd isR = true) (hdis : ∀ i ∈ isR, i ∉ isC) (hnZ : va_nd isZ = true) (hZ : ∀ u, isZ.map (fun i => (wr ++ wf u)[i]?) = (wz u).map some) (he : ws[q0]? = some (b, .inr (ci, fs))) (hc : cl[ci]? = some (C, T, N)) (hl : lv_has ls nL lv) (hn : As.length = n) (hst : st0 = As.reverse ++ .ref b :: rest) (hr : (rest.map fun v => v.category).sum ≤ 8) (hd : decode cc pc = .ok (.invokevirtual index, 3)) (hf : cells + mc ≤ R.cells ∧ slots + ms ≤ R.slots)
    (kk : ∀ (u : S0) (H1 : Heap) (locs1 : List Loc), post u → va_P D cl (wz u) H1 → va_D A (wz u) → va_S A H0 H1 locs1 → W p l e R s m args below meth c H1 locs1 (cells + mc) (slots + ms) Q (F0 m (pc + 3) ls (.ref a0 :: rest))) : W p l e R s m args below meth c H locs cells slots Q (F0 m pc ls st0) := by
  have hFc := va_free (wc := wc) hD hS hA isC hC
  refine va_callr (va_runV (As := As) (rest := rest) (g := F0 m pc ls st0) F hM cw ⟨za_Pw_bl, va_recv hK hP hc he, za_Pw_at (hP.sub isC (za_fm hC)) (hD.sub isC hnC hC) hK hN⟩ rfl hn hl.1 hst (lv_room (pc := pc) (ls := ls) (rest := st0) hr) hd hf) hS (fun q _ h => hFc q h) hFc (fun u a t H1 locs1 ht hvm hw hB hz hk hS1 => ?_)
  obtain ⟨rfl, hP1, hD1⟩ := hB
  rw [ht] at hP1
  obtain ⟨hP2, hD2⟩ := va_join hP hD isC isR hC hR hnR hdis hk hFc hP1 hD1
  exact kk u H1 locs1 hw (hP2.sub isZ (za_fm (hZ u))) (hD2.sub isZ hnZ (hZ u)) hS1
theorem za_wVNv {post : S0 → Prop} (F : CallFix p m c cc nL s args Ts own) (hM : Met l y wy rm (za_Pw D cl tys (.ref b :: As) wc H.size) (va_Qv post (za_B D cl wc H.size wf) (va_A wc H.size)) mc ms (va_A wc H.size)) (cw : va_CN R s args own index y host bytes maxL ret wy rm mc ms n ∧ (Cond.instanceMethod y).before args s = true ∧ (Cond.selects C y y).before args s = true) (hK : va_K D cl tys s) (hN : za_Nn s) (hP : va_P D cl ws H) (hD : va_D A ws) (hS : va_S A H0 H locs) (hA : ∀ q, H0.size ≤ q → A q) (isC isR isZ : List Nat) (hC : isC.map (fun i => ws[i]?) = wc.map some) (hR : isR.map (fun i => ws[i]?) = wr.map some) (hnC : va_nd isC = true) (hnR : va_nd isR = true) (hdis : ∀ i ∈ isR, i ∉ isC) (hnZ : va_nd isZ = true) (hZ : ∀ u, isZ.map (fun i => (wr ++ wf u)[i]?) = (wz u).map some) (he : ws[q0]? = some (b, .inr (ci, fs))) (hc : cl[ci]? = some (C, T, N)) (hl : lv_has ls nL lv) (hn : As.length = n) (hst : st0 = As.reverse ++ .ref b :: rest) (hr : (rest.map fun v => v.category).sum ≤ 8) (hd : decode cc pc = .ok (.invokevirtual index, 3)) (hf : cells + mc ≤ R.cells ∧ slots + ms ≤ R.slots)
    (kk : ∀ (u : S0) (H1 : Heap) (locs1 : List Loc), post u → va_P D cl (wz u) H1 → va_D A (wz u) → va_S A H0 H1 locs1 → W p l e R s m args below meth c H1 locs1 (cells + mc) (slots + ms) Q (F0 m (pc + 3) ls rest)) : W p l e R s m args below meth c H locs cells slots Q (F0 m pc ls st0) := by
  have hFc := va_free (wc := wc) hD hS hA isC hC
  refine va_callv (va_runVN (As := As) (rest := rest) (g := F0 m pc ls st0) F hM cw ⟨za_Pw_bl, va_recv hK hP hc he, za_Pw_at (hP.sub isC (za_fm hC)) (hD.sub isC hnC hC) hK hN⟩ rfl hn hl.1 hst (lv_room (pc := pc) (ls := ls) (rest := st0) hr) hd hf) hS (fun q _ h => hFc q h) hFc (fun u t H1 locs1 ht hvm hw hB hz hk hS1 => ?_)
  obtain ⟨hP1, hD1⟩ := hB
  rw [ht] at hP1
  obtain ⟨hP2, hD2⟩ := va_join hP hD isC isR hC hR hnR hdis hk hFc hP1 hD1
  exact kk u H1 locs1 hw (hP2.sub isZ (za_fm (hZ u))) (hD2.sub isZ hnZ (hZ u)) hS1
theorem za_wVNi {post : Int32 → S0 → Prop} (F : CallFix p m c cc nL s args Ts own) (hM : Met l y wy rm (za_Pw D cl tys (.ref b :: As) wc H.size) (va_Qi post (za_B D cl wc H.size wf) (va_A wc H.size)) mc ms (va_A wc H.size)) (cw : va_CN R s args own index y host bytes maxL ret wy rm mc ms n ∧ (Cond.instanceMethod y).before args s = true ∧ (Cond.selects C y y).before args s = true) (hK : va_K D cl tys s) (hN : za_Nn s) (hP : va_P D cl ws H) (hD : va_D A ws) (hS : va_S A H0 H locs) (hA : ∀ q, H0.size ≤ q → A q) (isC isR isZ : List Nat) (hC : isC.map (fun i => ws[i]?) = wc.map some) (hR : isR.map (fun i => ws[i]?) = wr.map some) (hnC : va_nd isC = true) (hnR : va_nd isR = true) (hdis : ∀ i ∈ isR, i ∉ isC) (hnZ : va_nd isZ = true) (hZ : ∀ u, isZ.map (fun i => (wr ++ wf u)[i]?) = (wz u).map some) (he : ws[q0]? = some (b, .inr (ci, fs))) (hc : cl[ci]? = some (C, T, N)) (hl : lv_has ls nL lv) (hn : As.length = n) (hst : st0 = As.reverse ++ .ref b :: rest) (hr : (rest.map fun v => v.category).sum ≤ 8) (hd : decode cc pc = .ok (.invokevirtual index, 3)) (hf : cells + mc ≤ R.cells ∧ slots + ms ≤ R.slots)
    (kk : ∀ (r : Int32) (u : S0) (H1 : Heap) (locs1 : List Loc), post r u → va_P D cl (wz u) H1 → va_D A (wz u) → va_S A H0 H1 locs1 → W p l e R s m args below meth c H1 locs1 (cells + mc) (slots + ms) Q (F0 m (pc + 3) ls (.int r :: rest))) : W p l e R s m args below meth c H locs cells slots Q (F0 m pc ls st0) := by
  have hFc := va_free (wc := wc) hD hS hA isC hC
  refine va_calli (va_runVN (As := As) (rest := rest) (g := F0 m pc ls st0) F hM cw ⟨za_Pw_bl, va_recv hK hP hc he, za_Pw_at (hP.sub isC (za_fm hC)) (hD.sub isC hnC hC) hK hN⟩ rfl hn hl.1 hst (lv_room (pc := pc) (ls := ls) (rest := st0) hr) hd hf) hS (fun q _ h => hFc q h) hFc (fun r u t H1 locs1 ht hvm hw hB hz hk hS1 => ?_)
  obtain ⟨hP1, hD1⟩ := hB
  rw [ht] at hP1
  obtain ⟨hP2, hD2⟩ := va_join hP hD isC isR hC hR hnR hdis hk hFc hP1 hD1
  exact kk r u H1 locs1 hw (hP2.sub isZ (za_fm (hZ u))) (hD2.sub isZ hnZ (hZ u)) hS1
theorem za_wVNr {post : S0 → Prop} {a0 : Nat} (F : CallFix p m c cc nL s args Ts own) (hM : Met l y wy rm (za_Pw D cl tys (.ref b :: As) wc H.size) (va_Qr post (za_Br D cl wc H.size a0 wf) (va_A wc H.size)) mc ms (va_A wc H.size)) (cw : va_CN R s args own index y host bytes maxL ret wy rm mc ms n ∧ (Cond.instanceMethod y).before args s = true ∧ (Cond.selects C y y).before args s = true) (hK : va_K D cl tys s) (hN : za_Nn s) (hP : va_P D cl ws H) (hD : va_D A ws) (hS : va_S A H0 H locs) (hA : ∀ q, H0.size ≤ q → A q) (isC isR isZ : List Nat) (hC : isC.map (fun i => ws[i]?) = wc.map some) (hR : isR.map (fun i => ws[i]?) = wr.map some) (hnC : va_nd isC = true) (hnR : va_nd isR = true) (hdis : ∀ i ∈ isR, i ∉ isC) (hnZ : va_nd isZ = true) (hZ : ∀ u, isZ.map (fun i => (wr ++ wf u)[i]?) = (wz u).map some) (he : ws[q0]? = some (b, .inr (ci, fs))) (hc : cl[ci]? = some (C, T, N)) (hl : lv_has ls nL lv) (hn : As.length = n) (hst : st0 = As.reverse ++ .ref b :: rest) (hr : (rest.map fun v => v.category).sum ≤ 8) (hd : decode cc pc = .ok (.invokevirtual index, 3)) (hf : cells + mc ≤ R.cells ∧ slots + ms ≤ R.slots)
    (kk : ∀ (u : S0) (H1 : Heap) (locs1 : List Loc), post u → va_P D cl (wz u) H1 → va_D A (wz u) → va_S A H0 H1 locs1 → W p l e R s m args below meth c H1 locs1 (cells + mc) (slots + ms) Q (F0 m (pc + 3) ls (.ref a0 :: rest))) : W p l e R s m args below meth c H locs cells slots Q (F0 m pc ls st0) := by
  have hFc := va_free (wc := wc) hD hS hA isC hC
  refine va_callr (va_runVN (As := As) (rest := rest) (g := F0 m pc ls st0) F hM cw ⟨za_Pw_bl, va_recv hK hP hc he, za_Pw_at (hP.sub isC (za_fm hC)) (hD.sub isC hnC hC) hK hN⟩ rfl hn hl.1 hst (lv_room (pc := pc) (ls := ls) (rest := st0) hr) hd hf) hS (fun q _ h => hFc q h) hFc (fun u a t H1 locs1 ht hvm hw hB hz hk hS1 => ?_)
  obtain ⟨rfl, hP1, hD1⟩ := hB
  rw [ht] at hP1
  obtain ⟨hP2, hD2⟩ := va_join hP hD isC isR hC hR hnR hdis hk hFc hP1 hD1
  exact kk u H1 locs1 hw (hP2.sub isZ (za_fm (hZ u))) (hD2.sub isZ hnZ (hZ u)) hS1
theorem za_wIv {post : S0 → Prop} (F : CallFix p m c cc nL s args Ts own) (hM : Met l y wy rm (za_Pw D cl tys (.ref b :: As) wc H.size) (va_Qv post (za_B D cl wc H.size wf) (va_A wc H.size)) mc ms (va_A wc H.size)) (cw : CallB R s args own index y bytes maxL none wy rm mc ms n ∧ y.name = "<init>" ∧ (Cond.instanceMethod y).before args s = true) (hK : va_K D cl tys s) (hN : za_Nn s) (hP : va_P D cl ws H) (hD : va_D A ws) (hS : va_S A H0 H locs) (hA : ∀ q, H0.size ≤ q → A q) (isC isR isZ : List Nat) (hC : isC.map (fun i => ws[i]?) = wc.map some) (hR : isR.map (fun i => ws[i]?) = wr.map some) (hnC : va_nd isC = true) (hnR : va_nd isR = true) (hdis : ∀ i ∈ isR, i ∉ isC) (hnZ : va_nd isZ = true) (hZ : ∀ u, isZ.map (fun i => (wr ++ wf u)[i]?) = (wz u).map some) (hl : lv_has ls nL lv) (hn : As.length = n) (hst : st0 = As.reverse ++ .ref b :: rest) (hr : (rest.map fun v => v.category).sum ≤ 8) (hd : decode cc pc = .ok (.invokespecial index, 3)) (hf : cells + mc ≤ R.cells ∧ slots + ms ≤ R.slots)
    (kk : ∀ (u : S0) (H1 : Heap) (locs1 : List Loc), post u → va_P D cl (wz u) H1 → va_D A (wz u) → va_S A H0 H1 locs1 → W p l e R s m args below meth c H1 locs1 (cells + mc) (slots + ms) Q (F0 m (pc + 3) ls rest)) : W p l e R s m args below meth c H locs cells slots Q (F0 m pc ls st0) := by
  have hFc := va_free (wc := wc) hD hS hA isC hC
  refine va_callv (va_runI (As := As) (rest := rest) (g := F0 m pc ls st0) F hM cw ⟨za_Pw_bl, za_Pw_at (hP.sub isC (za_fm hC)) (hD.sub isC hnC hC) hK hN⟩ rfl hn hl.1 hst (lv_room (pc := pc) (ls := ls) (rest := st0) hr) hd hf) hS (fun q _ h => hFc q h) hFc (fun u t H1 locs1 ht hvm hw hB hz hk hS1 => ?_)
  obtain ⟨hP1, hD1⟩ := hB
  rw [ht] at hP1
  obtain ⟨hP2, hD2⟩ := va_join hP hD isC isR hC hR hnR hdis hk hFc hP1 hD1
  exact kk u H1 locs1 hw (hP2.sub isZ (za_fm (hZ u))) (hD2.sub isZ hnZ (hZ u)) hS1
theorem za_wINv {post : S0 → Prop} (F : CallFix p m c cc nL s args Ts own) (hM : Met l y wy rm (za_Pw D cl tys (.ref b :: As) wc H.size) (va_Qv post (za_B D cl wc H.size wf) (va_A wc H.size)) mc ms (va_A wc H.size)) (cw : va_CN R s args own index y host bytes maxL none wy rm mc ms n ∧ y.name = "<init>" ∧ (Cond.instanceMethod y).before args s = true) (hK : va_K D cl tys s) (hN : za_Nn s) (hP : va_P D cl ws H) (hD : va_D A ws) (hS : va_S A H0 H locs) (hA : ∀ q, H0.size ≤ q → A q) (isC isR isZ : List Nat) (hC : isC.map (fun i => ws[i]?) = wc.map some) (hR : isR.map (fun i => ws[i]?) = wr.map some) (hnC : va_nd isC = true) (hnR : va_nd isR = true) (hdis : ∀ i ∈ isR, i ∉ isC) (hnZ : va_nd isZ = true) (hZ : ∀ u, isZ.map (fun i => (wr ++ wf u)[i]?) = (wz u).map some) (hl : lv_has ls nL lv) (hn : As.length = n) (hst : st0 = As.reverse ++ .ref b :: rest) (hr : (rest.map fun v => v.category).sum ≤ 8) (hd : decode cc pc = .ok (.invokespecial index, 3)) (hf : cells + mc ≤ R.cells ∧ slots + ms ≤ R.slots)
    (kk : ∀ (u : S0) (H1 : Heap) (locs1 : List Loc), post u → va_P D cl (wz u) H1 → va_D A (wz u) → va_S A H0 H1 locs1 → W p l e R s m args below meth c H1 locs1 (cells + mc) (slots + ms) Q (F0 m (pc + 3) ls rest)) : W p l e R s m args below meth c H locs cells slots Q (F0 m pc ls st0) := by
  have hFc := va_free (wc := wc) hD hS hA isC hC
  refine va_callv (va_runIN (As := As) (rest := rest) (g := F0 m pc ls st0) F hM cw ⟨za_Pw_bl, za_Pw_at (hP.sub isC (za_fm hC)) (hD.sub isC hnC hC) hK hN⟩ rfl hn hl.1 hst (lv_room (pc := pc) (ls := ls) (rest := st0) hr) hd hf) hS (fun q _ h => hFc q h) hFc (fun u t H1 locs1 ht hvm hw hB hz hk hS1 => ?_)
  obtain ⟨hP1, hD1⟩ := hB
  rw [ht] at hP1
  obtain ⟨hP2, hD2⟩ := va_join hP hD isC isR hC hR hnR hdis hk hFc hP1 hD1
  exact kk u H1 locs1 hw (hP2.sub isZ (za_fm (hZ u))) (hD2.sub isZ hnZ (hZ u)) hS1
end ZC
end
section
/-! what the methods' answers are: mirrors of the loops, and sets of states as numbers -/
theorem za_1b : ∀ i, i < 32 → bt (nI 1) i = decide (i = 0) := by decide +kernel
theorem za_bit {w : Int32} {t : Nat} (ht : t < 32) : ((w >>> (nI t &&& 31)) &&& nI 1) = 0 ↔ bt w t = false := by
  constructor
  · intro h
    have h2 := congrArg (fun z => bt z 0) h
    simp only [b_and, b_0, b_sshr t ht w (show 0 < 32 by omega)] at h2
    rw [za_1b 0 (by omega)] at h2
    simpa [ht] using h2
  · intro h
    refine b_ext (fun i hi => ?_)
    rw [b_and, b_0, za_1b i hi, b_sshr t ht w hi]
    by_cases h0 : i = 0
    · subst h0
      simp [ht, h]
    · simp [h0]
theorem za_bitT {w : Int32} {t : Nat} (ht : t < 32) (h : ¬ ((w >>> (nI t &&& 31)) &&& nI 1) = 0) : bt w t = true := by
  cases h1 : bt w t with
  | true => rfl
  | false => exact absurd ((za_bit ht).mpr h1) h
theorem za_bitF {w : Int32} {t : Nat} (ht : t < 32) (h : ((w >>> (nI t &&& 31)) &&& nI 1) = 0) : bt w t = false := (za_bit ht).mp h
def za_isS (w : Int32) : Bool := !(decide (w < 0)) && !(decide (nI 24 ≤ w))
def za_isL (w : Int32) : Bool := !(decide (w < 0)) && !(decide (nI 4 ≤ w))
theorem za_isS1 {w : Int32} (h1 : ¬ w < 0) (h2 : ¬ nI 24 ≤ w) : za_isS w = true := by unfold za_isS; rw [decide_eq_false h1, decide_eq_false h2]; rfl
theorem za_isS2 {w : Int32} (h1 : w < 0) : za_isS w = false := by unfold za_isS; rw [decide_eq_true h1]; rfl
theorem za_isS3 {w : Int32} (h2 : nI 24 ≤ w) : za_isS w = false := by unfold za_isS; rw [decide_eq_true h2]; simp
theorem za_isL1 {w : Int32} (h1 : ¬ w < 0) (h2 : ¬ nI 4 ≤ w) : za_isL w = true := by unfold za_isL; rw [decide_eq_false h1, decide_eq_false h2]; rfl
theorem za_isL2 {w : Int32} (h1 : w < 0) : za_isL w = false := by unfold za_isL; rw [decide_eq_true h1]; rfl
theorem za_isL3 {w : Int32} (h2 : nI 4 ≤ w) : za_isL w = false := by unfold za_isL; rw [decide_eq_true h2]; simp
theorem za_isS_of {w : Int32} (h : za_isS w = true) : ∃ j : Nat, j < 24 ∧ w = nI j := by
  unfold za_isS at h
  rw [Bool.and_eq_true, Bool.not_eq_true', Bool.not_eq_true', decide_eq_false_iff_not, decide_eq_false_iff_not] at h
  rcases pk_ix w (n := 24) (by omega) with q | q | q
  · exact absurd q h.1
  · exact absurd q h.2
  · exact q
theorem za_isL_of {w : Int32} (h : za_isL w = true) : ∃ j : Nat, j < 4 ∧ w = nI j := by
  unfold za_isL at h
  rw [Bool.and_eq_true, Bool.not_eq_true', Bool.not_eq_true', decide_eq_false_iff_not, decide_eq_false_iff_not] at h
  rcases pk_ix w (n := 4) (by omega) with q | q | q
  · exact absurd q h.1
  · exact absurd q h.2
  · exact q
/-- the states below n with p, as a number -/
def za_mk (p : Nat → Bool) : Nat → Int32
  | 0 => nI 0
  | n + 1 => if p n = true then za_mk p n ||| (nI 1 <<< (nI n &&& 31)) else za_mk p n
def za_al (p : Nat → Bool) : Nat → Bool
  | 0 => true
  | n + 1 => za_al p n && p n
def za_ex (p : Nat → Bool) : Nat → Bool
  | 0 => false
  | n + 1 => za_ex p n || p n
def za_cn (p : Nat → Bool) : Nat → Nat
  | 0 => 0
  | n + 1 => if p n = true then za_cn p n + 1 else za_cn p n
/-- the first number below n without p; n if there is none -/
def za_fi (p : Nat → Bool) : Nat → Nat
  | 0 => 0
  | n + 1 => if za_fi p n = n then (if p n = true then n + 1 else n) else za_fi p n
/-- the union of the rows f + t over the states t < n of the set w -/
def za_uo (w : Int32) (Rw : Nat → Int32) (f : Nat) : Nat → Int32
  | 0 => nI 0
  | n + 1 => if bt w n = true then za_uo w Rw f n ||| Rw (f + n) else za_uo w Rw f n
def za_fl (f g : Nat → Int32) (i : Nat) : Nat → Int32 := fun j => if j < i then f j else g j
theorem za_fl0 (f g : Nat → Int32) : za_fl f g 0 = g := by funext j; simp [za_fl]
theorem za_flU {f g : Nat → Int32} {i : Nat} {v : Int32} (h : v = f i) : za_fl f g (i + 1) = upd (za_fl f g i) i v := by
  funext j
  unfold za_fl upd
  by_cases h1 : j = i
  · subst h1; simp [h]
  · by_cases h2 : j < i
    · simp [h1, h2, Nat.lt_succ_of_lt h2]
    · simp [h1, h2, show ¬ j < i + 1 by omega]
theorem za_al_iff {p : Nat → Bool} {n : Nat} : za_al p n = true ↔ ∀ j, j < n → p j = true := by
  induction n with
  | zero => simp [za_al]
  | succ n ih =>
    rw [za_al, Bool.and_eq_true, ih]
    constructor
    · intro h j hj
      rcases Nat.lt_succ_iff_lt_or_eq.mp hj with q | q
      · exact h.1 j q
      · rw [q]; exact h.2
    · intro h
      exact ⟨fun j hj => h j (by omega), h n (by omega)⟩
theorem za_al_f {p : Nat → Bool} {n i : Nat} (hi : i < n) (h : p i = false) : za_al p n = false := by
  cases q : za_al p n with
  | false => rfl
  | true => rw [za_al_iff.mp q i hi] at h; cases h
theorem za_ex_iff {p : Nat → Bool} {n : Nat} : za_ex p n = true ↔ ∃ j, j < n ∧ p j = true := by
  induction n with
  | zero => simp [za_ex]
  | succ n ih =>
    rw [za_ex, Bool.or_eq_true, ih]
    constructor
    · rintro (⟨j, hj, h⟩ | h)
      · exact ⟨j, by omega, h⟩
      · exact ⟨n, by omega, h⟩
    · rintro ⟨j, hj, h⟩
      rcases Nat.lt_succ_iff_lt_or_eq.mp hj with q | q
      · exact Or.inl ⟨j, q, h⟩
      · rw [q] at h; exact Or.inr h
theorem za_fi_le (p : Nat → Bool) (n : Nat) : za_fi p n ≤ n := by
  induction n with
  | zero => exact Nat.le_refl _
  | succ n ih =>
    rw [za_fi]
    split
    · split <;> omega
    · omega
theorem za_fi_all {p : Nat → Bool} {n : Nat} (h : ∀ j, j < n → p j = true) : za_fi p n = n := by
  induction n with
  | zero => rfl
  | succ n ih =>
    rw [za_fi, if_pos (ih (fun j hj => h j (by omega))), if_pos (h n (by omega))]
theorem za_fi_at {p : Nat → Bool} {n i : Nat} (hi : i < n) (h : ∀ j, j < i → p j = true) (h1 : p i = false) : za_fi p n = i := by
  induction n with
  | zero => omega
  | succ n ih =>
    by_cases q : i = n
    · subst q
      rw [za_fi, if_pos (za_fi_all h), if_neg (by rw [h1]; decide)]
    · have e := ih (by omega)
      rw [za_fi, if_neg (by omega), e]
theorem za_fi_lt {p : Nat → Bool} {n j : Nat} (hj : j < za_fi p n) : p j = true := by
  induction n with
  | zero => exact absurd hj (Nat.not_lt_zero _)
  | succ n ih =>
    rw [za_fi] at hj
    have hle := za_fi_le p n
    split at hj
    · rename_i e
      split at hj
      · rename_i e2
        by_cases q : j = n
        · rw [q]; exact e2
        · exact ih (by omega)
      · exact ih (by omega)
    · exact ih hj
theorem za_fi_f {p : Nat → Bool} {n : Nat} (h : za_fi p n < n) : p (za_fi p n) = false := by
  induction n with
  | zero => exact absurd h (Nat.not_lt_zero _)
  | succ n ih =>
    have hle := za_fi_le p n
    by_cases e : za_fi p n = n
    · by_cases e2 : p n = true
      · rw [za_fi, if_pos e, if_pos e2] at h; omega
      · rw [za_fi, if_pos e, if_neg e2]; simpa using e2
    · rw [za_fi, if_neg e] at h ⊢
      exact ih (by omega)
/-- the first number below n without p, -1 if there is none, as the machine has it -/
def za_ff (p : Nat → Bool) (n : Nat) : Int32 := if za_fi p n < n then nI (za_fi p n) else (-1)
theorem za_ff_at {p : Nat → Bool} {n i : Nat} (hi : i < n) (h : ∀ j, j < i → p j = true) (h1 : p i = false) : nI i = za_ff p n := by
  unfold za_ff
  rw [za_fi_at hi h h1, if_pos hi]
theorem za_ff_all {p : Nat → Bool} {n : Nat} (h : ∀ j, j < n → p j = true) : (-1) = za_ff p n := by
  unfold za_ff
  rw [za_fi_all h, if_neg (Nat.lt_irrefl _)]
theorem za_all_s {p : Nat → Bool} {i : Nat} (h : ∀ j, j < i → p j = true) (h1 : p i = true) : ∀ j, j < i + 1 → p j = true := by
  intro j hj
  rcases Nat.lt_succ_iff_lt_or_eq.mp hj with q | q
  · exact h j q
  · rw [q]; exact h1
theorem za_all_0 {p : Nat → Bool} : ∀ j, j < 0 → p j = true := fun j hj => absurd hj (Nat.not_lt_zero _)
theorem za_uo_z (Rw : Nat → Int32) (f n : Nat) : za_uo 0 Rw f n = nI 0 := by
  induction n with
  | zero => rfl
  | succ n ih => rw [za_uo, b_0, if_neg (by decide), ih]
def za_mvA (Un : Nat → Int32) (s t : Nat) : Bool := za_al (fun x => decide (Un (s * 4 + x) = Un (t * 4 + x))) 4
/-- the kinds among the states t < n of the set w -/
def za_ka (w : Int32) (Kd : Nat → Int32) : Nat → Int32
  | 0 => nI 0
  | n + 1 => if bt w n = true then za_ka w Kd n ||| (nI 1 <<< (Kd n &&& 31)) else za_ka w Kd n
/-- the kinds that the states s < n of kind w reach by the label l -/
def za_kr (w : Int32) (l : Nat) (Tg Kd : Nat → Int32) : Nat → Int32
  | 0 => nI 0
  | n + 1 => if Kd n = w then za_kr w l Tg Kd n ||| za_ka (Tg (n * 4 + l)) Kd 24 else za_kr w l Tg Kd n
def za_foll (Tg Uc : Nat → Int32) (s t : Nat) : Bool := za_al (fun x => decide ((Tg (t * 4 + x) &&& (Uc (s * 4 + x) ^^^ (-1))) = 0)) 4
def za_att (Tg Rw : Nat → Int32) (a b l u k : Nat) : Bool := bt (Tg (a * 4 + l)) u && decide ((Rw (k * 24 + u) &&& Tg (b * 4 + l)) = 0)
end
section
/-! alike for k rounds: an equivalence of the 24 states; sets and unions; it is settled after 23 rounds -/
theorem za_mk_bit (p : Nat → Bool) (n : Nat) (hn : n ≤ 32) (i : Nat) : bt (za_mk p n) i = (decide (i < n) && p i) := by
  rcases Nat.lt_or_ge i 32 with hi | hi
  · induction n with
    | zero =>
      show bt (0 : Int32) i = _
      rw [b_0]
      simp
    | succ n ih =>
      have ih := ih (by omega)
      rw [za_mk]
      by_cases h : p n = true
      · rw [if_pos h, b_or, ih, b_shl n (by omega) (nI 1) hi, za_1b (i - n) (by omega)]
        by_cases q : i = n
        · subst q
          simp [h]
        · by_cases q2 : i < n
          · simp [q2, show ¬ n ≤ i by omega, show i < n + 1 by omega]
          · simp [q2, show n ≤ i by omega, show ¬ i < n + 1 by omega, show ¬ i - n = 0 by omega]
      · rw [if_neg h, ih]
        by_cases q : i = n
        · subst q
          simp [h]
        · by_cases q2 : i < n
          · simp [q2, show i < n + 1 by omega]
          · simp [q2, show ¬ i < n + 1 by omega]
  · rw [b_big hi, decide_eq_false (by omega)]
    rfl
theorem za_mk_congr {p q : Nat → Bool} {n : Nat} (h : ∀ i, i < n → p i = q i) : za_mk p n = za_mk q n := by
  induction n with
  | zero => rfl
  | succ n ih => rw [za_mk, za_mk, ih (fun i hi => h i (by omega)), h n (by omega)]
theorem za_mk_inj {p q : Nat → Bool} (h : za_mk p 24 = za_mk q 24) {i : Nat} (hi : i < 24) : p i = q i := by
  have e := congrArg (fun z => bt z i) h
  simp only [za_mk_bit _ 24 (by omega)] at e
  simpa [hi] using e
theorem za_ex_congr {p q : Nat → Bool} {n : Nat} (h : ∀ i, i < n → p i = q i) : za_ex p n = za_ex q n := by
  induction n with
  | zero => rfl
  | succ n ih => rw [za_ex, za_ex, ih (fun i hi => h i (by omega)), h n (by omega)]
theorem za_al_congr {p q : Nat → Bool} {n : Nat} (h : ∀ i, i < n → p i = q i) : za_al p n = za_al q n := by
  induction n with
  | zero => rfl
  | succ n ih => rw [za_al, za_al, ih (fun i hi => h i (by omega)), h n (by omega)]
theorem za_cn_congr {p q : Nat → Bool} {n : Nat} (h : ∀ i, i < n → p i = q i) : za_cn p n = za_cn q n := by
  induction n with
  | zero => rfl
  | succ n ih => rw [za_cn, za_cn, ih (fun i hi => h i (by omega)), h n (by omega)]
theorem za_fi_congr {p q : Nat → Bool} {n : Nat} (h : ∀ i, i < n → p i = q i) : za_fi p n = za_fi q n := by
  induction n with
  | zero => rfl
  | succ n ih => rw [za_fi, za_fi, ih (fun i hi => h i (by omega)), h n (by omega)]
theorem za_bool {a b : Bool} (h : a = true ↔ b = true) : a = b := by
  cases a <;> cases b <;> simp_all
theorem za_uo_bit (w : Int32) (Rw : Nat → Int32) (f n i : Nat) : bt (za_uo w Rw f n) i = za_ex (fun v => bt w v && bt (Rw (f + v)) i) n := by
  induction n with
  | zero => exact b_0 i
  | succ n ih =>
    rw [za_uo, za_ex, ← ih]
    by_cases h : bt w n = true
    · rw [if_pos h, b_or, h, Bool.true_and]
    · have h' : bt w n = false := by simpa using h
      rw [if_neg h, h', Bool.false_and, Bool.or_false]
/-- each move of s has its match among the moves of t -/
def za_fw (Tg : Nat → Int32) (R : Nat → Nat → Bool) (s t : Nat) : Bool := za_al (fun l => za_al (fun u => !bt (Tg (s * 4 + l)) u || za_ex (fun v => bt (Tg (t * 4 + l)) v && R u v) 24) 24) 4
theorem za_fw_iff {Tg : Nat → Int32} {R : Nat → Nat → Bool} {s t : Nat} : za_fw Tg R s t = true ↔ ∀ l, l < 4 → ∀ u, u < 24 → bt (Tg (s * 4 + l)) u = true → ∃ v, v < 24 ∧ bt (Tg (t * 4 + l)) v = true ∧ R u v = true := by
  unfold za_fw
  rw [za_al_iff]
  constructor
  · intro h l hl u hu hb
    have h1 := za_al_iff.mp (h l hl) u hu
    rw [hb] at h1
    simp only [Bool.not_true, Bool.false_or] at h1
    obtain ⟨v, hv, h2⟩ := za_ex_iff.mp h1
    rw [Bool.and_eq_true] at h2
    exact ⟨v, hv, h2.1, h2.2⟩
  · intro h l hl
    refine za_al_iff.mpr (fun u hu => ?_)
    show (!bt (Tg (s * 4 + l)) u || _) = true
    by_cases hb : bt (Tg (s * 4 + l)) u = true
    · rw [hb]
      simp only [Bool.not_true, Bool.false_or]
      obtain ⟨v, hv, h1, h2⟩ := h l hl u hu hb
      exact za_ex_iff.mpr ⟨v, hv, by rw [h1, h2]; rfl⟩
    · have hb : bt (Tg (s * 4 + l)) u = false := by simpa using hb
      rw [hb]
      rfl
/-- alike for k rounds -/
def za_ak (Tg Co : Nat → Int32) : Nat → Nat → Nat → Bool
  | 0 => fun s t => decide (Co t = Co s)
  | k + 1 => fun s t => za_ak Tg Co k s t && (za_fw Tg (za_ak Tg Co k) s t && za_fw Tg (za_ak Tg Co k) t s)
theorem za_ak_s {Tg Co : Nat → Int32} {k s t : Nat} : za_ak Tg Co (k + 1) s t = true ↔ za_ak Tg Co k s t = true ∧ za_fw Tg (za_ak Tg Co k) s t = true ∧ za_fw Tg (za_ak Tg Co k) t s = true := by
  show (za_ak Tg Co k s t && (za_fw Tg (za_ak Tg Co k) s t && za_fw Tg (za_ak Tg Co k) t s)) = true ↔ _
  rw [Bool.and_eq_true, Bool.and_eq_true]
theorem za_ak_refl {Tg Co : Nat → Int32} {k s : Nat} (hs : s < 24) : za_ak Tg Co k s s = true := by
  induction k generalizing s with
  | zero => show decide (Co s = Co s) = true; simp
  | succ k ih =>
    have h : za_fw Tg (za_ak Tg Co k) s s = true := za_fw_iff.mpr (fun l hl u hu hb => ⟨u, hu, hb, ih hu⟩)
    exact za_ak_s.mpr ⟨ih hs, h, h⟩
theorem za_ak_symm {Tg Co : Nat → Int32} {k s t : Nat} : za_ak Tg Co k s t = za_ak Tg Co k t s := by
  induction k generalizing s t with
  | zero =>
    show decide (Co t = Co s) = decide (Co s = Co t)
    by_cases h : Co t = Co s
    · simp [h]
    · have h2 : ¬ Co s = Co t := fun q => h q.symm
      simp [h, h2]
  | succ k ih =>
    show (za_ak Tg Co k s t && (za_fw Tg (za_ak Tg Co k) s t && za_fw Tg (za_ak Tg Co k) t s)) = (za_ak Tg Co k t s && (za_fw Tg (za_ak Tg Co k) t s && za_fw Tg (za_ak Tg Co k) s t))
    rw [ih, Bool.and_comm (za_fw Tg (za_ak Tg Co k) s t)]
theorem za_ak_trans {Tg Co : Nat → Int32} {k s t w : Nat} (hs : s < 24) (ht : t < 24) (hw : w < 24) (h1 : za_ak Tg Co k s t = true) (h2 : za_ak Tg Co k t w = true) : za_ak Tg Co k s w = true := by
  induction k generalizing s t w with
  | zero =>
    have e1 : Co t = Co s := of_decide_eq_true h1
    have e2 : Co w = Co t := of_decide_eq_true h2
    exact decide_eq_true (e2.trans e1)
  | succ k ih =>
    obtain ⟨a1, b1, c1⟩ := za_ak_s.mp h1
    obtain ⟨a2, b2, c2⟩ := za_ak_s.mp h2
    refine za_ak_s.mpr ⟨ih hs ht hw a1 a2, za_fw_iff.mpr (fun l hl u hu hb => ?_), za_fw_iff.mpr (fun l hl u hu hb => ?_)⟩
    · obtain ⟨v, hv, g1, g2⟩ := za_fw_iff.mp b1 l hl u hu hb
      obtain ⟨x, hx, g3, g4⟩ := za_fw_iff.mp b2 l hl v hv g1
      exact ⟨x, hx, g3, ih hu hv hx g2 g4⟩
    · obtain ⟨v, hv, g1, g2⟩ := za_fw_iff.mp c2 l hl u hu hb
      obtain ⟨x, hx, g3, g4⟩ := za_fw_iff.mp c1 l hl v hv g1
      exact ⟨x, hx, g3, ih hu hv hx g2 g4⟩
theorem za_ak_le {Tg Co : Nat → Int32} {k j s t : Nat} (hj : j ≤ k) (h : za_ak Tg Co k s t = true) : za_ak Tg Co j s t = true := by
  induction k with
  | zero => rw [show j = 0 by omega]; exact h
  | succ k ih =>
    by_cases q : j = k + 1
    · rw [q]; exact h
    · exact ih (by omega) (za_ak_s.mp h).1
/-- the rows of a round, as numbers -/
def za_row (Tg Co Rw : Nat → Int32) (k : Nat) : Prop := ∀ s, s < 24 → Rw (k * 24 + s) = za_mk (za_ak Tg Co k s) 24
theorem za_mv_iff {Tg Co Rw Un : Nat → Int32} {k s t : Nat} (hR : za_row Tg Co Rw k) (hU : ∀ i, i < 96 → Un i = za_uo (Tg i) Rw (k * 24) 24) (hs : s < 24) (ht : t < 24) : za_mvA Un s t = (za_fw Tg (za_ak Tg Co k) s t && za_fw Tg (za_ak Tg Co k) t s) := by
  have hbit : ∀ x l i, x < 24 → l < 4 → i < 24 → (bt (Un (x * 4 + l)) i = true ↔ ∃ v, v < 24 ∧ bt (Tg (x * 4 + l)) v = true ∧ za_ak Tg Co k v i = true) := by
    intro x l i hx hl hi
    rw [hU _ (by omega), za_uo_bit, za_ex_iff]
    constructor
    · rintro ⟨v, hv, h⟩
      rw [Bool.and_eq_true, hR v hv, za_mk_bit _ 24 (by omega)] at h
      exact ⟨v, hv, h.1, by simpa [hi] using h.2⟩
    · rintro ⟨v, hv, h1, h2⟩
      refine ⟨v, hv, ?_⟩
      rw [Bool.and_eq_true, hR v hv, za_mk_bit _ 24 (by omega)]
      exact ⟨h1, by simp [hi, h2]⟩
  have hbig : ∀ x l i, x < 24 → l < 4 → 24 ≤ i → bt (Un (x * 4 + l)) i = false := by
    intro x l i hx hl hi
    rw [hU _ (by omega), za_uo_bit]
    cases e : za_ex (fun v => bt (Tg (x * 4 + l)) v && bt (Rw (k * 24 + v)) i) 24 with
    | false => rfl
    | true =>
      obtain ⟨v, hv, h⟩ := za_ex_iff.mp e
      rw [Bool.and_eq_true, hR v hv, za_mk_bit _ 24 (by omega)] at h
      have h2 := h.2
      rw [decide_eq_false (by omega)] at h2
      exact absurd h2 (by simp)
  apply za_bool
  rw [Bool.and_eq_true]
  unfold za_mvA
  rw [za_al_iff]
  constructor
  · intro h
    have go : ∀ a b, a < 24 → b < 24 → (∀ l, l < 4 → Un (a * 4 + l) = Un (b * 4 + l)) → za_fw Tg (za_ak Tg Co k) a b = true := by
      intro a b ha hb hE
      refine za_fw_iff.mpr (fun l hl u hu hm => ?_)
      have h1 := (hbit a l u ha hl hu).mpr ⟨u, hu, hm, za_ak_refl hu⟩
      rw [hE l hl] at h1
      obtain ⟨v, hv, h2, h3⟩ := (hbit b l u hb hl hu).mp h1
      exact ⟨v, hv, h2, by rw [za_ak_symm]; exact h3⟩
    exact ⟨go s t hs ht (fun l hl => of_decide_eq_true (h l hl)), go t s ht hs (fun l hl => (of_decide_eq_true (h l hl)).symm)⟩
  · rintro ⟨h1, h2⟩ l hl
    refine decide_eq_true (b_ext (fun i _ => ?_))
    rcases Nat.lt_or_ge i 24 with hi | hi
    · have go : ∀ a b, a < 24 → b < 24 → za_fw Tg (za_ak Tg Co k) a b = true → bt (Un (a * 4 + l)) i = true → bt (Un (b * 4 + l)) i = true := by
        intro a b ha hb hF hm
        obtain ⟨v, hv, g1, g2⟩ := (hbit a l i ha hl hi).mp hm
        obtain ⟨x, hx, g3, g4⟩ := za_fw_iff.mp hF l hl v hv g1
        exact (hbit b l i hb hl hi).mpr ⟨x, hx, g3, za_ak_trans hx hv hi (by rw [za_ak_symm]; exact g4) g2⟩
      exact za_bool ⟨go s t hs ht h1, go t s ht hs h2⟩
    · rw [hbig s l i hs hl hi, hbig t l i ht hl hi]
/-- settled from round k on -/
def za_stab (Tg Co : Nat → Int32) (k : Nat) : Prop := ∀ s t, s < 24 → t < 24 → za_ak Tg Co (k + 1) s t = za_ak Tg Co k s t
theorem za_fw_congr {Tg : Nat → Int32} {R R' : Nat → Nat → Bool} {s t : Nat} (h : ∀ u v, u < 24 → v < 24 → R u v = R' u v) : za_fw Tg R s t = za_fw Tg R' s t := by
  unfold za_fw
  refine za_al_congr (fun l _ => za_al_congr (fun u hu => ?_))
  rw [za_ex_congr (fun v hv => by rw [h u v hu hv])]
theorem za_stab_s {Tg Co : Nat → Int32} {k : Nat} (h : za_stab Tg Co k) : za_stab Tg Co (k + 1) := by
  intro s t hs ht
  show (za_ak Tg Co (k + 1) s t && (za_fw Tg (za_ak Tg Co (k + 1)) s t && za_fw Tg (za_ak Tg Co (k + 1)) t s)) = (za_ak Tg Co k s t && (za_fw Tg (za_ak Tg Co k) s t && za_fw Tg (za_ak Tg Co k) t s))
  rw [h s t hs ht, za_fw_congr h, za_fw_congr (s := t) (t := s) h]
theorem za_stab_le {Tg Co : Nat → Int32} {k j : Nat} (hj : k ≤ j) (h : za_stab Tg Co k) {s t : Nat} (hs : s < 24) (ht : t < 24) : za_ak Tg Co j s t = za_ak Tg Co k s t := by
  have go : ∀ d, za_stab Tg Co (k + d) ∧ za_ak Tg Co (k + d) s t = za_ak Tg Co k s t := by
    intro d
    induction d with
    | zero => exact ⟨h, rfl⟩
    | succ d ih => exact ⟨za_stab_s ih.1, (ih.1 s t hs ht).trans ih.2⟩
  have := (go (j - k)).2
  rw [show k + (j - k) = j by omega] at this
  exact this
theorem za_cn_le {p : Nat → Bool} (n : Nat) : za_cn p n ≤ n := by
  induction n with
  | zero => exact Nat.le_refl _
  | succ n ih => rw [za_cn]; split <;> omega
theorem za_cn_mono {p q : Nat → Bool} {n : Nat} (h : ∀ i, i < n → p i = true → q i = true) : za_cn p n ≤ za_cn q n := by
  induction n with
  | zero => exact Nat.le_refl _
  | succ n ih =>
    have ih := ih (fun i hi => h i (by omega))
    rw [za_cn, za_cn]
    by_cases h1 : p n = true
    · rw [if_pos h1, if_pos (h n (by omega) h1)]; omega
    · rw [if_neg h1]; split <;> omega
theorem za_cn_lt {p q : Nat → Bool} {n j : Nat} (h : ∀ i, i < n → p i = true → q i = true) (hj : j < n) (h1 : p j = false) (h2 : q j = true) : za_cn p n < za_cn q n := by
  induction n with
  | zero => omega
  | succ n ih =>
    rw [za_cn, za_cn]
    by_cases e : j = n
    · subst e
      rw [if_neg (by rw [h1]; decide), if_pos h2]
      have := za_cn_mono (p := p) (q := q) (n := j) (fun i hi => h i (by omega))
      omega
    · have ih := ih (fun i hi => h i (by omega)) (by omega)
      by_cases h3 : p n = true
      · rw [if_pos h3, if_pos (h n (by omega) h3)]; omega
      · rw [if_neg h3]; split <;> omega
theorem za_cn_full {p : Nat → Bool} {n : Nat} (h : n ≤ za_cn p n) : ∀ i, i < n → p i = true := by
  induction n with
  | zero => intro i hi; omega
  | succ n ih =>
    have hle := za_cn_le (p := p) n
    rw [za_cn] at h
    by_cases h1 : p n = true
    · rw [if_pos h1] at h
      intro i hi
      by_cases e : i = n
      · rw [e]; exact h1
      · exact ih (by omega) i (by omega)
    · rw [if_neg h1] at h; omega
/-- no lesser state is alike to s for k rounds -/
def za_rep (Tg Co : Nat → Int32) (k s : Nat) : Bool := za_al (fun t => !za_ak Tg Co k s t) s
theorem za_rep_iff {Tg Co : Nat → Int32} {k s : Nat} : za_rep Tg Co k s = true ↔ ∀ t, t < s → za_ak Tg Co k s t = false := by
  unfold za_rep
  rw [za_al_iff]
  simp
theorem za_rep_of {Tg Co : Nat → Int32} {k : Nat} : ∀ s, s < 24 → ∃ r, r ≤ s ∧ za_rep Tg Co k r = true ∧ za_ak Tg Co k s r = true := by
  intro s
  induction s using Nat.strongRecOn with
  | ind s ih =>
    intro hs
    by_cases h : za_rep Tg Co k s = true
    · exact ⟨s, Nat.le_refl _, h, za_ak_refl hs⟩
    · rw [za_rep_iff] at h
      have h2 : ∃ t, t < s ∧ za_ak Tg Co k s t = true := by
        apply Classical.byContradiction
        intro q
        refine h (fun t ht => ?_)
        cases e : za_ak Tg Co k s t with
        | false => rfl
        | true => exact absurd ⟨t, ht, e⟩ q
      obtain ⟨t, ht, h3⟩ := h2
      obtain ⟨r, hr, g1, g2⟩ := ih t ht (by omega)
      exact ⟨r, by omega, g1, za_ak_trans hs (by omega) (by omega) h3 g2⟩
theorem za_rep_stab {Tg Co : Nat → Int32} {k : Nat} (h : ∀ s, s < 24 → za_rep Tg Co (k + 1) s = true → za_rep Tg Co k s = true) : za_stab Tg Co k := by
  intro s t hs ht
  apply za_bool
  refine ⟨fun q => (za_ak_s.mp q).1, fun q => ?_⟩
  obtain ⟨r1, l1, a1, b1⟩ := za_rep_of (Tg := Tg) (Co := Co) (k := k + 1) s hs
  obtain ⟨r2, l2, a2, b2⟩ := za_rep_of (Tg := Tg) (Co := Co) (k := k + 1) t ht
  have c1 : za_ak Tg Co k r1 s = true := by rw [za_ak_symm]; exact (za_ak_s.mp b1).1
  have c2 := (za_ak_s.mp b2).1
  have c3 : za_ak Tg Co k r1 r2 = true := za_ak_trans (by omega) ht (by omega) (za_ak_trans (by omega) hs ht c1 q) c2
  have e : r1 = r2 := by
    rcases Nat.lt_trichotomy r1 r2 with g | g | g
    · have := za_rep_iff.mp (h r2 (by omega) a2) r1 g
      rw [za_ak_symm, c3] at this
      cases this
    · exact g
    · have := za_rep_iff.mp (h r1 (by omega) a1) r2 g
      rw [c3] at this
      cases this
  subst e
  exact za_ak_trans hs (by omega) ht b1 (by rw [za_ak_symm]; exact b2)
theorem za_rep_up {Tg Co : Nat → Int32} {k s : Nat} (h : za_rep Tg Co k s = true) : za_rep Tg Co (k + 1) s = true := by
  refine za_rep_iff.mpr (fun t ht => ?_)
  cases e : za_ak Tg Co (k + 1) s t with
  | false => rfl
  | true =>
    have := za_rep_iff.mp h t ht
    rw [(za_ak_s.mp e).1] at this
    cases this
theorem za_grow (Tg Co : Nat → Int32) (k : Nat) : za_stab Tg Co k ∨ k + 1 ≤ za_cn (za_rep Tg Co k) 24 := by
  induction k with
  | zero =>
    refine Or.inr ?_
    have h0 : za_rep Tg Co 0 0 = true := rfl
    have : za_cn (fun _ => false) 24 < za_cn (za_rep Tg Co 0) 24 := za_cn_lt (j := 0) (fun i _ h => by cases h) (by omega) rfl h0
    omega
  | succ k ih =>
    by_cases hs : za_stab Tg Co k
    · exact Or.inl (za_stab_s hs)
    · refine Or.inr ?_
      have ih := ih.resolve_left hs
      have h2 : ∃ s, s < 24 ∧ za_rep Tg Co (k + 1) s = true ∧ za_rep Tg Co k s = false := by
        apply Classical.byContradiction
        intro q
        refine hs (za_rep_stab (fun s h24 h => ?_))
        cases e : za_rep Tg Co k s with
        | true => rfl
        | false => exact absurd ⟨s, h24, h, e⟩ q
      obtain ⟨s, h24, g1, g2⟩ := h2
      have := za_cn_lt (n := 24) (p := za_rep Tg Co k) (q := za_rep Tg Co (k + 1)) (fun i _ h => za_rep_up h) h24 g2 g1
      omega
theorem za_stab23 (Tg Co : Nat → Int32) : za_stab Tg Co 23 := by
  rcases za_grow Tg Co 23 with h | h
  · exact h
  · have hall := za_cn_full h
    have hne : ∀ s t, s < 24 → t < s → za_ak Tg Co 23 s t = false := fun s t hs ht => za_rep_iff.mp (hall s hs) t ht
    intro s t hs ht
    apply za_bool
    refine ⟨fun q => (za_ak_s.mp q).1, fun q => ?_⟩
    rcases Nat.lt_trichotomy s t with g | g | g
    · rw [za_ak_symm, hne t s ht g] at q; cases q
    · subst g; exact za_ak_refl hs
    · rw [hne s t hs g] at q; cases q
end
section
/-! mirrors of the loops that write -/
def za_st (w : Int32) (Un : Nat → Int32) (s : Nat) : Int32 := za_mk (fun x => bt w x && za_mvA Un s x) 24
def za_ua (Tg Rw : Nat → Int32) (f : Nat) (Un : Nat → Int32) : Nat → Int32 := za_fl (fun x => za_uo (Tg x) Rw f 24) Un 96
def za_pr (Tg Rw Un : Nat → Int32) (k y : Nat) : Int32 := za_st (Rw ((k - 1) * 24 + y)) (za_ua Tg Rw ((k - 1) * 24) Un) y
def za_pd (Tg Rw Un : Nat → Int32) (k x : Nat) : Bool := decide (¬ za_pr Tg Rw Un k x = Rw ((k - 1) * 24 + x))
def za_of (F g : Nat → Int32) (o i : Nat) : Nat → Int32 := fun j => if o ≤ j ∧ j < o + i then F (j - o) else g j
theorem za_of0 (F g : Nat → Int32) (o : Nat) : za_of F g o 0 = g := by
  funext j
  unfold za_of
  rw [if_neg (by omega)]
theorem za_ofU {F g : Nat → Int32} {o i : Nat} {v : Int32} (h : v = F i) : za_of F g o (i + 1) = upd (za_of F g o i) (o + i) v := by
  funext j
  unfold za_of upd
  by_cases h1 : j = o + i
  · subst h1
    rw [if_pos (by omega), if_pos rfl, h]
    congr 1
    omega
  · rw [if_neg h1]
    show _ = (if o ≤ j ∧ j < o + i then F (j - o) else g j)
    by_cases h2 : o ≤ j ∧ j < o + i
    · rw [if_pos h2, if_pos (by omega)]
    · rw [if_neg h2, if_neg (by omega)]
theorem za_of_lo {F g : Nat → Int32} {o i j : Nat} (h : j < o) : za_of F g o i j = g j := by
  unfold za_of
  rw [if_neg (by omega)]
theorem za_of_in {F g : Nat → Int32} {o n i : Nat} (h : i < n) : za_of F g o n (o + i) = F i := by
  unfold za_of
  rw [if_pos (by omega), show o + i - o = i by omega]
theorem za_fl_ge {f g : Nat → Int32} {i j : Nat} (h : i ≤ j) : za_fl f g i j = g j := by
  unfold za_fl
  rw [if_neg (by omega)]
theorem za_fl_lt {f g : Nat → Int32} {i j : Nat} (h : j < i) : za_fl f g i j = f j := by
  unfold za_fl
  rw [if_pos h]
/-- the numbering of the kinds: the rows so far, how many kinds -/
def za_nk (La : Nat → Nat) (Kd : Nat → Int32) : Nat → (Nat → Int32) × Nat
  | 0 => (Kd, 0)
  | n + 1 => if La n = n then (upd (za_nk La Kd n).1 n (nI (za_nk La Kd n).2), (za_nk La Kd n).2 + 1) else (upd (za_nk La Kd n).1 n ((za_nk La Kd n).1 (La n)), (za_nk La Kd n).2)
termination_by n => n
theorem za_nk0 (La : Nat → Nat) (Kd : Nat → Int32) : za_nk La Kd 0 = (Kd, 0) := by rw [za_nk]
theorem za_nk_t {La : Nat → Nat} {Kd : Nat → Int32} {n : Nat} (h : La n = n) : za_nk La Kd (n + 1) = (upd (za_nk La Kd n).1 n (nI (za_nk La Kd n).2), (za_nk La Kd n).2 + 1) := by
  rw [za_nk, if_pos h]
theorem za_nk_f {La : Nat → Nat} {Kd : Nat → Int32} {n : Nat} (h : ¬ La n = n) : za_nk La Kd (n + 1) = (upd (za_nk La Kd n).1 n ((za_nk La Kd n).1 (La n)), (za_nk La Kd n).2) := by
  rw [za_nk, if_neg h]
def za_lf (Rw : Nat → Int32) (lr y : Nat) : Nat := za_fi (fun x => !bt (Rw (lr * 24 + y)) x) y
def za_sm (f : Nat → Nat) : Nat → Nat
  | 0 => 0
  | n + 1 => za_sm f n + f n
def za_pc (w : Int32) : Nat := za_cn (bt w) 32
def za_sb (w : Int32) (Tg Uc : Nat → Int32) (s : Nat) : Int32 := za_mk (fun x => bt w x && za_foll Tg Uc s x) 24
def za_cb (Tg Bl Uc : Nat → Int32) (y : Nat) : Int32 := za_sb (Bl y) Tg (za_ua Tg Bl 0 Uc) y
def za_cd (Tg Bl Uc : Nat → Int32) (x : Nat) : Bool := decide (¬ za_cb Tg Bl Uc x = Bl x)
/-- move m (its label m / 24, to m % 24) is an attack of a on b, for k rounds -/
def za_atm (Tg Rw : Nat → Int32) (a b k m : Nat) : Bool := za_att Tg Rw a b (m / 24) (m % 24) k
theorem za_dm {l u : Nat} (hu : u < 24) : (l * 24 + u) / 24 = l ∧ (l * 24 + u) % 24 = u := by omega
theorem za_atm_at {Tg Rw : Nat → Int32} {a b k l u : Nat} (hu : u < 24) : za_atm Tg Rw a b k (l * 24 + u) = za_att Tg Rw a b l u k := by
  unfold za_atm
  rw [(za_dm hu).1, (za_dm hu).2]
def za_fo (Tg Rw : Nat → Int32) (a b k : Nat) : Int32 := if za_fi (fun x => !za_atm Tg Rw a b k x) 96 < 96 then nI (za_fi (fun x => !za_atm Tg Rw a b k x) 96 / 24 * 100 + za_fi (fun x => !za_atm Tg Rw a b k x) 96 % 24) else (-1)
theorem za_fo_at {Tg Rw : Nat → Int32} {a b k l u : Nat} (hl : l < 4) (hu : u < 24) (hq : ∀ j, j < l * 24 + u → (fun x => !za_atm Tg Rw a b k x) j = true) (h : za_att Tg Rw a b l u k = true) : nI (l * 100 + u) = za_fo Tg Rw a b k := by
  unfold za_fo
  rw [za_fi_at (i := l * 24 + u) (by omega) hq (by rw [za_atm_at hu, h]; rfl), if_pos (by omega), (za_dm hu).1, (za_dm hu).2]
theorem za_fo_no {Tg Rw : Nat → Int32} {a b k : Nat} (hq : ∀ j, j < 96 → (fun x => !za_atm Tg Rw a b k x) j = true) : (-1) = za_fo Tg Rw a b k := by
  unfold za_fo
  rw [za_fi_all hq, if_neg (by omega)]
/-- the best answer so far, and the breach behind it -/
def za_ba (w : Int32) (P : Nat → Int32) : Nat → Int32 × Int32
  | 0 => ((-1), (-1))
  | n + 1 => if (if bt w n = true then P n else (-1)) ≤ (za_ba w P n).2 then za_ba w P n else (nI n, (if bt w n = true then P n else (-1)))
theorem za_of_lo2 {F g : Nat → Int32} {o i j : Nat} {v : Int32} (h : j < o) : upd (za_of F g o i) (o + i) v j = g j := by
  unfold upd
  rw [if_neg (by omega)]
  exact za_of_lo h
end
section
/-! what is so when the likeness is settled; when the cover is -/
def za_small (Tg : Nat → Int32) : Prop := ∀ j, j < 96 → ∀ i, 24 ≤ i → bt (Tg j) i = false
/-- the least state alike to y, among those up to y -/
def za_lc (Tg Co : Nat → Int32) (y : Nat) : Nat := za_fi (fun x => !za_ak Tg Co 23 y x) y
def za_kd (Tg Co : Nat → Int32) (s : Nat) : Int32 := (za_nk (za_lc Tg Co) (fun _ => nI 0) 24).1 s
def za_kc (Tg Co : Nat → Int32) : Nat := (za_nk (za_lc Tg Co) (fun _ => nI 0) 24).2
def za_like (Tg Co Rw : Nat → Int32) (lr : Nat) (Kd : Nat → Int32) (kc : Nat) : Prop := lr < 24 ∧ (∀ j, j ≤ lr → za_row Tg Co Rw j) ∧ za_stab Tg Co lr ∧ (∀ s, s < 24 → Kd s = za_kd Tg Co s) ∧ kc = za_kc Tg Co
theorem za_row0 {Tg Co Rw : Nat → Int32} {j : Nat} (hj : j ≤ 0) : za_row Tg Co (za_fl (fun x => za_mk (fun z => decide (Co z = Co x)) 24) Rw 24) j := by
  have e : j = 0 := by omega
  subst e
  intro s hs
  rw [show 0 * 24 + s = s by omega, za_fl_lt hs]
  rfl
theorem za_ua_at {Tg Rw Un : Nat → Int32} {f i : Nat} (hi : i < 96) : za_ua Tg Rw f Un i = za_uo (Tg i) Rw f 24 := za_fl_lt hi
theorem za_pr_row {Tg Co Rw Un : Nat → Int32} {q y : Nat} (hR : za_row Tg Co Rw q) (hy : y < 24) : za_pr Tg Rw Un (q + 1) y = za_mk (za_ak Tg Co (q + 1) y) 24 := by
  unfold za_pr za_st
  rw [show q + 1 - 1 = q by omega]
  refine za_mk_congr (fun x hx => ?_)
  rw [hR y hy, za_mk_bit _ 24 (by omega), za_mv_iff hR (fun i hi => za_ua_at hi) hy hx, decide_eq_true hx, Bool.true_and]
  rfl
theorem za_rows_s {Tg Co Rq Uq : Nat → Int32} {q : Nat} (hR : ∀ j, j ≤ q → za_row Tg Co Rq j) : ∀ j, j ≤ q + 1 → za_row Tg Co (za_of (za_pr Tg Rq Uq (q + 1)) Rq ((q + 1) * 24) 24) j := by
  intro j hj s hs
  by_cases e : j = q + 1
  · subst e
    rw [za_of_in hs, za_pr_row (hR q (Nat.le_refl _)) hs]
  · rw [za_of_lo (by omega), hR j (by omega) s hs]
theorem za_rows_k {Tg Co Rq Uq : Nat → Int32} {q j : Nat} (hR : ∀ j, j ≤ q → za_row Tg Co Rq j) (hj : j ≤ q) : za_row Tg Co (za_of (za_pr Tg Rq Uq (q + 1)) Rq ((q + 1) * 24) 24) j := za_rows_s hR j (by omega)
theorem za_stab_of {Tg Co Rq Uq : Nat → Int32} {q : Nat} (hR : ∀ j, j ≤ q → za_row Tg Co Rq j) (h : za_ex (za_pd Tg Rq Uq (q + 1)) 24 = false) : za_stab Tg Co q := by
  intro s t hs ht
  have h1 : za_pd Tg Rq Uq (q + 1) s = false := by
    cases e : za_pd Tg Rq Uq (q + 1) s with
    | false => rfl
    | true => rw [za_ex_iff.mpr ⟨s, hs, e⟩] at h; cases h
  unfold za_pd at h1
  rw [decide_eq_false_iff_not, Classical.not_not, za_pr_row (hR q (Nat.le_refl _)) hs, show q + 1 - 1 = q by omega, hR q (Nat.le_refl _) s hs] at h1
  exact za_mk_inj h1 ht
theorem za_lf_lc {Tg Co Rw : Nat → Int32} {z y : Nat} (hz : z ≤ 23) (hZ : ∀ j, j ≤ z → za_row Tg Co Rw j) (hY : za_stab Tg Co z) (hy : y < 24) : za_lf Rw z y = za_lc Tg Co y := by
  unfold za_lf za_lc
  refine za_fi_congr (fun x hx => ?_)
  rw [hZ z (Nat.le_refl _) y hy, za_mk_bit _ 24 (by omega), decide_eq_true (show x < 24 by omega), Bool.true_and, za_stab_le hz hY hy (show x < 24 by omega)]
theorem za_nk_congr {La Lb : Nat → Nat} {Ka Kb : Nat → Int32} {n : Nat} (h : ∀ y, y < n → La y = Lb y) (hle : ∀ y, La y ≤ y) : (∀ s, s < n → (za_nk La Ka n).1 s = (za_nk Lb Kb n).1 s) ∧ (za_nk La Ka n).2 = (za_nk Lb Kb n).2 := by
  induction n with
  | zero => exact ⟨fun s hs => absurd hs (Nat.not_lt_zero _), by rw [za_nk0, za_nk0]⟩
  | succ n ih =>
    obtain ⟨i1, i2⟩ := ih (fun y hy => h y (by omega))
    have e := h n (by omega)
    by_cases hq : La n = n
    · rw [za_nk_t hq, za_nk_t (La := Lb) (e ▸ hq)]
      refine ⟨fun s hs => ?_, by show _ + 1 = _ + 1; rw [i2]⟩
      show upd _ n _ s = upd _ n _ s
      unfold upd
      by_cases g : s = n
      · rw [if_pos g, if_pos g, i2]
      · rw [if_neg g, if_neg g, i1 s (by omega)]
    · rw [za_nk_f hq, za_nk_f (La := Lb) (e ▸ hq)]
      refine ⟨fun s hs => ?_, i2⟩
      show upd _ n _ s = upd _ n _ s
      have hl : La n < n := Nat.lt_of_le_of_ne (hle n) hq
      unfold upd
      by_cases g : s = n
      · rw [if_pos g, if_pos g, i1 _ hl, e]
      · rw [if_neg g, if_neg g, i1 s (by omega)]
theorem za_like_mk {Tg Co Rz Kd : Nat → Int32} {z : Nat} (hz : z ≤ 23) (hZ : ∀ j, j ≤ z → za_row Tg Co Rz j) (hY : za_stab Tg Co z) : za_like Tg Co Rz z (za_nk (za_lf Rz z) Kd 24).1 (za_nk (za_lf Rz z) Kd 24).2 := by
  obtain ⟨h1, h2⟩ := za_nk_congr (La := za_lf Rz z) (Lb := za_lc Tg Co) (Ka := Kd) (Kb := fun _ => nI 0) (n := 24) (fun y hy => za_lf_lc hz hZ hY hy) (fun y => za_fi_le _ y)
  exact ⟨by omega, hZ, hY, h1, h2⟩
/-- s covers t for k rounds -/
def za_fc (Tg : Nat → Int32) (R : Nat → Nat → Bool) (s t : Nat) : Bool := za_al (fun l => za_al (fun u => !bt (Tg (t * 4 + l)) u || za_ex (fun v => bt (Tg (s * 4 + l)) v && R v u) 24) 24) 4
def za_cv (Tg Co : Nat → Int32) : Nat → Nat → Nat → Bool
  | 0 => fun s t => decide (Co t = Co s)
  | k + 1 => fun s t => za_cv Tg Co k s t && za_fc Tg (za_cv Tg Co k) s t
def za_cov (Tg Co Bl : Nat → Int32) : Prop := ∀ s, s < 24 → Bl s = za_mk (za_cv Tg Co 576 s) 24
def za_cstab (Tg Co : Nat → Int32) (k : Nat) : Prop := ∀ s t, s < 24 → t < 24 → za_cv Tg Co (k + 1) s t = za_cv Tg Co k s t
theorem za_fc_iff {Tg : Nat → Int32} {R : Nat → Nat → Bool} {s t : Nat} : za_fc Tg R s t = true ↔ ∀ l, l < 4 → ∀ u, u < 24 → bt (Tg (t * 4 + l)) u = true → ∃ v, v < 24 ∧ bt (Tg (s * 4 + l)) v = true ∧ R v u = true := by
  unfold za_fc
  rw [za_al_iff]
  constructor
  · intro h l hl u hu hb
    have h1 := za_al_iff.mp (h l hl) u hu
    rw [hb] at h1
    simp only [Bool.not_true, Bool.false_or] at h1
    obtain ⟨v, hv, h2⟩ := za_ex_iff.mp h1
    rw [Bool.and_eq_true] at h2
    exact ⟨v, hv, h2.1, h2.2⟩
  · intro h l hl
    refine za_al_iff.mpr (fun u hu => ?_)
    show (!bt (Tg (t * 4 + l)) u || _) = true
    by_cases hb : bt (Tg (t * 4 + l)) u = true
    · rw [hb]
      simp only [Bool.not_true, Bool.false_or]
      obtain ⟨v, hv, h1, h2⟩ := h l hl u hu hb
      exact za_ex_iff.mpr ⟨v, hv, by rw [h1, h2]; rfl⟩
    · have hb : bt (Tg (t * 4 + l)) u = false := by simpa using hb
      rw [hb]
      rfl
theorem za_foll_iff {Tg Co Bl Uc : Nat → Int32} {q s t : Nat} (hsm : za_small Tg) (hR : ∀ s, s < 24 → Bl s = za_mk (za_cv Tg Co q s) 24) (hU : ∀ i, i < 96 → Uc i = za_uo (Tg i) Bl 0 24) (hs : s < 24) (ht : t < 24) : za_foll Tg Uc s t = za_fc Tg (za_cv Tg Co q) s t := by
  have hbit : ∀ l i, l < 4 → i < 24 → (bt (Uc (s * 4 + l)) i = true ↔ ∃ v, v < 24 ∧ bt (Tg (s * 4 + l)) v = true ∧ za_cv Tg Co q v i = true) := by
    intro l i hl hi
    rw [hU _ (by omega), za_uo_bit, za_ex_iff]
    constructor
    · rintro ⟨v, hv, h⟩
      rw [Bool.and_eq_true, Nat.zero_add, hR v hv, za_mk_bit _ 24 (by omega)] at h
      exact ⟨v, hv, h.1, by simpa [hi] using h.2⟩
    · rintro ⟨v, hv, h1, h2⟩
      refine ⟨v, hv, ?_⟩
      rw [Bool.and_eq_true, Nat.zero_add, hR v hv, za_mk_bit _ 24 (by omega)]
      exact ⟨h1, by simp [hi, h2]⟩
  apply za_bool
  rw [za_fc_iff]
  unfold za_foll
  rw [za_al_iff]
  constructor
  · intro h l hl u hu hb
    have e := of_decide_eq_true (h l hl)
    have e2 := congrArg (fun z => bt z u) e
    simp only [b_and, b_xor, b_0, b_m1 u (by omega), hb, Bool.true_and] at e2
    have e3 : bt (Uc (s * 4 + l)) u = true := by simpa using e2
    exact (hbit l u hl hu).mp e3
  · intro h l hl
    refine decide_eq_true (b_ext (fun i hi => ?_))
    rw [b_and, b_xor, b_0, b_m1 i hi]
    rcases Nat.lt_or_ge i 24 with g | g
    · by_cases hb : bt (Tg (t * 4 + l)) i = true
      · rw [(hbit l i hl g).mpr (h l hl i g hb)]
        simp
      · have hb : bt (Tg (t * 4 + l)) i = false := by simpa using hb
        rw [hb, Bool.false_and]
    · rw [hsm _ (by omega) i g, Bool.false_and]
theorem za_cov_0 {Tg Co Bl : Nat → Int32} : ∀ s, s < 24 → za_fl (fun x => za_mk (fun z => decide (Co z = Co x)) 24) Bl 24 s = za_mk (za_cv Tg Co 0 s) 24 := by
  intro s hs
  rw [za_fl_lt hs]
  rfl
theorem za_cb_row {Tg Co Bl Uc : Nat → Int32} {q y : Nat} (hsm : za_small Tg) (hR : ∀ s, s < 24 → Bl s = za_mk (za_cv Tg Co q s) 24) (hy : y < 24) : za_cb Tg Bl Uc y = za_mk (za_cv Tg Co (q + 1) y) 24 := by
  unfold za_cb za_sb
  refine za_mk_congr (fun x hx => ?_)
  rw [hR y hy, za_mk_bit _ 24 (by omega), za_foll_iff hsm hR (fun i hi => za_ua_at hi) hy hx, decide_eq_true hx, Bool.true_and]
  rfl
theorem za_cov_s {Tg Co Bl Uc : Nat → Int32} {q : Nat} (hsm : za_small Tg) (hR : ∀ s, s < 24 → Bl s = za_mk (za_cv Tg Co q s) 24) : ∀ s, s < 24 → za_fl (za_cb Tg Bl Uc) Bl 24 s = za_mk (za_cv Tg Co (q + 1) s) 24 := by
  intro s hs
  rw [za_fl_lt hs, za_cb_row hsm hR hs]
theorem za_cstab_s {Tg Co : Nat → Int32} {k : Nat} (h : za_cstab Tg Co k) : za_cstab Tg Co (k + 1) := by
  intro s t hs ht
  show (za_cv Tg Co (k + 1) s t && za_fc Tg (za_cv Tg Co (k + 1)) s t) = (za_cv Tg Co k s t && za_fc Tg (za_cv Tg Co k) s t)
  have e : za_fc Tg (za_cv Tg Co (k + 1)) s t = za_fc Tg (za_cv Tg Co k) s t := by
    unfold za_fc
    refine za_al_congr (fun l _ => za_al_congr (fun u hu => ?_))
    rw [za_ex_congr (fun v hv => by rw [h v u hv hu])]
  rw [h s t hs ht, e]
theorem za_cstab_le {Tg Co : Nat → Int32} {k j : Nat} (hj : k ≤ j) (h : za_cstab Tg Co k) {s t : Nat} (hs : s < 24) (ht : t < 24) : za_cv Tg Co j s t = za_cv Tg Co k s t := by
  have go : ∀ d, za_cstab Tg Co (k + d) ∧ za_cv Tg Co (k + d) s t = za_cv Tg Co k s t := by
    intro d
    induction d with
    | zero => exact ⟨h, rfl⟩
    | succ d ih => exact ⟨za_cstab_s ih.1, (ih.1 s t hs ht).trans ih.2⟩
  have := (go (j - k)).2
  rw [show k + (j - k) = j by omega] at this
  exact this
theorem za_cstab_of {Tg Co Bl Uc : Nat → Int32} {q : Nat} (hsm : za_small Tg) (hR : ∀ s, s < 24 → Bl s = za_mk (za_cv Tg Co q s) 24) (h : za_ex (za_cd Tg Bl Uc) 24 = false) : za_cstab Tg Co (q + 1) := by
  refine za_cstab_s ?_
  intro s t hs ht
  have h1 : za_cd Tg Bl Uc s = false := by
    cases e : za_cd Tg Bl Uc s with
    | false => rfl
    | true => rw [za_ex_iff.mpr ⟨s, hs, e⟩] at h; cases h
  unfold za_cd at h1
  rw [decide_eq_false_iff_not, Classical.not_not, za_cb_row hsm hR hs, hR s hs] at h1
  exact za_mk_inj h1 ht
theorem za_cov_of {Tg Co Bl : Nat → Int32} {q : Nat} (hR : ∀ s, s < 24 → Bl s = za_mk (za_cv Tg Co q s) 24) (h : za_cstab Tg Co q) (hq : q ≤ 576) : za_cov Tg Co Bl := by
  intro s hs
  rw [hR s hs]
  exact za_mk_congr (fun t ht => (za_cstab_le hq h hs ht).symm)
end
section
/-! mirrors of the reference's loops -/
def za_mans (Mv : Nat → Bool) (Br : Nat → Int32) (t l u k : Nat) : Bool := za_ex (fun x => Mv (96 * t + 24 * l + x) && !decide (Br (24 * u + x) ≤ nI k)) 24
def za_mfol (Mv : Nat → Bool) (Br : Nat → Int32) (s t k : Nat) : Bool := za_al (fun x => !Mv (96 * s + x) || za_mans Mv Br t (x / 24) (x % 24) k) 96
def za_mm2 (Mv Cd : Nat → Bool) (s i x : Nat) : Bool := Mv (96 * s + 24 * (i / 24) + x) && Cd (24 * x + i % 24)
def za_mm1 (Mv Cd : Nat → Bool) (s t i : Nat) : Bool := !Mv (96 * t + i) || za_ex (za_mm2 Mv Cd s i) 24
def za_mmat (Mv Cd : Nat → Bool) (s t : Nat) : Bool := za_al (za_mm1 Mv Cd s t) 96
theorem za_ex_mono {p : Nat → Bool} {i n : Nat} (h : i ≤ n) (hp : za_ex p i = true) : za_ex p n = true := by
  obtain ⟨j, hj, g⟩ := za_ex_iff.mp hp
  exact za_ex_iff.mpr ⟨j, by omega, g⟩
theorem za_mm3 {Mv Cd : Nat → Bool} {s t i j : Nat} {sm : Bool} (h : sm = (!Mv (96 * t + i) || za_ex (za_mm2 Mv Cd s i) j)) (h1 : sm = true) (hj : j ≤ 24) : (!Mv (96 * t + i) || za_ex (za_mm2 Mv Cd s i) 24) = sm := by
  rw [h1] at h ⊢
  have h := h.symm
  rw [Bool.or_eq_true] at h ⊢
  rcases h with h | h
  · exact Or.inl h
  · exact Or.inr (za_ex_mono hj h)
def za_mat (Mv : Nat → Bool) (Br : Nat → Int32) (s t x k : Nat) : Bool := Mv (96 * s + x) && !za_mans Mv Br t (x / 24) (x % 24) k
def za_ri (w : Int32) (l : Nat) (Mv : Nat → Bool) (Mk : Nat → Int32) (s : Nat) (a : Int32) : Nat → Int32
  | 0 => a
  | n + 1 => if Mk s = w ∧ Mv (96 * s + 24 * l + n) = true then za_ri w l Mv Mk s a n ||| (nI 1 <<< (Mk n &&& 31)) else za_ri w l Mv Mk s a n
def za_ro (w : Int32) (l : Nat) (Mv : Nat → Bool) (Mk : Nat → Int32) : Nat → Int32
  | 0 => nI 0
  | n + 1 => za_ri w l Mv Mk n (za_ro w l Mv Mk n) 24
end
section
/-! the answers of the class's own methods, in the net's words -/
def za_clp (w : Int32) : Nat := w.toNatClampNeg
theorem za_clS {j : Nat} (h : j < 24) : za_clp (nI j) = j := nI_clamp (by omega)
theorem za_clL {j : Nat} (h : j < 4) : za_clp (nI j) = j := nI_clamp (by omega)
def za_isM (w x0 v : Int32) : Bool := za_isS w && za_isS v && za_isL x0
theorem za_isM_of {w x0 v : Int32} (h : (za_isS w && za_isS v && za_isL x0) = true) : (∃ s : Nat, s < 24 ∧ w = nI s) ∧ (∃ l : Nat, l < 4 ∧ x0 = nI l) ∧ ∃ t : Nat, t < 24 ∧ v = nI t := by
  rw [Bool.and_eq_true, Bool.and_eq_true] at h
  exact ⟨za_isS_of h.1.1, za_isL_of h.2, za_isS_of h.1.2⟩
theorem za_isSS_of {w v : Int32} (h : (za_isS w && za_isS v) = true) : (∃ s : Nat, s < 24 ∧ w = nI s) ∧ ∃ t : Nat, t < 24 ∧ v = nI t := by
  rw [Bool.and_eq_true] at h
  exact ⟨za_isS_of h.1, za_isS_of h.2⟩
def za_mok (Tg : Nat → Int32) (ct w x0 v : Int32) : Bool := (za_isS w && za_isS v && za_isL x0) && (!bt (Tg (za_clp w * 4 + za_clp x0)) (za_clp v) && decide (ct < nI 120))
def za_mvT (Tg : Nat → Int32) (ct w x0 v : Int32) : Nat → Int32 := if za_mok Tg ct w x0 v = true then upd Tg (za_clp w * 4 + za_clp x0) (Tg (za_clp w * 4 + za_clp x0) ||| (nI 1 <<< (v &&& 31))) else Tg
def za_mct (Tg : Nat → Int32) (ct w x0 v : Int32) : Int32 := if za_mok Tg ct w x0 v = true then ct + nI 1 else ct
theorem za_mok1 {Tg : Nat → Int32} {ct w x0 v : Int32} (h : (za_isS w && za_isS v && za_isL x0) = false) : za_mok Tg ct w x0 v = false := by
  unfold za_mok
  rw [h, Bool.false_and]
theorem za_mok2 {Tg : Nat → Int32} {ct w x0 v : Int32} {s l t : Nat} (hs : s < 24) (hl : l < 4) (ht : t < 24) (hw : w = nI s) (hx : x0 = nI l) (hv : v = nI t) (h : bt (Tg (s * 4 + l)) t = true) : za_mok Tg ct w x0 v = false := by
  subst hw hx hv
  unfold za_mok
  rw [za_clS hs, za_clL hl, za_clS ht, h]
  simp
theorem za_mok3 {Tg : Nat → Int32} {ct w x0 v : Int32} (h : ¬ ct < nI 120) : za_mok Tg ct w x0 v = false := by
  unfold za_mok
  rw [decide_eq_false h]
  simp
theorem za_mok4 {Tg : Nat → Int32} {ct w x0 v : Int32} {s l t : Nat} (hs : s < 24) (hl : l < 4) (ht : t < 24) (hw : w = nI s) (hx : x0 = nI l) (hv : v = nI t) (h1 : (za_isS w && za_isS v && za_isL x0) = true) (h2 : bt (Tg (s * 4 + l)) t = false) (h3 : ct < nI 120) : za_mok Tg ct w x0 v = true := by
  subst hw hx hv
  unfold za_mok
  rw [za_clS hs, za_clL hl, za_clS ht, h1, h2, decide_eq_true h3]
  rfl
def za_dok (Tg : Nat → Int32) (w x0 v : Int32) : Bool := (za_isS w && za_isS v && za_isL x0) && bt (Tg (za_clp w * 4 + za_clp x0)) (za_clp v)
def za_dvT (Tg : Nat → Int32) (w x0 v : Int32) : Nat → Int32 := if za_dok Tg w x0 v = true then upd Tg (za_clp w * 4 + za_clp x0) (Tg (za_clp w * 4 + za_clp x0) &&& ((nI 1 <<< (v &&& 31)) ^^^ (-1))) else Tg
def za_dct (Tg : Nat → Int32) (ct w x0 v : Int32) : Int32 := if za_dok Tg w x0 v = true then ct - nI 1 else ct
theorem za_dok1 {Tg : Nat → Int32} {w x0 v : Int32} (h : (za_isS w && za_isS v && za_isL x0) = false) : za_dok Tg w x0 v = false := by
  unfold za_dok
  rw [h, Bool.false_and]
theorem za_dok2 {Tg : Nat → Int32} {w x0 v : Int32} {s l t : Nat} (hs : s < 24) (hl : l < 4) (ht : t < 24) (hw : w = nI s) (hx : x0 = nI l) (hv : v = nI t) (h : bt (Tg (s * 4 + l)) t = false) : za_dok Tg w x0 v = false := by
  subst hw hx hv
  unfold za_dok
  rw [za_clS hs, za_clL hl, za_clS ht, h, Bool.and_false]
theorem za_dok4 {Tg : Nat → Int32} {w x0 v : Int32} {s l t : Nat} (hs : s < 24) (hl : l < 4) (ht : t < 24) (hw : w = nI s) (hx : x0 = nI l) (hv : v = nI t) (h1 : (za_isS w && za_isS v && za_isL x0) = true) (h2 : bt (Tg (s * 4 + l)) t = true) : za_dok Tg w x0 v = true := by
  subst hw hx hv
  unfold za_dok
  rw [za_clS hs, za_clL hl, za_clS ht, h1, h2]
  rfl
def za_cvC (Co : Nat → Int32) (w x0 : Int32) : Nat → Int32 := if za_isS w = true then upd Co (za_clp w) x0 else Co
/-- the breach of two states, -1 if they are alike for ever -/
def za_bv (Tg Co : Nat → Int32) (s t : Nat) : Int32 := za_ff (fun x => za_ak Tg Co x s t) 24
theorem za_row_bit {Tg Co Rw : Nat → Int32} {k s t : Nat} (h : za_row Tg Co Rw k) (hs : s < 24) (ht : t < 24) : bt (Rw (k * 24 + s)) t = za_ak Tg Co k s t := by
  rw [h s hs, za_mk_bit _ 24 (by omega), decide_eq_true ht, Bool.true_and]
theorem za_fi_of_like {Tg Co Rw Kd : Nat → Int32} {lr kc s t : Nat} (h : za_like Tg Co Rw lr Kd kc) (hs : s < 24) (ht : t < 24) : (za_fi (fun x => bt (Rw (x * 24 + s)) t) (lr + 1) < lr + 1 ∧ za_fi (fun x => za_ak Tg Co x s t) 24 = za_fi (fun x => bt (Rw (x * 24 + s)) t) (lr + 1)) ∨ (za_fi (fun x => bt (Rw (x * 24 + s)) t) (lr + 1) = lr + 1 ∧ za_fi (fun x => za_ak Tg Co x s t) 24 = 24) := by
  obtain ⟨h1, h2, h3, -⟩ := h
  have e : za_fi (fun x => bt (Rw (x * 24 + s)) t) (lr + 1) = za_fi (fun x => za_ak Tg Co x s t) (lr + 1) := za_fi_congr (fun x hx => za_row_bit (h2 x (by omega)) hs ht)
  rw [e]
  have hle := za_fi_le (fun x => za_ak Tg Co x s t) (lr + 1)
  by_cases q : za_fi (fun x => za_ak Tg Co x s t) (lr + 1) < lr + 1
  · refine Or.inl ⟨q, ?_⟩
    exact za_fi_at (by omega) (fun j hj => za_fi_lt (p := fun x => za_ak Tg Co x s t) hj) (za_fi_f (p := fun x => za_ak Tg Co x s t) q)
  · refine Or.inr ⟨by omega, za_fi_all (fun j hj => ?_)⟩
    by_cases g : j ≤ lr
    · exact za_fi_lt (p := fun x => za_ak Tg Co x s t) (n := lr + 1) (by omega)
    · rw [za_stab_le (show lr ≤ j by omega) h3 hs ht]
      exact za_fi_lt (p := fun x => za_ak Tg Co x s t) (n := lr + 1) (j := lr) (by omega)
theorem za_bv_of {Tg Co Rw Kd : Nat → Int32} {lr kc s t : Nat} (h : za_like Tg Co Rw lr Kd kc) (hs : s < 24) (ht : t < 24) : za_ff (fun x => bt (Rw (x * 24 + s)) t) (lr + 1) = za_bv Tg Co s t := by
  unfold za_bv za_ff
  have h1 := h.1
  rcases za_fi_of_like h hs ht with ⟨a, b⟩ | ⟨a, b⟩
  · rw [if_pos a, b, if_pos (by omega)]
  · rw [a, b, if_neg (by omega), if_neg (by omega)]
theorem za_m1 {n : Nat} (h : n < 2 ^ 31) : ¬ nI n = (-1) := by
  intro q
  have e := congrArg Int32.toInt q
  rw [nI_toInt h] at e
  have e2 : (-1 : Int32).toInt = -1 := by decide
  rw [e2] at e
  omega
theorem za_bv_al {Tg Co : Nat → Int32} {s t : Nat} : za_bv Tg Co s t = (-1) ↔ za_ak Tg Co 23 s t = true := by
  unfold za_bv za_ff
  have hle := za_fi_le (fun x => za_ak Tg Co x s t) 24
  by_cases q : za_fi (fun x => za_ak Tg Co x s t) 24 < 24
  · rw [if_pos q]
    refine ⟨fun h => absurd h (za_m1 (by omega)), fun h => ?_⟩
    have := za_fi_f q
    rw [za_ak_le (show za_fi (fun x => za_ak Tg Co x s t) 24 ≤ 23 by omega) h] at this
    cases this
  · rw [if_neg q]
    exact ⟨fun _ => za_fi_lt (p := fun x => za_ak Tg Co x s t) (n := 24) (by omega), fun _ => rfl⟩
theorem za_ka_congr {w : Int32} {Ka Kb : Nat → Int32} {n : Nat} (h : ∀ s, s < n → Ka s = Kb s) : za_ka w Ka n = za_ka w Kb n := by
  induction n with
  | zero => rfl
  | succ n ih => rw [za_ka, za_ka, ih (fun s hs => h s (by omega)), h n (by omega)]
theorem za_kr_congr {w : Int32} {l : Nat} {Tg Ka Kb : Nat → Int32} (h : ∀ s, s < 24 → Ka s = Kb s) {n : Nat} (hn : n ≤ 24) : za_kr w l Tg Ka n = za_kr w l Tg Kb n := by
  induction n with
  | zero => rfl
  | succ n ih => rw [za_kr, za_kr, ih (by omega), h n (by omega), za_ka_congr h]
def za_rv (Tg Co : Nat → Int32) (w : Int32) (l : Nat) : Int32 := za_kr w l Tg (za_kd Tg Co) 24
end
section
/-! the reference's state beside the class's: its moves, its breaches round by round -/
def za_rel (Tg : Nat → Int32) (Mv : Nat → Bool) : Prop := ∀ s l t, s < 24 → l < 4 → t < 24 → Mv (96 * s + 24 * l + t) = bt (Tg (s * 4 + l)) t
def za_Mok (Mv : Nat → Bool) (mn w x0 v : Int32) : Bool := (za_isS w && za_isL x0 && za_isS v) && (!Mv (96 * za_clp w + 24 * za_clp x0 + za_clp v) && !decide (mn = nI 120))
def za_MvT (Mv : Nat → Bool) (mn w x0 v : Int32) : Nat → Bool := if za_Mok Mv mn w x0 v = true then za_ub Mv (96 * za_clp w + 24 * za_clp x0 + za_clp v) true else Mv
def za_Mct (Mv : Nat → Bool) (mn w x0 v : Int32) : Int32 := if za_Mok Mv mn w x0 v = true then mn + nI 1 else mn
def za_Dok (Mv : Nat → Bool) (w x0 v : Int32) : Bool := (za_isS w && za_isL x0 && za_isS v) && Mv (96 * za_clp w + 24 * za_clp x0 + za_clp v)
def za_DvT (Mv : Nat → Bool) (w x0 v : Int32) : Nat → Bool := if za_Dok Mv w x0 v = true then za_ub Mv (96 * za_clp w + 24 * za_clp x0 + za_clp v) false else Mv
def za_Dct (Mv : Nat → Bool) (mn w x0 v : Int32) : Int32 := if za_Dok Mv w x0 v = true then mn - nI 1 else mn
def za_fb (f g : Nat → Bool) (i : Nat) : Nat → Bool := fun j => if j < i then f j else g j
theorem za_fb0 (f g : Nat → Bool) : za_fb f g 0 = g := by funext j; simp [za_fb]
theorem za_fbU {f g : Nat → Bool} {i : Nat} {v : Bool} (h : v = f i) : za_fb f g (i + 1) = za_ub (za_fb f g i) i v := by
  funext j
  unfold za_fb za_ub
  by_cases h1 : j = i
  · subst h1; simp [h]
  · by_cases h2 : j < i
    · simp [h1, h2, Nat.lt_succ_of_lt h2]
    · simp [h1, h2, show ¬ j < i + 1 by omega]
def za_vb0 (Mc : Nat → Int32) (q : Nat) : Int32 := if Mc (q / 24) = Mc (q % 24) then nI 1000 else nI 0
/-- what stands for the pair q in the reference's breaches when k rounds have been looked at -/
def za_vb (Tg Co : Nat → Int32) (k q : Nat) : Int32 := if za_ak Tg Co k (q / 24) (q % 24) = true then nI 1000 else nI (za_fi (fun x => za_ak Tg Co x (q / 24) (q % 24)) 24)
def za_ap (Tg Co : Nat → Int32) (k q : Nat) : Bool := za_ak Tg Co k (q / 24) (q % 24) && !za_ak Tg Co (k + 1) (q / 24) (q % 24)
theorem za_vb_0 {Tg Co Mc Br : Nat → Int32} {i : Nat} (hMc : ∀ s, s < 24 → Mc s = Co s) (hi : 576 ≤ i) : ∀ q, q < 576 → za_fl (za_vb0 Mc) Br i q = za_vb Tg Co 0 q := by
  intro q hq
  rw [za_fl_lt (by omega)]
  unfold za_vb0 za_vb
  rw [hMc _ (by omega), hMc _ (by omega)]
  by_cases h : Co (q / 24) = Co (q % 24)
  · have h2 : za_ak Tg Co 0 (q / 24) (q % 24) = true := decide_eq_true h.symm
    rw [if_pos h, if_pos h2]
  · have h2 : za_ak Tg Co 0 (q / 24) (q % 24) = false := decide_eq_false (fun z => h z.symm)
    rw [if_neg h, if_neg (by rw [h2]; decide), za_fi_at (i := 0) (by omega) (fun j hj => absurd hj (Nat.not_lt_zero _)) h2]
theorem za_fi_low {Tg Co : Nat → Int32} {k s t : Nat} (hk : k < 24) (h : za_ak Tg Co k s t = false) : za_fi (fun x => za_ak Tg Co x s t) 24 ≤ k := by
  rcases Nat.lt_or_ge k (za_fi (fun x => za_ak Tg Co x s t) 24) with q | q
  · have := za_fi_lt (p := fun x => za_ak Tg Co x s t) q
    rw [h] at this
    cases this
  · exact q
theorem za_ak24 {Tg Co : Nat → Int32} {k s t : Nat} (hk : 23 ≤ k) (hs : s < 24) (ht : t < 24) : za_ak Tg Co k s t = za_ak Tg Co 23 s t := za_stab_le hk (za_stab23 Tg Co) hs ht
theorem za_lowk {Tg Co : Nat → Int32} {k s t : Nat} (hs : s < 24) (ht : t < 24) (h : za_ak Tg Co k s t = false) : za_fi (fun x => za_ak Tg Co x s t) 24 ≤ k ∧ za_fi (fun x => za_ak Tg Co x s t) 24 < 24 := by
  rcases Nat.lt_or_ge k 24 with q | q
  · have := za_fi_low q h
    exact ⟨this, by omega⟩
  · have h2 : za_ak Tg Co 23 s t = false := by rw [← za_ak24 (show 23 ≤ k by omega) hs ht]; exact h
    have := za_fi_low (show 23 < 24 by omega) h2
    exact ⟨by omega, by omega⟩
/-- the breaches say who is alike for k rounds, whether an entry was looked at in this round or not -/
theorem za_bx {Tg Co Bc : Nat → Int32} {k i : Nat} (hk : k ≤ 24) (h1 : ∀ q, q < i → Bc q = za_vb Tg Co (k + 1) q) (h2 : ∀ q, i ≤ q → q < 576 → Bc q = za_vb Tg Co k q) : ∀ s t, s < 24 → t < 24 → (!decide (Bc (24 * s + t) ≤ nI k)) = za_ak Tg Co k s t := by
  intro s t hs ht
  have e1 : (24 * s + t) / 24 = s := by omega
  have e2 : (24 * s + t) % 24 = t := by omega
  have hv : Bc (24 * s + t) = nI 1000 ∨ ∃ f, Bc (24 * s + t) = nI f ∧ f < 24 ∧ (k < f ↔ za_ak Tg Co k s t = true) := by
    rcases Nat.lt_or_ge (24 * s + t) i with q | q
    · rw [h1 _ q]
      unfold za_vb
      rw [e1, e2]
      by_cases g : za_ak Tg Co (k + 1) s t = true
      · rw [if_pos g]; exact Or.inl rfl
      · rw [if_neg g]
        have g : za_ak Tg Co (k + 1) s t = false := by simpa using g
        obtain ⟨a, b⟩ := za_lowk hs ht g
        refine Or.inr ⟨_, rfl, b, fun z => za_fi_lt (p := fun x => za_ak Tg Co x s t) z, fun z => ?_⟩
        rcases Nat.lt_or_ge k (za_fi (fun x => za_ak Tg Co x s t) 24) with y | y
        · exact y
        · have f := za_fi_f (p := fun x => za_ak Tg Co x s t) b
          rw [za_ak_le y z] at f
          cases f
    · rw [h2 _ q (by omega)]
      unfold za_vb
      rw [e1, e2]
      by_cases g : za_ak Tg Co k s t = true
      · rw [if_pos g]; exact Or.inl rfl
      · rw [if_neg g]
        have g' : za_ak Tg Co k s t = false := by simpa using g
        obtain ⟨a, b⟩ := za_lowk hs ht g'
        exact Or.inr ⟨_, rfl, b, fun z => by omega, fun z => absurd z g⟩
  rcases hv with h | ⟨f, h, hf, hq⟩
  · rw [h, decide_eq_false (nI_ge (by omega) (by omega))]
    rcases Nat.lt_or_ge (24 * s + t) i with q | q
    · have g := h1 _ q
      rw [h] at g
      unfold za_vb at g
      rw [e1, e2] at g
      by_cases z : za_ak Tg Co (k + 1) s t = true
      · rw [(za_ak_s.mp z).1]; rfl
      · rw [if_neg z] at g
        have z' : za_ak Tg Co (k + 1) s t = false := by simpa using z
        have := (za_lowk hs ht z').2
        have := (nI_eq (by omega) (by omega)).mp g
        omega
    · have g := h2 _ q (by omega)
      rw [h] at g
      unfold za_vb at g
      rw [e1, e2] at g
      by_cases z : za_ak Tg Co k s t = true
      · rw [z]; rfl
      · rw [if_neg z] at g
        have z' : za_ak Tg Co k s t = false := by simpa using z
        have := (za_lowk hs ht z').2
        have := (nI_eq (by omega) (by omega)).mp g
        omega
  · rw [h]
    by_cases z : za_ak Tg Co k s t = true
    · rw [z, decide_eq_false (nI_ge (hq.mpr z) (by omega))]; rfl
    · have y : ¬ k < f := fun y => z (hq.mp y)
      rw [decide_eq_true (nI_le (by omega) (by omega))]
      simp [z]
theorem za_mans_ex {Tg : Nat → Int32} {Mv : Nat → Bool} {Bc : Nat → Int32} {R : Nat → Nat → Bool} {t l u k : Nat} (hMv : za_rel Tg Mv) (hB : ∀ s t, s < 24 → t < 24 → (!decide (Bc (24 * s + t) ≤ nI k)) = R s t) (ht : t < 24) (hl : l < 4) (hu : u < 24) : za_mans Mv Bc t l u k = za_ex (fun v => bt (Tg (t * 4 + l)) v && R u v) 24 := by
  unfold za_mans
  refine za_ex_congr (fun x hx => ?_)
  rw [hMv t l x ht hl hx, hB u x hu hx]
theorem za_al2 {p : Nat → Bool} : za_al p 96 = za_al (fun l => za_al (fun u => p (24 * l + u)) 24) 4 := by
  apply za_bool
  rw [za_al_iff, za_al_iff]
  constructor
  · intro h l hl
    exact za_al_iff.mpr (fun u hu => h _ (by omega))
  · intro h j hj
    have := za_al_iff.mp (h (j / 24) (by omega)) (j % 24) (by omega)
    have e : 24 * (j / 24) + j % 24 = j := by omega
    rw [e] at this
    exact this
theorem za_mfol_fw {Tg : Nat → Int32} {Mv : Nat → Bool} {Bc : Nat → Int32} {R : Nat → Nat → Bool} {s t k : Nat} (hMv : za_rel Tg Mv) (hB : ∀ s t, s < 24 → t < 24 → (!decide (Bc (24 * s + t) ≤ nI k)) = R s t) (hs : s < 24) (ht : t < 24) : za_mfol Mv Bc s t k = za_fw Tg R s t := by
  unfold za_mfol za_fw
  rw [za_al2]
  refine za_al_congr (fun l hl => za_al_congr (fun u hu => ?_))
  rw [show (24 * l + u) / 24 = l by omega, show (24 * l + u) % 24 = u by omega, show 96 * s + (24 * l + u) = 96 * s + 24 * l + u by omega, hMv s l u hs hl hu, za_mans_ex hMv hB ht hl hu]
theorem za_ap1 {Tg Co Bc : Nat → Int32} {k q : Nat} (h : Bc q = za_vb Tg Co k q) (h1 : ¬ Bc q = nI 1000) : za_ap Tg Co k q = false := by
  unfold za_ap
  cases e : za_ak Tg Co k (q / 24) (q % 24) with
  | false => rfl
  | true =>
    unfold za_vb at h
    rw [if_pos e] at h
    exact absurd h h1
theorem za_apk {Tg Co Bc : Nat → Int32} {k q : Nat} (hq : q < 576) (h : Bc q = za_vb Tg Co k q) (h1 : Bc q = nI 1000) : za_ak Tg Co k (q / 24) (q % 24) = true := by
  cases e : za_ak Tg Co k (q / 24) (q % 24) with
  | true => rfl
  | false =>
    unfold za_vb at h
    rw [if_neg (by rw [e]; decide), h1] at h
    have := (za_lowk (show q / 24 < 24 by omega) (show q % 24 < 24 by omega) e).2
    have := (nI_eq (by omega) (by omega)).mp h
    omega
theorem za_ap2 {Tg Co Bc : Nat → Int32} {k q : Nat} (hq : q < 576) (h : Bc q = za_vb Tg Co k q) (h1 : Bc q = nI 1000) (h2 : za_fw Tg (za_ak Tg Co k) (q / 24) (q % 24) = false) : za_ap Tg Co k q = true := by
  unfold za_ap
  rw [za_apk hq h h1]
  show (!(za_ak Tg Co k (q / 24) (q % 24) && (za_fw Tg (za_ak Tg Co k) (q / 24) (q % 24) && za_fw Tg (za_ak Tg Co k) (q % 24) (q / 24)))) = true
  rw [h2, Bool.false_and, Bool.and_false]
  rfl
theorem za_ap3 {Tg Co Bc : Nat → Int32} {k q : Nat} (hq : q < 576) (h : Bc q = za_vb Tg Co k q) (h1 : Bc q = nI 1000) (h2 : za_fw Tg (za_ak Tg Co k) (q % 24) (q / 24) = false) : za_ap Tg Co k q = true := by
  unfold za_ap
  rw [za_apk hq h h1]
  show (!(za_ak Tg Co k (q / 24) (q % 24) && (za_fw Tg (za_ak Tg Co k) (q / 24) (q % 24) && za_fw Tg (za_ak Tg Co k) (q % 24) (q / 24)))) = true
  rw [h2, Bool.and_false, Bool.and_false]
  rfl
theorem za_ap4 {Tg Co Bc : Nat → Int32} {k q : Nat} (hq : q < 576) (h : Bc q = za_vb Tg Co k q) (h1 : Bc q = nI 1000) (h2 : za_fw Tg (za_ak Tg Co k) (q / 24) (q % 24) = true) (h3 : za_fw Tg (za_ak Tg Co k) (q % 24) (q / 24) = true) : za_ap Tg Co k q = false := by
  unfold za_ap
  have e := za_apk hq h h1
  rw [za_ak_s.mpr ⟨e, h2, h3⟩]
  simp
theorem za_ap_lt {Tg Co : Nat → Int32} {k q : Nat} (hq : q < 576) (h : za_ap Tg Co k q = true) : k + 1 < 24 := by
  rcases Nat.lt_or_ge (k + 1) 24 with g | g
  · exact g
  · unfold za_ap at h
    rw [za_ak24 (show 23 ≤ k by omega) (by omega) (by omega), za_ak24 (show 23 ≤ k + 1 by omega) (by omega) (by omega)] at h
    cases z : za_ak Tg Co 23 (q / 24) (q % 24) <;> rw [z] at h <;> cases h
theorem za_vbT {Tg Co : Nat → Int32} {k q : Nat} (hq : q < 576) (h : za_ap Tg Co k q = true) : nI (k + 1) = za_vb Tg Co (k + 1) q := by
  have hk := za_ap_lt hq h
  unfold za_ap at h
  rw [Bool.and_eq_true, Bool.not_eq_true'] at h
  unfold za_vb
  rw [if_neg (by rw [h.2]; decide), za_fi_at (i := k + 1) hk (fun j hj => za_ak_le (show j ≤ k by omega) h.1) h.2]
theorem za_vbF {Tg Co : Nat → Int32} {k q : Nat} (h : za_ap Tg Co k q = false) : za_vb Tg Co k q = za_vb Tg Co (k + 1) q := by
  unfold za_ap at h
  unfold za_vb
  cases e : za_ak Tg Co k (q / 24) (q % 24) with
  | false =>
    have e2 : za_ak Tg Co (k + 1) (q / 24) (q % 24) = false := by
      cases z : za_ak Tg Co (k + 1) (q / 24) (q % 24) with
      | false => rfl
      | true => rw [(za_ak_s.mp z).1] at e; cases e
    rw [e2]
  | true =>
    rw [e, Bool.true_and, Bool.not_eq_false'] at h
    rw [h]
theorem za_vbS {Tg Co Bc : Nat → Int32} {k i : Nat} {x : Int32} (h1 : ∀ q, q < i → Bc q = za_vb Tg Co (k + 1) q) (hx : x = za_vb Tg Co (k + 1) i) : ∀ q, q < i + 1 → upd Bc i x q = za_vb Tg Co (k + 1) q := by
  intro q hq
  unfold upd
  by_cases e : q = i
  · rw [if_pos e, hx, e]
  · rw [if_neg e]; exact h1 q (by omega)
theorem za_vbK {Tg Co Bc : Nat → Int32} {k i : Nat} {x : Int32} (h2 : ∀ q, i ≤ q → q < 576 → Bc q = za_vb Tg Co k q) : ∀ q, i + 1 ≤ q → q < 576 → upd Bc i x q = za_vb Tg Co k q := by
  intro q h3 h4
  unfold upd
  rw [if_neg (by omega)]
  exact h2 q (by omega) h4
theorem za_stab_ap {Tg Co : Nat → Int32} {k : Nat} (h : za_ex (za_ap Tg Co k) 576 = false) : za_stab Tg Co (k + 1) := by
  refine za_stab_s ?_
  intro s t hs ht
  have h1 : za_ap Tg Co k (24 * s + t) = false := by
    cases e : za_ap Tg Co k (24 * s + t) with
    | false => rfl
    | true => rw [za_ex_iff.mpr ⟨24 * s + t, by omega, e⟩] at h; cases h
  unfold za_ap at h1
  rw [show (24 * s + t) / 24 = s by omega, show (24 * s + t) % 24 = t by omega] at h1
  cases z : za_ak Tg Co k s t with
  | false =>
    cases y : za_ak Tg Co (k + 1) s t with
    | false => rfl
    | true => rw [(za_ak_s.mp y).1] at z; cases z
  | true => rw [z, Bool.true_and, Bool.not_eq_false'] at h1; exact h1
theorem za_ap_none {Tg Co : Nat → Int32} {k : Nat} (hk : 23 ≤ k) : za_ex (za_ap Tg Co k) 576 = false := by
  cases e : za_ex (za_ap Tg Co k) 576 with
  | false => rfl
  | true =>
    obtain ⟨q, hq, h⟩ := za_ex_iff.mp e
    have := za_ap_lt hq h
    omega
/-- the breaches as the reference has them in the end -/
def za_brs (Tg Co Br : Nat → Int32) : Prop := ∀ q, q < 576 → Br q = za_vb Tg Co 23 q
theorem za_brs_of {Tg Co Bq : Nat → Int32} {k : Nat} (hB : ∀ q, q < 576 → Bq q = za_vb Tg Co k q) (h : za_stab Tg Co k) : za_brs Tg Co Bq := by
  intro q hq
  rw [hB q hq]
  unfold za_vb
  have e : za_ak Tg Co k (q / 24) (q % 24) = za_ak Tg Co 23 (q / 24) (q % 24) := by
    rcases Nat.le_total k 23 with g | g
    · exact (za_stab_le g h (by omega) (by omega)).symm
    · exact za_ak24 g (by omega) (by omega)
  rw [e]
end
section
/-! covers: settled after 576 rounds at the latest; the reference's rows -/
theorem za_cv_s {Tg Co : Nat → Int32} {k s t : Nat} : za_cv Tg Co (k + 1) s t = true ↔ za_cv Tg Co k s t = true ∧ za_fc Tg (za_cv Tg Co k) s t = true := by
  show (za_cv Tg Co k s t && za_fc Tg (za_cv Tg Co k) s t) = true ↔ _
  rw [Bool.and_eq_true]
theorem za_cgrow (Tg Co : Nat → Int32) (k : Nat) : za_cstab Tg Co k ∨ za_cn (fun q => za_cv Tg Co k (q / 24) (q % 24)) 576 + k ≤ 576 := by
  induction k with
  | zero =>
    have := za_cn_le (p := fun q => za_cv Tg Co 0 (q / 24) (q % 24)) 576
    exact Or.inr (by omega)
  | succ k ih =>
    by_cases hs : za_cstab Tg Co k
    · exact Or.inl (za_cstab_s hs)
    · refine Or.inr ?_
      have ih := ih.resolve_left hs
      have h2 : ∃ q, q < 576 ∧ za_cv Tg Co (k + 1) (q / 24) (q % 24) = false ∧ za_cv Tg Co k (q / 24) (q % 24) = true := by
        apply Classical.byContradiction
        intro z
        refine hs (fun s t h1 h3 => ?_)
        cases e : za_cv Tg Co (k + 1) s t with
        | true => rw [(za_cv_s.mp e).1]
        | false =>
          cases e2 : za_cv Tg Co k s t with
          | false => rfl
          | true => exact absurd ⟨24 * s + t, by omega, by rw [show (24 * s + t) / 24 = s by omega, show (24 * s + t) % 24 = t by omega]; exact e, by rw [show (24 * s + t) / 24 = s by omega, show (24 * s + t) % 24 = t by omega]; exact e2⟩ z
      obtain ⟨q, hq, g1, g2⟩ := h2
      have := za_cn_lt (n := 576) (p := fun q => za_cv Tg Co (k + 1) (q / 24) (q % 24)) (q := fun q => za_cv Tg Co k (q / 24) (q % 24)) (fun i _ h => (za_cv_s.mp h).1) hq g1 g2
      omega
theorem za_cstab576 (Tg Co : Nat → Int32) : za_cstab Tg Co 576 := by
  rcases za_cgrow Tg Co 576 with h | h
  · exact h
  · intro s t hs ht
    have z : za_cv Tg Co 576 s t = false := by
      cases e : za_cv Tg Co 576 s t with
      | false => rfl
      | true =>
        have := za_cn_lt (n := 576) (p := fun _ => false) (q := fun q => za_cv Tg Co 576 (q / 24) (q % 24)) (fun i _ h => by cases h) (show 24 * s + t < 576 by omega) rfl (by show za_cv Tg Co 576 ((24 * s + t) / 24) ((24 * s + t) % 24) = true; rw [show (24 * s + t) / 24 = s by omega, show (24 * s + t) % 24 = t by omega]; exact e)
        omega
    rw [z]
    cases e : za_cv Tg Co (576 + 1) s t with
    | false => rfl
    | true => rw [(za_cv_s.mp e).1] at z; cases z
theorem za_cv576 {Tg Co : Nat → Int32} {k s t : Nat} (hk : 576 ≤ k) (hs : s < 24) (ht : t < 24) : za_cv Tg Co k s t = za_cv Tg Co 576 s t := za_cstab_le hk (za_cstab576 Tg Co) hs ht
def za_vc (Tg Co : Nat → Int32) (k q : Nat) : Bool := za_cv Tg Co k (q / 24) (q % 24)
def za_vc0 (Mc : Nat → Int32) (q : Nat) : Bool := decide (Mc (q / 24) = Mc (q % 24))
theorem za_vc_0 {Tg Co Mc : Nat → Int32} {Cd : Nat → Bool} {i : Nat} (hMc : ∀ s, s < 24 → Mc s = Co s) (hi : 576 ≤ i) : ∀ q, q < 576 → za_fb (za_vc0 Mc) Cd i q = za_vc Tg Co 0 q := by
  intro q hq
  unfold za_fb
  rw [if_pos (by omega)]
  unfold za_vc0 za_vc
  rw [hMc _ (by omega), hMc _ (by omega)]
  show decide (Co (q / 24) = Co (q % 24)) = decide (Co (q % 24) = Co (q / 24))
  by_cases h : Co (q / 24) = Co (q % 24)
  · rw [decide_eq_true h, decide_eq_true h.symm]
  · rw [decide_eq_false h, decide_eq_false (fun z => h z.symm)]
theorem za_mmat_fc {Tg : Nat → Int32} {Mv Cd : Nat → Bool} {R : Nat → Nat → Bool} {s t : Nat} (hMv : za_rel Tg Mv) (hC : ∀ s t, s < 24 → t < 24 → Cd (24 * s + t) = R s t) (hs : s < 24) (ht : t < 24) : za_mmat Mv Cd s t = za_fc Tg R s t := by
  unfold za_mmat za_fc
  rw [za_al2]
  refine za_al_congr (fun l hl => za_al_congr (fun u hu => ?_))
  unfold za_mm1
  rw [show 96 * t + (24 * l + u) = 96 * t + 24 * l + u by omega, hMv t l u ht hl hu]
  congr 1
  refine za_ex_congr (fun v hv => ?_)
  unfold za_mm2
  rw [show (24 * l + u) / 24 = l by omega, show (24 * l + u) % 24 = u by omega, hMv s l v hs hl hv, hC v u hv hu]
theorem za_vc_s {Tg Co : Nat → Int32} {Mv Cq : Nat → Bool} {k q : Nat} (hMv : za_rel Tg Mv) (hC : ∀ q, q < 576 → Cq q = za_vc Tg Co k q) (hq : q < 576) : (Cq q && za_mmat Mv Cq (q / 24) (q % 24)) = za_vc Tg Co (k + 1) q := by
  rw [hC q hq, za_mmat_fc (R := za_cv Tg Co k) hMv (fun s t hs ht => by rw [hC _ (by omega)]; unfold za_vc; rw [show (24 * s + t) / 24 = s by omega, show (24 * s + t) % 24 = t by omega]) (by omega) (by omega)]
  rfl
def za_cq (Tg Co : Nat → Int32) (k q : Nat) : Bool := !decide (za_vc Tg Co (k + 1) q = za_vc Tg Co k q)
theorem za_cstab_cq {Tg Co : Nat → Int32} {k : Nat} (h : za_ex (za_cq Tg Co k) 576 = false) : za_cstab Tg Co (k + 1) := by
  refine za_cstab_s ?_
  intro s t hs ht
  have h1 : za_cq Tg Co k (24 * s + t) = false := by
    cases e : za_cq Tg Co k (24 * s + t) with
    | false => rfl
    | true => rw [za_ex_iff.mpr ⟨24 * s + t, by omega, e⟩] at h; cases h
  unfold za_cq at h1
  rw [Bool.not_eq_false', decide_eq_true_eq] at h1
  unfold za_vc at h1
  rw [show (24 * s + t) / 24 = s by omega, show (24 * s + t) % 24 = t by omega] at h1
  exact h1
theorem za_cq_none {Tg Co : Nat → Int32} {k : Nat} (hk : 576 ≤ k) : za_ex (za_cq Tg Co k) 576 = false := by
  cases e : za_ex (za_cq Tg Co k) 576 with
  | false => rfl
  | true =>
    obtain ⟨q, hq, h⟩ := za_ex_iff.mp e
    unfold za_cq za_vc at h
    rw [za_cv576 (show 576 ≤ k + 1 by omega) (by omega) (by omega), za_cv576 hk (by omega) (by omega)] at h
    simp at h
def za_cds (Tg Co : Nat → Int32) (Cd : Nat → Bool) : Prop := ∀ q, q < 576 → Cd q = za_vc Tg Co 576 q
theorem za_cds_of {Tg Co : Nat → Int32} {Cq : Nat → Bool} {k : Nat} (hC : ∀ q, q < 576 → Cq q = za_vc Tg Co k q) (h : za_cstab Tg Co k) : za_cds Tg Co Cq := by
  intro q hq
  rw [hC q hq]
  unfold za_vc
  rcases Nat.le_total k 576 with g | g
  · exact (za_cstab_le g h (by omega) (by omega)).symm
  · exact za_cv576 g (by omega) (by omega)
theorem za_ubS {f g : Nat → Bool} {i : Nat} {x : Bool} (h1 : ∀ q, q < i → f q = g q) (hx : x = g i) : ∀ q, q < i + 1 → za_ub f i x q = g q := by
  intro q hq
  unfold za_ub
  by_cases e : q = i
  · rw [if_pos e, hx, e]
  · rw [if_neg e]; exact h1 q (by omega)
/-! the kinds as the reference finds them -/
theorem za_nk_keep {La : Nat → Nat} {Kd : Nat → Int32} {n m s : Nat} (hm : n ≤ m) (hs : s < n) : (za_nk La Kd m).1 s = (za_nk La Kd n).1 s := by
  induction m with
  | zero => rw [show n = 0 by omega]
  | succ m ih =>
    by_cases e : n = m + 1
    · rw [e]
    · rw [← ih (by omega)]
      by_cases h : La m = m
      · rw [za_nk_t h]
        show upd _ m _ s = _
        unfold upd
        rw [if_neg (by omega)]
      · rw [za_nk_f h]
        show upd _ m _ s = _
        unfold upd
        rw [if_neg (by omega)]
theorem za_kd_at {Tg Co : Nat → Int32} {n s : Nat} (hn : n ≤ 24) (hs : s < n) : (za_nk (za_lc Tg Co) (fun _ => nI 0) n).1 s = za_kd Tg Co s := (za_nk_keep hn hs).symm
theorem za_nk_le (La : Nat → Nat) (Kd : Nat → Int32) (n : Nat) : (za_nk La Kd n).2 ≤ n := by
  induction n with
  | zero => rw [za_nk0]; exact Nat.le_refl _
  | succ n ih =>
    by_cases h : La n = n
    · rw [za_nk_t h]; show _ + 1 ≤ _; omega
    · rw [za_nk_f h]; show (za_nk La Kd n).2 ≤ _; omega
/-- a state with no lesser one alike to it opens a kind; any other has the kind of the least one -/
theorem za_kd_new {Tg Co : Nat → Int32} {s : Nat} (hs : s < 24) (h : za_lc Tg Co s = s) : za_kd Tg Co s = nI (za_nk (za_lc Tg Co) (fun _ => nI 0) s).2 := by
  rw [← za_kd_at (n := s + 1) (by omega) (by omega), za_nk_t h]
  show upd _ s _ s = _
  unfold upd
  rw [if_pos rfl]
theorem za_kd_old {Tg Co : Nat → Int32} {s : Nat} (hs : s < 24) (h : za_lc Tg Co s < s) : za_kd Tg Co s = za_kd Tg Co (za_lc Tg Co s) := by
  rw [← za_kd_at (n := s + 1) (by omega) (by omega), za_nk_f (by omega)]
  show upd _ s _ s = _
  unfold upd
  rw [if_pos rfl, za_kd_at (by omega) h]
theorem za_lc_le (Tg Co : Nat → Int32) (s : Nat) : za_lc Tg Co s ≤ s := za_fi_le _ _
theorem za_lc_al {Tg Co : Nat → Int32} {s : Nat} (hs : s < 24) : za_ak Tg Co 23 s (za_lc Tg Co s) = true := by
  rcases Nat.lt_or_ge (za_lc Tg Co s) s with h | h
  · have this : (!za_ak Tg Co 23 s (za_lc Tg Co s)) = false := za_fi_f (p := fun x => !za_ak Tg Co 23 s x) h
    simpa using this
  · have e : za_lc Tg Co s = s := Nat.le_antisymm (za_lc_le Tg Co s) h
    rw [e]
    exact za_ak_refl hs
theorem za_lc_min {Tg Co : Nat → Int32} {s t : Nat} (h : za_ak Tg Co 23 s t = true) (ht : t ≤ s) : za_lc Tg Co s ≤ t := by
  rcases Nat.lt_or_ge t (za_lc Tg Co s) with g | g
  · have := za_fi_lt (p := fun x => !za_ak Tg Co 23 s x) g
    rw [h] at this
    cases this
  · exact g
theorem za_lc_eq {Tg Co : Nat → Int32} {s t : Nat} (hs : s < 24) (ht : t < 24) (h : za_ak Tg Co 23 s t = true) : za_lc Tg Co s = za_lc Tg Co t := by
  have l1 := za_lc_le Tg Co s
  have l2 := za_lc_le Tg Co t
  have a1 : za_ak Tg Co 23 s (za_lc Tg Co t) = true := za_ak_trans hs ht (by omega) h (za_lc_al ht)
  have a2 : za_ak Tg Co 23 t (za_lc Tg Co s) = true := za_ak_trans ht hs (by omega) (by rw [za_ak_symm]; exact h) (za_lc_al hs)
  rcases Nat.le_total s t with g | g
  · have h2 := za_lc_min a2 (by omega)
    have h1 := za_lc_min a1 (by omega)
    omega
  · have h1 := za_lc_min a1 (by omega)
    have h2 := za_lc_min a2 (by omega)
    omega
theorem za_kd_lc {Tg Co : Nat → Int32} {s : Nat} (hs : s < 24) : za_kd Tg Co s = za_kd Tg Co (za_lc Tg Co s) := by
  rcases Nat.lt_or_ge (za_lc Tg Co s) s with h | h
  · exact za_kd_old hs h
  · rw [Nat.le_antisymm (za_lc_le Tg Co s) h]
theorem za_kd_alike {Tg Co : Nat → Int32} {s t : Nat} (hs : s < 24) (ht : t < 24) (h : za_ak Tg Co 23 s t = true) : za_kd Tg Co s = za_kd Tg Co t := by
  rw [za_kd_lc hs, za_kd_lc ht, za_lc_eq hs ht h]
theorem za_kd_nI {Tg Co : Nat → Int32} {s : Nat} (hs : s < 24) : ∃ j : Nat, j < 24 ∧ za_kd Tg Co s = nI j := by
  have l := za_lc_le Tg Co s
  have e := za_lc_eq hs (show za_lc Tg Co s < 24 by omega) (za_lc_al hs)
  rw [za_kd_lc hs, za_kd_new (by omega) e.symm]
  have := za_nk_le (za_lc Tg Co) (fun _ => nI 0) (za_lc Tg Co s)
  exact ⟨_, by omega, rfl⟩
/-- while the reference looks at s: what it has found among the states below t -/
def za_mkv (Tg Co : Nat → Int32) (s t : Nat) : Int32 := if za_ex (za_ak Tg Co 23 s) t = true then za_kd Tg Co s else (-1)
theorem za_mkv_t {Tg Co : Nat → Int32} {s t : Nat} (hs : s < 24) (ht : t < s) (h : za_ak Tg Co 23 s t = true) : za_kd Tg Co t = za_mkv Tg Co s (t + 1) := by
  unfold za_mkv
  rw [if_pos (za_ex_iff.mpr ⟨t, by omega, h⟩)]
  exact (za_kd_alike hs (by omega) h).symm
theorem za_mkv_f {Tg Co : Nat → Int32} {s t : Nat} (h : za_ak Tg Co 23 s t = false) : za_mkv Tg Co s t = za_mkv Tg Co s (t + 1) := by
  unfold za_mkv
  rw [za_ex, h, Bool.or_false]
theorem za_mkv_old {Tg Co : Nat → Int32} {s : Nat} (hs : s < 24) (h : ¬ za_mkv Tg Co s s < 0) : za_lc Tg Co s < s ∧ za_mkv Tg Co s s = za_kd Tg Co s := by
  unfold za_mkv at h ⊢
  by_cases e : za_ex (za_ak Tg Co 23 s) s = true
  · rw [if_pos e]
    obtain ⟨t, ht, g⟩ := za_ex_iff.mp e
    have := za_lc_min g (by omega)
    exact ⟨by omega, rfl⟩
  · rw [if_neg e] at h
    exact absurd (by decide) h
theorem za_mkv_new {Tg Co : Nat → Int32} {s : Nat} (hs : s < 24) (h : za_mkv Tg Co s s < 0) : za_lc Tg Co s = s := by
  unfold za_mkv at h
  by_cases e : za_ex (za_ak Tg Co 23 s) s = true
  · rw [if_pos e] at h
    obtain ⟨j, hj, g⟩ := za_kd_nI (Tg := Tg) (Co := Co) hs
    rw [g] at h
    exact absurd h (nI_pos (by omega))
  · unfold za_lc
    refine za_fi_all (fun t ht => ?_)
    cases g : za_ak Tg Co 23 s t with
    | false => rfl
    | true => exact absurd (za_ex_iff.mpr ⟨t, ht, g⟩) e
theorem za_brs_al {Tg Co Br : Nat → Int32} {s t : Nat} (h : za_brs Tg Co Br) (hs : s < 24) (ht : t < 24) : decide (Br (24 * s + t) = nI 1000) = za_ak Tg Co 23 s t := by
  rw [h _ (by omega)]
  unfold za_vb
  rw [show (24 * s + t) / 24 = s by omega, show (24 * s + t) % 24 = t by omega]
  by_cases e : za_ak Tg Co 23 s t = true
  · rw [if_pos e, e]; simp
  · have e' : za_ak Tg Co 23 s t = false := by simpa using e
    rw [if_neg e, e', decide_eq_false_iff_not]
    intro z
    have := (za_lowk hs ht e').2
    have := (nI_eq (by omega) (by omega)).mp z
    omega
end
section
/-! attacks and plays, in the net's words -/
def za_at (Tg Co : Nat → Int32) (a b k m : Nat) : Bool := bt (Tg (a * 4 + m / 24)) (m % 24) && !za_ex (fun v => bt (Tg (b * 4 + m / 24)) v && za_ak Tg Co k (m % 24) v) 24
def za_bn (Tg Co : Nat → Int32) (x y : Nat) : Nat := za_fi (fun j => za_ak Tg Co j x y) 24
def za_pl (Tg Co : Nat → Int32) (x y : Nat) : Bool := decide (za_bn Tg Co x y < 24) && decide (0 < za_bn Tg Co x y)
def za_fq (Tg Co : Nat → Int32) (x y m : Nat) : Bool := if m < 96 then za_at Tg Co x y (za_bn Tg Co x y - 1) m else za_at Tg Co y x (za_bn Tg Co x y - 1) (m - 96)
def za_fa (Tg Co : Nat → Int32) (x y : Nat) : Nat := za_fi (fun m => !za_fq Tg Co x y m) 192
/-- the best answer so far: 24 if there is none -/
def za_bs (w : Int32) (B : Nat → Nat) : Nat → Nat
  | 0 => 24
  | n + 1 => if bt w n = true ∧ (za_bs w B n = 24 ∨ B (za_bs w B n) < B n) then n else za_bs w B n
def za_lb (Tg Co : Nat → Int32) (x y : Nat) : Nat := za_fa Tg Co x y % 96 / 24
def za_to (Tg Co : Nat → Int32) (x y : Nat) : Nat := za_fa Tg Co x y % 24
def za_mi (Tg Co : Nat → Int32) (x y : Nat) : Bool := decide (za_fa Tg Co x y < 96)
def za_ot (Tg Co : Nat → Int32) (x y : Nat) : Nat := if za_mi Tg Co x y = true then y else x
def za_an (Tg Co : Nat → Int32) (x y : Nat) : Nat := za_bs (Tg (za_ot Tg Co x y * 4 + za_lb Tg Co x y)) (za_bn Tg Co (za_to Tg Co x y)) 24
def za_ai (j : Nat) : Int32 := if j = 24 then (-1) else nI j
def za_cd9 (Tg Co : Nat → Int32) (x y : Nat) : Nat := (if za_mi Tg Co x y = true then 0 else 1000) + 100 * za_lb Tg Co x y + za_to Tg Co x y
def za_x1 (Tg Co : Nat → Int32) (x y : Nat) : Nat := if za_mi Tg Co x y = true then za_to Tg Co x y else za_an Tg Co x y
def za_y1 (Tg Co : Nat → Int32) (x y : Nat) : Nat := if za_mi Tg Co x y = true then za_an Tg Co x y else za_to Tg Co x y
/-- whether attack q is made, and the two states before it -/
def za_tr (Tg Co : Nat → Int32) (s t : Nat) : Nat → Bool × Nat × Nat
  | 0 => (za_pl Tg Co s t, s, t)
  | q + 1 => if (za_tr Tg Co s t q).1 = true ∧ ¬ za_an Tg Co (za_tr Tg Co s t q).2.1 (za_tr Tg Co s t q).2.2 = 24 then (za_pl Tg Co (za_x1 Tg Co (za_tr Tg Co s t q).2.1 (za_tr Tg Co s t q).2.2) (za_y1 Tg Co (za_tr Tg Co s t q).2.1 (za_tr Tg Co s t q).2.2), za_x1 Tg Co (za_tr Tg Co s t q).2.1 (za_tr Tg Co s t q).2.2, za_y1 Tg Co (za_tr Tg Co s t q).2.1 (za_tr Tg Co s t q).2.2) else (false, (za_tr Tg Co s t q).2.1, (za_tr Tg Co s t q).2.2)
termination_by q => q
theorem za_tr0 (Tg Co : Nat → Int32) (s t : Nat) : za_tr Tg Co s t 0 = (za_pl Tg Co s t, s, t) := by rw [za_tr]
def za_pn (Tg Co : Nat → Int32) (s t : Nat) : Nat := za_fi (fun q => (za_tr Tg Co s t q).1) 24
theorem za_bn_symm {Tg Co : Nat → Int32} (x y : Nat) : za_bn Tg Co x y = za_bn Tg Co y x := za_fi_congr (fun _ _ => za_ak_symm)
theorem za_pl_iff {Tg Co : Nat → Int32} {x y : Nat} : za_pl Tg Co x y = true ↔ za_bn Tg Co x y < 24 ∧ 0 < za_bn Tg Co x y := by
  unfold za_pl
  rw [Bool.and_eq_true, decide_eq_true_eq, decide_eq_true_eq]
/-- two states with a breach above 0 have an attack -/
theorem za_fa_lt {Tg Co : Nat → Int32} {x y : Nat} (h : za_pl Tg Co x y = true) : za_fa Tg Co x y < 192 := by
  obtain ⟨h1, h2⟩ := za_pl_iff.mp h
  rcases Nat.lt_or_ge (za_fa Tg Co x y) 192 with g | g
  · exact g
  · exfalso
    have hno : ∀ m, m < 192 → za_fq Tg Co x y m = false := by
      intro m hm
      have := za_fi_lt (p := fun m => !za_fq Tg Co x y m) (n := 192) (j := m) (by unfold za_fa at g; omega)
      simpa using this
    have hb1 : za_ak Tg Co (za_bn Tg Co x y) x y = false := za_fi_f (p := fun j => za_ak Tg Co j x y) h1
    have hk : za_ak Tg Co (za_bn Tg Co x y - 1) x y = true := za_fi_lt (p := fun j => za_ak Tg Co j x y) (n := 24) (by unfold za_bn at h2 ⊢; omega)
    have go : ∀ a b, (∀ m, m < 96 → za_at Tg Co a b (za_bn Tg Co x y - 1) m = false) → za_fw Tg (za_ak Tg Co (za_bn Tg Co x y - 1)) a b = true := by
      intro a b hab
      refine za_fw_iff.mpr (fun l hl u hu hm => ?_)
      have z := hab (24 * l + u) (by omega)
      unfold za_at at z
      rw [show (24 * l + u) / 24 = l by omega, show (24 * l + u) % 24 = u by omega, hm, Bool.true_and, Bool.not_eq_false'] at z
      obtain ⟨v, hv, z2⟩ := za_ex_iff.mp z
      rw [Bool.and_eq_true] at z2
      exact ⟨v, hv, z2.1, z2.2⟩
    have f1 := go x y (fun m hm => by have := hno m (by omega); unfold za_fq at this; rw [if_pos hm] at this; exact this)
    have f2 := go y x (fun m hm => by have := hno (m + 96) (by omega); unfold za_fq at this; rw [if_neg (by omega), show m + 96 - 96 = m by omega] at this; exact this)
    have := za_ak_s.mpr ⟨hk, f1, f2⟩
    rw [show za_bn Tg Co x y - 1 + 1 = za_bn Tg Co x y by omega, hb1] at this
    cases this
theorem za_lb_lt {Tg Co : Nat → Int32} (x y : Nat) : za_lb Tg Co x y < 4 := by unfold za_lb; omega
theorem za_to_lt {Tg Co : Nat → Int32} (x y : Nat) : za_to Tg Co x y < 24 := by unfold za_to; omega
theorem za_bs_lt (w : Int32) (B : Nat → Nat) (n : Nat) : za_bs w B n = 24 ∨ (za_bs w B n < n ∧ bt w (za_bs w B n) = true) := by
  induction n with
  | zero => exact Or.inl rfl
  | succ n ih =>
    rw [za_bs]
    split
    · rename_i h; exact Or.inr ⟨by omega, h.1⟩
    · rcases ih with h | h
      · exact Or.inl h
      · exact Or.inr ⟨by omega, h.2⟩
/-- the attack that is made: by whom, and that no answer is alike to it for k rounds -/
theorem za_fa_at {Tg Co : Nat → Int32} {x y : Nat} (h : za_pl Tg Co x y = true) (v : Nat) (hv : v < 24) (hb : bt (Tg (za_ot Tg Co x y * 4 + za_lb Tg Co x y)) v = true) : za_ak Tg Co (za_bn Tg Co x y - 1) (za_to Tg Co x y) v = false := by
  have hlt := za_fa_lt h
  have hq : za_fq Tg Co x y (za_fa Tg Co x y) = true := by
    have := za_fi_f (p := fun m => !za_fq Tg Co x y m) (n := 192) hlt
    have : (!za_fq Tg Co x y (za_fa Tg Co x y)) = false := this
    simpa using this
  unfold za_fq at hq
  unfold za_ot za_mi at hb
  unfold za_lb at hb
  unfold za_to
  by_cases g : za_fa Tg Co x y < 96
  · rw [if_pos g] at hq
    rw [decide_eq_true g, if_pos rfl, show za_fa Tg Co x y % 96 = za_fa Tg Co x y by omega] at hb
    unfold za_at at hq
    rw [Bool.and_eq_true, Bool.not_eq_true'] at hq
    cases e : za_ak Tg Co (za_bn Tg Co x y - 1) (za_fa Tg Co x y % 24) v with
    | false => rfl
    | true =>
      have z := (za_ex_iff (p := fun v => bt (Tg (y * 4 + za_fa Tg Co x y / 24)) v && za_ak Tg Co (za_bn Tg Co x y - 1) (za_fa Tg Co x y % 24) v) (n := 24)).mpr ⟨v, hv, by simp only [hb, e, Bool.and_self]⟩
      rw [hq.2] at z
      cases z
  · rw [if_neg g] at hq
    rw [decide_eq_false g, if_neg (by decide), show za_fa Tg Co x y % 96 = za_fa Tg Co x y - 96 by omega] at hb
    unfold za_at at hq
    rw [Bool.and_eq_true, Bool.not_eq_true', show (za_fa Tg Co x y - 96) % 24 = za_fa Tg Co x y % 24 by omega] at hq
    cases e : za_ak Tg Co (za_bn Tg Co x y - 1) (za_fa Tg Co x y % 24) v with
    | false => rfl
    | true =>
      have z := (za_ex_iff (p := fun v => bt (Tg (x * 4 + (za_fa Tg Co x y - 96) / 24)) v && za_ak Tg Co (za_bn Tg Co x y - 1) (za_fa Tg Co x y % 24) v) (n := 24)).mpr ⟨v, hv, by simp only [hb, e, Bool.and_self]⟩
      rw [hq.2] at z
      cases z
theorem za_bn_le {Tg Co : Nat → Int32} {k u v : Nat} (hk : k < 24) (h : za_ak Tg Co k u v = false) : za_bn Tg Co u v ≤ k := za_fi_low hk h
theorem za_ans_bn {Tg Co : Nat → Int32} {x y : Nat} (h : za_pl Tg Co x y = true) (v : Nat) (hv : v < 24) (hb : bt (Tg (za_ot Tg Co x y * 4 + za_lb Tg Co x y)) v = true) : za_bn Tg Co (za_to Tg Co x y) v < za_bn Tg Co x y := by
  obtain ⟨h1, h2⟩ := za_pl_iff.mp h
  have := za_bn_le (show za_bn Tg Co x y - 1 < 24 by omega) (za_fa_at h v hv hb)
  omega
theorem za_next_bn {Tg Co : Nat → Int32} {x y : Nat} (h : za_pl Tg Co x y = true) (ha : ¬ za_an Tg Co x y = 24) : za_bn Tg Co (za_x1 Tg Co x y) (za_y1 Tg Co x y) < za_bn Tg Co x y ∧ za_x1 Tg Co x y < 24 ∧ za_y1 Tg Co x y < 24 ∧ za_an Tg Co x y < 24 := by
  have hb := (za_bs_lt (Tg (za_ot Tg Co x y * 4 + za_lb Tg Co x y)) (za_bn Tg Co (za_to Tg Co x y)) 24).resolve_left ha
  have hlt : za_bn Tg Co (za_to Tg Co x y) (za_an Tg Co x y) < za_bn Tg Co x y := za_ans_bn h _ hb.1 hb.2
  have h24 : za_an Tg Co x y < 24 := hb.1
  have ht := za_to_lt (Tg := Tg) (Co := Co) x y
  unfold za_x1 za_y1
  by_cases g : za_mi Tg Co x y = true
  · rw [if_pos g, if_pos g]
    exact ⟨hlt, ht, h24, h24⟩
  · rw [if_neg g, if_neg g, za_bn_symm]
    exact ⟨hlt, h24, ht, h24⟩
theorem za_tr_in {Tg Co : Nat → Int32} {s t : Nat} (hs : s < 24) (ht : t < 24) (q : Nat) : (za_tr Tg Co s t q).2.1 < 24 ∧ (za_tr Tg Co s t q).2.2 < 24 ∧ ((za_tr Tg Co s t q).1 = true → za_pl Tg Co (za_tr Tg Co s t q).2.1 (za_tr Tg Co s t q).2.2 = true ∧ q + za_bn Tg Co (za_tr Tg Co s t q).2.1 (za_tr Tg Co s t q).2.2 < 24) := by
  induction q with
  | zero =>
    rw [za_tr0]
    dsimp only
    refine ⟨hs, ht, fun h => ⟨h, ?_⟩⟩
    have := (za_pl_iff.mp h).1
    omega
  | succ q ih =>
    obtain ⟨i1, i2, i3⟩ := ih
    rw [za_tr]
    split
    · rename_i g
      obtain ⟨j1, j2⟩ := i3 g.1
      obtain ⟨k1, k2, k3, -⟩ := za_next_bn j1 g.2
      dsimp only
      exact ⟨k2, k3, fun h => ⟨h, by omega⟩⟩
    · dsimp only
      exact ⟨i1, i2, fun h => by cases h⟩
theorem za_pn_lt {Tg Co : Nat → Int32} {s t : Nat} (hs : s < 24) (ht : t < 24) : za_pn Tg Co s t < 24 := by
  have hle : za_pn Tg Co s t ≤ 24 := za_fi_le _ _
  rcases Nat.lt_or_ge (za_pn Tg Co s t) 24 with g | g
  · exact g
  · have h := za_fi_lt (p := fun q => (za_tr Tg Co s t q).1) (n := 24) (j := 23) (by unfold za_pn at g; omega)
    obtain ⟨-, -, i3⟩ := za_tr_in (Tg := Tg) (Co := Co) hs ht 23
    obtain ⟨j1, j2⟩ := i3 h
    have := (za_pl_iff.mp j1).2
    omega
/-- the class's attacks are these -/
theorem za_att_at {Tg Co Rw : Nat → Int32} {a b l u k : Nat} (hR : za_row Tg Co Rw k) (hu : u < 24) : za_att Tg Rw a b l u k = (bt (Tg (a * 4 + l)) u && !za_ex (fun v => bt (Tg (b * 4 + l)) v && za_ak Tg Co k u v) 24) := by
  unfold za_att
  congr 1
  apply za_bool
  rw [decide_eq_true_eq, Bool.not_eq_true']
  constructor
  · intro h
    cases e : za_ex (fun v => bt (Tg (b * 4 + l)) v && za_ak Tg Co k u v) 24 with
    | false => rfl
    | true =>
      obtain ⟨v, hv, g⟩ := za_ex_iff.mp e
      rw [Bool.and_eq_true] at g
      have z := congrArg (fun w => bt w v) h
      simp only [b_and, b_0, za_row_bit hR hu hv, g.1, g.2] at z
      cases z
  · intro h
    refine b_ext (fun i hi => ?_)
    rw [b_and, b_0, hR u hu, za_mk_bit _ 24 (by omega)]
    by_cases g : i < 24
    · cases e : za_ak Tg Co k u i with
      | false => simp
      | true =>
        cases e2 : bt (Tg (b * 4 + l)) i with
        | false => simp
        | true =>
          have z := (za_ex_iff (p := fun v => bt (Tg (b * 4 + l)) v && za_ak Tg Co k u v) (n := 24)).mpr ⟨i, g, by simp only [e, e2, Bool.and_self]⟩
          rw [h] at z
          cases z
    · rw [decide_eq_false g]; simp
theorem za_atm_of {Tg Co Rw : Nat → Int32} {a b k m : Nat} (hR : za_row Tg Co Rw k) : za_atm Tg Rw a b k m = za_at Tg Co a b k m := by
  unfold za_atm za_at
  exact za_att_at hR (by omega)
theorem za_bn_lr {Tg Co Rw Kd : Nat → Int32} {lr kc s t : Nat} (h : za_like Tg Co Rw lr Kd kc) (hs : s < 24) (ht : t < 24) (hb : za_bn Tg Co s t < 24) : za_bn Tg Co s t ≤ lr := by
  unfold za_bn at hb ⊢
  rcases za_fi_of_like h hs ht with ⟨a, b⟩ | ⟨a, b⟩
  · omega
  · omega
theorem za_bv_bn {Tg Co : Nat → Int32} (s t : Nat) : za_bv Tg Co s t = if za_bn Tg Co s t < 24 then nI (za_bn Tg Co s t) else (-1) := rfl
theorem za_bvk_t {Tg Co : Nat → Int32} {s t : Nat} (h : 0 ≤ za_bv Tg Co s t - nI 1) : za_pl Tg Co s t = true ∧ za_bv Tg Co s t - nI 1 = nI (za_bn Tg Co s t - 1) ∧ za_bn Tg Co s t < 24 ∧ 0 < za_bn Tg Co s t := by
  rw [za_bv_bn] at h ⊢
  by_cases g : za_bn Tg Co s t < 24
  · rw [if_pos g] at h ⊢
    by_cases z : 0 < za_bn Tg Co s t
    · exact ⟨za_pl_iff.mpr ⟨g, z⟩, pk_sub (by omega), g, z⟩
    · rw [show za_bn Tg Co s t = 0 by omega] at h
      exact absurd h (by decide)
  · rw [if_neg g] at h
    exact absurd h (by decide)
theorem za_bvk_f {Tg Co : Nat → Int32} {s t : Nat} (h : ¬ 0 ≤ za_bv Tg Co s t - nI 1) : za_pl Tg Co s t = false := by
  cases e : za_pl Tg Co s t with
  | false => rfl
  | true =>
    obtain ⟨g, z⟩ := za_pl_iff.mp e
    rw [za_bv_bn, if_pos g, pk_sub (by omega)] at h
    exact absurd (nI_pos' (by omega)) h
def za_ac (Tg Co : Nat → Int32) (s t : Nat) : Int32 := if za_pl Tg Co s t = true then nI (za_cn (za_at Tg Co s t (za_bn Tg Co s t - 1)) 96 + za_cn (za_at Tg Co t s (za_bn Tg Co s t - 1)) 96) else nI 0
theorem za_ac_of {Tg Co Rw Kd : Nat → Int32} {lr kc s t : Nat} (h : za_like Tg Co Rw lr Kd kc) (hs : s < 24) (ht : t < 24) (hp : za_pl Tg Co s t = true) : nI (za_cn (za_atm Tg Rw s t (za_bn Tg Co s t - 1)) 96 + za_cn (za_atm Tg Rw t s (za_bn Tg Co s t - 1)) 96) = za_ac Tg Co s t := by
  obtain ⟨g, z⟩ := za_pl_iff.mp hp
  have hl := za_bn_lr h hs ht g
  unfold za_ac
  rw [if_pos hp, za_cn_congr (fun m _ => za_atm_of (h.2.1 (za_bn Tg Co s t - 1) (by omega))), za_cn_congr (p := za_atm Tg Rw t s (za_bn Tg Co s t - 1)) (fun m _ => za_atm_of (h.2.1 (za_bn Tg Co s t - 1) (by omega)))]
theorem za_fi_split {p : Nat → Bool} {n m : Nat} (h : n ≤ m) (h1 : za_fi p m < n) : za_fi p n = za_fi p m := za_fi_at h1 (fun j hj => za_fi_lt hj) (za_fi_f (by omega))
/-- the first attack by s, or by t: as the class looks for it -/
theorem za_fo_1 {Tg Co Rw : Nat → Int32} {x y : Nat} (hR : za_row Tg Co Rw (za_bn Tg Co x y - 1)) (h : ¬ za_fo Tg Rw x y (za_bn Tg Co x y - 1) = (-1)) : za_mi Tg Co x y = true ∧ za_fo Tg Rw x y (za_bn Tg Co x y - 1) = nI (za_lb Tg Co x y * 100 + za_to Tg Co x y) := by
  have e : za_fi (fun z => !za_atm Tg Rw x y (za_bn Tg Co x y - 1) z) 96 = za_fi (fun z => !za_fq Tg Co x y z) 96 := za_fi_congr (fun m hm => by unfold za_fq; rw [if_pos hm, za_atm_of hR])
  unfold za_fo at h ⊢
  rw [e] at h ⊢
  by_cases g : za_fi (fun z => !za_fq Tg Co x y z) 96 < 96
  · have e2 : za_fa Tg Co x y = za_fi (fun z => !za_fq Tg Co x y z) 96 := za_fi_at (p := fun z => !za_fq Tg Co x y z) (by omega) (fun j hj => za_fi_lt (p := fun z => !za_fq Tg Co x y z) hj) (za_fi_f (p := fun z => !za_fq Tg Co x y z) g)
    rw [if_pos g]
    unfold za_mi za_lb za_to
    rw [e2]
    exact ⟨decide_eq_true g, by rw [show za_fi (fun z => !za_fq Tg Co x y z) 96 % 96 = za_fi (fun z => !za_fq Tg Co x y z) 96 by omega]⟩
  · rw [if_neg g] at h
    exact absurd rfl h
theorem za_fo_2 {Tg Co Rw : Nat → Int32} {x y : Nat} (hR : za_row Tg Co Rw (za_bn Tg Co x y - 1)) (hp : za_pl Tg Co x y = true) (h : za_fo Tg Rw x y (za_bn Tg Co x y - 1) = (-1)) : za_mi Tg Co x y = false ∧ za_fo Tg Rw y x (za_bn Tg Co x y - 1) = nI (za_lb Tg Co x y * 100 + za_to Tg Co x y) := by
  have hlt := za_fa_lt hp
  have hge : 96 ≤ za_fa Tg Co x y := by
    rcases Nat.lt_or_ge (za_fa Tg Co x y) 96 with g | g
    · exfalso
      have e1 : za_fi (fun z => !za_fq Tg Co x y z) 96 = za_fa Tg Co x y := za_fi_split (by omega) g
      have e : za_fi (fun z => !za_atm Tg Rw x y (za_bn Tg Co x y - 1) z) 96 = za_fi (fun z => !za_fq Tg Co x y z) 96 := za_fi_congr (fun m hm => by unfold za_fq; rw [if_pos hm, za_atm_of hR])
      unfold za_fo at h
      rw [e, e1, if_pos g] at h
      exact za_m1 (by omega) h
    · exact g
  have e3 : za_fi (fun z => !za_atm Tg Rw y x (za_bn Tg Co x y - 1) z) 96 = za_fa Tg Co x y - 96 := by
    refine za_fi_at (by omega) (fun j hj => ?_) ?_
    · have z := za_fi_lt (p := fun z => !za_fq Tg Co x y z) (n := 192) (j := j + 96) (by show j + 96 < za_fa Tg Co x y; omega)
      unfold za_fq at z
      rw [if_neg (by omega), show j + 96 - 96 = j by omega] at z
      show (!za_atm Tg Rw y x (za_bn Tg Co x y - 1) j) = true
      rw [za_atm_of hR]
      exact z
    · have z : (!za_fq Tg Co x y (za_fa Tg Co x y)) = false := za_fi_f (p := fun z => !za_fq Tg Co x y z) (n := 192) hlt
      unfold za_fq at z
      rw [if_neg (by omega)] at z
      show (!za_atm Tg Rw y x (za_bn Tg Co x y - 1) (za_fa Tg Co x y - 96)) = false
      rw [za_atm_of hR]
      exact z
  unfold za_fo za_mi za_lb za_to
  rw [e3, if_pos (by omega), show za_fa Tg Co x y % 96 = za_fa Tg Co x y - 96 by omega, show (za_fa Tg Co x y - 96) % 24 = za_fa Tg Co x y % 24 by omega]
  exact ⟨decide_eq_false (by omega), rfl⟩
/-- the best answer, as the class finds it -/
theorem za_ba_of {w : Int32} {B : Nat → Nat} {P : Nat → Int32} {n : Nat} (hn : n ≤ 24) (h : ∀ v, v < n → bt w v = true → P v = nI (B v) ∧ B v < 24) : za_ba w P n = (za_ai (za_bs w B n), if za_bs w B n = 24 then (-1) else nI (B (za_bs w B n))) ∧ (za_bs w B n = 24 ∨ (za_bs w B n < n ∧ bt w (za_bs w B n) = true)) := by
  induction n with
  | zero => exact ⟨rfl, Or.inl rfl⟩
  | succ n ih =>
    obtain ⟨i1, i2⟩ := ih (by omega) (fun v hv => h v (by omega))
    have hlt := za_bs_lt w B (n + 1)
    refine ⟨?_, hlt⟩
    rw [za_ba, i1]
    by_cases g : bt w n = true
    · obtain ⟨g1, g2⟩ := h n (by omega) g
      rw [if_pos g, g1]
      by_cases z : za_bs w B n = 24
      · have e : za_bs w B (n + 1) = n := by rw [za_bs, if_pos ⟨g, Or.inl z⟩]
        rw [e, if_neg (by show ¬ nI (B n) ≤ (if za_bs w B n = 24 then (-1 : Int32) else _); rw [if_pos z]; intro q; exact absurd (Int32.le_iff_toInt_le.mp q) (by rw [nI_toInt (by omega), show (-1 : Int32).toInt = -1 by decide]; omega))]
        unfold za_ai
        rw [if_neg (by omega), if_neg (by omega)]
      · rcases i2 with y | y
        · exact absurd y z
        · obtain ⟨b1, b2⟩ := h _ (show za_bs w B n < n + 1 by omega) y.2
          show (if nI (B n) ≤ (if za_bs w B n = 24 then (-1 : Int32) else nI (B (za_bs w B n))) then _ else _) = _
          rw [if_neg z]
          by_cases q : B (za_bs w B n) < B n
          · have e : za_bs w B (n + 1) = n := by rw [za_bs, if_pos ⟨g, Or.inr q⟩]
            rw [if_neg (nI_ge q (by omega)), e]
            unfold za_ai
            rw [if_neg (by omega), if_neg (by omega)]
          · have e : za_bs w B (n + 1) = za_bs w B n := by rw [za_bs, if_neg (by rintro ⟨-, c | c⟩ <;> contradiction)]
            rw [if_pos (nI_le (by omega) (by omega)), e, if_neg z]
    · have e : za_bs w B (n + 1) = za_bs w B n := by rw [za_bs, if_neg (fun c => g c.1)]
      rw [if_neg g, e, if_pos]
      show (-1 : Int32) ≤ (if za_bs w B n = 24 then (-1) else nI (B (za_bs w B n)))
      split
      · decide
      · rename_i z
        rcases i2 with y | y
        · exact absurd y z
        · obtain ⟨b1, b2⟩ := h _ (show za_bs w B n < n + 1 by omega) y.2
          refine Int32.le_iff_toInt_le.mpr ?_
          rw [nI_toInt (by omega), show (-1 : Int32).toInt = -1 by decide]
          omega
theorem za_best {Tg Co Rw Kd : Nat → Int32} {lr kc x y e0 : Nat} (h : za_like Tg Co Rw lr Kd kc) (hp : za_pl Tg Co x y = true) (he : e0 = za_lb Tg Co x y * 100 + za_to Tg Co x y) : (za_ba (Tg (za_ot Tg Co x y * 4 + e0 / 100)) (fun z => za_ff (fun q => bt (Rw (q * 24 + e0 % 100)) z) (lr + 1)) 24).1 = za_ai (za_an Tg Co x y) := by
  have hlb := za_lb_lt (Tg := Tg) (Co := Co) x y
  have hto := za_to_lt (Tg := Tg) (Co := Co) x y
  rw [show e0 / 100 = za_lb Tg Co x y by omega, show e0 % 100 = za_to Tg Co x y by omega]
  rw [(za_ba_of (B := za_bn Tg Co (za_to Tg Co x y)) (Nat.le_refl _) (fun v hv hb => ?_)).1]
  · rfl
  · have g := za_ans_bn hp v hv hb
    have g2 := (za_pl_iff.mp hp).1
    refine ⟨?_, by omega⟩
    show za_ff (fun q => bt (Rw (q * 24 + za_to Tg Co x y)) v) (lr + 1) = _
    rw [za_bv_of h hto hv, za_bv_bn, if_pos (by omega)]
theorem za_ai_m1 {j : Nat} (hj : j ≤ 24) : za_ai j = (-1) ↔ j = 24 := by
  unfold za_ai
  by_cases h : j = 24
  · rw [if_pos h]; exact ⟨fun _ => h, fun _ => rfl⟩
  · rw [if_neg h]; exact ⟨fun q => absurd q (za_m1 (by omega)), fun q => absurd q h⟩
theorem za_an_le {Tg Co : Nat → Int32} (x y : Nat) : za_an Tg Co x y ≤ 24 := by
  rcases za_bs_lt (Tg (za_ot Tg Co x y * 4 + za_lb Tg Co x y)) (za_bn Tg Co (za_to Tg Co x y)) 24 with h | h
  · exact Nat.le_of_eq h
  · exact Nat.le_of_lt h.1
def za_l1 (Tg Co : Nat → Int32) (x y j : Nat) : Nat := if za_pl Tg Co x y = true then j + 1 else j
def za_M1 (Tg Co : Nat → Int32) (x y j : Nat) (Md : Nat → Int32) : Nat → Int32 := if za_pl Tg Co x y = true then upd Md j (nI (za_cd9 Tg Co x y)) else Md
def za_A1 (Tg Co : Nat → Int32) (x y j : Nat) (An : Nat → Int32) : Nat → Int32 := if za_pl Tg Co x y = true then upd An j (za_ai (za_an Tg Co x y)) else An
def za_go (Tg Co : Nat → Int32) (x y : Nat) : Bool := za_pl Tg Co x y && !decide (za_an Tg Co x y = 24)
theorem za_once1 {Tg Co Sd : Nat → Int32} {x y sd0 : Nat} (hside : sd0 = (if za_mi Tg Co x y = true then 0 else 1)) (h0 : Sd 0 = nI x) (h1 : Sd 1 = nI y) : Sd (1 - sd0) = nI (za_ot Tg Co x y) := by
  by_cases g : za_mi Tg Co x y = true
  · rw [if_pos g] at hside
    have e : za_ot Tg Co x y = y := by unfold za_ot; rw [if_pos g]
    rw [hside, e]; exact h1
  · rw [if_neg g] at hside
    have e : za_ot Tg Co x y = x := by unfold za_ot; rw [if_neg g]
    rw [hside, e]; exact h0
theorem za_once2 {Tg Co : Nat → Int32} {x y sd0 e0 : Nat} (hside : sd0 = (if za_mi Tg Co x y = true then 0 else 1)) (he : e0 = za_lb Tg Co x y * 100 + za_to Tg Co x y) : nI (za_cd9 Tg Co x y) = nI (sd0 * 1000 + e0) := by
  by_cases g : za_mi Tg Co x y = true
  · rw [if_pos g] at hside
    have e : za_cd9 Tg Co x y = 0 + 100 * za_lb Tg Co x y + za_to Tg Co x y := by unfold za_cd9; rw [if_pos g]
    rw [hside, e, he]; exact congrArg nI (by omega)
  · rw [if_neg g] at hside
    have e : za_cd9 Tg Co x y = 1000 + 100 * za_lb Tg Co x y + za_to Tg Co x y := by unfold za_cd9; rw [if_neg g]
    rw [hside, e, he]; exact congrArg nI (by omega)
theorem za_once3 {Tg Co Sd : Nat → Int32} {x y sd0 e0 : Nat} (hside : sd0 = (if za_mi Tg Co x y = true then 0 else 1)) (he : e0 = za_lb Tg Co x y * 100 + za_to Tg Co x y) (ha : ¬ za_an Tg Co x y = 24) : upd (upd Sd sd0 (nI (e0 % 100))) (1 - sd0) (za_ai (za_an Tg Co x y)) 0 = nI (za_x1 Tg Co x y) ∧ upd (upd Sd sd0 (nI (e0 % 100))) (1 - sd0) (za_ai (za_an Tg Co x y)) 1 = nI (za_y1 Tg Co x y) := by
  have hto := za_to_lt (Tg := Tg) (Co := Co) x y
  have e1 : e0 % 100 = za_to Tg Co x y := by omega
  rw [e1]
  have ea : za_ai (za_an Tg Co x y) = nI (za_an Tg Co x y) := by unfold za_ai; rw [if_neg ha]
  rw [ea]
  by_cases g : za_mi Tg Co x y = true
  · rw [if_pos g] at hside
    have x1 : za_x1 Tg Co x y = za_to Tg Co x y := by unfold za_x1; rw [if_pos g]
    have y1 : za_y1 Tg Co x y = za_an Tg Co x y := by unfold za_y1; rw [if_pos g]
    rw [hside, x1, y1]
    exact ⟨rfl, rfl⟩
  · rw [if_neg g] at hside
    have x1 : za_x1 Tg Co x y = za_an Tg Co x y := by unfold za_x1; rw [if_neg g]
    have y1 : za_y1 Tg Co x y = za_to Tg Co x y := by unfold za_y1; rw [if_neg g]
    rw [hside, x1, y1]
    exact ⟨rfl, rfl⟩
theorem za_play1 {Tg Co : Nat → Int32} {s t j : Nat} (hj : ∀ q, q < j → (za_tr Tg Co s t q).1 = true) (htl : (za_tr Tg Co s t j).1 = za_pl Tg Co (za_tr Tg Co s t j).2.1 (za_tr Tg Co s t j).2.2) : ∀ q, q < za_l1 Tg Co (za_tr Tg Co s t j).2.1 (za_tr Tg Co s t j).2.2 j → (za_tr Tg Co s t q).1 = true := by
  intro q hq
  unfold za_l1 at hq
  by_cases g : za_pl Tg Co (za_tr Tg Co s t j).2.1 (za_tr Tg Co s t j).2.2 = true
  · rw [if_pos g] at hq
    by_cases e : q = j
    · rw [e, htl]; exact g
    · exact hj q (by omega)
  · rw [if_neg g] at hq
    exact hj q hq
theorem za_play2 {Tg Co Mq : Nat → Int32} {s t j : Nat} (hM : ∀ q, q < j → Mq q = nI (za_cd9 Tg Co (za_tr Tg Co s t q).2.1 (za_tr Tg Co s t q).2.2)) : ∀ q, q < za_l1 Tg Co (za_tr Tg Co s t j).2.1 (za_tr Tg Co s t j).2.2 j → za_M1 Tg Co (za_tr Tg Co s t j).2.1 (za_tr Tg Co s t j).2.2 j Mq q = nI (za_cd9 Tg Co (za_tr Tg Co s t q).2.1 (za_tr Tg Co s t q).2.2) := by
  intro q hq
  unfold za_l1 at hq
  unfold za_M1
  by_cases g : za_pl Tg Co (za_tr Tg Co s t j).2.1 (za_tr Tg Co s t j).2.2 = true
  · rw [if_pos g] at hq ⊢
    unfold upd
    by_cases e : q = j
    · rw [if_pos e, e]
    · rw [if_neg e]; exact hM q (by omega)
  · rw [if_neg g] at hq ⊢
    exact hM q hq
theorem za_play3 {Tg Co Aq : Nat → Int32} {s t j : Nat} (hM : ∀ q, q < j → Aq q = za_ai (za_an Tg Co (za_tr Tg Co s t q).2.1 (za_tr Tg Co s t q).2.2)) : ∀ q, q < za_l1 Tg Co (za_tr Tg Co s t j).2.1 (za_tr Tg Co s t j).2.2 j → za_A1 Tg Co (za_tr Tg Co s t j).2.1 (za_tr Tg Co s t j).2.2 j Aq q = za_ai (za_an Tg Co (za_tr Tg Co s t q).2.1 (za_tr Tg Co s t q).2.2) := by
  intro q hq
  unfold za_l1 at hq
  unfold za_A1
  by_cases g : za_pl Tg Co (za_tr Tg Co s t j).2.1 (za_tr Tg Co s t j).2.2 = true
  · rw [if_pos g] at hq ⊢
    unfold upd
    by_cases e : q = j
    · rw [if_pos e, e]
    · rw [if_neg e]; exact hM q (by omega)
  · rw [if_neg g] at hq ⊢
    exact hM q hq
theorem za_go_iff {Tg Co : Nat → Int32} {x y : Nat} : za_go Tg Co x y = true ↔ za_pl Tg Co x y = true ∧ ¬ za_an Tg Co x y = 24 := by
  unfold za_go
  rw [Bool.and_eq_true, Bool.not_eq_true', decide_eq_false_iff_not]
theorem za_tr_go {Tg Co : Nat → Int32} {s t j : Nat} (htl : (za_tr Tg Co s t j).1 = za_pl Tg Co (za_tr Tg Co s t j).2.1 (za_tr Tg Co s t j).2.2) (h : za_go Tg Co (za_tr Tg Co s t j).2.1 (za_tr Tg Co s t j).2.2 = true) : za_l1 Tg Co (za_tr Tg Co s t j).2.1 (za_tr Tg Co s t j).2.2 j = j + 1 ∧ za_tr Tg Co s t (j + 1) = (za_pl Tg Co (za_x1 Tg Co (za_tr Tg Co s t j).2.1 (za_tr Tg Co s t j).2.2) (za_y1 Tg Co (za_tr Tg Co s t j).2.1 (za_tr Tg Co s t j).2.2), za_x1 Tg Co (za_tr Tg Co s t j).2.1 (za_tr Tg Co s t j).2.2, za_y1 Tg Co (za_tr Tg Co s t j).2.1 (za_tr Tg Co s t j).2.2) := by
  obtain ⟨h1, h2⟩ := za_go_iff.mp h
  refine ⟨by unfold za_l1; rw [if_pos h1], ?_⟩
  rw [za_tr, if_pos ⟨htl.trans h1, h2⟩]
theorem za_play4 {Tg Co Sd1 : Nat → Int32} {s t i j : Nat} (hij : i = j) (htl : (za_tr Tg Co s t j).1 = za_pl Tg Co (za_tr Tg Co s t j).2.1 (za_tr Tg Co s t j).2.2) (hq : za_go Tg Co (za_tr Tg Co s t j).2.1 (za_tr Tg Co s t j).2.2 = true → Sd1 0 = nI (za_x1 Tg Co (za_tr Tg Co s t j).2.1 (za_tr Tg Co s t j).2.2) ∧ Sd1 1 = nI (za_y1 Tg Co (za_tr Tg Co s t j).2.1 (za_tr Tg Co s t j).2.2)) (h : za_go Tg Co (za_tr Tg Co s t j).2.1 (za_tr Tg Co s t j).2.2 = true) : i + 1 = za_l1 Tg Co (za_tr Tg Co s t j).2.1 (za_tr Tg Co s t j).2.2 j ∧ Sd1 0 = nI (za_tr Tg Co s t (za_l1 Tg Co (za_tr Tg Co s t j).2.1 (za_tr Tg Co s t j).2.2 j)).2.1 ∧ Sd1 1 = nI (za_tr Tg Co s t (za_l1 Tg Co (za_tr Tg Co s t j).2.1 (za_tr Tg Co s t j).2.2 j)).2.2 := by
  obtain ⟨e1, e2⟩ := za_tr_go htl h
  rw [e1, e2]
  dsimp only
  exact ⟨by omega, (hq h).1, (hq h).2⟩
theorem za_play5 {Tg Co : Nat → Int32} {s t j : Nat} (htl : (za_tr Tg Co s t j).1 = za_pl Tg Co (za_tr Tg Co s t j).2.1 (za_tr Tg Co s t j).2.2) (h : za_go Tg Co (za_tr Tg Co s t j).2.1 (za_tr Tg Co s t j).2.2 = false) : (za_tr Tg Co s t (za_l1 Tg Co (za_tr Tg Co s t j).2.1 (za_tr Tg Co s t j).2.2 j)).1 = false := by
  by_cases g : za_pl Tg Co (za_tr Tg Co s t j).2.1 (za_tr Tg Co s t j).2.2 = true
  · have e : za_l1 Tg Co (za_tr Tg Co s t j).2.1 (za_tr Tg Co s t j).2.2 j = j + 1 := by unfold za_l1; rw [if_pos g]
    rw [e, za_tr, if_neg]
    rintro ⟨-, c⟩
    rw [za_go_iff.mpr ⟨g, c⟩] at h
    cases h
  · have e : za_l1 Tg Co (za_tr Tg Co s t j).2.1 (za_tr Tg Co s t j).2.2 j = j := by unfold za_l1; rw [if_neg g]
    rw [e, htl]
    simpa using g
theorem za_play6 {Tg Co : Nat → Int32} {s t j : Nat} (htl : (za_tr Tg Co s t j).1 = za_pl Tg Co (za_tr Tg Co s t j).2.1 (za_tr Tg Co s t j).2.2) (h : za_go Tg Co (za_tr Tg Co s t j).2.1 (za_tr Tg Co s t j).2.2 = true) (_ : 0 < za_l1 Tg Co (za_tr Tg Co s t j).2.1 (za_tr Tg Co s t j).2.2 j) : (za_tr Tg Co s t (za_l1 Tg Co (za_tr Tg Co s t j).2.1 (za_tr Tg Co s t j).2.2 j)).1 = za_pl Tg Co (za_tr Tg Co s t (za_l1 Tg Co (za_tr Tg Co s t j).2.1 (za_tr Tg Co s t j).2.2 j)).2.1 (za_tr Tg Co s t (za_l1 Tg Co (za_tr Tg Co s t j).2.1 (za_tr Tg Co s t j).2.2 j)).2.2 := by
  obtain ⟨e1, e2⟩ := za_tr_go htl h
  rw [e1, e2]
theorem za_tr23 {Tg Co : Nat → Int32} {s t : Nat} (hs : s < 24) (ht : t < 24) : ¬ (za_tr Tg Co s t 23).1 = true := by
  intro h
  obtain ⟨-, -, i3⟩ := za_tr_in (Tg := Tg) (Co := Co) hs ht 23
  obtain ⟨j1, j2⟩ := i3 h
  have := (za_pl_iff.mp j1).2
  omega
theorem za_play8 {Tg Co : Nat → Int32} {s t j : Nat} (hs : s < 24) (ht : t < 24) (hj : ∀ q, q < j → (za_tr Tg Co s t q).1 = true) (h : (za_tr Tg Co s t j).1 = false) : j = za_pn Tg Co s t := by
  rcases Nat.lt_or_ge j 24 with g | g
  · exact (za_fi_at g hj h).symm
  · exact absurd (hj 23 (by omega)) (za_tr23 hs ht)
theorem za_play7 {Tg Co : Nat → Int32} {s t i j : Nat} {g : Bool} (hs : s < 24) (ht : t < 24) (hj : ∀ q, q < j → (za_tr Tg Co s t q).1 = true) (hgi : g = true → i = j) (hg2 : g = false → (za_tr Tg Co s t j).1 = false) (hi : 24 ≤ i) : j = za_pn Tg Co s t := by
  cases g with
  | true =>
    have := hgi rfl
    exact absurd (hj 23 (by omega)) (za_tr23 hs ht)
  | false => exact za_play8 hs ht hj (hg2 rfl)
end
section
/-! answers of the last promises -/
theorem za_cn_more {p : Nat → Bool} {n m : Nat} (h : n ≤ m) (hp : ∀ i, n ≤ i → i < m → p i = false) : za_cn p m = za_cn p n := by
  induction m with
  | zero => rw [show n = 0 by omega]
  | succ m ih =>
    by_cases e : n = m + 1
    · rw [e]
    · rw [za_cn, if_neg (by rw [hp m (by omega) (by omega)]; decide), ih (by omega) (fun i h1 h2 => hp i h1 (by omega))]
theorem za_pc_mk (p : Nat → Bool) : za_pc (za_mk p 24) = za_cn p 24 := by
  unfold za_pc
  rw [za_cn_more (n := 24) (by omega) (fun i h1 h2 => by rw [za_mk_bit _ 24 (by omega), decide_eq_false (by omega)]; rfl)]
  exact za_cn_congr (fun i hi => by rw [za_mk_bit _ 24 (by omega), decide_eq_true hi, Bool.true_and])
/-- attack i of the play, its answer: -1 where there is none -/
def za_ok9 (Tg Co : Nat → Int32) (w v x0 : Int32) : Bool := (za_isS w && za_isS v) && (!decide (x0 < 0) && decide (za_clp x0 < za_pn Tg Co (za_clp w) (za_clp v)))
def za_kv (Tg Co : Nat → Int32) (w v x0 : Int32) : Int32 := if za_ok9 Tg Co w v x0 = true then nI (za_cd9 Tg Co (za_tr Tg Co (za_clp w) (za_clp v) (za_clp x0)).2.1 (za_tr Tg Co (za_clp w) (za_clp v) (za_clp x0)).2.2) else (-1)
def za_wv9 (Tg Co : Nat → Int32) (w v x0 : Int32) : Int32 := if za_ok9 Tg Co w v x0 = true then za_ai (za_an Tg Co (za_tr Tg Co (za_clp w) (za_clp v) (za_clp x0)).2.1 (za_tr Tg Co (za_clp w) (za_clp v) (za_clp x0)).2.2) else (-1)
def za_pnv (Tg Co : Nat → Int32) (w v : Int32) : Nat := if (za_isS w && za_isS v) = true then za_pn Tg Co (za_clp w) (za_clp v) else 0
theorem za_pnv_lt (Tg Co : Nat → Int32) (w v : Int32) : za_pnv Tg Co w v < 24 := by
  unfold za_pnv
  split
  · rename_i h
    obtain ⟨⟨s, hs, rfl⟩, t, ht, rfl⟩ := za_isSS_of h
    rw [za_clS hs, za_clS ht]
    exact za_pn_lt hs ht
  · omega
theorem za_ok9_f1 {Tg Co : Nat → Int32} {w v x0 : Int32} (h : x0 < 0) : za_ok9 Tg Co w v x0 = false := by
  unfold za_ok9
  rw [decide_eq_true h]
  simp
theorem za_ok9_f2 {Tg Co : Nat → Int32} {w v x0 : Int32} (h0 : ¬ x0 < 0) (h : nI (za_pnv Tg Co w v) ≤ x0) : za_ok9 Tg Co w v x0 = false := by
  obtain ⟨j, hj, rfl⟩ := nI_of h0
  have hb := za_pnv_lt Tg Co w v
  have h2 := (nI_leI (by omega) hj).mp h
  unfold za_ok9
  unfold za_pnv at h2
  by_cases g : (za_isS w && za_isS v) = true
  · rw [if_pos g] at h2
    rw [g, show za_clp (nI j) = j from nI_clamp hj, decide_eq_false (show ¬ j < za_pn Tg Co (za_clp w) (za_clp v) by omega)]
    simp
  · rw [show (za_isS w && za_isS v) = false by simpa using g, Bool.false_and]
theorem za_ok9_t {Tg Co : Nat → Int32} {w v x0 : Int32} (h0 : ¬ x0 < 0) (h : ¬ nI (za_pnv Tg Co w v) ≤ x0) : za_ok9 Tg Co w v x0 = true ∧ (za_isS w && za_isS v) = true ∧ ∃ j : Nat, j < za_pn Tg Co (za_clp w) (za_clp v) ∧ j < 24 ∧ x0 = nI j ∧ za_clp x0 = j := by
  obtain ⟨j, hj, rfl⟩ := nI_of h0
  have hb := za_pnv_lt Tg Co w v
  have h2 : j < za_pnv Tg Co w v := Nat.lt_of_not_le (fun q => h (nI_le q hj))
  have hc : za_clp (nI j) = j := nI_clamp hj
  by_cases g : (za_isS w && za_isS v) = true
  · have h3 := h2
    unfold za_pnv at h3
    rw [if_pos g] at h3
    refine ⟨?_, g, j, h3, by omega, rfl, hc⟩
    unfold za_ok9
    rw [g, hc, decide_eq_false h0, decide_eq_true h3]
    rfl
  · unfold za_pnv at h2
    rw [if_neg g] at h2
    exact absurd h2 (Nat.not_lt_zero _)
end
section
/-! the reference's answers are the class's -/
theorem za_brs_at {Tg Co Br : Nat → Int32} {s t : Nat} (h : za_brs Tg Co Br) (hs : s < 24) (ht : t < 24) (ha : za_ak Tg Co 23 s t = false) : Br (24 * s + t) = nI (za_bn Tg Co s t) ∧ za_bn Tg Co s t < 24 := by
  refine ⟨?_, (za_lowk hs ht ha).2⟩
  rw [h _ (by omega)]
  unfold za_vb
  rw [show (24 * s + t) / 24 = s by omega, show (24 * s + t) % 24 = t by omega, if_neg (by rw [ha]; decide)]
  rfl
theorem za_brs_bv {Tg Co Br : Nat → Int32} {s t : Nat} (h : za_brs Tg Co Br) (hs : s < 24) (ht : t < 24) (ha : za_ak Tg Co 23 s t = false) : Br (24 * s + t) = za_bv Tg Co s t := by
  obtain ⟨h1, h2⟩ := za_brs_at h hs ht ha
  rw [h1, za_bv_bn, if_pos h2]
theorem za_bn_al {Tg Co : Nat → Int32} {s t : Nat} (h : za_bn Tg Co s t < 24) : za_ak Tg Co 23 s t = false := by
  cases e : za_ak Tg Co 23 s t with
  | false => rfl
  | true =>
    have z := za_fi_f (p := fun j => za_ak Tg Co j s t) (n := 24) h
    rw [za_ak_le (show za_fi (fun j => za_ak Tg Co j s t) 24 ≤ 23 by unfold za_bn at h; omega) e] at z
    cases z
theorem za_brs_bn {Tg Co Br : Nat → Int32} {s t : Nat} (h : za_brs Tg Co Br) (hs : s < 24) (ht : t < 24) (hp : za_bn Tg Co s t < 24) : Br (24 * s + t) = nI (za_bn Tg Co s t) := (za_brs_at h hs ht (za_bn_al hp)).1
theorem za_brs_bx {Tg Co Br : Nat → Int32} {k : Nat} (h : za_brs Tg Co Br) (hk : k < 24) : ∀ s t, s < 24 → t < 24 → (!decide (Br (24 * s + t) ≤ nI k)) = za_ak Tg Co k s t := by
  intro s t hs ht
  cases e : za_ak Tg Co 23 s t with
  | true =>
    rw [za_ak_le (show k ≤ 23 by omega) e, h _ (by omega)]
    unfold za_vb
    rw [show (24 * s + t) / 24 = s by omega, show (24 * s + t) % 24 = t by omega, if_pos e, decide_eq_false (nI_ge (by omega) (by omega))]
    rfl
  | false =>
    obtain ⟨h1, h2⟩ := za_brs_at h hs ht e
    rw [h1]
    by_cases g : k < za_bn Tg Co s t
    · have z : za_ak Tg Co k s t = true := za_fi_lt (p := fun j => za_ak Tg Co j s t) (n := 24) g
      rw [z, decide_eq_false (nI_ge g (by omega))]
      rfl
    · have z : za_ak Tg Co k s t = false := by
        cases y : za_ak Tg Co k s t with
        | false => rfl
        | true =>
          have f := za_fi_f (p := fun j => za_ak Tg Co j s t) (n := 24) h2
          rw [za_ak_le (show za_fi (fun j => za_ak Tg Co j s t) 24 ≤ k by unfold za_bn at g; omega) y] at f
          cases f
      rw [z, decide_eq_true (nI_le (by omega) (by omega))]
      rfl
theorem za_mat_at {Tg Co Br : Nat → Int32} {Mv : Nat → Bool} {s t k m : Nat} (hMv : za_rel Tg Mv) (h : za_brs Tg Co Br) (hk : k < 24) (hs : s < 24) (ht : t < 24) (hm : m < 96) : za_mat Mv Br s t m k = za_at Tg Co s t k m := by
  unfold za_mat za_at
  have e : 96 * s + m = 96 * s + 24 * (m / 24) + m % 24 := by omega
  rw [e, hMv s (m / 24) (m % 24) hs (by omega) (by omega), za_mans_ex hMv (za_brs_bx h hk) ht (by omega) (by omega)]
theorem za_or0 (x : Int32) : x ||| nI 0 = x := by
  refine b_ext (fun i _ => ?_)
  rw [b_or, show bt (nI 0) i = false from b_0 i, Bool.or_false]
theorem za_orA (x y z : Int32) : x ||| (y ||| z) = x ||| y ||| z := by
  refine b_ext (fun i _ => ?_)
  rw [b_or, b_or, b_or, b_or, Bool.or_assoc]
theorem za_ri_ka {Tg Mk Kd : Nat → Int32} {Mv : Nat → Bool} {w a : Int32} {l s n : Nat} (hMv : za_rel Tg Mv) (hK : ∀ x, x < 24 → Mk x = Kd x) (hs : s < 24) (hl : l < 4) (hn : n ≤ 24) : za_ri w l Mv Mk s a n = if Kd s = w then a ||| za_ka (Tg (s * 4 + l)) Kd n else a := by
  induction n with
  | zero =>
    rw [za_ri, za_ka, za_or0]
    split <;> rfl
  | succ n ih =>
    rw [za_ri, za_ka, ih (by omega), hMv s l n hs hl (by omega), hK s hs, hK n (by omega)]
    by_cases g : Kd s = w
    · by_cases z : bt (Tg (s * 4 + l)) n = true
      · rw [if_pos ⟨g, z⟩, if_pos g, if_pos g, if_pos z, za_orA]
      · rw [if_neg (fun q => z q.2), if_pos g, if_pos g, if_neg z]
    · rw [if_neg (fun q => g q.1), if_neg g, if_neg g]
theorem za_ro_kr {Tg Mk Kd : Nat → Int32} {Mv : Nat → Bool} {w : Int32} {l n : Nat} (hMv : za_rel Tg Mv) (hK : ∀ x, x < 24 → Mk x = Kd x) (hl : l < 4) (hn : n ≤ 24) : za_ro w l Mv Mk n = za_kr w l Tg Kd n := by
  induction n with
  | zero => rfl
  | succ n ih => rw [za_ro, za_kr, za_ri_ka hMv hK (by omega) hl (Nat.le_refl _), ih (by omega)]
theorem za_ro_rv {Tg Co Mk : Nat → Int32} {Mv : Nat → Bool} {w : Int32} {l : Nat} (hMv : za_rel Tg Mv) (hK : ∀ x, x < 24 → Mk x = za_kd Tg Co x) (hl : l < 4) : za_ro w l Mv Mk 24 = za_rv Tg Co w l := za_ro_kr hMv hK hl (Nat.le_refl _)
theorem za_kc_le (Tg Co : Nat → Int32) : za_kc Tg Co ≤ 24 := za_nk_le _ _ _
theorem za_nk2_mono {La : Nat → Nat} {Kd : Nat → Int32} {n m : Nat} (h : n ≤ m) : (za_nk La Kd n).2 ≤ (za_nk La Kd m).2 := by
  induction m with
  | zero => rw [show n = 0 by omega]; exact Nat.le_refl _
  | succ m ih =>
    by_cases e : n = m + 1
    · rw [e]; exact Nat.le_refl _
    · have := ih (by omega)
      by_cases g : La m = m
      · rw [za_nk_t g]; show _ ≤ _ + 1; omega
      · rw [za_nk_f g]; exact this
theorem za_kd_kc {Tg Co : Nat → Int32} {s : Nat} (hs : s < 24) : ∃ j : Nat, j < za_kc Tg Co ∧ za_kd Tg Co s = nI j := by
  have l := za_lc_le Tg Co s
  have e := za_lc_eq hs (show za_lc Tg Co s < 24 by omega) (za_lc_al hs)
  refine ⟨(za_nk (za_lc Tg Co) (fun _ => nI 0) (za_lc Tg Co s)).2, ?_, by rw [za_kd_lc hs, za_kd_new (by omega) e.symm]⟩
  have h1 : (za_nk (za_lc Tg Co) (fun _ => nI 0) (za_lc Tg Co s + 1)).2 = (za_nk (za_lc Tg Co) (fun _ => nI 0) (za_lc Tg Co s)).2 + 1 := by rw [za_nk_t e.symm]
  have h2 := za_nk2_mono (La := za_lc Tg Co) (Kd := fun _ => nI 0) (show za_lc Tg Co s + 1 ≤ 24 by omega)
  unfold za_kc
  omega
theorem za_ka_bit {Tg Co : Nat → Int32} {w : Int32} {n i : Nat} (hn : n ≤ 24) (hi : za_kc Tg Co ≤ i) (hi2 : i < 32) : bt (za_ka w (za_kd Tg Co) n) i = false := by
  induction n with
  | zero => exact b_0 i
  | succ n ih =>
    rw [za_ka]
    split
    · obtain ⟨j, hj, e⟩ := za_kd_kc (Tg := Tg) (Co := Co) (show n < 24 by omega)
      have hk := za_kc_le Tg Co
      rw [b_or, ih (by omega), e, b_shl j (by omega) (nI 1) hi2, za_1b (i - j) (by omega), decide_eq_false (show ¬ i - j = 0 by omega)]
      simp
    · exact ih (by omega)
theorem za_kr_bit {Tg Co : Nat → Int32} {w : Int32} {l n i : Nat} (hn : n ≤ 24) (hi : za_kc Tg Co ≤ i) (hi2 : i < 32) : bt (za_kr w l Tg (za_kd Tg Co) n) i = false := by
  induction n with
  | zero => exact b_0 i
  | succ n ih =>
    rw [za_kr]
    split
    · rw [b_or, ih (by omega), za_ka_bit (Nat.le_refl _) hi hi2]; rfl
    · exact ih (by omega)
def za_b01 (b : Bool) : Nat := if b = true then 1 else 0
theorem za_sm_cn (p : Nat → Bool) (n : Nat) : za_sm (fun z => za_b01 (p z)) n = za_cn p n := by
  induction n with
  | zero => rfl
  | succ n ih =>
    rw [za_sm, za_cn, ih]
    unfold za_b01
    split <;> rfl
theorem za_bit01 {w : Int32} {t : Nat} (ht : t < 32) : ((w >>> (nI t &&& 31)) &&& nI 1) = nI (za_b01 (bt w t)) := by
  refine b_ext (fun i hi => ?_)
  have e1 : bt ((w >>> (nI t &&& 31)) &&& nI 1) i = (decide (i = 0) && bt w t) := by
    rw [b_and, za_1b i hi, b_sshr t ht w hi]
    by_cases h0 : i = 0
    · subst h0
      simp [ht]
    · simp [h0]
  have e2 : bt (nI (za_b01 (bt w t))) i = (decide (i = 0) && bt w t) := by
    unfold za_b01
    cases e : bt w t with
    | true => rw [if_pos rfl, za_1b i hi, Bool.and_true]
    | false =>
      have z : bt (nI 0) i = false := b_0 i
      rw [if_neg (by decide), z, Bool.and_false]
  rw [e1, e2]
def za_lks (Tg Co : Nat → Int32) : Nat := za_sm (fun k => za_sm (fun l => za_cn (bt (za_rv Tg Co (nI k) l)) (za_kc Tg Co)) 4) (za_kc Tg Co)
theorem za_sm_congr {f g : Nat → Nat} {n : Nat} (h : ∀ i, i < n → f i = g i) : za_sm f n = za_sm g n := by
  induction n with
  | zero => rfl
  | succ n ih => rw [za_sm, za_sm, ih (fun i hi => h i (by omega)), h n (by omega)]
theorem za_pc_rv {Tg Co : Nat → Int32} {w : Int32} {l : Nat} : za_pc (za_rv Tg Co w l) = za_cn (bt (za_rv Tg Co w l)) (za_kc Tg Co) := by
  have hk := za_kc_le Tg Co
  unfold za_pc
  exact za_cn_more (by omega) (fun i h1 h2 => za_kr_bit (Nat.le_refl _) h1 h2)
theorem za_lks_of {Tg Co Kd : Nat → Int32} (hK : ∀ s, s < 24 → Kd s = za_kd Tg Co s) : za_sm (fun k => za_sm (fun l => za_pc (za_kr (nI k) l Tg Kd 24)) 4) (za_kc Tg Co) = za_lks Tg Co := by
  unfold za_lks
  refine za_sm_congr (fun k _ => za_sm_congr (fun l _ => ?_))
  rw [za_kr_congr hK (Nat.le_refl _)]
  exact za_pc_rv
def za_isp (Tg Co : Nat → Int32) (w v : Int32) : Bool := (za_isS w && za_isS v) && za_pl Tg Co (za_clp w) (za_clp v)
def za_asum (Tg Co : Nat → Int32) (w v : Int32) (i : Nat) : Nat := if za_isp Tg Co w v = true then za_cn (za_at Tg Co (za_clp w) (za_clp v) (za_bn Tg Co (za_clp w) (za_clp v) - 1)) i + za_cn (za_at Tg Co (za_clp v) (za_clp w) (za_bn Tg Co (za_clp w) (za_clp v) - 1)) i else 0
theorem za_isp_of {Tg Co : Nat → Int32} {w v : Int32} (h : za_isp Tg Co w v = true) : (∃ s : Nat, s < 24 ∧ w = nI s) ∧ (∃ t : Nat, t < 24 ∧ v = nI t) ∧ za_pl Tg Co (za_clp w) (za_clp v) = true := by
  unfold za_isp at h
  rw [Bool.and_eq_true] at h
  obtain ⟨h1, h2⟩ := za_isSS_of h.1
  exact ⟨h1, h2, h.2⟩
theorem za_isp_pl {Tg Co : Nat → Int32} {w v : Int32} {s t : Nat} (h : za_pl Tg Co (za_clp w) (za_clp v) = true) (hw : w = nI s) (hv : v = nI t) (hs : s < 24) (ht : t < 24) : za_pl Tg Co s t = true := by
  rw [hw, hv, za_clS hs, za_clS ht] at h
  exact h
theorem za_isp1 {Tg Co : Nat → Int32} {w v : Int32} {s t : Nat} (hw : w = nI s) (hv : v = nI t) (hs : s < 24) (ht : t < 24) (h : za_ak Tg Co 23 s t = true) : za_isp Tg Co w v = false := by
  unfold za_isp
  rw [hw, hv, za_clS hs, za_clS ht]
  cases e : za_pl Tg Co s t with
  | false => rw [Bool.and_false]
  | true =>
    have := za_bn_al (za_pl_iff.mp e).1
    rw [h] at this
    cases this
theorem za_isp2 {Tg Co : Nat → Int32} {w v : Int32} {s t : Nat} (hw : w = nI s) (hv : v = nI t) (hs : s < 24) (ht : t < 24) (h1 : za_ak Tg Co 23 s t = false) (h : nI (za_bn Tg Co s t) ≤ 0) : za_isp Tg Co w v = false := by
  have hb := (za_lowk hs ht h1).2
  have hb : za_bn Tg Co s t < 24 := hb
  have h2 := (nI_leI (show za_bn Tg Co s t < 2 ^ 31 by omega) (show 0 < 2 ^ 31 by omega)).mp h
  unfold za_isp
  rw [hw, hv, za_clS hs, za_clS ht]
  cases e : za_pl Tg Co s t with
  | false => rw [Bool.and_false]
  | true =>
    have := (za_pl_iff.mp e).2
    omega
theorem za_isp3 {Tg Co : Nat → Int32} {w v : Int32} {s t : Nat} (h4 : za_isS w = true) (h11 : za_isS v = true) (hw : w = nI s) (hv : v = nI t) (hs : s < 24) (ht : t < 24) (h1 : za_ak Tg Co 23 s t = false) (h : ¬ nI (za_bn Tg Co s t) ≤ 0) : za_isp Tg Co w v = true := by
  have hb : za_bn Tg Co s t < 24 := (za_lowk hs ht h1).2
  unfold za_isp
  rw [h4, h11, hw, hv, za_clS hs, za_clS ht, za_pl_iff.mpr ⟨hb, ?_⟩]
  · rfl
  · rcases Nat.eq_zero_or_pos (za_bn Tg Co s t) with g | g
    · rw [g] at h
      exact absurd (Int32.le_refl _) h
    · exact g
theorem za_asum_at {Tg Co : Nat → Int32} {w v : Int32} {s t : Nat} (h : za_isp Tg Co w v = true) (hw : w = nI s) (hv : v = nI t) (hs : s < 24) (ht : t < 24) (i : Nat) : za_asum Tg Co w v i = za_cn (za_at Tg Co s t (za_bn Tg Co s t - 1)) i + za_cn (za_at Tg Co t s (za_bn Tg Co s t - 1)) i := by
  unfold za_asum
  rw [if_pos h, hw, hv, za_clS hs, za_clS ht]
theorem za_asum_f {Tg Co : Nat → Int32} {w v : Int32} {i : Nat} (h : za_isp Tg Co w v = false) : nI (za_asum Tg Co w v i) = if (za_isS w && za_isS v) = true then za_ac Tg Co (za_clp w) (za_clp v) else nI 0 := by
  unfold za_asum
  rw [if_neg (by rw [h]; decide)]
  by_cases g : (za_isS w && za_isS v) = true
  · rw [if_pos g]
    unfold za_isp at h
    rw [g, Bool.true_and] at h
    unfold za_ac
    rw [if_neg (by rw [h]; decide)]
  · rw [if_neg g]
theorem za_asum_e {Tg Co : Nat → Int32} {w v : Int32} {i : Nat} (hi : i = 96) : nI (za_asum Tg Co w v i) = if (za_isS w && za_isS v) = true then za_ac Tg Co (za_clp w) (za_clp v) else nI 0 := by
  subst hi
  cases h : za_isp Tg Co w v with
  | false => exact za_asum_f h
  | true =>
    obtain ⟨⟨s, hs, hw⟩, ⟨t, ht, hv⟩, hp⟩ := za_isp_of h
    have hp := za_isp_pl hp hw hv hs ht
    rw [za_asum_at h hw hv hs ht]
    unfold za_isp at h
    rw [Bool.and_eq_true] at h
    rw [if_pos h.1, hw, hv, za_clS hs, za_clS ht]
    unfold za_ac
    rw [if_pos hp]
theorem za_fq1 {Tg Co : Nat → Int32} {s t i : Nat} (hi : i < 96) (h : za_at Tg Co s t (za_bn Tg Co s t - 1) i = false) : (fun z => !za_fq Tg Co s t z) i = true := by
  show (!za_fq Tg Co s t i) = true
  unfold za_fq
  rw [if_pos hi, h]
  rfl
theorem za_fq2 {Tg Co : Nat → Int32} {s t i : Nat} (hi : 96 ≤ i) (h : za_at Tg Co t s (za_bn Tg Co s t - 1) (i - 96) = false) : (fun z => !za_fq Tg Co s t z) i = true := by
  show (!za_fq Tg Co s t i) = true
  unfold za_fq
  rw [if_neg (by omega), h]
  rfl
theorem za_fq3 {Tg Co : Nat → Int32} {s t i : Nat} (hi : i = 192) (hq : ∀ z, z < i → (fun z => !za_fq Tg Co s t z) z = true) : i = za_fa Tg Co s t := by
  subst hi
  exact (za_fi_all hq).symm
theorem za_fq4 {Tg Co : Nat → Int32} {s t i : Nat} (hi : i < 96) (hq : ∀ z, z < i → (fun z => !za_fq Tg Co s t z) z = true) (h : za_at Tg Co s t (za_bn Tg Co s t - 1) i = true) : i = za_fa Tg Co s t := by
  refine (za_fi_at (by omega) hq ?_).symm
  show (!za_fq Tg Co s t i) = false
  unfold za_fq
  rw [if_pos hi, h]
  rfl
theorem za_fq5 {Tg Co : Nat → Int32} {s t i : Nat} (hi : 96 ≤ i) (h2 : i < 192) (hq : ∀ z, z < i → (fun z => !za_fq Tg Co s t z) z = true) (h : za_at Tg Co t s (za_bn Tg Co s t - 1) (i - 96) = true) : i = za_fa Tg Co s t := by
  refine (za_fi_at h2 hq ?_).symm
  show (!za_fq Tg Co s t i) = false
  unfold za_fq
  rw [if_neg (by omega), h]
  rfl
def za_bt9 (w : Int32) (B : Nat → Nat) (i : Nat) : Bool := bt w i && (decide (za_bs w B i = 24) || decide (B (za_bs w B i) < B i))
theorem za_bt1 {w : Int32} {B : Nat → Nat} {i : Nat} (h : bt w i = false) : za_bt9 w B i = false := by
  unfold za_bt9
  rw [h, Bool.false_and]
theorem za_ai_neg {j : Nat} (hj : j ≤ 24) : za_ai j < 0 ↔ j = 24 := by
  unfold za_ai
  by_cases h : j = 24
  · rw [if_pos h]; exact ⟨fun _ => h, fun _ => by decide⟩
  · rw [if_neg h]; exact ⟨fun q => absurd q (nI_pos (by omega)), fun q => absurd q h⟩
theorem za_bs_le (w : Int32) (B : Nat → Nat) {n : Nat} (hn : n ≤ 24) : za_bs w B n ≤ 24 := by
  rcases za_bs_lt w B n with h | h
  · omega
  · omega
theorem za_bt2 {w : Int32} {B : Nat → Nat} {i : Nat} (hi : i ≤ 24) (h : bt w i = true) (h2 : za_ai (za_bs w B i) < 0) : za_bt9 w B i = true := by
  unfold za_bt9
  rw [h, decide_eq_true ((za_ai_neg (za_bs_le w B hi)).mp h2)]
  rfl
theorem za_bt3 {w : Int32} {B : Nat → Nat} {i : Nat} (h2 : za_bs w B i < 24) (h3 : B i ≤ B (za_bs w B i)) : za_bt9 w B i = false := by
  unfold za_bt9
  rw [decide_eq_false (show ¬ za_bs w B i = 24 by omega), decide_eq_false (show ¬ B (za_bs w B i) < B i by omega)]
  simp
theorem za_bt4 {w : Int32} {B : Nat → Nat} {i : Nat} (h : bt w i = true) (h3 : B (za_bs w B i) < B i) : za_bt9 w B i = true := by
  unfold za_bt9
  rw [h, decide_eq_true h3]
  simp
theorem za_bs_t {w : Int32} {B : Nat → Nat} {i : Nat} (hi : i < 24) (h : za_bt9 w B i = true) : za_ai (za_bs w B (i + 1)) = nI i := by
  unfold za_bt9 at h
  rw [Bool.and_eq_true, Bool.or_eq_true, decide_eq_true_eq, decide_eq_true_eq] at h
  rw [za_bs, if_pos h]
  unfold za_ai
  rw [if_neg (by omega)]
theorem za_bs_f {w : Int32} {B : Nat → Nat} {i : Nat} (h : za_bt9 w B i = false) : za_ai (za_bs w B (i + 1)) = za_ai (za_bs w B i) := by
  rw [za_bs, if_neg]
  intro q
  unfold za_bt9 at h
  rw [q.1, Bool.true_and, Bool.or_eq_false_iff, decide_eq_false_iff_not, decide_eq_false_iff_not] at h
  rcases q.2 with z | z
  · exact h.1 z
  · exact h.2 z
theorem za_ai_of {w : Int32} {B : Nat → Nat} {i : Nat} (hi : i ≤ 24) (h : ¬ za_ai (za_bs w B i) < 0) : za_ai (za_bs w B i) = nI (za_bs w B i) ∧ za_bs w B i < 24 ∧ bt w (za_bs w B i) = true := by
  rcases za_bs_lt w B i with g | g
  · exact absurd ((za_ai_neg (by omega)).mpr g) h
  · refine ⟨?_, by omega, g.2⟩
    unfold za_ai
    rw [if_neg (by omega)]
end
section
theorem zd_X_isMove_0 : decode zo_X_isMove 0 = .ok (.iload_n 0, 1) := by decide +kernel
theorem zd_X_isMove_1 : decode zo_X_isMove 1 = .ok (.iload_n 2, 1) := by decide +kernel
theorem zd_X_isMove_2 : decode zo_X_isMove 2 = .ok (.invokestatic 73, 3) := by decide +kernel
theorem zd_X_isMove_5 : decode zo_X_isMove 5 = .ok (.ifCond .eq 14, 3) := by decide +kernel
theorem zd_X_isMove_8 : decode zo_X_isMove 8 = .ok (.iload_n 1, 1) := by decide +kernel
theorem zd_X_isMove_9 : decode zo_X_isMove 9 = .ok (.invokestatic 95, 3) := by decide +kernel
theorem zd_X_isMove_12 : decode zo_X_isMove 12 = .ok (.ifCond .eq 7, 3) := by decide +kernel
theorem zd_X_isMove_15 : decode zo_X_isMove 15 = .ok (.iconst 1, 1) := by decide +kernel
theorem zd_X_isMove_16 : decode zo_X_isMove 16 = .ok (.goto 4, 3) := by decide +kernel
theorem zd_X_isMove_19 : decode zo_X_isMove 19 = .ok (.iconst 0, 1) := by decide +kernel
theorem zd_X_isMove_20 : decode zo_X_isMove 20 = .ok (.ireturn, 1) := by decide +kernel
theorem zd_X_areStates_0 : decode zo_X_areStates 0 = .ok (.iload_n 0, 1) := by decide +kernel
theorem zd_X_areStates_1 : decode zo_X_areStates 1 = .ok (.invokestatic 62, 3) := by decide +kernel
theorem zd_X_areStates_4 : decode zo_X_areStates 4 = .ok (.ifCond .eq 14, 3) := by decide +kernel
theorem zd_X_areStates_7 : decode zo_X_areStates 7 = .ok (.iload_n 1, 1) := by decide +kernel
theorem zd_X_areStates_8 : decode zo_X_areStates 8 = .ok (.invokestatic 62, 3) := by decide +kernel
theorem zd_X_areStates_11 : decode zo_X_areStates 11 = .ok (.ifCond .eq 7, 3) := by decide +kernel
theorem zd_X_areStates_14 : decode zo_X_areStates 14 = .ok (.iconst 1, 1) := by decide +kernel
theorem zd_X_areStates_15 : decode zo_X_areStates 15 = .ok (.goto 4, 3) := by decide +kernel
theorem zd_X_areStates_18 : decode zo_X_areStates 18 = .ok (.iconst 0, 1) := by decide +kernel
theorem zd_X_areStates_19 : decode zo_X_areStates 19 = .ok (.ireturn, 1) := by decide +kernel
theorem zd_X_isState_0 : decode zo_X_isState 0 = .ok (.iload_n 0, 1) := by decide +kernel
theorem zd_X_isState_1 : decode zo_X_isState 1 = .ok (.ifCond .lt 13, 3) := by decide +kernel
theorem zd_X_isState_4 : decode zo_X_isState 4 = .ok (.iload_n 0, 1) := by decide +kernel
theorem zd_X_isState_5 : decode zo_X_isState 5 = .ok (.bipush 24, 2) := by decide +kernel
theorem zd_X_isState_7 : decode zo_X_isState 7 = .ok (.if_icmp .ge 7, 3) := by decide +kernel
theorem zd_X_isState_10 : decode zo_X_isState 10 = .ok (.iconst 1, 1) := by decide +kernel
theorem zd_X_isState_11 : decode zo_X_isState 11 = .ok (.goto 4, 3) := by decide +kernel
theorem zd_X_isState_14 : decode zo_X_isState 14 = .ok (.iconst 0, 1) := by decide +kernel
theorem zd_X_isState_15 : decode zo_X_isState 15 = .ok (.ireturn, 1) := by decide +kernel
theorem zd_X_isLabel_0 : decode zo_X_isLabel 0 = .ok (.iload_n 0, 1) := by decide +kernel
theorem zd_X_isLabel_1 : decode zo_X_isLabel 1 = .ok (.ifCond .lt 12, 3) := by decide +kernel
theorem zd_X_isLabel_4 : decode zo_X_isLabel 4 = .ok (.iload_n 0, 1) := by decide +kernel
theorem zd_X_isLabel_5 : decode zo_X_isLabel 5 = .ok (.iconst 4, 1) := by decide +kernel
theorem zd_X_isLabel_6 : decode zo_X_isLabel 6 = .ok (.if_icmp .ge 7, 3) := by decide +kernel
theorem zd_X_isLabel_9 : decode zo_X_isLabel 9 = .ok (.iconst 1, 1) := by decide +kernel
theorem zd_X_isLabel_10 : decode zo_X_isLabel 10 = .ok (.goto 4, 3) := by decide +kernel
theorem zd_X_isLabel_13 : decode zo_X_isLabel 13 = .ok (.iconst 0, 1) := by decide +kernel
theorem zd_X_isLabel_14 : decode zo_X_isLabel 14 = .ok (.ireturn, 1) := by decide +kernel
theorem zd_N_holds_0 : decode zo_N_holds 0 = .ok (.aload_n 0, 1) := by decide +kernel
theorem zd_N_holds_1 : decode zo_N_holds 1 = .ok (.iload_n 1, 1) := by decide +kernel
theorem zd_N_holds_2 : decode zo_N_holds 2 = .ok (.iload_n 2, 1) := by decide +kernel
theorem zd_N_holds_3 : decode zo_N_holds 3 = .ok (.invokevirtual 22, 3) := by decide +kernel
theorem zd_N_holds_6 : decode zo_N_holds 6 = .ok (.iload_n 3, 1) := by decide +kernel
theorem zd_N_holds_7 : decode zo_N_holds 7 = .ok (.invokestatic 26, 3) := by decide +kernel
theorem zd_N_holds_10 : decode zo_N_holds 10 = .ok (.ireturn, 1) := by decide +kernel
theorem zd_N_targetsOf_0 : decode zo_N_targetsOf 0 = .ok (.aload_n 0, 1) := by decide +kernel
theorem zd_N_targetsOf_1 : decode zo_N_targetsOf 1 = .ok (.getfield 9, 3) := by decide +kernel
theorem zd_N_targetsOf_4 : decode zo_N_targetsOf 4 = .ok (.iload_n 1, 1) := by decide +kernel
theorem zd_N_targetsOf_5 : decode zo_N_targetsOf 5 = .ok (.iconst 4, 1) := by decide +kernel
theorem zd_N_targetsOf_6 : decode zo_N_targetsOf 6 = .ok (.imul, 1) := by decide +kernel
theorem zd_N_targetsOf_7 : decode zo_N_targetsOf 7 = .ok (.iload_n 2, 1) := by decide +kernel
theorem zd_N_targetsOf_8 : decode zo_N_targetsOf 8 = .ok (.iadd, 1) := by decide +kernel
theorem zd_N_targetsOf_9 : decode zo_N_targetsOf 9 = .ok (.iaload, 1) := by decide +kernel
theorem zd_N_targetsOf_10 : decode zo_N_targetsOf 10 = .ok (.ireturn, 1) := by decide +kernel
theorem zd_X_hasBit_0 : decode zo_X_hasBit 0 = .ok (.iload_n 0, 1) := by decide +kernel
theorem zd_X_hasBit_1 : decode zo_X_hasBit 1 = .ok (.iload_n 1, 1) := by decide +kernel
theorem zd_X_hasBit_2 : decode zo_X_hasBit 2 = .ok (.ishr, 1) := by decide +kernel
theorem zd_X_hasBit_3 : decode zo_X_hasBit 3 = .ok (.iconst 1, 1) := by decide +kernel
theorem zd_X_hasBit_4 : decode zo_X_hasBit 4 = .ok (.iand, 1) := by decide +kernel
theorem zd_X_hasBit_5 : decode zo_X_hasBit 5 = .ok (.ifCond .eq 7, 3) := by decide +kernel
theorem zd_X_hasBit_8 : decode zo_X_hasBit 8 = .ok (.iconst 1, 1) := by decide +kernel
theorem zd_X_hasBit_9 : decode zo_X_hasBit 9 = .ok (.goto 4, 3) := by decide +kernel
theorem zd_X_hasBit_12 : decode zo_X_hasBit 12 = .ok (.iconst 0, 1) := by decide +kernel
theorem zd_X_hasBit_13 : decode zo_X_hasBit 13 = .ok (.ireturn, 1) := by decide +kernel
theorem zd_N_count_0 : decode zo_N_count 0 = .ok (.aload_n 0, 1) := by decide +kernel
theorem zd_N_count_1 : decode zo_N_count 1 = .ok (.getfield 18, 3) := by decide +kernel
theorem zd_N_count_4 : decode zo_N_count 4 = .ok (.ireturn, 1) := by decide +kernel
theorem zd_N_put_0 : decode zo_N_put 0 = .ok (.aload_n 0, 1) := by decide +kernel
theorem zd_N_put_1 : decode zo_N_put 1 = .ok (.getfield 9, 3) := by decide +kernel
theorem zd_N_put_4 : decode zo_N_put 4 = .ok (.iload_n 1, 1) := by decide +kernel
theorem zd_N_put_5 : decode zo_N_put 5 = .ok (.iconst 4, 1) := by decide +kernel
theorem zd_N_put_6 : decode zo_N_put 6 = .ok (.imul, 1) := by decide +kernel
theorem zd_N_put_7 : decode zo_N_put 7 = .ok (.iload_n 2, 1) := by decide +kernel
theorem zd_N_put_8 : decode zo_N_put 8 = .ok (.iadd, 1) := by decide +kernel
theorem zd_N_put_9 : decode zo_N_put 9 = .ok (.dup2, 1) := by decide +kernel
theorem zd_N_put_10 : decode zo_N_put 10 = .ok (.iaload, 1) := by decide +kernel
theorem zd_N_put_11 : decode zo_N_put 11 = .ok (.iconst 1, 1) := by decide +kernel
theorem zd_N_put_12 : decode zo_N_put 12 = .ok (.iload_n 3, 1) := by decide +kernel
theorem zd_N_put_13 : decode zo_N_put 13 = .ok (.ishl, 1) := by decide +kernel
theorem zd_N_put_14 : decode zo_N_put 14 = .ok (.ior, 1) := by decide +kernel
theorem zd_N_put_15 : decode zo_N_put 15 = .ok (.iastore, 1) := by decide +kernel
theorem zd_N_put_16 : decode zo_N_put 16 = .ok (.aload_n 0, 1) := by decide +kernel
theorem zd_N_put_17 : decode zo_N_put 17 = .ok (.dup, 1) := by decide +kernel
theorem zd_N_put_18 : decode zo_N_put 18 = .ok (.getfield 18, 3) := by decide +kernel
theorem zd_N_put_21 : decode zo_N_put 21 = .ok (.iconst 1, 1) := by decide +kernel
theorem zd_N_put_22 : decode zo_N_put 22 = .ok (.iadd, 1) := by decide +kernel
theorem zd_N_put_23 : decode zo_N_put 23 = .ok (.putfield 18, 3) := by decide +kernel
theorem zd_N_put_26 : decode zo_N_put 26 = .ok (.return_, 1) := by decide +kernel
theorem zd_N_take_0 : decode zo_N_take 0 = .ok (.aload_n 0, 1) := by decide +kernel
theorem zd_N_take_1 : decode zo_N_take 1 = .ok (.getfield 9, 3) := by decide +kernel
theorem zd_N_take_4 : decode zo_N_take 4 = .ok (.iload_n 1, 1) := by decide +kernel
theorem zd_N_take_5 : decode zo_N_take 5 = .ok (.iconst 4, 1) := by decide +kernel
theorem zd_N_take_6 : decode zo_N_take 6 = .ok (.imul, 1) := by decide +kernel
theorem zd_N_take_7 : decode zo_N_take 7 = .ok (.iload_n 2, 1) := by decide +kernel
theorem zd_N_take_8 : decode zo_N_take 8 = .ok (.iadd, 1) := by decide +kernel
theorem zd_N_take_9 : decode zo_N_take 9 = .ok (.dup2, 1) := by decide +kernel
theorem zd_N_take_10 : decode zo_N_take 10 = .ok (.iaload, 1) := by decide +kernel
theorem zd_N_take_11 : decode zo_N_take 11 = .ok (.iconst 1, 1) := by decide +kernel
theorem zd_N_take_12 : decode zo_N_take 12 = .ok (.iload_n 3, 1) := by decide +kernel
theorem zd_N_take_13 : decode zo_N_take 13 = .ok (.ishl, 1) := by decide +kernel
theorem zd_N_take_14 : decode zo_N_take 14 = .ok (.iconst (-1), 1) := by decide +kernel
theorem zd_N_take_15 : decode zo_N_take 15 = .ok (.ixor, 1) := by decide +kernel
theorem zd_N_take_16 : decode zo_N_take 16 = .ok (.iand, 1) := by decide +kernel
theorem zd_N_take_17 : decode zo_N_take 17 = .ok (.iastore, 1) := by decide +kernel
theorem zd_N_take_18 : decode zo_N_take 18 = .ok (.aload_n 0, 1) := by decide +kernel
theorem zd_N_take_19 : decode zo_N_take 19 = .ok (.dup, 1) := by decide +kernel
theorem zd_N_take_20 : decode zo_N_take 20 = .ok (.getfield 18, 3) := by decide +kernel
theorem zd_N_take_23 : decode zo_N_take 23 = .ok (.iconst 1, 1) := by decide +kernel
theorem zd_N_take_24 : decode zo_N_take 24 = .ok (.isub, 1) := by decide +kernel
theorem zd_N_take_25 : decode zo_N_take 25 = .ok (.putfield 18, 3) := by decide +kernel
theorem zd_N_take_28 : decode zo_N_take 28 = .ok (.return_, 1) := by decide +kernel
theorem zd_N_paint_0 : decode zo_N_paint 0 = .ok (.aload_n 0, 1) := by decide +kernel
theorem zd_N_paint_1 : decode zo_N_paint 1 = .ok (.getfield 15, 3) := by decide +kernel
theorem zd_N_paint_4 : decode zo_N_paint 4 = .ok (.iload_n 1, 1) := by decide +kernel
theorem zd_N_paint_5 : decode zo_N_paint 5 = .ok (.iload_n 2, 1) := by decide +kernel
theorem zd_N_paint_6 : decode zo_N_paint 6 = .ok (.iastore, 1) := by decide +kernel
theorem zd_N_paint_7 : decode zo_N_paint 7 = .ok (.return_, 1) := by decide +kernel
theorem zd_N_wipe_0 : decode zo_N_wipe 0 = .ok (.iconst 0, 1) := by decide +kernel
theorem zd_N_wipe_1 : decode zo_N_wipe 1 = .ok (.istore_n 1, 1) := by decide +kernel
theorem zd_N_wipe_2 : decode zo_N_wipe 2 = .ok (.iload_n 1, 1) := by decide +kernel
theorem zd_N_wipe_3 : decode zo_N_wipe 3 = .ok (.aload_n 0, 1) := by decide +kernel
theorem zd_N_wipe_4 : decode zo_N_wipe 4 = .ok (.getfield 9, 3) := by decide +kernel
theorem zd_N_wipe_7 : decode zo_N_wipe 7 = .ok (.arraylength, 1) := by decide +kernel
theorem zd_N_wipe_8 : decode zo_N_wipe 8 = .ok (.if_icmp .ge 16, 3) := by decide +kernel
theorem zd_N_wipe_11 : decode zo_N_wipe 11 = .ok (.aload_n 0, 1) := by decide +kernel
theorem zd_N_wipe_12 : decode zo_N_wipe 12 = .ok (.getfield 9, 3) := by decide +kernel
theorem zd_N_wipe_15 : decode zo_N_wipe 15 = .ok (.iload_n 1, 1) := by decide +kernel
theorem zd_N_wipe_16 : decode zo_N_wipe 16 = .ok (.iconst 0, 1) := by decide +kernel
theorem zd_N_wipe_17 : decode zo_N_wipe 17 = .ok (.iastore, 1) := by decide +kernel
theorem zd_N_wipe_18 : decode zo_N_wipe 18 = .ok (.iinc 1 1, 3) := by decide +kernel
theorem zd_N_wipe_21 : decode zo_N_wipe 21 = .ok (.goto (-19), 3) := by decide +kernel
theorem zd_N_wipe_24 : decode zo_N_wipe 24 = .ok (.iconst 0, 1) := by decide +kernel
theorem zd_N_wipe_25 : decode zo_N_wipe 25 = .ok (.istore_n 1, 1) := by decide +kernel
theorem zd_N_wipe_26 : decode zo_N_wipe 26 = .ok (.iload_n 1, 1) := by decide +kernel
theorem zd_N_wipe_27 : decode zo_N_wipe 27 = .ok (.bipush 24, 2) := by decide +kernel
theorem zd_N_wipe_29 : decode zo_N_wipe 29 = .ok (.if_icmp .ge 16, 3) := by decide +kernel
theorem zd_N_wipe_32 : decode zo_N_wipe 32 = .ok (.aload_n 0, 1) := by decide +kernel
theorem zd_N_wipe_33 : decode zo_N_wipe 33 = .ok (.getfield 15, 3) := by decide +kernel
theorem zd_N_wipe_36 : decode zo_N_wipe 36 = .ok (.iload_n 1, 1) := by decide +kernel
theorem zd_N_wipe_37 : decode zo_N_wipe 37 = .ok (.iconst 0, 1) := by decide +kernel
theorem zd_N_wipe_38 : decode zo_N_wipe 38 = .ok (.iastore, 1) := by decide +kernel
theorem zd_N_wipe_39 : decode zo_N_wipe 39 = .ok (.iinc 1 1, 3) := by decide +kernel
theorem zd_N_wipe_42 : decode zo_N_wipe 42 = .ok (.goto (-16), 3) := by decide +kernel
theorem zd_N_wipe_45 : decode zo_N_wipe 45 = .ok (.aload_n 0, 1) := by decide +kernel
theorem zd_N_wipe_46 : decode zo_N_wipe 46 = .ok (.iconst 0, 1) := by decide +kernel
theorem zd_N_wipe_47 : decode zo_N_wipe 47 = .ok (.putfield 18, 3) := by decide +kernel
theorem zd_N_wipe_50 : decode zo_N_wipe 50 = .ok (.return_, 1) := by decide +kernel
theorem zd_N_groupByColour_0 : decode zo_N_groupByColour 0 = .ok (.iconst 0, 1) := by decide +kernel
theorem zd_N_groupByColour_1 : decode zo_N_groupByColour 1 = .ok (.istore_n 2, 1) := by decide +kernel
theorem zd_N_groupByColour_2 : decode zo_N_groupByColour 2 = .ok (.iload_n 2, 1) := by decide +kernel
theorem zd_N_groupByColour_3 : decode zo_N_groupByColour 3 = .ok (.bipush 24, 2) := by decide +kernel
theorem zd_N_groupByColour_5 : decode zo_N_groupByColour 5 = .ok (.if_icmp .ge 17, 3) := by decide +kernel
theorem zd_N_groupByColour_8 : decode zo_N_groupByColour 8 = .ok (.aload_n 1, 1) := by decide +kernel
theorem zd_N_groupByColour_9 : decode zo_N_groupByColour 9 = .ok (.iload_n 2, 1) := by decide +kernel
theorem zd_N_groupByColour_10 : decode zo_N_groupByColour 10 = .ok (.aload_n 0, 1) := by decide +kernel
theorem zd_N_groupByColour_11 : decode zo_N_groupByColour 11 = .ok (.iload_n 2, 1) := by decide +kernel
theorem zd_N_groupByColour_12 : decode zo_N_groupByColour 12 = .ok (.invokevirtual 30, 3) := by decide +kernel
theorem zd_N_groupByColour_15 : decode zo_N_groupByColour 15 = .ok (.iastore, 1) := by decide +kernel
theorem zd_N_groupByColour_16 : decode zo_N_groupByColour 16 = .ok (.iinc 2 1, 3) := by decide +kernel
theorem zd_N_groupByColour_19 : decode zo_N_groupByColour 19 = .ok (.goto (-17), 3) := by decide +kernel
theorem zd_N_groupByColour_22 : decode zo_N_groupByColour 22 = .ok (.return_, 1) := by decide +kernel
theorem zd_N_sameColour_0 : decode zo_N_sameColour 0 = .ok (.iconst 0, 1) := by decide +kernel
theorem zd_N_sameColour_1 : decode zo_N_sameColour 1 = .ok (.istore_n 2, 1) := by decide +kernel
theorem zd_N_sameColour_2 : decode zo_N_sameColour 2 = .ok (.iconst 0, 1) := by decide +kernel
theorem zd_N_sameColour_3 : decode zo_N_sameColour 3 = .ok (.istore_n 3, 1) := by decide +kernel
theorem zd_N_sameColour_4 : decode zo_N_sameColour 4 = .ok (.iload_n 3, 1) := by decide +kernel
theorem zd_N_sameColour_5 : decode zo_N_sameColour 5 = .ok (.bipush 24, 2) := by decide +kernel
theorem zd_N_sameColour_7 : decode zo_N_sameColour 7 = .ok (.if_icmp .ge 30, 3) := by decide +kernel
theorem zd_N_sameColour_10 : decode zo_N_sameColour 10 = .ok (.aload_n 0, 1) := by decide +kernel
theorem zd_N_sameColour_11 : decode zo_N_sameColour 11 = .ok (.getfield 15, 3) := by decide +kernel
theorem zd_N_sameColour_14 : decode zo_N_sameColour 14 = .ok (.iload_n 3, 1) := by decide +kernel
theorem zd_N_sameColour_15 : decode zo_N_sameColour 15 = .ok (.iaload, 1) := by decide +kernel
theorem zd_N_sameColour_16 : decode zo_N_sameColour 16 = .ok (.aload_n 0, 1) := by decide +kernel
theorem zd_N_sameColour_17 : decode zo_N_sameColour 17 = .ok (.getfield 15, 3) := by decide +kernel
theorem zd_N_sameColour_20 : decode zo_N_sameColour 20 = .ok (.iload_n 1, 1) := by decide +kernel
theorem zd_N_sameColour_21 : decode zo_N_sameColour 21 = .ok (.iaload, 1) := by decide +kernel
theorem zd_N_sameColour_22 : decode zo_N_sameColour 22 = .ok (.if_icmp .ne 9, 3) := by decide +kernel
theorem zd_N_sameColour_25 : decode zo_N_sameColour 25 = .ok (.iload_n 2, 1) := by decide +kernel
theorem zd_N_sameColour_26 : decode zo_N_sameColour 26 = .ok (.iconst 1, 1) := by decide +kernel
theorem zd_N_sameColour_27 : decode zo_N_sameColour 27 = .ok (.iload_n 3, 1) := by decide +kernel
theorem zd_N_sameColour_28 : decode zo_N_sameColour 28 = .ok (.ishl, 1) := by decide +kernel
theorem zd_N_sameColour_29 : decode zo_N_sameColour 29 = .ok (.ior, 1) := by decide +kernel
theorem zd_N_sameColour_30 : decode zo_N_sameColour 30 = .ok (.istore_n 2, 1) := by decide +kernel
theorem zd_N_sameColour_31 : decode zo_N_sameColour 31 = .ok (.iinc 3 1, 3) := by decide +kernel
theorem zd_N_sameColour_34 : decode zo_N_sameColour 34 = .ok (.goto (-30), 3) := by decide +kernel
theorem zd_N_sameColour_37 : decode zo_N_sameColour 37 = .ok (.iload_n 2, 1) := by decide +kernel
theorem zd_N_sameColour_38 : decode zo_N_sameColour 38 = .ok (.ireturn, 1) := by decide +kernel
theorem zd_N_unite_0 : decode zo_N_unite 0 = .ok (.iconst 0, 1) := by decide +kernel
theorem zd_N_unite_1 : decode zo_N_unite 1 = .ok (.istore 4, 2) := by decide +kernel
theorem zd_N_unite_3 : decode zo_N_unite 3 = .ok (.iload 4, 2) := by decide +kernel
theorem zd_N_unite_5 : decode zo_N_unite 5 = .ok (.aload_n 0, 1) := by decide +kernel
theorem zd_N_unite_6 : decode zo_N_unite 6 = .ok (.getfield 9, 3) := by decide +kernel
theorem zd_N_unite_9 : decode zo_N_unite 9 = .ok (.arraylength, 1) := by decide +kernel
theorem zd_N_unite_10 : decode zo_N_unite 10 = .ok (.if_icmp .ge 39, 3) := by decide +kernel
theorem zd_N_unite_13 : decode zo_N_unite 13 = .ok (.aload_n 3, 1) := by decide +kernel
theorem zd_N_unite_14 : decode zo_N_unite 14 = .ok (.iload 4, 2) := by decide +kernel
theorem zd_N_unite_16 : decode zo_N_unite 16 = .ok (.aload_n 0, 1) := by decide +kernel
theorem zd_N_unite_17 : decode zo_N_unite 17 = .ok (.getfield 9, 3) := by decide +kernel
theorem zd_N_unite_20 : decode zo_N_unite 20 = .ok (.iload 4, 2) := by decide +kernel
theorem zd_N_unite_22 : decode zo_N_unite 22 = .ok (.iaload, 1) := by decide +kernel
theorem zd_N_unite_23 : decode zo_N_unite 23 = .ok (.ifCond .ne 7, 3) := by decide +kernel
theorem zd_N_unite_26 : decode zo_N_unite 26 = .ok (.iconst 0, 1) := by decide +kernel
theorem zd_N_unite_27 : decode zo_N_unite 27 = .ok (.goto 15, 3) := by decide +kernel
theorem zd_N_unite_30 : decode zo_N_unite 30 = .ok (.aload_n 0, 1) := by decide +kernel
theorem zd_N_unite_31 : decode zo_N_unite 31 = .ok (.getfield 9, 3) := by decide +kernel
theorem zd_N_unite_34 : decode zo_N_unite 34 = .ok (.iload 4, 2) := by decide +kernel
theorem zd_N_unite_36 : decode zo_N_unite 36 = .ok (.iaload, 1) := by decide +kernel
theorem zd_N_unite_37 : decode zo_N_unite 37 = .ok (.aload_n 1, 1) := by decide +kernel
theorem zd_N_unite_38 : decode zo_N_unite 38 = .ok (.iload_n 2, 1) := by decide +kernel
theorem zd_N_unite_39 : decode zo_N_unite 39 = .ok (.invokestatic 34, 3) := by decide +kernel
theorem zd_N_unite_42 : decode zo_N_unite 42 = .ok (.iastore, 1) := by decide +kernel
theorem zd_N_unite_43 : decode zo_N_unite 43 = .ok (.iinc 4 1, 3) := by decide +kernel
theorem zd_N_unite_46 : decode zo_N_unite 46 = .ok (.goto (-43), 3) := by decide +kernel
theorem zd_N_unite_49 : decode zo_N_unite 49 = .ok (.return_, 1) := by decide +kernel
theorem zd_N_union_0 : decode zo_N_union 0 = .ok (.iconst 0, 1) := by decide +kernel
theorem zd_N_union_1 : decode zo_N_union 1 = .ok (.istore_n 3, 1) := by decide +kernel
theorem zd_N_union_2 : decode zo_N_union 2 = .ok (.iconst 0, 1) := by decide +kernel
theorem zd_N_union_3 : decode zo_N_union 3 = .ok (.istore 4, 2) := by decide +kernel
theorem zd_N_union_5 : decode zo_N_union 5 = .ok (.iload 4, 2) := by decide +kernel
theorem zd_N_union_7 : decode zo_N_union 7 = .ok (.bipush 24, 2) := by decide +kernel
theorem zd_N_union_9 : decode zo_N_union 9 = .ok (.if_icmp .ge 27, 3) := by decide +kernel
theorem zd_N_union_12 : decode zo_N_union 12 = .ok (.iload_n 0, 1) := by decide +kernel
theorem zd_N_union_13 : decode zo_N_union 13 = .ok (.iload 4, 2) := by decide +kernel
theorem zd_N_union_15 : decode zo_N_union 15 = .ok (.invokestatic 26, 3) := by decide +kernel
theorem zd_N_union_18 : decode zo_N_union 18 = .ok (.ifCond .eq 12, 3) := by decide +kernel
theorem zd_N_union_21 : decode zo_N_union 21 = .ok (.iload_n 3, 1) := by decide +kernel
theorem zd_N_union_22 : decode zo_N_union 22 = .ok (.aload_n 1, 1) := by decide +kernel
theorem zd_N_union_23 : decode zo_N_union 23 = .ok (.iload_n 2, 1) := by decide +kernel
theorem zd_N_union_24 : decode zo_N_union 24 = .ok (.iload 4, 2) := by decide +kernel
theorem zd_N_union_26 : decode zo_N_union 26 = .ok (.iadd, 1) := by decide +kernel
theorem zd_N_union_27 : decode zo_N_union 27 = .ok (.iaload, 1) := by decide +kernel
theorem zd_N_union_28 : decode zo_N_union 28 = .ok (.ior, 1) := by decide +kernel
theorem zd_N_union_29 : decode zo_N_union 29 = .ok (.istore_n 3, 1) := by decide +kernel
theorem zd_N_union_30 : decode zo_N_union 30 = .ok (.iinc 4 1, 3) := by decide +kernel
theorem zd_N_union_33 : decode zo_N_union 33 = .ok (.goto (-28), 3) := by decide +kernel
theorem zd_N_union_36 : decode zo_N_union 36 = .ok (.iload_n 3, 1) := by decide +kernel
theorem zd_N_union_37 : decode zo_N_union 37 = .ok (.ireturn, 1) := by decide +kernel
end
section
theorem zd_L_forget_0 : decode zo_L_forget 0 = .ok (.aload_n 0, 1) := by decide +kernel
theorem zd_L_forget_1 : decode zo_L_forget 1 = .ok (.iconst 0, 1) := by decide +kernel
theorem zd_L_forget_2 : decode zo_L_forget 2 = .ok (.putfield 25, 3) := by decide +kernel
theorem zd_L_forget_5 : decode zo_L_forget 5 = .ok (.return_, 1) := by decide +kernel
theorem zd_C_forget_0 : decode zo_C_forget 0 = .ok (.aload_n 0, 1) := by decide +kernel
theorem zd_C_forget_1 : decode zo_C_forget 1 = .ok (.iconst 0, 1) := by decide +kernel
theorem zd_C_forget_2 : decode zo_C_forget 2 = .ok (.putfield 22, 3) := by decide +kernel
theorem zd_C_forget_5 : decode zo_C_forget 5 = .ok (.return_, 1) := by decide +kernel
theorem zd_L_partsMore_0 : decode zo_L_partsMore 0 = .ok (.iload_n 1, 1) := by decide +kernel
theorem zd_L_partsMore_1 : decode zo_L_partsMore 1 = .ok (.iconst 1, 1) := by decide +kernel
theorem zd_L_partsMore_2 : decode zo_L_partsMore 2 = .ok (.isub, 1) := by decide +kernel
theorem zd_L_partsMore_3 : decode zo_L_partsMore 3 = .ok (.bipush 24, 2) := by decide +kernel
theorem zd_L_partsMore_5 : decode zo_L_partsMore 5 = .ok (.imul, 1) := by decide +kernel
theorem zd_L_partsMore_6 : decode zo_L_partsMore 6 = .ok (.istore_n 2, 1) := by decide +kernel
theorem zd_L_partsMore_7 : decode zo_L_partsMore 7 = .ok (.aload_n 0, 1) := by decide +kernel
theorem zd_L_partsMore_8 : decode zo_L_partsMore 8 = .ok (.getfield 9, 3) := by decide +kernel
theorem zd_L_partsMore_11 : decode zo_L_partsMore 11 = .ok (.aload_n 0, 1) := by decide +kernel
theorem zd_L_partsMore_12 : decode zo_L_partsMore 12 = .ok (.getfield 15, 3) := by decide +kernel
theorem zd_L_partsMore_15 : decode zo_L_partsMore 15 = .ok (.iload_n 2, 1) := by decide +kernel
theorem zd_L_partsMore_16 : decode zo_L_partsMore 16 = .ok (.aload_n 0, 1) := by decide +kernel
theorem zd_L_partsMore_17 : decode zo_L_partsMore 17 = .ok (.getfield 19, 3) := by decide +kernel
theorem zd_L_partsMore_20 : decode zo_L_partsMore 20 = .ok (.invokevirtual 46, 3) := by decide +kernel
theorem zd_L_partsMore_23 : decode zo_L_partsMore 23 = .ok (.iconst 0, 1) := by decide +kernel
theorem zd_L_partsMore_24 : decode zo_L_partsMore 24 = .ok (.istore_n 3, 1) := by decide +kernel
theorem zd_L_partsMore_25 : decode zo_L_partsMore 25 = .ok (.iconst 0, 1) := by decide +kernel
theorem zd_L_partsMore_26 : decode zo_L_partsMore 26 = .ok (.istore 4, 2) := by decide +kernel
theorem zd_L_partsMore_28 : decode zo_L_partsMore 28 = .ok (.iload 4, 2) := by decide +kernel
theorem zd_L_partsMore_30 : decode zo_L_partsMore 30 = .ok (.bipush 24, 2) := by decide +kernel
theorem zd_L_partsMore_32 : decode zo_L_partsMore 32 = .ok (.if_icmp .ge 62, 3) := by decide +kernel
theorem zd_L_partsMore_35 : decode zo_L_partsMore 35 = .ok (.aload_n 0, 1) := by decide +kernel
theorem zd_L_partsMore_36 : decode zo_L_partsMore 36 = .ok (.iload 4, 2) := by decide +kernel
theorem zd_L_partsMore_38 : decode zo_L_partsMore 38 = .ok (.aload_n 0, 1) := by decide +kernel
theorem zd_L_partsMore_39 : decode zo_L_partsMore 39 = .ok (.getfield 15, 3) := by decide +kernel
theorem zd_L_partsMore_42 : decode zo_L_partsMore 42 = .ok (.iload_n 2, 1) := by decide +kernel
theorem zd_L_partsMore_43 : decode zo_L_partsMore 43 = .ok (.iload 4, 2) := by decide +kernel
theorem zd_L_partsMore_45 : decode zo_L_partsMore 45 = .ok (.iadd, 1) := by decide +kernel
theorem zd_L_partsMore_46 : decode zo_L_partsMore 46 = .ok (.iaload, 1) := by decide +kernel
theorem zd_L_partsMore_47 : decode zo_L_partsMore 47 = .ok (.invokevirtual 50, 3) := by decide +kernel
theorem zd_L_partsMore_50 : decode zo_L_partsMore 50 = .ok (.istore 5, 2) := by decide +kernel
theorem zd_L_partsMore_52 : decode zo_L_partsMore 52 = .ok (.aload_n 0, 1) := by decide +kernel
theorem zd_L_partsMore_53 : decode zo_L_partsMore 53 = .ok (.getfield 15, 3) := by decide +kernel
theorem zd_L_partsMore_56 : decode zo_L_partsMore 56 = .ok (.iload_n 1, 1) := by decide +kernel
theorem zd_L_partsMore_57 : decode zo_L_partsMore 57 = .ok (.bipush 24, 2) := by decide +kernel
theorem zd_L_partsMore_59 : decode zo_L_partsMore 59 = .ok (.imul, 1) := by decide +kernel
theorem zd_L_partsMore_60 : decode zo_L_partsMore 60 = .ok (.iload 4, 2) := by decide +kernel
theorem zd_L_partsMore_62 : decode zo_L_partsMore 62 = .ok (.iadd, 1) := by decide +kernel
theorem zd_L_partsMore_63 : decode zo_L_partsMore 63 = .ok (.iload 5, 2) := by decide +kernel
theorem zd_L_partsMore_65 : decode zo_L_partsMore 65 = .ok (.iastore, 1) := by decide +kernel
theorem zd_L_partsMore_66 : decode zo_L_partsMore 66 = .ok (.iload_n 3, 1) := by decide +kernel
theorem zd_L_partsMore_67 : decode zo_L_partsMore 67 = .ok (.iload 5, 2) := by decide +kernel
theorem zd_L_partsMore_69 : decode zo_L_partsMore 69 = .ok (.aload_n 0, 1) := by decide +kernel
theorem zd_L_partsMore_70 : decode zo_L_partsMore 70 = .ok (.getfield 15, 3) := by decide +kernel
theorem zd_L_partsMore_73 : decode zo_L_partsMore 73 = .ok (.iload_n 2, 1) := by decide +kernel
theorem zd_L_partsMore_74 : decode zo_L_partsMore 74 = .ok (.iload 4, 2) := by decide +kernel
theorem zd_L_partsMore_76 : decode zo_L_partsMore 76 = .ok (.iadd, 1) := by decide +kernel
theorem zd_L_partsMore_77 : decode zo_L_partsMore 77 = .ok (.iaload, 1) := by decide +kernel
theorem zd_L_partsMore_78 : decode zo_L_partsMore 78 = .ok (.if_icmp .eq 7, 3) := by decide +kernel
theorem zd_L_partsMore_81 : decode zo_L_partsMore 81 = .ok (.iconst 1, 1) := by decide +kernel
theorem zd_L_partsMore_82 : decode zo_L_partsMore 82 = .ok (.goto 4, 3) := by decide +kernel
theorem zd_L_partsMore_85 : decode zo_L_partsMore 85 = .ok (.iconst 0, 1) := by decide +kernel
theorem zd_L_partsMore_86 : decode zo_L_partsMore 86 = .ok (.ior, 1) := by decide +kernel
theorem zd_L_partsMore_87 : decode zo_L_partsMore 87 = .ok (.istore_n 3, 1) := by decide +kernel
theorem zd_L_partsMore_88 : decode zo_L_partsMore 88 = .ok (.iinc 4 1, 3) := by decide +kernel
theorem zd_L_partsMore_91 : decode zo_L_partsMore 91 = .ok (.goto (-63), 3) := by decide +kernel
theorem zd_L_partsMore_94 : decode zo_L_partsMore 94 = .ok (.iload_n 3, 1) := by decide +kernel
theorem zd_L_partsMore_95 : decode zo_L_partsMore 95 = .ok (.ireturn, 1) := by decide +kernel
theorem zd_L_stillAlike_0 : decode zo_L_stillAlike 0 = .ok (.iconst 0, 1) := by decide +kernel
theorem zd_L_stillAlike_1 : decode zo_L_stillAlike 1 = .ok (.istore_n 3, 1) := by decide +kernel
theorem zd_L_stillAlike_2 : decode zo_L_stillAlike 2 = .ok (.iconst 0, 1) := by decide +kernel
theorem zd_L_stillAlike_3 : decode zo_L_stillAlike 3 = .ok (.istore 4, 2) := by decide +kernel
theorem zd_L_stillAlike_5 : decode zo_L_stillAlike 5 = .ok (.iload 4, 2) := by decide +kernel
theorem zd_L_stillAlike_7 : decode zo_L_stillAlike 7 = .ok (.bipush 24, 2) := by decide +kernel
theorem zd_L_stillAlike_9 : decode zo_L_stillAlike 9 = .ok (.if_icmp .ge 35, 3) := by decide +kernel
theorem zd_L_stillAlike_12 : decode zo_L_stillAlike 12 = .ok (.iload_n 2, 1) := by decide +kernel
theorem zd_L_stillAlike_13 : decode zo_L_stillAlike 13 = .ok (.iload 4, 2) := by decide +kernel
theorem zd_L_stillAlike_15 : decode zo_L_stillAlike 15 = .ok (.invokestatic 54, 3) := by decide +kernel
theorem zd_L_stillAlike_18 : decode zo_L_stillAlike 18 = .ok (.ifCond .eq 20, 3) := by decide +kernel
theorem zd_L_stillAlike_21 : decode zo_L_stillAlike 21 = .ok (.aload_n 0, 1) := by decide +kernel
theorem zd_L_stillAlike_22 : decode zo_L_stillAlike 22 = .ok (.iload_n 1, 1) := by decide +kernel
theorem zd_L_stillAlike_23 : decode zo_L_stillAlike 23 = .ok (.iload 4, 2) := by decide +kernel
theorem zd_L_stillAlike_25 : decode zo_L_stillAlike 25 = .ok (.invokevirtual 58, 3) := by decide +kernel
theorem zd_L_stillAlike_28 : decode zo_L_stillAlike 28 = .ok (.ifCond .eq 10, 3) := by decide +kernel
theorem zd_L_stillAlike_31 : decode zo_L_stillAlike 31 = .ok (.iload_n 3, 1) := by decide +kernel
theorem zd_L_stillAlike_32 : decode zo_L_stillAlike 32 = .ok (.iconst 1, 1) := by decide +kernel
theorem zd_L_stillAlike_33 : decode zo_L_stillAlike 33 = .ok (.iload 4, 2) := by decide +kernel
theorem zd_L_stillAlike_35 : decode zo_L_stillAlike 35 = .ok (.ishl, 1) := by decide +kernel
theorem zd_L_stillAlike_36 : decode zo_L_stillAlike 36 = .ok (.ior, 1) := by decide +kernel
theorem zd_L_stillAlike_37 : decode zo_L_stillAlike 37 = .ok (.istore_n 3, 1) := by decide +kernel
theorem zd_L_stillAlike_38 : decode zo_L_stillAlike 38 = .ok (.iinc 4 1, 3) := by decide +kernel
theorem zd_L_stillAlike_41 : decode zo_L_stillAlike 41 = .ok (.goto (-36), 3) := by decide +kernel
theorem zd_L_stillAlike_44 : decode zo_L_stillAlike 44 = .ok (.iload_n 3, 1) := by decide +kernel
theorem zd_L_stillAlike_45 : decode zo_L_stillAlike 45 = .ok (.ireturn, 1) := by decide +kernel
theorem zd_L_movesAlike_0 : decode zo_L_movesAlike 0 = .ok (.iconst 0, 1) := by decide +kernel
theorem zd_L_movesAlike_1 : decode zo_L_movesAlike 1 = .ok (.istore_n 3, 1) := by decide +kernel
theorem zd_L_movesAlike_2 : decode zo_L_movesAlike 2 = .ok (.iload_n 3, 1) := by decide +kernel
theorem zd_L_movesAlike_3 : decode zo_L_movesAlike 3 = .ok (.iconst 4, 1) := by decide +kernel
theorem zd_L_movesAlike_4 : decode zo_L_movesAlike 4 = .ok (.if_icmp .ge 34, 3) := by decide +kernel
theorem zd_L_movesAlike_7 : decode zo_L_movesAlike 7 = .ok (.aload_n 0, 1) := by decide +kernel
theorem zd_L_movesAlike_8 : decode zo_L_movesAlike 8 = .ok (.getfield 19, 3) := by decide +kernel
theorem zd_L_movesAlike_11 : decode zo_L_movesAlike 11 = .ok (.iload_n 1, 1) := by decide +kernel
theorem zd_L_movesAlike_12 : decode zo_L_movesAlike 12 = .ok (.iconst 4, 1) := by decide +kernel
theorem zd_L_movesAlike_13 : decode zo_L_movesAlike 13 = .ok (.imul, 1) := by decide +kernel
theorem zd_L_movesAlike_14 : decode zo_L_movesAlike 14 = .ok (.iload_n 3, 1) := by decide +kernel
theorem zd_L_movesAlike_15 : decode zo_L_movesAlike 15 = .ok (.iadd, 1) := by decide +kernel
theorem zd_L_movesAlike_16 : decode zo_L_movesAlike 16 = .ok (.iaload, 1) := by decide +kernel
theorem zd_L_movesAlike_17 : decode zo_L_movesAlike 17 = .ok (.aload_n 0, 1) := by decide +kernel
theorem zd_L_movesAlike_18 : decode zo_L_movesAlike 18 = .ok (.getfield 19, 3) := by decide +kernel
theorem zd_L_movesAlike_21 : decode zo_L_movesAlike 21 = .ok (.iload_n 2, 1) := by decide +kernel
theorem zd_L_movesAlike_22 : decode zo_L_movesAlike 22 = .ok (.iconst 4, 1) := by decide +kernel
theorem zd_L_movesAlike_23 : decode zo_L_movesAlike 23 = .ok (.imul, 1) := by decide +kernel
theorem zd_L_movesAlike_24 : decode zo_L_movesAlike 24 = .ok (.iload_n 3, 1) := by decide +kernel
theorem zd_L_movesAlike_25 : decode zo_L_movesAlike 25 = .ok (.iadd, 1) := by decide +kernel
theorem zd_L_movesAlike_26 : decode zo_L_movesAlike 26 = .ok (.iaload, 1) := by decide +kernel
theorem zd_L_movesAlike_27 : decode zo_L_movesAlike 27 = .ok (.if_icmp .eq 5, 3) := by decide +kernel
theorem zd_L_movesAlike_30 : decode zo_L_movesAlike 30 = .ok (.iconst 0, 1) := by decide +kernel
theorem zd_L_movesAlike_31 : decode zo_L_movesAlike 31 = .ok (.ireturn, 1) := by decide +kernel
theorem zd_L_movesAlike_32 : decode zo_L_movesAlike 32 = .ok (.iinc 3 1, 3) := by decide +kernel
theorem zd_L_movesAlike_35 : decode zo_L_movesAlike 35 = .ok (.goto (-33), 3) := by decide +kernel
theorem zd_L_movesAlike_38 : decode zo_L_movesAlike 38 = .ok (.iconst 1, 1) := by decide +kernel
theorem zd_L_movesAlike_39 : decode zo_L_movesAlike 39 = .ok (.ireturn, 1) := by decide +kernel
theorem zd_L_numberKinds_0 : decode zo_L_numberKinds 0 = .ok (.aload_n 0, 1) := by decide +kernel
theorem zd_L_numberKinds_1 : decode zo_L_numberKinds 1 = .ok (.iconst 0, 1) := by decide +kernel
theorem zd_L_numberKinds_2 : decode zo_L_numberKinds 2 = .ok (.putfield 61, 3) := by decide +kernel
theorem zd_L_numberKinds_5 : decode zo_L_numberKinds 5 = .ok (.iconst 0, 1) := by decide +kernel
theorem zd_L_numberKinds_6 : decode zo_L_numberKinds 6 = .ok (.istore_n 1, 1) := by decide +kernel
theorem zd_L_numberKinds_7 : decode zo_L_numberKinds 7 = .ok (.iload_n 1, 1) := by decide +kernel
theorem zd_L_numberKinds_8 : decode zo_L_numberKinds 8 = .ok (.bipush 24, 2) := by decide +kernel
theorem zd_L_numberKinds_10 : decode zo_L_numberKinds 10 = .ok (.if_icmp .ge 55, 3) := by decide +kernel
theorem zd_L_numberKinds_13 : decode zo_L_numberKinds 13 = .ok (.aload_n 0, 1) := by decide +kernel
theorem zd_L_numberKinds_14 : decode zo_L_numberKinds 14 = .ok (.iload_n 1, 1) := by decide +kernel
theorem zd_L_numberKinds_15 : decode zo_L_numberKinds 15 = .ok (.invokevirtual 64, 3) := by decide +kernel
theorem zd_L_numberKinds_18 : decode zo_L_numberKinds 18 = .ok (.istore_n 2, 1) := by decide +kernel
theorem zd_L_numberKinds_19 : decode zo_L_numberKinds 19 = .ok (.iload_n 2, 1) := by decide +kernel
theorem zd_L_numberKinds_20 : decode zo_L_numberKinds 20 = .ok (.iload_n 1, 1) := by decide +kernel
theorem zd_L_numberKinds_21 : decode zo_L_numberKinds 21 = .ok (.if_icmp .ne 26, 3) := by decide +kernel
theorem zd_L_numberKinds_24 : decode zo_L_numberKinds 24 = .ok (.aload_n 0, 1) := by decide +kernel
theorem zd_L_numberKinds_25 : decode zo_L_numberKinds 25 = .ok (.getfield 22, 3) := by decide +kernel
theorem zd_L_numberKinds_28 : decode zo_L_numberKinds 28 = .ok (.iload_n 1, 1) := by decide +kernel
theorem zd_L_numberKinds_29 : decode zo_L_numberKinds 29 = .ok (.aload_n 0, 1) := by decide +kernel
theorem zd_L_numberKinds_30 : decode zo_L_numberKinds 30 = .ok (.getfield 61, 3) := by decide +kernel
theorem zd_L_numberKinds_33 : decode zo_L_numberKinds 33 = .ok (.iastore, 1) := by decide +kernel
theorem zd_L_numberKinds_34 : decode zo_L_numberKinds 34 = .ok (.aload_n 0, 1) := by decide +kernel
theorem zd_L_numberKinds_35 : decode zo_L_numberKinds 35 = .ok (.dup, 1) := by decide +kernel
theorem zd_L_numberKinds_36 : decode zo_L_numberKinds 36 = .ok (.getfield 61, 3) := by decide +kernel
theorem zd_L_numberKinds_39 : decode zo_L_numberKinds 39 = .ok (.iconst 1, 1) := by decide +kernel
theorem zd_L_numberKinds_40 : decode zo_L_numberKinds 40 = .ok (.iadd, 1) := by decide +kernel
theorem zd_L_numberKinds_41 : decode zo_L_numberKinds 41 = .ok (.putfield 61, 3) := by decide +kernel
theorem zd_L_numberKinds_44 : decode zo_L_numberKinds 44 = .ok (.goto 15, 3) := by decide +kernel
theorem zd_L_numberKinds_47 : decode zo_L_numberKinds 47 = .ok (.aload_n 0, 1) := by decide +kernel
theorem zd_L_numberKinds_48 : decode zo_L_numberKinds 48 = .ok (.getfield 22, 3) := by decide +kernel
theorem zd_L_numberKinds_51 : decode zo_L_numberKinds 51 = .ok (.iload_n 1, 1) := by decide +kernel
theorem zd_L_numberKinds_52 : decode zo_L_numberKinds 52 = .ok (.aload_n 0, 1) := by decide +kernel
theorem zd_L_numberKinds_53 : decode zo_L_numberKinds 53 = .ok (.getfield 22, 3) := by decide +kernel
theorem zd_L_numberKinds_56 : decode zo_L_numberKinds 56 = .ok (.iload_n 2, 1) := by decide +kernel
theorem zd_L_numberKinds_57 : decode zo_L_numberKinds 57 = .ok (.iaload, 1) := by decide +kernel
theorem zd_L_numberKinds_58 : decode zo_L_numberKinds 58 = .ok (.iastore, 1) := by decide +kernel
theorem zd_L_numberKinds_59 : decode zo_L_numberKinds 59 = .ok (.iinc 1 1, 3) := by decide +kernel
theorem zd_L_numberKinds_62 : decode zo_L_numberKinds 62 = .ok (.goto (-55), 3) := by decide +kernel
theorem zd_L_numberKinds_65 : decode zo_L_numberKinds 65 = .ok (.return_, 1) := by decide +kernel
theorem zd_L_leastAlike_0 : decode zo_L_leastAlike 0 = .ok (.aload_n 0, 1) := by decide +kernel
theorem zd_L_leastAlike_1 : decode zo_L_leastAlike 1 = .ok (.aload_n 0, 1) := by decide +kernel
theorem zd_L_leastAlike_2 : decode zo_L_leastAlike 2 = .ok (.getfield 35, 3) := by decide +kernel
theorem zd_L_leastAlike_5 : decode zo_L_leastAlike 5 = .ok (.iload_n 1, 1) := by decide +kernel
theorem zd_L_leastAlike_6 : decode zo_L_leastAlike 6 = .ok (.invokevirtual 68, 3) := by decide +kernel
theorem zd_L_leastAlike_9 : decode zo_L_leastAlike 9 = .ok (.istore_n 2, 1) := by decide +kernel
theorem zd_L_leastAlike_10 : decode zo_L_leastAlike 10 = .ok (.iconst 0, 1) := by decide +kernel
theorem zd_L_leastAlike_11 : decode zo_L_leastAlike 11 = .ok (.istore_n 3, 1) := by decide +kernel
theorem zd_L_leastAlike_12 : decode zo_L_leastAlike 12 = .ok (.iload_n 3, 1) := by decide +kernel
theorem zd_L_leastAlike_13 : decode zo_L_leastAlike 13 = .ok (.iload_n 1, 1) := by decide +kernel
theorem zd_L_leastAlike_14 : decode zo_L_leastAlike 14 = .ok (.if_icmp .ge 19, 3) := by decide +kernel
theorem zd_L_leastAlike_17 : decode zo_L_leastAlike 17 = .ok (.iload_n 2, 1) := by decide +kernel
theorem zd_L_leastAlike_18 : decode zo_L_leastAlike 18 = .ok (.iload_n 3, 1) := by decide +kernel
theorem zd_L_leastAlike_19 : decode zo_L_leastAlike 19 = .ok (.invokestatic 54, 3) := by decide +kernel
theorem zd_L_leastAlike_22 : decode zo_L_leastAlike 22 = .ok (.ifCond .eq 5, 3) := by decide +kernel
theorem zd_L_leastAlike_25 : decode zo_L_leastAlike 25 = .ok (.iload_n 3, 1) := by decide +kernel
theorem zd_L_leastAlike_26 : decode zo_L_leastAlike 26 = .ok (.ireturn, 1) := by decide +kernel
theorem zd_L_leastAlike_27 : decode zo_L_leastAlike 27 = .ok (.iinc 3 1, 3) := by decide +kernel
theorem zd_L_leastAlike_30 : decode zo_L_leastAlike 30 = .ok (.goto (-18), 3) := by decide +kernel
theorem zd_L_leastAlike_33 : decode zo_L_leastAlike 33 = .ok (.iload_n 1, 1) := by decide +kernel
theorem zd_L_leastAlike_34 : decode zo_L_leastAlike 34 = .ok (.ireturn, 1) := by decide +kernel
theorem zd_L_alikeFor_0 : decode zo_L_alikeFor 0 = .ok (.aload_n 0, 1) := by decide +kernel
theorem zd_L_alikeFor_1 : decode zo_L_alikeFor 1 = .ok (.getfield 15, 3) := by decide +kernel
theorem zd_L_alikeFor_4 : decode zo_L_alikeFor 4 = .ok (.iload_n 1, 1) := by decide +kernel
theorem zd_L_alikeFor_5 : decode zo_L_alikeFor 5 = .ok (.bipush 24, 2) := by decide +kernel
theorem zd_L_alikeFor_7 : decode zo_L_alikeFor 7 = .ok (.imul, 1) := by decide +kernel
theorem zd_L_alikeFor_8 : decode zo_L_alikeFor 8 = .ok (.iload_n 2, 1) := by decide +kernel
theorem zd_L_alikeFor_9 : decode zo_L_alikeFor 9 = .ok (.iadd, 1) := by decide +kernel
theorem zd_L_alikeFor_10 : decode zo_L_alikeFor 10 = .ok (.iaload, 1) := by decide +kernel
theorem zd_L_alikeFor_11 : decode zo_L_alikeFor 11 = .ok (.ireturn, 1) := by decide +kernel
theorem zd_L_breachOf_0 : decode zo_L_breachOf 0 = .ok (.iconst 0, 1) := by decide +kernel
theorem zd_L_breachOf_1 : decode zo_L_breachOf 1 = .ok (.istore_n 3, 1) := by decide +kernel
theorem zd_L_breachOf_2 : decode zo_L_breachOf 2 = .ok (.iload_n 3, 1) := by decide +kernel
theorem zd_L_breachOf_3 : decode zo_L_breachOf 3 = .ok (.aload_n 0, 1) := by decide +kernel
theorem zd_L_breachOf_4 : decode zo_L_breachOf 4 = .ok (.getfield 35, 3) := by decide +kernel
theorem zd_L_breachOf_7 : decode zo_L_breachOf 7 = .ok (.if_icmp .gt 24, 3) := by decide +kernel
theorem zd_L_breachOf_10 : decode zo_L_breachOf 10 = .ok (.aload_n 0, 1) := by decide +kernel
theorem zd_L_breachOf_11 : decode zo_L_breachOf 11 = .ok (.iload_n 3, 1) := by decide +kernel
theorem zd_L_breachOf_12 : decode zo_L_breachOf 12 = .ok (.iload_n 1, 1) := by decide +kernel
theorem zd_L_breachOf_13 : decode zo_L_breachOf 13 = .ok (.invokevirtual 68, 3) := by decide +kernel
theorem zd_L_breachOf_16 : decode zo_L_breachOf 16 = .ok (.iload_n 2, 1) := by decide +kernel
theorem zd_L_breachOf_17 : decode zo_L_breachOf 17 = .ok (.invokestatic 54, 3) := by decide +kernel
theorem zd_L_breachOf_20 : decode zo_L_breachOf 20 = .ok (.ifCond .ne 5, 3) := by decide +kernel
theorem zd_L_breachOf_23 : decode zo_L_breachOf 23 = .ok (.iload_n 3, 1) := by decide +kernel
theorem zd_L_breachOf_24 : decode zo_L_breachOf 24 = .ok (.ireturn, 1) := by decide +kernel
theorem zd_L_breachOf_25 : decode zo_L_breachOf 25 = .ok (.iinc 3 1, 3) := by decide +kernel
theorem zd_L_breachOf_28 : decode zo_L_breachOf 28 = .ok (.goto (-26), 3) := by decide +kernel
theorem zd_L_breachOf_31 : decode zo_L_breachOf 31 = .ok (.iconst (-1), 1) := by decide +kernel
theorem zd_L_breachOf_32 : decode zo_L_breachOf 32 = .ok (.ireturn, 1) := by decide +kernel
theorem zd_L_kindCount_0 : decode zo_L_kindCount 0 = .ok (.aload_n 0, 1) := by decide +kernel
theorem zd_L_kindCount_1 : decode zo_L_kindCount 1 = .ok (.getfield 61, 3) := by decide +kernel
theorem zd_L_kindCount_4 : decode zo_L_kindCount 4 = .ok (.ireturn, 1) := by decide +kernel
theorem zd_L_kindOf_0 : decode zo_L_kindOf 0 = .ok (.aload_n 0, 1) := by decide +kernel
theorem zd_L_kindOf_1 : decode zo_L_kindOf 1 = .ok (.getfield 22, 3) := by decide +kernel
theorem zd_L_kindOf_4 : decode zo_L_kindOf 4 = .ok (.iload_n 1, 1) := by decide +kernel
theorem zd_L_kindOf_5 : decode zo_L_kindOf 5 = .ok (.iaload, 1) := by decide +kernel
theorem zd_L_kindOf_6 : decode zo_L_kindOf 6 = .ok (.ireturn, 1) := by decide +kernel
theorem zd_L_sizeOf_0 : decode zo_L_sizeOf 0 = .ok (.iconst 0, 1) := by decide +kernel
theorem zd_L_sizeOf_1 : decode zo_L_sizeOf 1 = .ok (.istore_n 2, 1) := by decide +kernel
theorem zd_L_sizeOf_2 : decode zo_L_sizeOf 2 = .ok (.iconst 0, 1) := by decide +kernel
theorem zd_L_sizeOf_3 : decode zo_L_sizeOf 3 = .ok (.istore_n 3, 1) := by decide +kernel
theorem zd_L_sizeOf_4 : decode zo_L_sizeOf 4 = .ok (.iload_n 3, 1) := by decide +kernel
theorem zd_L_sizeOf_5 : decode zo_L_sizeOf 5 = .ok (.bipush 24, 2) := by decide +kernel
theorem zd_L_sizeOf_7 : decode zo_L_sizeOf 7 = .ok (.if_icmp .ge 22, 3) := by decide +kernel
theorem zd_L_sizeOf_10 : decode zo_L_sizeOf 10 = .ok (.aload_n 0, 1) := by decide +kernel
theorem zd_L_sizeOf_11 : decode zo_L_sizeOf 11 = .ok (.getfield 22, 3) := by decide +kernel
theorem zd_L_sizeOf_14 : decode zo_L_sizeOf 14 = .ok (.iload_n 3, 1) := by decide +kernel
theorem zd_L_sizeOf_15 : decode zo_L_sizeOf 15 = .ok (.iaload, 1) := by decide +kernel
theorem zd_L_sizeOf_16 : decode zo_L_sizeOf 16 = .ok (.iload_n 1, 1) := by decide +kernel
theorem zd_L_sizeOf_17 : decode zo_L_sizeOf 17 = .ok (.if_icmp .ne 6, 3) := by decide +kernel
theorem zd_L_sizeOf_20 : decode zo_L_sizeOf 20 = .ok (.iinc 2 1, 3) := by decide +kernel
theorem zd_L_sizeOf_23 : decode zo_L_sizeOf 23 = .ok (.iinc 3 1, 3) := by decide +kernel
theorem zd_L_sizeOf_26 : decode zo_L_sizeOf 26 = .ok (.goto (-22), 3) := by decide +kernel
theorem zd_L_sizeOf_29 : decode zo_L_sizeOf 29 = .ok (.iload_n 2, 1) := by decide +kernel
theorem zd_L_sizeOf_30 : decode zo_L_sizeOf 30 = .ok (.ireturn, 1) := by decide +kernel
theorem zd_L_kindsReached_0 : decode zo_L_kindsReached 0 = .ok (.iconst 0, 1) := by decide +kernel
theorem zd_L_kindsReached_1 : decode zo_L_kindsReached 1 = .ok (.istore_n 3, 1) := by decide +kernel
theorem zd_L_kindsReached_2 : decode zo_L_kindsReached 2 = .ok (.iconst 0, 1) := by decide +kernel
theorem zd_L_kindsReached_3 : decode zo_L_kindsReached 3 = .ok (.istore 4, 2) := by decide +kernel
theorem zd_L_kindsReached_5 : decode zo_L_kindsReached 5 = .ok (.iload 4, 2) := by decide +kernel
theorem zd_L_kindsReached_7 : decode zo_L_kindsReached 7 = .ok (.bipush 24, 2) := by decide +kernel
theorem zd_L_kindsReached_9 : decode zo_L_kindsReached 9 = .ok (.if_icmp .ge 37, 3) := by decide +kernel
theorem zd_L_kindsReached_12 : decode zo_L_kindsReached 12 = .ok (.aload_n 0, 1) := by decide +kernel
theorem zd_L_kindsReached_13 : decode zo_L_kindsReached 13 = .ok (.getfield 22, 3) := by decide +kernel
theorem zd_L_kindsReached_16 : decode zo_L_kindsReached 16 = .ok (.iload 4, 2) := by decide +kernel
theorem zd_L_kindsReached_18 : decode zo_L_kindsReached 18 = .ok (.iaload, 1) := by decide +kernel
theorem zd_L_kindsReached_19 : decode zo_L_kindsReached 19 = .ok (.iload_n 1, 1) := by decide +kernel
theorem zd_L_kindsReached_20 : decode zo_L_kindsReached 20 = .ok (.if_icmp .ne 20, 3) := by decide +kernel
theorem zd_L_kindsReached_23 : decode zo_L_kindsReached 23 = .ok (.iload_n 3, 1) := by decide +kernel
theorem zd_L_kindsReached_24 : decode zo_L_kindsReached 24 = .ok (.aload_n 0, 1) := by decide +kernel
theorem zd_L_kindsReached_25 : decode zo_L_kindsReached 25 = .ok (.aload_n 0, 1) := by decide +kernel
theorem zd_L_kindsReached_26 : decode zo_L_kindsReached 26 = .ok (.getfield 9, 3) := by decide +kernel
theorem zd_L_kindsReached_29 : decode zo_L_kindsReached 29 = .ok (.iload 4, 2) := by decide +kernel
theorem zd_L_kindsReached_31 : decode zo_L_kindsReached 31 = .ok (.iload_n 2, 1) := by decide +kernel
theorem zd_L_kindsReached_32 : decode zo_L_kindsReached 32 = .ok (.invokevirtual 71, 3) := by decide +kernel
theorem zd_L_kindsReached_35 : decode zo_L_kindsReached 35 = .ok (.invokevirtual 74, 3) := by decide +kernel
theorem zd_L_kindsReached_38 : decode zo_L_kindsReached 38 = .ok (.ior, 1) := by decide +kernel
theorem zd_L_kindsReached_39 : decode zo_L_kindsReached 39 = .ok (.istore_n 3, 1) := by decide +kernel
theorem zd_L_kindsReached_40 : decode zo_L_kindsReached 40 = .ok (.iinc 4 1, 3) := by decide +kernel
theorem zd_L_kindsReached_43 : decode zo_L_kindsReached 43 = .ok (.goto (-38), 3) := by decide +kernel
theorem zd_L_kindsReached_46 : decode zo_L_kindsReached 46 = .ok (.iload_n 3, 1) := by decide +kernel
theorem zd_L_kindsReached_47 : decode zo_L_kindsReached 47 = .ok (.ireturn, 1) := by decide +kernel
theorem zd_L_kindsAmong_0 : decode zo_L_kindsAmong 0 = .ok (.iconst 0, 1) := by decide +kernel
theorem zd_L_kindsAmong_1 : decode zo_L_kindsAmong 1 = .ok (.istore_n 2, 1) := by decide +kernel
theorem zd_L_kindsAmong_2 : decode zo_L_kindsAmong 2 = .ok (.iconst 0, 1) := by decide +kernel
theorem zd_L_kindsAmong_3 : decode zo_L_kindsAmong 3 = .ok (.istore_n 3, 1) := by decide +kernel
theorem zd_L_kindsAmong_4 : decode zo_L_kindsAmong 4 = .ok (.iload_n 3, 1) := by decide +kernel
theorem zd_L_kindsAmong_5 : decode zo_L_kindsAmong 5 = .ok (.bipush 24, 2) := by decide +kernel
theorem zd_L_kindsAmong_7 : decode zo_L_kindsAmong 7 = .ok (.if_icmp .ge 28, 3) := by decide +kernel
theorem zd_L_kindsAmong_10 : decode zo_L_kindsAmong 10 = .ok (.iload_n 1, 1) := by decide +kernel
theorem zd_L_kindsAmong_11 : decode zo_L_kindsAmong 11 = .ok (.iload_n 3, 1) := by decide +kernel
theorem zd_L_kindsAmong_12 : decode zo_L_kindsAmong 12 = .ok (.invokestatic 54, 3) := by decide +kernel
theorem zd_L_kindsAmong_15 : decode zo_L_kindsAmong 15 = .ok (.ifCond .eq 14, 3) := by decide +kernel
theorem zd_L_kindsAmong_18 : decode zo_L_kindsAmong 18 = .ok (.iload_n 2, 1) := by decide +kernel
theorem zd_L_kindsAmong_19 : decode zo_L_kindsAmong 19 = .ok (.iconst 1, 1) := by decide +kernel
theorem zd_L_kindsAmong_20 : decode zo_L_kindsAmong 20 = .ok (.aload_n 0, 1) := by decide +kernel
theorem zd_L_kindsAmong_21 : decode zo_L_kindsAmong 21 = .ok (.getfield 22, 3) := by decide +kernel
theorem zd_L_kindsAmong_24 : decode zo_L_kindsAmong 24 = .ok (.iload_n 3, 1) := by decide +kernel
theorem zd_L_kindsAmong_25 : decode zo_L_kindsAmong 25 = .ok (.iaload, 1) := by decide +kernel
theorem zd_L_kindsAmong_26 : decode zo_L_kindsAmong 26 = .ok (.ishl, 1) := by decide +kernel
theorem zd_L_kindsAmong_27 : decode zo_L_kindsAmong 27 = .ok (.ior, 1) := by decide +kernel
theorem zd_L_kindsAmong_28 : decode zo_L_kindsAmong 28 = .ok (.istore_n 2, 1) := by decide +kernel
theorem zd_L_kindsAmong_29 : decode zo_L_kindsAmong 29 = .ok (.iinc 3 1, 3) := by decide +kernel
theorem zd_L_kindsAmong_32 : decode zo_L_kindsAmong 32 = .ok (.goto (-28), 3) := by decide +kernel
theorem zd_L_kindsAmong_35 : decode zo_L_kindsAmong 35 = .ok (.iload_n 2, 1) := by decide +kernel
theorem zd_L_kindsAmong_36 : decode zo_L_kindsAmong 36 = .ok (.ireturn, 1) := by decide +kernel
theorem zd_C_shrinks_0 : decode zo_C_shrinks 0 = .ok (.aload_n 0, 1) := by decide +kernel
theorem zd_C_shrinks_1 : decode zo_C_shrinks 1 = .ok (.getfield 9, 3) := by decide +kernel
theorem zd_C_shrinks_4 : decode zo_C_shrinks 4 = .ok (.aload_n 0, 1) := by decide +kernel
theorem zd_C_shrinks_5 : decode zo_C_shrinks 5 = .ok (.getfield 15, 3) := by decide +kernel
theorem zd_C_shrinks_8 : decode zo_C_shrinks 8 = .ok (.iconst 0, 1) := by decide +kernel
theorem zd_C_shrinks_9 : decode zo_C_shrinks 9 = .ok (.aload_n 0, 1) := by decide +kernel
theorem zd_C_shrinks_10 : decode zo_C_shrinks 10 = .ok (.getfield 19, 3) := by decide +kernel
theorem zd_C_shrinks_13 : decode zo_C_shrinks 13 = .ok (.invokevirtual 36, 3) := by decide +kernel
theorem zd_C_shrinks_16 : decode zo_C_shrinks 16 = .ok (.iconst 0, 1) := by decide +kernel
theorem zd_C_shrinks_17 : decode zo_C_shrinks 17 = .ok (.istore_n 1, 1) := by decide +kernel
theorem zd_C_shrinks_18 : decode zo_C_shrinks 18 = .ok (.iconst 0, 1) := by decide +kernel
theorem zd_C_shrinks_19 : decode zo_C_shrinks 19 = .ok (.istore_n 2, 1) := by decide +kernel
theorem zd_C_shrinks_20 : decode zo_C_shrinks 20 = .ok (.iload_n 2, 1) := by decide +kernel
theorem zd_C_shrinks_21 : decode zo_C_shrinks 21 = .ok (.bipush 24, 2) := by decide +kernel
theorem zd_C_shrinks_23 : decode zo_C_shrinks 23 = .ok (.if_icmp .ge 40, 3) := by decide +kernel
theorem zd_C_shrinks_26 : decode zo_C_shrinks 26 = .ok (.aload_n 0, 1) := by decide +kernel
theorem zd_C_shrinks_27 : decode zo_C_shrinks 27 = .ok (.iload_n 2, 1) := by decide +kernel
theorem zd_C_shrinks_28 : decode zo_C_shrinks 28 = .ok (.invokevirtual 40, 3) := by decide +kernel
theorem zd_C_shrinks_31 : decode zo_C_shrinks 31 = .ok (.istore_n 3, 1) := by decide +kernel
theorem zd_C_shrinks_32 : decode zo_C_shrinks 32 = .ok (.iload_n 1, 1) := by decide +kernel
theorem zd_C_shrinks_33 : decode zo_C_shrinks 33 = .ok (.iload_n 3, 1) := by decide +kernel
theorem zd_C_shrinks_34 : decode zo_C_shrinks 34 = .ok (.aload_n 0, 1) := by decide +kernel
theorem zd_C_shrinks_35 : decode zo_C_shrinks 35 = .ok (.getfield 15, 3) := by decide +kernel
theorem zd_C_shrinks_38 : decode zo_C_shrinks 38 = .ok (.iload_n 2, 1) := by decide +kernel
theorem zd_C_shrinks_39 : decode zo_C_shrinks 39 = .ok (.iaload, 1) := by decide +kernel
theorem zd_C_shrinks_40 : decode zo_C_shrinks 40 = .ok (.if_icmp .eq 7, 3) := by decide +kernel
theorem zd_C_shrinks_43 : decode zo_C_shrinks 43 = .ok (.iconst 1, 1) := by decide +kernel
theorem zd_C_shrinks_44 : decode zo_C_shrinks 44 = .ok (.goto 4, 3) := by decide +kernel
theorem zd_C_shrinks_47 : decode zo_C_shrinks 47 = .ok (.iconst 0, 1) := by decide +kernel
theorem zd_C_shrinks_48 : decode zo_C_shrinks 48 = .ok (.ior, 1) := by decide +kernel
theorem zd_C_shrinks_49 : decode zo_C_shrinks 49 = .ok (.istore_n 1, 1) := by decide +kernel
theorem zd_C_shrinks_50 : decode zo_C_shrinks 50 = .ok (.aload_n 0, 1) := by decide +kernel
theorem zd_C_shrinks_51 : decode zo_C_shrinks 51 = .ok (.getfield 15, 3) := by decide +kernel
theorem zd_C_shrinks_54 : decode zo_C_shrinks 54 = .ok (.iload_n 2, 1) := by decide +kernel
theorem zd_C_shrinks_55 : decode zo_C_shrinks 55 = .ok (.iload_n 3, 1) := by decide +kernel
theorem zd_C_shrinks_56 : decode zo_C_shrinks 56 = .ok (.iastore, 1) := by decide +kernel
theorem zd_C_shrinks_57 : decode zo_C_shrinks 57 = .ok (.iinc 2 1, 3) := by decide +kernel
theorem zd_C_shrinks_60 : decode zo_C_shrinks 60 = .ok (.goto (-40), 3) := by decide +kernel
theorem zd_C_shrinks_63 : decode zo_C_shrinks 63 = .ok (.iload_n 1, 1) := by decide +kernel
theorem zd_C_shrinks_64 : decode zo_C_shrinks 64 = .ok (.ireturn, 1) := by decide +kernel
theorem zd_C_stillBelow_0 : decode zo_C_stillBelow 0 = .ok (.iconst 0, 1) := by decide +kernel
theorem zd_C_stillBelow_1 : decode zo_C_stillBelow 1 = .ok (.istore_n 2, 1) := by decide +kernel
theorem zd_C_stillBelow_2 : decode zo_C_stillBelow 2 = .ok (.iconst 0, 1) := by decide +kernel
theorem zd_C_stillBelow_3 : decode zo_C_stillBelow 3 = .ok (.istore_n 3, 1) := by decide +kernel
theorem zd_C_stillBelow_4 : decode zo_C_stillBelow 4 = .ok (.iload_n 3, 1) := by decide +kernel
theorem zd_C_stillBelow_5 : decode zo_C_stillBelow 5 = .ok (.bipush 24, 2) := by decide +kernel
theorem zd_C_stillBelow_7 : decode zo_C_stillBelow 7 = .ok (.if_icmp .ge 37, 3) := by decide +kernel
theorem zd_C_stillBelow_10 : decode zo_C_stillBelow 10 = .ok (.aload_n 0, 1) := by decide +kernel
theorem zd_C_stillBelow_11 : decode zo_C_stillBelow 11 = .ok (.getfield 15, 3) := by decide +kernel
theorem zd_C_stillBelow_14 : decode zo_C_stillBelow 14 = .ok (.iload_n 1, 1) := by decide +kernel
theorem zd_C_stillBelow_15 : decode zo_C_stillBelow 15 = .ok (.iaload, 1) := by decide +kernel
theorem zd_C_stillBelow_16 : decode zo_C_stillBelow 16 = .ok (.iload_n 3, 1) := by decide +kernel
theorem zd_C_stillBelow_17 : decode zo_C_stillBelow 17 = .ok (.invokestatic 44, 3) := by decide +kernel
theorem zd_C_stillBelow_20 : decode zo_C_stillBelow 20 = .ok (.ifCond .eq 18, 3) := by decide +kernel
theorem zd_C_stillBelow_23 : decode zo_C_stillBelow 23 = .ok (.aload_n 0, 1) := by decide +kernel
theorem zd_C_stillBelow_24 : decode zo_C_stillBelow 24 = .ok (.iload_n 1, 1) := by decide +kernel
theorem zd_C_stillBelow_25 : decode zo_C_stillBelow 25 = .ok (.iload_n 3, 1) := by decide +kernel
theorem zd_C_stillBelow_26 : decode zo_C_stillBelow 26 = .ok (.invokevirtual 48, 3) := by decide +kernel
theorem zd_C_stillBelow_29 : decode zo_C_stillBelow 29 = .ok (.ifCond .eq 9, 3) := by decide +kernel
theorem zd_C_stillBelow_32 : decode zo_C_stillBelow 32 = .ok (.iload_n 2, 1) := by decide +kernel
theorem zd_C_stillBelow_33 : decode zo_C_stillBelow 33 = .ok (.iconst 1, 1) := by decide +kernel
theorem zd_C_stillBelow_34 : decode zo_C_stillBelow 34 = .ok (.iload_n 3, 1) := by decide +kernel
theorem zd_C_stillBelow_35 : decode zo_C_stillBelow 35 = .ok (.ishl, 1) := by decide +kernel
theorem zd_C_stillBelow_36 : decode zo_C_stillBelow 36 = .ok (.ior, 1) := by decide +kernel
theorem zd_C_stillBelow_37 : decode zo_C_stillBelow 37 = .ok (.istore_n 2, 1) := by decide +kernel
theorem zd_C_stillBelow_38 : decode zo_C_stillBelow 38 = .ok (.iinc 3 1, 3) := by decide +kernel
theorem zd_C_stillBelow_41 : decode zo_C_stillBelow 41 = .ok (.goto (-37), 3) := by decide +kernel
theorem zd_C_stillBelow_44 : decode zo_C_stillBelow 44 = .ok (.iload_n 2, 1) := by decide +kernel
theorem zd_C_stillBelow_45 : decode zo_C_stillBelow 45 = .ok (.ireturn, 1) := by decide +kernel
theorem zd_C_canFollow_0 : decode zo_C_canFollow 0 = .ok (.iconst 0, 1) := by decide +kernel
theorem zd_C_canFollow_1 : decode zo_C_canFollow 1 = .ok (.istore_n 3, 1) := by decide +kernel
theorem zd_C_canFollow_2 : decode zo_C_canFollow 2 = .ok (.iload_n 3, 1) := by decide +kernel
theorem zd_C_canFollow_3 : decode zo_C_canFollow 3 = .ok (.iconst 4, 1) := by decide +kernel
theorem zd_C_canFollow_4 : decode zo_C_canFollow 4 = .ok (.if_icmp .ge 36, 3) := by decide +kernel
theorem zd_C_canFollow_7 : decode zo_C_canFollow 7 = .ok (.aload_n 0, 1) := by decide +kernel
theorem zd_C_canFollow_8 : decode zo_C_canFollow 8 = .ok (.getfield 9, 3) := by decide +kernel
theorem zd_C_canFollow_11 : decode zo_C_canFollow 11 = .ok (.iload_n 2, 1) := by decide +kernel
theorem zd_C_canFollow_12 : decode zo_C_canFollow 12 = .ok (.iload_n 3, 1) := by decide +kernel
theorem zd_C_canFollow_13 : decode zo_C_canFollow 13 = .ok (.invokevirtual 51, 3) := by decide +kernel
theorem zd_C_canFollow_16 : decode zo_C_canFollow 16 = .ok (.aload_n 0, 1) := by decide +kernel
theorem zd_C_canFollow_17 : decode zo_C_canFollow 17 = .ok (.getfield 19, 3) := by decide +kernel
theorem zd_C_canFollow_20 : decode zo_C_canFollow 20 = .ok (.iload_n 1, 1) := by decide +kernel
theorem zd_C_canFollow_21 : decode zo_C_canFollow 21 = .ok (.iconst 4, 1) := by decide +kernel
theorem zd_C_canFollow_22 : decode zo_C_canFollow 22 = .ok (.imul, 1) := by decide +kernel
theorem zd_C_canFollow_23 : decode zo_C_canFollow 23 = .ok (.iload_n 3, 1) := by decide +kernel
theorem zd_C_canFollow_24 : decode zo_C_canFollow 24 = .ok (.iadd, 1) := by decide +kernel
theorem zd_C_canFollow_25 : decode zo_C_canFollow 25 = .ok (.iaload, 1) := by decide +kernel
theorem zd_C_canFollow_26 : decode zo_C_canFollow 26 = .ok (.iconst (-1), 1) := by decide +kernel
theorem zd_C_canFollow_27 : decode zo_C_canFollow 27 = .ok (.ixor, 1) := by decide +kernel
theorem zd_C_canFollow_28 : decode zo_C_canFollow 28 = .ok (.iand, 1) := by decide +kernel
theorem zd_C_canFollow_29 : decode zo_C_canFollow 29 = .ok (.ifCond .eq 5, 3) := by decide +kernel
theorem zd_C_canFollow_32 : decode zo_C_canFollow 32 = .ok (.iconst 0, 1) := by decide +kernel
theorem zd_C_canFollow_33 : decode zo_C_canFollow 33 = .ok (.ireturn, 1) := by decide +kernel
theorem zd_C_canFollow_34 : decode zo_C_canFollow 34 = .ok (.iinc 3 1, 3) := by decide +kernel
theorem zd_C_canFollow_37 : decode zo_C_canFollow 37 = .ok (.goto (-35), 3) := by decide +kernel
theorem zd_C_canFollow_40 : decode zo_C_canFollow 40 = .ok (.iconst 1, 1) := by decide +kernel
theorem zd_C_canFollow_41 : decode zo_C_canFollow 41 = .ok (.ireturn, 1) := by decide +kernel
theorem zd_C_belowOf_0 : decode zo_C_belowOf 0 = .ok (.aload_n 0, 1) := by decide +kernel
theorem zd_C_belowOf_1 : decode zo_C_belowOf 1 = .ok (.getfield 15, 3) := by decide +kernel
theorem zd_C_belowOf_4 : decode zo_C_belowOf 4 = .ok (.iload_n 1, 1) := by decide +kernel
theorem zd_C_belowOf_5 : decode zo_C_belowOf 5 = .ok (.iaload, 1) := by decide +kernel
theorem zd_C_belowOf_6 : decode zo_C_belowOf 6 = .ok (.ireturn, 1) := by decide +kernel
theorem zd_G_countOf_0 : decode zo_G_countOf 0 = .ok (.iconst 0, 1) := by decide +kernel
theorem zd_G_countOf_1 : decode zo_G_countOf 1 = .ok (.istore 4, 2) := by decide +kernel
theorem zd_G_countOf_3 : decode zo_G_countOf 3 = .ok (.iconst 0, 1) := by decide +kernel
theorem zd_G_countOf_4 : decode zo_G_countOf 4 = .ok (.istore 5, 2) := by decide +kernel
theorem zd_G_countOf_6 : decode zo_G_countOf 6 = .ok (.iload 5, 2) := by decide +kernel
theorem zd_G_countOf_8 : decode zo_G_countOf 8 = .ok (.iconst 4, 1) := by decide +kernel
theorem zd_G_countOf_9 : decode zo_G_countOf 9 = .ok (.if_icmp .ge 42, 3) := by decide +kernel
theorem zd_G_countOf_12 : decode zo_G_countOf 12 = .ok (.iconst 0, 1) := by decide +kernel
theorem zd_G_countOf_13 : decode zo_G_countOf 13 = .ok (.istore 6, 2) := by decide +kernel
theorem zd_G_countOf_15 : decode zo_G_countOf 15 = .ok (.iload 6, 2) := by decide +kernel
theorem zd_G_countOf_17 : decode zo_G_countOf 17 = .ok (.bipush 24, 2) := by decide +kernel
theorem zd_G_countOf_19 : decode zo_G_countOf 19 = .ok (.if_icmp .ge 26, 3) := by decide +kernel
theorem zd_G_countOf_22 : decode zo_G_countOf 22 = .ok (.aload_n 0, 1) := by decide +kernel
theorem zd_G_countOf_23 : decode zo_G_countOf 23 = .ok (.iload_n 1, 1) := by decide +kernel
theorem zd_G_countOf_24 : decode zo_G_countOf 24 = .ok (.iload_n 2, 1) := by decide +kernel
theorem zd_G_countOf_25 : decode zo_G_countOf 25 = .ok (.iload 5, 2) := by decide +kernel
theorem zd_G_countOf_27 : decode zo_G_countOf 27 = .ok (.iload 6, 2) := by decide +kernel
theorem zd_G_countOf_29 : decode zo_G_countOf 29 = .ok (.iload_n 3, 1) := by decide +kernel
theorem zd_G_countOf_30 : decode zo_G_countOf 30 = .ok (.invokevirtual 39, 3) := by decide +kernel
theorem zd_G_countOf_33 : decode zo_G_countOf 33 = .ok (.ifCond .eq 6, 3) := by decide +kernel
theorem zd_G_countOf_36 : decode zo_G_countOf 36 = .ok (.iinc 4 1, 3) := by decide +kernel
theorem zd_G_countOf_39 : decode zo_G_countOf 39 = .ok (.iinc 6 1, 3) := by decide +kernel
theorem zd_G_countOf_42 : decode zo_G_countOf 42 = .ok (.goto (-27), 3) := by decide +kernel
theorem zd_G_countOf_45 : decode zo_G_countOf 45 = .ok (.iinc 5 1, 3) := by decide +kernel
theorem zd_G_countOf_48 : decode zo_G_countOf 48 = .ok (.goto (-42), 3) := by decide +kernel
theorem zd_G_countOf_51 : decode zo_G_countOf 51 = .ok (.iload 4, 2) := by decide +kernel
theorem zd_G_countOf_53 : decode zo_G_countOf 53 = .ok (.ireturn, 1) := by decide +kernel
theorem zd_G_isAttack_0 : decode zo_G_isAttack 0 = .ok (.aload_n 0, 1) := by decide +kernel
theorem zd_G_isAttack_1 : decode zo_G_isAttack 1 = .ok (.getfield 9, 3) := by decide +kernel
theorem zd_G_isAttack_4 : decode zo_G_isAttack 4 = .ok (.iload_n 1, 1) := by decide +kernel
theorem zd_G_isAttack_5 : decode zo_G_isAttack 5 = .ok (.iload_n 3, 1) := by decide +kernel
theorem zd_G_isAttack_6 : decode zo_G_isAttack 6 = .ok (.invokevirtual 43, 3) := by decide +kernel
theorem zd_G_isAttack_9 : decode zo_G_isAttack 9 = .ok (.iload 4, 2) := by decide +kernel
theorem zd_G_isAttack_11 : decode zo_G_isAttack 11 = .ok (.invokestatic 48, 3) := by decide +kernel
theorem zd_G_isAttack_14 : decode zo_G_isAttack 14 = .ok (.ifCond .eq 31, 3) := by decide +kernel
theorem zd_G_isAttack_17 : decode zo_G_isAttack 17 = .ok (.aload_n 0, 1) := by decide +kernel
theorem zd_G_isAttack_18 : decode zo_G_isAttack 18 = .ok (.getfield 15, 3) := by decide +kernel
theorem zd_G_isAttack_21 : decode zo_G_isAttack 21 = .ok (.iload 5, 2) := by decide +kernel
theorem zd_G_isAttack_23 : decode zo_G_isAttack 23 = .ok (.iload 4, 2) := by decide +kernel
theorem zd_G_isAttack_25 : decode zo_G_isAttack 25 = .ok (.invokevirtual 52, 3) := by decide +kernel
theorem zd_G_isAttack_28 : decode zo_G_isAttack 28 = .ok (.aload_n 0, 1) := by decide +kernel
theorem zd_G_isAttack_29 : decode zo_G_isAttack 29 = .ok (.getfield 9, 3) := by decide +kernel
theorem zd_G_isAttack_32 : decode zo_G_isAttack 32 = .ok (.iload_n 2, 1) := by decide +kernel
theorem zd_G_isAttack_33 : decode zo_G_isAttack 33 = .ok (.iload_n 3, 1) := by decide +kernel
theorem zd_G_isAttack_34 : decode zo_G_isAttack 34 = .ok (.invokevirtual 43, 3) := by decide +kernel
theorem zd_G_isAttack_37 : decode zo_G_isAttack 37 = .ok (.iand, 1) := by decide +kernel
theorem zd_G_isAttack_38 : decode zo_G_isAttack 38 = .ok (.ifCond .ne 7, 3) := by decide +kernel
theorem zd_G_isAttack_41 : decode zo_G_isAttack 41 = .ok (.iconst 1, 1) := by decide +kernel
theorem zd_G_isAttack_42 : decode zo_G_isAttack 42 = .ok (.goto 4, 3) := by decide +kernel
theorem zd_G_isAttack_45 : decode zo_G_isAttack 45 = .ok (.iconst 0, 1) := by decide +kernel
theorem zd_G_isAttack_46 : decode zo_G_isAttack 46 = .ok (.ireturn, 1) := by decide +kernel
theorem zd_G_firstOf_0 : decode zo_G_firstOf 0 = .ok (.iconst 0, 1) := by decide +kernel
theorem zd_G_firstOf_1 : decode zo_G_firstOf 1 = .ok (.istore 4, 2) := by decide +kernel
theorem zd_G_firstOf_3 : decode zo_G_firstOf 3 = .ok (.iload 4, 2) := by decide +kernel
theorem zd_G_firstOf_5 : decode zo_G_firstOf 5 = .ok (.iconst 4, 1) := by decide +kernel
theorem zd_G_firstOf_6 : decode zo_G_firstOf 6 = .ok (.if_icmp .ge 48, 3) := by decide +kernel
theorem zd_G_firstOf_9 : decode zo_G_firstOf 9 = .ok (.iconst 0, 1) := by decide +kernel
theorem zd_G_firstOf_10 : decode zo_G_firstOf 10 = .ok (.istore 5, 2) := by decide +kernel
theorem zd_G_firstOf_12 : decode zo_G_firstOf 12 = .ok (.iload 5, 2) := by decide +kernel
theorem zd_G_firstOf_14 : decode zo_G_firstOf 14 = .ok (.bipush 24, 2) := by decide +kernel
theorem zd_G_firstOf_16 : decode zo_G_firstOf 16 = .ok (.if_icmp .ge 32, 3) := by decide +kernel
theorem zd_G_firstOf_19 : decode zo_G_firstOf 19 = .ok (.aload_n 0, 1) := by decide +kernel
theorem zd_G_firstOf_20 : decode zo_G_firstOf 20 = .ok (.iload_n 1, 1) := by decide +kernel
theorem zd_G_firstOf_21 : decode zo_G_firstOf 21 = .ok (.iload_n 2, 1) := by decide +kernel
theorem zd_G_firstOf_22 : decode zo_G_firstOf 22 = .ok (.iload 4, 2) := by decide +kernel
theorem zd_G_firstOf_24 : decode zo_G_firstOf 24 = .ok (.iload 5, 2) := by decide +kernel
theorem zd_G_firstOf_26 : decode zo_G_firstOf 26 = .ok (.iload_n 3, 1) := by decide +kernel
theorem zd_G_firstOf_27 : decode zo_G_firstOf 27 = .ok (.invokevirtual 39, 3) := by decide +kernel
theorem zd_G_firstOf_30 : decode zo_G_firstOf 30 = .ok (.ifCond .eq 12, 3) := by decide +kernel
theorem zd_G_firstOf_33 : decode zo_G_firstOf 33 = .ok (.iload 4, 2) := by decide +kernel
theorem zd_G_firstOf_35 : decode zo_G_firstOf 35 = .ok (.bipush 100, 2) := by decide +kernel
theorem zd_G_firstOf_37 : decode zo_G_firstOf 37 = .ok (.imul, 1) := by decide +kernel
theorem zd_G_firstOf_38 : decode zo_G_firstOf 38 = .ok (.iload 5, 2) := by decide +kernel
theorem zd_G_firstOf_40 : decode zo_G_firstOf 40 = .ok (.iadd, 1) := by decide +kernel
theorem zd_G_firstOf_41 : decode zo_G_firstOf 41 = .ok (.ireturn, 1) := by decide +kernel
theorem zd_G_firstOf_42 : decode zo_G_firstOf 42 = .ok (.iinc 5 1, 3) := by decide +kernel
theorem zd_G_firstOf_45 : decode zo_G_firstOf 45 = .ok (.goto (-33), 3) := by decide +kernel
theorem zd_G_firstOf_48 : decode zo_G_firstOf 48 = .ok (.iinc 4 1, 3) := by decide +kernel
theorem zd_G_firstOf_51 : decode zo_G_firstOf 51 = .ok (.goto (-48), 3) := by decide +kernel
theorem zd_G_firstOf_54 : decode zo_G_firstOf 54 = .ok (.iconst (-1), 1) := by decide +kernel
theorem zd_G_firstOf_55 : decode zo_G_firstOf 55 = .ok (.ireturn, 1) := by decide +kernel
theorem zd_G_bestAnswer_0 : decode zo_G_bestAnswer 0 = .ok (.aload_n 0, 1) := by decide +kernel
theorem zd_G_bestAnswer_1 : decode zo_G_bestAnswer 1 = .ok (.getfield 9, 3) := by decide +kernel
theorem zd_G_bestAnswer_4 : decode zo_G_bestAnswer 4 = .ok (.iload_n 1, 1) := by decide +kernel
theorem zd_G_bestAnswer_5 : decode zo_G_bestAnswer 5 = .ok (.iload_n 2, 1) := by decide +kernel
theorem zd_G_bestAnswer_6 : decode zo_G_bestAnswer 6 = .ok (.bipush 100, 2) := by decide +kernel
theorem zd_G_bestAnswer_8 : decode zo_G_bestAnswer 8 = .ok (.idiv, 1) := by decide +kernel
theorem zd_G_bestAnswer_9 : decode zo_G_bestAnswer 9 = .ok (.invokevirtual 43, 3) := by decide +kernel
theorem zd_G_bestAnswer_12 : decode zo_G_bestAnswer 12 = .ok (.istore_n 3, 1) := by decide +kernel
theorem zd_G_bestAnswer_13 : decode zo_G_bestAnswer 13 = .ok (.iload_n 2, 1) := by decide +kernel
theorem zd_G_bestAnswer_14 : decode zo_G_bestAnswer 14 = .ok (.bipush 100, 2) := by decide +kernel
theorem zd_G_bestAnswer_16 : decode zo_G_bestAnswer 16 = .ok (.irem, 1) := by decide +kernel
theorem zd_G_bestAnswer_17 : decode zo_G_bestAnswer 17 = .ok (.istore 4, 2) := by decide +kernel
theorem zd_G_bestAnswer_19 : decode zo_G_bestAnswer 19 = .ok (.iconst (-1), 1) := by decide +kernel
theorem zd_G_bestAnswer_20 : decode zo_G_bestAnswer 20 = .ok (.istore 5, 2) := by decide +kernel
theorem zd_G_bestAnswer_22 : decode zo_G_bestAnswer 22 = .ok (.iconst (-1), 1) := by decide +kernel
theorem zd_G_bestAnswer_23 : decode zo_G_bestAnswer 23 = .ok (.istore 6, 2) := by decide +kernel
theorem zd_G_bestAnswer_25 : decode zo_G_bestAnswer 25 = .ok (.iconst 0, 1) := by decide +kernel
theorem zd_G_bestAnswer_26 : decode zo_G_bestAnswer 26 = .ok (.istore 7, 2) := by decide +kernel
theorem zd_G_bestAnswer_28 : decode zo_G_bestAnswer 28 = .ok (.iload 7, 2) := by decide +kernel
theorem zd_G_bestAnswer_30 : decode zo_G_bestAnswer 30 = .ok (.bipush 24, 2) := by decide +kernel
theorem zd_G_bestAnswer_32 : decode zo_G_bestAnswer 32 = .ok (.if_icmp .ge 50, 3) := by decide +kernel
theorem zd_G_bestAnswer_35 : decode zo_G_bestAnswer 35 = .ok (.iload_n 3, 1) := by decide +kernel
theorem zd_G_bestAnswer_36 : decode zo_G_bestAnswer 36 = .ok (.iload 7, 2) := by decide +kernel
theorem zd_G_bestAnswer_38 : decode zo_G_bestAnswer 38 = .ok (.invokestatic 48, 3) := by decide +kernel
theorem zd_G_bestAnswer_41 : decode zo_G_bestAnswer 41 = .ok (.ifCond .eq 17, 3) := by decide +kernel
theorem zd_G_bestAnswer_44 : decode zo_G_bestAnswer 44 = .ok (.aload_n 0, 1) := by decide +kernel
theorem zd_G_bestAnswer_45 : decode zo_G_bestAnswer 45 = .ok (.getfield 15, 3) := by decide +kernel
theorem zd_G_bestAnswer_48 : decode zo_G_bestAnswer 48 = .ok (.iload 4, 2) := by decide +kernel
theorem zd_G_bestAnswer_50 : decode zo_G_bestAnswer 50 = .ok (.iload 7, 2) := by decide +kernel
theorem zd_G_bestAnswer_52 : decode zo_G_bestAnswer 52 = .ok (.invokevirtual 29, 3) := by decide +kernel
theorem zd_G_bestAnswer_55 : decode zo_G_bestAnswer 55 = .ok (.goto 4, 3) := by decide +kernel
theorem zd_G_bestAnswer_58 : decode zo_G_bestAnswer 58 = .ok (.iconst (-1), 1) := by decide +kernel
theorem zd_G_bestAnswer_59 : decode zo_G_bestAnswer 59 = .ok (.istore 8, 2) := by decide +kernel
theorem zd_G_bestAnswer_61 : decode zo_G_bestAnswer 61 = .ok (.iload 8, 2) := by decide +kernel
theorem zd_G_bestAnswer_63 : decode zo_G_bestAnswer 63 = .ok (.iload 6, 2) := by decide +kernel
theorem zd_G_bestAnswer_65 : decode zo_G_bestAnswer 65 = .ok (.if_icmp .le 11, 3) := by decide +kernel
theorem zd_G_bestAnswer_68 : decode zo_G_bestAnswer 68 = .ok (.iload 7, 2) := by decide +kernel
theorem zd_G_bestAnswer_70 : decode zo_G_bestAnswer 70 = .ok (.istore 5, 2) := by decide +kernel
theorem zd_G_bestAnswer_72 : decode zo_G_bestAnswer 72 = .ok (.iload 8, 2) := by decide +kernel
theorem zd_G_bestAnswer_74 : decode zo_G_bestAnswer 74 = .ok (.istore 6, 2) := by decide +kernel
theorem zd_G_bestAnswer_76 : decode zo_G_bestAnswer 76 = .ok (.iinc 7 1, 3) := by decide +kernel
theorem zd_G_bestAnswer_79 : decode zo_G_bestAnswer 79 = .ok (.goto (-51), 3) := by decide +kernel
theorem zd_G_bestAnswer_82 : decode zo_G_bestAnswer 82 = .ok (.iload 5, 2) := by decide +kernel
theorem zd_G_bestAnswer_84 : decode zo_G_bestAnswer 84 = .ok (.ireturn, 1) := by decide +kernel
theorem zd_G_attackAt_0 : decode zo_G_attackAt 0 = .ok (.aload_n 0, 1) := by decide +kernel
theorem zd_G_attackAt_1 : decode zo_G_attackAt 1 = .ok (.getfield 23, 3) := by decide +kernel
theorem zd_G_attackAt_4 : decode zo_G_attackAt 4 = .ok (.iload_n 1, 1) := by decide +kernel
theorem zd_G_attackAt_5 : decode zo_G_attackAt 5 = .ok (.iaload, 1) := by decide +kernel
theorem zd_G_attackAt_6 : decode zo_G_attackAt 6 = .ok (.ireturn, 1) := by decide +kernel
theorem zd_G_answerAt_0 : decode zo_G_answerAt 0 = .ok (.aload_n 0, 1) := by decide +kernel
theorem zd_G_answerAt_1 : decode zo_G_answerAt 1 = .ok (.getfield 26, 3) := by decide +kernel
theorem zd_G_answerAt_4 : decode zo_G_answerAt 4 = .ok (.iload_n 1, 1) := by decide +kernel
theorem zd_G_answerAt_5 : decode zo_G_answerAt 5 = .ok (.iaload, 1) := by decide +kernel
theorem zd_G_answerAt_6 : decode zo_G_answerAt 6 = .ok (.ireturn, 1) := by decide +kernel
end
section
theorem zd_X_init_0 : decode zo_X_init 0 = .ok (.aload_n 0, 1) := by decide +kernel
theorem zd_X_init_1 : decode zo_X_init 1 = .ok (.invokespecial 1, 3) := by decide +kernel
theorem zd_X_init_4 : decode zo_X_init 4 = .ok (.aload_n 0, 1) := by decide +kernel
theorem zd_X_init_5 : decode zo_X_init 5 = .ok (.new 7, 3) := by decide +kernel
theorem zd_X_init_8 : decode zo_X_init 8 = .ok (.dup, 1) := by decide +kernel
theorem zd_X_init_9 : decode zo_X_init 9 = .ok (.invokespecial 9, 3) := by decide +kernel
theorem zd_X_init_12 : decode zo_X_init 12 = .ok (.putfield 10, 3) := by decide +kernel
theorem zd_X_init_15 : decode zo_X_init 15 = .ok (.aload_n 0, 1) := by decide +kernel
theorem zd_X_init_16 : decode zo_X_init 16 = .ok (.new 16, 3) := by decide +kernel
theorem zd_X_init_19 : decode zo_X_init 19 = .ok (.dup, 1) := by decide +kernel
theorem zd_X_init_20 : decode zo_X_init 20 = .ok (.aload_n 0, 1) := by decide +kernel
theorem zd_X_init_21 : decode zo_X_init 21 = .ok (.getfield 10, 3) := by decide +kernel
theorem zd_X_init_24 : decode zo_X_init 24 = .ok (.invokespecial 18, 3) := by decide +kernel
theorem zd_X_init_27 : decode zo_X_init 27 = .ok (.putfield 21, 3) := by decide +kernel
theorem zd_X_init_30 : decode zo_X_init 30 = .ok (.aload_n 0, 1) := by decide +kernel
theorem zd_X_init_31 : decode zo_X_init 31 = .ok (.new 25, 3) := by decide +kernel
theorem zd_X_init_34 : decode zo_X_init 34 = .ok (.dup, 1) := by decide +kernel
theorem zd_X_init_35 : decode zo_X_init 35 = .ok (.aload_n 0, 1) := by decide +kernel
theorem zd_X_init_36 : decode zo_X_init 36 = .ok (.getfield 10, 3) := by decide +kernel
theorem zd_X_init_39 : decode zo_X_init 39 = .ok (.invokespecial 27, 3) := by decide +kernel
theorem zd_X_init_42 : decode zo_X_init 42 = .ok (.putfield 28, 3) := by decide +kernel
theorem zd_X_init_45 : decode zo_X_init 45 = .ok (.aload_n 0, 1) := by decide +kernel
theorem zd_X_init_46 : decode zo_X_init 46 = .ok (.new 32, 3) := by decide +kernel
theorem zd_X_init_49 : decode zo_X_init 49 = .ok (.dup, 1) := by decide +kernel
theorem zd_X_init_50 : decode zo_X_init 50 = .ok (.aload_n 0, 1) := by decide +kernel
theorem zd_X_init_51 : decode zo_X_init 51 = .ok (.getfield 10, 3) := by decide +kernel
theorem zd_X_init_54 : decode zo_X_init 54 = .ok (.aload_n 0, 1) := by decide +kernel
theorem zd_X_init_55 : decode zo_X_init 55 = .ok (.getfield 21, 3) := by decide +kernel
theorem zd_X_init_58 : decode zo_X_init 58 = .ok (.invokespecial 34, 3) := by decide +kernel
theorem zd_X_init_61 : decode zo_X_init 61 = .ok (.putfield 37, 3) := by decide +kernel
theorem zd_X_init_64 : decode zo_X_init 64 = .ok (.return_, 1) := by decide +kernel
theorem zd_N_init_0 : decode zo_N_init 0 = .ok (.aload_n 0, 1) := by decide +kernel
theorem zd_N_init_1 : decode zo_N_init 1 = .ok (.invokespecial 3, 3) := by decide +kernel
theorem zd_N_init_4 : decode zo_N_init 4 = .ok (.aload_n 0, 1) := by decide +kernel
theorem zd_N_init_5 : decode zo_N_init 5 = .ok (.bipush 96, 2) := by decide +kernel
theorem zd_N_init_7 : decode zo_N_init 7 = .ok (.newarray .int, 2) := by decide +kernel
theorem zd_N_init_9 : decode zo_N_init 9 = .ok (.putfield 9, 3) := by decide +kernel
theorem zd_N_init_12 : decode zo_N_init 12 = .ok (.aload_n 0, 1) := by decide +kernel
theorem zd_N_init_13 : decode zo_N_init 13 = .ok (.bipush 24, 2) := by decide +kernel
theorem zd_N_init_15 : decode zo_N_init 15 = .ok (.newarray .int, 2) := by decide +kernel
theorem zd_N_init_17 : decode zo_N_init 17 = .ok (.putfield 15, 3) := by decide +kernel
theorem zd_N_init_20 : decode zo_N_init 20 = .ok (.return_, 1) := by decide +kernel
theorem zd_L_init_0 : decode zo_L_init 0 = .ok (.aload_n 0, 1) := by decide +kernel
theorem zd_L_init_1 : decode zo_L_init 1 = .ok (.invokespecial 3, 3) := by decide +kernel
theorem zd_L_init_4 : decode zo_L_init 4 = .ok (.aload_n 0, 1) := by decide +kernel
theorem zd_L_init_5 : decode zo_L_init 5 = .ok (.aload_n 1, 1) := by decide +kernel
theorem zd_L_init_6 : decode zo_L_init 6 = .ok (.putfield 9, 3) := by decide +kernel
theorem zd_L_init_9 : decode zo_L_init 9 = .ok (.aload_n 0, 1) := by decide +kernel
theorem zd_L_init_10 : decode zo_L_init 10 = .ok (.sipush 576, 3) := by decide +kernel
theorem zd_L_init_13 : decode zo_L_init 13 = .ok (.newarray .int, 2) := by decide +kernel
theorem zd_L_init_15 : decode zo_L_init 15 = .ok (.putfield 15, 3) := by decide +kernel
theorem zd_L_init_18 : decode zo_L_init 18 = .ok (.aload_n 0, 1) := by decide +kernel
theorem zd_L_init_19 : decode zo_L_init 19 = .ok (.bipush 96, 2) := by decide +kernel
theorem zd_L_init_21 : decode zo_L_init 21 = .ok (.newarray .int, 2) := by decide +kernel
theorem zd_L_init_23 : decode zo_L_init 23 = .ok (.putfield 19, 3) := by decide +kernel
theorem zd_L_init_26 : decode zo_L_init 26 = .ok (.aload_n 0, 1) := by decide +kernel
theorem zd_L_init_27 : decode zo_L_init 27 = .ok (.bipush 24, 2) := by decide +kernel
theorem zd_L_init_29 : decode zo_L_init 29 = .ok (.newarray .int, 2) := by decide +kernel
theorem zd_L_init_31 : decode zo_L_init 31 = .ok (.putfield 22, 3) := by decide +kernel
theorem zd_L_init_34 : decode zo_L_init 34 = .ok (.return_, 1) := by decide +kernel
theorem zd_C_init_0 : decode zo_C_init 0 = .ok (.aload_n 0, 1) := by decide +kernel
theorem zd_C_init_1 : decode zo_C_init 1 = .ok (.invokespecial 3, 3) := by decide +kernel
theorem zd_C_init_4 : decode zo_C_init 4 = .ok (.aload_n 0, 1) := by decide +kernel
theorem zd_C_init_5 : decode zo_C_init 5 = .ok (.aload_n 1, 1) := by decide +kernel
theorem zd_C_init_6 : decode zo_C_init 6 = .ok (.putfield 9, 3) := by decide +kernel
theorem zd_C_init_9 : decode zo_C_init 9 = .ok (.aload_n 0, 1) := by decide +kernel
theorem zd_C_init_10 : decode zo_C_init 10 = .ok (.bipush 24, 2) := by decide +kernel
theorem zd_C_init_12 : decode zo_C_init 12 = .ok (.newarray .int, 2) := by decide +kernel
theorem zd_C_init_14 : decode zo_C_init 14 = .ok (.putfield 15, 3) := by decide +kernel
theorem zd_C_init_17 : decode zo_C_init 17 = .ok (.aload_n 0, 1) := by decide +kernel
theorem zd_C_init_18 : decode zo_C_init 18 = .ok (.bipush 96, 2) := by decide +kernel
theorem zd_C_init_20 : decode zo_C_init 20 = .ok (.newarray .int, 2) := by decide +kernel
theorem zd_C_init_22 : decode zo_C_init 22 = .ok (.putfield 19, 3) := by decide +kernel
theorem zd_C_init_25 : decode zo_C_init 25 = .ok (.return_, 1) := by decide +kernel
theorem zd_G_init_0 : decode zo_G_init 0 = .ok (.aload_n 0, 1) := by decide +kernel
theorem zd_G_init_1 : decode zo_G_init 1 = .ok (.invokespecial 3, 3) := by decide +kernel
theorem zd_G_init_4 : decode zo_G_init 4 = .ok (.aload_n 0, 1) := by decide +kernel
theorem zd_G_init_5 : decode zo_G_init 5 = .ok (.aload_n 1, 1) := by decide +kernel
theorem zd_G_init_6 : decode zo_G_init 6 = .ok (.putfield 9, 3) := by decide +kernel
theorem zd_G_init_9 : decode zo_G_init 9 = .ok (.aload_n 0, 1) := by decide +kernel
theorem zd_G_init_10 : decode zo_G_init 10 = .ok (.aload_n 2, 1) := by decide +kernel
theorem zd_G_init_11 : decode zo_G_init 11 = .ok (.putfield 15, 3) := by decide +kernel
theorem zd_G_init_14 : decode zo_G_init 14 = .ok (.aload_n 0, 1) := by decide +kernel
theorem zd_G_init_15 : decode zo_G_init 15 = .ok (.iconst 2, 1) := by decide +kernel
theorem zd_G_init_16 : decode zo_G_init 16 = .ok (.newarray .int, 2) := by decide +kernel
theorem zd_G_init_18 : decode zo_G_init 18 = .ok (.putfield 19, 3) := by decide +kernel
theorem zd_G_init_21 : decode zo_G_init 21 = .ok (.aload_n 0, 1) := by decide +kernel
theorem zd_G_init_22 : decode zo_G_init 22 = .ok (.bipush 24, 2) := by decide +kernel
theorem zd_G_init_24 : decode zo_G_init 24 = .ok (.newarray .int, 2) := by decide +kernel
theorem zd_G_init_26 : decode zo_G_init 26 = .ok (.putfield 23, 3) := by decide +kernel
theorem zd_G_init_29 : decode zo_G_init 29 = .ok (.aload_n 0, 1) := by decide +kernel
theorem zd_G_init_30 : decode zo_G_init 30 = .ok (.bipush 24, 2) := by decide +kernel
theorem zd_G_init_32 : decode zo_G_init 32 = .ok (.newarray .int, 2) := by decide +kernel
theorem zd_G_init_34 : decode zo_G_init 34 = .ok (.putfield 26, 3) := by decide +kernel
theorem zd_G_init_37 : decode zo_G_init 37 = .ok (.return_, 1) := by decide +kernel
end
section
theorem zd_L_settle_0 : decode zo_L_settle 0 = .ok (.aload_n 0, 1) := by decide +kernel
theorem zd_L_settle_1 : decode zo_L_settle 1 = .ok (.getfield 25, 3) := by decide +kernel
theorem zd_L_settle_4 : decode zo_L_settle 4 = .ok (.ifCond .eq 4, 3) := by decide +kernel
theorem zd_L_settle_7 : decode zo_L_settle 7 = .ok (.return_, 1) := by decide +kernel
theorem zd_L_settle_8 : decode zo_L_settle 8 = .ok (.aload_n 0, 1) := by decide +kernel
theorem zd_L_settle_9 : decode zo_L_settle 9 = .ok (.getfield 9, 3) := by decide +kernel
theorem zd_L_settle_12 : decode zo_L_settle 12 = .ok (.aload_n 0, 1) := by decide +kernel
theorem zd_L_settle_13 : decode zo_L_settle 13 = .ok (.getfield 15, 3) := by decide +kernel
theorem zd_L_settle_16 : decode zo_L_settle 16 = .ok (.invokevirtual 29, 3) := by decide +kernel
theorem zd_L_settle_19 : decode zo_L_settle 19 = .ok (.aload_n 0, 1) := by decide +kernel
theorem zd_L_settle_20 : decode zo_L_settle 20 = .ok (.iconst 0, 1) := by decide +kernel
theorem zd_L_settle_21 : decode zo_L_settle 21 = .ok (.putfield 35, 3) := by decide +kernel
theorem zd_L_settle_24 : decode zo_L_settle 24 = .ok (.iconst 1, 1) := by decide +kernel
theorem zd_L_settle_25 : decode zo_L_settle 25 = .ok (.istore_n 1, 1) := by decide +kernel
theorem zd_L_settle_26 : decode zo_L_settle 26 = .ok (.iload_n 1, 1) := by decide +kernel
theorem zd_L_settle_27 : decode zo_L_settle 27 = .ok (.bipush 24, 2) := by decide +kernel
theorem zd_L_settle_29 : decode zo_L_settle 29 = .ok (.if_icmp .ge 22, 3) := by decide +kernel
theorem zd_L_settle_32 : decode zo_L_settle 32 = .ok (.aload_n 0, 1) := by decide +kernel
theorem zd_L_settle_33 : decode zo_L_settle 33 = .ok (.iload_n 1, 1) := by decide +kernel
theorem zd_L_settle_34 : decode zo_L_settle 34 = .ok (.invokevirtual 39, 3) := by decide +kernel
theorem zd_L_settle_37 : decode zo_L_settle 37 = .ok (.ifCond .eq 14, 3) := by decide +kernel
theorem zd_L_settle_40 : decode zo_L_settle 40 = .ok (.aload_n 0, 1) := by decide +kernel
theorem zd_L_settle_41 : decode zo_L_settle 41 = .ok (.iload_n 1, 1) := by decide +kernel
theorem zd_L_settle_42 : decode zo_L_settle 42 = .ok (.putfield 35, 3) := by decide +kernel
theorem zd_L_settle_45 : decode zo_L_settle 45 = .ok (.iinc 1 1, 3) := by decide +kernel
theorem zd_L_settle_48 : decode zo_L_settle 48 = .ok (.goto (-22), 3) := by decide +kernel
theorem zd_L_settle_51 : decode zo_L_settle 51 = .ok (.aload_n 0, 1) := by decide +kernel
theorem zd_L_settle_52 : decode zo_L_settle 52 = .ok (.invokevirtual 43, 3) := by decide +kernel
theorem zd_L_settle_55 : decode zo_L_settle 55 = .ok (.aload_n 0, 1) := by decide +kernel
theorem zd_L_settle_56 : decode zo_L_settle 56 = .ok (.iconst 1, 1) := by decide +kernel
theorem zd_L_settle_57 : decode zo_L_settle 57 = .ok (.putfield 25, 3) := by decide +kernel
theorem zd_L_settle_60 : decode zo_L_settle 60 = .ok (.return_, 1) := by decide +kernel
theorem zd_C_settle_0 : decode zo_C_settle 0 = .ok (.aload_n 0, 1) := by decide +kernel
theorem zd_C_settle_1 : decode zo_C_settle 1 = .ok (.getfield 22, 3) := by decide +kernel
theorem zd_C_settle_4 : decode zo_C_settle 4 = .ok (.ifCond .eq 4, 3) := by decide +kernel
theorem zd_C_settle_7 : decode zo_C_settle 7 = .ok (.return_, 1) := by decide +kernel
theorem zd_C_settle_8 : decode zo_C_settle 8 = .ok (.aload_n 0, 1) := by decide +kernel
theorem zd_C_settle_9 : decode zo_C_settle 9 = .ok (.getfield 9, 3) := by decide +kernel
theorem zd_C_settle_12 : decode zo_C_settle 12 = .ok (.aload_n 0, 1) := by decide +kernel
theorem zd_C_settle_13 : decode zo_C_settle 13 = .ok (.getfield 15, 3) := by decide +kernel
theorem zd_C_settle_16 : decode zo_C_settle 16 = .ok (.invokevirtual 26, 3) := by decide +kernel
theorem zd_C_settle_19 : decode zo_C_settle 19 = .ok (.iconst 1, 1) := by decide +kernel
theorem zd_C_settle_20 : decode zo_C_settle 20 = .ok (.istore_n 1, 1) := by decide +kernel
theorem zd_C_settle_21 : decode zo_C_settle 21 = .ok (.iconst 0, 1) := by decide +kernel
theorem zd_C_settle_22 : decode zo_C_settle 22 = .ok (.istore_n 2, 1) := by decide +kernel
theorem zd_C_settle_23 : decode zo_C_settle 23 = .ok (.iload_n 2, 1) := by decide +kernel
theorem zd_C_settle_24 : decode zo_C_settle 24 = .ok (.sipush 576, 3) := by decide +kernel
theorem zd_C_settle_27 : decode zo_C_settle 27 = .ok (.if_icmp .ge 18, 3) := by decide +kernel
theorem zd_C_settle_30 : decode zo_C_settle 30 = .ok (.iload_n 1, 1) := by decide +kernel
theorem zd_C_settle_31 : decode zo_C_settle 31 = .ok (.ifCond .eq 14, 3) := by decide +kernel
theorem zd_C_settle_34 : decode zo_C_settle 34 = .ok (.aload_n 0, 1) := by decide +kernel
theorem zd_C_settle_35 : decode zo_C_settle 35 = .ok (.invokevirtual 32, 3) := by decide +kernel
theorem zd_C_settle_38 : decode zo_C_settle 38 = .ok (.istore_n 1, 1) := by decide +kernel
theorem zd_C_settle_39 : decode zo_C_settle 39 = .ok (.iinc 2 1, 3) := by decide +kernel
theorem zd_C_settle_42 : decode zo_C_settle 42 = .ok (.goto (-19), 3) := by decide +kernel
theorem zd_C_settle_45 : decode zo_C_settle 45 = .ok (.aload_n 0, 1) := by decide +kernel
theorem zd_C_settle_46 : decode zo_C_settle 46 = .ok (.iconst 1, 1) := by decide +kernel
theorem zd_C_settle_47 : decode zo_C_settle 47 = .ok (.putfield 22, 3) := by decide +kernel
theorem zd_C_settle_50 : decode zo_C_settle 50 = .ok (.return_, 1) := by decide +kernel
end
section
theorem zd_X_move_0 : decode zo_X_move 0 = .ok (.iload_n 1, 1) := by decide +kernel
theorem zd_X_move_1 : decode zo_X_move 1 = .ok (.iload_n 2, 1) := by decide +kernel
theorem zd_X_move_2 : decode zo_X_move 2 = .ok (.iload_n 3, 1) := by decide +kernel
theorem zd_X_move_3 : decode zo_X_move 3 = .ok (.invokestatic 41, 3) := by decide +kernel
theorem zd_X_move_6 : decode zo_X_move 6 = .ok (.ifCond .eq 28, 3) := by decide +kernel
theorem zd_X_move_9 : decode zo_X_move 9 = .ok (.aload_n 0, 1) := by decide +kernel
theorem zd_X_move_10 : decode zo_X_move 10 = .ok (.getfield 10, 3) := by decide +kernel
theorem zd_X_move_13 : decode zo_X_move 13 = .ok (.iload_n 1, 1) := by decide +kernel
theorem zd_X_move_14 : decode zo_X_move 14 = .ok (.iload_n 2, 1) := by decide +kernel
theorem zd_X_move_15 : decode zo_X_move 15 = .ok (.iload_n 3, 1) := by decide +kernel
theorem zd_X_move_16 : decode zo_X_move 16 = .ok (.invokevirtual 45, 3) := by decide +kernel
theorem zd_X_move_19 : decode zo_X_move 19 = .ok (.ifCond .ne 15, 3) := by decide +kernel
theorem zd_X_move_22 : decode zo_X_move 22 = .ok (.aload_n 0, 1) := by decide +kernel
theorem zd_X_move_23 : decode zo_X_move 23 = .ok (.getfield 10, 3) := by decide +kernel
theorem zd_X_move_26 : decode zo_X_move 26 = .ok (.invokevirtual 48, 3) := by decide +kernel
theorem zd_X_move_29 : decode zo_X_move 29 = .ok (.bipush 120, 2) := by decide +kernel
theorem zd_X_move_31 : decode zo_X_move 31 = .ok (.if_icmp .lt 5, 3) := by decide +kernel
theorem zd_X_move_34 : decode zo_X_move 34 = .ok (.iconst 0, 1) := by decide +kernel
theorem zd_X_move_35 : decode zo_X_move 35 = .ok (.ireturn, 1) := by decide +kernel
theorem zd_X_move_36 : decode zo_X_move 36 = .ok (.aload_n 0, 1) := by decide +kernel
theorem zd_X_move_37 : decode zo_X_move 37 = .ok (.getfield 10, 3) := by decide +kernel
theorem zd_X_move_40 : decode zo_X_move 40 = .ok (.iload_n 1, 1) := by decide +kernel
theorem zd_X_move_41 : decode zo_X_move 41 = .ok (.iload_n 2, 1) := by decide +kernel
theorem zd_X_move_42 : decode zo_X_move 42 = .ok (.iload_n 3, 1) := by decide +kernel
theorem zd_X_move_43 : decode zo_X_move 43 = .ok (.invokevirtual 52, 3) := by decide +kernel
theorem zd_X_move_46 : decode zo_X_move 46 = .ok (.aload_n 0, 1) := by decide +kernel
theorem zd_X_move_47 : decode zo_X_move 47 = .ok (.invokevirtual 56, 3) := by decide +kernel
theorem zd_X_move_50 : decode zo_X_move 50 = .ok (.iconst 1, 1) := by decide +kernel
theorem zd_X_move_51 : decode zo_X_move 51 = .ok (.ireturn, 1) := by decide +kernel
theorem zd_X_forgetAnswers_0 : decode zo_X_forgetAnswers 0 = .ok (.aload_n 0, 1) := by decide +kernel
theorem zd_X_forgetAnswers_1 : decode zo_X_forgetAnswers 1 = .ok (.getfield 21, 3) := by decide +kernel
theorem zd_X_forgetAnswers_4 : decode zo_X_forgetAnswers 4 = .ok (.invokevirtual 137, 3) := by decide +kernel
theorem zd_X_forgetAnswers_7 : decode zo_X_forgetAnswers 7 = .ok (.aload_n 0, 1) := by decide +kernel
theorem zd_X_forgetAnswers_8 : decode zo_X_forgetAnswers 8 = .ok (.getfield 28, 3) := by decide +kernel
theorem zd_X_forgetAnswers_11 : decode zo_X_forgetAnswers 11 = .ok (.invokevirtual 140, 3) := by decide +kernel
theorem zd_X_forgetAnswers_14 : decode zo_X_forgetAnswers 14 = .ok (.return_, 1) := by decide +kernel
theorem zd_X_drop_0 : decode zo_X_drop 0 = .ok (.iload_n 1, 1) := by decide +kernel
theorem zd_X_drop_1 : decode zo_X_drop 1 = .ok (.iload_n 2, 1) := by decide +kernel
theorem zd_X_drop_2 : decode zo_X_drop 2 = .ok (.iload_n 3, 1) := by decide +kernel
theorem zd_X_drop_3 : decode zo_X_drop 3 = .ok (.invokestatic 41, 3) := by decide +kernel
theorem zd_X_drop_6 : decode zo_X_drop 6 = .ok (.ifCond .eq 16, 3) := by decide +kernel
theorem zd_X_drop_9 : decode zo_X_drop 9 = .ok (.aload_n 0, 1) := by decide +kernel
theorem zd_X_drop_10 : decode zo_X_drop 10 = .ok (.getfield 10, 3) := by decide +kernel
theorem zd_X_drop_13 : decode zo_X_drop 13 = .ok (.iload_n 1, 1) := by decide +kernel
theorem zd_X_drop_14 : decode zo_X_drop 14 = .ok (.iload_n 2, 1) := by decide +kernel
theorem zd_X_drop_15 : decode zo_X_drop 15 = .ok (.iload_n 3, 1) := by decide +kernel
theorem zd_X_drop_16 : decode zo_X_drop 16 = .ok (.invokevirtual 45, 3) := by decide +kernel
theorem zd_X_drop_19 : decode zo_X_drop 19 = .ok (.ifCond .ne 5, 3) := by decide +kernel
theorem zd_X_drop_22 : decode zo_X_drop 22 = .ok (.iconst 0, 1) := by decide +kernel
theorem zd_X_drop_23 : decode zo_X_drop 23 = .ok (.ireturn, 1) := by decide +kernel
theorem zd_X_drop_24 : decode zo_X_drop 24 = .ok (.aload_n 0, 1) := by decide +kernel
theorem zd_X_drop_25 : decode zo_X_drop 25 = .ok (.getfield 10, 3) := by decide +kernel
theorem zd_X_drop_28 : decode zo_X_drop 28 = .ok (.iload_n 1, 1) := by decide +kernel
theorem zd_X_drop_29 : decode zo_X_drop 29 = .ok (.iload_n 2, 1) := by decide +kernel
theorem zd_X_drop_30 : decode zo_X_drop 30 = .ok (.iload_n 3, 1) := by decide +kernel
theorem zd_X_drop_31 : decode zo_X_drop 31 = .ok (.invokevirtual 59, 3) := by decide +kernel
theorem zd_X_drop_34 : decode zo_X_drop 34 = .ok (.aload_n 0, 1) := by decide +kernel
theorem zd_X_drop_35 : decode zo_X_drop 35 = .ok (.invokevirtual 56, 3) := by decide +kernel
theorem zd_X_drop_38 : decode zo_X_drop 38 = .ok (.iconst 1, 1) := by decide +kernel
theorem zd_X_drop_39 : decode zo_X_drop 39 = .ok (.ireturn, 1) := by decide +kernel
theorem zd_X_colour_0 : decode zo_X_colour 0 = .ok (.iload_n 1, 1) := by decide +kernel
theorem zd_X_colour_1 : decode zo_X_colour 1 = .ok (.invokestatic 62, 3) := by decide +kernel
theorem zd_X_colour_4 : decode zo_X_colour 4 = .ok (.ifCond .ne 5, 3) := by decide +kernel
theorem zd_X_colour_7 : decode zo_X_colour 7 = .ok (.iconst 0, 1) := by decide +kernel
theorem zd_X_colour_8 : decode zo_X_colour 8 = .ok (.ireturn, 1) := by decide +kernel
theorem zd_X_colour_9 : decode zo_X_colour 9 = .ok (.aload_n 0, 1) := by decide +kernel
theorem zd_X_colour_10 : decode zo_X_colour 10 = .ok (.getfield 10, 3) := by decide +kernel
theorem zd_X_colour_13 : decode zo_X_colour 13 = .ok (.iload_n 1, 1) := by decide +kernel
theorem zd_X_colour_14 : decode zo_X_colour 14 = .ok (.iload_n 2, 1) := by decide +kernel
theorem zd_X_colour_15 : decode zo_X_colour 15 = .ok (.invokevirtual 66, 3) := by decide +kernel
theorem zd_X_colour_18 : decode zo_X_colour 18 = .ok (.aload_n 0, 1) := by decide +kernel
theorem zd_X_colour_19 : decode zo_X_colour 19 = .ok (.invokevirtual 56, 3) := by decide +kernel
theorem zd_X_colour_22 : decode zo_X_colour 22 = .ok (.iconst 1, 1) := by decide +kernel
theorem zd_X_colour_23 : decode zo_X_colour 23 = .ok (.ireturn, 1) := by decide +kernel
theorem zd_X_moves_0 : decode zo_X_moves 0 = .ok (.aload_n 0, 1) := by decide +kernel
theorem zd_X_moves_1 : decode zo_X_moves 1 = .ok (.getfield 10, 3) := by decide +kernel
theorem zd_X_moves_4 : decode zo_X_moves 4 = .ok (.invokevirtual 48, 3) := by decide +kernel
theorem zd_X_moves_7 : decode zo_X_moves 7 = .ok (.ireturn, 1) := by decide +kernel
theorem zd_X_clear_0 : decode zo_X_clear 0 = .ok (.aload_n 0, 1) := by decide +kernel
theorem zd_X_clear_1 : decode zo_X_clear 1 = .ok (.getfield 10, 3) := by decide +kernel
theorem zd_X_clear_4 : decode zo_X_clear 4 = .ok (.invokevirtual 48, 3) := by decide +kernel
theorem zd_X_clear_7 : decode zo_X_clear 7 = .ok (.istore_n 1, 1) := by decide +kernel
theorem zd_X_clear_8 : decode zo_X_clear 8 = .ok (.aload_n 0, 1) := by decide +kernel
theorem zd_X_clear_9 : decode zo_X_clear 9 = .ok (.getfield 10, 3) := by decide +kernel
theorem zd_X_clear_12 : decode zo_X_clear 12 = .ok (.invokevirtual 70, 3) := by decide +kernel
theorem zd_X_clear_15 : decode zo_X_clear 15 = .ok (.aload_n 0, 1) := by decide +kernel
theorem zd_X_clear_16 : decode zo_X_clear 16 = .ok (.invokevirtual 56, 3) := by decide +kernel
theorem zd_X_clear_19 : decode zo_X_clear 19 = .ok (.iload_n 1, 1) := by decide +kernel
theorem zd_X_clear_20 : decode zo_X_clear 20 = .ok (.ireturn, 1) := by decide +kernel
theorem zd_X_alike_0 : decode zo_X_alike 0 = .ok (.iload_n 1, 1) := by decide +kernel
theorem zd_X_alike_1 : decode zo_X_alike 1 = .ok (.iload_n 2, 1) := by decide +kernel
theorem zd_X_alike_2 : decode zo_X_alike 2 = .ok (.invokestatic 73, 3) := by decide +kernel
theorem zd_X_alike_5 : decode zo_X_alike 5 = .ok (.ifCond .eq 20, 3) := by decide +kernel
theorem zd_X_alike_8 : decode zo_X_alike 8 = .ok (.aload_n 0, 1) := by decide +kernel
theorem zd_X_alike_9 : decode zo_X_alike 9 = .ok (.invokevirtual 77, 3) := by decide +kernel
theorem zd_X_alike_12 : decode zo_X_alike 12 = .ok (.iload_n 1, 1) := by decide +kernel
theorem zd_X_alike_13 : decode zo_X_alike 13 = .ok (.iload_n 2, 1) := by decide +kernel
theorem zd_X_alike_14 : decode zo_X_alike 14 = .ok (.invokevirtual 81, 3) := by decide +kernel
theorem zd_X_alike_17 : decode zo_X_alike 17 = .ok (.iconst (-1), 1) := by decide +kernel
theorem zd_X_alike_18 : decode zo_X_alike 18 = .ok (.if_icmp .ne 7, 3) := by decide +kernel
theorem zd_X_alike_21 : decode zo_X_alike 21 = .ok (.iconst 1, 1) := by decide +kernel
theorem zd_X_alike_22 : decode zo_X_alike 22 = .ok (.goto 4, 3) := by decide +kernel
theorem zd_X_alike_25 : decode zo_X_alike 25 = .ok (.iconst 0, 1) := by decide +kernel
theorem zd_X_alike_26 : decode zo_X_alike 26 = .ok (.ireturn, 1) := by decide +kernel
theorem zd_X_settledLikeness_0 : decode zo_X_settledLikeness 0 = .ok (.aload_n 0, 1) := by decide +kernel
theorem zd_X_settledLikeness_1 : decode zo_X_settledLikeness 1 = .ok (.getfield 21, 3) := by decide +kernel
theorem zd_X_settledLikeness_4 : decode zo_X_settledLikeness 4 = .ok (.invokevirtual 119, 3) := by decide +kernel
theorem zd_X_settledLikeness_7 : decode zo_X_settledLikeness 7 = .ok (.aload_n 0, 1) := by decide +kernel
theorem zd_X_settledLikeness_8 : decode zo_X_settledLikeness 8 = .ok (.getfield 21, 3) := by decide +kernel
theorem zd_X_settledLikeness_11 : decode zo_X_settledLikeness 11 = .ok (.areturn, 1) := by decide +kernel
theorem zd_X_breach_0 : decode zo_X_breach 0 = .ok (.iload_n 1, 1) := by decide +kernel
theorem zd_X_breach_1 : decode zo_X_breach 1 = .ok (.iload_n 2, 1) := by decide +kernel
theorem zd_X_breach_2 : decode zo_X_breach 2 = .ok (.invokestatic 73, 3) := by decide +kernel
theorem zd_X_breach_5 : decode zo_X_breach 5 = .ok (.ifCond .eq 15, 3) := by decide +kernel
theorem zd_X_breach_8 : decode zo_X_breach 8 = .ok (.aload_n 0, 1) := by decide +kernel
theorem zd_X_breach_9 : decode zo_X_breach 9 = .ok (.invokevirtual 77, 3) := by decide +kernel
theorem zd_X_breach_12 : decode zo_X_breach 12 = .ok (.iload_n 1, 1) := by decide +kernel
theorem zd_X_breach_13 : decode zo_X_breach 13 = .ok (.iload_n 2, 1) := by decide +kernel
theorem zd_X_breach_14 : decode zo_X_breach 14 = .ok (.invokevirtual 81, 3) := by decide +kernel
theorem zd_X_breach_17 : decode zo_X_breach 17 = .ok (.goto 4, 3) := by decide +kernel
theorem zd_X_breach_20 : decode zo_X_breach 20 = .ok (.iconst (-1), 1) := by decide +kernel
theorem zd_X_breach_21 : decode zo_X_breach 21 = .ok (.ireturn, 1) := by decide +kernel
theorem zd_X_kinds_0 : decode zo_X_kinds 0 = .ok (.aload_n 0, 1) := by decide +kernel
theorem zd_X_kinds_1 : decode zo_X_kinds 1 = .ok (.invokevirtual 77, 3) := by decide +kernel
theorem zd_X_kinds_4 : decode zo_X_kinds 4 = .ok (.invokevirtual 85, 3) := by decide +kernel
theorem zd_X_kinds_7 : decode zo_X_kinds 7 = .ok (.ireturn, 1) := by decide +kernel
theorem zd_X_kind_0 : decode zo_X_kind 0 = .ok (.iload_n 1, 1) := by decide +kernel
theorem zd_X_kind_1 : decode zo_X_kind 1 = .ok (.invokestatic 62, 3) := by decide +kernel
theorem zd_X_kind_4 : decode zo_X_kind 4 = .ok (.ifCond .eq 14, 3) := by decide +kernel
theorem zd_X_kind_7 : decode zo_X_kind 7 = .ok (.aload_n 0, 1) := by decide +kernel
theorem zd_X_kind_8 : decode zo_X_kind 8 = .ok (.invokevirtual 77, 3) := by decide +kernel
theorem zd_X_kind_11 : decode zo_X_kind 11 = .ok (.iload_n 1, 1) := by decide +kernel
theorem zd_X_kind_12 : decode zo_X_kind 12 = .ok (.invokevirtual 88, 3) := by decide +kernel
theorem zd_X_kind_15 : decode zo_X_kind 15 = .ok (.goto 4, 3) := by decide +kernel
theorem zd_X_kind_18 : decode zo_X_kind 18 = .ok (.iconst (-1), 1) := by decide +kernel
theorem zd_X_kind_19 : decode zo_X_kind 19 = .ok (.ireturn, 1) := by decide +kernel
theorem zd_X_size_0 : decode zo_X_size 0 = .ok (.aload_n 0, 1) := by decide +kernel
theorem zd_X_size_1 : decode zo_X_size 1 = .ok (.invokevirtual 77, 3) := by decide +kernel
theorem zd_X_size_4 : decode zo_X_size 4 = .ok (.iload_n 1, 1) := by decide +kernel
theorem zd_X_size_5 : decode zo_X_size 5 = .ok (.invokevirtual 92, 3) := by decide +kernel
theorem zd_X_size_8 : decode zo_X_size 8 = .ok (.ireturn, 1) := by decide +kernel
theorem zd_X_reach_0 : decode zo_X_reach 0 = .ok (.iload_n 2, 1) := by decide +kernel
theorem zd_X_reach_1 : decode zo_X_reach 1 = .ok (.invokestatic 95, 3) := by decide +kernel
theorem zd_X_reach_4 : decode zo_X_reach 4 = .ok (.ifCond .eq 15, 3) := by decide +kernel
theorem zd_X_reach_7 : decode zo_X_reach 7 = .ok (.aload_n 0, 1) := by decide +kernel
theorem zd_X_reach_8 : decode zo_X_reach 8 = .ok (.invokevirtual 77, 3) := by decide +kernel
theorem zd_X_reach_11 : decode zo_X_reach 11 = .ok (.iload_n 1, 1) := by decide +kernel
theorem zd_X_reach_12 : decode zo_X_reach 12 = .ok (.iload_n 2, 1) := by decide +kernel
theorem zd_X_reach_13 : decode zo_X_reach 13 = .ok (.invokevirtual 98, 3) := by decide +kernel
theorem zd_X_reach_16 : decode zo_X_reach 16 = .ok (.goto 4, 3) := by decide +kernel
theorem zd_X_reach_19 : decode zo_X_reach 19 = .ok (.iconst 0, 1) := by decide +kernel
theorem zd_X_reach_20 : decode zo_X_reach 20 = .ok (.ireturn, 1) := by decide +kernel
theorem zd_X_covers_0 : decode zo_X_covers 0 = .ok (.iload_n 1, 1) := by decide +kernel
theorem zd_X_covers_1 : decode zo_X_covers 1 = .ok (.iload_n 2, 1) := by decide +kernel
theorem zd_X_covers_2 : decode zo_X_covers 2 = .ok (.invokestatic 73, 3) := by decide +kernel
theorem zd_X_covers_5 : decode zo_X_covers 5 = .ok (.ifCond .eq 22, 3) := by decide +kernel
theorem zd_X_covers_8 : decode zo_X_covers 8 = .ok (.aload_n 0, 1) := by decide +kernel
theorem zd_X_covers_9 : decode zo_X_covers 9 = .ok (.invokevirtual 104, 3) := by decide +kernel
theorem zd_X_covers_12 : decode zo_X_covers 12 = .ok (.iload_n 1, 1) := by decide +kernel
theorem zd_X_covers_13 : decode zo_X_covers 13 = .ok (.invokevirtual 108, 3) := by decide +kernel
theorem zd_X_covers_16 : decode zo_X_covers 16 = .ok (.iload_n 2, 1) := by decide +kernel
theorem zd_X_covers_17 : decode zo_X_covers 17 = .ok (.invokestatic 111, 3) := by decide +kernel
theorem zd_X_covers_20 : decode zo_X_covers 20 = .ok (.ifCond .eq 7, 3) := by decide +kernel
theorem zd_X_covers_23 : decode zo_X_covers 23 = .ok (.iconst 1, 1) := by decide +kernel
theorem zd_X_covers_24 : decode zo_X_covers 24 = .ok (.goto 4, 3) := by decide +kernel
theorem zd_X_covers_27 : decode zo_X_covers 27 = .ok (.iconst 0, 1) := by decide +kernel
theorem zd_X_covers_28 : decode zo_X_covers 28 = .ok (.ireturn, 1) := by decide +kernel
theorem zd_X_settledCover_0 : decode zo_X_settledCover 0 = .ok (.aload_n 0, 1) := by decide +kernel
theorem zd_X_settledCover_1 : decode zo_X_settledCover 1 = .ok (.getfield 28, 3) := by decide +kernel
theorem zd_X_settledCover_4 : decode zo_X_settledCover 4 = .ok (.invokevirtual 141, 3) := by decide +kernel
theorem zd_X_settledCover_7 : decode zo_X_settledCover 7 = .ok (.aload_n 0, 1) := by decide +kernel
theorem zd_X_settledCover_8 : decode zo_X_settledCover 8 = .ok (.getfield 28, 3) := by decide +kernel
theorem zd_X_settledCover_11 : decode zo_X_settledCover 11 = .ok (.areturn, 1) := by decide +kernel
end
section
theorem zd_G_countAttacks_0 : decode zo_G_countAttacks 0 = .ok (.aload_n 0, 1) := by decide +kernel
theorem zd_G_countAttacks_1 : decode zo_G_countAttacks 1 = .ok (.getfield 15, 3) := by decide +kernel
theorem zd_G_countAttacks_4 : decode zo_G_countAttacks 4 = .ok (.iload_n 1, 1) := by decide +kernel
theorem zd_G_countAttacks_5 : decode zo_G_countAttacks 5 = .ok (.iload_n 2, 1) := by decide +kernel
theorem zd_G_countAttacks_6 : decode zo_G_countAttacks 6 = .ok (.invokevirtual 29, 3) := by decide +kernel
theorem zd_G_countAttacks_9 : decode zo_G_countAttacks 9 = .ok (.iconst 1, 1) := by decide +kernel
theorem zd_G_countAttacks_10 : decode zo_G_countAttacks 10 = .ok (.isub, 1) := by decide +kernel
theorem zd_G_countAttacks_11 : decode zo_G_countAttacks 11 = .ok (.istore_n 3, 1) := by decide +kernel
theorem zd_G_countAttacks_12 : decode zo_G_countAttacks 12 = .ok (.iload_n 3, 1) := by decide +kernel
theorem zd_G_countAttacks_13 : decode zo_G_countAttacks 13 = .ok (.ifCond .ge 7, 3) := by decide +kernel
theorem zd_G_countAttacks_16 : decode zo_G_countAttacks 16 = .ok (.iconst 0, 1) := by decide +kernel
theorem zd_G_countAttacks_17 : decode zo_G_countAttacks 17 = .ok (.goto 18, 3) := by decide +kernel
theorem zd_G_countAttacks_20 : decode zo_G_countAttacks 20 = .ok (.aload_n 0, 1) := by decide +kernel
theorem zd_G_countAttacks_21 : decode zo_G_countAttacks 21 = .ok (.iload_n 1, 1) := by decide +kernel
theorem zd_G_countAttacks_22 : decode zo_G_countAttacks 22 = .ok (.iload_n 2, 1) := by decide +kernel
theorem zd_G_countAttacks_23 : decode zo_G_countAttacks 23 = .ok (.iload_n 3, 1) := by decide +kernel
theorem zd_G_countAttacks_24 : decode zo_G_countAttacks 24 = .ok (.invokevirtual 35, 3) := by decide +kernel
theorem zd_G_countAttacks_27 : decode zo_G_countAttacks 27 = .ok (.aload_n 0, 1) := by decide +kernel
theorem zd_G_countAttacks_28 : decode zo_G_countAttacks 28 = .ok (.iload_n 2, 1) := by decide +kernel
theorem zd_G_countAttacks_29 : decode zo_G_countAttacks 29 = .ok (.iload_n 1, 1) := by decide +kernel
theorem zd_G_countAttacks_30 : decode zo_G_countAttacks 30 = .ok (.iload_n 3, 1) := by decide +kernel
theorem zd_G_countAttacks_31 : decode zo_G_countAttacks 31 = .ok (.invokevirtual 35, 3) := by decide +kernel
theorem zd_G_countAttacks_34 : decode zo_G_countAttacks 34 = .ok (.iadd, 1) := by decide +kernel
theorem zd_G_countAttacks_35 : decode zo_G_countAttacks 35 = .ok (.ireturn, 1) := by decide +kernel
theorem zd_G_attackOnce_0 : decode zo_G_attackOnce 0 = .ok (.aload_n 0, 1) := by decide +kernel
theorem zd_G_attackOnce_1 : decode zo_G_attackOnce 1 = .ok (.getfield 15, 3) := by decide +kernel
theorem zd_G_attackOnce_4 : decode zo_G_attackOnce 4 = .ok (.aload_n 0, 1) := by decide +kernel
theorem zd_G_attackOnce_5 : decode zo_G_attackOnce 5 = .ok (.getfield 19, 3) := by decide +kernel
theorem zd_G_attackOnce_8 : decode zo_G_attackOnce 8 = .ok (.iconst 0, 1) := by decide +kernel
theorem zd_G_attackOnce_9 : decode zo_G_attackOnce 9 = .ok (.iaload, 1) := by decide +kernel
theorem zd_G_attackOnce_10 : decode zo_G_attackOnce 10 = .ok (.aload_n 0, 1) := by decide +kernel
theorem zd_G_attackOnce_11 : decode zo_G_attackOnce 11 = .ok (.getfield 19, 3) := by decide +kernel
theorem zd_G_attackOnce_14 : decode zo_G_attackOnce 14 = .ok (.iconst 1, 1) := by decide +kernel
theorem zd_G_attackOnce_15 : decode zo_G_attackOnce 15 = .ok (.iaload, 1) := by decide +kernel
theorem zd_G_attackOnce_16 : decode zo_G_attackOnce 16 = .ok (.invokevirtual 29, 3) := by decide +kernel
theorem zd_G_attackOnce_19 : decode zo_G_attackOnce 19 = .ok (.iconst 1, 1) := by decide +kernel
theorem zd_G_attackOnce_20 : decode zo_G_attackOnce 20 = .ok (.isub, 1) := by decide +kernel
theorem zd_G_attackOnce_21 : decode zo_G_attackOnce 21 = .ok (.istore_n 1, 1) := by decide +kernel
theorem zd_G_attackOnce_22 : decode zo_G_attackOnce 22 = .ok (.iload_n 1, 1) := by decide +kernel
theorem zd_G_attackOnce_23 : decode zo_G_attackOnce 23 = .ok (.ifCond .ge 5, 3) := by decide +kernel
theorem zd_G_attackOnce_26 : decode zo_G_attackOnce 26 = .ok (.iconst 0, 1) := by decide +kernel
theorem zd_G_attackOnce_27 : decode zo_G_attackOnce 27 = .ok (.ireturn, 1) := by decide +kernel
theorem zd_G_attackOnce_28 : decode zo_G_attackOnce 28 = .ok (.iconst 0, 1) := by decide +kernel
theorem zd_G_attackOnce_29 : decode zo_G_attackOnce 29 = .ok (.istore_n 2, 1) := by decide +kernel
theorem zd_G_attackOnce_30 : decode zo_G_attackOnce 30 = .ok (.aload_n 0, 1) := by decide +kernel
theorem zd_G_attackOnce_31 : decode zo_G_attackOnce 31 = .ok (.aload_n 0, 1) := by decide +kernel
theorem zd_G_attackOnce_32 : decode zo_G_attackOnce 32 = .ok (.getfield 19, 3) := by decide +kernel
theorem zd_G_attackOnce_35 : decode zo_G_attackOnce 35 = .ok (.iconst 0, 1) := by decide +kernel
theorem zd_G_attackOnce_36 : decode zo_G_attackOnce 36 = .ok (.iaload, 1) := by decide +kernel
theorem zd_G_attackOnce_37 : decode zo_G_attackOnce 37 = .ok (.aload_n 0, 1) := by decide +kernel
theorem zd_G_attackOnce_38 : decode zo_G_attackOnce 38 = .ok (.getfield 19, 3) := by decide +kernel
theorem zd_G_attackOnce_41 : decode zo_G_attackOnce 41 = .ok (.iconst 1, 1) := by decide +kernel
theorem zd_G_attackOnce_42 : decode zo_G_attackOnce 42 = .ok (.iaload, 1) := by decide +kernel
theorem zd_G_attackOnce_43 : decode zo_G_attackOnce 43 = .ok (.iload_n 1, 1) := by decide +kernel
theorem zd_G_attackOnce_44 : decode zo_G_attackOnce 44 = .ok (.invokevirtual 63, 3) := by decide +kernel
theorem zd_G_attackOnce_47 : decode zo_G_attackOnce 47 = .ok (.istore_n 3, 1) := by decide +kernel
theorem zd_G_attackOnce_48 : decode zo_G_attackOnce 48 = .ok (.iload_n 3, 1) := by decide +kernel
theorem zd_G_attackOnce_49 : decode zo_G_attackOnce 49 = .ok (.iconst (-1), 1) := by decide +kernel
theorem zd_G_attackOnce_50 : decode zo_G_attackOnce 50 = .ok (.if_icmp .ne 23, 3) := by decide +kernel
theorem zd_G_attackOnce_53 : decode zo_G_attackOnce 53 = .ok (.iconst 1, 1) := by decide +kernel
theorem zd_G_attackOnce_54 : decode zo_G_attackOnce 54 = .ok (.istore_n 2, 1) := by decide +kernel
theorem zd_G_attackOnce_55 : decode zo_G_attackOnce 55 = .ok (.aload_n 0, 1) := by decide +kernel
theorem zd_G_attackOnce_56 : decode zo_G_attackOnce 56 = .ok (.aload_n 0, 1) := by decide +kernel
theorem zd_G_attackOnce_57 : decode zo_G_attackOnce 57 = .ok (.getfield 19, 3) := by decide +kernel
theorem zd_G_attackOnce_60 : decode zo_G_attackOnce 60 = .ok (.iconst 1, 1) := by decide +kernel
theorem zd_G_attackOnce_61 : decode zo_G_attackOnce 61 = .ok (.iaload, 1) := by decide +kernel
theorem zd_G_attackOnce_62 : decode zo_G_attackOnce 62 = .ok (.aload_n 0, 1) := by decide +kernel
theorem zd_G_attackOnce_63 : decode zo_G_attackOnce 63 = .ok (.getfield 19, 3) := by decide +kernel
theorem zd_G_attackOnce_66 : decode zo_G_attackOnce 66 = .ok (.iconst 0, 1) := by decide +kernel
theorem zd_G_attackOnce_67 : decode zo_G_attackOnce 67 = .ok (.iaload, 1) := by decide +kernel
theorem zd_G_attackOnce_68 : decode zo_G_attackOnce 68 = .ok (.iload_n 1, 1) := by decide +kernel
theorem zd_G_attackOnce_69 : decode zo_G_attackOnce 69 = .ok (.invokevirtual 63, 3) := by decide +kernel
theorem zd_G_attackOnce_72 : decode zo_G_attackOnce 72 = .ok (.istore_n 3, 1) := by decide +kernel
theorem zd_G_attackOnce_73 : decode zo_G_attackOnce 73 = .ok (.iload_n 3, 1) := by decide +kernel
theorem zd_G_attackOnce_74 : decode zo_G_attackOnce 74 = .ok (.iconst (-1), 1) := by decide +kernel
theorem zd_G_attackOnce_75 : decode zo_G_attackOnce 75 = .ok (.if_icmp .ne 5, 3) := by decide +kernel
theorem zd_G_attackOnce_78 : decode zo_G_attackOnce 78 = .ok (.iconst 0, 1) := by decide +kernel
theorem zd_G_attackOnce_79 : decode zo_G_attackOnce 79 = .ok (.ireturn, 1) := by decide +kernel
theorem zd_G_attackOnce_80 : decode zo_G_attackOnce 80 = .ok (.aload_n 0, 1) := by decide +kernel
theorem zd_G_attackOnce_81 : decode zo_G_attackOnce 81 = .ok (.aload_n 0, 1) := by decide +kernel
theorem zd_G_attackOnce_82 : decode zo_G_attackOnce 82 = .ok (.getfield 19, 3) := by decide +kernel
theorem zd_G_attackOnce_85 : decode zo_G_attackOnce 85 = .ok (.iconst 1, 1) := by decide +kernel
theorem zd_G_attackOnce_86 : decode zo_G_attackOnce 86 = .ok (.iload_n 2, 1) := by decide +kernel
theorem zd_G_attackOnce_87 : decode zo_G_attackOnce 87 = .ok (.isub, 1) := by decide +kernel
theorem zd_G_attackOnce_88 : decode zo_G_attackOnce 88 = .ok (.iaload, 1) := by decide +kernel
theorem zd_G_attackOnce_89 : decode zo_G_attackOnce 89 = .ok (.iload_n 3, 1) := by decide +kernel
theorem zd_G_attackOnce_90 : decode zo_G_attackOnce 90 = .ok (.invokevirtual 66, 3) := by decide +kernel
theorem zd_G_attackOnce_93 : decode zo_G_attackOnce 93 = .ok (.istore 4, 2) := by decide +kernel
theorem zd_G_attackOnce_95 : decode zo_G_attackOnce 95 = .ok (.aload_n 0, 1) := by decide +kernel
theorem zd_G_attackOnce_96 : decode zo_G_attackOnce 96 = .ok (.getfield 23, 3) := by decide +kernel
theorem zd_G_attackOnce_99 : decode zo_G_attackOnce 99 = .ok (.aload_n 0, 1) := by decide +kernel
theorem zd_G_attackOnce_100 : decode zo_G_attackOnce 100 = .ok (.getfield 55, 3) := by decide +kernel
theorem zd_G_attackOnce_103 : decode zo_G_attackOnce 103 = .ok (.iload_n 2, 1) := by decide +kernel
theorem zd_G_attackOnce_104 : decode zo_G_attackOnce 104 = .ok (.sipush 1000, 3) := by decide +kernel
theorem zd_G_attackOnce_107 : decode zo_G_attackOnce 107 = .ok (.imul, 1) := by decide +kernel
theorem zd_G_attackOnce_108 : decode zo_G_attackOnce 108 = .ok (.iload_n 3, 1) := by decide +kernel
theorem zd_G_attackOnce_109 : decode zo_G_attackOnce 109 = .ok (.iadd, 1) := by decide +kernel
theorem zd_G_attackOnce_110 : decode zo_G_attackOnce 110 = .ok (.iastore, 1) := by decide +kernel
theorem zd_G_attackOnce_111 : decode zo_G_attackOnce 111 = .ok (.aload_n 0, 1) := by decide +kernel
theorem zd_G_attackOnce_112 : decode zo_G_attackOnce 112 = .ok (.getfield 26, 3) := by decide +kernel
theorem zd_G_attackOnce_115 : decode zo_G_attackOnce 115 = .ok (.aload_n 0, 1) := by decide +kernel
theorem zd_G_attackOnce_116 : decode zo_G_attackOnce 116 = .ok (.getfield 55, 3) := by decide +kernel
theorem zd_G_attackOnce_119 : decode zo_G_attackOnce 119 = .ok (.iload 4, 2) := by decide +kernel
theorem zd_G_attackOnce_121 : decode zo_G_attackOnce 121 = .ok (.iastore, 1) := by decide +kernel
theorem zd_G_attackOnce_122 : decode zo_G_attackOnce 122 = .ok (.aload_n 0, 1) := by decide +kernel
theorem zd_G_attackOnce_123 : decode zo_G_attackOnce 123 = .ok (.dup, 1) := by decide +kernel
theorem zd_G_attackOnce_124 : decode zo_G_attackOnce 124 = .ok (.getfield 55, 3) := by decide +kernel
theorem zd_G_attackOnce_127 : decode zo_G_attackOnce 127 = .ok (.iconst 1, 1) := by decide +kernel
theorem zd_G_attackOnce_128 : decode zo_G_attackOnce 128 = .ok (.iadd, 1) := by decide +kernel
theorem zd_G_attackOnce_129 : decode zo_G_attackOnce 129 = .ok (.putfield 55, 3) := by decide +kernel
theorem zd_G_attackOnce_132 : decode zo_G_attackOnce 132 = .ok (.aload_n 0, 1) := by decide +kernel
theorem zd_G_attackOnce_133 : decode zo_G_attackOnce 133 = .ok (.getfield 19, 3) := by decide +kernel
theorem zd_G_attackOnce_136 : decode zo_G_attackOnce 136 = .ok (.iload_n 2, 1) := by decide +kernel
theorem zd_G_attackOnce_137 : decode zo_G_attackOnce 137 = .ok (.iload_n 3, 1) := by decide +kernel
theorem zd_G_attackOnce_138 : decode zo_G_attackOnce 138 = .ok (.bipush 100, 2) := by decide +kernel
theorem zd_G_attackOnce_140 : decode zo_G_attackOnce 140 = .ok (.irem, 1) := by decide +kernel
theorem zd_G_attackOnce_141 : decode zo_G_attackOnce 141 = .ok (.iastore, 1) := by decide +kernel
theorem zd_G_attackOnce_142 : decode zo_G_attackOnce 142 = .ok (.aload_n 0, 1) := by decide +kernel
theorem zd_G_attackOnce_143 : decode zo_G_attackOnce 143 = .ok (.getfield 19, 3) := by decide +kernel
theorem zd_G_attackOnce_146 : decode zo_G_attackOnce 146 = .ok (.iconst 1, 1) := by decide +kernel
theorem zd_G_attackOnce_147 : decode zo_G_attackOnce 147 = .ok (.iload_n 2, 1) := by decide +kernel
theorem zd_G_attackOnce_148 : decode zo_G_attackOnce 148 = .ok (.isub, 1) := by decide +kernel
theorem zd_G_attackOnce_149 : decode zo_G_attackOnce 149 = .ok (.iload 4, 2) := by decide +kernel
theorem zd_G_attackOnce_151 : decode zo_G_attackOnce 151 = .ok (.iastore, 1) := by decide +kernel
theorem zd_G_attackOnce_152 : decode zo_G_attackOnce 152 = .ok (.iload 4, 2) := by decide +kernel
theorem zd_G_attackOnce_154 : decode zo_G_attackOnce 154 = .ok (.iconst (-1), 1) := by decide +kernel
theorem zd_G_attackOnce_155 : decode zo_G_attackOnce 155 = .ok (.if_icmp .eq 7, 3) := by decide +kernel
theorem zd_G_attackOnce_158 : decode zo_G_attackOnce 158 = .ok (.iconst 1, 1) := by decide +kernel
theorem zd_G_attackOnce_159 : decode zo_G_attackOnce 159 = .ok (.goto 4, 3) := by decide +kernel
theorem zd_G_attackOnce_162 : decode zo_G_attackOnce 162 = .ok (.iconst 0, 1) := by decide +kernel
theorem zd_G_attackOnce_163 : decode zo_G_attackOnce 163 = .ok (.ireturn, 1) := by decide +kernel
end
section
theorem zd_G_playThrough_0 : decode zo_G_playThrough 0 = .ok (.aload_n 0, 1) := by decide +kernel
theorem zd_G_playThrough_1 : decode zo_G_playThrough 1 = .ok (.getfield 19, 3) := by decide +kernel
theorem zd_G_playThrough_4 : decode zo_G_playThrough 4 = .ok (.iconst 0, 1) := by decide +kernel
theorem zd_G_playThrough_5 : decode zo_G_playThrough 5 = .ok (.iload_n 1, 1) := by decide +kernel
theorem zd_G_playThrough_6 : decode zo_G_playThrough 6 = .ok (.iastore, 1) := by decide +kernel
theorem zd_G_playThrough_7 : decode zo_G_playThrough 7 = .ok (.aload_n 0, 1) := by decide +kernel
theorem zd_G_playThrough_8 : decode zo_G_playThrough 8 = .ok (.getfield 19, 3) := by decide +kernel
theorem zd_G_playThrough_11 : decode zo_G_playThrough 11 = .ok (.iconst 1, 1) := by decide +kernel
theorem zd_G_playThrough_12 : decode zo_G_playThrough 12 = .ok (.iload_n 2, 1) := by decide +kernel
theorem zd_G_playThrough_13 : decode zo_G_playThrough 13 = .ok (.iastore, 1) := by decide +kernel
theorem zd_G_playThrough_14 : decode zo_G_playThrough 14 = .ok (.aload_n 0, 1) := by decide +kernel
theorem zd_G_playThrough_15 : decode zo_G_playThrough 15 = .ok (.iconst 0, 1) := by decide +kernel
theorem zd_G_playThrough_16 : decode zo_G_playThrough 16 = .ok (.putfield 55, 3) := by decide +kernel
theorem zd_G_playThrough_19 : decode zo_G_playThrough 19 = .ok (.iconst 1, 1) := by decide +kernel
theorem zd_G_playThrough_20 : decode zo_G_playThrough 20 = .ok (.istore_n 3, 1) := by decide +kernel
theorem zd_G_playThrough_21 : decode zo_G_playThrough 21 = .ok (.iconst 0, 1) := by decide +kernel
theorem zd_G_playThrough_22 : decode zo_G_playThrough 22 = .ok (.istore 4, 2) := by decide +kernel
theorem zd_G_playThrough_24 : decode zo_G_playThrough 24 = .ok (.iload 4, 2) := by decide +kernel
theorem zd_G_playThrough_26 : decode zo_G_playThrough 26 = .ok (.aload_n 0, 1) := by decide +kernel
theorem zd_G_playThrough_27 : decode zo_G_playThrough 27 = .ok (.getfield 23, 3) := by decide +kernel
theorem zd_G_playThrough_30 : decode zo_G_playThrough 30 = .ok (.arraylength, 1) := by decide +kernel
theorem zd_G_playThrough_31 : decode zo_G_playThrough 31 = .ok (.if_icmp .ge 18, 3) := by decide +kernel
theorem zd_G_playThrough_34 : decode zo_G_playThrough 34 = .ok (.iload_n 3, 1) := by decide +kernel
theorem zd_G_playThrough_35 : decode zo_G_playThrough 35 = .ok (.ifCond .eq 14, 3) := by decide +kernel
theorem zd_G_playThrough_38 : decode zo_G_playThrough 38 = .ok (.aload_n 0, 1) := by decide +kernel
theorem zd_G_playThrough_39 : decode zo_G_playThrough 39 = .ok (.invokevirtual 59, 3) := by decide +kernel
theorem zd_G_playThrough_42 : decode zo_G_playThrough 42 = .ok (.istore_n 3, 1) := by decide +kernel
theorem zd_G_playThrough_43 : decode zo_G_playThrough 43 = .ok (.iinc 4 1, 3) := by decide +kernel
theorem zd_G_playThrough_46 : decode zo_G_playThrough 46 = .ok (.goto (-22), 3) := by decide +kernel
theorem zd_G_playThrough_49 : decode zo_G_playThrough 49 = .ok (.aload_n 0, 1) := by decide +kernel
theorem zd_G_playThrough_50 : decode zo_G_playThrough 50 = .ok (.getfield 55, 3) := by decide +kernel
theorem zd_G_playThrough_53 : decode zo_G_playThrough 53 = .ok (.ireturn, 1) := by decide +kernel
end
section
theorem zd_X_attacks_0 : decode zo_X_attacks 0 = .ok (.iload_n 1, 1) := by decide +kernel
theorem zd_X_attacks_1 : decode zo_X_attacks 1 = .ok (.iload_n 2, 1) := by decide +kernel
theorem zd_X_attacks_2 : decode zo_X_attacks 2 = .ok (.invokestatic 73, 3) := by decide +kernel
theorem zd_X_attacks_5 : decode zo_X_attacks 5 = .ok (.ifCond .ne 5, 3) := by decide +kernel
theorem zd_X_attacks_8 : decode zo_X_attacks 8 = .ok (.iconst 0, 1) := by decide +kernel
theorem zd_X_attacks_9 : decode zo_X_attacks 9 = .ok (.ireturn, 1) := by decide +kernel
theorem zd_X_attacks_10 : decode zo_X_attacks 10 = .ok (.aload_n 0, 1) := by decide +kernel
theorem zd_X_attacks_11 : decode zo_X_attacks 11 = .ok (.getfield 21, 3) := by decide +kernel
theorem zd_X_attacks_14 : decode zo_X_attacks 14 = .ok (.invokevirtual 119, 3) := by decide +kernel
theorem zd_X_attacks_17 : decode zo_X_attacks 17 = .ok (.aload_n 0, 1) := by decide +kernel
theorem zd_X_attacks_18 : decode zo_X_attacks 18 = .ok (.getfield 37, 3) := by decide +kernel
theorem zd_X_attacks_21 : decode zo_X_attacks 21 = .ok (.iload_n 1, 1) := by decide +kernel
theorem zd_X_attacks_22 : decode zo_X_attacks 22 = .ok (.iload_n 2, 1) := by decide +kernel
theorem zd_X_attacks_23 : decode zo_X_attacks 23 = .ok (.invokevirtual 122, 3) := by decide +kernel
theorem zd_X_attacks_26 : decode zo_X_attacks 26 = .ok (.ireturn, 1) := by decide +kernel
theorem zd_X_play_0 : decode zo_X_play 0 = .ok (.aload_n 0, 1) := by decide +kernel
theorem zd_X_play_1 : decode zo_X_play 1 = .ok (.iload_n 1, 1) := by decide +kernel
theorem zd_X_play_2 : decode zo_X_play 2 = .ok (.iload_n 2, 1) := by decide +kernel
theorem zd_X_play_3 : decode zo_X_play 3 = .ok (.invokevirtual 125, 3) := by decide +kernel
theorem zd_X_play_6 : decode zo_X_play 6 = .ok (.ireturn, 1) := by decide +kernel
theorem zd_X_playedAttacks_0 : decode zo_X_playedAttacks 0 = .ok (.iload_n 1, 1) := by decide +kernel
theorem zd_X_playedAttacks_1 : decode zo_X_playedAttacks 1 = .ok (.iload_n 2, 1) := by decide +kernel
theorem zd_X_playedAttacks_2 : decode zo_X_playedAttacks 2 = .ok (.invokestatic 73, 3) := by decide +kernel
theorem zd_X_playedAttacks_5 : decode zo_X_playedAttacks 5 = .ok (.ifCond .ne 5, 3) := by decide +kernel
theorem zd_X_playedAttacks_8 : decode zo_X_playedAttacks 8 = .ok (.iconst 0, 1) := by decide +kernel
theorem zd_X_playedAttacks_9 : decode zo_X_playedAttacks 9 = .ok (.ireturn, 1) := by decide +kernel
theorem zd_X_playedAttacks_10 : decode zo_X_playedAttacks 10 = .ok (.aload_n 0, 1) := by decide +kernel
theorem zd_X_playedAttacks_11 : decode zo_X_playedAttacks 11 = .ok (.getfield 21, 3) := by decide +kernel
theorem zd_X_playedAttacks_14 : decode zo_X_playedAttacks 14 = .ok (.invokevirtual 119, 3) := by decide +kernel
theorem zd_X_playedAttacks_17 : decode zo_X_playedAttacks 17 = .ok (.aload_n 0, 1) := by decide +kernel
theorem zd_X_playedAttacks_18 : decode zo_X_playedAttacks 18 = .ok (.getfield 37, 3) := by decide +kernel
theorem zd_X_playedAttacks_21 : decode zo_X_playedAttacks 21 = .ok (.iload_n 1, 1) := by decide +kernel
theorem zd_X_playedAttacks_22 : decode zo_X_playedAttacks 22 = .ok (.iload_n 2, 1) := by decide +kernel
theorem zd_X_playedAttacks_23 : decode zo_X_playedAttacks 23 = .ok (.invokevirtual 134, 3) := by decide +kernel
theorem zd_X_playedAttacks_26 : decode zo_X_playedAttacks 26 = .ok (.ireturn, 1) := by decide +kernel
theorem zd_X_attack_0 : decode zo_X_attack 0 = .ok (.iload_n 3, 1) := by decide +kernel
theorem zd_X_attack_1 : decode zo_X_attack 1 = .ok (.ifCond .lt 24, 3) := by decide +kernel
theorem zd_X_attack_4 : decode zo_X_attack 4 = .ok (.iload_n 3, 1) := by decide +kernel
theorem zd_X_attack_5 : decode zo_X_attack 5 = .ok (.aload_n 0, 1) := by decide +kernel
theorem zd_X_attack_6 : decode zo_X_attack 6 = .ok (.iload_n 1, 1) := by decide +kernel
theorem zd_X_attack_7 : decode zo_X_attack 7 = .ok (.iload_n 2, 1) := by decide +kernel
theorem zd_X_attack_8 : decode zo_X_attack 8 = .ok (.invokevirtual 125, 3) := by decide +kernel
theorem zd_X_attack_11 : decode zo_X_attack 11 = .ok (.if_icmp .ge 14, 3) := by decide +kernel
theorem zd_X_attack_14 : decode zo_X_attack 14 = .ok (.aload_n 0, 1) := by decide +kernel
theorem zd_X_attack_15 : decode zo_X_attack 15 = .ok (.getfield 37, 3) := by decide +kernel
theorem zd_X_attack_18 : decode zo_X_attack 18 = .ok (.iload_n 3, 1) := by decide +kernel
theorem zd_X_attack_19 : decode zo_X_attack 19 = .ok (.invokevirtual 128, 3) := by decide +kernel
theorem zd_X_attack_22 : decode zo_X_attack 22 = .ok (.goto 4, 3) := by decide +kernel
theorem zd_X_attack_25 : decode zo_X_attack 25 = .ok (.iconst (-1), 1) := by decide +kernel
theorem zd_X_attack_26 : decode zo_X_attack 26 = .ok (.ireturn, 1) := by decide +kernel
theorem zd_X_answer_0 : decode zo_X_answer 0 = .ok (.iload_n 3, 1) := by decide +kernel
theorem zd_X_answer_1 : decode zo_X_answer 1 = .ok (.ifCond .lt 24, 3) := by decide +kernel
theorem zd_X_answer_4 : decode zo_X_answer 4 = .ok (.iload_n 3, 1) := by decide +kernel
theorem zd_X_answer_5 : decode zo_X_answer 5 = .ok (.aload_n 0, 1) := by decide +kernel
theorem zd_X_answer_6 : decode zo_X_answer 6 = .ok (.iload_n 1, 1) := by decide +kernel
theorem zd_X_answer_7 : decode zo_X_answer 7 = .ok (.iload_n 2, 1) := by decide +kernel
theorem zd_X_answer_8 : decode zo_X_answer 8 = .ok (.invokevirtual 125, 3) := by decide +kernel
theorem zd_X_answer_11 : decode zo_X_answer 11 = .ok (.if_icmp .ge 14, 3) := by decide +kernel
theorem zd_X_answer_14 : decode zo_X_answer 14 = .ok (.aload_n 0, 1) := by decide +kernel
theorem zd_X_answer_15 : decode zo_X_answer 15 = .ok (.getfield 37, 3) := by decide +kernel
theorem zd_X_answer_18 : decode zo_X_answer 18 = .ok (.iload_n 3, 1) := by decide +kernel
theorem zd_X_answer_19 : decode zo_X_answer 19 = .ok (.invokevirtual 131, 3) := by decide +kernel
theorem zd_X_answer_22 : decode zo_X_answer 22 = .ok (.goto 4, 3) := by decide +kernel
theorem zd_X_answer_25 : decode zo_X_answer 25 = .ok (.iconst (-1), 1) := by decide +kernel
theorem zd_X_answer_26 : decode zo_X_answer 26 = .ok (.ireturn, 1) := by decide +kernel
end
section
def zr_X_hasBit : Room := { frames := 0, cells := 0, slots := 0, locals := 0 }
set_option maxHeartbeats 4000000 in
set_option maxRecDepth 100000 in
theorem zc_X_hasBit (ln : Launch) (D : va_G) (cI cZ : ClassId) (w : Int32) (t : Nat) (ht0 : t < 32) : Met ln zm_X_hasBit (Cond.code zm_X_hasBit zo_X_hasBit 2 (some .boolean) :: zb_big) zr_X_hasBit (za_Pr D vwCl [(cI, .int), (cZ, .boolean)] [.int w, .int (nI t)] []) (vp_Si (fun r => r = za_bi (bt w t))) 0 0 (fun _ => False) := by
  refine za_reader (cc := zo_X_hasBit) (maxL := 2) (ty := .boolean) (by decide) (Nat.le_of_ble_eq_true rfl) (fun _ h => by rw [h]; exact za_nar _) ?_
  intro p e sg m args below meth c H Q hx hb hml hts hown hP hK hN hret ls hl
  have hP : va_P D vwCl [] H := hP
  have hl : lv_has ls 2 [(0, .int w), (1, .int (nI t))] := hl
  refine lv_iload_n hx hb zd_X_hasBit_0 rfl (lv_at hl 0 rfl) ?_
  refine lv_iload_n hx hb zd_X_hasBit_1 rfl (lv_at hl 1 rfl) ?_
  refine lv_ishr hx hb zd_X_hasBit_2 ?_
  refine lv_iconst (v := nI 1) hx hb zd_X_hasBit_3 (by decide) ?_
  refine lv_iand hx hb zd_X_hasBit_4 ?_
  refine lv_if_eq hx hb (tgt := 12) zd_X_hasBit_5 (by decide) (fun h5 => ?_) (fun h5 => ?_)
  · skip
    refine lv_iconst (v := nI 0) hx hb zd_X_hasBit_12 (by decide) ?_
    exact hret _ _ _ (za_b0 (by first | exact za_bitT ht0 h5 | exact za_bitF ht0 h5)) zd_X_hasBit_13
  · skip
    refine lv_iconst (v := nI 1) hx hb zd_X_hasBit_8 (by decide) ?_
    refine lv_goto hx hb (tgt := 13) zd_X_hasBit_9 (by decide) ?_
    exact hret _ _ _ (za_b1 (by first | exact za_bitT ht0 h5 | exact za_bitF ht0 h5)) zd_X_hasBit_13
def zr_X_isState : Room := { frames := 0, cells := 0, slots := 0, locals := 0 }
set_option maxHeartbeats 4000000 in
set_option maxRecDepth 100000 in
theorem zc_X_isState (ln : Launch) (D : va_G) (cI cZ : ClassId) (w : Int32) : Met ln zm_X_isState (Cond.code zm_X_isState zo_X_isState 1 (some .boolean) :: zb_big) zr_X_isState (za_Pr D vwCl [(cI, .int), (cZ, .boolean)] [.int w] []) (vp_Si (fun r => r = za_bi (za_isS w))) 0 0 (fun _ => False) := by
  refine za_reader (cc := zo_X_isState) (maxL := 1) (ty := .boolean) (by decide) (Nat.le_of_ble_eq_true rfl) (fun _ h => by rw [h]; exact za_nar _) ?_
  intro p e sg m args below meth c H Q hx hb hml hts hown hP hK hN hret ls hl
  have hP : va_P D vwCl [] H := hP
  have hl : lv_has ls 1 [(0, .int w)] := hl
  refine lv_iload_n hx hb zd_X_isState_0 rfl (lv_at hl 0 rfl) ?_
  refine lv_if_lt hx hb (tgt := 14) zd_X_isState_1 (by decide) (fun h1 => ?_) (fun h1 => ?_)
  · skip
    refine lv_iconst (v := nI 0) hx hb zd_X_isState_14 (by decide) ?_
    exact hret _ _ _ (za_b0 (by first | exact za_isS1 h1 h7 | exact za_isS2 h1 | exact za_isS3 h7)) zd_X_isState_15
  · skip
    refine lv_iload_n hx hb zd_X_isState_4 rfl (lv_at hl 0 rfl) ?_
    refine lv_bipush (v := nI 24) hx hb zd_X_isState_5 (by decide) ?_
    refine lv_icmp_ge hx hb (tgt := 14) zd_X_isState_7 (by decide) (fun h7 => ?_) (fun h7 => ?_)
    · skip
      refine lv_iconst (v := nI 0) hx hb zd_X_isState_14 (by decide) ?_
      exact hret _ _ _ (za_b0 (by first | exact za_isS1 h1 h7 | exact za_isS2 h1 | exact za_isS3 h7)) zd_X_isState_15
    · skip
      refine lv_iconst (v := nI 1) hx hb zd_X_isState_10 (by decide) ?_
      refine lv_goto hx hb (tgt := 15) zd_X_isState_11 (by decide) ?_
      exact hret _ _ _ (za_b1 (by first | exact za_isS1 h1 h7 | exact za_isS2 h1 | exact za_isS3 h7)) zd_X_isState_15
def zr_X_areStates : Room := { frames := 1, cells := 0, slots := 0, locals := 20 }
set_option maxHeartbeats 4000000 in
set_option maxRecDepth 100000 in
theorem zc_X_areStates (ln : Launch) (D : va_G) (cI cZ : ClassId) (w : Int32) (v : Int32) : Met ln zm_X_areStates (Cond.code zm_X_areStates zo_X_areStates 2 (some .boolean) :: zb_big) zr_X_areStates (za_Pr D vwCl [(cI, .int), (cZ, .boolean)] [.int w, .int v] []) (vp_Si (fun r => r = za_bi (za_isS w && za_isS v))) 0 0 (fun _ => False) := by
  refine za_reader (cc := zo_X_areStates) (maxL := 2) (ty := .boolean) (by decide) (Nat.le_of_ble_eq_true rfl) (fun _ h => by rw [h]; exact za_nar _) ?_
  intro p e sg m args below meth c H Q hx hb hml hts hown hP hK hN hret ls hl
  have hP : va_P D vwCl [] H := hP
  have hl : lv_has ls 2 [(0, .int w), (1, .int v)] := hl
  refine lv_iload_n hx hb zd_X_areStates_0 rfl (lv_at hl 0 rfl) ?_
  refine za_cS (As := [.int w]) (rest := []) ⟨hx, hb, hml, hown, hts⟩ (zc_X_isState ln D cI cZ w ) (za_gS 1 hts zw_162 zw_163 zw_35 zw_164 (by decide +kernel) ⟨Nat.le_of_ble_eq_true rfl, Nat.le_of_ble_eq_true rfl⟩) hK hN hP [] rfl hl rfl rfl (Nat.le_of_ble_eq_true rfl) zd_X_areStates_1 ⟨Nat.le_of_ble_eq_true rfl, Nat.le_of_ble_eq_true rfl⟩ ?_
  refine lv_if_eq hx hb (tgt := 18) zd_X_areStates_4 (by decide) (fun h4 => ?_) (fun h4 => ?_)
  · have h4 := za_bF h4
    refine lv_iconst (v := nI 0) hx hb zd_X_areStates_18 (by decide) ?_
    exact hret _ _ _ (za_b0 (by simp [h4])) zd_X_areStates_19
  · have h4 := za_bT h4
    refine lv_iload_n hx hb zd_X_areStates_7 rfl (lv_at hl 1 rfl) ?_
    refine za_cS (As := [.int v]) (rest := []) ⟨hx, hb, hml, hown, hts⟩ (zc_X_isState ln D cI cZ v ) (za_gS 1 hts zw_162 zw_163 zw_35 zw_164 (by decide +kernel) ⟨Nat.le_of_ble_eq_true rfl, Nat.le_of_ble_eq_true rfl⟩) hK hN hP [] rfl hl rfl rfl (Nat.le_of_ble_eq_true rfl) zd_X_areStates_8 ⟨Nat.le_of_ble_eq_true rfl, Nat.le_of_ble_eq_true rfl⟩ ?_
    refine lv_if_eq hx hb (tgt := 18) zd_X_areStates_11 (by decide) (fun h11 => ?_) (fun h11 => ?_)
    · have h11 := za_bF h11
      refine lv_iconst (v := nI 0) hx hb zd_X_areStates_18 (by decide) ?_
      exact hret _ _ _ (za_b0 (by simp [h4, h11])) zd_X_areStates_19
    · have h11 := za_bT h11
      refine lv_iconst (v := nI 1) hx hb zd_X_areStates_14 (by decide) ?_
      refine lv_goto hx hb (tgt := 19) zd_X_areStates_15 (by decide) ?_
      exact hret _ _ _ (za_b1 (by simp [h4, h11])) zd_X_areStates_19
def zr_X_isLabel : Room := { frames := 0, cells := 0, slots := 0, locals := 0 }
set_option maxHeartbeats 4000000 in
set_option maxRecDepth 100000 in
theorem zc_X_isLabel (ln : Launch) (D : va_G) (cI cZ : ClassId) (w : Int32) : Met ln zm_X_isLabel (Cond.code zm_X_isLabel zo_X_isLabel 1 (some .boolean) :: zb_big) zr_X_isLabel (za_Pr D vwCl [(cI, .int), (cZ, .boolean)] [.int w] []) (vp_Si (fun r => r = za_bi (za_isL w))) 0 0 (fun _ => False) := by
  refine za_reader (cc := zo_X_isLabel) (maxL := 1) (ty := .boolean) (by decide) (Nat.le_of_ble_eq_true rfl) (fun _ h => by rw [h]; exact za_nar _) ?_
  intro p e sg m args below meth c H Q hx hb hml hts hown hP hK hN hret ls hl
  have hP : va_P D vwCl [] H := hP
  have hl : lv_has ls 1 [(0, .int w)] := hl
  refine lv_iload_n hx hb zd_X_isLabel_0 rfl (lv_at hl 0 rfl) ?_
  refine lv_if_lt hx hb (tgt := 13) zd_X_isLabel_1 (by decide) (fun h1 => ?_) (fun h1 => ?_)
  · skip
    refine lv_iconst (v := nI 0) hx hb zd_X_isLabel_13 (by decide) ?_
    exact hret _ _ _ (za_b0 (by first | exact za_isL1 h1 h6 | exact za_isL2 h1 | exact za_isL3 h6)) zd_X_isLabel_14
  · skip
    refine lv_iload_n hx hb zd_X_isLabel_4 rfl (lv_at hl 0 rfl) ?_
    refine lv_iconst (v := nI 4) hx hb zd_X_isLabel_5 (by decide) ?_
    refine lv_icmp_ge hx hb (tgt := 13) zd_X_isLabel_6 (by decide) (fun h6 => ?_) (fun h6 => ?_)
    · skip
      refine lv_iconst (v := nI 0) hx hb zd_X_isLabel_13 (by decide) ?_
      exact hret _ _ _ (za_b0 (by first | exact za_isL1 h1 h6 | exact za_isL2 h1 | exact za_isL3 h6)) zd_X_isLabel_14
    · skip
      refine lv_iconst (v := nI 1) hx hb zd_X_isLabel_9 (by decide) ?_
      refine lv_goto hx hb (tgt := 14) zd_X_isLabel_10 (by decide) ?_
      exact hret _ _ _ (za_b1 (by first | exact za_isL1 h1 h6 | exact za_isL2 h1 | exact za_isL3 h6)) zd_X_isLabel_14
def zr_X_isMove : Room := { frames := 2, cells := 0, slots := 0, locals := 41 }
set_option maxHeartbeats 4000000 in
set_option maxRecDepth 100000 in
theorem zc_X_isMove (ln : Launch) (D : va_G) (cI cZ : ClassId) (w : Int32) (x0 : Int32) (v : Int32) : Met ln zm_X_isMove (Cond.code zm_X_isMove zo_X_isMove 3 (some .boolean) :: zb_big) zr_X_isMove (za_Pr D vwCl [(cI, .int), (cZ, .boolean)] [.int w, .int x0, .int v] []) (vp_Si (fun r => r = za_bi (za_isS w && za_isS v && za_isL x0))) 0 0 (fun _ => False) := by
  refine za_reader (cc := zo_X_isMove) (maxL := 3) (ty := .boolean) (by decide) (Nat.le_of_ble_eq_true rfl) (fun _ h => by rw [h]; exact za_nar _) ?_
  intro p e sg m args below meth c H Q hx hb hml hts hown hP hK hN hret ls hl
  have hP : va_P D vwCl [] H := hP
  have hl : lv_has ls 3 [(0, .int w), (1, .int x0), (2, .int v)] := hl
  refine lv_iload_n hx hb zd_X_isMove_0 rfl (lv_at hl 0 rfl) ?_
  refine lv_iload_n hx hb zd_X_isMove_1 rfl (lv_at hl 2 rfl) ?_
  refine za_cS (As := [.int w, .int v]) (rest := []) ⟨hx, hb, hml, hown, hts⟩ (zc_X_areStates ln D cI cZ w v ) (za_gS 2 hts zw_159 zw_160 zw_35 zw_161 (by decide +kernel) ⟨Nat.le_of_ble_eq_true rfl, Nat.le_of_ble_eq_true rfl⟩) hK hN hP [] rfl hl rfl rfl (Nat.le_of_ble_eq_true rfl) zd_X_isMove_2 ⟨Nat.le_of_ble_eq_true rfl, Nat.le_of_ble_eq_true rfl⟩ ?_
  refine lv_if_eq hx hb (tgt := 19) zd_X_isMove_5 (by decide) (fun h5 => ?_) (fun h5 => ?_)
  · have h5 := za_bF h5
    refine lv_iconst (v := nI 0) hx hb zd_X_isMove_19 (by decide) ?_
    exact hret _ _ _ (za_b0 (by simp only [h5, Bool.and_true, Bool.and_false, Bool.false_and, Bool.true_and])) zd_X_isMove_20
  · have h5 := za_bT h5
    refine lv_iload_n hx hb zd_X_isMove_8 rfl (lv_at hl 1 rfl) ?_
    refine za_cS (As := [.int x0]) (rest := []) ⟨hx, hb, hml, hown, hts⟩ (zc_X_isLabel ln D cI cZ x0 ) (za_gS 1 hts zw_165 zw_166 zw_35 zw_167 (by decide +kernel) ⟨Nat.le_of_ble_eq_true rfl, Nat.le_of_ble_eq_true rfl⟩) hK hN hP [] rfl hl rfl rfl (Nat.le_of_ble_eq_true rfl) zd_X_isMove_9 ⟨Nat.le_of_ble_eq_true rfl, Nat.le_of_ble_eq_true rfl⟩ ?_
    refine lv_if_eq hx hb (tgt := 19) zd_X_isMove_12 (by decide) (fun h12 => ?_) (fun h12 => ?_)
    · have h12 := za_bF h12
      refine lv_iconst (v := nI 0) hx hb zd_X_isMove_19 (by decide) ?_
      exact hret _ _ _ (za_b0 (by simp only [h5, h12, Bool.and_true, Bool.and_false, Bool.false_and, Bool.true_and])) zd_X_isMove_20
    · have h12 := za_bT h12
      refine lv_iconst (v := nI 1) hx hb zd_X_isMove_15 (by decide) ?_
      refine lv_goto hx hb (tgt := 20) zd_X_isMove_16 (by decide) ?_
      exact hret _ _ _ (za_b1 (by simp only [h5, h12, Bool.and_true, Bool.and_false, Bool.false_and, Bool.true_and])) zd_X_isMove_20
def zr_N_count : Room := { frames := 0, cells := 0, slots := 0, locals := 0 }
set_option maxHeartbeats 4000000 in
set_option maxRecDepth 100000 in
theorem zc_N_count (ln : Launch) (D : va_G) (cI cZ : ClassId) (aN : Nat) (aT : Nat) (aC : Nat) (ct : Int32) : Met ln zm_N_count (Cond.code zm_N_count zo_N_count 1 (some .int) :: zb_big) zr_N_count (za_Pr D vwCl [(cI, .int), (cZ, .boolean)] [.ref aN] [(aN, .inr (0, [.ref aT, .ref aC, .int ct]))]) (vp_Si (fun r => r = ct)) 0 0 (fun _ => False) := by
  refine za_reader (cc := zo_N_count) (maxL := 1) (ty := .int) (by decide) (Nat.le_of_ble_eq_true rfl) (fun _ _ => rfl) ?_
  intro p e sg m args below meth c H Q hx hb hml hts hown hP hK hN hret ls hl
  have hP : va_P D vwCl [(aN, .inr (0, [.ref aT, .ref aC, .int ct]))] H := hP
  have hl : lv_has ls 1 [(0, .ref aN)] := hl
  have hf18 := hts _ zw_58
  refine lv_aload_n hx hb zd_N_count_0 rfl (lv_at hl 0 rfl) ?_
  refine va_get (D := D) (ci := 0) (v := .int ct) (C := zs_N) (T := zt_N) (N := 3) hx hb hts zi_N hown hK hP 0 rfl rfl 2 (by decide) hf18 (fun _ h9 => h9) rfl zd_N_count_1 ?_
  exact hret _ _ _ (rfl) zd_N_count_4
def zr_N_targetsOf : Room := { frames := 0, cells := 0, slots := 0, locals := 0 }
set_option maxHeartbeats 4000000 in
set_option maxRecDepth 100000 in
theorem zc_N_targetsOf (ln : Launch) (D : va_G) (cI cZ : ClassId) (aN : Nat) (aT : Nat) (aC : Nat) (ct : Int32) (Tg : Nat → Int32) (s : Nat) (l : Nat) (hs0 : s < 24) (hl0 : l < 4) : Met ln zm_N_targetsOf (Cond.code zm_N_targetsOf zo_N_targetsOf 3 (some .int) :: zb_big) zr_N_targetsOf (za_Pr D vwCl [(cI, .int), (cZ, .boolean)] [.ref aN, .int (nI s), .int (nI l)] [(aN, .inr (0, [.ref aT, .ref aC, .int ct])), (aT, .inl (cI, 96, .inl Tg))]) (vp_Si (fun r => r = Tg (s * 4 + l))) 0 0 (fun _ => False) := by
  refine za_reader (cc := zo_N_targetsOf) (maxL := 3) (ty := .int) (by decide) (Nat.le_of_ble_eq_true rfl) (fun _ _ => rfl) ?_
  intro p e sg m args below meth c H Q hx hb hml hts hown hP hK hN hret ls hl
  have hP : va_P D vwCl [(aN, .inr (0, [.ref aT, .ref aC, .int ct])), (aT, .inl (cI, 96, .inl Tg))] H := hP
  have hl : lv_has ls 3 [(0, .ref aN), (1, .int (nI s)), (2, .int (nI l))] := hl
  have hf9 := hts _ zw_56
  refine lv_aload_n hx hb zd_N_targetsOf_0 rfl (lv_at hl 0 rfl) ?_
  refine va_get (D := D) (ci := 0) (v := .ref aT) (C := zs_N) (T := zt_N) (N := 3) hx hb hts zi_N hown hK hP 0 rfl rfl 0 (by decide) hf9 (fun _ h9 => h9) rfl zd_N_targetsOf_1 ?_
  refine lv_iload_n hx hb zd_N_targetsOf_4 rfl (lv_at hl 1 rfl) ?_
  refine lv_iconst (v := nI 4) hx hb zd_N_targetsOf_5 (by decide) ?_
  refine za_mulN hx hb zd_N_targetsOf_6 ?_
  refine lv_iload_n hx hb zd_N_targetsOf_7 rfl (lv_at hl 2 rfl) ?_
  refine za_addN hx hb zd_N_targetsOf_8 ?_
  refine za_ild hx hb hK hP 1 0 rfl rfl (k := (s * 4) + l) (by omega) (by decide) zd_N_targetsOf_9 ?_
  exact hret _ _ _ (by first | with_reducible rfl | (simp [])) zd_N_targetsOf_10
def zr_N_holds : Room := { frames := 1, cells := 0, slots := 0, locals := 22 }
set_option maxHeartbeats 4000000 in
set_option maxRecDepth 100000 in
theorem zc_N_holds (ln : Launch) (D : va_G) (cI cZ : ClassId) (aN : Nat) (aT : Nat) (aC : Nat) (ct : Int32) (Tg : Nat → Int32) (s : Nat) (l : Nat) (t : Nat) (hs0 : s < 24) (hl0 : l < 4) (ht0 : t < 24) : Met ln zm_N_holds (Cond.code zm_N_holds zo_N_holds 4 (some .boolean) :: zb_big) zr_N_holds (za_Pr D vwCl [(cI, .int), (cZ, .boolean)] [.ref aN, .int (nI s), .int (nI l), .int (nI t)] [(aN, .inr (0, [.ref aT, .ref aC, .int ct])), (aT, .inl (cI, 96, .inl Tg))]) (vp_Si (fun r => r = za_bi (bt (Tg (s * 4 + l)) t))) 0 0 (fun _ => False) := by
  refine za_reader (cc := zo_N_holds) (maxL := 4) (ty := .boolean) (by decide) (Nat.le_of_ble_eq_true rfl) (fun _ h => by rw [h]; exact za_nar _) ?_
  intro p e sg m args below meth c H Q hx hb hml hts hown hP hK hN hret ls hl
  have hP : va_P D vwCl [(aN, .inr (0, [.ref aT, .ref aC, .int ct])), (aT, .inl (cI, 96, .inl Tg))] H := hP
  have hl : lv_has ls 4 [(0, .ref aN), (1, .int (nI s)), (2, .int (nI l)), (3, .int (nI t))] := hl
  refine lv_aload_n hx hb zd_N_holds_0 rfl (lv_at hl 0 rfl) ?_
  refine lv_iload_n hx hb zd_N_holds_1 rfl (lv_at hl 1 rfl) ?_
  refine lv_iload_n hx hb zd_N_holds_2 rfl (lv_at hl 2 rfl) ?_
  refine za_cV (As := [.int (nI s), .int (nI l)]) (rest := []) ⟨hx, hb, hml, hown, hts⟩ (zc_N_targetsOf ln D cI cZ aN aT aC ct Tg s l (by omega) (by omega)) (za_gV 2 hts zw_172 zw_173 zw_174 zw_36 zw_175 (by decide +kernel) ⟨Nat.le_of_ble_eq_true rfl, Nat.le_of_ble_eq_true rfl⟩) hK hN hP [0, 1] rfl (q0 := 0) rfl rfl hl rfl rfl (Nat.le_of_ble_eq_true rfl) zd_N_holds_3 ⟨Nat.le_of_ble_eq_true rfl, Nat.le_of_ble_eq_true rfl⟩ ?_
  refine lv_iload_n hx hb zd_N_holds_6 rfl (lv_at hl 3 rfl) ?_
  refine za_cSN (As := [.int (Tg (s * 4 + l)), .int (nI t)]) (rest := []) ⟨hx, hb, hml, hown, hts⟩ (zc_X_hasBit ln D cI cZ (Tg (s * 4 + l)) t (by omega)) (za_gSN 2 hts hN.1 zw_177 zw_35 zw_178 (by decide +kernel) ⟨Nat.le_of_ble_eq_true rfl, Nat.le_of_ble_eq_true rfl⟩) hK hN hP [] rfl hl rfl rfl (Nat.le_of_ble_eq_true rfl) zd_N_holds_7 ⟨Nat.le_of_ble_eq_true rfl, Nat.le_of_ble_eq_true rfl⟩ ?_
  exact hret _ _ _ (rfl) zd_N_holds_10
def zr_N_put : Room := { frames := 0, cells := 0, slots := 0, locals := 0 }
set_option maxHeartbeats 4000000 in
set_option maxRecDepth 100000 in
theorem zc_N_put (ln : Launch) (D : va_G) (cI cZ : ClassId) (sz : Nat) (aN : Nat) (aT : Nat) (aC : Nat) (ct : Int32) (Tg : Nat → Int32) (s : Nat) (l : Nat) (t : Nat) (hs0 : s < 24) (hl0 : l < 4) (ht0 : t < 24) : Met ln zm_N_put (Cond.code zm_N_put zo_N_put 4 none :: zb_big) zr_N_put (za_Pw D vwCl [(cI, .int), (cZ, .boolean)] [.ref aN, .int (nI s), .int (nI l), .int (nI t)] [(aN, .inr (0, [.ref aT, .ref aC, .int ct])), (aT, .inl (cI, 96, .inl Tg))] sz) (va_Qv (fun (_u : Unit) => True) (za_B D vwCl [(aN, .inr (0, [.ref aT, .ref aC, .int ct])), (aT, .inl (cI, 96, .inl Tg))] sz (fun (_u : Unit) => [(aN, .inr (0, [.ref aT, .ref aC, .int (ct + nI 1)])), (aT, .inl (cI, 96, .inl (upd Tg (s * 4 + l) (Tg (s * 4 + l) ||| (nI 1 <<< (nI t &&& 31))))))])) (va_A [(aN, .inr (0, [.ref aT, .ref aC, .int ct])), (aT, .inl (cI, 96, .inl Tg))] sz)) 0 0 (va_A [(aN, .inr (0, [.ref aT, .ref aC, .int ct])), (aT, .inl (cI, 96, .inl Tg))] sz) := by
  refine za_wv (cc := zo_N_put) (maxL := 4) (by decide) (Nat.le_of_ble_eq_true rfl) ?_
  intro p e sg m args below meth c H0 A Q hx hb hml hts hown hmn hP hK hN hD hA hS hret ls hl
  have hP : va_P D vwCl [(aN, .inr (0, [.ref aT, .ref aC, .int ct])), (aT, .inl (cI, 96, .inl Tg))] H0 := hP
  have hD : va_D A [(aN, .inr (0, [.ref aT, .ref aC, .int ct])), (aT, .inl (cI, 96, .inl Tg))] := hD
  have hl : lv_has ls 4 [(0, .ref aN), (1, .int (nI s)), (2, .int (nI l)), (3, .int (nI t))] := hl
  have hf9 := hts _ zw_56
  have hf18 := hts _ zw_58
  refine lv_aload_n hx hb zd_N_put_0 rfl (lv_at hl 0 rfl) ?_
  refine va_get (D := D) (ci := 0) (v := .ref aT) (C := zs_N) (T := zt_N) (N := 3) hx hb hts zi_N hown hK hP 0 rfl rfl 0 (by decide) hf9 (fun _ h9 => h9) rfl zd_N_put_1 ?_
  refine lv_iload_n hx hb zd_N_put_4 rfl (lv_at hl 1 rfl) ?_
  refine lv_iconst (v := nI 4) hx hb zd_N_put_5 (by decide) ?_
  refine za_mulN hx hb zd_N_put_6 ?_
  refine lv_iload_n hx hb zd_N_put_7 rfl (lv_at hl 2 rfl) ?_
  refine za_addN hx hb zd_N_put_8 ?_
  refine lv_dup2_11 hx hb zd_N_put_9 rfl rfl ?_
  refine za_ild hx hb hK hP 1 0 rfl rfl (k := (s * 4) + l) (by omega) (by decide) zd_N_put_10 ?_
  refine lv_iconst (v := nI 1) hx hb zd_N_put_11 (by decide) ?_
  refine lv_iload_n hx hb zd_N_put_12 rfl (lv_at hl 3 rfl) ?_
  refine lv_ishl hx hb zd_N_put_13 ?_
  refine lv_ior hx hb zd_N_put_14 ?_
  refine za_ist hx hb hK hP hD hS 1 0 rfl rfl (k := (s * 4) + l) (by omega) (by decide) zd_N_put_15 (fun H locs hP hD hS => ?_)
  have hP : va_P D vwCl [(aN, .inr (0, [.ref aT, .ref aC, .int ct])), (aT, .inl (cI, 96, .inl (upd Tg ((s * 4) + l) ((Tg ((s * 4) + l)) ||| ((nI 1) <<< ((nI t) &&& 31))))))] H := hP
  have hD : va_D A [(aN, .inr (0, [.ref aT, .ref aC, .int ct])), (aT, .inl (cI, 96, .inl (upd Tg ((s * 4) + l) ((Tg ((s * 4) + l)) ||| ((nI 1) <<< ((nI t) &&& 31))))))] := hD
  refine lv_aload_n hx hb zd_N_put_16 rfl (lv_at hl 0 rfl) ?_
  refine lv_dup hx hb zd_N_put_17 rfl ?_
  refine va_get (D := D) (ci := 0) (v := .int ct) (C := zs_N) (T := zt_N) (N := 3) hx hb hts zi_N hown hK hP 0 rfl rfl 2 (by decide) hf18 (fun _ h9 => h9) rfl zd_N_put_18 ?_
  refine lv_iconst (v := nI 1) hx hb zd_N_put_21 (by decide) ?_
  refine lv_iadd hx hb zd_N_put_22 ?_
  refine va_put (D := D) (ci := 0) (v := .int (ct + (nI 1))) (ty := .int) (C := zs_N) (T := zt_N) (N := 3) hx hb hts zi_N zy_N zk_N zn_N hown hK hP hD hS 0 rfl rfl 2 (by decide) hf18 (fun _ h9 => h9) rfl (by decide +kernel) rfl rfl (Nat.le_of_ble_eq_true rfl) zd_N_put_23 (fun H locs hP hD hS => ?_)
  have hP : va_P D vwCl [(aN, .inr (0, [.ref aT, .ref aC, .int (ct + (nI 1))])), (aT, .inl (cI, 96, .inl (upd Tg ((s * 4) + l) ((Tg ((s * 4) + l)) ||| ((nI 1) <<< ((nI t) &&& 31))))))] H := hP
  have hD : va_D A [(aN, .inr (0, [.ref aT, .ref aC, .int (ct + (nI 1))])), (aT, .inl (cI, 96, .inl (upd Tg ((s * 4) + l) ((Tg ((s * 4) + l)) ||| ((nI 1) <<< ((nI t) &&& 31))))))] := hD
  have e1 : ct + nI 1 = (ct + (nI 1)) := by first | with_reducible rfl | (rfl)
  have e2 : upd Tg (s * 4 + l) (Tg (s * 4 + l) ||| (nI 1 <<< (nI t &&& 31))) = upd Tg ((s * 4) + l) ((Tg ((s * 4) + l)) ||| ((nI 1) <<< ((nI t) &&& 31))) := by first | with_reducible rfl | (rfl)
  have hP9 : va_P D vwCl [(aN, .inr (0, [.ref aT, .ref aC, .int (ct + nI 1)])), (aT, .inl (cI, 96, .inl (upd Tg (s * 4 + l) (Tg (s * 4 + l) ||| (nI 1 <<< (nI t &&& 31))))))] H := by rw [e1, e2]; exact hP
  have hD9 : va_D A [(aN, .inr (0, [.ref aT, .ref aC, .int (ct + nI 1)])), (aT, .inl (cI, 96, .inl (upd Tg (s * 4 + l) (Tg (s * 4 + l) ||| (nI 1 <<< (nI t &&& 31))))))] := by rw [e1, e2]; exact hD
  exact hret () _ _ _ _ (trivial) hP9 hD9 hS zd_N_put_26
def zr_N_take : Room := { frames := 0, cells := 0, slots := 0, locals := 0 }
set_option maxHeartbeats 4000000 in
set_option maxRecDepth 100000 in
theorem zc_N_take (ln : Launch) (D : va_G) (cI cZ : ClassId) (sz : Nat) (aN : Nat) (aT : Nat) (aC : Nat) (ct : Int32) (Tg : Nat → Int32) (s : Nat) (l : Nat) (t : Nat) (hs0 : s < 24) (hl0 : l < 4) (ht0 : t < 24) : Met ln zm_N_take (Cond.code zm_N_take zo_N_take 4 none :: zb_big) zr_N_take (za_Pw D vwCl [(cI, .int), (cZ, .boolean)] [.ref aN, .int (nI s), .int (nI l), .int (nI t)] [(aN, .inr (0, [.ref aT, .ref aC, .int ct])), (aT, .inl (cI, 96, .inl Tg))] sz) (va_Qv (fun (_u : Unit) => True) (za_B D vwCl [(aN, .inr (0, [.ref aT, .ref aC, .int ct])), (aT, .inl (cI, 96, .inl Tg))] sz (fun (_u : Unit) => [(aN, .inr (0, [.ref aT, .ref aC, .int (ct - nI 1)])), (aT, .inl (cI, 96, .inl (upd Tg (s * 4 + l) (Tg (s * 4 + l) &&& ((nI 1 <<< (nI t &&& 31)) ^^^ (-1))))))])) (va_A [(aN, .inr (0, [.ref aT, .ref aC, .int ct])), (aT, .inl (cI, 96, .inl Tg))] sz)) 0 0 (va_A [(aN, .inr (0, [.ref aT, .ref aC, .int ct])), (aT, .inl (cI, 96, .inl Tg))] sz) := by
  refine za_wv (cc := zo_N_take) (maxL := 4) (by decide) (Nat.le_of_ble_eq_true rfl) ?_
  intro p e sg m args below meth c H0 A Q hx hb hml hts hown hmn hP hK hN hD hA hS hret ls hl
  have hP : va_P D vwCl [(aN, .inr (0, [.ref aT, .ref aC, .int ct])), (aT, .inl (cI, 96, .inl Tg))] H0 := hP
  have hD : va_D A [(aN, .inr (0, [.ref aT, .ref aC, .int ct])), (aT, .inl (cI, 96, .inl Tg))] := hD
  have hl : lv_has ls 4 [(0, .ref aN), (1, .int (nI s)), (2, .int (nI l)), (3, .int (nI t))] := hl
  have hf9 := hts _ zw_56
  have hf18 := hts _ zw_58
  refine lv_aload_n hx hb zd_N_take_0 rfl (lv_at hl 0 rfl) ?_
  refine va_get (D := D) (ci := 0) (v := .ref aT) (C := zs_N) (T := zt_N) (N := 3) hx hb hts zi_N hown hK hP 0 rfl rfl 0 (by decide) hf9 (fun _ h9 => h9) rfl zd_N_take_1 ?_
  refine lv_iload_n hx hb zd_N_take_4 rfl (lv_at hl 1 rfl) ?_
  refine lv_iconst (v := nI 4) hx hb zd_N_take_5 (by decide) ?_
  refine za_mulN hx hb zd_N_take_6 ?_
  refine lv_iload_n hx hb zd_N_take_7 rfl (lv_at hl 2 rfl) ?_
  refine za_addN hx hb zd_N_take_8 ?_
  refine lv_dup2_11 hx hb zd_N_take_9 rfl rfl ?_
  refine za_ild hx hb hK hP 1 0 rfl rfl (k := (s * 4) + l) (by omega) (by decide) zd_N_take_10 ?_
  refine lv_iconst (v := nI 1) hx hb zd_N_take_11 (by decide) ?_
  refine lv_iload_n hx hb zd_N_take_12 rfl (lv_at hl 3 rfl) ?_
  refine lv_ishl hx hb zd_N_take_13 ?_
  refine lv_iconst (v := (-1)) hx hb zd_N_take_14 (by decide) ?_
  refine lv_ixor hx hb zd_N_take_15 ?_
  refine lv_iand hx hb zd_N_take_16 ?_
  refine za_ist hx hb hK hP hD hS 1 0 rfl rfl (k := (s * 4) + l) (by omega) (by decide) zd_N_take_17 (fun H locs hP hD hS => ?_)
  have hP : va_P D vwCl [(aN, .inr (0, [.ref aT, .ref aC, .int ct])), (aT, .inl (cI, 96, .inl (upd Tg ((s * 4) + l) ((Tg ((s * 4) + l)) &&& (((nI 1) <<< ((nI t) &&& 31)) ^^^ (-1))))))] H := hP
  have hD : va_D A [(aN, .inr (0, [.ref aT, .ref aC, .int ct])), (aT, .inl (cI, 96, .inl (upd Tg ((s * 4) + l) ((Tg ((s * 4) + l)) &&& (((nI 1) <<< ((nI t) &&& 31)) ^^^ (-1))))))] := hD
  refine lv_aload_n hx hb zd_N_take_18 rfl (lv_at hl 0 rfl) ?_
  refine lv_dup hx hb zd_N_take_19 rfl ?_
  refine va_get (D := D) (ci := 0) (v := .int ct) (C := zs_N) (T := zt_N) (N := 3) hx hb hts zi_N hown hK hP 0 rfl rfl 2 (by decide) hf18 (fun _ h9 => h9) rfl zd_N_take_20 ?_
  refine lv_iconst (v := nI 1) hx hb zd_N_take_23 (by decide) ?_
  refine lv_isub hx hb zd_N_take_24 ?_
  refine va_put (D := D) (ci := 0) (v := .int (ct - (nI 1))) (ty := .int) (C := zs_N) (T := zt_N) (N := 3) hx hb hts zi_N zy_N zk_N zn_N hown hK hP hD hS 0 rfl rfl 2 (by decide) hf18 (fun _ h9 => h9) rfl (by decide +kernel) rfl rfl (Nat.le_of_ble_eq_true rfl) zd_N_take_25 (fun H locs hP hD hS => ?_)
  have hP : va_P D vwCl [(aN, .inr (0, [.ref aT, .ref aC, .int (ct - (nI 1))])), (aT, .inl (cI, 96, .inl (upd Tg ((s * 4) + l) ((Tg ((s * 4) + l)) &&& (((nI 1) <<< ((nI t) &&& 31)) ^^^ (-1))))))] H := hP
  have hD : va_D A [(aN, .inr (0, [.ref aT, .ref aC, .int (ct - (nI 1))])), (aT, .inl (cI, 96, .inl (upd Tg ((s * 4) + l) ((Tg ((s * 4) + l)) &&& (((nI 1) <<< ((nI t) &&& 31)) ^^^ (-1))))))] := hD
  have e1 : ct - nI 1 = (ct - (nI 1)) := by first | with_reducible rfl | (rfl)
  have e2 : upd Tg (s * 4 + l) (Tg (s * 4 + l) &&& ((nI 1 <<< (nI t &&& 31)) ^^^ (-1))) = upd Tg ((s * 4) + l) ((Tg ((s * 4) + l)) &&& (((nI 1) <<< ((nI t) &&& 31)) ^^^ (-1))) := by first | with_reducible rfl | (rfl)
  have hP9 : va_P D vwCl [(aN, .inr (0, [.ref aT, .ref aC, .int (ct - nI 1)])), (aT, .inl (cI, 96, .inl (upd Tg (s * 4 + l) (Tg (s * 4 + l) &&& ((nI 1 <<< (nI t &&& 31)) ^^^ (-1))))))] H := by rw [e1, e2]; exact hP
  have hD9 : va_D A [(aN, .inr (0, [.ref aT, .ref aC, .int (ct - nI 1)])), (aT, .inl (cI, 96, .inl (upd Tg (s * 4 + l) (Tg (s * 4 + l) &&& ((nI 1 <<< (nI t &&& 31)) ^^^ (-1))))))] := by rw [e1, e2]; exact hD
  exact hret () _ _ _ _ (trivial) hP9 hD9 hS zd_N_take_28
def zr_N_paint : Room := { frames := 0, cells := 0, slots := 0, locals := 0 }
set_option maxHeartbeats 4000000 in
set_option maxRecDepth 100000 in
theorem zc_N_paint (ln : Launch) (D : va_G) (cI cZ : ClassId) (sz : Nat) (aN : Nat) (aT : Nat) (aC : Nat) (ct : Int32) (Co : Nat → Int32) (s : Nat) (w : Int32) (hs0 : s < 24) : Met ln zm_N_paint (Cond.code zm_N_paint zo_N_paint 3 none :: zb_big) zr_N_paint (za_Pw D vwCl [(cI, .int), (cZ, .boolean)] [.ref aN, .int (nI s), .int w] [(aN, .inr (0, [.ref aT, .ref aC, .int ct])), (aC, .inl (cI, 24, .inl Co))] sz) (va_Qv (fun (_u : Unit) => True) (za_B D vwCl [(aN, .inr (0, [.ref aT, .ref aC, .int ct])), (aC, .inl (cI, 24, .inl Co))] sz (fun (_u : Unit) => [(aN, .inr (0, [.ref aT, .ref aC, .int ct])), (aC, .inl (cI, 24, .inl (upd Co s w)))])) (va_A [(aN, .inr (0, [.ref aT, .ref aC, .int ct])), (aC, .inl (cI, 24, .inl Co))] sz)) 0 0 (va_A [(aN, .inr (0, [.ref aT, .ref aC, .int ct])), (aC, .inl (cI, 24, .inl Co))] sz) := by
  refine za_wv (cc := zo_N_paint) (maxL := 3) (by decide) (Nat.le_of_ble_eq_true rfl) ?_
  intro p e sg m args below meth c H0 A Q hx hb hml hts hown hmn hP hK hN hD hA hS hret ls hl
  have hP : va_P D vwCl [(aN, .inr (0, [.ref aT, .ref aC, .int ct])), (aC, .inl (cI, 24, .inl Co))] H0 := hP
  have hD : va_D A [(aN, .inr (0, [.ref aT, .ref aC, .int ct])), (aC, .inl (cI, 24, .inl Co))] := hD
  have hl : lv_has ls 3 [(0, .ref aN), (1, .int (nI s)), (2, .int w)] := hl
  have hf15 := hts _ zw_57
  refine lv_aload_n hx hb zd_N_paint_0 rfl (lv_at hl 0 rfl) ?_
  refine va_get (D := D) (ci := 0) (v := .ref aC) (C := zs_N) (T := zt_N) (N := 3) hx hb hts zi_N hown hK hP 0 rfl rfl 1 (by decide) hf15 (fun _ h9 => h9) rfl zd_N_paint_1 ?_
  refine lv_iload_n hx hb zd_N_paint_4 rfl (lv_at hl 1 rfl) ?_
  refine lv_iload_n hx hb zd_N_paint_5 rfl (lv_at hl 2 rfl) ?_
  refine za_ist hx hb hK hP hD hS 1 0 rfl rfl (k := s) (by omega) (by decide) zd_N_paint_6 (fun H locs hP hD hS => ?_)
  have hP : va_P D vwCl [(aN, .inr (0, [.ref aT, .ref aC, .int ct])), (aC, .inl (cI, 24, .inl (upd Co s w)))] H := hP
  have hD : va_D A [(aN, .inr (0, [.ref aT, .ref aC, .int ct])), (aC, .inl (cI, 24, .inl (upd Co s w)))] := hD
  have hP9 : va_P D vwCl [(aN, .inr (0, [.ref aT, .ref aC, .int ct])), (aC, .inl (cI, 24, .inl (upd Co s w)))] H := hP
  have hD9 : va_D A [(aN, .inr (0, [.ref aT, .ref aC, .int ct])), (aC, .inl (cI, 24, .inl (upd Co s w)))] := hD
  exact hret () _ _ _ _ (trivial) hP9 hD9 hS zd_N_paint_7
def zr_N_wipe : Room := { frames := 0, cells := 0, slots := 0, locals := 0 }
set_option maxHeartbeats 4000000 in
set_option maxRecDepth 100000 in
theorem zc_N_wipe (ln : Launch) (D : va_G) (cI cZ : ClassId) (sz : Nat) (aN : Nat) (aT : Nat) (aC : Nat) (ct : Int32) (Tg : Nat → Int32) (Co : Nat → Int32) : Met ln zm_N_wipe (Cond.code zm_N_wipe zo_N_wipe 2 none :: zb_big) zr_N_wipe (za_Pw D vwCl [(cI, .int), (cZ, .boolean)] [.ref aN] [(aN, .inr (0, [.ref aT, .ref aC, .int ct])), (aT, .inl (cI, 96, .inl Tg)), (aC, .inl (cI, 24, .inl Co))] sz) (va_Qv (fun (_u : Unit) => True) (za_B D vwCl [(aN, .inr (0, [.ref aT, .ref aC, .int ct])), (aT, .inl (cI, 96, .inl Tg)), (aC, .inl (cI, 24, .inl Co))] sz (fun (_u : Unit) => [(aN, .inr (0, [.ref aT, .ref aC, .int (nI 0)])), (aT, .inl (cI, 96, .inl (za_fl (fun _ => nI 0) Tg 96))), (aC, .inl (cI, 24, .inl (za_fl (fun _ => nI 0) Co 24)))])) (va_A [(aN, .inr (0, [.ref aT, .ref aC, .int ct])), (aT, .inl (cI, 96, .inl Tg)), (aC, .inl (cI, 24, .inl Co))] sz)) 0 0 (va_A [(aN, .inr (0, [.ref aT, .ref aC, .int ct])), (aT, .inl (cI, 96, .inl Tg)), (aC, .inl (cI, 24, .inl Co))] sz) := by
  refine za_wv (cc := zo_N_wipe) (maxL := 2) (by decide) (Nat.le_of_ble_eq_true rfl) ?_
  intro p e sg m args below meth c H0 A Q hx hb hml hts hown hmn hP hK hN hD hA hS hret ls hl
  have hP : va_P D vwCl [(aN, .inr (0, [.ref aT, .ref aC, .int ct])), (aT, .inl (cI, 96, .inl Tg)), (aC, .inl (cI, 24, .inl Co))] H0 := hP
  have hD : va_D A [(aN, .inr (0, [.ref aT, .ref aC, .int ct])), (aT, .inl (cI, 96, .inl Tg)), (aC, .inl (cI, 24, .inl Co))] := hD
  have hl : lv_has ls 2 [(0, .ref aN)] := hl
  have hf9 := hts _ zw_56
  have hf18 := hts _ zw_58
  have hf15 := hts _ zw_57
  refine lv_iconst (v := nI 0) hx hb zd_N_wipe_0 (by decide) ?_
  refine lv_istore_n (lv' := [(1, .int (nI 0)), (0, .ref aN)]) hx hb zd_N_wipe_1 rfl hl (by decide) rfl (fun ls hl => ?_)
  have hC2 : ∀ (n2 : Nat) (i : Nat) (ls : Array Slot) (H : Heap) (locs : List Loc), 96 - i < n2 → i ≤ 96 → lv_has ls 2 [(0, .ref aN), (1, .int (nI i))] → va_P D vwCl [(aN, .inr (0, [.ref aT, .ref aC, .int ct])), (aT, .inl (cI, 96, .inl (za_fl (fun _ => nI 0) Tg i))), (aC, .inl (cI, 24, .inl Co))] H → va_D A [(aN, .inr (0, [.ref aT, .ref aC, .int ct])), (aT, .inl (cI, 96, .inl (za_fl (fun _ => nI 0) Tg i))), (aC, .inl (cI, 24, .inl Co))] → va_S A H0 H locs → W p ln e zr_N_wipe sg m args below meth c H locs 0 0 Q (F0 m 2 ls []) := by
    intro n2
    induction n2 with
    | zero => intro i ls H locs hn2 hi_i hl hP hD hS; exact absurd hn2 (Nat.not_lt_zero _)
    | succ n2 ih2 =>
      intro i ls H locs hn2 hi_i hl hP hD hS
      refine lv_iload_n hx hb zd_N_wipe_2 rfl (lv_at hl 1 rfl) ?_
      refine lv_aload_n hx hb zd_N_wipe_3 rfl (lv_at hl 0 rfl) ?_
      refine va_get (D := D) (ci := 0) (v := .ref aT) (C := zs_N) (T := zt_N) (N := 3) hx hb hts zi_N hown hK hP 0 rfl rfl 0 (by decide) hf9 (fun _ h9 => h9) rfl zd_N_wipe_4 ?_
      refine va_alen hx hb hK hP 1 0 rfl rfl (v := nI 96) rfl zd_N_wipe_7 ?_
      refine lv_icmp_ge hx hb (tgt := 24) zd_N_wipe_8 (by decide) (fun h8 => ?_) (fun h8 => ?_)
      · have h8 := za_leN h8 (by omega) (by omega)
        refine lv_iconst (v := nI 0) hx hb zd_N_wipe_24 (by decide) ?_
        refine lv_istore_n (lv' := [(1, .int (nI 0)), (0, .ref aN)]) hx hb zd_N_wipe_25 rfl hl (by decide) rfl (fun ls hl => ?_)
        have hC26 : ∀ (n26 : Nat) (k : Nat) (ls : Array Slot) (H : Heap) (locs : List Loc), 24 - k < n26 → k ≤ 24 → lv_has ls 2 [(0, .ref aN), (1, .int (nI k))] → va_P D vwCl [(aN, .inr (0, [.ref aT, .ref aC, .int ct])), (aT, .inl (cI, 96, .inl (za_fl (fun _ => nI 0) Tg i))), (aC, .inl (cI, 24, .inl (za_fl (fun _ => nI 0) Co k)))] H → va_D A [(aN, .inr (0, [.ref aT, .ref aC, .int ct])), (aT, .inl (cI, 96, .inl (za_fl (fun _ => nI 0) Tg i))), (aC, .inl (cI, 24, .inl (za_fl (fun _ => nI 0) Co k)))] → va_S A H0 H locs → W p ln e zr_N_wipe sg m args below meth c H locs 0 0 Q (F0 m 26 ls []) := by
          intro n26
          induction n26 with
          | zero => intro k ls H locs hn26 hi_k hl hP hD hS; exact absurd hn26 (Nat.not_lt_zero _)
          | succ n26 ih26 =>
            intro k ls H locs hn26 hi_k hl hP hD hS
            refine lv_iload_n hx hb zd_N_wipe_26 rfl (lv_at hl 1 rfl) ?_
            refine lv_bipush (v := nI 24) hx hb zd_N_wipe_27 (by decide) ?_
            refine lv_icmp_ge hx hb (tgt := 45) zd_N_wipe_29 (by decide) (fun h29 => ?_) (fun h29 => ?_)
            · have h29 := za_leN h29 (by omega) (by omega)
              refine lv_aload_n hx hb zd_N_wipe_45 rfl (lv_at hl 0 rfl) ?_
              refine lv_iconst (v := nI 0) hx hb zd_N_wipe_46 (by decide) ?_
              refine va_put (D := D) (ci := 0) (v := .int (nI 0)) (ty := .int) (C := zs_N) (T := zt_N) (N := 3) hx hb hts zi_N zy_N zk_N zn_N hown hK hP hD hS 0 rfl rfl 2 (by decide) hf18 (fun _ h9 => h9) rfl (by decide +kernel) rfl rfl (Nat.le_of_ble_eq_true rfl) zd_N_wipe_47 (fun H locs hP hD hS => ?_)
              have hP : va_P D vwCl [(aN, .inr (0, [.ref aT, .ref aC, .int (nI 0)])), (aT, .inl (cI, 96, .inl (za_fl (fun _ => nI 0) Tg i))), (aC, .inl (cI, 24, .inl (za_fl (fun _ => nI 0) Co k)))] H := hP
              have hD : va_D A [(aN, .inr (0, [.ref aT, .ref aC, .int (nI 0)])), (aT, .inl (cI, 96, .inl (za_fl (fun _ => nI 0) Tg i))), (aC, .inl (cI, 24, .inl (za_fl (fun _ => nI 0) Co k)))] := hD
              have e1 : za_fl (fun _ => nI 0) Tg 96 = za_fl (fun _ => nI 0) Tg i := by first | with_reducible rfl | (congr 1; omega)
              have e2 : za_fl (fun _ => nI 0) Co 24 = za_fl (fun _ => nI 0) Co k := by first | with_reducible rfl | (congr 1; omega)
              have hP9 : va_P D vwCl [(aN, .inr (0, [.ref aT, .ref aC, .int (nI 0)])), (aT, .inl (cI, 96, .inl (za_fl (fun _ => nI 0) Tg 96))), (aC, .inl (cI, 24, .inl (za_fl (fun _ => nI 0) Co 24)))] H := by rw [e1, e2]; exact hP
              have hD9 : va_D A [(aN, .inr (0, [.ref aT, .ref aC, .int (nI 0)])), (aT, .inl (cI, 96, .inl (za_fl (fun _ => nI 0) Tg 96))), (aC, .inl (cI, 24, .inl (za_fl (fun _ => nI 0) Co 24)))] := by rw [e1, e2]; exact hD
              exact hret () _ _ _ _ (trivial) hP9 hD9 hS zd_N_wipe_50
            · have h29 := za_nleN h29 (by omega) (by omega)
              refine lv_aload_n hx hb zd_N_wipe_32 rfl (lv_at hl 0 rfl) ?_
              refine va_get (D := D) (ci := 0) (v := .ref aC) (C := zs_N) (T := zt_N) (N := 3) hx hb hts zi_N hown hK hP 0 rfl rfl 1 (by decide) hf15 (fun _ h9 => h9) rfl zd_N_wipe_33 ?_
              refine lv_iload_n hx hb zd_N_wipe_36 rfl (lv_at hl 1 rfl) ?_
              refine lv_iconst (v := nI 0) hx hb zd_N_wipe_37 (by decide) ?_
              refine za_ist hx hb hK hP hD hS 2 0 rfl rfl (k := k) (by omega) (by decide) zd_N_wipe_38 (fun H locs hP hD hS => ?_)
              have hP : va_P D vwCl [(aN, .inr (0, [.ref aT, .ref aC, .int ct])), (aT, .inl (cI, 96, .inl (za_fl (fun _ => nI 0) Tg i))), (aC, .inl (cI, 24, .inl (upd (za_fl (fun _ => nI 0) Co k) k (nI 0))))] H := hP
              have hD : va_D A [(aN, .inr (0, [.ref aT, .ref aC, .int ct])), (aT, .inl (cI, 96, .inl (za_fl (fun _ => nI 0) Tg i))), (aC, .inl (cI, 24, .inl (upd (za_fl (fun _ => nI 0) Co k) k (nI 0))))] := hD
              refine lv_iinc (k := 1) (v := nI (k + 1)) (lv' := [(1, .int (nI (k + 1))), (0, .ref aN)]) hx hb zd_N_wipe_39 hl rfl (za_inc _) (by decide) rfl (fun ls hl => ?_)
              refine lv_goto hx hb (tgt := 26) zd_N_wipe_42 (by decide) ?_
              have e1 : za_fl (fun _ => nI 0) Co (k + 1) = upd (za_fl (fun _ => nI 0) Co k) k (nI 0) := by first | with_reducible rfl | (exact za_flU rfl)
              exact ih26 (k + 1) ls H locs (by omega) (by omega) (lv_sub hl [1, 0] rfl) (by rw [e1]; exact hP) (by rw [e1]; exact hD) hS
        have e1 : za_fl (fun _ => nI 0) Co 0 = Co := by first | with_reducible rfl | (exact za_fl0 _ _)
        exact hC26 (24 - 0 + 1) 0 ls H locs (Nat.lt_succ_self _) (by omega) (lv_sub hl [1, 0] rfl) (by rw [e1]; exact hP) (by rw [e1]; exact hD) hS
      · have h8 := za_nleN h8 (by omega) (by omega)
        refine lv_aload_n hx hb zd_N_wipe_11 rfl (lv_at hl 0 rfl) ?_
        refine va_get (D := D) (ci := 0) (v := .ref aT) (C := zs_N) (T := zt_N) (N := 3) hx hb hts zi_N hown hK hP 0 rfl rfl 0 (by decide) hf9 (fun _ h9 => h9) rfl zd_N_wipe_12 ?_
        refine lv_iload_n hx hb zd_N_wipe_15 rfl (lv_at hl 1 rfl) ?_
        refine lv_iconst (v := nI 0) hx hb zd_N_wipe_16 (by decide) ?_
        refine za_ist hx hb hK hP hD hS 1 0 rfl rfl (k := i) (by omega) (by decide) zd_N_wipe_17 (fun H locs hP hD hS => ?_)
        have hP : va_P D vwCl [(aN, .inr (0, [.ref aT, .ref aC, .int ct])), (aT, .inl (cI, 96, .inl (upd (za_fl (fun _ => nI 0) Tg i) i (nI 0)))), (aC, .inl (cI, 24, .inl Co))] H := hP
        have hD : va_D A [(aN, .inr (0, [.ref aT, .ref aC, .int ct])), (aT, .inl (cI, 96, .inl (upd (za_fl (fun _ => nI 0) Tg i) i (nI 0)))), (aC, .inl (cI, 24, .inl Co))] := hD
        refine lv_iinc (k := 1) (v := nI (i + 1)) (lv' := [(1, .int (nI (i + 1))), (0, .ref aN)]) hx hb zd_N_wipe_18 hl rfl (za_inc _) (by decide) rfl (fun ls hl => ?_)
        refine lv_goto hx hb (tgt := 2) zd_N_wipe_21 (by decide) ?_
        have e1 : za_fl (fun _ => nI 0) Tg (i + 1) = upd (za_fl (fun _ => nI 0) Tg i) i (nI 0) := by first | with_reducible rfl | (exact za_flU rfl)
        exact ih2 (i + 1) ls H locs (by omega) (by omega) (lv_sub hl [1, 0] rfl) (by rw [e1]; exact hP) (by rw [e1]; exact hD) hS
  have e1 : za_fl (fun _ => nI 0) Tg 0 = Tg := by first | with_reducible rfl | (exact za_fl0 _ _)
  exact hC2 (96 - 0 + 1) 0 ls H0 [] (Nat.lt_succ_self _) (by omega) (lv_sub hl [1, 0] rfl) (by rw [e1]; exact hP) (by rw [e1]; exact hD) hS
def zr_N_sameColour : Room := { frames := 0, cells := 0, slots := 0, locals := 0 }
set_option maxHeartbeats 4000000 in
set_option maxRecDepth 100000 in
theorem zc_N_sameColour (ln : Launch) (D : va_G) (cI cZ : ClassId) (aN : Nat) (aT : Nat) (aC : Nat) (ct : Int32) (Co : Nat → Int32) (s : Nat) (hs0 : s < 24) : Met ln zm_N_sameColour (Cond.code zm_N_sameColour zo_N_sameColour 4 (some .int) :: zb_big) zr_N_sameColour (za_Pr D vwCl [(cI, .int), (cZ, .boolean)] [.ref aN, .int (nI s)] [(aN, .inr (0, [.ref aT, .ref aC, .int ct])), (aC, .inl (cI, 24, .inl Co))]) (vp_Si (fun r => r = za_mk (fun x => decide (Co x = Co s)) 24)) 0 0 (fun _ => False) := by
  refine za_reader (cc := zo_N_sameColour) (maxL := 4) (ty := .int) (by decide) (Nat.le_of_ble_eq_true rfl) (fun _ _ => rfl) ?_
  intro p e sg m args below meth c H Q hx hb hml hts hown hP hK hN hret ls hl
  have hP : va_P D vwCl [(aN, .inr (0, [.ref aT, .ref aC, .int ct])), (aC, .inl (cI, 24, .inl Co))] H := hP
  have hl : lv_has ls 4 [(0, .ref aN), (1, .int (nI s))] := hl
  have hf15 := hts _ zw_57
  refine lv_iconst (v := nI 0) hx hb zd_N_sameColour_0 (by decide) ?_
  refine lv_istore_n (lv' := [(2, .int (nI 0)), (0, .ref aN), (1, .int (nI s))]) hx hb zd_N_sameColour_1 rfl hl (by decide) rfl (fun ls hl => ?_)
  refine lv_iconst (v := nI 0) hx hb zd_N_sameColour_2 (by decide) ?_
  refine lv_istore_n (lv' := [(3, .int (nI 0)), (2, .int (nI 0)), (0, .ref aN), (1, .int (nI s))]) hx hb zd_N_sameColour_3 rfl hl (by decide) rfl (fun ls hl => ?_)
  have hC4 : ∀ (n4 : Nat) (i : Nat) (ls : Array Slot), 24 - i < n4 → i ≤ 24 → lv_has ls 4 [(0, .ref aN), (1, .int (nI s)), (2, .int (za_mk (fun x => decide (Co x = Co s)) i)), (3, .int (nI i))] → W p ln e zr_N_sameColour sg m args below meth c H [] 0 0 Q (F0 m 4 ls []) := by
    intro n4
    induction n4 with
    | zero => intro i ls hn4 hi_i hl; exact absurd hn4 (Nat.not_lt_zero _)
    | succ n4 ih4 =>
      intro i ls hn4 hi_i hl
      refine lv_iload_n hx hb zd_N_sameColour_4 rfl (lv_at hl 3 rfl) ?_
      refine lv_bipush (v := nI 24) hx hb zd_N_sameColour_5 (by decide) ?_
      refine lv_icmp_ge hx hb (tgt := 37) zd_N_sameColour_7 (by decide) (fun h7 => ?_) (fun h7 => ?_)
      · have h7 := za_leN h7 (by omega) (by omega)
        refine lv_iload_n hx hb zd_N_sameColour_37 rfl (lv_at hl 2 rfl) ?_
        exact hret _ _ _ (by first | with_reducible rfl | (congr 1; omega)) zd_N_sameColour_38
      · have h7 := za_nleN h7 (by omega) (by omega)
        refine lv_aload_n hx hb zd_N_sameColour_10 rfl (lv_at hl 0 rfl) ?_
        refine va_get (D := D) (ci := 0) (v := .ref aC) (C := zs_N) (T := zt_N) (N := 3) hx hb hts zi_N hown hK hP 0 rfl rfl 1 (by decide) hf15 (fun _ h9 => h9) rfl zd_N_sameColour_11 ?_
        refine lv_iload_n hx hb zd_N_sameColour_14 rfl (lv_at hl 3 rfl) ?_
        refine za_ild hx hb hK hP 1 0 rfl rfl (k := i) (by omega) (by decide) zd_N_sameColour_15 ?_
        refine lv_aload_n hx hb zd_N_sameColour_16 rfl (lv_at hl 0 rfl) ?_
        refine va_get (D := D) (ci := 0) (v := .ref aC) (C := zs_N) (T := zt_N) (N := 3) hx hb hts zi_N hown hK hP 0 rfl rfl 1 (by decide) hf15 (fun _ h9 => h9) rfl zd_N_sameColour_17 ?_
        refine lv_iload_n hx hb zd_N_sameColour_20 rfl (lv_at hl 1 rfl) ?_
        refine za_ild hx hb hK hP 1 0 rfl rfl (k := s) (by omega) (by decide) zd_N_sameColour_21 ?_
        refine lv_icmp_ne hx hb (tgt := 31) zd_N_sameColour_22 (by decide) (fun h22 => ?_) (fun h22 => ?_)
        · skip
          refine lv_iinc (k := 3) (v := nI (i + 1)) (lv' := [(3, .int (nI (i + 1))), (0, .ref aN), (1, .int (nI s)), (2, .int (za_mk (fun x => decide (Co x = Co s)) i))]) hx hb zd_N_sameColour_31 hl rfl (za_inc _) (by decide) rfl (fun ls hl => ?_)
          refine lv_goto hx hb (tgt := 4) zd_N_sameColour_34 (by decide) ?_
          have e1 : za_mk (fun x => decide (Co x = Co s)) (i + 1) = za_mk (fun x => decide (Co x = Co s)) i := by first | with_reducible rfl | (simp [za_mk, h7, h22])
          exact ih4 (i + 1) ls (by omega) (by omega) (by rw [e1]; exact lv_sub hl [1, 2, 3, 0] rfl)
        · skip
          refine lv_iload_n hx hb zd_N_sameColour_25 rfl (lv_at hl 2 rfl) ?_
          refine lv_iconst (v := nI 1) hx hb zd_N_sameColour_26 (by decide) ?_
          refine lv_iload_n hx hb zd_N_sameColour_27 rfl (lv_at hl 3 rfl) ?_
          refine lv_ishl hx hb zd_N_sameColour_28 ?_
          refine lv_ior hx hb zd_N_sameColour_29 ?_
          refine lv_istore_n (lv' := [(2, .int ((za_mk (fun x => decide (Co x = Co s)) i) ||| ((nI 1) <<< ((nI i) &&& 31)))), (0, .ref aN), (1, .int (nI s)), (3, .int (nI i))]) hx hb zd_N_sameColour_30 rfl hl (by decide) rfl (fun ls hl => ?_)
          refine lv_iinc (k := 3) (v := nI (i + 1)) (lv' := [(3, .int (nI (i + 1))), (2, .int ((za_mk (fun x => decide (Co x = Co s)) i) ||| ((nI 1) <<< ((nI i) &&& 31)))), (0, .ref aN), (1, .int (nI s))]) hx hb zd_N_sameColour_31 hl rfl (za_inc _) (by decide) rfl (fun ls hl => ?_)
          refine lv_goto hx hb (tgt := 4) zd_N_sameColour_34 (by decide) ?_
          have e1 : za_mk (fun x => decide (Co x = Co s)) (i + 1) = ((za_mk (fun x => decide (Co x = Co s)) i) ||| ((nI 1) <<< ((nI i) &&& 31))) := by first | with_reducible rfl | (simp [za_mk, h7, h22])
          exact ih4 (i + 1) ls (by omega) (by omega) (by rw [e1]; exact lv_sub hl [2, 3, 1, 0] rfl)
  have e1 : za_mk (fun x => decide (Co x = Co s)) 0 = nI 0 := by first | with_reducible rfl | (rfl)
  exact hC4 (24 - 0 + 1) 0 ls (Nat.lt_succ_self _) (by omega) (by rw [e1]; exact lv_sub hl [2, 3, 1, 0] rfl)
def zr_N_groupByColour : Room := { frames := 1, cells := 0, slots := 0, locals := 23 }
set_option maxHeartbeats 4000000 in
set_option maxRecDepth 100000 in
theorem zc_N_groupByColour (ln : Launch) (D : va_G) (cI cZ : ClassId) (sz : Nat) (aN : Nat) (aT : Nat) (aC : Nat) (ct : Int32) (Co : Nat → Int32) (aR : Nat) (nR : Nat) (Rw : Nat → Int32) (hn0 : 24 ≤ nR) (hn1 : nR < 2 ^ 31) : Met ln zm_N_groupByColour (Cond.code zm_N_groupByColour zo_N_groupByColour 3 none :: zb_big) zr_N_groupByColour (za_Pw D vwCl [(cI, .int), (cZ, .boolean)] [.ref aN, .ref aR] [(aN, .inr (0, [.ref aT, .ref aC, .int ct])), (aC, .inl (cI, 24, .inl Co)), (aR, .inl (cI, nR, .inl Rw))] sz) (va_Qv (fun (_u : Unit) => True) (za_B D vwCl [(aN, .inr (0, [.ref aT, .ref aC, .int ct])), (aC, .inl (cI, 24, .inl Co)), (aR, .inl (cI, nR, .inl Rw))] sz (fun (_u : Unit) => [(aN, .inr (0, [.ref aT, .ref aC, .int ct])), (aC, .inl (cI, 24, .inl Co)), (aR, .inl (cI, nR, .inl (za_fl (fun x => za_mk (fun z => decide (Co z = Co x)) 24) Rw 24)))])) (va_A [(aN, .inr (0, [.ref aT, .ref aC, .int ct])), (aC, .inl (cI, 24, .inl Co)), (aR, .inl (cI, nR, .inl Rw))] sz)) 0 0 (va_A [(aN, .inr (0, [.ref aT, .ref aC, .int ct])), (aC, .inl (cI, 24, .inl Co)), (aR, .inl (cI, nR, .inl Rw))] sz) := by
  refine za_wv (cc := zo_N_groupByColour) (maxL := 3) (by decide) (Nat.le_of_ble_eq_true rfl) ?_
  intro p e sg m args below meth c H0 A Q hx hb hml hts hown hmn hP hK hN hD hA hS hret ls hl
  have hP : va_P D vwCl [(aN, .inr (0, [.ref aT, .ref aC, .int ct])), (aC, .inl (cI, 24, .inl Co)), (aR, .inl (cI, nR, .inl Rw))] H0 := hP
  have hD : va_D A [(aN, .inr (0, [.ref aT, .ref aC, .int ct])), (aC, .inl (cI, 24, .inl Co)), (aR, .inl (cI, nR, .inl Rw))] := hD
  have hl : lv_has ls 3 [(0, .ref aN), (1, .ref aR)] := hl
  refine lv_iconst (v := nI 0) hx hb zd_N_groupByColour_0 (by decide) ?_
  refine lv_istore_n (lv' := [(2, .int (nI 0)), (0, .ref aN), (1, .ref aR)]) hx hb zd_N_groupByColour_1 rfl hl (by decide) rfl (fun ls hl => ?_)
  have hC2 : ∀ (n2 : Nat) (i : Nat) (ls : Array Slot) (H : Heap) (locs : List Loc), 24 - i < n2 → i ≤ 24 → lv_has ls 3 [(0, .ref aN), (1, .ref aR), (2, .int (nI i))] → va_P D vwCl [(aN, .inr (0, [.ref aT, .ref aC, .int ct])), (aC, .inl (cI, 24, .inl Co)), (aR, .inl (cI, nR, .inl (za_fl (fun x => za_mk (fun z => decide (Co z = Co x)) 24) Rw i)))] H → va_D A [(aN, .inr (0, [.ref aT, .ref aC, .int ct])), (aC, .inl (cI, 24, .inl Co)), (aR, .inl (cI, nR, .inl (za_fl (fun x => za_mk (fun z => decide (Co z = Co x)) 24) Rw i)))] → va_S A H0 H locs → W p ln e zr_N_groupByColour sg m args below meth c H locs 0 0 Q (F0 m 2 ls []) := by
    intro n2
    induction n2 with
    | zero => intro i ls H locs hn2 hi_i hl hP hD hS; exact absurd hn2 (Nat.not_lt_zero _)
    | succ n2 ih2 =>
      intro i ls H locs hn2 hi_i hl hP hD hS
      refine lv_iload_n hx hb zd_N_groupByColour_2 rfl (lv_at hl 2 rfl) ?_
      refine lv_bipush (v := nI 24) hx hb zd_N_groupByColour_3 (by decide) ?_
      refine lv_icmp_ge hx hb (tgt := 22) zd_N_groupByColour_5 (by decide) (fun h5 => ?_) (fun h5 => ?_)
      · have h5 := za_leN h5 (by omega) (by omega)
        have e1 : za_fl (fun x => za_mk (fun z => decide (Co z = Co x)) 24) Rw 24 = za_fl (fun x => za_mk (fun z => decide (Co z = Co x)) 24) Rw i := by first | with_reducible rfl | (congr 1; omega)
        have hP9 : va_P D vwCl [(aN, .inr (0, [.ref aT, .ref aC, .int ct])), (aC, .inl (cI, 24, .inl Co)), (aR, .inl (cI, nR, .inl (za_fl (fun x => za_mk (fun z => decide (Co z = Co x)) 24) Rw 24)))] H := by rw [e1]; exact hP
        have hD9 : va_D A [(aN, .inr (0, [.ref aT, .ref aC, .int ct])), (aC, .inl (cI, 24, .inl Co)), (aR, .inl (cI, nR, .inl (za_fl (fun x => za_mk (fun z => decide (Co z = Co x)) 24) Rw 24)))] := by rw [e1]; exact hD
        exact hret () _ _ _ _ (trivial) hP9 hD9 hS zd_N_groupByColour_22
      · have h5 := za_nleN h5 (by omega) (by omega)
        refine lv_aload_n hx hb zd_N_groupByColour_8 rfl (lv_at hl 1 rfl) ?_
        refine lv_iload_n hx hb zd_N_groupByColour_9 rfl (lv_at hl 2 rfl) ?_
        refine lv_aload_n hx hb zd_N_groupByColour_10 rfl (lv_at hl 0 rfl) ?_
        refine lv_iload_n hx hb zd_N_groupByColour_11 rfl (lv_at hl 2 rfl) ?_
        refine za_cV (As := [.int (nI i)]) (rest := [.int (nI i), .ref aR]) ⟨hx, hb, hml, hown, hts⟩ (zc_N_sameColour ln D cI cZ aN aT aC ct Co i (by omega)) (za_gV 1 hts zw_243 zw_245 zw_2 zw_36 zw_246 (by decide +kernel) ⟨Nat.le_of_ble_eq_true rfl, Nat.le_of_ble_eq_true rfl⟩) hK hN hP [0, 1] rfl (q0 := 0) rfl rfl hl rfl rfl (Nat.le_of_ble_eq_true rfl) zd_N_groupByColour_12 ⟨Nat.le_of_ble_eq_true rfl, Nat.le_of_ble_eq_true rfl⟩ ?_
        refine za_ist hx hb hK hP hD hS 2 0 rfl rfl (k := i) (by omega) (by omega) zd_N_groupByColour_15 (fun H locs hP hD hS => ?_)
        have hP : va_P D vwCl [(aN, .inr (0, [.ref aT, .ref aC, .int ct])), (aC, .inl (cI, 24, .inl Co)), (aR, .inl (cI, nR, .inl (upd (za_fl (fun x => za_mk (fun z => decide (Co z = Co x)) 24) Rw i) i (za_mk (fun x => decide (Co x = Co i)) 24))))] H := hP
        have hD : va_D A [(aN, .inr (0, [.ref aT, .ref aC, .int ct])), (aC, .inl (cI, 24, .inl Co)), (aR, .inl (cI, nR, .inl (upd (za_fl (fun x => za_mk (fun z => decide (Co z = Co x)) 24) Rw i) i (za_mk (fun x => decide (Co x = Co i)) 24))))] := hD
        refine lv_iinc (k := 2) (v := nI (i + 1)) (lv' := [(2, .int (nI (i + 1))), (0, .ref aN), (1, .ref aR)]) hx hb zd_N_groupByColour_16 hl rfl (za_inc _) (by decide) rfl (fun ls hl => ?_)
        refine lv_goto hx hb (tgt := 2) zd_N_groupByColour_19 (by decide) ?_
        have e1 : za_fl (fun x => za_mk (fun z => decide (Co z = Co x)) 24) Rw (i + 1) = upd (za_fl (fun x => za_mk (fun z => decide (Co z = Co x)) 24) Rw i) i (za_mk (fun x => decide (Co x = Co i)) 24) := by first | with_reducible rfl | (exact za_flU rfl)
        exact ih2 (i + 1) ls H locs (by omega) (by omega) (lv_sub hl [1, 2, 0] rfl) (by rw [e1]; exact hP) (by rw [e1]; exact hD) hS
  have e1 : za_fl (fun x => za_mk (fun z => decide (Co z = Co x)) 24) Rw 0 = Rw := by first | with_reducible rfl | (exact za_fl0 _ _)
  exact hC2 (24 - 0 + 1) 0 ls H0 [] (Nat.lt_succ_self _) (by omega) (lv_sub hl [1, 2, 0] rfl) (by rw [e1]; exact hP) (by rw [e1]; exact hD) hS
def zr_N_union : Room := { frames := 1, cells := 0, slots := 0, locals := 21 }
set_option maxHeartbeats 4000000 in
set_option maxRecDepth 100000 in
theorem zc_N_union (ln : Launch) (D : va_G) (cI cZ : ClassId) (w : Int32) (aR : Nat) (nR : Nat) (Rw : Nat → Int32) (f : Nat) (hn0 : f + 24 ≤ nR) (hn1 : nR < 2 ^ 31) : Met ln zm_N_union (Cond.code zm_N_union zo_N_union 5 (some .int) :: zb_big) zr_N_union (za_Pr D vwCl [(cI, .int), (cZ, .boolean)] [.int w, .ref aR, .int (nI f)] [(aR, .inl (cI, nR, .inl Rw))]) (vp_Si (fun r => r = za_uo w Rw f 24)) 0 0 (fun _ => False) := by
  refine za_reader (cc := zo_N_union) (maxL := 5) (ty := .int) (by decide) (Nat.le_of_ble_eq_true rfl) (fun _ _ => rfl) ?_
  intro p e sg m args below meth c H Q hx hb hml hts hown hP hK hN hret ls hl
  have hP : va_P D vwCl [(aR, .inl (cI, nR, .inl Rw))] H := hP
  have hl : lv_has ls 5 [(0, .int w), (1, .ref aR), (2, .int (nI f))] := hl
  refine lv_iconst (v := nI 0) hx hb zd_N_union_0 (by decide) ?_
  refine lv_istore_n (lv' := [(3, .int (nI 0)), (0, .int w), (1, .ref aR), (2, .int (nI f))]) hx hb zd_N_union_1 rfl hl (by decide) rfl (fun ls hl => ?_)
  refine lv_iconst (v := nI 0) hx hb zd_N_union_2 (by decide) ?_
  refine lv_istore (lv' := [(4, .int (nI 0)), (3, .int (nI 0)), (0, .int w), (1, .ref aR), (2, .int (nI f))]) hx hb zd_N_union_3 hl (by decide) rfl (fun ls hl => ?_)
  have hC5 : ∀ (n5 : Nat) (i : Nat) (ls : Array Slot), 24 - i < n5 → i ≤ 24 → lv_has ls 5 [(0, .int w), (1, .ref aR), (2, .int (nI f)), (3, .int (za_uo w Rw f i)), (4, .int (nI i))] → W p ln e zr_N_union sg m args below meth c H [] 0 0 Q (F0 m 5 ls []) := by
    intro n5
    induction n5 with
    | zero => intro i ls hn5 hi_i hl; exact absurd hn5 (Nat.not_lt_zero _)
    | succ n5 ih5 =>
      intro i ls hn5 hi_i hl
      refine lv_iload hx hb zd_N_union_5 (lv_at hl 4 rfl) ?_
      refine lv_bipush (v := nI 24) hx hb zd_N_union_7 (by decide) ?_
      refine lv_icmp_ge hx hb (tgt := 36) zd_N_union_9 (by decide) (fun h9 => ?_) (fun h9 => ?_)
      · have h9 := za_leN h9 (by omega) (by omega)
        refine lv_iload_n hx hb zd_N_union_36 rfl (lv_at hl 3 rfl) ?_
        exact hret _ _ _ (by first | with_reducible rfl | (congr 1; omega)) zd_N_union_37
      · have h9 := za_nleN h9 (by omega) (by omega)
        refine lv_iload_n hx hb zd_N_union_12 rfl (lv_at hl 0 rfl) ?_
        refine lv_iload hx hb zd_N_union_13 (lv_at hl 4 rfl) ?_
        refine za_cSN (As := [.int w, .int (nI i)]) (rest := []) ⟨hx, hb, hml, hown, hts⟩ (zc_X_hasBit ln D cI cZ w i (by omega)) (za_gSN 2 hts hN.1 zw_177 zw_35 zw_178 (by decide +kernel) ⟨Nat.le_of_ble_eq_true rfl, Nat.le_of_ble_eq_true rfl⟩) hK hN hP [] rfl hl rfl rfl (Nat.le_of_ble_eq_true rfl) zd_N_union_15 ⟨Nat.le_of_ble_eq_true rfl, Nat.le_of_ble_eq_true rfl⟩ ?_
        refine lv_if_eq hx hb (tgt := 30) zd_N_union_18 (by decide) (fun h18 => ?_) (fun h18 => ?_)
        · have h18 := za_bF h18
          refine lv_iinc (k := 4) (v := nI (i + 1)) (lv' := [(4, .int (nI (i + 1))), (0, .int w), (1, .ref aR), (2, .int (nI f)), (3, .int (za_uo w Rw f i))]) hx hb zd_N_union_30 hl rfl (za_inc _) (by decide) rfl (fun ls hl => ?_)
          refine lv_goto hx hb (tgt := 5) zd_N_union_33 (by decide) ?_
          have e1 : za_uo w Rw f (i + 1) = za_uo w Rw f i := by first | with_reducible rfl | (simp [za_uo, h9, h18])
          exact ih5 (i + 1) ls (by omega) (by omega) (by rw [e1]; exact lv_sub hl [1, 2, 3, 4, 0] rfl)
        · have h18 := za_bT h18
          refine lv_iload_n hx hb zd_N_union_21 rfl (lv_at hl 3 rfl) ?_
          refine lv_aload_n hx hb zd_N_union_22 rfl (lv_at hl 1 rfl) ?_
          refine lv_iload_n hx hb zd_N_union_23 rfl (lv_at hl 2 rfl) ?_
          refine lv_iload hx hb zd_N_union_24 (lv_at hl 4 rfl) ?_
          refine za_addN hx hb zd_N_union_26 ?_
          refine za_ild hx hb hK hP 0 0 rfl rfl (k := f + i) (by omega) (by omega) zd_N_union_27 ?_
          refine lv_ior hx hb zd_N_union_28 ?_
          refine lv_istore_n (lv' := [(3, .int ((za_uo w Rw f i) ||| (Rw (f + i)))), (0, .int w), (1, .ref aR), (2, .int (nI f)), (4, .int (nI i))]) hx hb zd_N_union_29 rfl hl (by decide) rfl (fun ls hl => ?_)
          refine lv_iinc (k := 4) (v := nI (i + 1)) (lv' := [(4, .int (nI (i + 1))), (3, .int ((za_uo w Rw f i) ||| (Rw (f + i)))), (0, .int w), (1, .ref aR), (2, .int (nI f))]) hx hb zd_N_union_30 hl rfl (za_inc _) (by decide) rfl (fun ls hl => ?_)
          refine lv_goto hx hb (tgt := 5) zd_N_union_33 (by decide) ?_
          have e1 : za_uo w Rw f (i + 1) = ((za_uo w Rw f i) ||| (Rw (f + i))) := by first | with_reducible rfl | (simp [za_uo, h9, h18])
          exact ih5 (i + 1) ls (by omega) (by omega) (by rw [e1]; exact lv_sub hl [2, 3, 4, 1, 0] rfl)
  have e1 : za_uo w Rw f 0 = nI 0 := by first | with_reducible rfl | (rfl)
  exact hC5 (24 - 0 + 1) 0 ls (Nat.lt_succ_self _) (by omega) (by rw [e1]; exact lv_sub hl [2, 3, 4, 1, 0] rfl)
def zr_N_unite : Room := { frames := 2, cells := 0, slots := 0, locals := 45 }
set_option maxHeartbeats 4000000 in
set_option maxRecDepth 100000 in
theorem zc_N_unite (ln : Launch) (D : va_G) (cI cZ : ClassId) (sz : Nat) (aN : Nat) (aT : Nat) (aC : Nat) (ct : Int32) (Tg : Nat → Int32) (aR : Nat) (nR : Nat) (Rw : Nat → Int32) (f : Nat) (aU : Nat) (Un : Nat → Int32) (hn0 : f + 24 ≤ nR) (hn1 : nR < 2 ^ 31) : Met ln zm_N_unite (Cond.code zm_N_unite zo_N_unite 5 none :: zb_big) zr_N_unite (za_Pw D vwCl [(cI, .int), (cZ, .boolean)] [.ref aN, .ref aR, .int (nI f), .ref aU] [(aN, .inr (0, [.ref aT, .ref aC, .int ct])), (aT, .inl (cI, 96, .inl Tg)), (aR, .inl (cI, nR, .inl Rw)), (aU, .inl (cI, 96, .inl Un))] sz) (va_Qv (fun (_u : Unit) => True) (za_B D vwCl [(aN, .inr (0, [.ref aT, .ref aC, .int ct])), (aT, .inl (cI, 96, .inl Tg)), (aR, .inl (cI, nR, .inl Rw)), (aU, .inl (cI, 96, .inl Un))] sz (fun (_u : Unit) => [(aN, .inr (0, [.ref aT, .ref aC, .int ct])), (aT, .inl (cI, 96, .inl Tg)), (aR, .inl (cI, nR, .inl Rw)), (aU, .inl (cI, 96, .inl (za_ua Tg Rw f Un)))])) (va_A [(aN, .inr (0, [.ref aT, .ref aC, .int ct])), (aT, .inl (cI, 96, .inl Tg)), (aR, .inl (cI, nR, .inl Rw)), (aU, .inl (cI, 96, .inl Un))] sz)) 0 0 (va_A [(aN, .inr (0, [.ref aT, .ref aC, .int ct])), (aT, .inl (cI, 96, .inl Tg)), (aR, .inl (cI, nR, .inl Rw)), (aU, .inl (cI, 96, .inl Un))] sz) := by
  refine za_wv (cc := zo_N_unite) (maxL := 5) (by decide) (Nat.le_of_ble_eq_true rfl) ?_
  intro p e sg m args below meth c H0 A Q hx hb hml hts hown hmn hP hK hN hD hA hS hret ls hl
  have hP : va_P D vwCl [(aN, .inr (0, [.ref aT, .ref aC, .int ct])), (aT, .inl (cI, 96, .inl Tg)), (aR, .inl (cI, nR, .inl Rw)), (aU, .inl (cI, 96, .inl Un))] H0 := hP
  have hD : va_D A [(aN, .inr (0, [.ref aT, .ref aC, .int ct])), (aT, .inl (cI, 96, .inl Tg)), (aR, .inl (cI, nR, .inl Rw)), (aU, .inl (cI, 96, .inl Un))] := hD
  have hl : lv_has ls 5 [(0, .ref aN), (1, .ref aR), (2, .int (nI f)), (3, .ref aU)] := hl
  have hf9 := hts _ zw_56
  refine lv_iconst (v := nI 0) hx hb zd_N_unite_0 (by decide) ?_
  refine lv_istore (lv' := [(4, .int (nI 0)), (0, .ref aN), (1, .ref aR), (2, .int (nI f)), (3, .ref aU)]) hx hb zd_N_unite_1 hl (by decide) rfl (fun ls hl => ?_)
  have hC3 : ∀ (n3 : Nat) (i : Nat) (ls : Array Slot) (H : Heap) (locs : List Loc), 96 - i < n3 → i ≤ 96 → lv_has ls 5 [(0, .ref aN), (1, .ref aR), (2, .int (nI f)), (3, .ref aU), (4, .int (nI i))] → va_P D vwCl [(aN, .inr (0, [.ref aT, .ref aC, .int ct])), (aT, .inl (cI, 96, .inl Tg)), (aR, .inl (cI, nR, .inl Rw)), (aU, .inl (cI, 96, .inl (za_fl (fun x => za_uo (Tg x) Rw f 24) Un i)))] H → va_D A [(aN, .inr (0, [.ref aT, .ref aC, .int ct])), (aT, .inl (cI, 96, .inl Tg)), (aR, .inl (cI, nR, .inl Rw)), (aU, .inl (cI, 96, .inl (za_fl (fun x => za_uo (Tg x) Rw f 24) Un i)))] → va_S A H0 H locs → W p ln e zr_N_unite sg m args below meth c H locs 0 0 Q (F0 m 3 ls []) := by
    intro n3
    induction n3 with
    | zero => intro i ls H locs hn3 hi_i hl hP hD hS; exact absurd hn3 (Nat.not_lt_zero _)
    | succ n3 ih3 =>
      intro i ls H locs hn3 hi_i hl hP hD hS
      refine lv_iload hx hb zd_N_unite_3 (lv_at hl 4 rfl) ?_
      refine lv_aload_n hx hb zd_N_unite_5 rfl (lv_at hl 0 rfl) ?_
      refine va_get (D := D) (ci := 0) (v := .ref aT) (C := zs_N) (T := zt_N) (N := 3) hx hb hts zi_N hown hK hP 0 rfl rfl 0 (by decide) hf9 (fun _ h9 => h9) rfl zd_N_unite_6 ?_
      refine va_alen hx hb hK hP 1 0 rfl rfl (v := nI 96) rfl zd_N_unite_9 ?_
      refine lv_icmp_ge hx hb (tgt := 49) zd_N_unite_10 (by decide) (fun h10 => ?_) (fun h10 => ?_)
      · have h10 := za_leN h10 (by omega) (by omega)
        have e1 : za_ua Tg Rw f Un = za_fl (fun x => za_uo (Tg x) Rw f 24) Un i := by first | with_reducible rfl | (unfold za_ua; congr 1; omega)
        have hP9 : va_P D vwCl [(aN, .inr (0, [.ref aT, .ref aC, .int ct])), (aT, .inl (cI, 96, .inl Tg)), (aR, .inl (cI, nR, .inl Rw)), (aU, .inl (cI, 96, .inl (za_ua Tg Rw f Un)))] H := by rw [e1]; exact hP
        have hD9 : va_D A [(aN, .inr (0, [.ref aT, .ref aC, .int ct])), (aT, .inl (cI, 96, .inl Tg)), (aR, .inl (cI, nR, .inl Rw)), (aU, .inl (cI, 96, .inl (za_ua Tg Rw f Un)))] := by rw [e1]; exact hD
        exact hret () _ _ _ _ (trivial) hP9 hD9 hS zd_N_unite_49
      · have h10 := za_nleN h10 (by omega) (by omega)
        refine lv_aload_n hx hb zd_N_unite_13 rfl (lv_at hl 3 rfl) ?_
        refine lv_iload hx hb zd_N_unite_14 (lv_at hl 4 rfl) ?_
        refine lv_aload_n hx hb zd_N_unite_16 rfl (lv_at hl 0 rfl) ?_
        refine va_get (D := D) (ci := 0) (v := .ref aT) (C := zs_N) (T := zt_N) (N := 3) hx hb hts zi_N hown hK hP 0 rfl rfl 0 (by decide) hf9 (fun _ h9 => h9) rfl zd_N_unite_17 ?_
        refine lv_iload hx hb zd_N_unite_20 (lv_at hl 4 rfl) ?_
        refine za_ild hx hb hK hP 1 0 rfl rfl (k := i) (by omega) (by decide) zd_N_unite_22 ?_
        refine lv_if_ne hx hb (tgt := 30) zd_N_unite_23 (by decide) (fun h23 => ?_) (fun h23 => ?_)
        · skip
          refine lv_aload_n hx hb zd_N_unite_30 rfl (lv_at hl 0 rfl) ?_
          refine va_get (D := D) (ci := 0) (v := .ref aT) (C := zs_N) (T := zt_N) (N := 3) hx hb hts zi_N hown hK hP 0 rfl rfl 0 (by decide) hf9 (fun _ h9 => h9) rfl zd_N_unite_31 ?_
          refine lv_iload hx hb zd_N_unite_34 (lv_at hl 4 rfl) ?_
          refine za_ild hx hb hK hP 1 0 rfl rfl (k := i) (by omega) (by decide) zd_N_unite_36 ?_
          refine lv_aload_n hx hb zd_N_unite_37 rfl (lv_at hl 1 rfl) ?_
          refine lv_iload_n hx hb zd_N_unite_38 rfl (lv_at hl 2 rfl) ?_
          refine za_cS (As := [.int (Tg i), .ref aR, .int (nI f)]) (rest := [.int (nI i), .ref aU]) ⟨hx, hb, hml, hown, hts⟩ (zc_N_union ln D cI cZ (Tg i) aR nR Rw f (by omega) (by omega)) (za_gS 3 hts zw_255 zw_256 zw_36 zw_257 (by decide +kernel) ⟨Nat.le_of_ble_eq_true rfl, Nat.le_of_ble_eq_true rfl⟩) hK hN hP [2] rfl hl rfl rfl (Nat.le_of_ble_eq_true rfl) zd_N_unite_39 ⟨Nat.le_of_ble_eq_true rfl, Nat.le_of_ble_eq_true rfl⟩ ?_
          refine za_ist hx hb hK hP hD hS 3 0 rfl rfl (k := i) (by omega) (by decide) zd_N_unite_42 (fun H locs hP hD hS => ?_)
          have hP : va_P D vwCl [(aN, .inr (0, [.ref aT, .ref aC, .int ct])), (aT, .inl (cI, 96, .inl Tg)), (aR, .inl (cI, nR, .inl Rw)), (aU, .inl (cI, 96, .inl (upd (za_fl (fun x => za_uo (Tg x) Rw f 24) Un i) i (za_uo (Tg i) Rw f 24))))] H := hP
          have hD : va_D A [(aN, .inr (0, [.ref aT, .ref aC, .int ct])), (aT, .inl (cI, 96, .inl Tg)), (aR, .inl (cI, nR, .inl Rw)), (aU, .inl (cI, 96, .inl (upd (za_fl (fun x => za_uo (Tg x) Rw f 24) Un i) i (za_uo (Tg i) Rw f 24))))] := hD
          refine lv_iinc (k := 4) (v := nI (i + 1)) (lv' := [(4, .int (nI (i + 1))), (0, .ref aN), (1, .ref aR), (2, .int (nI f)), (3, .ref aU)]) hx hb zd_N_unite_43 hl rfl (za_inc _) (by decide) rfl (fun ls hl => ?_)
          refine lv_goto hx hb (tgt := 3) zd_N_unite_46 (by decide) ?_
          have e1 : za_fl (fun x => za_uo (Tg x) Rw f 24) Un (i + 1) = upd (za_fl (fun x => za_uo (Tg x) Rw f 24) Un i) i (za_uo (Tg i) Rw f 24) := by first | with_reducible rfl | (exact za_flU (by first | rfl | (rw [h23]; exact (za_uo_z _ _ _).symm)))
          exact ih3 (i + 1) ls H locs (by omega) (by omega) (lv_sub hl [1, 2, 3, 4, 0] rfl) (by rw [e1]; exact hP) (by rw [e1]; exact hD) hS
        · skip
          refine lv_iconst (v := nI 0) hx hb zd_N_unite_26 (by decide) ?_
          refine lv_goto hx hb (tgt := 42) zd_N_unite_27 (by decide) ?_
          refine za_ist hx hb hK hP hD hS 3 0 rfl rfl (k := i) (by omega) (by decide) zd_N_unite_42 (fun H locs hP hD hS => ?_)
          have hP : va_P D vwCl [(aN, .inr (0, [.ref aT, .ref aC, .int ct])), (aT, .inl (cI, 96, .inl Tg)), (aR, .inl (cI, nR, .inl Rw)), (aU, .inl (cI, 96, .inl (upd (za_fl (fun x => za_uo (Tg x) Rw f 24) Un i) i (nI 0))))] H := hP
          have hD : va_D A [(aN, .inr (0, [.ref aT, .ref aC, .int ct])), (aT, .inl (cI, 96, .inl Tg)), (aR, .inl (cI, nR, .inl Rw)), (aU, .inl (cI, 96, .inl (upd (za_fl (fun x => za_uo (Tg x) Rw f 24) Un i) i (nI 0))))] := hD
          refine lv_iinc (k := 4) (v := nI (i + 1)) (lv' := [(4, .int (nI (i + 1))), (0, .ref aN), (1, .ref aR), (2, .int (nI f)), (3, .ref aU)]) hx hb zd_N_unite_43 hl rfl (za_inc _) (by decide) rfl (fun ls hl => ?_)
          refine lv_goto hx hb (tgt := 3) zd_N_unite_46 (by decide) ?_
          have e1 : za_fl (fun x => za_uo (Tg x) Rw f 24) Un (i + 1) = upd (za_fl (fun x => za_uo (Tg x) Rw f 24) Un i) i (nI 0) := by first | with_reducible rfl | (exact za_flU (by first | rfl | (rw [h23]; exact (za_uo_z _ _ _).symm)))
          exact ih3 (i + 1) ls H locs (by omega) (by omega) (lv_sub hl [1, 2, 3, 4, 0] rfl) (by rw [e1]; exact hP) (by rw [e1]; exact hD) hS
  have e1 : za_fl (fun x => za_uo (Tg x) Rw f 24) Un 0 = Un := by first | with_reducible rfl | (exact za_fl0 _ _)
  exact hC3 (96 - 0 + 1) 0 ls H0 [] (Nat.lt_succ_self _) (by omega) (lv_sub hl [1, 2, 3, 4, 0] rfl) (by rw [e1]; exact hP) (by rw [e1]; exact hD) hS
end
section
def zr_L_forget : Room := { frames := 0, cells := 0, slots := 0, locals := 0 }
set_option maxHeartbeats 4000000 in
set_option maxRecDepth 100000 in
theorem zc_L_forget (ln : Launch) (D : va_G) (cI cZ : ClassId) (sz : Nat) (aL : Nat) (aN : Nat) (aR : Nat) (aU : Nat) (aK : Nat) (lr : Nat) (kc : Nat) (sd : Bool) : Met ln zm_L_forget (Cond.code zm_L_forget zo_L_forget 1 none :: zb_big) zr_L_forget (za_Pw D vwCl [(cI, .int), (cZ, .boolean)] [.ref aL] [(aL, .inr (1, [.ref aN, .ref aR, .ref aU, .ref aK, .int (nI lr), .int (nI kc), .int (za_bi sd)]))] sz) (va_Qv (fun (_u : Unit) => True) (za_B D vwCl [(aL, .inr (1, [.ref aN, .ref aR, .ref aU, .ref aK, .int (nI lr), .int (nI kc), .int (za_bi sd)]))] sz (fun (_u : Unit) => [(aL, .inr (1, [.ref aN, .ref aR, .ref aU, .ref aK, .int (nI lr), .int (nI kc), .int (za_bi false)]))])) (va_A [(aL, .inr (1, [.ref aN, .ref aR, .ref aU, .ref aK, .int (nI lr), .int (nI kc), .int (za_bi sd)]))] sz)) 0 0 (va_A [(aL, .inr (1, [.ref aN, .ref aR, .ref aU, .ref aK, .int (nI lr), .int (nI kc), .int (za_bi sd)]))] sz) := by
  refine za_wv (cc := zo_L_forget) (maxL := 1) (by decide) (Nat.le_of_ble_eq_true rfl) ?_
  intro p e sg m args below meth c H0 A Q hx hb hml hts hown hmn hP hK hN hD hA hS hret ls hl
  have hP : va_P D vwCl [(aL, .inr (1, [.ref aN, .ref aR, .ref aU, .ref aK, .int (nI lr), .int (nI kc), .int (za_bi sd)]))] H0 := hP
  have hD : va_D A [(aL, .inr (1, [.ref aN, .ref aR, .ref aU, .ref aK, .int (nI lr), .int (nI kc), .int (za_bi sd)]))] := hD
  have hl : lv_has ls 1 [(0, .ref aL)] := hl
  have hf25 := hts _ zw_79
  refine lv_aload_n hx hb zd_L_forget_0 rfl (lv_at hl 0 rfl) ?_
  refine lv_iconst (v := nI 0) hx hb zd_L_forget_1 (by decide) ?_
  refine za_eqi (y := za_bi false) rfl ?_
  refine va_put (D := D) (ci := 1) (v := .int (za_bi false)) (ty := .boolean) (C := zs_L) (T := zt_L) (N := 7) hx hb hts zi_L zy_L zk_L zn_L hown hK hP hD hS 0 rfl rfl 6 (by decide) hf25 (fun _ h9 => h9) rfl (by decide +kernel) (za_nar _) (za_fit _) (Nat.le_of_ble_eq_true rfl) zd_L_forget_2 (fun H locs hP hD hS => ?_)
  have hP : va_P D vwCl [(aL, .inr (1, [.ref aN, .ref aR, .ref aU, .ref aK, .int (nI lr), .int (nI kc), .int (za_bi false)]))] H := hP
  have hD : va_D A [(aL, .inr (1, [.ref aN, .ref aR, .ref aU, .ref aK, .int (nI lr), .int (nI kc), .int (za_bi false)]))] := hD
  have hP9 : va_P D vwCl [(aL, .inr (1, [.ref aN, .ref aR, .ref aU, .ref aK, .int (nI lr), .int (nI kc), .int (za_bi false)]))] H := hP
  have hD9 : va_D A [(aL, .inr (1, [.ref aN, .ref aR, .ref aU, .ref aK, .int (nI lr), .int (nI kc), .int (za_bi false)]))] := hD
  exact hret () _ _ _ _ (trivial) hP9 hD9 hS zd_L_forget_5
def zr_L_movesAlike : Room := { frames := 0, cells := 0, slots := 0, locals := 0 }
set_option maxHeartbeats 4000000 in
set_option maxRecDepth 100000 in
theorem zc_L_movesAlike (ln : Launch) (D : va_G) (cI cZ : ClassId) (aL : Nat) (aN : Nat) (aR : Nat) (aU : Nat) (aK : Nat) (lr : Nat) (kc : Nat) (sd : Bool) (Un : Nat → Int32) (s : Nat) (t : Nat) (hs0 : s < 24) (ht0 : t < 24) : Met ln zm_L_movesAlike (Cond.code zm_L_movesAlike zo_L_movesAlike 4 (some .boolean) :: zb_big) zr_L_movesAlike (za_Pr D vwCl [(cI, .int), (cZ, .boolean)] [.ref aL, .int (nI s), .int (nI t)] [(aL, .inr (1, [.ref aN, .ref aR, .ref aU, .ref aK, .int (nI lr), .int (nI kc), .int (za_bi sd)])), (aU, .inl (cI, 96, .inl Un))]) (vp_Si (fun r => r = za_bi (za_mvA Un s t))) 0 0 (fun _ => False) := by
  refine za_reader (cc := zo_L_movesAlike) (maxL := 4) (ty := .boolean) (by decide) (Nat.le_of_ble_eq_true rfl) (fun _ h => by rw [h]; exact za_nar _) ?_
  intro p e sg m args below meth c H Q hx hb hml hts hown hP hK hN hret ls hl
  have hP : va_P D vwCl [(aL, .inr (1, [.ref aN, .ref aR, .ref aU, .ref aK, .int (nI lr), .int (nI kc), .int (za_bi sd)])), (aU, .inl (cI, 96, .inl Un))] H := hP
  have hl : lv_has ls 4 [(0, .ref aL), (1, .int (nI s)), (2, .int (nI t))] := hl
  have hf19 := hts _ zw_75
  refine lv_iconst (v := nI 0) hx hb zd_L_movesAlike_0 (by decide) ?_
  refine lv_istore_n (lv' := [(3, .int (nI 0)), (0, .ref aL), (1, .int (nI s)), (2, .int (nI t))]) hx hb zd_L_movesAlike_1 rfl hl (by decide) rfl (fun ls hl => ?_)
  have hC2 : ∀ (n2 : Nat) (i : Nat) (ls : Array Slot), 4 - i < n2 → i ≤ 4 → (∀ j, j < i → (fun x => decide (Un (s * 4 + x) = Un (t * 4 + x))) j = true) → lv_has ls 4 [(0, .ref aL), (1, .int (nI s)), (2, .int (nI t)), (3, .int (nI i))] → W p ln e zr_L_movesAlike sg m args below meth c H [] 0 0 Q (F0 m 2 ls []) := by
    intro n2
    induction n2 with
    | zero => intro i ls hn2 hi_i hq hl; exact absurd hn2 (Nat.not_lt_zero _)
    | succ n2 ih2 =>
      intro i ls hn2 hi_i hq hl
      refine lv_iload_n hx hb zd_L_movesAlike_2 rfl (lv_at hl 3 rfl) ?_
      refine lv_iconst (v := nI 4) hx hb zd_L_movesAlike_3 (by decide) ?_
      refine lv_icmp_ge hx hb (tgt := 38) zd_L_movesAlike_4 (by decide) (fun h4 => ?_) (fun h4 => ?_)
      · have h4 := za_leN h4 (by omega) (by omega)
        refine lv_iconst (v := nI 1) hx hb zd_L_movesAlike_38 (by decide) ?_
        exact hret _ _ _ (za_b1 (by exact za_al_iff.mpr (fun j hj => hq j (by omega)))) zd_L_movesAlike_39
      · have h4 := za_nleN h4 (by omega) (by omega)
        refine lv_aload_n hx hb zd_L_movesAlike_7 rfl (lv_at hl 0 rfl) ?_
        refine va_get (D := D) (ci := 1) (v := .ref aU) (C := zs_L) (T := zt_L) (N := 7) hx hb hts zi_L hown hK hP 0 rfl rfl 2 (by decide) hf19 (fun _ h9 => h9) rfl zd_L_movesAlike_8 ?_
        refine lv_iload_n hx hb zd_L_movesAlike_11 rfl (lv_at hl 1 rfl) ?_
        refine lv_iconst (v := nI 4) hx hb zd_L_movesAlike_12 (by decide) ?_
        refine za_mulN hx hb zd_L_movesAlike_13 ?_
        refine lv_iload_n hx hb zd_L_movesAlike_14 rfl (lv_at hl 3 rfl) ?_
        refine za_addN hx hb zd_L_movesAlike_15 ?_
        refine za_ild hx hb hK hP 1 0 rfl rfl (k := (s * 4) + i) (by omega) (by decide) zd_L_movesAlike_16 ?_
        refine lv_aload_n hx hb zd_L_movesAlike_17 rfl (lv_at hl 0 rfl) ?_
        refine va_get (D := D) (ci := 1) (v := .ref aU) (C := zs_L) (T := zt_L) (N := 7) hx hb hts zi_L hown hK hP 0 rfl rfl 2 (by decide) hf19 (fun _ h9 => h9) rfl zd_L_movesAlike_18 ?_
        refine lv_iload_n hx hb zd_L_movesAlike_21 rfl (lv_at hl 2 rfl) ?_
        refine lv_iconst (v := nI 4) hx hb zd_L_movesAlike_22 (by decide) ?_
        refine za_mulN hx hb zd_L_movesAlike_23 ?_
        refine lv_iload_n hx hb zd_L_movesAlike_24 rfl (lv_at hl 3 rfl) ?_
        refine za_addN hx hb zd_L_movesAlike_25 ?_
        refine za_ild hx hb hK hP 1 0 rfl rfl (k := (t * 4) + i) (by omega) (by decide) zd_L_movesAlike_26 ?_
        refine lv_icmp_eq hx hb (tgt := 32) zd_L_movesAlike_27 (by decide) (fun h27 => ?_) (fun h27 => ?_)
        · skip
          refine lv_iinc (k := 3) (v := nI (i + 1)) (lv' := [(3, .int (nI (i + 1))), (0, .ref aL), (1, .int (nI s)), (2, .int (nI t))]) hx hb zd_L_movesAlike_32 hl rfl (za_inc _) (by decide) rfl (fun ls hl => ?_)
          refine lv_goto hx hb (tgt := 2) zd_L_movesAlike_35 (by decide) ?_
          exact ih2 (i + 1) ls (by omega) (by omega) (by exact za_all_s (p := (fun x => decide (Un (s * 4 + x) = Un (t * 4 + x)))) hq (by simp [h27])) (lv_sub hl [1, 2, 3, 0] rfl)
        · skip
          refine lv_iconst (v := nI 0) hx hb zd_L_movesAlike_30 (by decide) ?_
          exact hret _ _ _ (za_b0 (by exact za_al_f (i := i) (by omega) (by simp [h27]))) zd_L_movesAlike_31
  exact hC2 (4 - 0 + 1) 0 ls (Nat.lt_succ_self _) (by omega) (by exact za_all_0) (lv_sub hl [1, 2, 3, 0] rfl)
def zr_L_stillAlike : Room := { frames := 1, cells := 0, slots := 0, locals := 23 }
set_option maxHeartbeats 4000000 in
set_option maxRecDepth 100000 in
theorem zc_L_stillAlike (ln : Launch) (D : va_G) (cI cZ : ClassId) (aL : Nat) (aN : Nat) (aR : Nat) (aU : Nat) (aK : Nat) (lr : Nat) (kc : Nat) (sd : Bool) (Un : Nat → Int32) (s : Nat) (w : Int32) (hs0 : s < 24) : Met ln zm_L_stillAlike (Cond.code zm_L_stillAlike zo_L_stillAlike 5 (some .int) :: zb_big) zr_L_stillAlike (za_Pr D vwCl [(cI, .int), (cZ, .boolean)] [.ref aL, .int (nI s), .int w] [(aL, .inr (1, [.ref aN, .ref aR, .ref aU, .ref aK, .int (nI lr), .int (nI kc), .int (za_bi sd)])), (aU, .inl (cI, 96, .inl Un))]) (vp_Si (fun r => r = za_st w Un s)) 0 0 (fun _ => False) := by
  refine za_reader (cc := zo_L_stillAlike) (maxL := 5) (ty := .int) (by decide) (Nat.le_of_ble_eq_true rfl) (fun _ _ => rfl) ?_
  intro p e sg m args below meth c H Q hx hb hml hts hown hP hK hN hret ls hl
  have hP : va_P D vwCl [(aL, .inr (1, [.ref aN, .ref aR, .ref aU, .ref aK, .int (nI lr), .int (nI kc), .int (za_bi sd)])), (aU, .inl (cI, 96, .inl Un))] H := hP
  have hl : lv_has ls 5 [(0, .ref aL), (1, .int (nI s)), (2, .int w)] := hl
  refine lv_iconst (v := nI 0) hx hb zd_L_stillAlike_0 (by decide) ?_
  refine lv_istore_n (lv' := [(3, .int (nI 0)), (0, .ref aL), (1, .int (nI s)), (2, .int w)]) hx hb zd_L_stillAlike_1 rfl hl (by decide) rfl (fun ls hl => ?_)
  refine lv_iconst (v := nI 0) hx hb zd_L_stillAlike_2 (by decide) ?_
  refine lv_istore (lv' := [(4, .int (nI 0)), (3, .int (nI 0)), (0, .ref aL), (1, .int (nI s)), (2, .int w)]) hx hb zd_L_stillAlike_3 hl (by decide) rfl (fun ls hl => ?_)
  have hC5 : ∀ (n5 : Nat) (i : Nat) (ls : Array Slot), 24 - i < n5 → i ≤ 24 → lv_has ls 5 [(0, .ref aL), (1, .int (nI s)), (2, .int w), (3, .int (za_mk (fun x => bt w x && za_mvA Un s x) i)), (4, .int (nI i))] → W p ln e zr_L_stillAlike sg m args below meth c H [] 0 0 Q (F0 m 5 ls []) := by
    intro n5
    induction n5 with
    | zero => intro i ls hn5 hi_i hl; exact absurd hn5 (Nat.not_lt_zero _)
    | succ n5 ih5 =>
      intro i ls hn5 hi_i hl
      refine lv_iload hx hb zd_L_stillAlike_5 (lv_at hl 4 rfl) ?_
      refine lv_bipush (v := nI 24) hx hb zd_L_stillAlike_7 (by decide) ?_
      refine lv_icmp_ge hx hb (tgt := 44) zd_L_stillAlike_9 (by decide) (fun h9 => ?_) (fun h9 => ?_)
      · have h9 := za_leN h9 (by omega) (by omega)
        refine lv_iload_n hx hb zd_L_stillAlike_44 rfl (lv_at hl 3 rfl) ?_
        exact hret _ _ _ (by first | with_reducible rfl | (unfold za_st; congr 1; omega)) zd_L_stillAlike_45
      · have h9 := za_nleN h9 (by omega) (by omega)
        refine lv_iload_n hx hb zd_L_stillAlike_12 rfl (lv_at hl 2 rfl) ?_
        refine lv_iload hx hb zd_L_stillAlike_13 (lv_at hl 4 rfl) ?_
        refine za_cSN (As := [.int w, .int (nI i)]) (rest := []) ⟨hx, hb, hml, hown, hts⟩ (zc_X_hasBit ln D cI cZ w i (by omega)) (za_gSN 2 hts hN.2.1 zw_177 zw_35 zw_178 (by decide +kernel) ⟨Nat.le_of_ble_eq_true rfl, Nat.le_of_ble_eq_true rfl⟩) hK hN hP [] rfl hl rfl rfl (Nat.le_of_ble_eq_true rfl) zd_L_stillAlike_15 ⟨Nat.le_of_ble_eq_true rfl, Nat.le_of_ble_eq_true rfl⟩ ?_
        refine lv_if_eq hx hb (tgt := 38) zd_L_stillAlike_18 (by decide) (fun h18 => ?_) (fun h18 => ?_)
        · have h18 := za_bF h18
          refine lv_iinc (k := 4) (v := nI (i + 1)) (lv' := [(4, .int (nI (i + 1))), (0, .ref aL), (1, .int (nI s)), (2, .int w), (3, .int (za_mk (fun x => bt w x && za_mvA Un s x) i))]) hx hb zd_L_stillAlike_38 hl rfl (za_inc _) (by decide) rfl (fun ls hl => ?_)
          refine lv_goto hx hb (tgt := 5) zd_L_stillAlike_41 (by decide) ?_
          have e1 : za_mk (fun x => bt w x && za_mvA Un s x) (i + 1) = za_mk (fun x => bt w x && za_mvA Un s x) i := by first | with_reducible rfl | (simp [za_mk, h9, h18])
          exact ih5 (i + 1) ls (by omega) (by omega) (by rw [e1]; exact lv_sub hl [1, 2, 3, 4, 0] rfl)
        · have h18 := za_bT h18
          refine lv_aload_n hx hb zd_L_stillAlike_21 rfl (lv_at hl 0 rfl) ?_
          refine lv_iload_n hx hb zd_L_stillAlike_22 rfl (lv_at hl 1 rfl) ?_
          refine lv_iload hx hb zd_L_stillAlike_23 (lv_at hl 4 rfl) ?_
          refine za_cV (As := [.int (nI s), .int (nI i)]) (rest := []) ⟨hx, hb, hml, hown, hts⟩ (zc_L_movesAlike ln D cI cZ aL aN aR aU aK lr kc sd Un s i (by omega) (by omega)) (za_gV 2 hts zw_263 zw_265 zw_5 zw_37 zw_266 (by decide +kernel) ⟨Nat.le_of_ble_eq_true rfl, Nat.le_of_ble_eq_true rfl⟩) hK hN hP [0, 1] rfl (q0 := 0) rfl rfl hl rfl rfl (Nat.le_of_ble_eq_true rfl) zd_L_stillAlike_25 ⟨Nat.le_of_ble_eq_true rfl, Nat.le_of_ble_eq_true rfl⟩ ?_
          refine lv_if_eq hx hb (tgt := 38) zd_L_stillAlike_28 (by decide) (fun h28 => ?_) (fun h28 => ?_)
          · have h28 := za_bF h28
            refine lv_iinc (k := 4) (v := nI (i + 1)) (lv' := [(4, .int (nI (i + 1))), (0, .ref aL), (1, .int (nI s)), (2, .int w), (3, .int (za_mk (fun x => bt w x && za_mvA Un s x) i))]) hx hb zd_L_stillAlike_38 hl rfl (za_inc _) (by decide) rfl (fun ls hl => ?_)
            refine lv_goto hx hb (tgt := 5) zd_L_stillAlike_41 (by decide) ?_
            have e1 : za_mk (fun x => bt w x && za_mvA Un s x) (i + 1) = za_mk (fun x => bt w x && za_mvA Un s x) i := by first | with_reducible rfl | (simp [za_mk, h9, h18, h28])
            exact ih5 (i + 1) ls (by omega) (by omega) (by rw [e1]; exact lv_sub hl [1, 2, 3, 4, 0] rfl)
          · have h28 := za_bT h28
            refine lv_iload_n hx hb zd_L_stillAlike_31 rfl (lv_at hl 3 rfl) ?_
            refine lv_iconst (v := nI 1) hx hb zd_L_stillAlike_32 (by decide) ?_
            refine lv_iload hx hb zd_L_stillAlike_33 (lv_at hl 4 rfl) ?_
            refine lv_ishl hx hb zd_L_stillAlike_35 ?_
            refine lv_ior hx hb zd_L_stillAlike_36 ?_
            refine lv_istore_n (lv' := [(3, .int ((za_mk (fun x => bt w x && za_mvA Un s x) i) ||| ((nI 1) <<< ((nI i) &&& 31)))), (0, .ref aL), (1, .int (nI s)), (2, .int w), (4, .int (nI i))]) hx hb zd_L_stillAlike_37 rfl hl (by decide) rfl (fun ls hl => ?_)
            refine lv_iinc (k := 4) (v := nI (i + 1)) (lv' := [(4, .int (nI (i + 1))), (3, .int ((za_mk (fun x => bt w x && za_mvA Un s x) i) ||| ((nI 1) <<< ((nI i) &&& 31)))), (0, .ref aL), (1, .int (nI s)), (2, .int w)]) hx hb zd_L_stillAlike_38 hl rfl (za_inc _) (by decide) rfl (fun ls hl => ?_)
            refine lv_goto hx hb (tgt := 5) zd_L_stillAlike_41 (by decide) ?_
            have e1 : za_mk (fun x => bt w x && za_mvA Un s x) (i + 1) = ((za_mk (fun x => bt w x && za_mvA Un s x) i) ||| ((nI 1) <<< ((nI i) &&& 31))) := by first | with_reducible rfl | (simp [za_mk, h9, h18, h28])
            exact ih5 (i + 1) ls (by omega) (by omega) (by rw [e1]; exact lv_sub hl [2, 3, 4, 1, 0] rfl)
  have e1 : za_mk (fun x => bt w x && za_mvA Un s x) 0 = nI 0 := by first | with_reducible rfl | (rfl)
  exact hC5 (24 - 0 + 1) 0 ls (Nat.lt_succ_self _) (by omega) (by rw [e1]; exact lv_sub hl [2, 3, 4, 1, 0] rfl)
def zr_L_alikeFor : Room := { frames := 0, cells := 0, slots := 0, locals := 0 }
set_option maxHeartbeats 4000000 in
set_option maxRecDepth 100000 in
theorem zc_L_alikeFor (ln : Launch) (D : va_G) (cI cZ : ClassId) (aL : Nat) (aN : Nat) (aR : Nat) (aU : Nat) (aK : Nat) (lr : Nat) (kc : Nat) (sd : Bool) (Rw : Nat → Int32) (k : Nat) (s : Nat) (hk0 : k < 24) (hs0 : s < 24) : Met ln zm_L_alikeFor (Cond.code zm_L_alikeFor zo_L_alikeFor 3 (some .int) :: zb_big) zr_L_alikeFor (za_Pr D vwCl [(cI, .int), (cZ, .boolean)] [.ref aL, .int (nI k), .int (nI s)] [(aL, .inr (1, [.ref aN, .ref aR, .ref aU, .ref aK, .int (nI lr), .int (nI kc), .int (za_bi sd)])), (aR, .inl (cI, 576, .inl Rw))]) (vp_Si (fun r => r = Rw (k * 24 + s))) 0 0 (fun _ => False) := by
  refine za_reader (cc := zo_L_alikeFor) (maxL := 3) (ty := .int) (by decide) (Nat.le_of_ble_eq_true rfl) (fun _ _ => rfl) ?_
  intro p e sg m args below meth c H Q hx hb hml hts hown hP hK hN hret ls hl
  have hP : va_P D vwCl [(aL, .inr (1, [.ref aN, .ref aR, .ref aU, .ref aK, .int (nI lr), .int (nI kc), .int (za_bi sd)])), (aR, .inl (cI, 576, .inl Rw))] H := hP
  have hl : lv_has ls 3 [(0, .ref aL), (1, .int (nI k)), (2, .int (nI s))] := hl
  have hf15 := hts _ zw_74
  refine lv_aload_n hx hb zd_L_alikeFor_0 rfl (lv_at hl 0 rfl) ?_
  refine va_get (D := D) (ci := 1) (v := .ref aR) (C := zs_L) (T := zt_L) (N := 7) hx hb hts zi_L hown hK hP 0 rfl rfl 1 (by decide) hf15 (fun _ h9 => h9) rfl zd_L_alikeFor_1 ?_
  refine lv_iload_n hx hb zd_L_alikeFor_4 rfl (lv_at hl 1 rfl) ?_
  refine lv_bipush (v := nI 24) hx hb zd_L_alikeFor_5 (by decide) ?_
  refine za_mulN hx hb zd_L_alikeFor_7 ?_
  refine lv_iload_n hx hb zd_L_alikeFor_8 rfl (lv_at hl 2 rfl) ?_
  refine za_addN hx hb zd_L_alikeFor_9 ?_
  refine za_ild hx hb hK hP 1 0 rfl rfl (k := (k * 24) + s) (by omega) (by decide) zd_L_alikeFor_10 ?_
  exact hret _ _ _ (by first | with_reducible rfl | (simp [])) zd_L_alikeFor_11
def zr_L_leastAlike : Room := { frames := 1, cells := 0, slots := 0, locals := 22 }
set_option maxHeartbeats 4000000 in
set_option maxRecDepth 100000 in
theorem zc_L_leastAlike (ln : Launch) (D : va_G) (cI cZ : ClassId) (aL : Nat) (aN : Nat) (aR : Nat) (aU : Nat) (aK : Nat) (lr : Nat) (kc : Nat) (sd : Bool) (Rw : Nat → Int32) (s : Nat) (hs0 : s < 24) (hr0 : lr < 24) : Met ln zm_L_leastAlike (Cond.code zm_L_leastAlike zo_L_leastAlike 4 (some .int) :: zb_big) zr_L_leastAlike (za_Pr D vwCl [(cI, .int), (cZ, .boolean)] [.ref aL, .int (nI s)] [(aL, .inr (1, [.ref aN, .ref aR, .ref aU, .ref aK, .int (nI lr), .int (nI kc), .int (za_bi sd)])), (aR, .inl (cI, 576, .inl Rw))]) (vp_Si (fun r => r = nI (za_lf Rw lr s))) 0 0 (fun _ => False) := by
  refine za_reader (cc := zo_L_leastAlike) (maxL := 4) (ty := .int) (by decide) (Nat.le_of_ble_eq_true rfl) (fun _ _ => rfl) ?_
  intro p e sg m args below meth c H Q hx hb hml hts hown hP hK hN hret ls hl
  have hP : va_P D vwCl [(aL, .inr (1, [.ref aN, .ref aR, .ref aU, .ref aK, .int (nI lr), .int (nI kc), .int (za_bi sd)])), (aR, .inl (cI, 576, .inl Rw))] H := hP
  have hl : lv_has ls 4 [(0, .ref aL), (1, .int (nI s))] := hl
  have hf35 := hts _ zw_77
  refine lv_aload_n hx hb zd_L_leastAlike_0 rfl (lv_at hl 0 rfl) ?_
  refine lv_aload_n hx hb zd_L_leastAlike_1 rfl (lv_at hl 0 rfl) ?_
  refine va_get (D := D) (ci := 1) (v := .int (nI lr)) (C := zs_L) (T := zt_L) (N := 7) hx hb hts zi_L hown hK hP 0 rfl rfl 4 (by decide) hf35 (fun _ h9 => h9) rfl zd_L_leastAlike_2 ?_
  refine lv_iload_n hx hb zd_L_leastAlike_5 rfl (lv_at hl 1 rfl) ?_
  refine za_cV (As := [.int (nI lr), .int (nI s)]) (rest := []) ⟨hx, hb, hml, hown, hts⟩ (zc_L_alikeFor ln D cI cZ aL aN aR aU aK lr kc sd Rw lr s (by omega) (by omega)) (za_gV 2 hts zw_275 zw_276 zw_277 zw_37 zw_278 (by decide +kernel) ⟨Nat.le_of_ble_eq_true rfl, Nat.le_of_ble_eq_true rfl⟩) hK hN hP [0, 1] rfl (q0 := 0) rfl rfl hl rfl rfl (Nat.le_of_ble_eq_true rfl) zd_L_leastAlike_6 ⟨Nat.le_of_ble_eq_true rfl, Nat.le_of_ble_eq_true rfl⟩ ?_
  refine lv_istore_n (lv' := [(2, .int (Rw (lr * 24 + s))), (0, .ref aL), (1, .int (nI s))]) hx hb zd_L_leastAlike_9 rfl hl (by decide) rfl (fun ls hl => ?_)
  refine lv_iconst (v := nI 0) hx hb zd_L_leastAlike_10 (by decide) ?_
  refine lv_istore_n (lv' := [(3, .int (nI 0)), (2, .int (Rw (lr * 24 + s))), (0, .ref aL), (1, .int (nI s))]) hx hb zd_L_leastAlike_11 rfl hl (by decide) rfl (fun ls hl => ?_)
  have hC12 : ∀ (n12 : Nat) (i : Nat) (ls : Array Slot), s - i < n12 → i ≤ s → (∀ j, j < i → (fun x => !bt (Rw (lr * 24 + s)) x) j = true) → lv_has ls 4 [(0, .ref aL), (1, .int (nI s)), (2, .int (Rw (lr * 24 + s))), (3, .int (nI i))] → W p ln e zr_L_leastAlike sg m args below meth c H [] 0 0 Q (F0 m 12 ls []) := by
    intro n12
    induction n12 with
    | zero => intro i ls hn12 hi_i hq hl; exact absurd hn12 (Nat.not_lt_zero _)
    | succ n12 ih12 =>
      intro i ls hn12 hi_i hq hl
      refine lv_iload_n hx hb zd_L_leastAlike_12 rfl (lv_at hl 3 rfl) ?_
      refine lv_iload_n hx hb zd_L_leastAlike_13 rfl (lv_at hl 1 rfl) ?_
      refine lv_icmp_ge hx hb (tgt := 33) zd_L_leastAlike_14 (by decide) (fun h14 => ?_) (fun h14 => ?_)
      · have h14 := za_leN h14 (by omega) (by omega)
        refine lv_iload_n hx hb zd_L_leastAlike_33 rfl (lv_at hl 1 rfl) ?_
        exact hret _ _ _ (by first | with_reducible rfl | (unfold za_lf; rw [za_fi_all (fun j hj => hq j (by omega))])) zd_L_leastAlike_34
      · have h14 := za_nleN h14 (by omega) (by omega)
        refine lv_iload_n hx hb zd_L_leastAlike_17 rfl (lv_at hl 2 rfl) ?_
        refine lv_iload_n hx hb zd_L_leastAlike_18 rfl (lv_at hl 3 rfl) ?_
        refine za_cSN (As := [.int (Rw (lr * 24 + s)), .int (nI i)]) (rest := []) ⟨hx, hb, hml, hown, hts⟩ (zc_X_hasBit ln D cI cZ (Rw (lr * 24 + s)) i (by omega)) (za_gSN 2 hts hN.2.1 zw_177 zw_35 zw_178 (by decide +kernel) ⟨Nat.le_of_ble_eq_true rfl, Nat.le_of_ble_eq_true rfl⟩) hK hN hP [] rfl hl rfl rfl (Nat.le_of_ble_eq_true rfl) zd_L_leastAlike_19 ⟨Nat.le_of_ble_eq_true rfl, Nat.le_of_ble_eq_true rfl⟩ ?_
        refine lv_if_eq hx hb (tgt := 27) zd_L_leastAlike_22 (by decide) (fun h22 => ?_) (fun h22 => ?_)
        · have h22 := za_bF h22
          refine lv_iinc (k := 3) (v := nI (i + 1)) (lv' := [(3, .int (nI (i + 1))), (0, .ref aL), (1, .int (nI s)), (2, .int (Rw (lr * 24 + s)))]) hx hb zd_L_leastAlike_27 hl rfl (za_inc _) (by decide) rfl (fun ls hl => ?_)
          refine lv_goto hx hb (tgt := 12) zd_L_leastAlike_30 (by decide) ?_
          exact ih12 (i + 1) ls (by omega) (by omega) (by exact za_all_s (p := (fun x => !bt (Rw (lr * 24 + s)) x)) hq (by simp [h22])) (lv_sub hl [1, 2, 3, 0] rfl)
        · have h22 := za_bT h22
          refine lv_iload_n hx hb zd_L_leastAlike_25 rfl (lv_at hl 3 rfl) ?_
          exact hret _ _ _ (by first | with_reducible rfl | (unfold za_lf; rw [za_fi_at (by omega) hq (by simp [h22])])) zd_L_leastAlike_26
  exact hC12 (s - 0 + 1) 0 ls (Nat.lt_succ_self _) (by omega) (by exact za_all_0) (lv_sub hl [2, 3, 1, 0] rfl)
def zr_L_breachOf : Room := { frames := 1, cells := 0, slots := 0, locals := 22 }
set_option maxHeartbeats 4000000 in
set_option maxRecDepth 100000 in
theorem zc_L_breachOf (ln : Launch) (D : va_G) (cI cZ : ClassId) (aL : Nat) (aN : Nat) (aR : Nat) (aU : Nat) (aK : Nat) (lr : Nat) (kc : Nat) (sd : Bool) (Rw : Nat → Int32) (s : Nat) (t : Nat) (hs0 : s < 24) (ht0 : t < 24) (hr0 : lr < 24) : Met ln zm_L_breachOf (Cond.code zm_L_breachOf zo_L_breachOf 4 (some .int) :: zb_big) zr_L_breachOf (za_Pr D vwCl [(cI, .int), (cZ, .boolean)] [.ref aL, .int (nI s), .int (nI t)] [(aL, .inr (1, [.ref aN, .ref aR, .ref aU, .ref aK, .int (nI lr), .int (nI kc), .int (za_bi sd)])), (aR, .inl (cI, 576, .inl Rw))]) (vp_Si (fun r => r = za_ff (fun x => bt (Rw (x * 24 + s)) t) (lr + 1))) 0 0 (fun _ => False) := by
  refine za_reader (cc := zo_L_breachOf) (maxL := 4) (ty := .int) (by decide) (Nat.le_of_ble_eq_true rfl) (fun _ _ => rfl) ?_
  intro p e sg m args below meth c H Q hx hb hml hts hown hP hK hN hret ls hl
  have hP : va_P D vwCl [(aL, .inr (1, [.ref aN, .ref aR, .ref aU, .ref aK, .int (nI lr), .int (nI kc), .int (za_bi sd)])), (aR, .inl (cI, 576, .inl Rw))] H := hP
  have hl : lv_has ls 4 [(0, .ref aL), (1, .int (nI s)), (2, .int (nI t))] := hl
  have hf35 := hts _ zw_77
  refine lv_iconst (v := nI 0) hx hb zd_L_breachOf_0 (by decide) ?_
  refine lv_istore_n (lv' := [(3, .int (nI 0)), (0, .ref aL), (1, .int (nI s)), (2, .int (nI t))]) hx hb zd_L_breachOf_1 rfl hl (by decide) rfl (fun ls hl => ?_)
  have hC2 : ∀ (n2 : Nat) (i : Nat) (ls : Array Slot), (lr + 1) - i < n2 → i ≤ lr + 1 → (∀ j, j < i → (fun x => bt (Rw (x * 24 + s)) t) j = true) → lv_has ls 4 [(0, .ref aL), (1, .int (nI s)), (2, .int (nI t)), (3, .int (nI i))] → W p ln e zr_L_breachOf sg m args below meth c H [] 0 0 Q (F0 m 2 ls []) := by
    intro n2
    induction n2 with
    | zero => intro i ls hn2 hi_i hq hl; exact absurd hn2 (Nat.not_lt_zero _)
    | succ n2 ih2 =>
      intro i ls hn2 hi_i hq hl
      refine lv_iload_n hx hb zd_L_breachOf_2 rfl (lv_at hl 3 rfl) ?_
      refine lv_aload_n hx hb zd_L_breachOf_3 rfl (lv_at hl 0 rfl) ?_
      refine va_get (D := D) (ci := 1) (v := .int (nI lr)) (C := zs_L) (T := zt_L) (N := 7) hx hb hts zi_L hown hK hP 0 rfl rfl 4 (by decide) hf35 (fun _ h9 => h9) rfl zd_L_breachOf_4 ?_
      refine lv_icmp_gt hx hb (tgt := 31) zd_L_breachOf_7 (by decide) (fun h7 => ?_) (fun h7 => ?_)
      · have h7 := za_ltN h7 (by omega) (by omega)
        refine lv_iconst (v := (-1)) hx hb zd_L_breachOf_31 (by decide) ?_
        exact hret _ _ _ (by first | with_reducible rfl | (exact za_ff_all (fun j hj => hq j (by omega)))) zd_L_breachOf_32
      · have h7 := za_nltN h7 (by omega) (by omega)
        refine lv_aload_n hx hb zd_L_breachOf_10 rfl (lv_at hl 0 rfl) ?_
        refine lv_iload_n hx hb zd_L_breachOf_11 rfl (lv_at hl 3 rfl) ?_
        refine lv_iload_n hx hb zd_L_breachOf_12 rfl (lv_at hl 1 rfl) ?_
        refine za_cV (As := [.int (nI i), .int (nI s)]) (rest := []) ⟨hx, hb, hml, hown, hts⟩ (zc_L_alikeFor ln D cI cZ aL aN aR aU aK lr kc sd Rw i s (by omega) (by omega)) (za_gV 2 hts zw_275 zw_276 zw_277 zw_37 zw_278 (by decide +kernel) ⟨Nat.le_of_ble_eq_true rfl, Nat.le_of_ble_eq_true rfl⟩) hK hN hP [0, 1] rfl (q0 := 0) rfl rfl hl rfl rfl (Nat.le_of_ble_eq_true rfl) zd_L_breachOf_13 ⟨Nat.le_of_ble_eq_true rfl, Nat.le_of_ble_eq_true rfl⟩ ?_
        refine lv_iload_n hx hb zd_L_breachOf_16 rfl (lv_at hl 2 rfl) ?_
        refine za_cSN (As := [.int (Rw (i * 24 + s)), .int (nI t)]) (rest := []) ⟨hx, hb, hml, hown, hts⟩ (zc_X_hasBit ln D cI cZ (Rw (i * 24 + s)) t (by omega)) (za_gSN 2 hts hN.2.1 zw_177 zw_35 zw_178 (by decide +kernel) ⟨Nat.le_of_ble_eq_true rfl, Nat.le_of_ble_eq_true rfl⟩) hK hN hP [] rfl hl rfl rfl (Nat.le_of_ble_eq_true rfl) zd_L_breachOf_17 ⟨Nat.le_of_ble_eq_true rfl, Nat.le_of_ble_eq_true rfl⟩ ?_
        refine lv_if_ne hx hb (tgt := 25) zd_L_breachOf_20 (by decide) (fun h20 => ?_) (fun h20 => ?_)
        · have h20 := za_bT h20
          refine lv_iinc (k := 3) (v := nI (i + 1)) (lv' := [(3, .int (nI (i + 1))), (0, .ref aL), (1, .int (nI s)), (2, .int (nI t))]) hx hb zd_L_breachOf_25 hl rfl (za_inc _) (by decide) rfl (fun ls hl => ?_)
          refine lv_goto hx hb (tgt := 2) zd_L_breachOf_28 (by decide) ?_
          exact ih2 (i + 1) ls (by omega) (by omega) (by exact za_all_s (p := (fun x => bt (Rw (x * 24 + s)) t)) hq (by simp [h20])) (lv_sub hl [1, 2, 3, 0] rfl)
        · have h20 := za_bF h20
          refine lv_iload_n hx hb zd_L_breachOf_23 rfl (lv_at hl 3 rfl) ?_
          exact hret _ _ _ (by first | with_reducible rfl | (exact za_ff_at (by omega) hq (by simp [h20]))) zd_L_breachOf_24
  exact hC2 ((lr + 1) - 0 + 1) 0 ls (Nat.lt_succ_self _) (by omega) (by exact za_all_0) (lv_sub hl [1, 2, 3, 0] rfl)
def zr_L_kindCount : Room := { frames := 0, cells := 0, slots := 0, locals := 0 }
set_option maxHeartbeats 4000000 in
set_option maxRecDepth 100000 in
theorem zc_L_kindCount (ln : Launch) (D : va_G) (cI cZ : ClassId) (aL : Nat) (aN : Nat) (aR : Nat) (aU : Nat) (aK : Nat) (lr : Nat) (kc : Nat) (sd : Bool) : Met ln zm_L_kindCount (Cond.code zm_L_kindCount zo_L_kindCount 1 (some .int) :: zb_big) zr_L_kindCount (za_Pr D vwCl [(cI, .int), (cZ, .boolean)] [.ref aL] [(aL, .inr (1, [.ref aN, .ref aR, .ref aU, .ref aK, .int (nI lr), .int (nI kc), .int (za_bi sd)]))]) (vp_Si (fun r => r = nI kc)) 0 0 (fun _ => False) := by
  refine za_reader (cc := zo_L_kindCount) (maxL := 1) (ty := .int) (by decide) (Nat.le_of_ble_eq_true rfl) (fun _ _ => rfl) ?_
  intro p e sg m args below meth c H Q hx hb hml hts hown hP hK hN hret ls hl
  have hP : va_P D vwCl [(aL, .inr (1, [.ref aN, .ref aR, .ref aU, .ref aK, .int (nI lr), .int (nI kc), .int (za_bi sd)]))] H := hP
  have hl : lv_has ls 1 [(0, .ref aL)] := hl
  have hf61 := hts _ zw_78
  refine lv_aload_n hx hb zd_L_kindCount_0 rfl (lv_at hl 0 rfl) ?_
  refine va_get (D := D) (ci := 1) (v := .int (nI kc)) (C := zs_L) (T := zt_L) (N := 7) hx hb hts zi_L hown hK hP 0 rfl rfl 5 (by decide) hf61 (fun _ h9 => h9) rfl zd_L_kindCount_1 ?_
  exact hret _ _ _ (rfl) zd_L_kindCount_4
def zr_L_kindOf : Room := { frames := 0, cells := 0, slots := 0, locals := 0 }
set_option maxHeartbeats 4000000 in
set_option maxRecDepth 100000 in
theorem zc_L_kindOf (ln : Launch) (D : va_G) (cI cZ : ClassId) (aL : Nat) (aN : Nat) (aR : Nat) (aU : Nat) (aK : Nat) (lr : Nat) (kc : Nat) (sd : Bool) (Kd : Nat → Int32) (s : Nat) (hs0 : s < 24) : Met ln zm_L_kindOf (Cond.code zm_L_kindOf zo_L_kindOf 2 (some .int) :: zb_big) zr_L_kindOf (za_Pr D vwCl [(cI, .int), (cZ, .boolean)] [.ref aL, .int (nI s)] [(aL, .inr (1, [.ref aN, .ref aR, .ref aU, .ref aK, .int (nI lr), .int (nI kc), .int (za_bi sd)])), (aK, .inl (cI, 24, .inl Kd))]) (vp_Si (fun r => r = Kd s)) 0 0 (fun _ => False) := by
  refine za_reader (cc := zo_L_kindOf) (maxL := 2) (ty := .int) (by decide) (Nat.le_of_ble_eq_true rfl) (fun _ _ => rfl) ?_
  intro p e sg m args below meth c H Q hx hb hml hts hown hP hK hN hret ls hl
  have hP : va_P D vwCl [(aL, .inr (1, [.ref aN, .ref aR, .ref aU, .ref aK, .int (nI lr), .int (nI kc), .int (za_bi sd)])), (aK, .inl (cI, 24, .inl Kd))] H := hP
  have hl : lv_has ls 2 [(0, .ref aL), (1, .int (nI s))] := hl
  have hf22 := hts _ zw_76
  refine lv_aload_n hx hb zd_L_kindOf_0 rfl (lv_at hl 0 rfl) ?_
  refine va_get (D := D) (ci := 1) (v := .ref aK) (C := zs_L) (T := zt_L) (N := 7) hx hb hts zi_L hown hK hP 0 rfl rfl 3 (by decide) hf22 (fun _ h9 => h9) rfl zd_L_kindOf_1 ?_
  refine lv_iload_n hx hb zd_L_kindOf_4 rfl (lv_at hl 1 rfl) ?_
  refine za_ild hx hb hK hP 1 0 rfl rfl (k := s) (by omega) (by decide) zd_L_kindOf_5 ?_
  exact hret _ _ _ (rfl) zd_L_kindOf_6
def zr_L_sizeOf : Room := { frames := 0, cells := 0, slots := 0, locals := 0 }
set_option maxHeartbeats 4000000 in
set_option maxRecDepth 100000 in
theorem zc_L_sizeOf (ln : Launch) (D : va_G) (cI cZ : ClassId) (aL : Nat) (aN : Nat) (aR : Nat) (aU : Nat) (aK : Nat) (lr : Nat) (kc : Nat) (sd : Bool) (Kd : Nat → Int32) (w : Int32) : Met ln zm_L_sizeOf (Cond.code zm_L_sizeOf zo_L_sizeOf 4 (some .int) :: zb_big) zr_L_sizeOf (za_Pr D vwCl [(cI, .int), (cZ, .boolean)] [.ref aL, .int w] [(aL, .inr (1, [.ref aN, .ref aR, .ref aU, .ref aK, .int (nI lr), .int (nI kc), .int (za_bi sd)])), (aK, .inl (cI, 24, .inl Kd))]) (vp_Si (fun r => r = nI (za_cn (fun x => decide (Kd x = w)) 24))) 0 0 (fun _ => False) := by
  refine za_reader (cc := zo_L_sizeOf) (maxL := 4) (ty := .int) (by decide) (Nat.le_of_ble_eq_true rfl) (fun _ _ => rfl) ?_
  intro p e sg m args below meth c H Q hx hb hml hts hown hP hK hN hret ls hl
  have hP : va_P D vwCl [(aL, .inr (1, [.ref aN, .ref aR, .ref aU, .ref aK, .int (nI lr), .int (nI kc), .int (za_bi sd)])), (aK, .inl (cI, 24, .inl Kd))] H := hP
  have hl : lv_has ls 4 [(0, .ref aL), (1, .int w)] := hl
  have hf22 := hts _ zw_76
  refine lv_iconst (v := nI 0) hx hb zd_L_sizeOf_0 (by decide) ?_
  refine lv_istore_n (lv' := [(2, .int (nI 0)), (0, .ref aL), (1, .int w)]) hx hb zd_L_sizeOf_1 rfl hl (by decide) rfl (fun ls hl => ?_)
  refine lv_iconst (v := nI 0) hx hb zd_L_sizeOf_2 (by decide) ?_
  refine lv_istore_n (lv' := [(3, .int (nI 0)), (2, .int (nI 0)), (0, .ref aL), (1, .int w)]) hx hb zd_L_sizeOf_3 rfl hl (by decide) rfl (fun ls hl => ?_)
  have hC4 : ∀ (n4 : Nat) (i : Nat) (ls : Array Slot), 24 - i < n4 → i ≤ 24 → lv_has ls 4 [(0, .ref aL), (1, .int w), (2, .int (nI (za_cn (fun x => decide (Kd x = w)) i))), (3, .int (nI i))] → W p ln e zr_L_sizeOf sg m args below meth c H [] 0 0 Q (F0 m 4 ls []) := by
    intro n4
    induction n4 with
    | zero => intro i ls hn4 hi_i hl; exact absurd hn4 (Nat.not_lt_zero _)
    | succ n4 ih4 =>
      intro i ls hn4 hi_i hl
      refine lv_iload_n hx hb zd_L_sizeOf_4 rfl (lv_at hl 3 rfl) ?_
      refine lv_bipush (v := nI 24) hx hb zd_L_sizeOf_5 (by decide) ?_
      refine lv_icmp_ge hx hb (tgt := 29) zd_L_sizeOf_7 (by decide) (fun h7 => ?_) (fun h7 => ?_)
      · have h7 := za_leN h7 (by omega) (by omega)
        refine lv_iload_n hx hb zd_L_sizeOf_29 rfl (lv_at hl 2 rfl) ?_
        exact hret _ _ _ (by first | with_reducible rfl | (congr 2; omega)) zd_L_sizeOf_30
      · have h7 := za_nleN h7 (by omega) (by omega)
        refine lv_aload_n hx hb zd_L_sizeOf_10 rfl (lv_at hl 0 rfl) ?_
        refine va_get (D := D) (ci := 1) (v := .ref aK) (C := zs_L) (T := zt_L) (N := 7) hx hb hts zi_L hown hK hP 0 rfl rfl 3 (by decide) hf22 (fun _ h9 => h9) rfl zd_L_sizeOf_11 ?_
        refine lv_iload_n hx hb zd_L_sizeOf_14 rfl (lv_at hl 3 rfl) ?_
        refine za_ild hx hb hK hP 1 0 rfl rfl (k := i) (by omega) (by decide) zd_L_sizeOf_15 ?_
        refine lv_iload_n hx hb zd_L_sizeOf_16 rfl (lv_at hl 1 rfl) ?_
        refine lv_icmp_ne hx hb (tgt := 23) zd_L_sizeOf_17 (by decide) (fun h17 => ?_) (fun h17 => ?_)
        · skip
          refine lv_iinc (k := 3) (v := nI (i + 1)) (lv' := [(3, .int (nI (i + 1))), (0, .ref aL), (1, .int w), (2, .int (nI (za_cn (fun x => decide (Kd x = w)) i)))]) hx hb zd_L_sizeOf_23 hl rfl (za_inc _) (by decide) rfl (fun ls hl => ?_)
          refine lv_goto hx hb (tgt := 4) zd_L_sizeOf_26 (by decide) ?_
          have e1 : nI (za_cn (fun x => decide (Kd x = w)) (i + 1)) = nI (za_cn (fun x => decide (Kd x = w)) i) := by first | with_reducible rfl | (simp [za_cn, h7, h17])
          exact ih4 (i + 1) ls (by omega) (by omega) (by rw [e1]; exact lv_sub hl [1, 2, 3, 0] rfl)
        · skip
          refine lv_iinc (k := 2) (v := nI (za_cn (fun x => decide (Kd x = w)) i + 1)) (lv' := [(2, .int (nI (za_cn (fun x => decide (Kd x = w)) i + 1))), (0, .ref aL), (1, .int w), (3, .int (nI i))]) hx hb zd_L_sizeOf_20 hl rfl (za_inc _) (by decide) rfl (fun ls hl => ?_)
          refine lv_iinc (k := 3) (v := nI (i + 1)) (lv' := [(3, .int (nI (i + 1))), (2, .int (nI (za_cn (fun x => decide (Kd x = w)) i + 1))), (0, .ref aL), (1, .int w)]) hx hb zd_L_sizeOf_23 hl rfl (za_inc _) (by decide) rfl (fun ls hl => ?_)
          refine lv_goto hx hb (tgt := 4) zd_L_sizeOf_26 (by decide) ?_
          have e1 : nI (za_cn (fun x => decide (Kd x = w)) (i + 1)) = nI (za_cn (fun x => decide (Kd x = w)) i + 1) := by first | with_reducible rfl | (simp [za_cn, h7, h17])
          exact ih4 (i + 1) ls (by omega) (by omega) (by rw [e1]; exact lv_sub hl [2, 3, 1, 0] rfl)
  have e1 : nI (za_cn (fun x => decide (Kd x = w)) 0) = nI 0 := by first | with_reducible rfl | (rfl)
  exact hC4 (24 - 0 + 1) 0 ls (Nat.lt_succ_self _) (by omega) (by rw [e1]; exact lv_sub hl [2, 3, 1, 0] rfl)
def zr_L_kindsAmong : Room := { frames := 1, cells := 0, slots := 0, locals := 21 }
set_option maxHeartbeats 4000000 in
set_option maxRecDepth 100000 in
theorem zc_L_kindsAmong (ln : Launch) (D : va_G) (cI cZ : ClassId) (aL : Nat) (aN : Nat) (aR : Nat) (aU : Nat) (aK : Nat) (lr : Nat) (kc : Nat) (sd : Bool) (Kd : Nat → Int32) (w : Int32) : Met ln zm_L_kindsAmong (Cond.code zm_L_kindsAmong zo_L_kindsAmong 4 (some .int) :: zb_big) zr_L_kindsAmong (za_Pr D vwCl [(cI, .int), (cZ, .boolean)] [.ref aL, .int w] [(aL, .inr (1, [.ref aN, .ref aR, .ref aU, .ref aK, .int (nI lr), .int (nI kc), .int (za_bi sd)])), (aK, .inl (cI, 24, .inl Kd))]) (vp_Si (fun r => r = za_ka w Kd 24)) 0 0 (fun _ => False) := by
  refine za_reader (cc := zo_L_kindsAmong) (maxL := 4) (ty := .int) (by decide) (Nat.le_of_ble_eq_true rfl) (fun _ _ => rfl) ?_
  intro p e sg m args below meth c H Q hx hb hml hts hown hP hK hN hret ls hl
  have hP : va_P D vwCl [(aL, .inr (1, [.ref aN, .ref aR, .ref aU, .ref aK, .int (nI lr), .int (nI kc), .int (za_bi sd)])), (aK, .inl (cI, 24, .inl Kd))] H := hP
  have hl : lv_has ls 4 [(0, .ref aL), (1, .int w)] := hl
  have hf22 := hts _ zw_76
  refine lv_iconst (v := nI 0) hx hb zd_L_kindsAmong_0 (by decide) ?_
  refine lv_istore_n (lv' := [(2, .int (nI 0)), (0, .ref aL), (1, .int w)]) hx hb zd_L_kindsAmong_1 rfl hl (by decide) rfl (fun ls hl => ?_)
  refine lv_iconst (v := nI 0) hx hb zd_L_kindsAmong_2 (by decide) ?_
  refine lv_istore_n (lv' := [(3, .int (nI 0)), (2, .int (nI 0)), (0, .ref aL), (1, .int w)]) hx hb zd_L_kindsAmong_3 rfl hl (by decide) rfl (fun ls hl => ?_)
  have hC4 : ∀ (n4 : Nat) (i : Nat) (ls : Array Slot), 24 - i < n4 → i ≤ 24 → lv_has ls 4 [(0, .ref aL), (1, .int w), (2, .int (za_ka w Kd i)), (3, .int (nI i))] → W p ln e zr_L_kindsAmong sg m args below meth c H [] 0 0 Q (F0 m 4 ls []) := by
    intro n4
    induction n4 with
    | zero => intro i ls hn4 hi_i hl; exact absurd hn4 (Nat.not_lt_zero _)
    | succ n4 ih4 =>
      intro i ls hn4 hi_i hl
      refine lv_iload_n hx hb zd_L_kindsAmong_4 rfl (lv_at hl 3 rfl) ?_
      refine lv_bipush (v := nI 24) hx hb zd_L_kindsAmong_5 (by decide) ?_
      refine lv_icmp_ge hx hb (tgt := 35) zd_L_kindsAmong_7 (by decide) (fun h7 => ?_) (fun h7 => ?_)
      · have h7 := za_leN h7 (by omega) (by omega)
        refine lv_iload_n hx hb zd_L_kindsAmong_35 rfl (lv_at hl 2 rfl) ?_
        exact hret _ _ _ (by first | with_reducible rfl | (congr 1; omega)) zd_L_kindsAmong_36
      · have h7 := za_nleN h7 (by omega) (by omega)
        refine lv_iload_n hx hb zd_L_kindsAmong_10 rfl (lv_at hl 1 rfl) ?_
        refine lv_iload_n hx hb zd_L_kindsAmong_11 rfl (lv_at hl 3 rfl) ?_
        refine za_cSN (As := [.int w, .int (nI i)]) (rest := []) ⟨hx, hb, hml, hown, hts⟩ (zc_X_hasBit ln D cI cZ w i (by omega)) (za_gSN 2 hts hN.2.1 zw_177 zw_35 zw_178 (by decide +kernel) ⟨Nat.le_of_ble_eq_true rfl, Nat.le_of_ble_eq_true rfl⟩) hK hN hP [] rfl hl rfl rfl (Nat.le_of_ble_eq_true rfl) zd_L_kindsAmong_12 ⟨Nat.le_of_ble_eq_true rfl, Nat.le_of_ble_eq_true rfl⟩ ?_
        refine lv_if_eq hx hb (tgt := 29) zd_L_kindsAmong_15 (by decide) (fun h15 => ?_) (fun h15 => ?_)
        · have h15 := za_bF h15
          refine lv_iinc (k := 3) (v := nI (i + 1)) (lv' := [(3, .int (nI (i + 1))), (0, .ref aL), (1, .int w), (2, .int (za_ka w Kd i))]) hx hb zd_L_kindsAmong_29 hl rfl (za_inc _) (by decide) rfl (fun ls hl => ?_)
          refine lv_goto hx hb (tgt := 4) zd_L_kindsAmong_32 (by decide) ?_
          have e1 : za_ka w Kd (i + 1) = za_ka w Kd i := by first | with_reducible rfl | (simp [za_ka, h7, h15])
          exact ih4 (i + 1) ls (by omega) (by omega) (by rw [e1]; exact lv_sub hl [1, 2, 3, 0] rfl)
        · have h15 := za_bT h15
          refine lv_iload_n hx hb zd_L_kindsAmong_18 rfl (lv_at hl 2 rfl) ?_
          refine lv_iconst (v := nI 1) hx hb zd_L_kindsAmong_19 (by decide) ?_
          refine lv_aload_n hx hb zd_L_kindsAmong_20 rfl (lv_at hl 0 rfl) ?_
          refine va_get (D := D) (ci := 1) (v := .ref aK) (C := zs_L) (T := zt_L) (N := 7) hx hb hts zi_L hown hK hP 0 rfl rfl 3 (by decide) hf22 (fun _ h9 => h9) rfl zd_L_kindsAmong_21 ?_
          refine lv_iload_n hx hb zd_L_kindsAmong_24 rfl (lv_at hl 3 rfl) ?_
          refine za_ild hx hb hK hP 1 0 rfl rfl (k := i) (by omega) (by decide) zd_L_kindsAmong_25 ?_
          refine lv_ishl hx hb zd_L_kindsAmong_26 ?_
          refine lv_ior hx hb zd_L_kindsAmong_27 ?_
          refine lv_istore_n (lv' := [(2, .int ((za_ka w Kd i) ||| ((nI 1) <<< ((Kd i) &&& 31)))), (0, .ref aL), (1, .int w), (3, .int (nI i))]) hx hb zd_L_kindsAmong_28 rfl hl (by decide) rfl (fun ls hl => ?_)
          refine lv_iinc (k := 3) (v := nI (i + 1)) (lv' := [(3, .int (nI (i + 1))), (2, .int ((za_ka w Kd i) ||| ((nI 1) <<< ((Kd i) &&& 31)))), (0, .ref aL), (1, .int w)]) hx hb zd_L_kindsAmong_29 hl rfl (za_inc _) (by decide) rfl (fun ls hl => ?_)
          refine lv_goto hx hb (tgt := 4) zd_L_kindsAmong_32 (by decide) ?_
          have e1 : za_ka w Kd (i + 1) = ((za_ka w Kd i) ||| ((nI 1) <<< ((Kd i) &&& 31))) := by first | with_reducible rfl | (simp [za_ka, h7, h15])
          exact ih4 (i + 1) ls (by omega) (by omega) (by rw [e1]; exact lv_sub hl [2, 3, 1, 0] rfl)
  have e1 : za_ka w Kd 0 = nI 0 := by first | with_reducible rfl | (rfl)
  exact hC4 (24 - 0 + 1) 0 ls (Nat.lt_succ_self _) (by omega) (by rw [e1]; exact lv_sub hl [2, 3, 1, 0] rfl)
def zr_L_kindsReached : Room := { frames := 2, cells := 0, slots := 0, locals := 44 }
set_option maxHeartbeats 4000000 in
set_option maxRecDepth 100000 in
theorem zc_L_kindsReached (ln : Launch) (D : va_G) (cI cZ : ClassId) (aL : Nat) (aN : Nat) (aR : Nat) (aU : Nat) (aK : Nat) (lr : Nat) (kc : Nat) (sd : Bool) (aT : Nat) (aC : Nat) (ct : Int32) (Tg : Nat → Int32) (Kd : Nat → Int32) (w : Int32) (l : Nat) (hl0 : l < 4) : Met ln zm_L_kindsReached (Cond.code zm_L_kindsReached zo_L_kindsReached 5 (some .int) :: zb_big) zr_L_kindsReached (za_Pr D vwCl [(cI, .int), (cZ, .boolean)] [.ref aL, .int w, .int (nI l)] [(aL, .inr (1, [.ref aN, .ref aR, .ref aU, .ref aK, .int (nI lr), .int (nI kc), .int (za_bi sd)])), (aK, .inl (cI, 24, .inl Kd)), (aN, .inr (0, [.ref aT, .ref aC, .int ct])), (aT, .inl (cI, 96, .inl Tg))]) (vp_Si (fun r => r = za_kr w l Tg Kd 24)) 0 0 (fun _ => False) := by
  refine za_reader (cc := zo_L_kindsReached) (maxL := 5) (ty := .int) (by decide) (Nat.le_of_ble_eq_true rfl) (fun _ _ => rfl) ?_
  intro p e sg m args below meth c H Q hx hb hml hts hown hP hK hN hret ls hl
  have hP : va_P D vwCl [(aL, .inr (1, [.ref aN, .ref aR, .ref aU, .ref aK, .int (nI lr), .int (nI kc), .int (za_bi sd)])), (aK, .inl (cI, 24, .inl Kd)), (aN, .inr (0, [.ref aT, .ref aC, .int ct])), (aT, .inl (cI, 96, .inl Tg))] H := hP
  have hl : lv_has ls 5 [(0, .ref aL), (1, .int w), (2, .int (nI l))] := hl
  have hf22 := hts _ zw_76
  have hf9 := hts _ zw_73
  refine lv_iconst (v := nI 0) hx hb zd_L_kindsReached_0 (by decide) ?_
  refine lv_istore_n (lv' := [(3, .int (nI 0)), (0, .ref aL), (1, .int w), (2, .int (nI l))]) hx hb zd_L_kindsReached_1 rfl hl (by decide) rfl (fun ls hl => ?_)
  refine lv_iconst (v := nI 0) hx hb zd_L_kindsReached_2 (by decide) ?_
  refine lv_istore (lv' := [(4, .int (nI 0)), (3, .int (nI 0)), (0, .ref aL), (1, .int w), (2, .int (nI l))]) hx hb zd_L_kindsReached_3 hl (by decide) rfl (fun ls hl => ?_)
  have hC5 : ∀ (n5 : Nat) (i : Nat) (ls : Array Slot), 24 - i < n5 → i ≤ 24 → lv_has ls 5 [(0, .ref aL), (1, .int w), (2, .int (nI l)), (3, .int (za_kr w l Tg Kd i)), (4, .int (nI i))] → W p ln e zr_L_kindsReached sg m args below meth c H [] 0 0 Q (F0 m 5 ls []) := by
    intro n5
    induction n5 with
    | zero => intro i ls hn5 hi_i hl; exact absurd hn5 (Nat.not_lt_zero _)
    | succ n5 ih5 =>
      intro i ls hn5 hi_i hl
      refine lv_iload hx hb zd_L_kindsReached_5 (lv_at hl 4 rfl) ?_
      refine lv_bipush (v := nI 24) hx hb zd_L_kindsReached_7 (by decide) ?_
      refine lv_icmp_ge hx hb (tgt := 46) zd_L_kindsReached_9 (by decide) (fun h9 => ?_) (fun h9 => ?_)
      · have h9 := za_leN h9 (by omega) (by omega)
        refine lv_iload_n hx hb zd_L_kindsReached_46 rfl (lv_at hl 3 rfl) ?_
        exact hret _ _ _ (by first | with_reducible rfl | (congr 1; omega)) zd_L_kindsReached_47
      · have h9 := za_nleN h9 (by omega) (by omega)
        refine lv_aload_n hx hb zd_L_kindsReached_12 rfl (lv_at hl 0 rfl) ?_
        refine va_get (D := D) (ci := 1) (v := .ref aK) (C := zs_L) (T := zt_L) (N := 7) hx hb hts zi_L hown hK hP 0 rfl rfl 3 (by decide) hf22 (fun _ h9 => h9) rfl zd_L_kindsReached_13 ?_
        refine lv_iload hx hb zd_L_kindsReached_16 (lv_at hl 4 rfl) ?_
        refine za_ild hx hb hK hP 1 0 rfl rfl (k := i) (by omega) (by decide) zd_L_kindsReached_18 ?_
        refine lv_iload_n hx hb zd_L_kindsReached_19 rfl (lv_at hl 1 rfl) ?_
        refine lv_icmp_ne hx hb (tgt := 40) zd_L_kindsReached_20 (by decide) (fun h20 => ?_) (fun h20 => ?_)
        · skip
          refine lv_iinc (k := 4) (v := nI (i + 1)) (lv' := [(4, .int (nI (i + 1))), (0, .ref aL), (1, .int w), (2, .int (nI l)), (3, .int (za_kr w l Tg Kd i))]) hx hb zd_L_kindsReached_40 hl rfl (za_inc _) (by decide) rfl (fun ls hl => ?_)
          refine lv_goto hx hb (tgt := 5) zd_L_kindsReached_43 (by decide) ?_
          have e1 : za_kr w l Tg Kd (i + 1) = za_kr w l Tg Kd i := by first | with_reducible rfl | (simp [za_kr, h9, h20])
          exact ih5 (i + 1) ls (by omega) (by omega) (by rw [e1]; exact lv_sub hl [1, 2, 3, 4, 0] rfl)
        · skip
          refine lv_iload_n hx hb zd_L_kindsReached_23 rfl (lv_at hl 3 rfl) ?_
          refine lv_aload_n hx hb zd_L_kindsReached_24 rfl (lv_at hl 0 rfl) ?_
          refine lv_aload_n hx hb zd_L_kindsReached_25 rfl (lv_at hl 0 rfl) ?_
          refine va_get (D := D) (ci := 1) (v := .ref aN) (C := zs_L) (T := zt_L) (N := 7) hx hb hts zi_L hown hK hP 0 rfl rfl 0 (by decide) hf9 (fun _ h9 => h9) rfl zd_L_kindsReached_26 ?_
          refine lv_iload hx hb zd_L_kindsReached_29 (lv_at hl 4 rfl) ?_
          refine lv_iload_n hx hb zd_L_kindsReached_31 rfl (lv_at hl 2 rfl) ?_
          refine za_cV (As := [.int (nI i), .int (nI l)]) (rest := [.ref aL, .int (za_kr w l Tg Kd i)]) ⟨hx, hb, hml, hown, hts⟩ (zc_N_targetsOf ln D cI cZ aN aT aC ct Tg i l (by omega) (by omega)) (za_gV 2 hts zw_319 zw_173 zw_174 zw_36 zw_175 (by decide +kernel) ⟨Nat.le_of_ble_eq_true rfl, Nat.le_of_ble_eq_true rfl⟩) hK hN hP [2, 3] rfl (q0 := 2) rfl rfl hl rfl rfl (Nat.le_of_ble_eq_true rfl) zd_L_kindsReached_32 ⟨Nat.le_of_ble_eq_true rfl, Nat.le_of_ble_eq_true rfl⟩ ?_
          refine za_cV (As := [.int (Tg (i * 4 + l))]) (rest := [.int (za_kr w l Tg Kd i)]) ⟨hx, hb, hml, hown, hts⟩ (zc_L_kindsAmong ln D cI cZ aL aN aR aU aK lr kc sd Kd (Tg (i * 4 + l)) ) (za_gV 1 hts zw_320 zw_322 zw_8 zw_37 zw_323 (by decide +kernel) ⟨Nat.le_of_ble_eq_true rfl, Nat.le_of_ble_eq_true rfl⟩) hK hN hP [0, 1] rfl (q0 := 0) rfl rfl hl rfl rfl (Nat.le_of_ble_eq_true rfl) zd_L_kindsReached_35 ⟨Nat.le_of_ble_eq_true rfl, Nat.le_of_ble_eq_true rfl⟩ ?_
          refine lv_ior hx hb zd_L_kindsReached_38 ?_
          refine lv_istore_n (lv' := [(3, .int ((za_kr w l Tg Kd i) ||| (za_ka (Tg (i * 4 + l)) Kd 24))), (0, .ref aL), (1, .int w), (2, .int (nI l)), (4, .int (nI i))]) hx hb zd_L_kindsReached_39 rfl hl (by decide) rfl (fun ls hl => ?_)
          refine lv_iinc (k := 4) (v := nI (i + 1)) (lv' := [(4, .int (nI (i + 1))), (3, .int ((za_kr w l Tg Kd i) ||| (za_ka (Tg (i * 4 + l)) Kd 24))), (0, .ref aL), (1, .int w), (2, .int (nI l))]) hx hb zd_L_kindsReached_40 hl rfl (za_inc _) (by decide) rfl (fun ls hl => ?_)
          refine lv_goto hx hb (tgt := 5) zd_L_kindsReached_43 (by decide) ?_
          have e1 : za_kr w l Tg Kd (i + 1) = ((za_kr w l Tg Kd i) ||| (za_ka (Tg (i * 4 + l)) Kd 24)) := by first | with_reducible rfl | (simp [za_kr, h9, h20])
          exact ih5 (i + 1) ls (by omega) (by omega) (by rw [e1]; exact lv_sub hl [2, 3, 4, 1, 0] rfl)
  have e1 : za_kr w l Tg Kd 0 = nI 0 := by first | with_reducible rfl | (rfl)
  exact hC5 (24 - 0 + 1) 0 ls (Nat.lt_succ_self _) (by omega) (by rw [e1]; exact lv_sub hl [2, 3, 4, 1, 0] rfl)
def zr_C_forget : Room := { frames := 0, cells := 0, slots := 0, locals := 0 }
set_option maxHeartbeats 4000000 in
set_option maxRecDepth 100000 in
theorem zc_C_forget (ln : Launch) (D : va_G) (cI cZ : ClassId) (sz : Nat) (aV : Nat) (aN : Nat) (aB : Nat) (aW : Nat) (sc : Bool) : Met ln zm_C_forget (Cond.code zm_C_forget zo_C_forget 1 none :: zb_big) zr_C_forget (za_Pw D vwCl [(cI, .int), (cZ, .boolean)] [.ref aV] [(aV, .inr (2, [.ref aN, .ref aB, .ref aW, .int (za_bi sc)]))] sz) (va_Qv (fun (_u : Unit) => True) (za_B D vwCl [(aV, .inr (2, [.ref aN, .ref aB, .ref aW, .int (za_bi sc)]))] sz (fun (_u : Unit) => [(aV, .inr (2, [.ref aN, .ref aB, .ref aW, .int (za_bi false)]))])) (va_A [(aV, .inr (2, [.ref aN, .ref aB, .ref aW, .int (za_bi sc)]))] sz)) 0 0 (va_A [(aV, .inr (2, [.ref aN, .ref aB, .ref aW, .int (za_bi sc)]))] sz) := by
  refine za_wv (cc := zo_C_forget) (maxL := 1) (by decide) (Nat.le_of_ble_eq_true rfl) ?_
  intro p e sg m args below meth c H0 A Q hx hb hml hts hown hmn hP hK hN hD hA hS hret ls hl
  have hP : va_P D vwCl [(aV, .inr (2, [.ref aN, .ref aB, .ref aW, .int (za_bi sc)]))] H0 := hP
  have hD : va_D A [(aV, .inr (2, [.ref aN, .ref aB, .ref aW, .int (za_bi sc)]))] := hD
  have hl : lv_has ls 1 [(0, .ref aV)] := hl
  have hf22 := hts _ zw_104
  refine lv_aload_n hx hb zd_C_forget_0 rfl (lv_at hl 0 rfl) ?_
  refine lv_iconst (v := nI 0) hx hb zd_C_forget_1 (by decide) ?_
  refine za_eqi (y := za_bi false) rfl ?_
  refine va_put (D := D) (ci := 2) (v := .int (za_bi false)) (ty := .boolean) (C := zs_C) (T := zt_C) (N := 4) hx hb hts zi_C zy_C zk_C zn_C hown hK hP hD hS 0 rfl rfl 3 (by decide) hf22 (fun _ h9 => h9) rfl (by decide +kernel) (za_nar _) (za_fit _) (Nat.le_of_ble_eq_true rfl) zd_C_forget_2 (fun H locs hP hD hS => ?_)
  have hP : va_P D vwCl [(aV, .inr (2, [.ref aN, .ref aB, .ref aW, .int (za_bi false)]))] H := hP
  have hD : va_D A [(aV, .inr (2, [.ref aN, .ref aB, .ref aW, .int (za_bi false)]))] := hD
  have hP9 : va_P D vwCl [(aV, .inr (2, [.ref aN, .ref aB, .ref aW, .int (za_bi false)]))] H := hP
  have hD9 : va_D A [(aV, .inr (2, [.ref aN, .ref aB, .ref aW, .int (za_bi false)]))] := hD
  exact hret () _ _ _ _ (trivial) hP9 hD9 hS zd_C_forget_5
def zr_C_canFollow : Room := { frames := 1, cells := 0, slots := 0, locals := 22 }
set_option maxHeartbeats 4000000 in
set_option maxRecDepth 100000 in
theorem zc_C_canFollow (ln : Launch) (D : va_G) (cI cZ : ClassId) (aV : Nat) (aN : Nat) (aB : Nat) (aW : Nat) (sc : Bool) (aT : Nat) (aC : Nat) (ct : Int32) (Tg : Nat → Int32) (Uc : Nat → Int32) (s : Nat) (t : Nat) (hs0 : s < 24) (ht0 : t < 24) : Met ln zm_C_canFollow (Cond.code zm_C_canFollow zo_C_canFollow 4 (some .boolean) :: zb_big) zr_C_canFollow (za_Pr D vwCl [(cI, .int), (cZ, .boolean)] [.ref aV, .int (nI s), .int (nI t)] [(aV, .inr (2, [.ref aN, .ref aB, .ref aW, .int (za_bi sc)])), (aN, .inr (0, [.ref aT, .ref aC, .int ct])), (aT, .inl (cI, 96, .inl Tg)), (aW, .inl (cI, 96, .inl Uc))]) (vp_Si (fun r => r = za_bi (za_foll Tg Uc s t))) 0 0 (fun _ => False) := by
  refine za_reader (cc := zo_C_canFollow) (maxL := 4) (ty := .boolean) (by decide) (Nat.le_of_ble_eq_true rfl) (fun _ h => by rw [h]; exact za_nar _) ?_
  intro p e sg m args below meth c H Q hx hb hml hts hown hP hK hN hret ls hl
  have hP : va_P D vwCl [(aV, .inr (2, [.ref aN, .ref aB, .ref aW, .int (za_bi sc)])), (aN, .inr (0, [.ref aT, .ref aC, .int ct])), (aT, .inl (cI, 96, .inl Tg)), (aW, .inl (cI, 96, .inl Uc))] H := hP
  have hl : lv_has ls 4 [(0, .ref aV), (1, .int (nI s)), (2, .int (nI t))] := hl
  have hf9 := hts _ zw_101
  have hf19 := hts _ zw_103
  refine lv_iconst (v := nI 0) hx hb zd_C_canFollow_0 (by decide) ?_
  refine lv_istore_n (lv' := [(3, .int (nI 0)), (0, .ref aV), (1, .int (nI s)), (2, .int (nI t))]) hx hb zd_C_canFollow_1 rfl hl (by decide) rfl (fun ls hl => ?_)
  have hC2 : ∀ (n2 : Nat) (i : Nat) (ls : Array Slot), 4 - i < n2 → i ≤ 4 → (∀ j, j < i → (fun x => decide ((Tg (t * 4 + x) &&& (Uc (s * 4 + x) ^^^ (-1))) = 0)) j = true) → lv_has ls 4 [(0, .ref aV), (1, .int (nI s)), (2, .int (nI t)), (3, .int (nI i))] → W p ln e zr_C_canFollow sg m args below meth c H [] 0 0 Q (F0 m 2 ls []) := by
    intro n2
    induction n2 with
    | zero => intro i ls hn2 hi_i hq hl; exact absurd hn2 (Nat.not_lt_zero _)
    | succ n2 ih2 =>
      intro i ls hn2 hi_i hq hl
      refine lv_iload_n hx hb zd_C_canFollow_2 rfl (lv_at hl 3 rfl) ?_
      refine lv_iconst (v := nI 4) hx hb zd_C_canFollow_3 (by decide) ?_
      refine lv_icmp_ge hx hb (tgt := 40) zd_C_canFollow_4 (by decide) (fun h4 => ?_) (fun h4 => ?_)
      · have h4 := za_leN h4 (by omega) (by omega)
        refine lv_iconst (v := nI 1) hx hb zd_C_canFollow_40 (by decide) ?_
        exact hret _ _ _ (za_b1 (by exact za_al_iff.mpr (fun j hj => hq j (by omega)))) zd_C_canFollow_41
      · have h4 := za_nleN h4 (by omega) (by omega)
        refine lv_aload_n hx hb zd_C_canFollow_7 rfl (lv_at hl 0 rfl) ?_
        refine va_get (D := D) (ci := 2) (v := .ref aN) (C := zs_C) (T := zt_C) (N := 4) hx hb hts zi_C hown hK hP 0 rfl rfl 0 (by decide) hf9 (fun _ h9 => h9) rfl zd_C_canFollow_8 ?_
        refine lv_iload_n hx hb zd_C_canFollow_11 rfl (lv_at hl 2 rfl) ?_
        refine lv_iload_n hx hb zd_C_canFollow_12 rfl (lv_at hl 3 rfl) ?_
        refine za_cV (As := [.int (nI t), .int (nI i)]) (rest := []) ⟨hx, hb, hml, hown, hts⟩ (zc_N_targetsOf ln D cI cZ aN aT aC ct Tg t i (by omega) (by omega)) (za_gV 2 hts zw_366 zw_173 zw_174 zw_36 zw_175 (by decide +kernel) ⟨Nat.le_of_ble_eq_true rfl, Nat.le_of_ble_eq_true rfl⟩) hK hN hP [1, 2] rfl (q0 := 1) rfl rfl hl rfl rfl (Nat.le_of_ble_eq_true rfl) zd_C_canFollow_13 ⟨Nat.le_of_ble_eq_true rfl, Nat.le_of_ble_eq_true rfl⟩ ?_
        refine lv_aload_n hx hb zd_C_canFollow_16 rfl (lv_at hl 0 rfl) ?_
        refine va_get (D := D) (ci := 2) (v := .ref aW) (C := zs_C) (T := zt_C) (N := 4) hx hb hts zi_C hown hK hP 0 rfl rfl 2 (by decide) hf19 (fun _ h9 => h9) rfl zd_C_canFollow_17 ?_
        refine lv_iload_n hx hb zd_C_canFollow_20 rfl (lv_at hl 1 rfl) ?_
        refine lv_iconst (v := nI 4) hx hb zd_C_canFollow_21 (by decide) ?_
        refine za_mulN hx hb zd_C_canFollow_22 ?_
        refine lv_iload_n hx hb zd_C_canFollow_23 rfl (lv_at hl 3 rfl) ?_
        refine za_addN hx hb zd_C_canFollow_24 ?_
        refine za_ild hx hb hK hP 3 0 rfl rfl (k := (s * 4) + i) (by omega) (by decide) zd_C_canFollow_25 ?_
        refine lv_iconst (v := (-1)) hx hb zd_C_canFollow_26 (by decide) ?_
        refine lv_ixor hx hb zd_C_canFollow_27 ?_
        refine lv_iand hx hb zd_C_canFollow_28 ?_
        refine lv_if_eq hx hb (tgt := 34) zd_C_canFollow_29 (by decide) (fun h29 => ?_) (fun h29 => ?_)
        · skip
          refine lv_iinc (k := 3) (v := nI (i + 1)) (lv' := [(3, .int (nI (i + 1))), (0, .ref aV), (1, .int (nI s)), (2, .int (nI t))]) hx hb zd_C_canFollow_34 hl rfl (za_inc _) (by decide) rfl (fun ls hl => ?_)
          refine lv_goto hx hb (tgt := 2) zd_C_canFollow_37 (by decide) ?_
          exact ih2 (i + 1) ls (by omega) (by omega) (by exact za_all_s (p := (fun x => decide ((Tg (t * 4 + x) &&& (Uc (s * 4 + x) ^^^ (-1))) = 0))) hq (decide_eq_true h29)) (lv_sub hl [1, 2, 3, 0] rfl)
        · skip
          refine lv_iconst (v := nI 0) hx hb zd_C_canFollow_32 (by decide) ?_
          exact hret _ _ _ (za_b0 (by exact za_al_f (i := i) (by omega) (decide_eq_false h29))) zd_C_canFollow_33
  exact hC2 (4 - 0 + 1) 0 ls (Nat.lt_succ_self _) (by omega) (by exact za_all_0) (lv_sub hl [1, 2, 3, 0] rfl)
def zr_C_stillBelow : Room := { frames := 2, cells := 0, slots := 0, locals := 45 }
set_option maxHeartbeats 4000000 in
set_option maxRecDepth 100000 in
theorem zc_C_stillBelow (ln : Launch) (D : va_G) (cI cZ : ClassId) (aV : Nat) (aN : Nat) (aB : Nat) (aW : Nat) (sc : Bool) (aT : Nat) (aC : Nat) (ct : Int32) (Tg : Nat → Int32) (Bl : Nat → Int32) (Uc : Nat → Int32) (s : Nat) (hs0 : s < 24) : Met ln zm_C_stillBelow (Cond.code zm_C_stillBelow zo_C_stillBelow 4 (some .int) :: zb_big) zr_C_stillBelow (za_Pr D vwCl [(cI, .int), (cZ, .boolean)] [.ref aV, .int (nI s)] [(aV, .inr (2, [.ref aN, .ref aB, .ref aW, .int (za_bi sc)])), (aN, .inr (0, [.ref aT, .ref aC, .int ct])), (aT, .inl (cI, 96, .inl Tg)), (aB, .inl (cI, 24, .inl Bl)), (aW, .inl (cI, 96, .inl Uc))]) (vp_Si (fun r => r = za_sb (Bl s) Tg Uc s)) 0 0 (fun _ => False) := by
  refine za_reader (cc := zo_C_stillBelow) (maxL := 4) (ty := .int) (by decide) (Nat.le_of_ble_eq_true rfl) (fun _ _ => rfl) ?_
  intro p e sg m args below meth c H Q hx hb hml hts hown hP hK hN hret ls hl
  have hP : va_P D vwCl [(aV, .inr (2, [.ref aN, .ref aB, .ref aW, .int (za_bi sc)])), (aN, .inr (0, [.ref aT, .ref aC, .int ct])), (aT, .inl (cI, 96, .inl Tg)), (aB, .inl (cI, 24, .inl Bl)), (aW, .inl (cI, 96, .inl Uc))] H := hP
  have hl : lv_has ls 4 [(0, .ref aV), (1, .int (nI s))] := hl
  have hf15 := hts _ zw_102
  refine lv_iconst (v := nI 0) hx hb zd_C_stillBelow_0 (by decide) ?_
  refine lv_istore_n (lv' := [(2, .int (nI 0)), (0, .ref aV), (1, .int (nI s))]) hx hb zd_C_stillBelow_1 rfl hl (by decide) rfl (fun ls hl => ?_)
  refine lv_iconst (v := nI 0) hx hb zd_C_stillBelow_2 (by decide) ?_
  refine lv_istore_n (lv' := [(3, .int (nI 0)), (2, .int (nI 0)), (0, .ref aV), (1, .int (nI s))]) hx hb zd_C_stillBelow_3 rfl hl (by decide) rfl (fun ls hl => ?_)
  have hC4 : ∀ (n4 : Nat) (i : Nat) (ls : Array Slot), 24 - i < n4 → i ≤ 24 → lv_has ls 4 [(0, .ref aV), (1, .int (nI s)), (2, .int (za_mk (fun x => bt (Bl s) x && za_foll Tg Uc s x) i)), (3, .int (nI i))] → W p ln e zr_C_stillBelow sg m args below meth c H [] 0 0 Q (F0 m 4 ls []) := by
    intro n4
    induction n4 with
    | zero => intro i ls hn4 hi_i hl; exact absurd hn4 (Nat.not_lt_zero _)
    | succ n4 ih4 =>
      intro i ls hn4 hi_i hl
      refine lv_iload_n hx hb zd_C_stillBelow_4 rfl (lv_at hl 3 rfl) ?_
      refine lv_bipush (v := nI 24) hx hb zd_C_stillBelow_5 (by decide) ?_
      refine lv_icmp_ge hx hb (tgt := 44) zd_C_stillBelow_7 (by decide) (fun h7 => ?_) (fun h7 => ?_)
      · have h7 := za_leN h7 (by omega) (by omega)
        refine lv_iload_n hx hb zd_C_stillBelow_44 rfl (lv_at hl 2 rfl) ?_
        exact hret _ _ _ (by first | with_reducible rfl | (unfold za_sb; congr 1; omega)) zd_C_stillBelow_45
      · have h7 := za_nleN h7 (by omega) (by omega)
        refine lv_aload_n hx hb zd_C_stillBelow_10 rfl (lv_at hl 0 rfl) ?_
        refine va_get (D := D) (ci := 2) (v := .ref aB) (C := zs_C) (T := zt_C) (N := 4) hx hb hts zi_C hown hK hP 0 rfl rfl 1 (by decide) hf15 (fun _ h9 => h9) rfl zd_C_stillBelow_11 ?_
        refine lv_iload_n hx hb zd_C_stillBelow_14 rfl (lv_at hl 1 rfl) ?_
        refine za_ild hx hb hK hP 3 0 rfl rfl (k := s) (by omega) (by decide) zd_C_stillBelow_15 ?_
        refine lv_iload_n hx hb zd_C_stillBelow_16 rfl (lv_at hl 3 rfl) ?_
        refine za_cSN (As := [.int (Bl s), .int (nI i)]) (rest := []) ⟨hx, hb, hml, hown, hts⟩ (zc_X_hasBit ln D cI cZ (Bl s) i (by omega)) (za_gSN 2 hts hN.2.2.1 zw_177 zw_35 zw_178 (by decide +kernel) ⟨Nat.le_of_ble_eq_true rfl, Nat.le_of_ble_eq_true rfl⟩) hK hN hP [] rfl hl rfl rfl (Nat.le_of_ble_eq_true rfl) zd_C_stillBelow_17 ⟨Nat.le_of_ble_eq_true rfl, Nat.le_of_ble_eq_true rfl⟩ ?_
        refine lv_if_eq hx hb (tgt := 38) zd_C_stillBelow_20 (by decide) (fun h20 => ?_) (fun h20 => ?_)
        · have h20 := za_bF h20
          refine lv_iinc (k := 3) (v := nI (i + 1)) (lv' := [(3, .int (nI (i + 1))), (0, .ref aV), (1, .int (nI s)), (2, .int (za_mk (fun x => bt (Bl s) x && za_foll Tg Uc s x) i))]) hx hb zd_C_stillBelow_38 hl rfl (za_inc _) (by decide) rfl (fun ls hl => ?_)
          refine lv_goto hx hb (tgt := 4) zd_C_stillBelow_41 (by decide) ?_
          have e1 : za_mk (fun x => bt (Bl s) x && za_foll Tg Uc s x) (i + 1) = za_mk (fun x => bt (Bl s) x && za_foll Tg Uc s x) i := by first | with_reducible rfl | (simp [za_mk, h7, h20])
          exact ih4 (i + 1) ls (by omega) (by omega) (by rw [e1]; exact lv_sub hl [1, 2, 3, 0] rfl)
        · have h20 := za_bT h20
          refine lv_aload_n hx hb zd_C_stillBelow_23 rfl (lv_at hl 0 rfl) ?_
          refine lv_iload_n hx hb zd_C_stillBelow_24 rfl (lv_at hl 1 rfl) ?_
          refine lv_iload_n hx hb zd_C_stillBelow_25 rfl (lv_at hl 3 rfl) ?_
          refine za_cV (As := [.int (nI s), .int (nI i)]) (rest := []) ⟨hx, hb, hml, hown, hts⟩ (zc_C_canFollow ln D cI cZ aV aN aB aW sc aT aC ct Tg Uc s i (by omega) (by omega)) (za_gV 2 hts zw_362 zw_364 zw_12 zw_38 zw_365 (by decide +kernel) ⟨Nat.le_of_ble_eq_true rfl, Nat.le_of_ble_eq_true rfl⟩) hK hN hP [0, 1, 2, 4] rfl (q0 := 0) rfl rfl hl rfl rfl (Nat.le_of_ble_eq_true rfl) zd_C_stillBelow_26 ⟨Nat.le_of_ble_eq_true rfl, Nat.le_of_ble_eq_true rfl⟩ ?_
          refine lv_if_eq hx hb (tgt := 38) zd_C_stillBelow_29 (by decide) (fun h29 => ?_) (fun h29 => ?_)
          · have h29 := za_bF h29
            refine lv_iinc (k := 3) (v := nI (i + 1)) (lv' := [(3, .int (nI (i + 1))), (0, .ref aV), (1, .int (nI s)), (2, .int (za_mk (fun x => bt (Bl s) x && za_foll Tg Uc s x) i))]) hx hb zd_C_stillBelow_38 hl rfl (za_inc _) (by decide) rfl (fun ls hl => ?_)
            refine lv_goto hx hb (tgt := 4) zd_C_stillBelow_41 (by decide) ?_
            have e1 : za_mk (fun x => bt (Bl s) x && za_foll Tg Uc s x) (i + 1) = za_mk (fun x => bt (Bl s) x && za_foll Tg Uc s x) i := by first | with_reducible rfl | (simp [za_mk, h7, h20, h29])
            exact ih4 (i + 1) ls (by omega) (by omega) (by rw [e1]; exact lv_sub hl [1, 2, 3, 0] rfl)
          · have h29 := za_bT h29
            refine lv_iload_n hx hb zd_C_stillBelow_32 rfl (lv_at hl 2 rfl) ?_
            refine lv_iconst (v := nI 1) hx hb zd_C_stillBelow_33 (by decide) ?_
            refine lv_iload_n hx hb zd_C_stillBelow_34 rfl (lv_at hl 3 rfl) ?_
            refine lv_ishl hx hb zd_C_stillBelow_35 ?_
            refine lv_ior hx hb zd_C_stillBelow_36 ?_
            refine lv_istore_n (lv' := [(2, .int ((za_mk (fun x => bt (Bl s) x && za_foll Tg Uc s x) i) ||| ((nI 1) <<< ((nI i) &&& 31)))), (0, .ref aV), (1, .int (nI s)), (3, .int (nI i))]) hx hb zd_C_stillBelow_37 rfl hl (by decide) rfl (fun ls hl => ?_)
            refine lv_iinc (k := 3) (v := nI (i + 1)) (lv' := [(3, .int (nI (i + 1))), (2, .int ((za_mk (fun x => bt (Bl s) x && za_foll Tg Uc s x) i) ||| ((nI 1) <<< ((nI i) &&& 31)))), (0, .ref aV), (1, .int (nI s))]) hx hb zd_C_stillBelow_38 hl rfl (za_inc _) (by decide) rfl (fun ls hl => ?_)
            refine lv_goto hx hb (tgt := 4) zd_C_stillBelow_41 (by decide) ?_
            have e1 : za_mk (fun x => bt (Bl s) x && za_foll Tg Uc s x) (i + 1) = ((za_mk (fun x => bt (Bl s) x && za_foll Tg Uc s x) i) ||| ((nI 1) <<< ((nI i) &&& 31))) := by first | with_reducible rfl | (simp [za_mk, h7, h20, h29])
            exact ih4 (i + 1) ls (by omega) (by omega) (by rw [e1]; exact lv_sub hl [2, 3, 1, 0] rfl)
  have e1 : za_mk (fun x => bt (Bl s) x && za_foll Tg Uc s x) 0 = nI 0 := by first | with_reducible rfl | (rfl)
  exact hC4 (24 - 0 + 1) 0 ls (Nat.lt_succ_self _) (by omega) (by rw [e1]; exact lv_sub hl [2, 3, 1, 0] rfl)
def zr_C_belowOf : Room := { frames := 0, cells := 0, slots := 0, locals := 0 }
set_option maxHeartbeats 4000000 in
set_option maxRecDepth 100000 in
theorem zc_C_belowOf (ln : Launch) (D : va_G) (cI cZ : ClassId) (aV : Nat) (aN : Nat) (aB : Nat) (aW : Nat) (sc : Bool) (Bl : Nat → Int32) (s : Nat) (hs0 : s < 24) : Met ln zm_C_belowOf (Cond.code zm_C_belowOf zo_C_belowOf 2 (some .int) :: zb_big) zr_C_belowOf (za_Pr D vwCl [(cI, .int), (cZ, .boolean)] [.ref aV, .int (nI s)] [(aV, .inr (2, [.ref aN, .ref aB, .ref aW, .int (za_bi sc)])), (aB, .inl (cI, 24, .inl Bl))]) (vp_Si (fun r => r = Bl s)) 0 0 (fun _ => False) := by
  refine za_reader (cc := zo_C_belowOf) (maxL := 2) (ty := .int) (by decide) (Nat.le_of_ble_eq_true rfl) (fun _ _ => rfl) ?_
  intro p e sg m args below meth c H Q hx hb hml hts hown hP hK hN hret ls hl
  have hP : va_P D vwCl [(aV, .inr (2, [.ref aN, .ref aB, .ref aW, .int (za_bi sc)])), (aB, .inl (cI, 24, .inl Bl))] H := hP
  have hl : lv_has ls 2 [(0, .ref aV), (1, .int (nI s))] := hl
  have hf15 := hts _ zw_102
  refine lv_aload_n hx hb zd_C_belowOf_0 rfl (lv_at hl 0 rfl) ?_
  refine va_get (D := D) (ci := 2) (v := .ref aB) (C := zs_C) (T := zt_C) (N := 4) hx hb hts zi_C hown hK hP 0 rfl rfl 1 (by decide) hf15 (fun _ h9 => h9) rfl zd_C_belowOf_1 ?_
  refine lv_iload_n hx hb zd_C_belowOf_4 rfl (lv_at hl 1 rfl) ?_
  refine za_ild hx hb hK hP 1 0 rfl rfl (k := s) (by omega) (by decide) zd_C_belowOf_5 ?_
  exact hret _ _ _ (rfl) zd_C_belowOf_6
def zr_G_isAttack : Room := { frames := 1, cells := 0, slots := 0, locals := 22 }
set_option maxHeartbeats 4000000 in
set_option maxRecDepth 100000 in
theorem zc_G_isAttack (ln : Launch) (D : va_G) (cI cZ : ClassId) (aG : Nat) (aN : Nat) (aL : Nat) (aS : Nat) (aM : Nat) (aA : Nat) (ln0 : Nat) (aT : Nat) (aC : Nat) (ct : Int32) (aR : Nat) (aU : Nat) (aK : Nat) (lr : Nat) (kc : Nat) (sd : Bool) (Tg : Nat → Int32) (Rw : Nat → Int32) (a : Nat) (b : Nat) (l : Nat) (u : Nat) (k : Nat) (ha0 : a < 24) (hb0 : b < 24) (hl0 : l < 4) (hu0 : u < 24) (hk0 : k < 24) : Met ln zm_G_isAttack (Cond.code zm_G_isAttack zo_G_isAttack 6 (some .boolean) :: zb_big) zr_G_isAttack (za_Pr D vwCl [(cI, .int), (cZ, .boolean)] [.ref aG, .int (nI a), .int (nI b), .int (nI l), .int (nI u), .int (nI k)] [(aG, .inr (3, [.ref aN, .ref aL, .ref aS, .ref aM, .ref aA, .int (nI ln0)])), (aN, .inr (0, [.ref aT, .ref aC, .int ct])), (aT, .inl (cI, 96, .inl Tg)), (aL, .inr (1, [.ref aN, .ref aR, .ref aU, .ref aK, .int (nI lr), .int (nI kc), .int (za_bi sd)])), (aR, .inl (cI, 576, .inl Rw))]) (vp_Si (fun r => r = za_bi (za_att Tg Rw a b l u k))) 0 0 (fun _ => False) := by
  refine za_reader (cc := zo_G_isAttack) (maxL := 6) (ty := .boolean) (by decide) (Nat.le_of_ble_eq_true rfl) (fun _ h => by rw [h]; exact za_nar _) ?_
  intro p e sg m args below meth c H Q hx hb hml hts hown hP hK hN hret ls hl
  have hP : va_P D vwCl [(aG, .inr (3, [.ref aN, .ref aL, .ref aS, .ref aM, .ref aA, .int (nI ln0)])), (aN, .inr (0, [.ref aT, .ref aC, .int ct])), (aT, .inl (cI, 96, .inl Tg)), (aL, .inr (1, [.ref aN, .ref aR, .ref aU, .ref aK, .int (nI lr), .int (nI kc), .int (za_bi sd)])), (aR, .inl (cI, 576, .inl Rw))] H := hP
  have hl : lv_has ls 6 [(0, .ref aG), (1, .int (nI a)), (2, .int (nI b)), (3, .int (nI l)), (4, .int (nI u)), (5, .int (nI k))] := hl
  have hf9 := hts _ zw_120
  have hf15 := hts _ zw_121
  refine lv_aload_n hx hb zd_G_isAttack_0 rfl (lv_at hl 0 rfl) ?_
  refine va_get (D := D) (ci := 3) (v := .ref aN) (C := zs_G) (T := zt_G) (N := 6) hx hb hts zi_G hown hK hP 0 rfl rfl 0 (by decide) hf9 (fun _ h9 => h9) rfl zd_G_isAttack_1 ?_
  refine lv_iload_n hx hb zd_G_isAttack_4 rfl (lv_at hl 1 rfl) ?_
  refine lv_iload_n hx hb zd_G_isAttack_5 rfl (lv_at hl 3 rfl) ?_
  refine za_cV (As := [.int (nI a), .int (nI l)]) (rest := []) ⟨hx, hb, hml, hown, hts⟩ (zc_N_targetsOf ln D cI cZ aN aT aC ct Tg a l (by omega) (by omega)) (za_gV 2 hts zw_394 zw_173 zw_174 zw_36 zw_175 (by decide +kernel) ⟨Nat.le_of_ble_eq_true rfl, Nat.le_of_ble_eq_true rfl⟩) hK hN hP [1, 2] rfl (q0 := 1) rfl rfl hl rfl rfl (Nat.le_of_ble_eq_true rfl) zd_G_isAttack_6 ⟨Nat.le_of_ble_eq_true rfl, Nat.le_of_ble_eq_true rfl⟩ ?_
  refine lv_iload hx hb zd_G_isAttack_9 (lv_at hl 4 rfl) ?_
  refine za_cSN (As := [.int (Tg (a * 4 + l)), .int (nI u)]) (rest := []) ⟨hx, hb, hml, hown, hts⟩ (zc_X_hasBit ln D cI cZ (Tg (a * 4 + l)) u (by omega)) (za_gSN 2 hts hN.2.2.2 zw_177 zw_35 zw_178 (by decide +kernel) ⟨Nat.le_of_ble_eq_true rfl, Nat.le_of_ble_eq_true rfl⟩) hK hN hP [] rfl hl rfl rfl (Nat.le_of_ble_eq_true rfl) zd_G_isAttack_11 ⟨Nat.le_of_ble_eq_true rfl, Nat.le_of_ble_eq_true rfl⟩ ?_
  refine lv_if_eq hx hb (tgt := 45) zd_G_isAttack_14 (by decide) (fun h14 => ?_) (fun h14 => ?_)
  · have h14 := za_bF h14
    refine lv_iconst (v := nI 0) hx hb zd_G_isAttack_45 (by decide) ?_
    exact hret _ _ _ (za_b0 (by simp [za_att, h14])) zd_G_isAttack_46
  · have h14 := za_bT h14
    refine lv_aload_n hx hb zd_G_isAttack_17 rfl (lv_at hl 0 rfl) ?_
    refine va_get (D := D) (ci := 3) (v := .ref aL) (C := zs_G) (T := zt_G) (N := 6) hx hb hts zi_G hown hK hP 0 rfl rfl 1 (by decide) hf15 (fun _ h9 => h9) rfl zd_G_isAttack_18 ?_
    refine lv_iload hx hb zd_G_isAttack_21 (lv_at hl 5 rfl) ?_
    refine lv_iload hx hb zd_G_isAttack_23 (lv_at hl 4 rfl) ?_
    refine za_cV (As := [.int (nI k), .int (nI u)]) (rest := []) ⟨hx, hb, hml, hown, hts⟩ (zc_L_alikeFor ln D cI cZ aL aN aR aU aK lr kc sd Rw k u (by omega) (by omega)) (za_gV 2 hts zw_396 zw_276 zw_277 zw_37 zw_278 (by decide +kernel) ⟨Nat.le_of_ble_eq_true rfl, Nat.le_of_ble_eq_true rfl⟩) hK hN hP [3, 4] rfl (q0 := 3) rfl rfl hl rfl rfl (Nat.le_of_ble_eq_true rfl) zd_G_isAttack_25 ⟨Nat.le_of_ble_eq_true rfl, Nat.le_of_ble_eq_true rfl⟩ ?_
    refine lv_aload_n hx hb zd_G_isAttack_28 rfl (lv_at hl 0 rfl) ?_
    refine va_get (D := D) (ci := 3) (v := .ref aN) (C := zs_G) (T := zt_G) (N := 6) hx hb hts zi_G hown hK hP 0 rfl rfl 0 (by decide) hf9 (fun _ h9 => h9) rfl zd_G_isAttack_29 ?_
    refine lv_iload_n hx hb zd_G_isAttack_32 rfl (lv_at hl 2 rfl) ?_
    refine lv_iload_n hx hb zd_G_isAttack_33 rfl (lv_at hl 3 rfl) ?_
    refine za_cV (As := [.int (nI b), .int (nI l)]) (rest := [.int (Rw (k * 24 + u))]) ⟨hx, hb, hml, hown, hts⟩ (zc_N_targetsOf ln D cI cZ aN aT aC ct Tg b l (by omega) (by omega)) (za_gV 2 hts zw_394 zw_173 zw_174 zw_36 zw_175 (by decide +kernel) ⟨Nat.le_of_ble_eq_true rfl, Nat.le_of_ble_eq_true rfl⟩) hK hN hP [1, 2] rfl (q0 := 1) rfl rfl hl rfl rfl (Nat.le_of_ble_eq_true rfl) zd_G_isAttack_34 ⟨Nat.le_of_ble_eq_true rfl, Nat.le_of_ble_eq_true rfl⟩ ?_
    refine lv_iand hx hb zd_G_isAttack_37 ?_
    refine lv_if_ne hx hb (tgt := 45) zd_G_isAttack_38 (by decide) (fun h38 => ?_) (fun h38 => ?_)
    · skip
      refine lv_iconst (v := nI 0) hx hb zd_G_isAttack_45 (by decide) ?_
      exact hret _ _ _ (za_b0 (by simp [za_att, h14, h38])) zd_G_isAttack_46
    · skip
      refine lv_iconst (v := nI 1) hx hb zd_G_isAttack_41 (by decide) ?_
      refine lv_goto hx hb (tgt := 46) zd_G_isAttack_42 (by decide) ?_
      exact hret _ _ _ (za_b1 (by simp [za_att, h14, h38])) zd_G_isAttack_46
def zr_L_numberKinds : Room := { frames := 2, cells := 0, slots := 0, locals := 45 }
set_option maxHeartbeats 4000000 in
set_option maxRecDepth 100000 in
theorem zc_L_numberKinds (ln : Launch) (D : va_G) (cI cZ : ClassId) (sz : Nat) (aL : Nat) (aN : Nat) (aR : Nat) (aU : Nat) (aK : Nat) (lr : Nat) (kc : Nat) (sd : Bool) (Rw : Nat → Int32) (Kd : Nat → Int32) (hr0 : lr < 24) : Met ln zm_L_numberKinds (Cond.code zm_L_numberKinds zo_L_numberKinds 3 none :: zb_big) zr_L_numberKinds (za_Pw D vwCl [(cI, .int), (cZ, .boolean)] [.ref aL] [(aL, .inr (1, [.ref aN, .ref aR, .ref aU, .ref aK, .int (nI lr), .int (nI kc), .int (za_bi sd)])), (aR, .inl (cI, 576, .inl Rw)), (aK, .inl (cI, 24, .inl Kd))] sz) (va_Qv (fun (_u : Unit) => True) (za_B D vwCl [(aL, .inr (1, [.ref aN, .ref aR, .ref aU, .ref aK, .int (nI lr), .int (nI kc), .int (za_bi sd)])), (aR, .inl (cI, 576, .inl Rw)), (aK, .inl (cI, 24, .inl Kd))] sz (fun (_u : Unit) => [(aL, .inr (1, [.ref aN, .ref aR, .ref aU, .ref aK, .int (nI lr), .int (nI ((za_nk (za_lf Rw lr) Kd 24).2)), .int (za_bi sd)])), (aR, .inl (cI, 576, .inl Rw)), (aK, .inl (cI, 24, .inl ((za_nk (za_lf Rw lr) Kd 24).1)))])) (va_A [(aL, .inr (1, [.ref aN, .ref aR, .ref aU, .ref aK, .int (nI lr), .int (nI kc), .int (za_bi sd)])), (aR, .inl (cI, 576, .inl Rw)), (aK, .inl (cI, 24, .inl Kd))] sz)) 0 0 (va_A [(aL, .inr (1, [.ref aN, .ref aR, .ref aU, .ref aK, .int (nI lr), .int (nI kc), .int (za_bi sd)])), (aR, .inl (cI, 576, .inl Rw)), (aK, .inl (cI, 24, .inl Kd))] sz) := by
  refine za_wv (cc := zo_L_numberKinds) (maxL := 3) (by decide) (Nat.le_of_ble_eq_true rfl) ?_
  intro p e sg m args below meth c H0 A Q hx hb hml hts hown hmn hP hK hN hD hA hS hret ls hl
  have hP : va_P D vwCl [(aL, .inr (1, [.ref aN, .ref aR, .ref aU, .ref aK, .int (nI lr), .int (nI kc), .int (za_bi sd)])), (aR, .inl (cI, 576, .inl Rw)), (aK, .inl (cI, 24, .inl Kd))] H0 := hP
  have hD : va_D A [(aL, .inr (1, [.ref aN, .ref aR, .ref aU, .ref aK, .int (nI lr), .int (nI kc), .int (za_bi sd)])), (aR, .inl (cI, 576, .inl Rw)), (aK, .inl (cI, 24, .inl Kd))] := hD
  have hl : lv_has ls 3 [(0, .ref aL)] := hl
  have hf61 := hts _ zw_78
  have hf22 := hts _ zw_76
  refine lv_aload_n hx hb zd_L_numberKinds_0 rfl (lv_at hl 0 rfl) ?_
  refine lv_iconst (v := nI 0) hx hb zd_L_numberKinds_1 (by decide) ?_
  refine va_put (D := D) (ci := 1) (v := .int (nI 0)) (ty := .int) (C := zs_L) (T := zt_L) (N := 7) hx hb hts zi_L zy_L zk_L zn_L hown hK hP hD hS 0 rfl rfl 5 (by decide) hf61 (fun _ h9 => h9) rfl (by decide +kernel) rfl rfl (Nat.le_of_ble_eq_true rfl) zd_L_numberKinds_2 (fun H locs hP hD hS => ?_)
  have hP : va_P D vwCl [(aL, .inr (1, [.ref aN, .ref aR, .ref aU, .ref aK, .int (nI lr), .int (nI 0), .int (za_bi sd)])), (aR, .inl (cI, 576, .inl Rw)), (aK, .inl (cI, 24, .inl Kd))] H := hP
  have hD : va_D A [(aL, .inr (1, [.ref aN, .ref aR, .ref aU, .ref aK, .int (nI lr), .int (nI 0), .int (za_bi sd)])), (aR, .inl (cI, 576, .inl Rw)), (aK, .inl (cI, 24, .inl Kd))] := hD
  refine lv_iconst (v := nI 0) hx hb zd_L_numberKinds_5 (by decide) ?_
  refine lv_istore_n (lv' := [(1, .int (nI 0)), (0, .ref aL)]) hx hb zd_L_numberKinds_6 rfl hl (by decide) rfl (fun ls hl => ?_)
  have hC7 : ∀ (n7 : Nat) (i : Nat) (ls : Array Slot) (H : Heap) (locs : List Loc), 24 - i < n7 → i ≤ 24 → lv_has ls 3 [(0, .ref aL), (1, .int (nI i))] → va_P D vwCl [(aL, .inr (1, [.ref aN, .ref aR, .ref aU, .ref aK, .int (nI lr), .int (nI ((za_nk (za_lf Rw lr) Kd i).2)), .int (za_bi sd)])), (aR, .inl (cI, 576, .inl Rw)), (aK, .inl (cI, 24, .inl ((za_nk (za_lf Rw lr) Kd i).1)))] H → va_D A [(aL, .inr (1, [.ref aN, .ref aR, .ref aU, .ref aK, .int (nI lr), .int (nI ((za_nk (za_lf Rw lr) Kd i).2)), .int (za_bi sd)])), (aR, .inl (cI, 576, .inl Rw)), (aK, .inl (cI, 24, .inl ((za_nk (za_lf Rw lr) Kd i).1)))] → va_S A H0 H locs → W p ln e zr_L_numberKinds sg m args below meth c H locs 0 0 Q (F0 m 7 ls []) := by
    intro n7
    induction n7 with
    | zero => intro i ls H locs hn7 hi_i hl hP hD hS; exact absurd hn7 (Nat.not_lt_zero _)
    | succ n7 ih7 =>
      intro i ls H locs hn7 hi_i hl hP hD hS
      refine lv_iload_n hx hb zd_L_numberKinds_7 rfl (lv_at hl 1 rfl) ?_
      refine lv_bipush (v := nI 24) hx hb zd_L_numberKinds_8 (by decide) ?_
      refine lv_icmp_ge hx hb (tgt := 65) zd_L_numberKinds_10 (by decide) (fun h10 => ?_) (fun h10 => ?_)
      · have h10 := za_leN h10 (by omega) (by omega)
        have e1 : nI ((za_nk (za_lf Rw lr) Kd 24).2) = nI ((za_nk (za_lf Rw lr) Kd i).2) := by first | with_reducible rfl | (rw [show i = 24 by omega])
        have e2 : (za_nk (za_lf Rw lr) Kd 24).1 = (za_nk (za_lf Rw lr) Kd i).1 := by first | with_reducible rfl | (rw [show i = 24 by omega])
        have hP9 : va_P D vwCl [(aL, .inr (1, [.ref aN, .ref aR, .ref aU, .ref aK, .int (nI lr), .int (nI ((za_nk (za_lf Rw lr) Kd 24).2)), .int (za_bi sd)])), (aR, .inl (cI, 576, .inl Rw)), (aK, .inl (cI, 24, .inl ((za_nk (za_lf Rw lr) Kd 24).1)))] H := by rw [e1, e2]; exact hP
        have hD9 : va_D A [(aL, .inr (1, [.ref aN, .ref aR, .ref aU, .ref aK, .int (nI lr), .int (nI ((za_nk (za_lf Rw lr) Kd 24).2)), .int (za_bi sd)])), (aR, .inl (cI, 576, .inl Rw)), (aK, .inl (cI, 24, .inl ((za_nk (za_lf Rw lr) Kd 24).1)))] := by rw [e1, e2]; exact hD
        exact hret () _ _ _ _ (trivial) hP9 hD9 hS zd_L_numberKinds_65
      · have h10 := za_nleN h10 (by omega) (by omega)
        refine lv_aload_n hx hb zd_L_numberKinds_13 rfl (lv_at hl 0 rfl) ?_
        refine lv_iload_n hx hb zd_L_numberKinds_14 rfl (lv_at hl 1 rfl) ?_
        refine za_cV (As := [.int (nI i)]) (rest := []) ⟨hx, hb, hml, hown, hts⟩ (zc_L_leastAlike ln D cI cZ aL aN aR aU aK lr ((za_nk (za_lf Rw lr) Kd i).2) sd Rw i (by omega) (by omega)) (za_gV 1 hts zw_271 zw_273 zw_7 zw_37 zw_274 (by decide +kernel) ⟨Nat.le_of_ble_eq_true rfl, Nat.le_of_ble_eq_true rfl⟩) hK hN hP [0, 1] rfl (q0 := 0) rfl rfl hl rfl rfl (Nat.le_of_ble_eq_true rfl) zd_L_numberKinds_15 ⟨Nat.le_of_ble_eq_true rfl, Nat.le_of_ble_eq_true rfl⟩ ?_
        have hle := za_fi_le (fun x => !bt (Rw (lr * 24 + i)) x) i
        have hle : za_lf Rw lr i ≤ i := hle
        refine lv_istore_n (lv' := [(2, .int (nI (za_lf Rw lr i))), (0, .ref aL), (1, .int (nI i))]) hx hb zd_L_numberKinds_18 rfl hl (by decide) rfl (fun ls hl => ?_)
        refine lv_iload_n hx hb zd_L_numberKinds_19 rfl (lv_at hl 0 rfl) ?_
        refine lv_iload_n hx hb zd_L_numberKinds_20 rfl (lv_at hl 2 rfl) ?_
        refine lv_icmp_ne hx hb (tgt := 47) zd_L_numberKinds_21 (by decide) (fun h21 => ?_) (fun h21 => ?_)
        · have h21 := za_neN h21
          refine lv_aload_n hx hb zd_L_numberKinds_47 rfl (lv_at hl 1 rfl) ?_
          refine va_get (D := D) (ci := 1) (v := .ref aK) (C := zs_L) (T := zt_L) (N := 7) hx hb hts zi_L hown hK hP 0 rfl rfl 3 (by decide) hf22 (fun _ h9 => h9) rfl zd_L_numberKinds_48 ?_
          refine lv_iload_n hx hb zd_L_numberKinds_51 rfl (lv_at hl 2 rfl) ?_
          refine lv_aload_n hx hb zd_L_numberKinds_52 rfl (lv_at hl 1 rfl) ?_
          refine va_get (D := D) (ci := 1) (v := .ref aK) (C := zs_L) (T := zt_L) (N := 7) hx hb hts zi_L hown hK hP 0 rfl rfl 3 (by decide) hf22 (fun _ h9 => h9) rfl zd_L_numberKinds_53 ?_
          refine lv_iload_n hx hb zd_L_numberKinds_56 rfl (lv_at hl 0 rfl) ?_
          refine za_ild hx hb hK hP 2 0 rfl rfl (k := za_lf Rw lr i) (by omega) (by decide) zd_L_numberKinds_57 ?_
          refine za_ist hx hb hK hP hD hS 2 0 rfl rfl (k := i) (by omega) (by decide) zd_L_numberKinds_58 (fun H locs hP hD hS => ?_)
          have hP : va_P D vwCl [(aL, .inr (1, [.ref aN, .ref aR, .ref aU, .ref aK, .int (nI lr), .int (nI ((za_nk (za_lf Rw lr) Kd i).2)), .int (za_bi sd)])), (aR, .inl (cI, 576, .inl Rw)), (aK, .inl (cI, 24, .inl (upd ((za_nk (za_lf Rw lr) Kd i).1) i (((za_nk (za_lf Rw lr) Kd i).1) (za_lf Rw lr i)))))] H := hP
          have hD : va_D A [(aL, .inr (1, [.ref aN, .ref aR, .ref aU, .ref aK, .int (nI lr), .int (nI ((za_nk (za_lf Rw lr) Kd i).2)), .int (za_bi sd)])), (aR, .inl (cI, 576, .inl Rw)), (aK, .inl (cI, 24, .inl (upd ((za_nk (za_lf Rw lr) Kd i).1) i (((za_nk (za_lf Rw lr) Kd i).1) (za_lf Rw lr i)))))] := hD
          refine lv_iinc (k := 2) (v := nI (i + 1)) (lv' := [(1, .int (nI (i + 1))), (2, .int (nI (za_lf Rw lr i))), (0, .ref aL)]) hx hb zd_L_numberKinds_59 hl rfl (za_inc _) (by decide) rfl (fun ls hl => ?_)
          refine lv_goto hx hb (tgt := 7) zd_L_numberKinds_62 (by decide) ?_
          have e1 : nI ((za_nk (za_lf Rw lr) Kd (i + 1)).2) = nI ((za_nk (za_lf Rw lr) Kd i).2) := by first | with_reducible rfl | (first | rw [za_nk_t (La := za_lf Rw lr) h21] | rw [za_nk_f (La := za_lf Rw lr) h21])
          have e2 : (za_nk (za_lf Rw lr) Kd (i + 1)).1 = upd ((za_nk (za_lf Rw lr) Kd i).1) i (((za_nk (za_lf Rw lr) Kd i).1) (za_lf Rw lr i)) := by first | with_reducible rfl | (first | rw [za_nk_t (La := za_lf Rw lr) h21] | rw [za_nk_f (La := za_lf Rw lr) h21])
          exact ih7 (i + 1) ls H locs (by omega) (by omega) (lv_sub hl [2, 0] rfl) (by rw [e1, e2]; exact hP) (by rw [e1, e2]; exact hD) hS
        · have h21 := za_eqN h21 (by omega) (by omega)
          refine lv_aload_n hx hb zd_L_numberKinds_24 rfl (lv_at hl 1 rfl) ?_
          refine va_get (D := D) (ci := 1) (v := .ref aK) (C := zs_L) (T := zt_L) (N := 7) hx hb hts zi_L hown hK hP 0 rfl rfl 3 (by decide) hf22 (fun _ h9 => h9) rfl zd_L_numberKinds_25 ?_
          refine lv_iload_n hx hb zd_L_numberKinds_28 rfl (lv_at hl 2 rfl) ?_
          refine lv_aload_n hx hb zd_L_numberKinds_29 rfl (lv_at hl 1 rfl) ?_
          refine va_get (D := D) (ci := 1) (v := .int (nI ((za_nk (za_lf Rw lr) Kd i).2))) (C := zs_L) (T := zt_L) (N := 7) hx hb hts zi_L hown hK hP 0 rfl rfl 5 (by decide) hf61 (fun _ h9 => h9) rfl zd_L_numberKinds_30 ?_
          refine za_ist hx hb hK hP hD hS 2 0 rfl rfl (k := i) (by omega) (by decide) zd_L_numberKinds_33 (fun H locs hP hD hS => ?_)
          have hP : va_P D vwCl [(aL, .inr (1, [.ref aN, .ref aR, .ref aU, .ref aK, .int (nI lr), .int (nI ((za_nk (za_lf Rw lr) Kd i).2)), .int (za_bi sd)])), (aR, .inl (cI, 576, .inl Rw)), (aK, .inl (cI, 24, .inl (upd ((za_nk (za_lf Rw lr) Kd i).1) i (nI ((za_nk (za_lf Rw lr) Kd i).2)))))] H := hP
          have hD : va_D A [(aL, .inr (1, [.ref aN, .ref aR, .ref aU, .ref aK, .int (nI lr), .int (nI ((za_nk (za_lf Rw lr) Kd i).2)), .int (za_bi sd)])), (aR, .inl (cI, 576, .inl Rw)), (aK, .inl (cI, 24, .inl (upd ((za_nk (za_lf Rw lr) Kd i).1) i (nI ((za_nk (za_lf Rw lr) Kd i).2)))))] := hD
          refine lv_aload_n hx hb zd_L_numberKinds_34 rfl (lv_at hl 1 rfl) ?_
          refine lv_dup hx hb zd_L_numberKinds_35 rfl ?_
          refine va_get (D := D) (ci := 1) (v := .int (nI ((za_nk (za_lf Rw lr) Kd i).2))) (C := zs_L) (T := zt_L) (N := 7) hx hb hts zi_L hown hK hP 0 rfl rfl 5 (by decide) hf61 (fun _ h9 => h9) rfl zd_L_numberKinds_36 ?_
          refine lv_iconst (v := nI 1) hx hb zd_L_numberKinds_39 (by decide) ?_
          refine za_addN hx hb zd_L_numberKinds_40 ?_
          refine va_put (D := D) (ci := 1) (v := .int (nI (((za_nk (za_lf Rw lr) Kd i).2) + 1))) (ty := .int) (C := zs_L) (T := zt_L) (N := 7) hx hb hts zi_L zy_L zk_L zn_L hown hK hP hD hS 0 rfl rfl 5 (by decide) hf61 (fun _ h9 => h9) rfl (by decide +kernel) rfl rfl (Nat.le_of_ble_eq_true rfl) zd_L_numberKinds_41 (fun H locs hP hD hS => ?_)
          have hP : va_P D vwCl [(aL, .inr (1, [.ref aN, .ref aR, .ref aU, .ref aK, .int (nI lr), .int (nI (((za_nk (za_lf Rw lr) Kd i).2) + 1)), .int (za_bi sd)])), (aR, .inl (cI, 576, .inl Rw)), (aK, .inl (cI, 24, .inl (upd ((za_nk (za_lf Rw lr) Kd i).1) i (nI ((za_nk (za_lf Rw lr) Kd i).2)))))] H := hP
          have hD : va_D A [(aL, .inr (1, [.ref aN, .ref aR, .ref aU, .ref aK, .int (nI lr), .int (nI (((za_nk (za_lf Rw lr) Kd i).2) + 1)), .int (za_bi sd)])), (aR, .inl (cI, 576, .inl Rw)), (aK, .inl (cI, 24, .inl (upd ((za_nk (za_lf Rw lr) Kd i).1) i (nI ((za_nk (za_lf Rw lr) Kd i).2)))))] := hD
          refine lv_goto hx hb (tgt := 59) zd_L_numberKinds_44 (by decide) ?_
          refine lv_iinc (k := 2) (v := nI (i + 1)) (lv' := [(1, .int (nI (i + 1))), (2, .int (nI (za_lf Rw lr i))), (0, .ref aL)]) hx hb zd_L_numberKinds_59 hl rfl (za_inc _) (by decide) rfl (fun ls hl => ?_)
          refine lv_goto hx hb (tgt := 7) zd_L_numberKinds_62 (by decide) ?_
          have e1 : nI ((za_nk (za_lf Rw lr) Kd (i + 1)).2) = nI (((za_nk (za_lf Rw lr) Kd i).2) + 1) := by first | with_reducible rfl | (first | rw [za_nk_t (La := za_lf Rw lr) h21] | rw [za_nk_f (La := za_lf Rw lr) h21])
          have e2 : (za_nk (za_lf Rw lr) Kd (i + 1)).1 = upd ((za_nk (za_lf Rw lr) Kd i).1) i (nI ((za_nk (za_lf Rw lr) Kd i).2)) := by first | with_reducible rfl | (first | rw [za_nk_t (La := za_lf Rw lr) h21] | rw [za_nk_f (La := za_lf Rw lr) h21])
          exact ih7 (i + 1) ls H locs (by omega) (by omega) (lv_sub hl [2, 0] rfl) (by rw [e1, e2]; exact hP) (by rw [e1, e2]; exact hD) hS
  have e1 : nI ((za_nk (za_lf Rw lr) Kd 0).2) = nI 0 := by first | with_reducible rfl | (rw [za_nk0])
  have e2 : (za_nk (za_lf Rw lr) Kd 0).1 = Kd := by first | with_reducible rfl | (rw [za_nk0])
  exact hC7 (24 - 0 + 1) 0 ls H locs (Nat.lt_succ_self _) (by omega) (lv_sub hl [1, 0] rfl) (by rw [e1, e2]; exact hP) (by rw [e1, e2]; exact hD) hS
def zr_L_partsMore : Room := { frames := 3, cells := 0, slots := 0, locals := 69 }
set_option maxHeartbeats 4000000 in
set_option maxRecDepth 100000 in
theorem zc_L_partsMore (ln : Launch) (D : va_G) (cI cZ : ClassId) (sz : Nat) (aL : Nat) (aN : Nat) (aR : Nat) (aU : Nat) (aK : Nat) (lr : Nat) (kc : Nat) (sd : Bool) (aT : Nat) (aC : Nat) (ct : Int32) (Tg : Nat → Int32) (Rw : Nat → Int32) (Un : Nat → Int32) (k : Nat) (hk1 : 1 ≤ k) (hk0 : k < 24) : Met ln zm_L_partsMore (Cond.code zm_L_partsMore zo_L_partsMore 6 (some .boolean) :: zb_big) zr_L_partsMore (za_Pw D vwCl [(cI, .int), (cZ, .boolean)] [.ref aL, .int (nI k)] [(aL, .inr (1, [.ref aN, .ref aR, .ref aU, .ref aK, .int (nI lr), .int (nI kc), .int (za_bi sd)])), (aR, .inl (cI, 576, .inl Rw)), (aU, .inl (cI, 96, .inl Un)), (aN, .inr (0, [.ref aT, .ref aC, .int ct])), (aT, .inl (cI, 96, .inl Tg))] sz) (va_Qi (fun (r : Int32) (_u : Unit) => r = za_bi (za_ex (za_pd Tg Rw Un k) 24)) (za_B D vwCl [(aL, .inr (1, [.ref aN, .ref aR, .ref aU, .ref aK, .int (nI lr), .int (nI kc), .int (za_bi sd)])), (aR, .inl (cI, 576, .inl Rw)), (aU, .inl (cI, 96, .inl Un)), (aN, .inr (0, [.ref aT, .ref aC, .int ct])), (aT, .inl (cI, 96, .inl Tg))] sz (fun (_u : Unit) => [(aL, .inr (1, [.ref aN, .ref aR, .ref aU, .ref aK, .int (nI lr), .int (nI kc), .int (za_bi sd)])), (aR, .inl (cI, 576, .inl (za_of (za_pr Tg Rw Un k) Rw (k * 24) 24))), (aU, .inl (cI, 96, .inl (za_ua Tg Rw ((k - 1) * 24) Un))), (aN, .inr (0, [.ref aT, .ref aC, .int ct])), (aT, .inl (cI, 96, .inl Tg))])) (va_A [(aL, .inr (1, [.ref aN, .ref aR, .ref aU, .ref aK, .int (nI lr), .int (nI kc), .int (za_bi sd)])), (aR, .inl (cI, 576, .inl Rw)), (aU, .inl (cI, 96, .inl Un)), (aN, .inr (0, [.ref aT, .ref aC, .int ct])), (aT, .inl (cI, 96, .inl Tg))] sz)) 0 0 (va_A [(aL, .inr (1, [.ref aN, .ref aR, .ref aU, .ref aK, .int (nI lr), .int (nI kc), .int (za_bi sd)])), (aR, .inl (cI, 576, .inl Rw)), (aU, .inl (cI, 96, .inl Un)), (aN, .inr (0, [.ref aT, .ref aC, .int ct])), (aT, .inl (cI, 96, .inl Tg))] sz) := by
  refine za_wi (cc := zo_L_partsMore) (maxL := 6) (ty := .boolean) (by decide) (Nat.le_of_ble_eq_true rfl) (fun _ _ h => by rw [h]; exact za_nar _) ?_
  intro p e sg m args below meth c H0 A Q hx hb hml hts hown hmn hP hK hN hD hA hS hret ls hl
  have hP : va_P D vwCl [(aL, .inr (1, [.ref aN, .ref aR, .ref aU, .ref aK, .int (nI lr), .int (nI kc), .int (za_bi sd)])), (aR, .inl (cI, 576, .inl Rw)), (aU, .inl (cI, 96, .inl Un)), (aN, .inr (0, [.ref aT, .ref aC, .int ct])), (aT, .inl (cI, 96, .inl Tg))] H0 := hP
  have hD : va_D A [(aL, .inr (1, [.ref aN, .ref aR, .ref aU, .ref aK, .int (nI lr), .int (nI kc), .int (za_bi sd)])), (aR, .inl (cI, 576, .inl Rw)), (aU, .inl (cI, 96, .inl Un)), (aN, .inr (0, [.ref aT, .ref aC, .int ct])), (aT, .inl (cI, 96, .inl Tg))] := hD
  have hl : lv_has ls 6 [(0, .ref aL), (1, .int (nI k))] := hl
  have hf9 := hts _ zw_73
  have hf15 := hts _ zw_74
  have hf19 := hts _ zw_75
  refine lv_iload_n hx hb zd_L_partsMore_0 rfl (lv_at hl 1 rfl) ?_
  refine lv_iconst (v := nI 1) hx hb zd_L_partsMore_1 (by decide) ?_
  refine za_subN hx hb (by omega) zd_L_partsMore_2 ?_
  refine lv_bipush (v := nI 24) hx hb zd_L_partsMore_3 (by decide) ?_
  refine za_mulN hx hb zd_L_partsMore_5 ?_
  refine lv_istore_n (lv' := [(2, .int (nI ((k - 1) * 24))), (0, .ref aL), (1, .int (nI k))]) hx hb zd_L_partsMore_6 rfl hl (by decide) rfl (fun ls hl => ?_)
  refine lv_aload_n hx hb zd_L_partsMore_7 rfl (lv_at hl 1 rfl) ?_
  refine va_get (D := D) (ci := 1) (v := .ref aN) (C := zs_L) (T := zt_L) (N := 7) hx hb hts zi_L hown hK hP 0 rfl rfl 0 (by decide) hf9 (fun _ h9 => h9) rfl zd_L_partsMore_8 ?_
  refine lv_aload_n hx hb zd_L_partsMore_11 rfl (lv_at hl 1 rfl) ?_
  refine va_get (D := D) (ci := 1) (v := .ref aR) (C := zs_L) (T := zt_L) (N := 7) hx hb hts zi_L hown hK hP 0 rfl rfl 1 (by decide) hf15 (fun _ h9 => h9) rfl zd_L_partsMore_12 ?_
  refine lv_iload_n hx hb zd_L_partsMore_15 rfl (lv_at hl 0 rfl) ?_
  refine lv_aload_n hx hb zd_L_partsMore_16 rfl (lv_at hl 1 rfl) ?_
  refine va_get (D := D) (ci := 1) (v := .ref aU) (C := zs_L) (T := zt_L) (N := 7) hx hb hts zi_L hown hK hP 0 rfl rfl 2 (by decide) hf19 (fun _ h9 => h9) rfl zd_L_partsMore_17 ?_
  refine za_wVv (As := [.ref aR, .int (nI ((k - 1) * 24)), .ref aU]) (rest := []) (wr := [(aL, .inr (1, [.ref aN, .ref aR, .ref aU, .ref aK, .int (nI lr), .int (nI kc), .int (za_bi sd)]))]) (wz := (fun _ => [(aL, .inr (1, [.ref aN, .ref aR, .ref aU, .ref aK, .int (nI lr), .int (nI kc), .int (za_bi sd)])), (aR, .inl (cI, 576, .inl Rw)), (aU, .inl (cI, 96, .inl (za_ua Tg Rw ((k - 1) * 24) Un))), (aN, .inr (0, [.ref aT, .ref aC, .int ct])), (aT, .inl (cI, 96, .inl Tg))])) ⟨hx, hb, hml, hown, hts⟩ (zc_N_unite ln D cI cZ _ aN aT aC ct Tg aR 576 Rw ((k - 1) * 24) aU Un (by omega) (by omega)) (za_gV 3 hts zw_251 zw_252 zw_253 zw_36 zw_254 (by decide +kernel) ⟨Nat.le_of_ble_eq_true rfl, Nat.le_of_ble_eq_true rfl⟩) hK hN hP hD hS hA [3, 4, 1, 2] [0] [0, 3, 4, 1, 2] rfl rfl (by decide) (by decide) (by decide) (by decide) (fun _ => rfl) (q0 := 3) rfl rfl hl rfl rfl (Nat.le_of_ble_eq_true rfl) zd_L_partsMore_20 ⟨Nat.le_of_ble_eq_true rfl, Nat.le_of_ble_eq_true rfl⟩ (fun u20 H locs hq20 hP hD hS => ?_)
  have hP : va_P D vwCl [(aL, .inr (1, [.ref aN, .ref aR, .ref aU, .ref aK, .int (nI lr), .int (nI kc), .int (za_bi sd)])), (aR, .inl (cI, 576, .inl Rw)), (aU, .inl (cI, 96, .inl (za_ua Tg Rw ((k - 1) * 24) Un))), (aN, .inr (0, [.ref aT, .ref aC, .int ct])), (aT, .inl (cI, 96, .inl Tg))] H := hP
  have hD : va_D A [(aL, .inr (1, [.ref aN, .ref aR, .ref aU, .ref aK, .int (nI lr), .int (nI kc), .int (za_bi sd)])), (aR, .inl (cI, 576, .inl Rw)), (aU, .inl (cI, 96, .inl (za_ua Tg Rw ((k - 1) * 24) Un))), (aN, .inr (0, [.ref aT, .ref aC, .int ct])), (aT, .inl (cI, 96, .inl Tg))] := hD
  refine lv_iconst (v := nI 0) hx hb zd_L_partsMore_23 (by decide) ?_
  refine lv_istore_n (lv' := [(3, .int (nI 0)), (2, .int (nI ((k - 1) * 24))), (0, .ref aL), (1, .int (nI k))]) hx hb zd_L_partsMore_24 rfl hl (by decide) rfl (fun ls hl => ?_)
  refine lv_iconst (v := nI 0) hx hb zd_L_partsMore_25 (by decide) ?_
  refine lv_istore (lv' := [(4, .int (nI 0)), (3, .int (nI 0)), (2, .int (nI ((k - 1) * 24))), (0, .ref aL), (1, .int (nI k))]) hx hb zd_L_partsMore_26 hl (by decide) rfl (fun ls hl => ?_)
  have hC28 : ∀ (n28 : Nat) (y : Nat) (ls : Array Slot) (H : Heap) (locs : List Loc), 24 - y < n28 → y ≤ 24 → lv_has ls 6 [(0, .ref aL), (1, .int (nI k)), (2, .int (nI ((k - 1) * 24))), (3, .int (za_bi (za_ex (za_pd Tg Rw Un k) y))), (4, .int (nI y))] → va_P D vwCl [(aL, .inr (1, [.ref aN, .ref aR, .ref aU, .ref aK, .int (nI lr), .int (nI kc), .int (za_bi sd)])), (aR, .inl (cI, 576, .inl (za_of (za_pr Tg Rw Un k) Rw (k * 24) y))), (aU, .inl (cI, 96, .inl (za_ua Tg Rw ((k - 1) * 24) Un))), (aN, .inr (0, [.ref aT, .ref aC, .int ct])), (aT, .inl (cI, 96, .inl Tg))] H → va_D A [(aL, .inr (1, [.ref aN, .ref aR, .ref aU, .ref aK, .int (nI lr), .int (nI kc), .int (za_bi sd)])), (aR, .inl (cI, 576, .inl (za_of (za_pr Tg Rw Un k) Rw (k * 24) y))), (aU, .inl (cI, 96, .inl (za_ua Tg Rw ((k - 1) * 24) Un))), (aN, .inr (0, [.ref aT, .ref aC, .int ct])), (aT, .inl (cI, 96, .inl Tg))] → va_S A H0 H locs → W p ln e zr_L_partsMore sg m args below meth c H locs 0 0 Q (F0 m 28 ls []) := by
    intro n28
    induction n28 with
    | zero => intro y ls H locs hn28 hi_y hl hP hD hS; exact absurd hn28 (Nat.not_lt_zero _)
    | succ n28 ih28 =>
      intro y ls H locs hn28 hi_y hl hP hD hS
      refine lv_iload hx hb zd_L_partsMore_28 (lv_at hl 4 rfl) ?_
      refine lv_bipush (v := nI 24) hx hb zd_L_partsMore_30 (by decide) ?_
      refine lv_icmp_ge hx hb (tgt := 94) zd_L_partsMore_32 (by decide) (fun h32 => ?_) (fun h32 => ?_)
      · have h32 := za_leN h32 (by omega) (by omega)
        refine lv_iload_n hx hb zd_L_partsMore_94 rfl (lv_at hl 3 rfl) ?_
        have e1 : za_of (za_pr Tg Rw Un k) Rw (k * 24) 24 = za_of (za_pr Tg Rw Un k) Rw (k * 24) y := by first | with_reducible rfl | (rw [show y = 24 by omega])
        have hP9 : va_P D vwCl [(aL, .inr (1, [.ref aN, .ref aR, .ref aU, .ref aK, .int (nI lr), .int (nI kc), .int (za_bi sd)])), (aR, .inl (cI, 576, .inl (za_of (za_pr Tg Rw Un k) Rw (k * 24) 24))), (aU, .inl (cI, 96, .inl (za_ua Tg Rw ((k - 1) * 24) Un))), (aN, .inr (0, [.ref aT, .ref aC, .int ct])), (aT, .inl (cI, 96, .inl Tg))] H := by rw [e1]; exact hP
        have hD9 : va_D A [(aL, .inr (1, [.ref aN, .ref aR, .ref aU, .ref aK, .int (nI lr), .int (nI kc), .int (za_bi sd)])), (aR, .inl (cI, 576, .inl (za_of (za_pr Tg Rw Un k) Rw (k * 24) 24))), (aU, .inl (cI, 96, .inl (za_ua Tg Rw ((k - 1) * 24) Un))), (aN, .inr (0, [.ref aT, .ref aC, .int ct])), (aT, .inl (cI, 96, .inl Tg))] := by rw [e1]; exact hD
        exact hret _ () _ _ _ _ (by first | with_reducible rfl | (rw [show y = 24 by omega])) hP9 hD9 hS zd_L_partsMore_95
      · have h32 := za_nleN h32 (by omega) (by omega)
        refine lv_aload_n hx hb zd_L_partsMore_35 rfl (lv_at hl 0 rfl) ?_
        refine lv_iload hx hb zd_L_partsMore_36 (lv_at hl 4 rfl) ?_
        refine lv_aload_n hx hb zd_L_partsMore_38 rfl (lv_at hl 0 rfl) ?_
        refine va_get (D := D) (ci := 1) (v := .ref aR) (C := zs_L) (T := zt_L) (N := 7) hx hb hts zi_L hown hK hP 0 rfl rfl 1 (by decide) hf15 (fun _ h9 => h9) rfl zd_L_partsMore_39 ?_
        refine lv_iload_n hx hb zd_L_partsMore_42 rfl (lv_at hl 2 rfl) ?_
        refine lv_iload hx hb zd_L_partsMore_43 (lv_at hl 4 rfl) ?_
        refine za_addN hx hb zd_L_partsMore_45 ?_
        refine za_ild hx hb hK hP 1 0 rfl rfl (k := ((k - 1) * 24) + y) (by omega) (by decide) zd_L_partsMore_46 ?_
        refine za_eqi (y := Rw ((k - 1) * 24 + y)) (za_of_lo (by omega)) ?_
        refine za_cV (As := [.int (nI y), .int (Rw ((k - 1) * 24 + y))]) (rest := []) ⟨hx, hb, hml, hown, hts⟩ (zc_L_stillAlike ln D cI cZ aL aN aR aU aK lr kc sd (za_ua Tg Rw ((k - 1) * 24) Un) y (Rw ((k - 1) * 24 + y)) (by omega)) (za_gV 2 hts zw_258 zw_260 zw_4 zw_37 zw_261 (by decide +kernel) ⟨Nat.le_of_ble_eq_true rfl, Nat.le_of_ble_eq_true rfl⟩) hK hN hP [0, 2] rfl (q0 := 0) rfl rfl hl rfl rfl (Nat.le_of_ble_eq_true rfl) zd_L_partsMore_47 ⟨Nat.le_of_ble_eq_true rfl, Nat.le_of_ble_eq_true rfl⟩ ?_
        refine za_eqi (y := za_pr Tg Rw Un k y) (rfl) ?_
        refine lv_istore (lv' := [(5, .int (za_pr Tg Rw Un k y)), (0, .ref aL), (1, .int (nI k)), (2, .int (nI ((k - 1) * 24))), (3, .int (za_bi (za_ex (za_pd Tg Rw Un k) y))), (4, .int (nI y))]) hx hb zd_L_partsMore_50 hl (by decide) rfl (fun ls hl => ?_)
        refine lv_aload_n hx hb zd_L_partsMore_52 rfl (lv_at hl 1 rfl) ?_
        refine va_get (D := D) (ci := 1) (v := .ref aR) (C := zs_L) (T := zt_L) (N := 7) hx hb hts zi_L hown hK hP 0 rfl rfl 1 (by decide) hf15 (fun _ h9 => h9) rfl zd_L_partsMore_53 ?_
        refine lv_iload_n hx hb zd_L_partsMore_56 rfl (lv_at hl 2 rfl) ?_
        refine lv_bipush (v := nI 24) hx hb zd_L_partsMore_57 (by decide) ?_
        refine za_mulN hx hb zd_L_partsMore_59 ?_
        refine lv_iload hx hb zd_L_partsMore_60 (lv_at hl 5 rfl) ?_
        refine za_addN hx hb zd_L_partsMore_62 ?_
        refine lv_iload hx hb zd_L_partsMore_63 (lv_at hl 0 rfl) ?_
        refine za_ist hx hb hK hP hD hS 1 0 rfl rfl (k := (k * 24) + y) (by omega) (by decide) zd_L_partsMore_65 (fun H locs hP hD hS => ?_)
        have hP : va_P D vwCl [(aL, .inr (1, [.ref aN, .ref aR, .ref aU, .ref aK, .int (nI lr), .int (nI kc), .int (za_bi sd)])), (aR, .inl (cI, 576, .inl (upd (za_of (za_pr Tg Rw Un k) Rw (k * 24) y) ((k * 24) + y) (za_pr Tg Rw Un k y)))), (aU, .inl (cI, 96, .inl (za_ua Tg Rw ((k - 1) * 24) Un))), (aN, .inr (0, [.ref aT, .ref aC, .int ct])), (aT, .inl (cI, 96, .inl Tg))] H := hP
        have hD : va_D A [(aL, .inr (1, [.ref aN, .ref aR, .ref aU, .ref aK, .int (nI lr), .int (nI kc), .int (za_bi sd)])), (aR, .inl (cI, 576, .inl (upd (za_of (za_pr Tg Rw Un k) Rw (k * 24) y) ((k * 24) + y) (za_pr Tg Rw Un k y)))), (aU, .inl (cI, 96, .inl (za_ua Tg Rw ((k - 1) * 24) Un))), (aN, .inr (0, [.ref aT, .ref aC, .int ct])), (aT, .inl (cI, 96, .inl Tg))] := hD
        refine lv_iload_n hx hb zd_L_partsMore_66 rfl (lv_at hl 4 rfl) ?_
        refine lv_iload hx hb zd_L_partsMore_67 (lv_at hl 0 rfl) ?_
        refine lv_aload_n hx hb zd_L_partsMore_69 rfl (lv_at hl 1 rfl) ?_
        refine va_get (D := D) (ci := 1) (v := .ref aR) (C := zs_L) (T := zt_L) (N := 7) hx hb hts zi_L hown hK hP 0 rfl rfl 1 (by decide) hf15 (fun _ h9 => h9) rfl zd_L_partsMore_70 ?_
        refine lv_iload_n hx hb zd_L_partsMore_73 rfl (lv_at hl 3 rfl) ?_
        refine lv_iload hx hb zd_L_partsMore_74 (lv_at hl 5 rfl) ?_
        refine za_addN hx hb zd_L_partsMore_76 ?_
        refine za_ild hx hb hK hP 1 0 rfl rfl (k := ((k - 1) * 24) + y) (by omega) (by decide) zd_L_partsMore_77 ?_
        refine za_eqi (y := Rw ((k - 1) * 24 + y)) (za_of_lo2 (by omega)) ?_
        refine lv_icmp_eq hx hb (tgt := 85) zd_L_partsMore_78 (by decide) (fun h78 => ?_) (fun h78 => ?_)
        · skip
          refine lv_iconst (v := nI 0) hx hb zd_L_partsMore_85 (by decide) ?_
          refine za_eqi (y := za_bi false) rfl ?_
          refine lv_ior hx hb zd_L_partsMore_86 ?_
          refine za_eqi (za_bor _ _) ?_
          refine lv_istore_n (lv' := [(3, .int (za_bi ((za_ex (za_pd Tg Rw Un k) y) || false))), (5, .int (za_pr Tg Rw Un k y)), (0, .ref aL), (1, .int (nI k)), (2, .int (nI ((k - 1) * 24))), (4, .int (nI y))]) hx hb zd_L_partsMore_87 rfl hl (by decide) rfl (fun ls hl => ?_)
          refine lv_iinc (k := 5) (v := nI (y + 1)) (lv' := [(4, .int (nI (y + 1))), (3, .int (za_bi ((za_ex (za_pd Tg Rw Un k) y) || false))), (5, .int (za_pr Tg Rw Un k y)), (0, .ref aL), (1, .int (nI k)), (2, .int (nI ((k - 1) * 24)))]) hx hb zd_L_partsMore_88 hl rfl (za_inc _) (by decide) rfl (fun ls hl => ?_)
          refine lv_goto hx hb (tgt := 28) zd_L_partsMore_91 (by decide) ?_
          have e1 : za_bi (za_ex (za_pd Tg Rw Un k) (y + 1)) = za_bi ((za_ex (za_pd Tg Rw Un k) y) || false) := by first | with_reducible rfl | (first | exact za_ofU rfl | simp [za_ex, za_pd, h78])
          have e2 : za_of (za_pr Tg Rw Un k) Rw (k * 24) (y + 1) = upd (za_of (za_pr Tg Rw Un k) Rw (k * 24) y) ((k * 24) + y) (za_pr Tg Rw Un k y) := by first | with_reducible rfl | (first | exact za_ofU rfl | simp [za_ex, za_pd, h78])
          exact ih28 (y + 1) ls H locs (by omega) (by omega) (by rw [e1]; exact lv_sub hl [3, 4, 5, 1, 0] rfl) (by rw [e2]; exact hP) (by rw [e2]; exact hD) hS
        · skip
          refine lv_iconst (v := nI 1) hx hb zd_L_partsMore_81 (by decide) ?_
          refine lv_goto hx hb (tgt := 86) zd_L_partsMore_82 (by decide) ?_
          refine za_eqi (y := za_bi true) rfl ?_
          refine lv_ior hx hb zd_L_partsMore_86 ?_
          refine za_eqi (za_bor _ _) ?_
          refine lv_istore_n (lv' := [(3, .int (za_bi ((za_ex (za_pd Tg Rw Un k) y) || true))), (5, .int (za_pr Tg Rw Un k y)), (0, .ref aL), (1, .int (nI k)), (2, .int (nI ((k - 1) * 24))), (4, .int (nI y))]) hx hb zd_L_partsMore_87 rfl hl (by decide) rfl (fun ls hl => ?_)
          refine lv_iinc (k := 5) (v := nI (y + 1)) (lv' := [(4, .int (nI (y + 1))), (3, .int (za_bi ((za_ex (za_pd Tg Rw Un k) y) || true))), (5, .int (za_pr Tg Rw Un k y)), (0, .ref aL), (1, .int (nI k)), (2, .int (nI ((k - 1) * 24)))]) hx hb zd_L_partsMore_88 hl rfl (za_inc _) (by decide) rfl (fun ls hl => ?_)
          refine lv_goto hx hb (tgt := 28) zd_L_partsMore_91 (by decide) ?_
          have e1 : za_bi (za_ex (za_pd Tg Rw Un k) (y + 1)) = za_bi ((za_ex (za_pd Tg Rw Un k) y) || true) := by first | with_reducible rfl | (first | exact za_ofU rfl | simp [za_ex, za_pd, h78])
          have e2 : za_of (za_pr Tg Rw Un k) Rw (k * 24) (y + 1) = upd (za_of (za_pr Tg Rw Un k) Rw (k * 24) y) ((k * 24) + y) (za_pr Tg Rw Un k y) := by first | with_reducible rfl | (first | exact za_ofU rfl | simp [za_ex, za_pd, h78])
          exact ih28 (y + 1) ls H locs (by omega) (by omega) (by rw [e1]; exact lv_sub hl [3, 4, 5, 1, 0] rfl) (by rw [e2]; exact hP) (by rw [e2]; exact hD) hS
  have e1 : za_bi (za_ex (za_pd Tg Rw Un k) 0) = nI 0 := by first | with_reducible rfl | (first | rfl | exact za_of0 _ _ _)
  have e2 : za_of (za_pr Tg Rw Un k) Rw (k * 24) 0 = Rw := by first | with_reducible rfl | (first | rfl | exact za_of0 _ _ _)
  exact hC28 (24 - 0 + 1) 0 ls H locs (Nat.lt_succ_self _) (by omega) (by rw [e1]; exact lv_sub hl [3, 4, 2, 1, 0] rfl) (by rw [e2]; exact hP) (by rw [e2]; exact hD) hS
def zr_C_shrinks : Room := { frames := 3, cells := 0, slots := 0, locals := 69 }
set_option maxHeartbeats 4000000 in
set_option maxRecDepth 100000 in
theorem zc_C_shrinks (ln : Launch) (D : va_G) (cI cZ : ClassId) (sz : Nat) (aV : Nat) (aN : Nat) (aB : Nat) (aW : Nat) (sc : Bool) (aT : Nat) (aC : Nat) (ct : Int32) (Tg : Nat → Int32) (Bl : Nat → Int32) (Uc : Nat → Int32) : Met ln zm_C_shrinks (Cond.code zm_C_shrinks zo_C_shrinks 4 (some .boolean) :: zb_big) zr_C_shrinks (za_Pw D vwCl [(cI, .int), (cZ, .boolean)] [.ref aV] [(aV, .inr (2, [.ref aN, .ref aB, .ref aW, .int (za_bi sc)])), (aB, .inl (cI, 24, .inl Bl)), (aW, .inl (cI, 96, .inl Uc)), (aN, .inr (0, [.ref aT, .ref aC, .int ct])), (aT, .inl (cI, 96, .inl Tg))] sz) (va_Qi (fun (r : Int32) (_u : Unit) => r = za_bi (za_ex (za_cd Tg Bl Uc) 24)) (za_B D vwCl [(aV, .inr (2, [.ref aN, .ref aB, .ref aW, .int (za_bi sc)])), (aB, .inl (cI, 24, .inl Bl)), (aW, .inl (cI, 96, .inl Uc)), (aN, .inr (0, [.ref aT, .ref aC, .int ct])), (aT, .inl (cI, 96, .inl Tg))] sz (fun (_u : Unit) => [(aV, .inr (2, [.ref aN, .ref aB, .ref aW, .int (za_bi sc)])), (aB, .inl (cI, 24, .inl (za_fl (za_cb Tg Bl Uc) Bl 24))), (aW, .inl (cI, 96, .inl (za_ua Tg Bl 0 Uc))), (aN, .inr (0, [.ref aT, .ref aC, .int ct])), (aT, .inl (cI, 96, .inl Tg))])) (va_A [(aV, .inr (2, [.ref aN, .ref aB, .ref aW, .int (za_bi sc)])), (aB, .inl (cI, 24, .inl Bl)), (aW, .inl (cI, 96, .inl Uc)), (aN, .inr (0, [.ref aT, .ref aC, .int ct])), (aT, .inl (cI, 96, .inl Tg))] sz)) 0 0 (va_A [(aV, .inr (2, [.ref aN, .ref aB, .ref aW, .int (za_bi sc)])), (aB, .inl (cI, 24, .inl Bl)), (aW, .inl (cI, 96, .inl Uc)), (aN, .inr (0, [.ref aT, .ref aC, .int ct])), (aT, .inl (cI, 96, .inl Tg))] sz) := by
  refine za_wi (cc := zo_C_shrinks) (maxL := 4) (ty := .boolean) (by decide) (Nat.le_of_ble_eq_true rfl) (fun _ _ h => by rw [h]; exact za_nar _) ?_
  intro p e sg m args below meth c H0 A Q hx hb hml hts hown hmn hP hK hN hD hA hS hret ls hl
  have hP : va_P D vwCl [(aV, .inr (2, [.ref aN, .ref aB, .ref aW, .int (za_bi sc)])), (aB, .inl (cI, 24, .inl Bl)), (aW, .inl (cI, 96, .inl Uc)), (aN, .inr (0, [.ref aT, .ref aC, .int ct])), (aT, .inl (cI, 96, .inl Tg))] H0 := hP
  have hD : va_D A [(aV, .inr (2, [.ref aN, .ref aB, .ref aW, .int (za_bi sc)])), (aB, .inl (cI, 24, .inl Bl)), (aW, .inl (cI, 96, .inl Uc)), (aN, .inr (0, [.ref aT, .ref aC, .int ct])), (aT, .inl (cI, 96, .inl Tg))] := hD
  have hl : lv_has ls 4 [(0, .ref aV)] := hl
  have hf9 := hts _ zw_101
  have hf15 := hts _ zw_102
  have hf19 := hts _ zw_103
  refine lv_aload_n hx hb zd_C_shrinks_0 rfl (lv_at hl 0 rfl) ?_
  refine va_get (D := D) (ci := 2) (v := .ref aN) (C := zs_C) (T := zt_C) (N := 4) hx hb hts zi_C hown hK hP 0 rfl rfl 0 (by decide) hf9 (fun _ h9 => h9) rfl zd_C_shrinks_1 ?_
  refine lv_aload_n hx hb zd_C_shrinks_4 rfl (lv_at hl 0 rfl) ?_
  refine va_get (D := D) (ci := 2) (v := .ref aB) (C := zs_C) (T := zt_C) (N := 4) hx hb hts zi_C hown hK hP 0 rfl rfl 1 (by decide) hf15 (fun _ h9 => h9) rfl zd_C_shrinks_5 ?_
  refine lv_iconst (v := nI 0) hx hb zd_C_shrinks_8 (by decide) ?_
  refine lv_aload_n hx hb zd_C_shrinks_9 rfl (lv_at hl 0 rfl) ?_
  refine va_get (D := D) (ci := 2) (v := .ref aW) (C := zs_C) (T := zt_C) (N := 4) hx hb hts zi_C hown hK hP 0 rfl rfl 2 (by decide) hf19 (fun _ h9 => h9) rfl zd_C_shrinks_10 ?_
  refine za_wVv (As := [.ref aB, .int (nI 0), .ref aW]) (rest := []) (wr := [(aV, .inr (2, [.ref aN, .ref aB, .ref aW, .int (za_bi sc)]))]) (wz := (fun _ => [(aV, .inr (2, [.ref aN, .ref aB, .ref aW, .int (za_bi sc)])), (aB, .inl (cI, 24, .inl Bl)), (aW, .inl (cI, 96, .inl (za_ua Tg Bl 0 Uc))), (aN, .inr (0, [.ref aT, .ref aC, .int ct])), (aT, .inl (cI, 96, .inl Tg))])) ⟨hx, hb, hml, hown, hts⟩ (zc_N_unite ln D cI cZ _ aN aT aC ct Tg aB 24 Bl 0 aW Uc (by omega) (by omega)) (za_gV 3 hts zw_356 zw_252 zw_253 zw_36 zw_254 (by decide +kernel) ⟨Nat.le_of_ble_eq_true rfl, Nat.le_of_ble_eq_true rfl⟩) hK hN hP hD hS hA [3, 4, 1, 2] [0] [0, 3, 4, 1, 2] rfl rfl (by decide) (by decide) (by decide) (by decide) (fun _ => rfl) (q0 := 3) rfl rfl hl rfl rfl (Nat.le_of_ble_eq_true rfl) zd_C_shrinks_13 ⟨Nat.le_of_ble_eq_true rfl, Nat.le_of_ble_eq_true rfl⟩ (fun u13 H locs hq13 hP hD hS => ?_)
  have hP : va_P D vwCl [(aV, .inr (2, [.ref aN, .ref aB, .ref aW, .int (za_bi sc)])), (aB, .inl (cI, 24, .inl Bl)), (aW, .inl (cI, 96, .inl (za_ua Tg Bl 0 Uc))), (aN, .inr (0, [.ref aT, .ref aC, .int ct])), (aT, .inl (cI, 96, .inl Tg))] H := hP
  have hD : va_D A [(aV, .inr (2, [.ref aN, .ref aB, .ref aW, .int (za_bi sc)])), (aB, .inl (cI, 24, .inl Bl)), (aW, .inl (cI, 96, .inl (za_ua Tg Bl 0 Uc))), (aN, .inr (0, [.ref aT, .ref aC, .int ct])), (aT, .inl (cI, 96, .inl Tg))] := hD
  refine lv_iconst (v := nI 0) hx hb zd_C_shrinks_16 (by decide) ?_
  refine lv_istore_n (lv' := [(1, .int (nI 0)), (0, .ref aV)]) hx hb zd_C_shrinks_17 rfl hl (by decide) rfl (fun ls hl => ?_)
  refine lv_iconst (v := nI 0) hx hb zd_C_shrinks_18 (by decide) ?_
  refine lv_istore_n (lv' := [(2, .int (nI 0)), (1, .int (nI 0)), (0, .ref aV)]) hx hb zd_C_shrinks_19 rfl hl (by decide) rfl (fun ls hl => ?_)
  have hC20 : ∀ (n20 : Nat) (y : Nat) (ls : Array Slot) (H : Heap) (locs : List Loc), 24 - y < n20 → y ≤ 24 → lv_has ls 4 [(0, .ref aV), (1, .int (za_bi (za_ex (za_cd Tg Bl Uc) y))), (2, .int (nI y))] → va_P D vwCl [(aV, .inr (2, [.ref aN, .ref aB, .ref aW, .int (za_bi sc)])), (aB, .inl (cI, 24, .inl (za_fl (za_cb Tg Bl Uc) Bl y))), (aW, .inl (cI, 96, .inl (za_ua Tg Bl 0 Uc))), (aN, .inr (0, [.ref aT, .ref aC, .int ct])), (aT, .inl (cI, 96, .inl Tg))] H → va_D A [(aV, .inr (2, [.ref aN, .ref aB, .ref aW, .int (za_bi sc)])), (aB, .inl (cI, 24, .inl (za_fl (za_cb Tg Bl Uc) Bl y))), (aW, .inl (cI, 96, .inl (za_ua Tg Bl 0 Uc))), (aN, .inr (0, [.ref aT, .ref aC, .int ct])), (aT, .inl (cI, 96, .inl Tg))] → va_S A H0 H locs → W p ln e zr_C_shrinks sg m args below meth c H locs 0 0 Q (F0 m 20 ls []) := by
    intro n20
    induction n20 with
    | zero => intro y ls H locs hn20 hi_y hl hP hD hS; exact absurd hn20 (Nat.not_lt_zero _)
    | succ n20 ih20 =>
      intro y ls H locs hn20 hi_y hl hP hD hS
      refine lv_iload_n hx hb zd_C_shrinks_20 rfl (lv_at hl 2 rfl) ?_
      refine lv_bipush (v := nI 24) hx hb zd_C_shrinks_21 (by decide) ?_
      refine lv_icmp_ge hx hb (tgt := 63) zd_C_shrinks_23 (by decide) (fun h23 => ?_) (fun h23 => ?_)
      · have h23 := za_leN h23 (by omega) (by omega)
        refine lv_iload_n hx hb zd_C_shrinks_63 rfl (lv_at hl 1 rfl) ?_
        have e1 : za_fl (za_cb Tg Bl Uc) Bl 24 = za_fl (za_cb Tg Bl Uc) Bl y := by first | with_reducible rfl | (rw [show y = 24 by omega])
        have hP9 : va_P D vwCl [(aV, .inr (2, [.ref aN, .ref aB, .ref aW, .int (za_bi sc)])), (aB, .inl (cI, 24, .inl (za_fl (za_cb Tg Bl Uc) Bl 24))), (aW, .inl (cI, 96, .inl (za_ua Tg Bl 0 Uc))), (aN, .inr (0, [.ref aT, .ref aC, .int ct])), (aT, .inl (cI, 96, .inl Tg))] H := by rw [e1]; exact hP
        have hD9 : va_D A [(aV, .inr (2, [.ref aN, .ref aB, .ref aW, .int (za_bi sc)])), (aB, .inl (cI, 24, .inl (za_fl (za_cb Tg Bl Uc) Bl 24))), (aW, .inl (cI, 96, .inl (za_ua Tg Bl 0 Uc))), (aN, .inr (0, [.ref aT, .ref aC, .int ct])), (aT, .inl (cI, 96, .inl Tg))] := by rw [e1]; exact hD
        exact hret _ () _ _ _ _ (by first | with_reducible rfl | (rw [show y = 24 by omega])) hP9 hD9 hS zd_C_shrinks_64
      · have h23 := za_nleN h23 (by omega) (by omega)
        refine lv_aload_n hx hb zd_C_shrinks_26 rfl (lv_at hl 0 rfl) ?_
        refine lv_iload_n hx hb zd_C_shrinks_27 rfl (lv_at hl 2 rfl) ?_
        refine za_cV (As := [.int (nI y)]) (rest := []) ⟨hx, hb, hml, hown, hts⟩ (zc_C_stillBelow ln D cI cZ aV aN aB aW sc aT aC ct Tg (za_fl (za_cb Tg Bl Uc) Bl y) (za_ua Tg Bl 0 Uc) y (by omega)) (za_gV 1 hts zw_357 zw_359 zw_11 zw_38 zw_360 (by decide +kernel) ⟨Nat.le_of_ble_eq_true rfl, Nat.le_of_ble_eq_true rfl⟩) hK hN hP [0, 3, 4, 1, 2] rfl (q0 := 0) rfl rfl hl rfl rfl (Nat.le_of_ble_eq_true rfl) zd_C_shrinks_28 ⟨Nat.le_of_ble_eq_true rfl, Nat.le_of_ble_eq_true rfl⟩ ?_
        refine za_eqi (y := za_cb Tg Bl Uc y) (by rw [za_fl_ge (Nat.le_refl _)]; rfl) ?_
        refine lv_istore_n (lv' := [(3, .int (za_cb Tg Bl Uc y)), (0, .ref aV), (1, .int (za_bi (za_ex (za_cd Tg Bl Uc) y))), (2, .int (nI y))]) hx hb zd_C_shrinks_31 rfl hl (by decide) rfl (fun ls hl => ?_)
        refine lv_iload_n hx hb zd_C_shrinks_32 rfl (lv_at hl 2 rfl) ?_
        refine lv_iload_n hx hb zd_C_shrinks_33 rfl (lv_at hl 0 rfl) ?_
        refine lv_aload_n hx hb zd_C_shrinks_34 rfl (lv_at hl 1 rfl) ?_
        refine va_get (D := D) (ci := 2) (v := .ref aB) (C := zs_C) (T := zt_C) (N := 4) hx hb hts zi_C hown hK hP 0 rfl rfl 1 (by decide) hf15 (fun _ h9 => h9) rfl zd_C_shrinks_35 ?_
        refine lv_iload_n hx hb zd_C_shrinks_38 rfl (lv_at hl 3 rfl) ?_
        refine za_ild hx hb hK hP 1 0 rfl rfl (k := y) (by omega) (by decide) zd_C_shrinks_39 ?_
        refine za_eqi (y := Bl y) (za_fl_ge (Nat.le_refl _)) ?_
        refine lv_icmp_eq hx hb (tgt := 47) zd_C_shrinks_40 (by decide) (fun h40 => ?_) (fun h40 => ?_)
        · skip
          refine lv_iconst (v := nI 0) hx hb zd_C_shrinks_47 (by decide) ?_
          refine za_eqi (y := za_bi false) rfl ?_
          refine lv_ior hx hb zd_C_shrinks_48 ?_
          refine za_eqi (za_bor _ _) ?_
          refine lv_istore_n (lv' := [(1, .int (za_bi ((za_ex (za_cd Tg Bl Uc) y) || false))), (3, .int (za_cb Tg Bl Uc y)), (0, .ref aV), (2, .int (nI y))]) hx hb zd_C_shrinks_49 rfl hl (by decide) rfl (fun ls hl => ?_)
          refine lv_aload_n hx hb zd_C_shrinks_50 rfl (lv_at hl 2 rfl) ?_
          refine va_get (D := D) (ci := 2) (v := .ref aB) (C := zs_C) (T := zt_C) (N := 4) hx hb hts zi_C hown hK hP 0 rfl rfl 1 (by decide) hf15 (fun _ h9 => h9) rfl zd_C_shrinks_51 ?_
          refine lv_iload_n hx hb zd_C_shrinks_54 rfl (lv_at hl 3 rfl) ?_
          refine lv_iload_n hx hb zd_C_shrinks_55 rfl (lv_at hl 1 rfl) ?_
          refine za_ist hx hb hK hP hD hS 1 0 rfl rfl (k := y) (by omega) (by decide) zd_C_shrinks_56 (fun H locs hP hD hS => ?_)
          have hP : va_P D vwCl [(aV, .inr (2, [.ref aN, .ref aB, .ref aW, .int (za_bi sc)])), (aB, .inl (cI, 24, .inl (upd (za_fl (za_cb Tg Bl Uc) Bl y) y (za_cb Tg Bl Uc y)))), (aW, .inl (cI, 96, .inl (za_ua Tg Bl 0 Uc))), (aN, .inr (0, [.ref aT, .ref aC, .int ct])), (aT, .inl (cI, 96, .inl Tg))] H := hP
          have hD : va_D A [(aV, .inr (2, [.ref aN, .ref aB, .ref aW, .int (za_bi sc)])), (aB, .inl (cI, 24, .inl (upd (za_fl (za_cb Tg Bl Uc) Bl y) y (za_cb Tg Bl Uc y)))), (aW, .inl (cI, 96, .inl (za_ua Tg Bl 0 Uc))), (aN, .inr (0, [.ref aT, .ref aC, .int ct])), (aT, .inl (cI, 96, .inl Tg))] := hD
          refine lv_iinc (k := 3) (v := nI (y + 1)) (lv' := [(2, .int (nI (y + 1))), (1, .int (za_bi ((za_ex (za_cd Tg Bl Uc) y) || false))), (3, .int (za_cb Tg Bl Uc y)), (0, .ref aV)]) hx hb zd_C_shrinks_57 hl rfl (za_inc _) (by decide) rfl (fun ls hl => ?_)
          refine lv_goto hx hb (tgt := 20) zd_C_shrinks_60 (by decide) ?_
          have e1 : za_bi (za_ex (za_cd Tg Bl Uc) (y + 1)) = za_bi ((za_ex (za_cd Tg Bl Uc) y) || false) := by first | with_reducible rfl | (first | exact za_flU rfl | simp [za_ex, za_cd, h40])
          have e2 : za_fl (za_cb Tg Bl Uc) Bl (y + 1) = upd (za_fl (za_cb Tg Bl Uc) Bl y) y (za_cb Tg Bl Uc y) := by first | with_reducible rfl | (first | exact za_flU rfl | simp [za_ex, za_cd, h40])
          exact ih20 (y + 1) ls H locs (by omega) (by omega) (by rw [e1]; exact lv_sub hl [3, 1, 0] rfl) (by rw [e2]; exact hP) (by rw [e2]; exact hD) hS
        · skip
          refine lv_iconst (v := nI 1) hx hb zd_C_shrinks_43 (by decide) ?_
          refine lv_goto hx hb (tgt := 48) zd_C_shrinks_44 (by decide) ?_
          refine za_eqi (y := za_bi true) rfl ?_
          refine lv_ior hx hb zd_C_shrinks_48 ?_
          refine za_eqi (za_bor _ _) ?_
          refine lv_istore_n (lv' := [(1, .int (za_bi ((za_ex (za_cd Tg Bl Uc) y) || true))), (3, .int (za_cb Tg Bl Uc y)), (0, .ref aV), (2, .int (nI y))]) hx hb zd_C_shrinks_49 rfl hl (by decide) rfl (fun ls hl => ?_)
          refine lv_aload_n hx hb zd_C_shrinks_50 rfl (lv_at hl 2 rfl) ?_
          refine va_get (D := D) (ci := 2) (v := .ref aB) (C := zs_C) (T := zt_C) (N := 4) hx hb hts zi_C hown hK hP 0 rfl rfl 1 (by decide) hf15 (fun _ h9 => h9) rfl zd_C_shrinks_51 ?_
          refine lv_iload_n hx hb zd_C_shrinks_54 rfl (lv_at hl 3 rfl) ?_
          refine lv_iload_n hx hb zd_C_shrinks_55 rfl (lv_at hl 1 rfl) ?_
          refine za_ist hx hb hK hP hD hS 1 0 rfl rfl (k := y) (by omega) (by decide) zd_C_shrinks_56 (fun H locs hP hD hS => ?_)
          have hP : va_P D vwCl [(aV, .inr (2, [.ref aN, .ref aB, .ref aW, .int (za_bi sc)])), (aB, .inl (cI, 24, .inl (upd (za_fl (za_cb Tg Bl Uc) Bl y) y (za_cb Tg Bl Uc y)))), (aW, .inl (cI, 96, .inl (za_ua Tg Bl 0 Uc))), (aN, .inr (0, [.ref aT, .ref aC, .int ct])), (aT, .inl (cI, 96, .inl Tg))] H := hP
          have hD : va_D A [(aV, .inr (2, [.ref aN, .ref aB, .ref aW, .int (za_bi sc)])), (aB, .inl (cI, 24, .inl (upd (za_fl (za_cb Tg Bl Uc) Bl y) y (za_cb Tg Bl Uc y)))), (aW, .inl (cI, 96, .inl (za_ua Tg Bl 0 Uc))), (aN, .inr (0, [.ref aT, .ref aC, .int ct])), (aT, .inl (cI, 96, .inl Tg))] := hD
          refine lv_iinc (k := 3) (v := nI (y + 1)) (lv' := [(2, .int (nI (y + 1))), (1, .int (za_bi ((za_ex (za_cd Tg Bl Uc) y) || true))), (3, .int (za_cb Tg Bl Uc y)), (0, .ref aV)]) hx hb zd_C_shrinks_57 hl rfl (za_inc _) (by decide) rfl (fun ls hl => ?_)
          refine lv_goto hx hb (tgt := 20) zd_C_shrinks_60 (by decide) ?_
          have e1 : za_bi (za_ex (za_cd Tg Bl Uc) (y + 1)) = za_bi ((za_ex (za_cd Tg Bl Uc) y) || true) := by first | with_reducible rfl | (first | exact za_flU rfl | simp [za_ex, za_cd, h40])
          have e2 : za_fl (za_cb Tg Bl Uc) Bl (y + 1) = upd (za_fl (za_cb Tg Bl Uc) Bl y) y (za_cb Tg Bl Uc y) := by first | with_reducible rfl | (first | exact za_flU rfl | simp [za_ex, za_cd, h40])
          exact ih20 (y + 1) ls H locs (by omega) (by omega) (by rw [e1]; exact lv_sub hl [3, 1, 0] rfl) (by rw [e2]; exact hP) (by rw [e2]; exact hD) hS
  have e1 : za_bi (za_ex (za_cd Tg Bl Uc) 0) = nI 0 := by first | with_reducible rfl | (first | rfl | exact za_fl0 _ _)
  have e2 : za_fl (za_cb Tg Bl Uc) Bl 0 = Bl := by first | with_reducible rfl | (first | rfl | exact za_fl0 _ _)
  exact hC20 (24 - 0 + 1) 0 ls H locs (Nat.lt_succ_self _) (by omega) (by rw [e1]; exact lv_sub hl [2, 1, 0] rfl) (by rw [e2]; exact hP) (by rw [e2]; exact hD) hS
def zr_G_firstOf : Room := { frames := 2, cells := 0, slots := 0, locals := 47 }
set_option maxHeartbeats 4000000 in
set_option maxRecDepth 100000 in
theorem zc_G_firstOf (ln : Launch) (D : va_G) (cI cZ : ClassId) (aG : Nat) (aN : Nat) (aL : Nat) (aS : Nat) (aM : Nat) (aA : Nat) (ln0 : Nat) (aT : Nat) (aC : Nat) (ct : Int32) (aR : Nat) (aU : Nat) (aK : Nat) (lr : Nat) (kc : Nat) (sd : Bool) (Tg : Nat → Int32) (Rw : Nat → Int32) (a : Nat) (b : Nat) (k : Nat) (ha0 : a < 24) (hb0 : b < 24) (hk0 : k < 24) : Met ln zm_G_firstOf (Cond.code zm_G_firstOf zo_G_firstOf 6 (some .int) :: zb_big) zr_G_firstOf (za_Pr D vwCl [(cI, .int), (cZ, .boolean)] [.ref aG, .int (nI a), .int (nI b), .int (nI k)] [(aG, .inr (3, [.ref aN, .ref aL, .ref aS, .ref aM, .ref aA, .int (nI ln0)])), (aN, .inr (0, [.ref aT, .ref aC, .int ct])), (aT, .inl (cI, 96, .inl Tg)), (aL, .inr (1, [.ref aN, .ref aR, .ref aU, .ref aK, .int (nI lr), .int (nI kc), .int (za_bi sd)])), (aR, .inl (cI, 576, .inl Rw))]) (vp_Si (fun r => r = za_fo Tg Rw a b k)) 0 0 (fun _ => False) := by
  refine za_reader (cc := zo_G_firstOf) (maxL := 6) (ty := .int) (by decide) (Nat.le_of_ble_eq_true rfl) (fun _ _ => rfl) ?_
  intro p e sg m args below meth c H Q hx hb hml hts hown hP hK hN hret ls hl
  have hP : va_P D vwCl [(aG, .inr (3, [.ref aN, .ref aL, .ref aS, .ref aM, .ref aA, .int (nI ln0)])), (aN, .inr (0, [.ref aT, .ref aC, .int ct])), (aT, .inl (cI, 96, .inl Tg)), (aL, .inr (1, [.ref aN, .ref aR, .ref aU, .ref aK, .int (nI lr), .int (nI kc), .int (za_bi sd)])), (aR, .inl (cI, 576, .inl Rw))] H := hP
  have hl : lv_has ls 6 [(0, .ref aG), (1, .int (nI a)), (2, .int (nI b)), (3, .int (nI k))] := hl
  refine lv_iconst (v := nI 0) hx hb zd_G_firstOf_0 (by decide) ?_
  refine lv_istore (lv' := [(4, .int (nI 0)), (0, .ref aG), (1, .int (nI a)), (2, .int (nI b)), (3, .int (nI k))]) hx hb zd_G_firstOf_1 hl (by decide) rfl (fun ls hl => ?_)
  have hC3 : ∀ (n3 : Nat) (l : Nat) (ls : Array Slot), 4 - l < n3 → l ≤ 4 → (∀ j, j < l * 24 → (fun x => !za_atm Tg Rw a b k x) j = true) → lv_has ls 6 [(0, .ref aG), (1, .int (nI a)), (2, .int (nI b)), (3, .int (nI k)), (4, .int (nI l))] → W p ln e zr_G_firstOf sg m args below meth c H [] 0 0 Q (F0 m 3 ls []) := by
    intro n3
    induction n3 with
    | zero => intro l ls hn3 hi_l hq hl; exact absurd hn3 (Nat.not_lt_zero _)
    | succ n3 ih3 =>
      intro l ls hn3 hi_l hq hl
      refine lv_iload hx hb zd_G_firstOf_3 (lv_at hl 4 rfl) ?_
      refine lv_iconst (v := nI 4) hx hb zd_G_firstOf_5 (by decide) ?_
      refine lv_icmp_ge hx hb (tgt := 54) zd_G_firstOf_6 (by decide) (fun h6 => ?_) (fun h6 => ?_)
      · have h6 := za_leN h6 (by omega) (by omega)
        refine lv_iconst (v := (-1)) hx hb zd_G_firstOf_54 (by decide) ?_
        exact hret _ _ _ (by first | with_reducible rfl | (exact za_fo_no (fun j hj => hq j (by omega)))) zd_G_firstOf_55
      · have h6 := za_nleN h6 (by omega) (by omega)
        refine lv_iconst (v := nI 0) hx hb zd_G_firstOf_9 (by decide) ?_
        refine lv_istore (lv' := [(5, .int (nI 0)), (0, .ref aG), (1, .int (nI a)), (2, .int (nI b)), (3, .int (nI k)), (4, .int (nI l))]) hx hb zd_G_firstOf_10 hl (by decide) rfl (fun ls hl => ?_)
        have hC12 : ∀ (n12 : Nat) (u : Nat) (ls : Array Slot), 24 - u < n12 → u ≤ 24 → (∀ j, j < l * 24 + u → (fun x => !za_atm Tg Rw a b k x) j = true) → lv_has ls 6 [(0, .ref aG), (1, .int (nI a)), (2, .int (nI b)), (3, .int (nI k)), (4, .int (nI l)), (5, .int (nI u))] → W p ln e zr_G_firstOf sg m args below meth c H [] 0 0 Q (F0 m 12 ls []) := by
          intro n12
          induction n12 with
          | zero => intro u ls hn12 hi_u hq2 hl; exact absurd hn12 (Nat.not_lt_zero _)
          | succ n12 ih12 =>
            intro u ls hn12 hi_u hq2 hl
            refine lv_iload hx hb zd_G_firstOf_12 (lv_at hl 5 rfl) ?_
            refine lv_bipush (v := nI 24) hx hb zd_G_firstOf_14 (by decide) ?_
            refine lv_icmp_ge hx hb (tgt := 48) zd_G_firstOf_16 (by decide) (fun h16 => ?_) (fun h16 => ?_)
            · have h16 := za_leN h16 (by omega) (by omega)
              refine lv_iinc (k := 4) (v := nI (l + 1)) (lv' := [(4, .int (nI (l + 1))), (0, .ref aG), (1, .int (nI a)), (2, .int (nI b)), (3, .int (nI k)), (5, .int (nI u))]) hx hb zd_G_firstOf_48 hl rfl (za_inc _) (by decide) rfl (fun ls hl => ?_)
              refine lv_goto hx hb (tgt := 3) zd_G_firstOf_51 (by decide) ?_
              exact ih3 (l + 1) ls (by omega) (by omega) (by exact fun j hj => hq2 j (by omega)) (lv_sub hl [1, 2, 3, 4, 0] rfl)
            · have h16 := za_nleN h16 (by omega) (by omega)
              refine lv_aload_n hx hb zd_G_firstOf_19 rfl (lv_at hl 0 rfl) ?_
              refine lv_iload_n hx hb zd_G_firstOf_20 rfl (lv_at hl 1 rfl) ?_
              refine lv_iload_n hx hb zd_G_firstOf_21 rfl (lv_at hl 2 rfl) ?_
              refine lv_iload hx hb zd_G_firstOf_22 (lv_at hl 4 rfl) ?_
              refine lv_iload hx hb zd_G_firstOf_24 (lv_at hl 5 rfl) ?_
              refine lv_iload_n hx hb zd_G_firstOf_26 rfl (lv_at hl 3 rfl) ?_
              refine za_cV (As := [.int (nI a), .int (nI b), .int (nI l), .int (nI u), .int (nI k)]) (rest := []) ⟨hx, hb, hml, hown, hts⟩ (zc_G_isAttack ln D cI cZ aG aN aL aS aM aA ln0 aT aC ct aR aU aK lr kc sd Tg Rw a b l u k (by omega) (by omega) (by omega) (by omega) (by omega)) (za_gV 5 hts zw_390 zw_392 zw_14 zw_39 zw_393 (by decide +kernel) ⟨Nat.le_of_ble_eq_true rfl, Nat.le_of_ble_eq_true rfl⟩) hK hN hP [0, 1, 2, 3, 4] rfl (q0 := 0) rfl rfl hl rfl rfl (Nat.le_of_ble_eq_true rfl) zd_G_firstOf_27 ⟨Nat.le_of_ble_eq_true rfl, Nat.le_of_ble_eq_true rfl⟩ ?_
              refine lv_if_eq hx hb (tgt := 42) zd_G_firstOf_30 (by decide) (fun h30 => ?_) (fun h30 => ?_)
              · have h30 := za_bF h30
                refine lv_iinc (k := 5) (v := nI (u + 1)) (lv' := [(5, .int (nI (u + 1))), (0, .ref aG), (1, .int (nI a)), (2, .int (nI b)), (3, .int (nI k)), (4, .int (nI l))]) hx hb zd_G_firstOf_42 hl rfl (za_inc _) (by decide) rfl (fun ls hl => ?_)
                refine lv_goto hx hb (tgt := 12) zd_G_firstOf_45 (by decide) ?_
                exact ih12 (u + 1) ls (by omega) (by omega) (by exact za_all_s (p := (fun x => !za_atm Tg Rw a b k x)) hq2 (by simp [za_atm_at (show u < 24 by omega), h30])) (lv_sub hl [1, 2, 3, 4, 5, 0] rfl)
              · have h30 := za_bT h30
                refine lv_iload hx hb zd_G_firstOf_33 (lv_at hl 4 rfl) ?_
                refine lv_bipush (v := nI 100) hx hb zd_G_firstOf_35 (by decide) ?_
                refine za_mulN hx hb zd_G_firstOf_37 ?_
                refine lv_iload hx hb zd_G_firstOf_38 (lv_at hl 5 rfl) ?_
                refine za_addN hx hb zd_G_firstOf_40 ?_
                exact hret _ _ _ (by first | with_reducible rfl | (exact za_fo_at (by omega) (by omega) hq2 h30)) zd_G_firstOf_41
        exact hC12 (24 - 0 + 1) 0 ls (Nat.lt_succ_self _) (by omega) (by exact fun j hj => hq j (by omega)) (lv_sub hl [1, 2, 3, 4, 5, 0] rfl)
  exact hC3 (4 - 0 + 1) 0 ls (Nat.lt_succ_self _) (by omega) (by exact fun j hj => by omega) (lv_sub hl [1, 2, 3, 4, 0] rfl)
def zr_G_countOf : Room := { frames := 2, cells := 0, slots := 0, locals := 47 }
set_option maxHeartbeats 4000000 in
set_option maxRecDepth 100000 in
theorem zc_G_countOf (ln : Launch) (D : va_G) (cI cZ : ClassId) (aG : Nat) (aN : Nat) (aL : Nat) (aS : Nat) (aM : Nat) (aA : Nat) (ln0 : Nat) (aT : Nat) (aC : Nat) (ct : Int32) (aR : Nat) (aU : Nat) (aK : Nat) (lr : Nat) (kc : Nat) (sd : Bool) (Tg : Nat → Int32) (Rw : Nat → Int32) (a : Nat) (b : Nat) (k : Nat) (ha0 : a < 24) (hb0 : b < 24) (hk0 : k < 24) : Met ln zm_G_countOf (Cond.code zm_G_countOf zo_G_countOf 7 (some .int) :: zb_big) zr_G_countOf (za_Pr D vwCl [(cI, .int), (cZ, .boolean)] [.ref aG, .int (nI a), .int (nI b), .int (nI k)] [(aG, .inr (3, [.ref aN, .ref aL, .ref aS, .ref aM, .ref aA, .int (nI ln0)])), (aN, .inr (0, [.ref aT, .ref aC, .int ct])), (aT, .inl (cI, 96, .inl Tg)), (aL, .inr (1, [.ref aN, .ref aR, .ref aU, .ref aK, .int (nI lr), .int (nI kc), .int (za_bi sd)])), (aR, .inl (cI, 576, .inl Rw))]) (vp_Si (fun r => r = nI (za_cn (za_atm Tg Rw a b k) 96))) 0 0 (fun _ => False) := by
  refine za_reader (cc := zo_G_countOf) (maxL := 7) (ty := .int) (by decide) (Nat.le_of_ble_eq_true rfl) (fun _ _ => rfl) ?_
  intro p e sg m args below meth c H Q hx hb hml hts hown hP hK hN hret ls hl
  have hP : va_P D vwCl [(aG, .inr (3, [.ref aN, .ref aL, .ref aS, .ref aM, .ref aA, .int (nI ln0)])), (aN, .inr (0, [.ref aT, .ref aC, .int ct])), (aT, .inl (cI, 96, .inl Tg)), (aL, .inr (1, [.ref aN, .ref aR, .ref aU, .ref aK, .int (nI lr), .int (nI kc), .int (za_bi sd)])), (aR, .inl (cI, 576, .inl Rw))] H := hP
  have hl : lv_has ls 7 [(0, .ref aG), (1, .int (nI a)), (2, .int (nI b)), (3, .int (nI k))] := hl
  refine lv_iconst (v := nI 0) hx hb zd_G_countOf_0 (by decide) ?_
  refine lv_istore (lv' := [(4, .int (nI 0)), (0, .ref aG), (1, .int (nI a)), (2, .int (nI b)), (3, .int (nI k))]) hx hb zd_G_countOf_1 hl (by decide) rfl (fun ls hl => ?_)
  refine lv_iconst (v := nI 0) hx hb zd_G_countOf_3 (by decide) ?_
  refine lv_istore (lv' := [(5, .int (nI 0)), (4, .int (nI 0)), (0, .ref aG), (1, .int (nI a)), (2, .int (nI b)), (3, .int (nI k))]) hx hb zd_G_countOf_4 hl (by decide) rfl (fun ls hl => ?_)
  have hC6 : ∀ (n6 : Nat) (l : Nat) (ls : Array Slot), 4 - l < n6 → l ≤ 4 → lv_has ls 7 [(0, .ref aG), (1, .int (nI a)), (2, .int (nI b)), (3, .int (nI k)), (4, .int (nI (za_cn (za_atm Tg Rw a b k) (l * 24)))), (5, .int (nI l))] → W p ln e zr_G_countOf sg m args below meth c H [] 0 0 Q (F0 m 6 ls []) := by
    intro n6
    induction n6 with
    | zero => intro l ls hn6 hi_l hl; exact absurd hn6 (Nat.not_lt_zero _)
    | succ n6 ih6 =>
      intro l ls hn6 hi_l hl
      refine lv_iload hx hb zd_G_countOf_6 (lv_at hl 5 rfl) ?_
      refine lv_iconst (v := nI 4) hx hb zd_G_countOf_8 (by decide) ?_
      refine lv_icmp_ge hx hb (tgt := 51) zd_G_countOf_9 (by decide) (fun h9 => ?_) (fun h9 => ?_)
      · have h9 := za_leN h9 (by omega) (by omega)
        refine lv_iload hx hb zd_G_countOf_51 (lv_at hl 4 rfl) ?_
        exact hret _ _ _ (by first | with_reducible rfl | (congr 2; omega)) zd_G_countOf_53
      · have h9 := za_nleN h9 (by omega) (by omega)
        refine lv_iconst (v := nI 0) hx hb zd_G_countOf_12 (by decide) ?_
        refine lv_istore (lv' := [(6, .int (nI 0)), (0, .ref aG), (1, .int (nI a)), (2, .int (nI b)), (3, .int (nI k)), (4, .int (nI (za_cn (za_atm Tg Rw a b k) (l * 24)))), (5, .int (nI l))]) hx hb zd_G_countOf_13 hl (by decide) rfl (fun ls hl => ?_)
        have hC15 : ∀ (n15 : Nat) (u : Nat) (ls : Array Slot), 24 - u < n15 → u ≤ 24 → lv_has ls 7 [(0, .ref aG), (1, .int (nI a)), (2, .int (nI b)), (3, .int (nI k)), (4, .int (nI (za_cn (za_atm Tg Rw a b k) (l * 24 + u)))), (5, .int (nI l)), (6, .int (nI u))] → W p ln e zr_G_countOf sg m args below meth c H [] 0 0 Q (F0 m 15 ls []) := by
          intro n15
          induction n15 with
          | zero => intro u ls hn15 hi_u hl; exact absurd hn15 (Nat.not_lt_zero _)
          | succ n15 ih15 =>
            intro u ls hn15 hi_u hl
            refine lv_iload hx hb zd_G_countOf_15 (lv_at hl 6 rfl) ?_
            refine lv_bipush (v := nI 24) hx hb zd_G_countOf_17 (by decide) ?_
            refine lv_icmp_ge hx hb (tgt := 45) zd_G_countOf_19 (by decide) (fun h19 => ?_) (fun h19 => ?_)
            · have h19 := za_leN h19 (by omega) (by omega)
              refine lv_iinc (k := 5) (v := nI (l + 1)) (lv' := [(5, .int (nI (l + 1))), (0, .ref aG), (1, .int (nI a)), (2, .int (nI b)), (3, .int (nI k)), (4, .int (nI (za_cn (za_atm Tg Rw a b k) (l * 24 + u)))), (6, .int (nI u))]) hx hb zd_G_countOf_45 hl rfl (za_inc _) (by decide) rfl (fun ls hl => ?_)
              refine lv_goto hx hb (tgt := 6) zd_G_countOf_48 (by decide) ?_
              have e1 : nI (za_cn (za_atm Tg Rw a b k) ((l + 1) * 24)) = nI (za_cn (za_atm Tg Rw a b k) (l * 24 + u)) := by first | with_reducible rfl | (congr 2; omega)
              exact ih6 (l + 1) ls (by omega) (by omega) (by rw [e1]; exact lv_sub hl [1, 2, 3, 4, 5, 0] rfl)
            · have h19 := za_nleN h19 (by omega) (by omega)
              refine lv_aload_n hx hb zd_G_countOf_22 rfl (lv_at hl 0 rfl) ?_
              refine lv_iload_n hx hb zd_G_countOf_23 rfl (lv_at hl 1 rfl) ?_
              refine lv_iload_n hx hb zd_G_countOf_24 rfl (lv_at hl 2 rfl) ?_
              refine lv_iload hx hb zd_G_countOf_25 (lv_at hl 5 rfl) ?_
              refine lv_iload hx hb zd_G_countOf_27 (lv_at hl 6 rfl) ?_
              refine lv_iload_n hx hb zd_G_countOf_29 rfl (lv_at hl 3 rfl) ?_
              refine za_cV (As := [.int (nI a), .int (nI b), .int (nI l), .int (nI u), .int (nI k)]) (rest := []) ⟨hx, hb, hml, hown, hts⟩ (zc_G_isAttack ln D cI cZ aG aN aL aS aM aA ln0 aT aC ct aR aU aK lr kc sd Tg Rw a b l u k (by omega) (by omega) (by omega) (by omega) (by omega)) (za_gV 5 hts zw_390 zw_392 zw_14 zw_39 zw_393 (by decide +kernel) ⟨Nat.le_of_ble_eq_true rfl, Nat.le_of_ble_eq_true rfl⟩) hK hN hP [0, 1, 2, 3, 4] rfl (q0 := 0) rfl rfl hl rfl rfl (Nat.le_of_ble_eq_true rfl) zd_G_countOf_30 ⟨Nat.le_of_ble_eq_true rfl, Nat.le_of_ble_eq_true rfl⟩ ?_
              refine lv_if_eq hx hb (tgt := 39) zd_G_countOf_33 (by decide) (fun h33 => ?_) (fun h33 => ?_)
              · have h33 := za_bF h33
                refine lv_iinc (k := 6) (v := nI (u + 1)) (lv' := [(6, .int (nI (u + 1))), (0, .ref aG), (1, .int (nI a)), (2, .int (nI b)), (3, .int (nI k)), (4, .int (nI (za_cn (za_atm Tg Rw a b k) (l * 24 + u)))), (5, .int (nI l))]) hx hb zd_G_countOf_39 hl rfl (za_inc _) (by decide) rfl (fun ls hl => ?_)
                refine lv_goto hx hb (tgt := 15) zd_G_countOf_42 (by decide) ?_
                have e1 : nI (za_cn (za_atm Tg Rw a b k) (l * 24 + (u + 1))) = nI (za_cn (za_atm Tg Rw a b k) (l * 24 + u)) := by first | with_reducible rfl | (show nI (za_cn (za_atm Tg Rw a b k) ((l * 24 + u) + 1)) = _; simp [za_cn, za_atm_at (show u < 24 by omega), h33])
                exact ih15 (u + 1) ls (by omega) (by omega) (by rw [e1]; exact lv_sub hl [1, 2, 3, 4, 5, 6, 0] rfl)
              · have h33 := za_bT h33
                refine lv_iinc (k := 4) (v := nI (za_cn (za_atm Tg Rw a b k) (l * 24 + u) + 1)) (lv' := [(4, .int (nI (za_cn (za_atm Tg Rw a b k) (l * 24 + u) + 1))), (0, .ref aG), (1, .int (nI a)), (2, .int (nI b)), (3, .int (nI k)), (5, .int (nI l)), (6, .int (nI u))]) hx hb zd_G_countOf_36 hl rfl (za_inc _) (by decide) rfl (fun ls hl => ?_)
                refine lv_iinc (k := 6) (v := nI (u + 1)) (lv' := [(6, .int (nI (u + 1))), (4, .int (nI (za_cn (za_atm Tg Rw a b k) (l * 24 + u) + 1))), (0, .ref aG), (1, .int (nI a)), (2, .int (nI b)), (3, .int (nI k)), (5, .int (nI l))]) hx hb zd_G_countOf_39 hl rfl (za_inc _) (by decide) rfl (fun ls hl => ?_)
                refine lv_goto hx hb (tgt := 15) zd_G_countOf_42 (by decide) ?_
                have e1 : nI (za_cn (za_atm Tg Rw a b k) (l * 24 + (u + 1))) = nI (za_cn (za_atm Tg Rw a b k) (l * 24 + u) + 1) := by first | with_reducible rfl | (show nI (za_cn (za_atm Tg Rw a b k) ((l * 24 + u) + 1)) = _; simp [za_cn, za_atm_at (show u < 24 by omega), h33])
                exact ih15 (u + 1) ls (by omega) (by omega) (by rw [e1]; exact lv_sub hl [2, 3, 4, 5, 1, 6, 0] rfl)
        have e1 : nI (za_cn (za_atm Tg Rw a b k) (l * 24 + 0)) = nI (za_cn (za_atm Tg Rw a b k) (l * 24)) := by first | with_reducible rfl | (rfl)
        exact hC15 (24 - 0 + 1) 0 ls (Nat.lt_succ_self _) (by omega) (by rw [e1]; exact lv_sub hl [1, 2, 3, 4, 5, 6, 0] rfl)
  have e1 : nI (za_cn (za_atm Tg Rw a b k) (0 * 24)) = nI 0 := by first | with_reducible rfl | (rfl)
  exact hC6 (4 - 0 + 1) 0 ls (Nat.lt_succ_self _) (by omega) (by rw [e1]; exact lv_sub hl [2, 3, 4, 5, 1, 0] rfl)
def zr_G_bestAnswer : Room := { frames := 2, cells := 0, slots := 0, locals := 45 }
set_option maxHeartbeats 4000000 in
set_option maxRecDepth 100000 in
theorem zc_G_bestAnswer (ln : Launch) (D : va_G) (cI cZ : ClassId) (aG : Nat) (aN : Nat) (aL : Nat) (aS : Nat) (aM : Nat) (aA : Nat) (ln0 : Nat) (aT : Nat) (aC : Nat) (ct : Int32) (aR : Nat) (aU : Nat) (aK : Nat) (lr : Nat) (kc : Nat) (sd : Bool) (Tg : Nat → Int32) (Rw : Nat → Int32) (b : Nat) (e0 : Nat) (hb0 : b < 24) (he0 : e0 / 100 < 4) (he1 : e0 % 100 < 24) (he2 : e0 < 400) (hr0 : lr < 24) : Met ln zm_G_bestAnswer (Cond.code zm_G_bestAnswer zo_G_bestAnswer 9 (some .int) :: zb_big) zr_G_bestAnswer (za_Pr D vwCl [(cI, .int), (cZ, .boolean)] [.ref aG, .int (nI b), .int (nI e0)] [(aG, .inr (3, [.ref aN, .ref aL, .ref aS, .ref aM, .ref aA, .int (nI ln0)])), (aN, .inr (0, [.ref aT, .ref aC, .int ct])), (aT, .inl (cI, 96, .inl Tg)), (aL, .inr (1, [.ref aN, .ref aR, .ref aU, .ref aK, .int (nI lr), .int (nI kc), .int (za_bi sd)])), (aR, .inl (cI, 576, .inl Rw))]) (vp_Si (fun r => r = (za_ba (Tg (b * 4 + e0 / 100)) (fun z => za_ff (fun x => bt (Rw (x * 24 + e0 % 100)) z) (lr + 1)) 24).1)) 0 0 (fun _ => False) := by
  refine za_reader (cc := zo_G_bestAnswer) (maxL := 9) (ty := .int) (by decide) (Nat.le_of_ble_eq_true rfl) (fun _ _ => rfl) ?_
  intro p e sg m args below meth c H Q hx hb hml hts hown hP hK hN hret ls hl
  have hP : va_P D vwCl [(aG, .inr (3, [.ref aN, .ref aL, .ref aS, .ref aM, .ref aA, .int (nI ln0)])), (aN, .inr (0, [.ref aT, .ref aC, .int ct])), (aT, .inl (cI, 96, .inl Tg)), (aL, .inr (1, [.ref aN, .ref aR, .ref aU, .ref aK, .int (nI lr), .int (nI kc), .int (za_bi sd)])), (aR, .inl (cI, 576, .inl Rw))] H := hP
  have hl : lv_has ls 9 [(0, .ref aG), (1, .int (nI b)), (2, .int (nI e0))] := hl
  have hf9 := hts _ zw_120
  have hf15 := hts _ zw_121
  refine lv_aload_n hx hb zd_G_bestAnswer_0 rfl (lv_at hl 0 rfl) ?_
  refine va_get (D := D) (ci := 3) (v := .ref aN) (C := zs_G) (T := zt_G) (N := 6) hx hb hts zi_G hown hK hP 0 rfl rfl 0 (by decide) hf9 (fun _ h9 => h9) rfl zd_G_bestAnswer_1 ?_
  refine lv_iload_n hx hb zd_G_bestAnswer_4 rfl (lv_at hl 1 rfl) ?_
  refine lv_iload_n hx hb zd_G_bestAnswer_5 rfl (lv_at hl 2 rfl) ?_
  refine lv_bipush (v := nI 100) hx hb zd_G_bestAnswer_6 (by decide) ?_
  refine za_divN hx hb (by omega) (by decide) (by decide) zd_G_bestAnswer_8 ?_
  refine za_cV (As := [.int (nI b), .int (nI (e0 / 100))]) (rest := []) ⟨hx, hb, hml, hown, hts⟩ (zc_N_targetsOf ln D cI cZ aN aT aC ct Tg b (e0 / 100) (by omega) (by omega)) (za_gV 2 hts zw_394 zw_173 zw_174 zw_36 zw_175 (by decide +kernel) ⟨Nat.le_of_ble_eq_true rfl, Nat.le_of_ble_eq_true rfl⟩) hK hN hP [1, 2] rfl (q0 := 1) rfl rfl hl rfl rfl (Nat.le_of_ble_eq_true rfl) zd_G_bestAnswer_9 ⟨Nat.le_of_ble_eq_true rfl, Nat.le_of_ble_eq_true rfl⟩ ?_
  refine lv_istore_n (lv' := [(3, .int (Tg (b * 4 + (e0 / 100)))), (0, .ref aG), (1, .int (nI b)), (2, .int (nI e0))]) hx hb zd_G_bestAnswer_12 rfl hl (by decide) rfl (fun ls hl => ?_)
  refine lv_iload_n hx hb zd_G_bestAnswer_13 rfl (lv_at hl 3 rfl) ?_
  refine lv_bipush (v := nI 100) hx hb zd_G_bestAnswer_14 (by decide) ?_
  refine za_remN hx hb (by omega) (by decide) (by decide) zd_G_bestAnswer_16 ?_
  refine lv_istore (lv' := [(4, .int (nI (e0 % 100))), (3, .int (Tg (b * 4 + (e0 / 100)))), (0, .ref aG), (1, .int (nI b)), (2, .int (nI e0))]) hx hb zd_G_bestAnswer_17 hl (by decide) rfl (fun ls hl => ?_)
  refine lv_iconst (v := (-1)) hx hb zd_G_bestAnswer_19 (by decide) ?_
  refine lv_istore (lv' := [(5, .int (-1)), (4, .int (nI (e0 % 100))), (3, .int (Tg (b * 4 + (e0 / 100)))), (0, .ref aG), (1, .int (nI b)), (2, .int (nI e0))]) hx hb zd_G_bestAnswer_20 hl (by decide) rfl (fun ls hl => ?_)
  refine lv_iconst (v := (-1)) hx hb zd_G_bestAnswer_22 (by decide) ?_
  refine lv_istore (lv' := [(6, .int (-1)), (5, .int (-1)), (4, .int (nI (e0 % 100))), (3, .int (Tg (b * 4 + (e0 / 100)))), (0, .ref aG), (1, .int (nI b)), (2, .int (nI e0))]) hx hb zd_G_bestAnswer_23 hl (by decide) rfl (fun ls hl => ?_)
  refine lv_iconst (v := nI 0) hx hb zd_G_bestAnswer_25 (by decide) ?_
  refine lv_istore (lv' := [(7, .int (nI 0)), (6, .int (-1)), (5, .int (-1)), (4, .int (nI (e0 % 100))), (3, .int (Tg (b * 4 + (e0 / 100)))), (0, .ref aG), (1, .int (nI b)), (2, .int (nI e0))]) hx hb zd_G_bestAnswer_26 hl (by decide) rfl (fun ls hl => ?_)
  have hC28 : ∀ (n28 : Nat) (v : Nat) (ls : Array Slot), 24 - v < n28 → v ≤ 24 → lv_has ls 9 [(0, .ref aG), (1, .int (nI b)), (2, .int (nI e0)), (3, .int (Tg (b * 4 + (e0 / 100)))), (4, .int (nI (e0 % 100))), (5, .int ((za_ba (Tg (b * 4 + e0 / 100)) (fun z => za_ff (fun x => bt (Rw (x * 24 + e0 % 100)) z) (lr + 1)) v).1)), (6, .int ((za_ba (Tg (b * 4 + e0 / 100)) (fun z => za_ff (fun x => bt (Rw (x * 24 + e0 % 100)) z) (lr + 1)) v).2)), (7, .int (nI v))] → W p ln e zr_G_bestAnswer sg m args below meth c H [] 0 0 Q (F0 m 28 ls []) := by
    intro n28
    induction n28 with
    | zero => intro v ls hn28 hi_v hl; exact absurd hn28 (Nat.not_lt_zero _)
    | succ n28 ih28 =>
      intro v ls hn28 hi_v hl
      refine lv_iload hx hb zd_G_bestAnswer_28 (lv_at hl 7 rfl) ?_
      refine lv_bipush (v := nI 24) hx hb zd_G_bestAnswer_30 (by decide) ?_
      refine lv_icmp_ge hx hb (tgt := 82) zd_G_bestAnswer_32 (by decide) (fun h32 => ?_) (fun h32 => ?_)
      · have h32 := za_leN h32 (by omega) (by omega)
        refine lv_iload hx hb zd_G_bestAnswer_82 (lv_at hl 5 rfl) ?_
        exact hret _ _ _ (by first | with_reducible rfl | (rw [show v = 24 by omega])) zd_G_bestAnswer_84
      · have h32 := za_nleN h32 (by omega) (by omega)
        refine lv_iload_n hx hb zd_G_bestAnswer_35 rfl (lv_at hl 3 rfl) ?_
        refine lv_iload hx hb zd_G_bestAnswer_36 (lv_at hl 7 rfl) ?_
        refine za_cSN (As := [.int (Tg (b * 4 + (e0 / 100))), .int (nI v)]) (rest := []) ⟨hx, hb, hml, hown, hts⟩ (zc_X_hasBit ln D cI cZ (Tg (b * 4 + (e0 / 100))) v (by omega)) (za_gSN 2 hts hN.2.2.2 zw_177 zw_35 zw_178 (by decide +kernel) ⟨Nat.le_of_ble_eq_true rfl, Nat.le_of_ble_eq_true rfl⟩) hK hN hP [] rfl hl rfl rfl (Nat.le_of_ble_eq_true rfl) zd_G_bestAnswer_38 ⟨Nat.le_of_ble_eq_true rfl, Nat.le_of_ble_eq_true rfl⟩ ?_
        refine lv_if_eq hx hb (tgt := 58) zd_G_bestAnswer_41 (by decide) (fun h41 => ?_) (fun h41 => ?_)
        · have h41 := za_bF h41
          refine lv_iconst (v := (-1)) hx hb zd_G_bestAnswer_58 (by decide) ?_
          refine lv_istore (lv' := [(8, .int (-1)), (0, .ref aG), (1, .int (nI b)), (2, .int (nI e0)), (3, .int (Tg (b * 4 + (e0 / 100)))), (4, .int (nI (e0 % 100))), (5, .int ((za_ba (Tg (b * 4 + e0 / 100)) (fun z => za_ff (fun x => bt (Rw (x * 24 + e0 % 100)) z) (lr + 1)) v).1)), (6, .int ((za_ba (Tg (b * 4 + e0 / 100)) (fun z => za_ff (fun x => bt (Rw (x * 24 + e0 % 100)) z) (lr + 1)) v).2)), (7, .int (nI v))]) hx hb zd_G_bestAnswer_59 hl (by decide) rfl (fun ls hl => ?_)
          refine lv_iload hx hb zd_G_bestAnswer_61 (lv_at hl 0 rfl) ?_
          refine lv_iload hx hb zd_G_bestAnswer_63 (lv_at hl 7 rfl) ?_
          refine lv_icmp_le hx hb (tgt := 76) zd_G_bestAnswer_65 (by decide) (fun h65 => ?_) (fun h65 => ?_)
          · skip
            refine lv_iinc (k := 8) (v := nI (v + 1)) (lv' := [(7, .int (nI (v + 1))), (8, .int (-1)), (0, .ref aG), (1, .int (nI b)), (2, .int (nI e0)), (3, .int (Tg (b * 4 + (e0 / 100)))), (4, .int (nI (e0 % 100))), (5, .int ((za_ba (Tg (b * 4 + e0 / 100)) (fun z => za_ff (fun x => bt (Rw (x * 24 + e0 % 100)) z) (lr + 1)) v).1)), (6, .int ((za_ba (Tg (b * 4 + e0 / 100)) (fun z => za_ff (fun x => bt (Rw (x * 24 + e0 % 100)) z) (lr + 1)) v).2))]) hx hb zd_G_bestAnswer_76 hl rfl (za_inc _) (by decide) rfl (fun ls hl => ?_)
            refine lv_goto hx hb (tgt := 28) zd_G_bestAnswer_79 (by decide) ?_
            have e1 : (za_ba (Tg (b * 4 + e0 / 100)) (fun z => za_ff (fun x => bt (Rw (x * 24 + e0 % 100)) z) (lr + 1)) (v + 1)).1 = (za_ba (Tg (b * 4 + e0 / 100)) (fun z => za_ff (fun x => bt (Rw (x * 24 + e0 % 100)) z) (lr + 1)) v).1 := by first | with_reducible rfl | (simp [za_ba, h41, h65])
            have e2 : (za_ba (Tg (b * 4 + e0 / 100)) (fun z => za_ff (fun x => bt (Rw (x * 24 + e0 % 100)) z) (lr + 1)) (v + 1)).2 = (za_ba (Tg (b * 4 + e0 / 100)) (fun z => za_ff (fun x => bt (Rw (x * 24 + e0 % 100)) z) (lr + 1)) v).2 := by first | with_reducible rfl | (simp [za_ba, h41, h65])
            exact ih28 (v + 1) ls (by omega) (by omega) (by rw [e1, e2]; exact lv_sub hl [2, 3, 4, 5, 6, 7, 8, 0] rfl)
          · skip
            refine lv_iload hx hb zd_G_bestAnswer_68 (lv_at hl 8 rfl) ?_
            refine lv_istore (lv' := [(5, .int (nI v)), (8, .int (-1)), (0, .ref aG), (1, .int (nI b)), (2, .int (nI e0)), (3, .int (Tg (b * 4 + (e0 / 100)))), (4, .int (nI (e0 % 100))), (6, .int ((za_ba (Tg (b * 4 + e0 / 100)) (fun z => za_ff (fun x => bt (Rw (x * 24 + e0 % 100)) z) (lr + 1)) v).2)), (7, .int (nI v))]) hx hb zd_G_bestAnswer_70 hl (by decide) rfl (fun ls hl => ?_)
            refine lv_iload hx hb zd_G_bestAnswer_72 (lv_at hl 1 rfl) ?_
            refine lv_istore (lv' := [(6, .int (-1)), (5, .int (nI v)), (8, .int (-1)), (0, .ref aG), (1, .int (nI b)), (2, .int (nI e0)), (3, .int (Tg (b * 4 + (e0 / 100)))), (4, .int (nI (e0 % 100))), (7, .int (nI v))]) hx hb zd_G_bestAnswer_74 hl (by decide) rfl (fun ls hl => ?_)
            refine lv_iinc (k := 8) (v := nI (v + 1)) (lv' := [(7, .int (nI (v + 1))), (6, .int (-1)), (5, .int (nI v)), (8, .int (-1)), (0, .ref aG), (1, .int (nI b)), (2, .int (nI e0)), (3, .int (Tg (b * 4 + (e0 / 100)))), (4, .int (nI (e0 % 100)))]) hx hb zd_G_bestAnswer_76 hl rfl (za_inc _) (by decide) rfl (fun ls hl => ?_)
            refine lv_goto hx hb (tgt := 28) zd_G_bestAnswer_79 (by decide) ?_
            have e1 : (za_ba (Tg (b * 4 + e0 / 100)) (fun z => za_ff (fun x => bt (Rw (x * 24 + e0 % 100)) z) (lr + 1)) (v + 1)).1 = nI v := by first | with_reducible rfl | (simp [za_ba, h41, h65])
            have e2 : (za_ba (Tg (b * 4 + e0 / 100)) (fun z => za_ff (fun x => bt (Rw (x * 24 + e0 % 100)) z) (lr + 1)) (v + 1)).2 = (-1) := by first | with_reducible rfl | (simp [za_ba, h41, h65])
            exact ih28 (v + 1) ls (by omega) (by omega) (by rw [e1, e2]; exact lv_sub hl [4, 5, 6, 7, 8, 2, 1, 0] rfl)
        · have h41 := za_bT h41
          refine lv_aload_n hx hb zd_G_bestAnswer_44 rfl (lv_at hl 0 rfl) ?_
          refine va_get (D := D) (ci := 3) (v := .ref aL) (C := zs_G) (T := zt_G) (N := 6) hx hb hts zi_G hown hK hP 0 rfl rfl 1 (by decide) hf15 (fun _ h9 => h9) rfl zd_G_bestAnswer_45 ?_
          refine lv_iload hx hb zd_G_bestAnswer_48 (lv_at hl 4 rfl) ?_
          refine lv_iload hx hb zd_G_bestAnswer_50 (lv_at hl 7 rfl) ?_
          refine za_cV (As := [.int (nI (e0 % 100)), .int (nI v)]) (rest := []) ⟨hx, hb, hml, hown, hts⟩ (zc_L_breachOf ln D cI cZ aL aN aR aU aK lr kc sd Rw (e0 % 100) v (by omega) (by omega) (by omega)) (za_gV 2 hts zw_385 zw_280 zw_281 zw_37 zw_282 (by decide +kernel) ⟨Nat.le_of_ble_eq_true rfl, Nat.le_of_ble_eq_true rfl⟩) hK hN hP [3, 4] rfl (q0 := 3) rfl rfl hl rfl rfl (Nat.le_of_ble_eq_true rfl) zd_G_bestAnswer_52 ⟨Nat.le_of_ble_eq_true rfl, Nat.le_of_ble_eq_true rfl⟩ ?_
          refine lv_goto hx hb (tgt := 59) zd_G_bestAnswer_55 (by decide) ?_
          refine lv_istore (lv' := [(8, .int (za_ff (fun x => bt (Rw (x * 24 + (e0 % 100))) v) (lr + 1))), (0, .ref aG), (1, .int (nI b)), (2, .int (nI e0)), (3, .int (Tg (b * 4 + (e0 / 100)))), (4, .int (nI (e0 % 100))), (5, .int ((za_ba (Tg (b * 4 + e0 / 100)) (fun z => za_ff (fun x => bt (Rw (x * 24 + e0 % 100)) z) (lr + 1)) v).1)), (6, .int ((za_ba (Tg (b * 4 + e0 / 100)) (fun z => za_ff (fun x => bt (Rw (x * 24 + e0 % 100)) z) (lr + 1)) v).2)), (7, .int (nI v))]) hx hb zd_G_bestAnswer_59 hl (by decide) rfl (fun ls hl => ?_)
          refine lv_iload hx hb zd_G_bestAnswer_61 (lv_at hl 0 rfl) ?_
          refine lv_iload hx hb zd_G_bestAnswer_63 (lv_at hl 7 rfl) ?_
          refine lv_icmp_le hx hb (tgt := 76) zd_G_bestAnswer_65 (by decide) (fun h65 => ?_) (fun h65 => ?_)
          · skip
            refine lv_iinc (k := 8) (v := nI (v + 1)) (lv' := [(7, .int (nI (v + 1))), (8, .int (za_ff (fun x => bt (Rw (x * 24 + (e0 % 100))) v) (lr + 1))), (0, .ref aG), (1, .int (nI b)), (2, .int (nI e0)), (3, .int (Tg (b * 4 + (e0 / 100)))), (4, .int (nI (e0 % 100))), (5, .int ((za_ba (Tg (b * 4 + e0 / 100)) (fun z => za_ff (fun x => bt (Rw (x * 24 + e0 % 100)) z) (lr + 1)) v).1)), (6, .int ((za_ba (Tg (b * 4 + e0 / 100)) (fun z => za_ff (fun x => bt (Rw (x * 24 + e0 % 100)) z) (lr + 1)) v).2))]) hx hb zd_G_bestAnswer_76 hl rfl (za_inc _) (by decide) rfl (fun ls hl => ?_)
            refine lv_goto hx hb (tgt := 28) zd_G_bestAnswer_79 (by decide) ?_
            have e1 : (za_ba (Tg (b * 4 + e0 / 100)) (fun z => za_ff (fun x => bt (Rw (x * 24 + e0 % 100)) z) (lr + 1)) (v + 1)).1 = (za_ba (Tg (b * 4 + e0 / 100)) (fun z => za_ff (fun x => bt (Rw (x * 24 + e0 % 100)) z) (lr + 1)) v).1 := by first | with_reducible rfl | (simp [za_ba, h41, h65])
            have e2 : (za_ba (Tg (b * 4 + e0 / 100)) (fun z => za_ff (fun x => bt (Rw (x * 24 + e0 % 100)) z) (lr + 1)) (v + 1)).2 = (za_ba (Tg (b * 4 + e0 / 100)) (fun z => za_ff (fun x => bt (Rw (x * 24 + e0 % 100)) z) (lr + 1)) v).2 := by first | with_reducible rfl | (simp [za_ba, h41, h65])
            exact ih28 (v + 1) ls (by omega) (by omega) (by rw [e1, e2]; exact lv_sub hl [2, 3, 4, 5, 6, 7, 8, 0] rfl)
          · skip
            refine lv_iload hx hb zd_G_bestAnswer_68 (lv_at hl 8 rfl) ?_
            refine lv_istore (lv' := [(5, .int (nI v)), (8, .int (za_ff (fun x => bt (Rw (x * 24 + (e0 % 100))) v) (lr + 1))), (0, .ref aG), (1, .int (nI b)), (2, .int (nI e0)), (3, .int (Tg (b * 4 + (e0 / 100)))), (4, .int (nI (e0 % 100))), (6, .int ((za_ba (Tg (b * 4 + e0 / 100)) (fun z => za_ff (fun x => bt (Rw (x * 24 + e0 % 100)) z) (lr + 1)) v).2)), (7, .int (nI v))]) hx hb zd_G_bestAnswer_70 hl (by decide) rfl (fun ls hl => ?_)
            refine lv_iload hx hb zd_G_bestAnswer_72 (lv_at hl 1 rfl) ?_
            refine lv_istore (lv' := [(6, .int (za_ff (fun x => bt (Rw (x * 24 + (e0 % 100))) v) (lr + 1))), (5, .int (nI v)), (8, .int (za_ff (fun x => bt (Rw (x * 24 + (e0 % 100))) v) (lr + 1))), (0, .ref aG), (1, .int (nI b)), (2, .int (nI e0)), (3, .int (Tg (b * 4 + (e0 / 100)))), (4, .int (nI (e0 % 100))), (7, .int (nI v))]) hx hb zd_G_bestAnswer_74 hl (by decide) rfl (fun ls hl => ?_)
            refine lv_iinc (k := 8) (v := nI (v + 1)) (lv' := [(7, .int (nI (v + 1))), (6, .int (za_ff (fun x => bt (Rw (x * 24 + (e0 % 100))) v) (lr + 1))), (5, .int (nI v)), (8, .int (za_ff (fun x => bt (Rw (x * 24 + (e0 % 100))) v) (lr + 1))), (0, .ref aG), (1, .int (nI b)), (2, .int (nI e0)), (3, .int (Tg (b * 4 + (e0 / 100)))), (4, .int (nI (e0 % 100)))]) hx hb zd_G_bestAnswer_76 hl rfl (za_inc _) (by decide) rfl (fun ls hl => ?_)
            refine lv_goto hx hb (tgt := 28) zd_G_bestAnswer_79 (by decide) ?_
            have e1 : (za_ba (Tg (b * 4 + e0 / 100)) (fun z => za_ff (fun x => bt (Rw (x * 24 + e0 % 100)) z) (lr + 1)) (v + 1)).1 = nI v := by first | with_reducible rfl | (simp [za_ba, h41, h65])
            have e2 : (za_ba (Tg (b * 4 + e0 / 100)) (fun z => za_ff (fun x => bt (Rw (x * 24 + e0 % 100)) z) (lr + 1)) (v + 1)).2 = za_ff (fun x => bt (Rw (x * 24 + (e0 % 100))) v) (lr + 1) := by first | with_reducible rfl | (simp [za_ba, h41, h65])
            exact ih28 (v + 1) ls (by omega) (by omega) (by rw [e1, e2]; exact lv_sub hl [4, 5, 6, 7, 8, 2, 1, 0] rfl)
  have e1 : (za_ba (Tg (b * 4 + e0 / 100)) (fun z => za_ff (fun x => bt (Rw (x * 24 + e0 % 100)) z) (lr + 1)) 0).1 = (-1) := by first | with_reducible rfl | (rfl)
  have e2 : (za_ba (Tg (b * 4 + e0 / 100)) (fun z => za_ff (fun x => bt (Rw (x * 24 + e0 % 100)) z) (lr + 1)) 0).2 = (-1) := by first | with_reducible rfl | (rfl)
  exact hC28 (24 - 0 + 1) 0 ls (Nat.lt_succ_self _) (by omega) (by rw [e1, e2]; exact lv_sub hl [5, 6, 7, 4, 3, 2, 1, 0] rfl)
def zr_G_attackAt : Room := { frames := 0, cells := 0, slots := 0, locals := 0 }
set_option maxHeartbeats 4000000 in
set_option maxRecDepth 100000 in
theorem zc_G_attackAt (ln : Launch) (D : va_G) (cI cZ : ClassId) (aG : Nat) (aN : Nat) (aL : Nat) (aS : Nat) (aM : Nat) (aA : Nat) (ln0 : Nat) (Md : Nat → Int32) (x : Nat) (hx0 : x < 24) : Met ln zm_G_attackAt (Cond.code zm_G_attackAt zo_G_attackAt 2 (some .int) :: zb_big) zr_G_attackAt (za_Pr D vwCl [(cI, .int), (cZ, .boolean)] [.ref aG, .int (nI x)] [(aG, .inr (3, [.ref aN, .ref aL, .ref aS, .ref aM, .ref aA, .int (nI ln0)])), (aM, .inl (cI, 24, .inl Md))]) (vp_Si (fun r => r = Md x)) 0 0 (fun _ => False) := by
  refine za_reader (cc := zo_G_attackAt) (maxL := 2) (ty := .int) (by decide) (Nat.le_of_ble_eq_true rfl) (fun _ _ => rfl) ?_
  intro p e sg m args below meth c H Q hx hb hml hts hown hP hK hN hret ls hl
  have hP : va_P D vwCl [(aG, .inr (3, [.ref aN, .ref aL, .ref aS, .ref aM, .ref aA, .int (nI ln0)])), (aM, .inl (cI, 24, .inl Md))] H := hP
  have hl : lv_has ls 2 [(0, .ref aG), (1, .int (nI x))] := hl
  have hf23 := hts _ zw_123
  refine lv_aload_n hx hb zd_G_attackAt_0 rfl (lv_at hl 0 rfl) ?_
  refine va_get (D := D) (ci := 3) (v := .ref aM) (C := zs_G) (T := zt_G) (N := 6) hx hb hts zi_G hown hK hP 0 rfl rfl 3 (by decide) hf23 (fun _ h9 => h9) rfl zd_G_attackAt_1 ?_
  refine lv_iload_n hx hb zd_G_attackAt_4 rfl (lv_at hl 1 rfl) ?_
  refine za_ild hx hb hK hP 1 0 rfl rfl (k := x) (by omega) (by decide) zd_G_attackAt_5 ?_
  exact hret _ _ _ (rfl) zd_G_attackAt_6
def zr_G_answerAt : Room := { frames := 0, cells := 0, slots := 0, locals := 0 }
set_option maxHeartbeats 4000000 in
set_option maxRecDepth 100000 in
theorem zc_G_answerAt (ln : Launch) (D : va_G) (cI cZ : ClassId) (aG : Nat) (aN : Nat) (aL : Nat) (aS : Nat) (aM : Nat) (aA : Nat) (ln0 : Nat) (An : Nat → Int32) (x : Nat) (hx0 : x < 24) : Met ln zm_G_answerAt (Cond.code zm_G_answerAt zo_G_answerAt 2 (some .int) :: zb_big) zr_G_answerAt (za_Pr D vwCl [(cI, .int), (cZ, .boolean)] [.ref aG, .int (nI x)] [(aG, .inr (3, [.ref aN, .ref aL, .ref aS, .ref aM, .ref aA, .int (nI ln0)])), (aA, .inl (cI, 24, .inl An))]) (vp_Si (fun r => r = An x)) 0 0 (fun _ => False) := by
  refine za_reader (cc := zo_G_answerAt) (maxL := 2) (ty := .int) (by decide) (Nat.le_of_ble_eq_true rfl) (fun _ _ => rfl) ?_
  intro p e sg m args below meth c H Q hx hb hml hts hown hP hK hN hret ls hl
  have hP : va_P D vwCl [(aG, .inr (3, [.ref aN, .ref aL, .ref aS, .ref aM, .ref aA, .int (nI ln0)])), (aA, .inl (cI, 24, .inl An))] H := hP
  have hl : lv_has ls 2 [(0, .ref aG), (1, .int (nI x))] := hl
  have hf26 := hts _ zw_124
  refine lv_aload_n hx hb zd_G_answerAt_0 rfl (lv_at hl 0 rfl) ?_
  refine va_get (D := D) (ci := 3) (v := .ref aA) (C := zs_G) (T := zt_G) (N := 6) hx hb hts zi_G hown hK hP 0 rfl rfl 4 (by decide) hf26 (fun _ h9 => h9) rfl zd_G_answerAt_1 ?_
  refine lv_iload_n hx hb zd_G_answerAt_4 rfl (lv_at hl 1 rfl) ?_
  refine za_ild hx hb hK hP 1 0 rfl rfl (k := x) (by omega) (by decide) zd_G_answerAt_5 ?_
  exact hret _ _ _ (rfl) zd_G_answerAt_6
end
section
def zr_N_init : Room := { frames := 1, cells := 2, slots := 120, locals := 20 }
set_option maxHeartbeats 4000000 in
set_option maxRecDepth 100000 in
theorem zc_N_init (ln : Launch) (D : va_G) (cI cZ : ClassId) (sz : Nat) (aN : Nat) : Met ln zm_N_init (Cond.code zm_N_init zo_N_init 1 none :: zb_big) zr_N_init (za_Pw D vwCl [(cI, .int), (cZ, .boolean)] [.ref aN] [(aN, .inr (0, [.null, .null, .int (nI 0)]))] sz) (va_Qv (fun (u : Nat × Nat) => True) (za_B D vwCl [(aN, .inr (0, [.null, .null, .int (nI 0)]))] sz (fun (u : Nat × Nat) => [(aN, .inr (0, [.ref u.1, .ref u.2, .int (nI 0)])), (u.1, .inl (cI, 96, .inl (fun _ => nI 0))), (u.2, .inl (cI, 24, .inl (fun _ => nI 0)))])) (va_A [(aN, .inr (0, [.null, .null, .int (nI 0)]))] sz)) 2 120 (va_A [(aN, .inr (0, [.null, .null, .int (nI 0)]))] sz) := by
  refine za_wv (cc := zo_N_init) (maxL := 1) (by decide) (Nat.le_of_ble_eq_true rfl) ?_
  intro p e sg m args below meth c H0 A Q hx hb hml hts hown hmn hP hK hN hD hA hS hret ls hl
  have hP : va_P D vwCl [(aN, .inr (0, [.null, .null, .int (nI 0)]))] H0 := hP
  have hD : va_D A [(aN, .inr (0, [.null, .null, .int (nI 0)]))] := hD
  have hl : lv_has ls 1 [(0, .ref aN)] := hl
  have ha_int := hts _ zw_66
  have hf9 := hts _ zw_56
  have hf15 := hts _ zw_57
  refine lv_aload_n hx hb zd_N_init_0 rfl (lv_at hl 0 rfl) ?_
  refine W.objInit hx hb hown (hts _ zw_55) (hts _ zw_48) (hts _ zw_49) rfl (by rw [hml]; exact hl.1) rfl zd_N_init_1 (Nat.le_of_ble_eq_true rfl) (Nat.le_of_ble_eq_true rfl) ?_
  refine W.eq (g2 := F0 m 4 ls []) rfl ?_
  refine lv_aload_n hx hb zd_N_init_4 rfl (lv_at hl 0 rfl) ?_
  refine lv_bipush (v := nI 96) hx hb zd_N_init_5 (by decide) ?_
  refine za_newI hx hb ha_int hK hP hD hS hA (N := 96) (by decide) (by decide) (Nat.le_of_ble_eq_true rfl) (Nat.le_of_ble_eq_true rfl) zd_N_init_7 (fun q7 H hP hD hS => ?_)
  refine W.widen (k := 1) (n := 96) (by omega) (by omega) ?_
  have hP : va_P D vwCl [(aN, .inr (0, [.null, .null, .int (nI 0)])), (q7, .inl (cI, 96, .inl (fun _ => nI 0)))] H := hP
  have hD : va_D A [(aN, .inr (0, [.null, .null, .int (nI 0)])), (q7, .inl (cI, 96, .inl (fun _ => nI 0)))] := hD
  refine va_putF (D := D) (ci := 0) (v := .ref q7) (ty := .array .int) (C := zs_N) (T := zt_N) (N := 3) hx hb hts zi_N zy_N zk_N zn_N hown hK hP hD hS 0 rfl rfl 0 (by decide) hf9 (fun _ h9 => h9) rfl hmn rfl (by decide +kernel) rfl rfl (Nat.le_of_ble_eq_true rfl) zd_N_init_9 (fun H locs hP hD hS => ?_)
  have hP : va_P D vwCl [(aN, .inr (0, [.ref q7, .null, .int (nI 0)])), (q7, .inl (cI, 96, .inl (fun _ => nI 0)))] H := hP
  have hD : va_D A [(aN, .inr (0, [.ref q7, .null, .int (nI 0)])), (q7, .inl (cI, 96, .inl (fun _ => nI 0)))] := hD
  refine lv_aload_n hx hb zd_N_init_12 rfl (lv_at hl 0 rfl) ?_
  refine lv_bipush (v := nI 24) hx hb zd_N_init_13 (by decide) ?_
  refine za_newI hx hb ha_int hK hP hD hS hA (N := 24) (by decide) (by decide) (Nat.le_of_ble_eq_true rfl) (Nat.le_of_ble_eq_true rfl) zd_N_init_15 (fun q15 H hP hD hS => ?_)
  refine W.widen (k := 2) (n := 120) (by omega) (by omega) ?_
  have hP : va_P D vwCl [(aN, .inr (0, [.ref q7, .null, .int (nI 0)])), (q7, .inl (cI, 96, .inl (fun _ => nI 0))), (q15, .inl (cI, 24, .inl (fun _ => nI 0)))] H := hP
  have hD : va_D A [(aN, .inr (0, [.ref q7, .null, .int (nI 0)])), (q7, .inl (cI, 96, .inl (fun _ => nI 0))), (q15, .inl (cI, 24, .inl (fun _ => nI 0)))] := hD
  refine va_putF (D := D) (ci := 0) (v := .ref q15) (ty := .array .int) (C := zs_N) (T := zt_N) (N := 3) hx hb hts zi_N zy_N zk_N zn_N hown hK hP hD hS 0 rfl rfl 1 (by decide) hf15 (fun _ h9 => h9) rfl hmn rfl (by decide +kernel) rfl rfl (Nat.le_of_ble_eq_true rfl) zd_N_init_17 (fun H locs hP hD hS => ?_)
  have hP : va_P D vwCl [(aN, .inr (0, [.ref q7, .ref q15, .int (nI 0)])), (q7, .inl (cI, 96, .inl (fun _ => nI 0))), (q15, .inl (cI, 24, .inl (fun _ => nI 0)))] H := hP
  have hD : va_D A [(aN, .inr (0, [.ref q7, .ref q15, .int (nI 0)])), (q7, .inl (cI, 96, .inl (fun _ => nI 0))), (q15, .inl (cI, 24, .inl (fun _ => nI 0)))] := hD
  have hP9 : va_P D vwCl [(aN, .inr (0, [.ref q7, .ref q15, .int (nI 0)])), (q7, .inl (cI, 96, .inl (fun _ => nI 0))), (q15, .inl (cI, 24, .inl (fun _ => nI 0)))] H := hP
  have hD9 : va_D A [(aN, .inr (0, [.ref q7, .ref q15, .int (nI 0)])), (q7, .inl (cI, 96, .inl (fun _ => nI 0))), (q15, .inl (cI, 24, .inl (fun _ => nI 0)))] := hD
  exact hret ⟨q7, q15⟩ _ _ _ _ (trivial) hP9 hD9 hS zd_N_init_20
def zr_L_init : Room := { frames := 1, cells := 3, slots := 696, locals := 20 }
set_option maxHeartbeats 4000000 in
set_option maxRecDepth 100000 in
theorem zc_L_init (ln : Launch) (D : va_G) (cI cZ : ClassId) (sz : Nat) (aL : Nat) (aN : Nat) : Met ln zm_L_init (Cond.code zm_L_init zo_L_init 2 none :: zb_big) zr_L_init (za_Pw D vwCl [(cI, .int), (cZ, .boolean)] [.ref aL, .ref aN] [(aL, .inr (1, [.null, .null, .null, .null, .int (nI 0), .int (nI 0), .int (za_bi false)]))] sz) (va_Qv (fun (u : Nat × Nat × Nat) => True) (za_B D vwCl [(aL, .inr (1, [.null, .null, .null, .null, .int (nI 0), .int (nI 0), .int (za_bi false)]))] sz (fun (u : Nat × Nat × Nat) => [(aL, .inr (1, [.ref aN, .ref u.1, .ref u.2.1, .ref u.2.2, .int (nI 0), .int (nI 0), .int (za_bi false)])), (u.1, .inl (cI, 576, .inl (fun _ => nI 0))), (u.2.1, .inl (cI, 96, .inl (fun _ => nI 0))), (u.2.2, .inl (cI, 24, .inl (fun _ => nI 0)))])) (va_A [(aL, .inr (1, [.null, .null, .null, .null, .int (nI 0), .int (nI 0), .int (za_bi false)]))] sz)) 3 696 (va_A [(aL, .inr (1, [.null, .null, .null, .null, .int (nI 0), .int (nI 0), .int (za_bi false)]))] sz) := by
  refine za_wv (cc := zo_L_init) (maxL := 2) (by decide) (Nat.le_of_ble_eq_true rfl) ?_
  intro p e sg m args below meth c H0 A Q hx hb hml hts hown hmn hP hK hN hD hA hS hret ls hl
  have hP : va_P D vwCl [(aL, .inr (1, [.null, .null, .null, .null, .int (nI 0), .int (nI 0), .int (za_bi false)]))] H0 := hP
  have hD : va_D A [(aL, .inr (1, [.null, .null, .null, .null, .int (nI 0), .int (nI 0), .int (za_bi false)]))] := hD
  have hl : lv_has ls 2 [(0, .ref aL), (1, .ref aN)] := hl
  have hf9 := hts _ zw_73
  have ha_int := hts _ zw_66
  have hf15 := hts _ zw_74
  have hf19 := hts _ zw_75
  have hf22 := hts _ zw_76
  refine lv_aload_n hx hb zd_L_init_0 rfl (lv_at hl 0 rfl) ?_
  refine W.objInit hx hb hown (hts _ zw_72) (hts _ zw_48) (hts _ zw_49) rfl (by rw [hml]; exact hl.1) rfl zd_L_init_1 (Nat.le_of_ble_eq_true rfl) (Nat.le_of_ble_eq_true rfl) ?_
  refine W.eq (g2 := F0 m 4 ls []) rfl ?_
  refine lv_aload_n hx hb zd_L_init_4 rfl (lv_at hl 0 rfl) ?_
  refine lv_aload_n hx hb zd_L_init_5 rfl (lv_at hl 1 rfl) ?_
  refine va_putF (D := D) (ci := 1) (v := .ref aN) (ty := .object "AlikeStates$Net") (C := zs_L) (T := zt_L) (N := 7) hx hb hts zi_L zy_L zk_L zn_L hown hK hP hD hS 0 rfl rfl 0 (by decide) hf9 (fun _ h9 => h9) rfl hmn rfl (by decide +kernel) rfl rfl (Nat.le_of_ble_eq_true rfl) zd_L_init_6 (fun H locs hP hD hS => ?_)
  have hP : va_P D vwCl [(aL, .inr (1, [.ref aN, .null, .null, .null, .int (nI 0), .int (nI 0), .int (za_bi false)]))] H := hP
  have hD : va_D A [(aL, .inr (1, [.ref aN, .null, .null, .null, .int (nI 0), .int (nI 0), .int (za_bi false)]))] := hD
  refine lv_aload_n hx hb zd_L_init_9 rfl (lv_at hl 0 rfl) ?_
  refine lv_sipush (v := nI 576) hx hb zd_L_init_10 (by decide) ?_
  refine za_newI hx hb ha_int hK hP hD hS hA (N := 576) (by decide) (by decide) (Nat.le_of_ble_eq_true rfl) (Nat.le_of_ble_eq_true rfl) zd_L_init_13 (fun q13 H hP hD hS => ?_)
  refine W.widen (k := 1) (n := 576) (by omega) (by omega) ?_
  have hP : va_P D vwCl [(aL, .inr (1, [.ref aN, .null, .null, .null, .int (nI 0), .int (nI 0), .int (za_bi false)])), (q13, .inl (cI, 576, .inl (fun _ => nI 0)))] H := hP
  have hD : va_D A [(aL, .inr (1, [.ref aN, .null, .null, .null, .int (nI 0), .int (nI 0), .int (za_bi false)])), (q13, .inl (cI, 576, .inl (fun _ => nI 0)))] := hD
  refine va_putF (D := D) (ci := 1) (v := .ref q13) (ty := .array .int) (C := zs_L) (T := zt_L) (N := 7) hx hb hts zi_L zy_L zk_L zn_L hown hK hP hD hS 0 rfl rfl 1 (by decide) hf15 (fun _ h9 => h9) rfl hmn rfl (by decide +kernel) rfl rfl (Nat.le_of_ble_eq_true rfl) zd_L_init_15 (fun H locs hP hD hS => ?_)
  have hP : va_P D vwCl [(aL, .inr (1, [.ref aN, .ref q13, .null, .null, .int (nI 0), .int (nI 0), .int (za_bi false)])), (q13, .inl (cI, 576, .inl (fun _ => nI 0)))] H := hP
  have hD : va_D A [(aL, .inr (1, [.ref aN, .ref q13, .null, .null, .int (nI 0), .int (nI 0), .int (za_bi false)])), (q13, .inl (cI, 576, .inl (fun _ => nI 0)))] := hD
  refine lv_aload_n hx hb zd_L_init_18 rfl (lv_at hl 0 rfl) ?_
  refine lv_bipush (v := nI 96) hx hb zd_L_init_19 (by decide) ?_
  refine za_newI hx hb ha_int hK hP hD hS hA (N := 96) (by decide) (by decide) (Nat.le_of_ble_eq_true rfl) (Nat.le_of_ble_eq_true rfl) zd_L_init_21 (fun q21 H hP hD hS => ?_)
  refine W.widen (k := 2) (n := 672) (by omega) (by omega) ?_
  have hP : va_P D vwCl [(aL, .inr (1, [.ref aN, .ref q13, .null, .null, .int (nI 0), .int (nI 0), .int (za_bi false)])), (q13, .inl (cI, 576, .inl (fun _ => nI 0))), (q21, .inl (cI, 96, .inl (fun _ => nI 0)))] H := hP
  have hD : va_D A [(aL, .inr (1, [.ref aN, .ref q13, .null, .null, .int (nI 0), .int (nI 0), .int (za_bi false)])), (q13, .inl (cI, 576, .inl (fun _ => nI 0))), (q21, .inl (cI, 96, .inl (fun _ => nI 0)))] := hD
  refine va_putF (D := D) (ci := 1) (v := .ref q21) (ty := .array .int) (C := zs_L) (T := zt_L) (N := 7) hx hb hts zi_L zy_L zk_L zn_L hown hK hP hD hS 0 rfl rfl 2 (by decide) hf19 (fun _ h9 => h9) rfl hmn rfl (by decide +kernel) rfl rfl (Nat.le_of_ble_eq_true rfl) zd_L_init_23 (fun H locs hP hD hS => ?_)
  have hP : va_P D vwCl [(aL, .inr (1, [.ref aN, .ref q13, .ref q21, .null, .int (nI 0), .int (nI 0), .int (za_bi false)])), (q13, .inl (cI, 576, .inl (fun _ => nI 0))), (q21, .inl (cI, 96, .inl (fun _ => nI 0)))] H := hP
  have hD : va_D A [(aL, .inr (1, [.ref aN, .ref q13, .ref q21, .null, .int (nI 0), .int (nI 0), .int (za_bi false)])), (q13, .inl (cI, 576, .inl (fun _ => nI 0))), (q21, .inl (cI, 96, .inl (fun _ => nI 0)))] := hD
  refine lv_aload_n hx hb zd_L_init_26 rfl (lv_at hl 0 rfl) ?_
  refine lv_bipush (v := nI 24) hx hb zd_L_init_27 (by decide) ?_
  refine za_newI hx hb ha_int hK hP hD hS hA (N := 24) (by decide) (by decide) (Nat.le_of_ble_eq_true rfl) (Nat.le_of_ble_eq_true rfl) zd_L_init_29 (fun q29 H hP hD hS => ?_)
  refine W.widen (k := 3) (n := 696) (by omega) (by omega) ?_
  have hP : va_P D vwCl [(aL, .inr (1, [.ref aN, .ref q13, .ref q21, .null, .int (nI 0), .int (nI 0), .int (za_bi false)])), (q13, .inl (cI, 576, .inl (fun _ => nI 0))), (q21, .inl (cI, 96, .inl (fun _ => nI 0))), (q29, .inl (cI, 24, .inl (fun _ => nI 0)))] H := hP
  have hD : va_D A [(aL, .inr (1, [.ref aN, .ref q13, .ref q21, .null, .int (nI 0), .int (nI 0), .int (za_bi false)])), (q13, .inl (cI, 576, .inl (fun _ => nI 0))), (q21, .inl (cI, 96, .inl (fun _ => nI 0))), (q29, .inl (cI, 24, .inl (fun _ => nI 0)))] := hD
  refine va_putF (D := D) (ci := 1) (v := .ref q29) (ty := .array .int) (C := zs_L) (T := zt_L) (N := 7) hx hb hts zi_L zy_L zk_L zn_L hown hK hP hD hS 0 rfl rfl 3 (by decide) hf22 (fun _ h9 => h9) rfl hmn rfl (by decide +kernel) rfl rfl (Nat.le_of_ble_eq_true rfl) zd_L_init_31 (fun H locs hP hD hS => ?_)
  have hP : va_P D vwCl [(aL, .inr (1, [.ref aN, .ref q13, .ref q21, .ref q29, .int (nI 0), .int (nI 0), .int (za_bi false)])), (q13, .inl (cI, 576, .inl (fun _ => nI 0))), (q21, .inl (cI, 96, .inl (fun _ => nI 0))), (q29, .inl (cI, 24, .inl (fun _ => nI 0)))] H := hP
  have hD : va_D A [(aL, .inr (1, [.ref aN, .ref q13, .ref q21, .ref q29, .int (nI 0), .int (nI 0), .int (za_bi false)])), (q13, .inl (cI, 576, .inl (fun _ => nI 0))), (q21, .inl (cI, 96, .inl (fun _ => nI 0))), (q29, .inl (cI, 24, .inl (fun _ => nI 0)))] := hD
  have hP9 : va_P D vwCl [(aL, .inr (1, [.ref aN, .ref q13, .ref q21, .ref q29, .int (nI 0), .int (nI 0), .int (za_bi false)])), (q13, .inl (cI, 576, .inl (fun _ => nI 0))), (q21, .inl (cI, 96, .inl (fun _ => nI 0))), (q29, .inl (cI, 24, .inl (fun _ => nI 0)))] H := hP
  have hD9 : va_D A [(aL, .inr (1, [.ref aN, .ref q13, .ref q21, .ref q29, .int (nI 0), .int (nI 0), .int (za_bi false)])), (q13, .inl (cI, 576, .inl (fun _ => nI 0))), (q21, .inl (cI, 96, .inl (fun _ => nI 0))), (q29, .inl (cI, 24, .inl (fun _ => nI 0)))] := hD
  exact hret ⟨q13, q21, q29⟩ _ _ _ _ (trivial) hP9 hD9 hS zd_L_init_34
def zr_C_init : Room := { frames := 1, cells := 2, slots := 120, locals := 20 }
set_option maxHeartbeats 4000000 in
set_option maxRecDepth 100000 in
theorem zc_C_init (ln : Launch) (D : va_G) (cI cZ : ClassId) (sz : Nat) (aV : Nat) (aN : Nat) : Met ln zm_C_init (Cond.code zm_C_init zo_C_init 2 none :: zb_big) zr_C_init (za_Pw D vwCl [(cI, .int), (cZ, .boolean)] [.ref aV, .ref aN] [(aV, .inr (2, [.null, .null, .null, .int (za_bi false)]))] sz) (va_Qv (fun (u : Nat × Nat) => True) (za_B D vwCl [(aV, .inr (2, [.null, .null, .null, .int (za_bi false)]))] sz (fun (u : Nat × Nat) => [(aV, .inr (2, [.ref aN, .ref u.1, .ref u.2, .int (za_bi false)])), (u.1, .inl (cI, 24, .inl (fun _ => nI 0))), (u.2, .inl (cI, 96, .inl (fun _ => nI 0)))])) (va_A [(aV, .inr (2, [.null, .null, .null, .int (za_bi false)]))] sz)) 2 120 (va_A [(aV, .inr (2, [.null, .null, .null, .int (za_bi false)]))] sz) := by
  refine za_wv (cc := zo_C_init) (maxL := 2) (by decide) (Nat.le_of_ble_eq_true rfl) ?_
  intro p e sg m args below meth c H0 A Q hx hb hml hts hown hmn hP hK hN hD hA hS hret ls hl
  have hP : va_P D vwCl [(aV, .inr (2, [.null, .null, .null, .int (za_bi false)]))] H0 := hP
  have hD : va_D A [(aV, .inr (2, [.null, .null, .null, .int (za_bi false)]))] := hD
  have hl : lv_has ls 2 [(0, .ref aV), (1, .ref aN)] := hl
  have hf9 := hts _ zw_101
  have ha_int := hts _ zw_66
  have hf15 := hts _ zw_102
  have hf19 := hts _ zw_103
  refine lv_aload_n hx hb zd_C_init_0 rfl (lv_at hl 0 rfl) ?_
  refine W.objInit hx hb hown (hts _ zw_100) (hts _ zw_48) (hts _ zw_49) rfl (by rw [hml]; exact hl.1) rfl zd_C_init_1 (Nat.le_of_ble_eq_true rfl) (Nat.le_of_ble_eq_true rfl) ?_
  refine W.eq (g2 := F0 m 4 ls []) rfl ?_
  refine lv_aload_n hx hb zd_C_init_4 rfl (lv_at hl 0 rfl) ?_
  refine lv_aload_n hx hb zd_C_init_5 rfl (lv_at hl 1 rfl) ?_
  refine va_putF (D := D) (ci := 2) (v := .ref aN) (ty := .object "AlikeStates$Net") (C := zs_C) (T := zt_C) (N := 4) hx hb hts zi_C zy_C zk_C zn_C hown hK hP hD hS 0 rfl rfl 0 (by decide) hf9 (fun _ h9 => h9) rfl hmn rfl (by decide +kernel) rfl rfl (Nat.le_of_ble_eq_true rfl) zd_C_init_6 (fun H locs hP hD hS => ?_)
  have hP : va_P D vwCl [(aV, .inr (2, [.ref aN, .null, .null, .int (za_bi false)]))] H := hP
  have hD : va_D A [(aV, .inr (2, [.ref aN, .null, .null, .int (za_bi false)]))] := hD
  refine lv_aload_n hx hb zd_C_init_9 rfl (lv_at hl 0 rfl) ?_
  refine lv_bipush (v := nI 24) hx hb zd_C_init_10 (by decide) ?_
  refine za_newI hx hb ha_int hK hP hD hS hA (N := 24) (by decide) (by decide) (Nat.le_of_ble_eq_true rfl) (Nat.le_of_ble_eq_true rfl) zd_C_init_12 (fun q12 H hP hD hS => ?_)
  refine W.widen (k := 1) (n := 24) (by omega) (by omega) ?_
  have hP : va_P D vwCl [(aV, .inr (2, [.ref aN, .null, .null, .int (za_bi false)])), (q12, .inl (cI, 24, .inl (fun _ => nI 0)))] H := hP
  have hD : va_D A [(aV, .inr (2, [.ref aN, .null, .null, .int (za_bi false)])), (q12, .inl (cI, 24, .inl (fun _ => nI 0)))] := hD
  refine va_putF (D := D) (ci := 2) (v := .ref q12) (ty := .array .int) (C := zs_C) (T := zt_C) (N := 4) hx hb hts zi_C zy_C zk_C zn_C hown hK hP hD hS 0 rfl rfl 1 (by decide) hf15 (fun _ h9 => h9) rfl hmn rfl (by decide +kernel) rfl rfl (Nat.le_of_ble_eq_true rfl) zd_C_init_14 (fun H locs hP hD hS => ?_)
  have hP : va_P D vwCl [(aV, .inr (2, [.ref aN, .ref q12, .null, .int (za_bi false)])), (q12, .inl (cI, 24, .inl (fun _ => nI 0)))] H := hP
  have hD : va_D A [(aV, .inr (2, [.ref aN, .ref q12, .null, .int (za_bi false)])), (q12, .inl (cI, 24, .inl (fun _ => nI 0)))] := hD
  refine lv_aload_n hx hb zd_C_init_17 rfl (lv_at hl 0 rfl) ?_
  refine lv_bipush (v := nI 96) hx hb zd_C_init_18 (by decide) ?_
  refine za_newI hx hb ha_int hK hP hD hS hA (N := 96) (by decide) (by decide) (Nat.le_of_ble_eq_true rfl) (Nat.le_of_ble_eq_true rfl) zd_C_init_20 (fun q20 H hP hD hS => ?_)
  refine W.widen (k := 2) (n := 120) (by omega) (by omega) ?_
  have hP : va_P D vwCl [(aV, .inr (2, [.ref aN, .ref q12, .null, .int (za_bi false)])), (q12, .inl (cI, 24, .inl (fun _ => nI 0))), (q20, .inl (cI, 96, .inl (fun _ => nI 0)))] H := hP
  have hD : va_D A [(aV, .inr (2, [.ref aN, .ref q12, .null, .int (za_bi false)])), (q12, .inl (cI, 24, .inl (fun _ => nI 0))), (q20, .inl (cI, 96, .inl (fun _ => nI 0)))] := hD
  refine va_putF (D := D) (ci := 2) (v := .ref q20) (ty := .array .int) (C := zs_C) (T := zt_C) (N := 4) hx hb hts zi_C zy_C zk_C zn_C hown hK hP hD hS 0 rfl rfl 2 (by decide) hf19 (fun _ h9 => h9) rfl hmn rfl (by decide +kernel) rfl rfl (Nat.le_of_ble_eq_true rfl) zd_C_init_22 (fun H locs hP hD hS => ?_)
  have hP : va_P D vwCl [(aV, .inr (2, [.ref aN, .ref q12, .ref q20, .int (za_bi false)])), (q12, .inl (cI, 24, .inl (fun _ => nI 0))), (q20, .inl (cI, 96, .inl (fun _ => nI 0)))] H := hP
  have hD : va_D A [(aV, .inr (2, [.ref aN, .ref q12, .ref q20, .int (za_bi false)])), (q12, .inl (cI, 24, .inl (fun _ => nI 0))), (q20, .inl (cI, 96, .inl (fun _ => nI 0)))] := hD
  have hP9 : va_P D vwCl [(aV, .inr (2, [.ref aN, .ref q12, .ref q20, .int (za_bi false)])), (q12, .inl (cI, 24, .inl (fun _ => nI 0))), (q20, .inl (cI, 96, .inl (fun _ => nI 0)))] H := hP
  have hD9 : va_D A [(aV, .inr (2, [.ref aN, .ref q12, .ref q20, .int (za_bi false)])), (q12, .inl (cI, 24, .inl (fun _ => nI 0))), (q20, .inl (cI, 96, .inl (fun _ => nI 0)))] := hD
  exact hret ⟨q12, q20⟩ _ _ _ _ (trivial) hP9 hD9 hS zd_C_init_25
def zr_G_init : Room := { frames := 1, cells := 3, slots := 50, locals := 20 }
set_option maxHeartbeats 4000000 in
set_option maxRecDepth 100000 in
theorem zc_G_init (ln : Launch) (D : va_G) (cI cZ : ClassId) (sz : Nat) (aG : Nat) (aN : Nat) (aL : Nat) : Met ln zm_G_init (Cond.code zm_G_init zo_G_init 3 none :: zb_big) zr_G_init (za_Pw D vwCl [(cI, .int), (cZ, .boolean)] [.ref aG, .ref aN, .ref aL] [(aG, .inr (3, [.null, .null, .null, .null, .null, .int (nI 0)]))] sz) (va_Qv (fun (u : Nat × Nat × Nat) => True) (za_B D vwCl [(aG, .inr (3, [.null, .null, .null, .null, .null, .int (nI 0)]))] sz (fun (u : Nat × Nat × Nat) => [(aG, .inr (3, [.ref aN, .ref aL, .ref u.1, .ref u.2.1, .ref u.2.2, .int (nI 0)])), (u.1, .inl (cI, 2, .inl (fun _ => nI 0))), (u.2.1, .inl (cI, 24, .inl (fun _ => nI 0))), (u.2.2, .inl (cI, 24, .inl (fun _ => nI 0)))])) (va_A [(aG, .inr (3, [.null, .null, .null, .null, .null, .int (nI 0)]))] sz)) 3 50 (va_A [(aG, .inr (3, [.null, .null, .null, .null, .null, .int (nI 0)]))] sz) := by
  refine za_wv (cc := zo_G_init) (maxL := 3) (by decide) (Nat.le_of_ble_eq_true rfl) ?_
  intro p e sg m args below meth c H0 A Q hx hb hml hts hown hmn hP hK hN hD hA hS hret ls hl
  have hP : va_P D vwCl [(aG, .inr (3, [.null, .null, .null, .null, .null, .int (nI 0)]))] H0 := hP
  have hD : va_D A [(aG, .inr (3, [.null, .null, .null, .null, .null, .int (nI 0)]))] := hD
  have hl : lv_has ls 3 [(0, .ref aG), (1, .ref aN), (2, .ref aL)] := hl
  have hf9 := hts _ zw_120
  have hf15 := hts _ zw_121
  have ha_int := hts _ zw_66
  have hf19 := hts _ zw_122
  have hf23 := hts _ zw_123
  have hf26 := hts _ zw_124
  refine lv_aload_n hx hb zd_G_init_0 rfl (lv_at hl 0 rfl) ?_
  refine W.objInit hx hb hown (hts _ zw_119) (hts _ zw_48) (hts _ zw_49) rfl (by rw [hml]; exact hl.1) rfl zd_G_init_1 (Nat.le_of_ble_eq_true rfl) (Nat.le_of_ble_eq_true rfl) ?_
  refine W.eq (g2 := F0 m 4 ls []) rfl ?_
  refine lv_aload_n hx hb zd_G_init_4 rfl (lv_at hl 0 rfl) ?_
  refine lv_aload_n hx hb zd_G_init_5 rfl (lv_at hl 1 rfl) ?_
  refine va_putF (D := D) (ci := 3) (v := .ref aN) (ty := .object "AlikeStates$Net") (C := zs_G) (T := zt_G) (N := 6) hx hb hts zi_G zy_G zk_G zn_G hown hK hP hD hS 0 rfl rfl 0 (by decide) hf9 (fun _ h9 => h9) rfl hmn rfl (by decide +kernel) rfl rfl (Nat.le_of_ble_eq_true rfl) zd_G_init_6 (fun H locs hP hD hS => ?_)
  have hP : va_P D vwCl [(aG, .inr (3, [.ref aN, .null, .null, .null, .null, .int (nI 0)]))] H := hP
  have hD : va_D A [(aG, .inr (3, [.ref aN, .null, .null, .null, .null, .int (nI 0)]))] := hD
  refine lv_aload_n hx hb zd_G_init_9 rfl (lv_at hl 0 rfl) ?_
  refine lv_aload_n hx hb zd_G_init_10 rfl (lv_at hl 2 rfl) ?_
  refine va_putF (D := D) (ci := 3) (v := .ref aL) (ty := .object "AlikeStates$Likeness") (C := zs_G) (T := zt_G) (N := 6) hx hb hts zi_G zy_G zk_G zn_G hown hK hP hD hS 0 rfl rfl 1 (by decide) hf15 (fun _ h9 => h9) rfl hmn rfl (by decide +kernel) rfl rfl (Nat.le_of_ble_eq_true rfl) zd_G_init_11 (fun H locs hP hD hS => ?_)
  have hP : va_P D vwCl [(aG, .inr (3, [.ref aN, .ref aL, .null, .null, .null, .int (nI 0)]))] H := hP
  have hD : va_D A [(aG, .inr (3, [.ref aN, .ref aL, .null, .null, .null, .int (nI 0)]))] := hD
  refine lv_aload_n hx hb zd_G_init_14 rfl (lv_at hl 0 rfl) ?_
  refine lv_iconst (v := nI 2) hx hb zd_G_init_15 (by decide) ?_
  refine za_newI hx hb ha_int hK hP hD hS hA (N := 2) (by decide) (by decide) (Nat.le_of_ble_eq_true rfl) (Nat.le_of_ble_eq_true rfl) zd_G_init_16 (fun q16 H hP hD hS => ?_)
  refine W.widen (k := 1) (n := 2) (by omega) (by omega) ?_
  have hP : va_P D vwCl [(aG, .inr (3, [.ref aN, .ref aL, .null, .null, .null, .int (nI 0)])), (q16, .inl (cI, 2, .inl (fun _ => nI 0)))] H := hP
  have hD : va_D A [(aG, .inr (3, [.ref aN, .ref aL, .null, .null, .null, .int (nI 0)])), (q16, .inl (cI, 2, .inl (fun _ => nI 0)))] := hD
  refine va_putF (D := D) (ci := 3) (v := .ref q16) (ty := .array .int) (C := zs_G) (T := zt_G) (N := 6) hx hb hts zi_G zy_G zk_G zn_G hown hK hP hD hS 0 rfl rfl 2 (by decide) hf19 (fun _ h9 => h9) rfl hmn rfl (by decide +kernel) rfl rfl (Nat.le_of_ble_eq_true rfl) zd_G_init_18 (fun H locs hP hD hS => ?_)
  have hP : va_P D vwCl [(aG, .inr (3, [.ref aN, .ref aL, .ref q16, .null, .null, .int (nI 0)])), (q16, .inl (cI, 2, .inl (fun _ => nI 0)))] H := hP
  have hD : va_D A [(aG, .inr (3, [.ref aN, .ref aL, .ref q16, .null, .null, .int (nI 0)])), (q16, .inl (cI, 2, .inl (fun _ => nI 0)))] := hD
  refine lv_aload_n hx hb zd_G_init_21 rfl (lv_at hl 0 rfl) ?_
  refine lv_bipush (v := nI 24) hx hb zd_G_init_22 (by decide) ?_
  refine za_newI hx hb ha_int hK hP hD hS hA (N := 24) (by decide) (by decide) (Nat.le_of_ble_eq_true rfl) (Nat.le_of_ble_eq_true rfl) zd_G_init_24 (fun q24 H hP hD hS => ?_)
  refine W.widen (k := 2) (n := 26) (by omega) (by omega) ?_
  have hP : va_P D vwCl [(aG, .inr (3, [.ref aN, .ref aL, .ref q16, .null, .null, .int (nI 0)])), (q16, .inl (cI, 2, .inl (fun _ => nI 0))), (q24, .inl (cI, 24, .inl (fun _ => nI 0)))] H := hP
  have hD : va_D A [(aG, .inr (3, [.ref aN, .ref aL, .ref q16, .null, .null, .int (nI 0)])), (q16, .inl (cI, 2, .inl (fun _ => nI 0))), (q24, .inl (cI, 24, .inl (fun _ => nI 0)))] := hD
  refine va_putF (D := D) (ci := 3) (v := .ref q24) (ty := .array .int) (C := zs_G) (T := zt_G) (N := 6) hx hb hts zi_G zy_G zk_G zn_G hown hK hP hD hS 0 rfl rfl 3 (by decide) hf23 (fun _ h9 => h9) rfl hmn rfl (by decide +kernel) rfl rfl (Nat.le_of_ble_eq_true rfl) zd_G_init_26 (fun H locs hP hD hS => ?_)
  have hP : va_P D vwCl [(aG, .inr (3, [.ref aN, .ref aL, .ref q16, .ref q24, .null, .int (nI 0)])), (q16, .inl (cI, 2, .inl (fun _ => nI 0))), (q24, .inl (cI, 24, .inl (fun _ => nI 0)))] H := hP
  have hD : va_D A [(aG, .inr (3, [.ref aN, .ref aL, .ref q16, .ref q24, .null, .int (nI 0)])), (q16, .inl (cI, 2, .inl (fun _ => nI 0))), (q24, .inl (cI, 24, .inl (fun _ => nI 0)))] := hD
  refine lv_aload_n hx hb zd_G_init_29 rfl (lv_at hl 0 rfl) ?_
  refine lv_bipush (v := nI 24) hx hb zd_G_init_30 (by decide) ?_
  refine za_newI hx hb ha_int hK hP hD hS hA (N := 24) (by decide) (by decide) (Nat.le_of_ble_eq_true rfl) (Nat.le_of_ble_eq_true rfl) zd_G_init_32 (fun q32 H hP hD hS => ?_)
  refine W.widen (k := 3) (n := 50) (by omega) (by omega) ?_
  have hP : va_P D vwCl [(aG, .inr (3, [.ref aN, .ref aL, .ref q16, .ref q24, .null, .int (nI 0)])), (q16, .inl (cI, 2, .inl (fun _ => nI 0))), (q24, .inl (cI, 24, .inl (fun _ => nI 0))), (q32, .inl (cI, 24, .inl (fun _ => nI 0)))] H := hP
  have hD : va_D A [(aG, .inr (3, [.ref aN, .ref aL, .ref q16, .ref q24, .null, .int (nI 0)])), (q16, .inl (cI, 2, .inl (fun _ => nI 0))), (q24, .inl (cI, 24, .inl (fun _ => nI 0))), (q32, .inl (cI, 24, .inl (fun _ => nI 0)))] := hD
  refine va_putF (D := D) (ci := 3) (v := .ref q32) (ty := .array .int) (C := zs_G) (T := zt_G) (N := 6) hx hb hts zi_G zy_G zk_G zn_G hown hK hP hD hS 0 rfl rfl 4 (by decide) hf26 (fun _ h9 => h9) rfl hmn rfl (by decide +kernel) rfl rfl (Nat.le_of_ble_eq_true rfl) zd_G_init_34 (fun H locs hP hD hS => ?_)
  have hP : va_P D vwCl [(aG, .inr (3, [.ref aN, .ref aL, .ref q16, .ref q24, .ref q32, .int (nI 0)])), (q16, .inl (cI, 2, .inl (fun _ => nI 0))), (q24, .inl (cI, 24, .inl (fun _ => nI 0))), (q32, .inl (cI, 24, .inl (fun _ => nI 0)))] H := hP
  have hD : va_D A [(aG, .inr (3, [.ref aN, .ref aL, .ref q16, .ref q24, .ref q32, .int (nI 0)])), (q16, .inl (cI, 2, .inl (fun _ => nI 0))), (q24, .inl (cI, 24, .inl (fun _ => nI 0))), (q32, .inl (cI, 24, .inl (fun _ => nI 0)))] := hD
  have hP9 : va_P D vwCl [(aG, .inr (3, [.ref aN, .ref aL, .ref q16, .ref q24, .ref q32, .int (nI 0)])), (q16, .inl (cI, 2, .inl (fun _ => nI 0))), (q24, .inl (cI, 24, .inl (fun _ => nI 0))), (q32, .inl (cI, 24, .inl (fun _ => nI 0)))] H := hP
  have hD9 : va_D A [(aG, .inr (3, [.ref aN, .ref aL, .ref q16, .ref q24, .ref q32, .int (nI 0)])), (q16, .inl (cI, 2, .inl (fun _ => nI 0))), (q24, .inl (cI, 24, .inl (fun _ => nI 0))), (q32, .inl (cI, 24, .inl (fun _ => nI 0)))] := hD
  exact hret ⟨q16, q24, q32⟩ _ _ _ _ (trivial) hP9 hD9 hS zd_G_init_37
def zr_X_init : Room := { frames := 2, cells := 14, slots := 1006, locals := 42 }
set_option maxHeartbeats 4000000 in
set_option maxRecDepth 100000 in
theorem zc_X_init (ln : Launch) (D : va_G) (cI cZ : ClassId) (sz : Nat) (aX : Nat) : Met ln zm_X_init (Cond.code zm_X_init zo_X_init 1 none :: zb_big) zr_X_init (za_Pw D vwCl [(cI, .int), (cZ, .boolean)] [.ref aX] [(aX, .inr (4, [.null, .null, .null, .null]))] sz) (va_Qv (fun (u : Nat × Nat × Nat × Nat × Nat × Nat × Nat × Nat × Nat × Nat × Nat × Nat × Nat × Nat) => True) (za_B D vwCl [(aX, .inr (4, [.null, .null, .null, .null]))] sz (fun (u : Nat × Nat × Nat × Nat × Nat × Nat × Nat × Nat × Nat × Nat × Nat × Nat × Nat × Nat) => [(aX, .inr (4, [.ref u.1, .ref u.2.2.2.1, .ref u.2.2.2.2.2.2.2.1, .ref u.2.2.2.2.2.2.2.2.2.2.1])), (u.1, .inr (0, [.ref u.2.1, .ref u.2.2.1, .int (nI 0)])), (u.2.1, .inl (cI, 96, .inl (fun _ => nI 0))), (u.2.2.1, .inl (cI, 24, .inl (fun _ => nI 0))), (u.2.2.2.1, .inr (1, [.ref u.1, .ref u.2.2.2.2.1, .ref u.2.2.2.2.2.1, .ref u.2.2.2.2.2.2.1, .int (nI 0), .int (nI 0), .int (za_bi false)])), (u.2.2.2.2.1, .inl (cI, 576, .inl (fun _ => nI 0))), (u.2.2.2.2.2.1, .inl (cI, 96, .inl (fun _ => nI 0))), (u.2.2.2.2.2.2.1, .inl (cI, 24, .inl (fun _ => nI 0))), (u.2.2.2.2.2.2.2.1, .inr (2, [.ref u.1, .ref u.2.2.2.2.2.2.2.2.1, .ref u.2.2.2.2.2.2.2.2.2.1, .int (za_bi false)])), (u.2.2.2.2.2.2.2.2.1, .inl (cI, 24, .inl (fun _ => nI 0))), (u.2.2.2.2.2.2.2.2.2.1, .inl (cI, 96, .inl (fun _ => nI 0))), (u.2.2.2.2.2.2.2.2.2.2.1, .inr (3, [.ref u.1, .ref u.2.2.2.1, .ref u.2.2.2.2.2.2.2.2.2.2.2.1, .ref u.2.2.2.2.2.2.2.2.2.2.2.2.1, .ref u.2.2.2.2.2.2.2.2.2.2.2.2.2, .int (nI 0)])), (u.2.2.2.2.2.2.2.2.2.2.2.1, .inl (cI, 2, .inl (fun _ => nI 0))), (u.2.2.2.2.2.2.2.2.2.2.2.2.1, .inl (cI, 24, .inl (fun _ => nI 0))), (u.2.2.2.2.2.2.2.2.2.2.2.2.2, .inl (cI, 24, .inl (fun _ => nI 0)))])) (va_A [(aX, .inr (4, [.null, .null, .null, .null]))] sz)) 14 1006 (va_A [(aX, .inr (4, [.null, .null, .null, .null]))] sz) := by
  refine za_wv (cc := zo_X_init) (maxL := 1) (by decide) (Nat.le_of_ble_eq_true rfl) ?_
  intro p e sg m args below meth c H0 A Q hx hb hml hts hown hmn hP hK hN hD hA hS hret ls hl
  have hP : va_P D vwCl [(aX, .inr (4, [.null, .null, .null, .null]))] H0 := hP
  have hD : va_D A [(aX, .inr (4, [.null, .null, .null, .null]))] := hD
  have hl : lv_has ls 1 [(0, .ref aX)] := hl
  have hn_N := hts _ zw_50
  have hm_N := hts _ zw_51
  have ho_N := hts _ zw_36
  have hf10 := hts _ zw_139
  have hn_L := hts _ zw_67
  have hm_L := hts _ zw_68
  have ho_L := hts _ zw_37
  have hf21 := hts _ zw_140
  have hn_C := hts _ zw_95
  have hm_C := hts _ zw_96
  have ho_C := hts _ zw_38
  have hf28 := hts _ zw_141
  have hn_G := hts _ zw_114
  have hm_G := hts _ zw_115
  have ho_G := hts _ zw_39
  have hf37 := hts _ zw_142
  refine lv_aload_n hx hb zd_X_init_0 rfl (lv_at hl 0 rfl) ?_
  refine W.objInit hx hb hown (hts _ zw_47) (hts _ zw_48) (hts _ zw_49) rfl (by rw [hml]; exact hl.1) rfl zd_X_init_1 (Nat.le_of_ble_eq_true rfl) (Nat.le_of_ble_eq_true rfl) ?_
  refine W.eq (g2 := F0 m 4 ls []) rfl ?_
  refine lv_aload_n hx hb zd_X_init_4 rfl (lv_at hl 0 rfl) ?_
  refine va_new (D := D) (ci := 0) (fs := [.null, .null, .int (nI 0)]) (C := zs_N) (T := zt_N) (N := 3) hx hb hts zi_N zy_N zk_N hown hn_N hm_N ho_N hK hP hD hS hA rfl (fun j hj => by rcases (show j = 0 ∨ j = 1 ∨ j = 2 by omega) with rfl | rfl | rfl <;> rfl) (Nat.le_of_ble_eq_true rfl) (Nat.le_of_ble_eq_true rfl) zd_X_init_5 (fun q5 H hP hD hS => ?_)
  refine W.widen (k := 1) (n := 3) (by omega) (by omega) ?_
  have hP : va_P D vwCl [(aX, .inr (4, [.null, .null, .null, .null])), (q5, .inr (0, [.null, .null, .int (nI 0)]))] H := hP
  have hD : va_D A [(aX, .inr (4, [.null, .null, .null, .null])), (q5, .inr (0, [.null, .null, .int (nI 0)]))] := hD
  refine lv_dup hx hb zd_X_init_8 rfl ?_
  refine za_wIv (As := []) (rest := [.ref q5, .ref aX]) (wr := [(aX, .inr (4, [.null, .null, .null, .null]))]) (wz := (fun u => [(aX, .inr (4, [.null, .null, .null, .null])), (q5, .inr (0, [.ref u.1, .ref u.2, .int (nI 0)])), (u.1, .inl (cI, 96, .inl (fun _ => nI 0))), (u.2, .inl (cI, 24, .inl (fun _ => nI 0)))])) ⟨hx, hb, hml, hown, hts⟩ (zc_N_init ln D cI cZ _ q5 ) (za_gI 0 hts zw_52 zw_53 zw_36 zw_54 (by decide +kernel) rfl ⟨Nat.le_of_ble_eq_true rfl, Nat.le_of_ble_eq_true rfl⟩) hK hN hP hD hS hA [1] [0] [0, 1, 2, 3] rfl rfl (by decide) (by decide) (by decide) (by decide) (fun _ => rfl) hl rfl rfl (Nat.le_of_ble_eq_true rfl) zd_X_init_9 ⟨Nat.le_of_ble_eq_true rfl, Nat.le_of_ble_eq_true rfl⟩ (fun u9 H locs hq9 hP hD hS => ?_)
  obtain ⟨aT_9, aC_9⟩ := u9
  refine W.widen (k := 3) (n := 123) (by omega) (by omega) ?_
  have hP : va_P D vwCl [(aX, .inr (4, [.null, .null, .null, .null])), (q5, .inr (0, [.ref aT_9, .ref aC_9, .int (nI 0)])), (aT_9, .inl (cI, 96, .inl (fun _ => nI 0))), (aC_9, .inl (cI, 24, .inl (fun _ => nI 0)))] H := hP
  have hD : va_D A [(aX, .inr (4, [.null, .null, .null, .null])), (q5, .inr (0, [.ref aT_9, .ref aC_9, .int (nI 0)])), (aT_9, .inl (cI, 96, .inl (fun _ => nI 0))), (aC_9, .inl (cI, 24, .inl (fun _ => nI 0)))] := hD
  refine va_putF (D := D) (ci := 4) (v := .ref q5) (ty := .object "AlikeStates$Net") (C := zs_X) (T := zt_X) (N := 4) hx hb hts zi_X zy_X zk_X zn_X hown hK hP hD hS 0 rfl rfl 0 (by decide) hf10 (fun _ h9 => h9) rfl hmn rfl (by decide +kernel) rfl rfl (Nat.le_of_ble_eq_true rfl) zd_X_init_12 (fun H locs hP hD hS => ?_)
  have hP : va_P D vwCl [(aX, .inr (4, [.ref q5, .null, .null, .null])), (q5, .inr (0, [.ref aT_9, .ref aC_9, .int (nI 0)])), (aT_9, .inl (cI, 96, .inl (fun _ => nI 0))), (aC_9, .inl (cI, 24, .inl (fun _ => nI 0)))] H := hP
  have hD : va_D A [(aX, .inr (4, [.ref q5, .null, .null, .null])), (q5, .inr (0, [.ref aT_9, .ref aC_9, .int (nI 0)])), (aT_9, .inl (cI, 96, .inl (fun _ => nI 0))), (aC_9, .inl (cI, 24, .inl (fun _ => nI 0)))] := hD
  refine lv_aload_n hx hb zd_X_init_15 rfl (lv_at hl 0 rfl) ?_
  refine va_new (D := D) (ci := 1) (fs := [.null, .null, .null, .null, .int (nI 0), .int (nI 0), .int (za_bi false)]) (C := zs_L) (T := zt_L) (N := 7) hx hb hts zi_L zy_L zk_L hown hn_L hm_L ho_L hK hP hD hS hA rfl (fun j hj => by rcases (show j = 0 ∨ j = 1 ∨ j = 2 ∨ j = 3 ∨ j = 4 ∨ j = 5 ∨ j = 6 by omega) with rfl | rfl | rfl | rfl | rfl | rfl | rfl <;> rfl) (Nat.le_of_ble_eq_true rfl) (Nat.le_of_ble_eq_true rfl) zd_X_init_16 (fun q16 H hP hD hS => ?_)
  refine W.widen (k := 4) (n := 130) (by omega) (by omega) ?_
  have hP : va_P D vwCl [(aX, .inr (4, [.ref q5, .null, .null, .null])), (q5, .inr (0, [.ref aT_9, .ref aC_9, .int (nI 0)])), (aT_9, .inl (cI, 96, .inl (fun _ => nI 0))), (aC_9, .inl (cI, 24, .inl (fun _ => nI 0))), (q16, .inr (1, [.null, .null, .null, .null, .int (nI 0), .int (nI 0), .int (za_bi false)]))] H := hP
  have hD : va_D A [(aX, .inr (4, [.ref q5, .null, .null, .null])), (q5, .inr (0, [.ref aT_9, .ref aC_9, .int (nI 0)])), (aT_9, .inl (cI, 96, .inl (fun _ => nI 0))), (aC_9, .inl (cI, 24, .inl (fun _ => nI 0))), (q16, .inr (1, [.null, .null, .null, .null, .int (nI 0), .int (nI 0), .int (za_bi false)]))] := hD
  refine lv_dup hx hb zd_X_init_19 rfl ?_
  refine lv_aload_n hx hb zd_X_init_20 rfl (lv_at hl 0 rfl) ?_
  refine va_get (D := D) (ci := 4) (v := .ref q5) (C := zs_X) (T := zt_X) (N := 4) hx hb hts zi_X hown hK hP 0 rfl rfl 0 (by decide) hf10 (fun _ h9 => h9) rfl zd_X_init_21 ?_
  refine za_wIv (As := [.ref q5]) (rest := [.ref q16, .ref aX]) (wr := [(aX, .inr (4, [.ref q5, .null, .null, .null])), (q5, .inr (0, [.ref aT_9, .ref aC_9, .int (nI 0)])), (aT_9, .inl (cI, 96, .inl (fun _ => nI 0))), (aC_9, .inl (cI, 24, .inl (fun _ => nI 0)))]) (wz := (fun u => [(aX, .inr (4, [.ref q5, .null, .null, .null])), (q5, .inr (0, [.ref aT_9, .ref aC_9, .int (nI 0)])), (aT_9, .inl (cI, 96, .inl (fun _ => nI 0))), (aC_9, .inl (cI, 24, .inl (fun _ => nI 0))), (q16, .inr (1, [.ref q5, .ref u.1, .ref u.2.1, .ref u.2.2, .int (nI 0), .int (nI 0), .int (za_bi false)])), (u.1, .inl (cI, 576, .inl (fun _ => nI 0))), (u.2.1, .inl (cI, 96, .inl (fun _ => nI 0))), (u.2.2, .inl (cI, 24, .inl (fun _ => nI 0)))])) ⟨hx, hb, hml, hown, hts⟩ (zc_L_init ln D cI cZ _ q16 q5 ) (za_gI 1 hts zw_69 zw_70 zw_37 zw_71 (by decide +kernel) rfl ⟨Nat.le_of_ble_eq_true rfl, Nat.le_of_ble_eq_true rfl⟩) hK hN hP hD hS hA [4] [0, 1, 2, 3] [0, 1, 2, 3, 4, 5, 6, 7] rfl rfl (by decide) (by decide) (by decide) (by decide) (fun _ => rfl) hl rfl rfl (Nat.le_of_ble_eq_true rfl) zd_X_init_24 ⟨Nat.le_of_ble_eq_true rfl, Nat.le_of_ble_eq_true rfl⟩ (fun u24 H locs hq24 hP hD hS => ?_)
  obtain ⟨aR_24, aU_24, aK_24⟩ := u24
  refine W.widen (k := 7) (n := 826) (by omega) (by omega) ?_
  have hP : va_P D vwCl [(aX, .inr (4, [.ref q5, .null, .null, .null])), (q5, .inr (0, [.ref aT_9, .ref aC_9, .int (nI 0)])), (aT_9, .inl (cI, 96, .inl (fun _ => nI 0))), (aC_9, .inl (cI, 24, .inl (fun _ => nI 0))), (q16, .inr (1, [.ref q5, .ref aR_24, .ref aU_24, .ref aK_24, .int (nI 0), .int (nI 0), .int (za_bi false)])), (aR_24, .inl (cI, 576, .inl (fun _ => nI 0))), (aU_24, .inl (cI, 96, .inl (fun _ => nI 0))), (aK_24, .inl (cI, 24, .inl (fun _ => nI 0)))] H := hP
  have hD : va_D A [(aX, .inr (4, [.ref q5, .null, .null, .null])), (q5, .inr (0, [.ref aT_9, .ref aC_9, .int (nI 0)])), (aT_9, .inl (cI, 96, .inl (fun _ => nI 0))), (aC_9, .inl (cI, 24, .inl (fun _ => nI 0))), (q16, .inr (1, [.ref q5, .ref aR_24, .ref aU_24, .ref aK_24, .int (nI 0), .int (nI 0), .int (za_bi false)])), (aR_24, .inl (cI, 576, .inl (fun _ => nI 0))), (aU_24, .inl (cI, 96, .inl (fun _ => nI 0))), (aK_24, .inl (cI, 24, .inl (fun _ => nI 0)))] := hD
  refine va_putF (D := D) (ci := 4) (v := .ref q16) (ty := .object "AlikeStates$Likeness") (C := zs_X) (T := zt_X) (N := 4) hx hb hts zi_X zy_X zk_X zn_X hown hK hP hD hS 0 rfl rfl 1 (by decide) hf21 (fun _ h9 => h9) rfl hmn rfl (by decide +kernel) rfl rfl (Nat.le_of_ble_eq_true rfl) zd_X_init_27 (fun H locs hP hD hS => ?_)
  have hP : va_P D vwCl [(aX, .inr (4, [.ref q5, .ref q16, .null, .null])), (q5, .inr (0, [.ref aT_9, .ref aC_9, .int (nI 0)])), (aT_9, .inl (cI, 96, .inl (fun _ => nI 0))), (aC_9, .inl (cI, 24, .inl (fun _ => nI 0))), (q16, .inr (1, [.ref q5, .ref aR_24, .ref aU_24, .ref aK_24, .int (nI 0), .int (nI 0), .int (za_bi false)])), (aR_24, .inl (cI, 576, .inl (fun _ => nI 0))), (aU_24, .inl (cI, 96, .inl (fun _ => nI 0))), (aK_24, .inl (cI, 24, .inl (fun _ => nI 0)))] H := hP
  have hD : va_D A [(aX, .inr (4, [.ref q5, .ref q16, .null, .null])), (q5, .inr (0, [.ref aT_9, .ref aC_9, .int (nI 0)])), (aT_9, .inl (cI, 96, .inl (fun _ => nI 0))), (aC_9, .inl (cI, 24, .inl (fun _ => nI 0))), (q16, .inr (1, [.ref q5, .ref aR_24, .ref aU_24, .ref aK_24, .int (nI 0), .int (nI 0), .int (za_bi false)])), (aR_24, .inl (cI, 576, .inl (fun _ => nI 0))), (aU_24, .inl (cI, 96, .inl (fun _ => nI 0))), (aK_24, .inl (cI, 24, .inl (fun _ => nI 0)))] := hD
  refine lv_aload_n hx hb zd_X_init_30 rfl (lv_at hl 0 rfl) ?_
  refine va_new (D := D) (ci := 2) (fs := [.null, .null, .null, .int (za_bi false)]) (C := zs_C) (T := zt_C) (N := 4) hx hb hts zi_C zy_C zk_C hown hn_C hm_C ho_C hK hP hD hS hA rfl (fun j hj => by rcases (show j = 0 ∨ j = 1 ∨ j = 2 ∨ j = 3 by omega) with rfl | rfl | rfl | rfl <;> rfl) (Nat.le_of_ble_eq_true rfl) (Nat.le_of_ble_eq_true rfl) zd_X_init_31 (fun q31 H hP hD hS => ?_)
  refine W.widen (k := 8) (n := 830) (by omega) (by omega) ?_
  have hP : va_P D vwCl [(aX, .inr (4, [.ref q5, .ref q16, .null, .null])), (q5, .inr (0, [.ref aT_9, .ref aC_9, .int (nI 0)])), (aT_9, .inl (cI, 96, .inl (fun _ => nI 0))), (aC_9, .inl (cI, 24, .inl (fun _ => nI 0))), (q16, .inr (1, [.ref q5, .ref aR_24, .ref aU_24, .ref aK_24, .int (nI 0), .int (nI 0), .int (za_bi false)])), (aR_24, .inl (cI, 576, .inl (fun _ => nI 0))), (aU_24, .inl (cI, 96, .inl (fun _ => nI 0))), (aK_24, .inl (cI, 24, .inl (fun _ => nI 0))), (q31, .inr (2, [.null, .null, .null, .int (za_bi false)]))] H := hP
  have hD : va_D A [(aX, .inr (4, [.ref q5, .ref q16, .null, .null])), (q5, .inr (0, [.ref aT_9, .ref aC_9, .int (nI 0)])), (aT_9, .inl (cI, 96, .inl (fun _ => nI 0))), (aC_9, .inl (cI, 24, .inl (fun _ => nI 0))), (q16, .inr (1, [.ref q5, .ref aR_24, .ref aU_24, .ref aK_24, .int (nI 0), .int (nI 0), .int (za_bi false)])), (aR_24, .inl (cI, 576, .inl (fun _ => nI 0))), (aU_24, .inl (cI, 96, .inl (fun _ => nI 0))), (aK_24, .inl (cI, 24, .inl (fun _ => nI 0))), (q31, .inr (2, [.null, .null, .null, .int (za_bi false)]))] := hD
  refine lv_dup hx hb zd_X_init_34 rfl ?_
  refine lv_aload_n hx hb zd_X_init_35 rfl (lv_at hl 0 rfl) ?_
  refine va_get (D := D) (ci := 4) (v := .ref q5) (C := zs_X) (T := zt_X) (N := 4) hx hb hts zi_X hown hK hP 0 rfl rfl 0 (by decide) hf10 (fun _ h9 => h9) rfl zd_X_init_36 ?_
  refine za_wIv (As := [.ref q5]) (rest := [.ref q31, .ref aX]) (wr := [(aX, .inr (4, [.ref q5, .ref q16, .null, .null])), (q5, .inr (0, [.ref aT_9, .ref aC_9, .int (nI 0)])), (aT_9, .inl (cI, 96, .inl (fun _ => nI 0))), (aC_9, .inl (cI, 24, .inl (fun _ => nI 0))), (q16, .inr (1, [.ref q5, .ref aR_24, .ref aU_24, .ref aK_24, .int (nI 0), .int (nI 0), .int (za_bi false)])), (aR_24, .inl (cI, 576, .inl (fun _ => nI 0))), (aU_24, .inl (cI, 96, .inl (fun _ => nI 0))), (aK_24, .inl (cI, 24, .inl (fun _ => nI 0)))]) (wz := (fun u => [(aX, .inr (4, [.ref q5, .ref q16, .null, .null])), (q5, .inr (0, [.ref aT_9, .ref aC_9, .int (nI 0)])), (aT_9, .inl (cI, 96, .inl (fun _ => nI 0))), (aC_9, .inl (cI, 24, .inl (fun _ => nI 0))), (q16, .inr (1, [.ref q5, .ref aR_24, .ref aU_24, .ref aK_24, .int (nI 0), .int (nI 0), .int (za_bi false)])), (aR_24, .inl (cI, 576, .inl (fun _ => nI 0))), (aU_24, .inl (cI, 96, .inl (fun _ => nI 0))), (aK_24, .inl (cI, 24, .inl (fun _ => nI 0))), (q31, .inr (2, [.ref q5, .ref u.1, .ref u.2, .int (za_bi false)])), (u.1, .inl (cI, 24, .inl (fun _ => nI 0))), (u.2, .inl (cI, 96, .inl (fun _ => nI 0)))])) ⟨hx, hb, hml, hown, hts⟩ (zc_C_init ln D cI cZ _ q31 q5 ) (za_gI 1 hts zw_97 zw_98 zw_38 zw_99 (by decide +kernel) rfl ⟨Nat.le_of_ble_eq_true rfl, Nat.le_of_ble_eq_true rfl⟩) hK hN hP hD hS hA [8] [0, 1, 2, 3, 4, 5, 6, 7] [0, 1, 2, 3, 4, 5, 6, 7, 8, 9, 10] rfl rfl (by decide) (by decide) (by decide) (by decide) (fun _ => rfl) hl rfl rfl (Nat.le_of_ble_eq_true rfl) zd_X_init_39 ⟨Nat.le_of_ble_eq_true rfl, Nat.le_of_ble_eq_true rfl⟩ (fun u39 H locs hq39 hP hD hS => ?_)
  obtain ⟨aB_39, aW_39⟩ := u39
  refine W.widen (k := 10) (n := 950) (by omega) (by omega) ?_
  have hP : va_P D vwCl [(aX, .inr (4, [.ref q5, .ref q16, .null, .null])), (q5, .inr (0, [.ref aT_9, .ref aC_9, .int (nI 0)])), (aT_9, .inl (cI, 96, .inl (fun _ => nI 0))), (aC_9, .inl (cI, 24, .inl (fun _ => nI 0))), (q16, .inr (1, [.ref q5, .ref aR_24, .ref aU_24, .ref aK_24, .int (nI 0), .int (nI 0), .int (za_bi false)])), (aR_24, .inl (cI, 576, .inl (fun _ => nI 0))), (aU_24, .inl (cI, 96, .inl (fun _ => nI 0))), (aK_24, .inl (cI, 24, .inl (fun _ => nI 0))), (q31, .inr (2, [.ref q5, .ref aB_39, .ref aW_39, .int (za_bi false)])), (aB_39, .inl (cI, 24, .inl (fun _ => nI 0))), (aW_39, .inl (cI, 96, .inl (fun _ => nI 0)))] H := hP
  have hD : va_D A [(aX, .inr (4, [.ref q5, .ref q16, .null, .null])), (q5, .inr (0, [.ref aT_9, .ref aC_9, .int (nI 0)])), (aT_9, .inl (cI, 96, .inl (fun _ => nI 0))), (aC_9, .inl (cI, 24, .inl (fun _ => nI 0))), (q16, .inr (1, [.ref q5, .ref aR_24, .ref aU_24, .ref aK_24, .int (nI 0), .int (nI 0), .int (za_bi false)])), (aR_24, .inl (cI, 576, .inl (fun _ => nI 0))), (aU_24, .inl (cI, 96, .inl (fun _ => nI 0))), (aK_24, .inl (cI, 24, .inl (fun _ => nI 0))), (q31, .inr (2, [.ref q5, .ref aB_39, .ref aW_39, .int (za_bi false)])), (aB_39, .inl (cI, 24, .inl (fun _ => nI 0))), (aW_39, .inl (cI, 96, .inl (fun _ => nI 0)))] := hD
  refine va_putF (D := D) (ci := 4) (v := .ref q31) (ty := .object "AlikeStates$Cover") (C := zs_X) (T := zt_X) (N := 4) hx hb hts zi_X zy_X zk_X zn_X hown hK hP hD hS 0 rfl rfl 2 (by decide) hf28 (fun _ h9 => h9) rfl hmn rfl (by decide +kernel) rfl rfl (Nat.le_of_ble_eq_true rfl) zd_X_init_42 (fun H locs hP hD hS => ?_)
  have hP : va_P D vwCl [(aX, .inr (4, [.ref q5, .ref q16, .ref q31, .null])), (q5, .inr (0, [.ref aT_9, .ref aC_9, .int (nI 0)])), (aT_9, .inl (cI, 96, .inl (fun _ => nI 0))), (aC_9, .inl (cI, 24, .inl (fun _ => nI 0))), (q16, .inr (1, [.ref q5, .ref aR_24, .ref aU_24, .ref aK_24, .int (nI 0), .int (nI 0), .int (za_bi false)])), (aR_24, .inl (cI, 576, .inl (fun _ => nI 0))), (aU_24, .inl (cI, 96, .inl (fun _ => nI 0))), (aK_24, .inl (cI, 24, .inl (fun _ => nI 0))), (q31, .inr (2, [.ref q5, .ref aB_39, .ref aW_39, .int (za_bi false)])), (aB_39, .inl (cI, 24, .inl (fun _ => nI 0))), (aW_39, .inl (cI, 96, .inl (fun _ => nI 0)))] H := hP
  have hD : va_D A [(aX, .inr (4, [.ref q5, .ref q16, .ref q31, .null])), (q5, .inr (0, [.ref aT_9, .ref aC_9, .int (nI 0)])), (aT_9, .inl (cI, 96, .inl (fun _ => nI 0))), (aC_9, .inl (cI, 24, .inl (fun _ => nI 0))), (q16, .inr (1, [.ref q5, .ref aR_24, .ref aU_24, .ref aK_24, .int (nI 0), .int (nI 0), .int (za_bi false)])), (aR_24, .inl (cI, 576, .inl (fun _ => nI 0))), (aU_24, .inl (cI, 96, .inl (fun _ => nI 0))), (aK_24, .inl (cI, 24, .inl (fun _ => nI 0))), (q31, .inr (2, [.ref q5, .ref aB_39, .ref aW_39, .int (za_bi false)])), (aB_39, .inl (cI, 24, .inl (fun _ => nI 0))), (aW_39, .inl (cI, 96, .inl (fun _ => nI 0)))] := hD
  refine lv_aload_n hx hb zd_X_init_45 rfl (lv_at hl 0 rfl) ?_
  refine va_new (D := D) (ci := 3) (fs := [.null, .null, .null, .null, .null, .int (nI 0)]) (C := zs_G) (T := zt_G) (N := 6) hx hb hts zi_G zy_G zk_G hown hn_G hm_G ho_G hK hP hD hS hA rfl (fun j hj => by rcases (show j = 0 ∨ j = 1 ∨ j = 2 ∨ j = 3 ∨ j = 4 ∨ j = 5 by omega) with rfl | rfl | rfl | rfl | rfl | rfl <;> rfl) (Nat.le_of_ble_eq_true rfl) (Nat.le_of_ble_eq_true rfl) zd_X_init_46 (fun q46 H hP hD hS => ?_)
  refine W.widen (k := 11) (n := 956) (by omega) (by omega) ?_
  have hP : va_P D vwCl [(aX, .inr (4, [.ref q5, .ref q16, .ref q31, .null])), (q5, .inr (0, [.ref aT_9, .ref aC_9, .int (nI 0)])), (aT_9, .inl (cI, 96, .inl (fun _ => nI 0))), (aC_9, .inl (cI, 24, .inl (fun _ => nI 0))), (q16, .inr (1, [.ref q5, .ref aR_24, .ref aU_24, .ref aK_24, .int (nI 0), .int (nI 0), .int (za_bi false)])), (aR_24, .inl (cI, 576, .inl (fun _ => nI 0))), (aU_24, .inl (cI, 96, .inl (fun _ => nI 0))), (aK_24, .inl (cI, 24, .inl (fun _ => nI 0))), (q31, .inr (2, [.ref q5, .ref aB_39, .ref aW_39, .int (za_bi false)])), (aB_39, .inl (cI, 24, .inl (fun _ => nI 0))), (aW_39, .inl (cI, 96, .inl (fun _ => nI 0))), (q46, .inr (3, [.null, .null, .null, .null, .null, .int (nI 0)]))] H := hP
  have hD : va_D A [(aX, .inr (4, [.ref q5, .ref q16, .ref q31, .null])), (q5, .inr (0, [.ref aT_9, .ref aC_9, .int (nI 0)])), (aT_9, .inl (cI, 96, .inl (fun _ => nI 0))), (aC_9, .inl (cI, 24, .inl (fun _ => nI 0))), (q16, .inr (1, [.ref q5, .ref aR_24, .ref aU_24, .ref aK_24, .int (nI 0), .int (nI 0), .int (za_bi false)])), (aR_24, .inl (cI, 576, .inl (fun _ => nI 0))), (aU_24, .inl (cI, 96, .inl (fun _ => nI 0))), (aK_24, .inl (cI, 24, .inl (fun _ => nI 0))), (q31, .inr (2, [.ref q5, .ref aB_39, .ref aW_39, .int (za_bi false)])), (aB_39, .inl (cI, 24, .inl (fun _ => nI 0))), (aW_39, .inl (cI, 96, .inl (fun _ => nI 0))), (q46, .inr (3, [.null, .null, .null, .null, .null, .int (nI 0)]))] := hD
  refine lv_dup hx hb zd_X_init_49 rfl ?_
  refine lv_aload_n hx hb zd_X_init_50 rfl (lv_at hl 0 rfl) ?_
  refine va_get (D := D) (ci := 4) (v := .ref q5) (C := zs_X) (T := zt_X) (N := 4) hx hb hts zi_X hown hK hP 0 rfl rfl 0 (by decide) hf10 (fun _ h9 => h9) rfl zd_X_init_51 ?_
  refine lv_aload_n hx hb zd_X_init_54 rfl (lv_at hl 0 rfl) ?_
  refine va_get (D := D) (ci := 4) (v := .ref q16) (C := zs_X) (T := zt_X) (N := 4) hx hb hts zi_X hown hK hP 0 rfl rfl 1 (by decide) hf21 (fun _ h9 => h9) rfl zd_X_init_55 ?_
  refine za_wIv (As := [.ref q5, .ref q16]) (rest := [.ref q46, .ref aX]) (wr := [(aX, .inr (4, [.ref q5, .ref q16, .ref q31, .null])), (q5, .inr (0, [.ref aT_9, .ref aC_9, .int (nI 0)])), (aT_9, .inl (cI, 96, .inl (fun _ => nI 0))), (aC_9, .inl (cI, 24, .inl (fun _ => nI 0))), (q16, .inr (1, [.ref q5, .ref aR_24, .ref aU_24, .ref aK_24, .int (nI 0), .int (nI 0), .int (za_bi false)])), (aR_24, .inl (cI, 576, .inl (fun _ => nI 0))), (aU_24, .inl (cI, 96, .inl (fun _ => nI 0))), (aK_24, .inl (cI, 24, .inl (fun _ => nI 0))), (q31, .inr (2, [.ref q5, .ref aB_39, .ref aW_39, .int (za_bi false)])), (aB_39, .inl (cI, 24, .inl (fun _ => nI 0))), (aW_39, .inl (cI, 96, .inl (fun _ => nI 0)))]) (wz := (fun u => [(aX, .inr (4, [.ref q5, .ref q16, .ref q31, .null])), (q5, .inr (0, [.ref aT_9, .ref aC_9, .int (nI 0)])), (aT_9, .inl (cI, 96, .inl (fun _ => nI 0))), (aC_9, .inl (cI, 24, .inl (fun _ => nI 0))), (q16, .inr (1, [.ref q5, .ref aR_24, .ref aU_24, .ref aK_24, .int (nI 0), .int (nI 0), .int (za_bi false)])), (aR_24, .inl (cI, 576, .inl (fun _ => nI 0))), (aU_24, .inl (cI, 96, .inl (fun _ => nI 0))), (aK_24, .inl (cI, 24, .inl (fun _ => nI 0))), (q31, .inr (2, [.ref q5, .ref aB_39, .ref aW_39, .int (za_bi false)])), (aB_39, .inl (cI, 24, .inl (fun _ => nI 0))), (aW_39, .inl (cI, 96, .inl (fun _ => nI 0))), (q46, .inr (3, [.ref q5, .ref q16, .ref u.1, .ref u.2.1, .ref u.2.2, .int (nI 0)])), (u.1, .inl (cI, 2, .inl (fun _ => nI 0))), (u.2.1, .inl (cI, 24, .inl (fun _ => nI 0))), (u.2.2, .inl (cI, 24, .inl (fun _ => nI 0)))])) ⟨hx, hb, hml, hown, hts⟩ (zc_G_init ln D cI cZ _ q46 q5 q16 ) (za_gI 2 hts zw_116 zw_117 zw_39 zw_118 (by decide +kernel) rfl ⟨Nat.le_of_ble_eq_true rfl, Nat.le_of_ble_eq_true rfl⟩) hK hN hP hD hS hA [11] [0, 1, 2, 3, 4, 5, 6, 7, 8, 9, 10] [0, 1, 2, 3, 4, 5, 6, 7, 8, 9, 10, 11, 12, 13, 14] rfl rfl (by decide) (by decide) (by decide) (by decide) (fun _ => rfl) hl rfl rfl (Nat.le_of_ble_eq_true rfl) zd_X_init_58 ⟨Nat.le_of_ble_eq_true rfl, Nat.le_of_ble_eq_true rfl⟩ (fun u58 H locs hq58 hP hD hS => ?_)
  obtain ⟨aS_58, aM_58, aA_58⟩ := u58
  refine W.widen (k := 14) (n := 1006) (by omega) (by omega) ?_
  have hP : va_P D vwCl [(aX, .inr (4, [.ref q5, .ref q16, .ref q31, .null])), (q5, .inr (0, [.ref aT_9, .ref aC_9, .int (nI 0)])), (aT_9, .inl (cI, 96, .inl (fun _ => nI 0))), (aC_9, .inl (cI, 24, .inl (fun _ => nI 0))), (q16, .inr (1, [.ref q5, .ref aR_24, .ref aU_24, .ref aK_24, .int (nI 0), .int (nI 0), .int (za_bi false)])), (aR_24, .inl (cI, 576, .inl (fun _ => nI 0))), (aU_24, .inl (cI, 96, .inl (fun _ => nI 0))), (aK_24, .inl (cI, 24, .inl (fun _ => nI 0))), (q31, .inr (2, [.ref q5, .ref aB_39, .ref aW_39, .int (za_bi false)])), (aB_39, .inl (cI, 24, .inl (fun _ => nI 0))), (aW_39, .inl (cI, 96, .inl (fun _ => nI 0))), (q46, .inr (3, [.ref q5, .ref q16, .ref aS_58, .ref aM_58, .ref aA_58, .int (nI 0)])), (aS_58, .inl (cI, 2, .inl (fun _ => nI 0))), (aM_58, .inl (cI, 24, .inl (fun _ => nI 0))), (aA_58, .inl (cI, 24, .inl (fun _ => nI 0)))] H := hP
  have hD : va_D A [(aX, .inr (4, [.ref q5, .ref q16, .ref q31, .null])), (q5, .inr (0, [.ref aT_9, .ref aC_9, .int (nI 0)])), (aT_9, .inl (cI, 96, .inl (fun _ => nI 0))), (aC_9, .inl (cI, 24, .inl (fun _ => nI 0))), (q16, .inr (1, [.ref q5, .ref aR_24, .ref aU_24, .ref aK_24, .int (nI 0), .int (nI 0), .int (za_bi false)])), (aR_24, .inl (cI, 576, .inl (fun _ => nI 0))), (aU_24, .inl (cI, 96, .inl (fun _ => nI 0))), (aK_24, .inl (cI, 24, .inl (fun _ => nI 0))), (q31, .inr (2, [.ref q5, .ref aB_39, .ref aW_39, .int (za_bi false)])), (aB_39, .inl (cI, 24, .inl (fun _ => nI 0))), (aW_39, .inl (cI, 96, .inl (fun _ => nI 0))), (q46, .inr (3, [.ref q5, .ref q16, .ref aS_58, .ref aM_58, .ref aA_58, .int (nI 0)])), (aS_58, .inl (cI, 2, .inl (fun _ => nI 0))), (aM_58, .inl (cI, 24, .inl (fun _ => nI 0))), (aA_58, .inl (cI, 24, .inl (fun _ => nI 0)))] := hD
  refine va_putF (D := D) (ci := 4) (v := .ref q46) (ty := .object "AlikeStates$Game") (C := zs_X) (T := zt_X) (N := 4) hx hb hts zi_X zy_X zk_X zn_X hown hK hP hD hS 0 rfl rfl 3 (by decide) hf37 (fun _ h9 => h9) rfl hmn rfl (by decide +kernel) rfl rfl (Nat.le_of_ble_eq_true rfl) zd_X_init_61 (fun H locs hP hD hS => ?_)
  have hP : va_P D vwCl [(aX, .inr (4, [.ref q5, .ref q16, .ref q31, .ref q46])), (q5, .inr (0, [.ref aT_9, .ref aC_9, .int (nI 0)])), (aT_9, .inl (cI, 96, .inl (fun _ => nI 0))), (aC_9, .inl (cI, 24, .inl (fun _ => nI 0))), (q16, .inr (1, [.ref q5, .ref aR_24, .ref aU_24, .ref aK_24, .int (nI 0), .int (nI 0), .int (za_bi false)])), (aR_24, .inl (cI, 576, .inl (fun _ => nI 0))), (aU_24, .inl (cI, 96, .inl (fun _ => nI 0))), (aK_24, .inl (cI, 24, .inl (fun _ => nI 0))), (q31, .inr (2, [.ref q5, .ref aB_39, .ref aW_39, .int (za_bi false)])), (aB_39, .inl (cI, 24, .inl (fun _ => nI 0))), (aW_39, .inl (cI, 96, .inl (fun _ => nI 0))), (q46, .inr (3, [.ref q5, .ref q16, .ref aS_58, .ref aM_58, .ref aA_58, .int (nI 0)])), (aS_58, .inl (cI, 2, .inl (fun _ => nI 0))), (aM_58, .inl (cI, 24, .inl (fun _ => nI 0))), (aA_58, .inl (cI, 24, .inl (fun _ => nI 0)))] H := hP
  have hD : va_D A [(aX, .inr (4, [.ref q5, .ref q16, .ref q31, .ref q46])), (q5, .inr (0, [.ref aT_9, .ref aC_9, .int (nI 0)])), (aT_9, .inl (cI, 96, .inl (fun _ => nI 0))), (aC_9, .inl (cI, 24, .inl (fun _ => nI 0))), (q16, .inr (1, [.ref q5, .ref aR_24, .ref aU_24, .ref aK_24, .int (nI 0), .int (nI 0), .int (za_bi false)])), (aR_24, .inl (cI, 576, .inl (fun _ => nI 0))), (aU_24, .inl (cI, 96, .inl (fun _ => nI 0))), (aK_24, .inl (cI, 24, .inl (fun _ => nI 0))), (q31, .inr (2, [.ref q5, .ref aB_39, .ref aW_39, .int (za_bi false)])), (aB_39, .inl (cI, 24, .inl (fun _ => nI 0))), (aW_39, .inl (cI, 96, .inl (fun _ => nI 0))), (q46, .inr (3, [.ref q5, .ref q16, .ref aS_58, .ref aM_58, .ref aA_58, .int (nI 0)])), (aS_58, .inl (cI, 2, .inl (fun _ => nI 0))), (aM_58, .inl (cI, 24, .inl (fun _ => nI 0))), (aA_58, .inl (cI, 24, .inl (fun _ => nI 0)))] := hD
  have hP9 : va_P D vwCl [(aX, .inr (4, [.ref q5, .ref q16, .ref q31, .ref q46])), (q5, .inr (0, [.ref aT_9, .ref aC_9, .int (nI 0)])), (aT_9, .inl (cI, 96, .inl (fun _ => nI 0))), (aC_9, .inl (cI, 24, .inl (fun _ => nI 0))), (q16, .inr (1, [.ref q5, .ref aR_24, .ref aU_24, .ref aK_24, .int (nI 0), .int (nI 0), .int (za_bi false)])), (aR_24, .inl (cI, 576, .inl (fun _ => nI 0))), (aU_24, .inl (cI, 96, .inl (fun _ => nI 0))), (aK_24, .inl (cI, 24, .inl (fun _ => nI 0))), (q31, .inr (2, [.ref q5, .ref aB_39, .ref aW_39, .int (za_bi false)])), (aB_39, .inl (cI, 24, .inl (fun _ => nI 0))), (aW_39, .inl (cI, 96, .inl (fun _ => nI 0))), (q46, .inr (3, [.ref q5, .ref q16, .ref aS_58, .ref aM_58, .ref aA_58, .int (nI 0)])), (aS_58, .inl (cI, 2, .inl (fun _ => nI 0))), (aM_58, .inl (cI, 24, .inl (fun _ => nI 0))), (aA_58, .inl (cI, 24, .inl (fun _ => nI 0)))] H := hP
  have hD9 : va_D A [(aX, .inr (4, [.ref q5, .ref q16, .ref q31, .ref q46])), (q5, .inr (0, [.ref aT_9, .ref aC_9, .int (nI 0)])), (aT_9, .inl (cI, 96, .inl (fun _ => nI 0))), (aC_9, .inl (cI, 24, .inl (fun _ => nI 0))), (q16, .inr (1, [.ref q5, .ref aR_24, .ref aU_24, .ref aK_24, .int (nI 0), .int (nI 0), .int (za_bi false)])), (aR_24, .inl (cI, 576, .inl (fun _ => nI 0))), (aU_24, .inl (cI, 96, .inl (fun _ => nI 0))), (aK_24, .inl (cI, 24, .inl (fun _ => nI 0))), (q31, .inr (2, [.ref q5, .ref aB_39, .ref aW_39, .int (za_bi false)])), (aB_39, .inl (cI, 24, .inl (fun _ => nI 0))), (aW_39, .inl (cI, 96, .inl (fun _ => nI 0))), (q46, .inr (3, [.ref q5, .ref q16, .ref aS_58, .ref aM_58, .ref aA_58, .int (nI 0)])), (aS_58, .inl (cI, 2, .inl (fun _ => nI 0))), (aM_58, .inl (cI, 24, .inl (fun _ => nI 0))), (aA_58, .inl (cI, 24, .inl (fun _ => nI 0)))] := hD
  exact hret ⟨q5, aT_9, aC_9, q16, aR_24, aU_24, aK_24, q31, aB_39, aW_39, q46, aS_58, aM_58, aA_58⟩ _ _ _ _ (trivial) hP9 hD9 hS zd_X_init_64
end
section
def zr_L_settle : Room := { frames := 4, cells := 0, slots := 0, locals := 94 }
set_option maxHeartbeats 4000000 in
set_option maxRecDepth 100000 in
theorem zc_L_settle (ln : Launch) (D : va_G) (cI cZ : ClassId) (sz : Nat) (aL : Nat) (aN : Nat) (aR : Nat) (aU : Nat) (aK : Nat) (lr : Nat) (kc : Nat) (sd : Bool) (aT : Nat) (aC : Nat) (ct : Int32) (Tg : Nat → Int32) (Co : Nat → Int32) (Rw : Nat → Int32) (Un : Nat → Int32) (Kd : Nat → Int32) (hok : sd = true → za_like Tg Co Rw lr Kd kc) : Met ln zm_L_settle (Cond.code zm_L_settle zo_L_settle 2 none :: zb_big) zr_L_settle (za_Pw D vwCl [(cI, .int), (cZ, .boolean)] [.ref aL] [(aL, .inr (1, [.ref aN, .ref aR, .ref aU, .ref aK, .int (nI lr), .int (nI kc), .int (za_bi sd)])), (aR, .inl (cI, 576, .inl Rw)), (aU, .inl (cI, 96, .inl Un)), (aK, .inl (cI, 24, .inl Kd)), (aN, .inr (0, [.ref aT, .ref aC, .int ct])), (aT, .inl (cI, 96, .inl Tg)), (aC, .inl (cI, 24, .inl Co))] sz) (va_Qv (fun (u : (Nat → Int32) × (Nat → Int32) × (Nat → Int32) × Nat × Nat) => za_like Tg Co u.1 u.2.2.2.1 u.2.2.1 u.2.2.2.2) (za_B D vwCl [(aL, .inr (1, [.ref aN, .ref aR, .ref aU, .ref aK, .int (nI lr), .int (nI kc), .int (za_bi sd)])), (aR, .inl (cI, 576, .inl Rw)), (aU, .inl (cI, 96, .inl Un)), (aK, .inl (cI, 24, .inl Kd)), (aN, .inr (0, [.ref aT, .ref aC, .int ct])), (aT, .inl (cI, 96, .inl Tg)), (aC, .inl (cI, 24, .inl Co))] sz (fun (u : (Nat → Int32) × (Nat → Int32) × (Nat → Int32) × Nat × Nat) => [(aL, .inr (1, [.ref aN, .ref aR, .ref aU, .ref aK, .int (nI u.2.2.2.1), .int (nI u.2.2.2.2), .int (za_bi true)])), (aR, .inl (cI, 576, .inl u.1)), (aU, .inl (cI, 96, .inl u.2.1)), (aK, .inl (cI, 24, .inl u.2.2.1)), (aN, .inr (0, [.ref aT, .ref aC, .int ct])), (aT, .inl (cI, 96, .inl Tg)), (aC, .inl (cI, 24, .inl Co))])) (va_A [(aL, .inr (1, [.ref aN, .ref aR, .ref aU, .ref aK, .int (nI lr), .int (nI kc), .int (za_bi sd)])), (aR, .inl (cI, 576, .inl Rw)), (aU, .inl (cI, 96, .inl Un)), (aK, .inl (cI, 24, .inl Kd)), (aN, .inr (0, [.ref aT, .ref aC, .int ct])), (aT, .inl (cI, 96, .inl Tg)), (aC, .inl (cI, 24, .inl Co))] sz)) 0 0 (va_A [(aL, .inr (1, [.ref aN, .ref aR, .ref aU, .ref aK, .int (nI lr), .int (nI kc), .int (za_bi sd)])), (aR, .inl (cI, 576, .inl Rw)), (aU, .inl (cI, 96, .inl Un)), (aK, .inl (cI, 24, .inl Kd)), (aN, .inr (0, [.ref aT, .ref aC, .int ct])), (aT, .inl (cI, 96, .inl Tg)), (aC, .inl (cI, 24, .inl Co))] sz) := by
  refine za_wv (cc := zo_L_settle) (maxL := 2) (by decide) (Nat.le_of_ble_eq_true rfl) ?_
  intro p e sg m args below meth c H0 A Q hx hb hml hts hown hmn hP hK hN hD hA hS hret ls hl
  have hP : va_P D vwCl [(aL, .inr (1, [.ref aN, .ref aR, .ref aU, .ref aK, .int (nI lr), .int (nI kc), .int (za_bi sd)])), (aR, .inl (cI, 576, .inl Rw)), (aU, .inl (cI, 96, .inl Un)), (aK, .inl (cI, 24, .inl Kd)), (aN, .inr (0, [.ref aT, .ref aC, .int ct])), (aT, .inl (cI, 96, .inl Tg)), (aC, .inl (cI, 24, .inl Co))] H0 := hP
  have hD : va_D A [(aL, .inr (1, [.ref aN, .ref aR, .ref aU, .ref aK, .int (nI lr), .int (nI kc), .int (za_bi sd)])), (aR, .inl (cI, 576, .inl Rw)), (aU, .inl (cI, 96, .inl Un)), (aK, .inl (cI, 24, .inl Kd)), (aN, .inr (0, [.ref aT, .ref aC, .int ct])), (aT, .inl (cI, 96, .inl Tg)), (aC, .inl (cI, 24, .inl Co))] := hD
  have hl : lv_has ls 2 [(0, .ref aL)] := hl
  have hf25 := hts _ zw_79
  have hf9 := hts _ zw_73
  have hf15 := hts _ zw_74
  have hf35 := hts _ zw_77
  refine lv_aload_n hx hb zd_L_settle_0 rfl (lv_at hl 0 rfl) ?_
  refine va_get (D := D) (ci := 1) (v := .int (za_bi sd)) (C := zs_L) (T := zt_L) (N := 7) hx hb hts zi_L hown hK hP 0 rfl rfl 6 (by decide) hf25 (fun _ h9 => h9) rfl zd_L_settle_1 ?_
  refine lv_if_eq hx hb (tgt := 8) zd_L_settle_4 (by decide) (fun h4 => ?_) (fun h4 => ?_)
  · have h4 := za_bF h4
    refine lv_aload_n hx hb zd_L_settle_8 rfl (lv_at hl 0 rfl) ?_
    refine va_get (D := D) (ci := 1) (v := .ref aN) (C := zs_L) (T := zt_L) (N := 7) hx hb hts zi_L hown hK hP 0 rfl rfl 0 (by decide) hf9 (fun _ h9 => h9) rfl zd_L_settle_9 ?_
    refine lv_aload_n hx hb zd_L_settle_12 rfl (lv_at hl 0 rfl) ?_
    refine va_get (D := D) (ci := 1) (v := .ref aR) (C := zs_L) (T := zt_L) (N := 7) hx hb hts zi_L hown hK hP 0 rfl rfl 1 (by decide) hf15 (fun _ h9 => h9) rfl zd_L_settle_13 ?_
    refine za_wVv (As := [.ref aR]) (rest := []) (wr := [(aL, .inr (1, [.ref aN, .ref aR, .ref aU, .ref aK, .int (nI lr), .int (nI kc), .int (za_bi sd)])), (aU, .inl (cI, 96, .inl Un)), (aK, .inl (cI, 24, .inl Kd)), (aT, .inl (cI, 96, .inl Tg))]) (wz := (fun _ => [(aL, .inr (1, [.ref aN, .ref aR, .ref aU, .ref aK, .int (nI lr), .int (nI kc), .int (za_bi sd)])), (aR, .inl (cI, 576, .inl (za_fl (fun x => za_mk (fun z => decide (Co z = Co x)) 24) Rw 24))), (aU, .inl (cI, 96, .inl Un)), (aK, .inl (cI, 24, .inl Kd)), (aN, .inr (0, [.ref aT, .ref aC, .int ct])), (aT, .inl (cI, 96, .inl Tg)), (aC, .inl (cI, 24, .inl Co))])) ⟨hx, hb, hml, hown, hts⟩ (zc_N_groupByColour ln D cI cZ _ aN aT aC ct Co aR 576 Rw (by omega) (by omega)) (za_gV 1 hts zw_239 zw_240 zw_241 zw_36 zw_242 (by decide +kernel) ⟨Nat.le_of_ble_eq_true rfl, Nat.le_of_ble_eq_true rfl⟩) hK hN hP hD hS hA [4, 6, 1] [0, 2, 3, 5] [0, 6, 1, 2, 4, 3, 5] rfl rfl (by decide) (by decide) (by decide) (by decide) (fun _ => rfl) (q0 := 4) rfl rfl hl rfl rfl (Nat.le_of_ble_eq_true rfl) zd_L_settle_16 ⟨Nat.le_of_ble_eq_true rfl, Nat.le_of_ble_eq_true rfl⟩ (fun u16 H locs hq16 hP hD hS => ?_)
    have hP : va_P D vwCl [(aL, .inr (1, [.ref aN, .ref aR, .ref aU, .ref aK, .int (nI lr), .int (nI kc), .int (za_bi sd)])), (aR, .inl (cI, 576, .inl (za_fl (fun x => za_mk (fun z => decide (Co z = Co x)) 24) Rw 24))), (aU, .inl (cI, 96, .inl Un)), (aK, .inl (cI, 24, .inl Kd)), (aN, .inr (0, [.ref aT, .ref aC, .int ct])), (aT, .inl (cI, 96, .inl Tg)), (aC, .inl (cI, 24, .inl Co))] H := hP
    have hD : va_D A [(aL, .inr (1, [.ref aN, .ref aR, .ref aU, .ref aK, .int (nI lr), .int (nI kc), .int (za_bi sd)])), (aR, .inl (cI, 576, .inl (za_fl (fun x => za_mk (fun z => decide (Co z = Co x)) 24) Rw 24))), (aU, .inl (cI, 96, .inl Un)), (aK, .inl (cI, 24, .inl Kd)), (aN, .inr (0, [.ref aT, .ref aC, .int ct])), (aT, .inl (cI, 96, .inl Tg)), (aC, .inl (cI, 24, .inl Co))] := hD
    refine lv_aload_n hx hb zd_L_settle_19 rfl (lv_at hl 0 rfl) ?_
    refine lv_iconst (v := nI 0) hx hb zd_L_settle_20 (by decide) ?_
    refine va_put (D := D) (ci := 1) (v := .int (nI 0)) (ty := .int) (C := zs_L) (T := zt_L) (N := 7) hx hb hts zi_L zy_L zk_L zn_L hown hK hP hD hS 0 rfl rfl 4 (by decide) hf35 (fun _ h9 => h9) rfl (by decide +kernel) rfl rfl (Nat.le_of_ble_eq_true rfl) zd_L_settle_21 (fun H locs hP hD hS => ?_)
    have hP : va_P D vwCl [(aL, .inr (1, [.ref aN, .ref aR, .ref aU, .ref aK, .int (nI 0), .int (nI kc), .int (za_bi sd)])), (aR, .inl (cI, 576, .inl (za_fl (fun x => za_mk (fun z => decide (Co z = Co x)) 24) Rw 24))), (aU, .inl (cI, 96, .inl Un)), (aK, .inl (cI, 24, .inl Kd)), (aN, .inr (0, [.ref aT, .ref aC, .int ct])), (aT, .inl (cI, 96, .inl Tg)), (aC, .inl (cI, 24, .inl Co))] H := hP
    have hD : va_D A [(aL, .inr (1, [.ref aN, .ref aR, .ref aU, .ref aK, .int (nI 0), .int (nI kc), .int (za_bi sd)])), (aR, .inl (cI, 576, .inl (za_fl (fun x => za_mk (fun z => decide (Co z = Co x)) 24) Rw 24))), (aU, .inl (cI, 96, .inl Un)), (aK, .inl (cI, 24, .inl Kd)), (aN, .inr (0, [.ref aT, .ref aC, .int ct])), (aT, .inl (cI, 96, .inl Tg)), (aC, .inl (cI, 24, .inl Co))] := hD
    refine lv_iconst (v := nI 1) hx hb zd_L_settle_24 (by decide) ?_
    refine lv_istore_n (lv' := [(1, .int (nI 1)), (0, .ref aL)]) hx hb zd_L_settle_25 rfl hl (by decide) rfl (fun ls hl => ?_)
    have hC51 : ∀  (z : Nat) (Rz : Nat → Int32) (Uz : Nat → Int32) (ls : Array Slot) (H : Heap) (locs : List Loc), z ≤ 23 → (∀ j, j ≤ z → za_row Tg Co Rz j) → za_stab Tg Co z → lv_has ls 2 [(0, .ref aL)] → va_P D vwCl [(aL, .inr (1, [.ref aN, .ref aR, .ref aU, .ref aK, .int (nI z), .int (nI kc), .int (za_bi sd)])), (aR, .inl (cI, 576, .inl Rz)), (aU, .inl (cI, 96, .inl Uz)), (aK, .inl (cI, 24, .inl Kd)), (aN, .inr (0, [.ref aT, .ref aC, .int ct])), (aT, .inl (cI, 96, .inl Tg)), (aC, .inl (cI, 24, .inl Co))] H → va_D A [(aL, .inr (1, [.ref aN, .ref aR, .ref aU, .ref aK, .int (nI z), .int (nI kc), .int (za_bi sd)])), (aR, .inl (cI, 576, .inl Rz)), (aU, .inl (cI, 96, .inl Uz)), (aK, .inl (cI, 24, .inl Kd)), (aN, .inr (0, [.ref aT, .ref aC, .int ct])), (aT, .inl (cI, 96, .inl Tg)), (aC, .inl (cI, 24, .inl Co))] → va_S A H0 H locs → W p ln e zr_L_settle sg m args below meth c H locs 0 0 Q (F0 m 51 ls []) := by
      intro z Rz Uz ls H locs hz hZ hY hl hP hD hS
      refine lv_aload_n hx hb zd_L_settle_51 rfl (lv_at hl 0 rfl) ?_
      refine za_wVv (As := []) (rest := []) (wr := [(aU, .inl (cI, 96, .inl Uz)), (aN, .inr (0, [.ref aT, .ref aC, .int ct])), (aT, .inl (cI, 96, .inl Tg)), (aC, .inl (cI, 24, .inl Co))]) (wz := (fun _ => [(aL, .inr (1, [.ref aN, .ref aR, .ref aU, .ref aK, .int (nI z), .int (nI ((za_nk (za_lf Rz z) Kd 24).2)), .int (za_bi sd)])), (aR, .inl (cI, 576, .inl Rz)), (aU, .inl (cI, 96, .inl Uz)), (aK, .inl (cI, 24, .inl ((za_nk (za_lf Rz z) Kd 24).1))), (aN, .inr (0, [.ref aT, .ref aC, .int ct])), (aT, .inl (cI, 96, .inl Tg)), (aC, .inl (cI, 24, .inl Co))])) ⟨hx, hb, hml, hown, hts⟩ (zc_L_numberKinds ln D cI cZ _ aL aN aR aU aK z kc sd Rz Kd (by omega)) (za_gV 0 hts zw_267 zw_269 zw_6 zw_37 zw_270 (by decide +kernel) ⟨Nat.le_of_ble_eq_true rfl, Nat.le_of_ble_eq_true rfl⟩) hK hN hP hD hS hA [0, 1, 3] [2, 4, 5, 6] [4, 5, 0, 6, 1, 2, 3] rfl rfl (by decide) (by decide) (by decide) (by decide) (fun _ => rfl) (q0 := 0) rfl rfl hl rfl rfl (Nat.le_of_ble_eq_true rfl) zd_L_settle_52 ⟨Nat.le_of_ble_eq_true rfl, Nat.le_of_ble_eq_true rfl⟩ (fun u52 H locs hq52 hP hD hS => ?_)
      have hP : va_P D vwCl [(aL, .inr (1, [.ref aN, .ref aR, .ref aU, .ref aK, .int (nI z), .int (nI ((za_nk (za_lf Rz z) Kd 24).2)), .int (za_bi sd)])), (aR, .inl (cI, 576, .inl Rz)), (aU, .inl (cI, 96, .inl Uz)), (aK, .inl (cI, 24, .inl ((za_nk (za_lf Rz z) Kd 24).1))), (aN, .inr (0, [.ref aT, .ref aC, .int ct])), (aT, .inl (cI, 96, .inl Tg)), (aC, .inl (cI, 24, .inl Co))] H := hP
      have hD : va_D A [(aL, .inr (1, [.ref aN, .ref aR, .ref aU, .ref aK, .int (nI z), .int (nI ((za_nk (za_lf Rz z) Kd 24).2)), .int (za_bi sd)])), (aR, .inl (cI, 576, .inl Rz)), (aU, .inl (cI, 96, .inl Uz)), (aK, .inl (cI, 24, .inl ((za_nk (za_lf Rz z) Kd 24).1))), (aN, .inr (0, [.ref aT, .ref aC, .int ct])), (aT, .inl (cI, 96, .inl Tg)), (aC, .inl (cI, 24, .inl Co))] := hD
      refine lv_aload_n hx hb zd_L_settle_55 rfl (lv_at hl 0 rfl) ?_
      refine lv_iconst (v := nI 1) hx hb zd_L_settle_56 (by decide) ?_
      refine za_eqi (y := za_bi true) rfl ?_
      refine va_put (D := D) (ci := 1) (v := .int (za_bi true)) (ty := .boolean) (C := zs_L) (T := zt_L) (N := 7) hx hb hts zi_L zy_L zk_L zn_L hown hK hP hD hS 0 rfl rfl 6 (by decide) hf25 (fun _ h9 => h9) rfl (by decide +kernel) (za_nar _) (za_fit _) (Nat.le_of_ble_eq_true rfl) zd_L_settle_57 (fun H locs hP hD hS => ?_)
      have hP : va_P D vwCl [(aL, .inr (1, [.ref aN, .ref aR, .ref aU, .ref aK, .int (nI z), .int (nI ((za_nk (za_lf Rz z) Kd 24).2)), .int (za_bi true)])), (aR, .inl (cI, 576, .inl Rz)), (aU, .inl (cI, 96, .inl Uz)), (aK, .inl (cI, 24, .inl ((za_nk (za_lf Rz z) Kd 24).1))), (aN, .inr (0, [.ref aT, .ref aC, .int ct])), (aT, .inl (cI, 96, .inl Tg)), (aC, .inl (cI, 24, .inl Co))] H := hP
      have hD : va_D A [(aL, .inr (1, [.ref aN, .ref aR, .ref aU, .ref aK, .int (nI z), .int (nI ((za_nk (za_lf Rz z) Kd 24).2)), .int (za_bi true)])), (aR, .inl (cI, 576, .inl Rz)), (aU, .inl (cI, 96, .inl Uz)), (aK, .inl (cI, 24, .inl ((za_nk (za_lf Rz z) Kd 24).1))), (aN, .inr (0, [.ref aT, .ref aC, .int ct])), (aT, .inl (cI, 96, .inl Tg)), (aC, .inl (cI, 24, .inl Co))] := hD
      have hP9 : va_P D vwCl [(aL, .inr (1, [.ref aN, .ref aR, .ref aU, .ref aK, .int (nI z), .int (nI ((za_nk (za_lf Rz z) Kd 24).2)), .int (za_bi true)])), (aR, .inl (cI, 576, .inl Rz)), (aU, .inl (cI, 96, .inl Uz)), (aK, .inl (cI, 24, .inl ((za_nk (za_lf Rz z) Kd 24).1))), (aN, .inr (0, [.ref aT, .ref aC, .int ct])), (aT, .inl (cI, 96, .inl Tg)), (aC, .inl (cI, 24, .inl Co))] H := hP
      have hD9 : va_D A [(aL, .inr (1, [.ref aN, .ref aR, .ref aU, .ref aK, .int (nI z), .int (nI ((za_nk (za_lf Rz z) Kd 24).2)), .int (za_bi true)])), (aR, .inl (cI, 576, .inl Rz)), (aU, .inl (cI, 96, .inl Uz)), (aK, .inl (cI, 24, .inl ((za_nk (za_lf Rz z) Kd 24).1))), (aN, .inr (0, [.ref aT, .ref aC, .int ct])), (aT, .inl (cI, 96, .inl Tg)), (aC, .inl (cI, 24, .inl Co))] := hD
      have hQ9 : za_like Tg Co Rz z ((za_nk (za_lf Rz z) Kd 24).1) ((za_nk (za_lf Rz z) Kd 24).2) := by exact za_like_mk hz hZ hY
      obtain ⟨g9_1, hg9_1⟩ : ∃ z99, z99 = ((za_nk (za_lf Rz z) Kd 24).1) := ⟨_, rfl⟩
      try rw [← hg9_1] at hQ9
      try rw [← hg9_1] at hP9
      try rw [← hg9_1] at hD9
      obtain ⟨g9_2, hg9_2⟩ : ∃ z99, z99 = ((za_nk (za_lf Rz z) Kd 24).2) := ⟨_, rfl⟩
      try rw [← hg9_2] at hQ9
      try rw [← hg9_2] at hP9
      try rw [← hg9_2] at hD9
      exact hret ⟨Rz, Uz, g9_1, z, g9_2⟩ _ _ _ _ (hQ9) hP9 hD9 hS zd_L_settle_60
    have hC26 : ∀ (n26 : Nat) (q : Nat) (Rq : Nat → Int32) (Uq : Nat → Int32) (ls : Array Slot) (H : Heap) (locs : List Loc), 24 - q < n26 → q ≤ 23 → (∀ j, j ≤ q → za_row Tg Co Rq j) → lv_has ls 2 [(0, .ref aL), (1, .int (nI (q + 1)))] → va_P D vwCl [(aL, .inr (1, [.ref aN, .ref aR, .ref aU, .ref aK, .int (nI q), .int (nI kc), .int (za_bi sd)])), (aR, .inl (cI, 576, .inl Rq)), (aU, .inl (cI, 96, .inl Uq)), (aK, .inl (cI, 24, .inl Kd)), (aN, .inr (0, [.ref aT, .ref aC, .int ct])), (aT, .inl (cI, 96, .inl Tg)), (aC, .inl (cI, 24, .inl Co))] H → va_D A [(aL, .inr (1, [.ref aN, .ref aR, .ref aU, .ref aK, .int (nI q), .int (nI kc), .int (za_bi sd)])), (aR, .inl (cI, 576, .inl Rq)), (aU, .inl (cI, 96, .inl Uq)), (aK, .inl (cI, 24, .inl Kd)), (aN, .inr (0, [.ref aT, .ref aC, .int ct])), (aT, .inl (cI, 96, .inl Tg)), (aC, .inl (cI, 24, .inl Co))] → va_S A H0 H locs → W p ln e zr_L_settle sg m args below meth c H locs 0 0 Q (F0 m 26 ls []) := by
      intro n26
      induction n26 with
      | zero => intro q Rq Uq ls H locs hn26 hq1 hR hl hP hD hS; exact absurd hn26 (Nat.not_lt_zero _)
      | succ n26 ih26 =>
        intro q Rq Uq ls H locs hn26 hq1 hR hl hP hD hS
        refine lv_iload_n hx hb zd_L_settle_26 rfl (lv_at hl 1 rfl) ?_
        refine lv_bipush (v := nI 24) hx hb zd_L_settle_27 (by decide) ?_
        refine lv_icmp_ge hx hb (tgt := 51) zd_L_settle_29 (by decide) (fun h29 => ?_) (fun h29 => ?_)
        · have h29 := za_leN h29 (by omega) (by omega)
          exact hC51 q Rq Uq ls H locs (by omega) (by exact hR) (by rw [show q = 23 by omega]; exact za_stab23 _ _) (lv_sub hl [0] rfl) hP hD hS
        · have h29 := za_nleN h29 (by omega) (by omega)
          refine lv_aload_n hx hb zd_L_settle_32 rfl (lv_at hl 0 rfl) ?_
          refine lv_iload_n hx hb zd_L_settle_33 rfl (lv_at hl 1 rfl) ?_
          refine za_wVi (As := [.int (nI (q + 1))]) (rest := []) (wr := [(aK, .inl (cI, 24, .inl Kd)), (aC, .inl (cI, 24, .inl Co))]) (wz := (fun _ => [(aL, .inr (1, [.ref aN, .ref aR, .ref aU, .ref aK, .int (nI q), .int (nI kc), .int (za_bi sd)])), (aR, .inl (cI, 576, .inl (za_of (za_pr Tg Rq Uq (q + 1)) Rq ((q + 1) * 24) 24))), (aU, .inl (cI, 96, .inl (za_ua Tg Rq (((q + 1) - 1) * 24) Uq))), (aK, .inl (cI, 24, .inl Kd)), (aN, .inr (0, [.ref aT, .ref aC, .int ct])), (aT, .inl (cI, 96, .inl Tg)), (aC, .inl (cI, 24, .inl Co))])) ⟨hx, hb, hml, hown, hts⟩ (zc_L_partsMore ln D cI cZ _ aL aN aR aU aK q kc sd aT aC ct Tg Rq Uq (q + 1) (by omega) (by omega)) (za_gV 1 hts zw_247 zw_249 zw_3 zw_37 zw_250 (by decide +kernel) ⟨Nat.le_of_ble_eq_true rfl, Nat.le_of_ble_eq_true rfl⟩) hK hN hP hD hS hA [0, 1, 2, 4, 5] [3, 6] [2, 3, 4, 0, 5, 6, 1] rfl rfl (by decide) (by decide) (by decide) (by decide) (fun _ => rfl) (q0 := 0) rfl rfl hl rfl rfl (Nat.le_of_ble_eq_true rfl) zd_L_settle_34 ⟨Nat.le_of_ble_eq_true rfl, Nat.le_of_ble_eq_true rfl⟩ (fun r34 u34 H locs hq34 hP hD hS => ?_)
          have hP : va_P D vwCl [(aL, .inr (1, [.ref aN, .ref aR, .ref aU, .ref aK, .int (nI q), .int (nI kc), .int (za_bi sd)])), (aR, .inl (cI, 576, .inl (za_of (za_pr Tg Rq Uq (q + 1)) Rq ((q + 1) * 24) 24))), (aU, .inl (cI, 96, .inl (za_ua Tg Rq (((q + 1) - 1) * 24) Uq))), (aK, .inl (cI, 24, .inl Kd)), (aN, .inr (0, [.ref aT, .ref aC, .int ct])), (aT, .inl (cI, 96, .inl Tg)), (aC, .inl (cI, 24, .inl Co))] H := hP
          have hD : va_D A [(aL, .inr (1, [.ref aN, .ref aR, .ref aU, .ref aK, .int (nI q), .int (nI kc), .int (za_bi sd)])), (aR, .inl (cI, 576, .inl (za_of (za_pr Tg Rq Uq (q + 1)) Rq ((q + 1) * 24) 24))), (aU, .inl (cI, 96, .inl (za_ua Tg Rq (((q + 1) - 1) * 24) Uq))), (aK, .inl (cI, 24, .inl Kd)), (aN, .inr (0, [.ref aT, .ref aC, .int ct])), (aT, .inl (cI, 96, .inl Tg)), (aC, .inl (cI, 24, .inl Co))] := hD
          have hq34 : r34 = za_bi (za_ex (za_pd Tg Rq Uq (q + 1)) 24) := hq34
          rw [hq34]
          refine lv_if_eq hx hb (tgt := 51) zd_L_settle_37 (by decide) (fun h37 => ?_) (fun h37 => ?_)
          · have h37 := za_bF h37
            exact hC51 q (za_of (za_pr Tg Rq Uq (q + 1)) Rq ((q + 1) * 24) 24) (za_ua Tg Rq (((q + 1) - 1) * 24) Uq) ls H locs (by omega) (by exact fun j hj => za_rows_k hR hj) (by exact za_stab_of hR h37) (lv_sub hl [0] rfl) hP hD hS
          · have h37 := za_bT h37
            refine lv_aload_n hx hb zd_L_settle_40 rfl (lv_at hl 0 rfl) ?_
            refine lv_iload_n hx hb zd_L_settle_41 rfl (lv_at hl 1 rfl) ?_
            refine va_put (D := D) (ci := 1) (v := .int (nI (q + 1))) (ty := .int) (C := zs_L) (T := zt_L) (N := 7) hx hb hts zi_L zy_L zk_L zn_L hown hK hP hD hS 0 rfl rfl 4 (by decide) hf35 (fun _ h9 => h9) rfl (by decide +kernel) rfl rfl (Nat.le_of_ble_eq_true rfl) zd_L_settle_42 (fun H locs hP hD hS => ?_)
            have hP : va_P D vwCl [(aL, .inr (1, [.ref aN, .ref aR, .ref aU, .ref aK, .int (nI (q + 1)), .int (nI kc), .int (za_bi sd)])), (aR, .inl (cI, 576, .inl (za_of (za_pr Tg Rq Uq (q + 1)) Rq ((q + 1) * 24) 24))), (aU, .inl (cI, 96, .inl (za_ua Tg Rq (((q + 1) - 1) * 24) Uq))), (aK, .inl (cI, 24, .inl Kd)), (aN, .inr (0, [.ref aT, .ref aC, .int ct])), (aT, .inl (cI, 96, .inl Tg)), (aC, .inl (cI, 24, .inl Co))] H := hP
            have hD : va_D A [(aL, .inr (1, [.ref aN, .ref aR, .ref aU, .ref aK, .int (nI (q + 1)), .int (nI kc), .int (za_bi sd)])), (aR, .inl (cI, 576, .inl (za_of (za_pr Tg Rq Uq (q + 1)) Rq ((q + 1) * 24) 24))), (aU, .inl (cI, 96, .inl (za_ua Tg Rq (((q + 1) - 1) * 24) Uq))), (aK, .inl (cI, 24, .inl Kd)), (aN, .inr (0, [.ref aT, .ref aC, .int ct])), (aT, .inl (cI, 96, .inl Tg)), (aC, .inl (cI, 24, .inl Co))] := hD
            refine lv_iinc (k := 1) (v := nI (q + 1 + 1)) (lv' := [(1, .int (nI (q + 1 + 1))), (0, .ref aL)]) hx hb zd_L_settle_45 hl rfl (za_inc _) (by decide) rfl (fun ls hl => ?_)
            refine lv_goto hx hb (tgt := 26) zd_L_settle_48 (by decide) ?_
            have e1 : nI ((q + 1) + 1) = nI (q + 1 + 1) := by first | with_reducible rfl | (rfl)
            exact ih26 (q + 1) (za_of (za_pr Tg Rq Uq (q + 1)) Rq ((q + 1) * 24) 24) (za_ua Tg Rq (((q + 1) - 1) * 24) Uq) ls H locs (by omega) (by omega) (by exact za_rows_s hR) (by rw [e1]; exact lv_sub hl [1, 0] rfl) hP hD hS
    have e1 : nI (0 + 1) = nI 1 := by first | with_reducible rfl | (rfl)
    exact hC26 (24 - 0 + 1) 0 (za_fl (fun x => za_mk (fun z => decide (Co z = Co x)) 24) Rw 24) Un ls H locs (Nat.lt_succ_self _) (by omega) (by exact fun j hj => za_row0 hj) (by rw [e1]; exact lv_sub hl [1, 0] rfl) hP hD hS
  · have h4 := za_bT h4
    have e1 : za_bi true = za_bi sd := by first | with_reducible rfl | (rw [h4])
    have hP9 : va_P D vwCl [(aL, .inr (1, [.ref aN, .ref aR, .ref aU, .ref aK, .int (nI lr), .int (nI kc), .int (za_bi true)])), (aR, .inl (cI, 576, .inl Rw)), (aU, .inl (cI, 96, .inl Un)), (aK, .inl (cI, 24, .inl Kd)), (aN, .inr (0, [.ref aT, .ref aC, .int ct])), (aT, .inl (cI, 96, .inl Tg)), (aC, .inl (cI, 24, .inl Co))] H0 := by rw [e1]; exact hP
    have hD9 : va_D A [(aL, .inr (1, [.ref aN, .ref aR, .ref aU, .ref aK, .int (nI lr), .int (nI kc), .int (za_bi true)])), (aR, .inl (cI, 576, .inl Rw)), (aU, .inl (cI, 96, .inl Un)), (aK, .inl (cI, 24, .inl Kd)), (aN, .inr (0, [.ref aT, .ref aC, .int ct])), (aT, .inl (cI, 96, .inl Tg)), (aC, .inl (cI, 24, .inl Co))] := by rw [e1]; exact hD
    have hQ9 : za_like Tg Co Rw lr Kd kc := by exact hok h4
    exact hret ⟨Rw, Un, Kd, lr, kc⟩ _ _ _ _ (hQ9) hP9 hD9 hS zd_L_settle_7
def zr_C_settle : Room := { frames := 4, cells := 0, slots := 0, locals := 92 }
set_option maxHeartbeats 4000000 in
set_option maxRecDepth 100000 in
theorem zc_C_settle (ln : Launch) (D : va_G) (cI cZ : ClassId) (sz : Nat) (aV : Nat) (aN : Nat) (aB : Nat) (aW : Nat) (sc : Bool) (aT : Nat) (aC : Nat) (ct : Int32) (Tg : Nat → Int32) (Co : Nat → Int32) (Bl : Nat → Int32) (Uc : Nat → Int32) (hsm : za_small Tg) (hok : sc = true → za_cov Tg Co Bl) : Met ln zm_C_settle (Cond.code zm_C_settle zo_C_settle 3 none :: zb_big) zr_C_settle (za_Pw D vwCl [(cI, .int), (cZ, .boolean)] [.ref aV] [(aV, .inr (2, [.ref aN, .ref aB, .ref aW, .int (za_bi sc)])), (aB, .inl (cI, 24, .inl Bl)), (aW, .inl (cI, 96, .inl Uc)), (aN, .inr (0, [.ref aT, .ref aC, .int ct])), (aT, .inl (cI, 96, .inl Tg)), (aC, .inl (cI, 24, .inl Co))] sz) (va_Qv (fun (u : (Nat → Int32) × (Nat → Int32)) => za_cov Tg Co u.1) (za_B D vwCl [(aV, .inr (2, [.ref aN, .ref aB, .ref aW, .int (za_bi sc)])), (aB, .inl (cI, 24, .inl Bl)), (aW, .inl (cI, 96, .inl Uc)), (aN, .inr (0, [.ref aT, .ref aC, .int ct])), (aT, .inl (cI, 96, .inl Tg)), (aC, .inl (cI, 24, .inl Co))] sz (fun (u : (Nat → Int32) × (Nat → Int32)) => [(aV, .inr (2, [.ref aN, .ref aB, .ref aW, .int (za_bi true)])), (aB, .inl (cI, 24, .inl u.1)), (aW, .inl (cI, 96, .inl u.2)), (aN, .inr (0, [.ref aT, .ref aC, .int ct])), (aT, .inl (cI, 96, .inl Tg)), (aC, .inl (cI, 24, .inl Co))])) (va_A [(aV, .inr (2, [.ref aN, .ref aB, .ref aW, .int (za_bi sc)])), (aB, .inl (cI, 24, .inl Bl)), (aW, .inl (cI, 96, .inl Uc)), (aN, .inr (0, [.ref aT, .ref aC, .int ct])), (aT, .inl (cI, 96, .inl Tg)), (aC, .inl (cI, 24, .inl Co))] sz)) 0 0 (va_A [(aV, .inr (2, [.ref aN, .ref aB, .ref aW, .int (za_bi sc)])), (aB, .inl (cI, 24, .inl Bl)), (aW, .inl (cI, 96, .inl Uc)), (aN, .inr (0, [.ref aT, .ref aC, .int ct])), (aT, .inl (cI, 96, .inl Tg)), (aC, .inl (cI, 24, .inl Co))] sz) := by
  refine za_wv (cc := zo_C_settle) (maxL := 3) (by decide) (Nat.le_of_ble_eq_true rfl) ?_
  intro p e sg m args below meth c H0 A Q hx hb hml hts hown hmn hP hK hN hD hA hS hret ls hl
  have hP : va_P D vwCl [(aV, .inr (2, [.ref aN, .ref aB, .ref aW, .int (za_bi sc)])), (aB, .inl (cI, 24, .inl Bl)), (aW, .inl (cI, 96, .inl Uc)), (aN, .inr (0, [.ref aT, .ref aC, .int ct])), (aT, .inl (cI, 96, .inl Tg)), (aC, .inl (cI, 24, .inl Co))] H0 := hP
  have hD : va_D A [(aV, .inr (2, [.ref aN, .ref aB, .ref aW, .int (za_bi sc)])), (aB, .inl (cI, 24, .inl Bl)), (aW, .inl (cI, 96, .inl Uc)), (aN, .inr (0, [.ref aT, .ref aC, .int ct])), (aT, .inl (cI, 96, .inl Tg)), (aC, .inl (cI, 24, .inl Co))] := hD
  have hl : lv_has ls 3 [(0, .ref aV)] := hl
  have hf22 := hts _ zw_104
  have hf9 := hts _ zw_101
  have hf15 := hts _ zw_102
  refine lv_aload_n hx hb zd_C_settle_0 rfl (lv_at hl 0 rfl) ?_
  refine va_get (D := D) (ci := 2) (v := .int (za_bi sc)) (C := zs_C) (T := zt_C) (N := 4) hx hb hts zi_C hown hK hP 0 rfl rfl 3 (by decide) hf22 (fun _ h9 => h9) rfl zd_C_settle_1 ?_
  refine lv_if_eq hx hb (tgt := 8) zd_C_settle_4 (by decide) (fun h4 => ?_) (fun h4 => ?_)
  · have h4 := za_bF h4
    refine lv_aload_n hx hb zd_C_settle_8 rfl (lv_at hl 0 rfl) ?_
    refine va_get (D := D) (ci := 2) (v := .ref aN) (C := zs_C) (T := zt_C) (N := 4) hx hb hts zi_C hown hK hP 0 rfl rfl 0 (by decide) hf9 (fun _ h9 => h9) rfl zd_C_settle_9 ?_
    refine lv_aload_n hx hb zd_C_settle_12 rfl (lv_at hl 0 rfl) ?_
    refine va_get (D := D) (ci := 2) (v := .ref aB) (C := zs_C) (T := zt_C) (N := 4) hx hb hts zi_C hown hK hP 0 rfl rfl 1 (by decide) hf15 (fun _ h9 => h9) rfl zd_C_settle_13 ?_
    refine za_wVv (As := [.ref aB]) (rest := []) (wr := [(aV, .inr (2, [.ref aN, .ref aB, .ref aW, .int (za_bi sc)])), (aW, .inl (cI, 96, .inl Uc)), (aT, .inl (cI, 96, .inl Tg))]) (wz := (fun _ => [(aV, .inr (2, [.ref aN, .ref aB, .ref aW, .int (za_bi sc)])), (aB, .inl (cI, 24, .inl (za_fl (fun x => za_mk (fun z => decide (Co z = Co x)) 24) Bl 24))), (aW, .inl (cI, 96, .inl Uc)), (aN, .inr (0, [.ref aT, .ref aC, .int ct])), (aT, .inl (cI, 96, .inl Tg)), (aC, .inl (cI, 24, .inl Co))])) ⟨hx, hb, hml, hown, hts⟩ (zc_N_groupByColour ln D cI cZ _ aN aT aC ct Co aB 24 Bl (by omega) (by omega)) (za_gV 1 hts zw_351 zw_240 zw_241 zw_36 zw_242 (by decide +kernel) ⟨Nat.le_of_ble_eq_true rfl, Nat.le_of_ble_eq_true rfl⟩) hK hN hP hD hS hA [3, 5, 1] [0, 2, 4] [0, 5, 1, 3, 2, 4] rfl rfl (by decide) (by decide) (by decide) (by decide) (fun _ => rfl) (q0 := 3) rfl rfl hl rfl rfl (Nat.le_of_ble_eq_true rfl) zd_C_settle_16 ⟨Nat.le_of_ble_eq_true rfl, Nat.le_of_ble_eq_true rfl⟩ (fun u16 H locs hq16 hP hD hS => ?_)
    have hP : va_P D vwCl [(aV, .inr (2, [.ref aN, .ref aB, .ref aW, .int (za_bi sc)])), (aB, .inl (cI, 24, .inl (za_fl (fun x => za_mk (fun z => decide (Co z = Co x)) 24) Bl 24))), (aW, .inl (cI, 96, .inl Uc)), (aN, .inr (0, [.ref aT, .ref aC, .int ct])), (aT, .inl (cI, 96, .inl Tg)), (aC, .inl (cI, 24, .inl Co))] H := hP
    have hD : va_D A [(aV, .inr (2, [.ref aN, .ref aB, .ref aW, .int (za_bi sc)])), (aB, .inl (cI, 24, .inl (za_fl (fun x => za_mk (fun z => decide (Co z = Co x)) 24) Bl 24))), (aW, .inl (cI, 96, .inl Uc)), (aN, .inr (0, [.ref aT, .ref aC, .int ct])), (aT, .inl (cI, 96, .inl Tg)), (aC, .inl (cI, 24, .inl Co))] := hD
    refine lv_iconst (v := nI 1) hx hb zd_C_settle_19 (by decide) ?_
    refine lv_istore_n (lv' := [(1, .int (nI 1)), (0, .ref aV)]) hx hb zd_C_settle_20 rfl hl (by decide) rfl (fun ls hl => ?_)
    refine lv_iconst (v := nI 0) hx hb zd_C_settle_21 (by decide) ?_
    refine lv_istore_n (lv' := [(2, .int (nI 0)), (1, .int (nI 1)), (0, .ref aV)]) hx hb zd_C_settle_22 rfl hl (by decide) rfl (fun ls hl => ?_)
    have hC45 : ∀  (Bz : Nat → Int32) (Uz : Nat → Int32) (ls : Array Slot) (H : Heap) (locs : List Loc), za_cov Tg Co Bz → lv_has ls 3 [(0, .ref aV)] → va_P D vwCl [(aV, .inr (2, [.ref aN, .ref aB, .ref aW, .int (za_bi sc)])), (aB, .inl (cI, 24, .inl Bz)), (aW, .inl (cI, 96, .inl Uz)), (aN, .inr (0, [.ref aT, .ref aC, .int ct])), (aT, .inl (cI, 96, .inl Tg)), (aC, .inl (cI, 24, .inl Co))] H → va_D A [(aV, .inr (2, [.ref aN, .ref aB, .ref aW, .int (za_bi sc)])), (aB, .inl (cI, 24, .inl Bz)), (aW, .inl (cI, 96, .inl Uz)), (aN, .inr (0, [.ref aT, .ref aC, .int ct])), (aT, .inl (cI, 96, .inl Tg)), (aC, .inl (cI, 24, .inl Co))] → va_S A H0 H locs → W p ln e zr_C_settle sg m args below meth c H locs 0 0 Q (F0 m 45 ls []) := by
      intro Bz Uz ls H locs hZ hl hP hD hS
      refine lv_aload_n hx hb zd_C_settle_45 rfl (lv_at hl 0 rfl) ?_
      refine lv_iconst (v := nI 1) hx hb zd_C_settle_46 (by decide) ?_
      refine za_eqi (y := za_bi true) rfl ?_
      refine va_put (D := D) (ci := 2) (v := .int (za_bi true)) (ty := .boolean) (C := zs_C) (T := zt_C) (N := 4) hx hb hts zi_C zy_C zk_C zn_C hown hK hP hD hS 0 rfl rfl 3 (by decide) hf22 (fun _ h9 => h9) rfl (by decide +kernel) (za_nar _) (za_fit _) (Nat.le_of_ble_eq_true rfl) zd_C_settle_47 (fun H locs hP hD hS => ?_)
      have hP : va_P D vwCl [(aV, .inr (2, [.ref aN, .ref aB, .ref aW, .int (za_bi true)])), (aB, .inl (cI, 24, .inl Bz)), (aW, .inl (cI, 96, .inl Uz)), (aN, .inr (0, [.ref aT, .ref aC, .int ct])), (aT, .inl (cI, 96, .inl Tg)), (aC, .inl (cI, 24, .inl Co))] H := hP
      have hD : va_D A [(aV, .inr (2, [.ref aN, .ref aB, .ref aW, .int (za_bi true)])), (aB, .inl (cI, 24, .inl Bz)), (aW, .inl (cI, 96, .inl Uz)), (aN, .inr (0, [.ref aT, .ref aC, .int ct])), (aT, .inl (cI, 96, .inl Tg)), (aC, .inl (cI, 24, .inl Co))] := hD
      have hP9 : va_P D vwCl [(aV, .inr (2, [.ref aN, .ref aB, .ref aW, .int (za_bi true)])), (aB, .inl (cI, 24, .inl Bz)), (aW, .inl (cI, 96, .inl Uz)), (aN, .inr (0, [.ref aT, .ref aC, .int ct])), (aT, .inl (cI, 96, .inl Tg)), (aC, .inl (cI, 24, .inl Co))] H := hP
      have hD9 : va_D A [(aV, .inr (2, [.ref aN, .ref aB, .ref aW, .int (za_bi true)])), (aB, .inl (cI, 24, .inl Bz)), (aW, .inl (cI, 96, .inl Uz)), (aN, .inr (0, [.ref aT, .ref aC, .int ct])), (aT, .inl (cI, 96, .inl Tg)), (aC, .inl (cI, 24, .inl Co))] := hD
      have hQ9 : za_cov Tg Co Bz := by exact hZ
      exact hret ⟨Bz, Uz⟩ _ _ _ _ (hQ9) hP9 hD9 hS zd_C_settle_50
    have hC23 : ∀ (n23 : Nat) (q : Nat) (fl : Bool) (Bq : Nat → Int32) (Uq : Nat → Int32) (ls : Array Slot) (H : Heap) (locs : List Loc), 577 - q < n23 → q ≤ 576 → (∀ s, s < 24 → Bq s = za_mk (za_cv Tg Co q s) 24) → (fl = false → za_cstab Tg Co q) → lv_has ls 3 [(0, .ref aV), (1, .int (za_bi fl)), (2, .int (nI q))] → va_P D vwCl [(aV, .inr (2, [.ref aN, .ref aB, .ref aW, .int (za_bi sc)])), (aB, .inl (cI, 24, .inl Bq)), (aW, .inl (cI, 96, .inl Uq)), (aN, .inr (0, [.ref aT, .ref aC, .int ct])), (aT, .inl (cI, 96, .inl Tg)), (aC, .inl (cI, 24, .inl Co))] H → va_D A [(aV, .inr (2, [.ref aN, .ref aB, .ref aW, .int (za_bi sc)])), (aB, .inl (cI, 24, .inl Bq)), (aW, .inl (cI, 96, .inl Uq)), (aN, .inr (0, [.ref aT, .ref aC, .int ct])), (aT, .inl (cI, 96, .inl Tg)), (aC, .inl (cI, 24, .inl Co))] → va_S A H0 H locs → W p ln e zr_C_settle sg m args below meth c H locs 0 0 Q (F0 m 23 ls []) := by
      intro n23
      induction n23 with
      | zero => intro q fl Bq Uq ls H locs hn23 hq1 hR hF hl hP hD hS; exact absurd hn23 (Nat.not_lt_zero _)
      | succ n23 ih23 =>
        intro q fl Bq Uq ls H locs hn23 hq1 hR hF hl hP hD hS
        refine lv_iload_n hx hb zd_C_settle_23 rfl (lv_at hl 2 rfl) ?_
        refine lv_sipush (v := nI 576) hx hb zd_C_settle_24 (by decide) ?_
        refine lv_icmp_ge hx hb (tgt := 45) zd_C_settle_27 (by decide) (fun h27 => ?_) (fun h27 => ?_)
        · have h27 := za_leN h27 (by omega) (by omega)
          exact hC45 Bq Uq ls H locs (by rw [show q = 576 by omega] at hR; exact hR) (lv_sub hl [0] rfl) hP hD hS
        · have h27 := za_nleN h27 (by omega) (by omega)
          refine lv_iload_n hx hb zd_C_settle_30 rfl (lv_at hl 1 rfl) ?_
          refine lv_if_eq hx hb (tgt := 45) zd_C_settle_31 (by decide) (fun h31 => ?_) (fun h31 => ?_)
          · have h31 := za_bF h31
            exact hC45 Bq Uq ls H locs (by exact za_cov_of hR (hF h31) hq1) (lv_sub hl [0] rfl) hP hD hS
          · have h31 := za_bT h31
            refine lv_aload_n hx hb zd_C_settle_34 rfl (lv_at hl 0 rfl) ?_
            refine za_wVi (As := []) (rest := []) (wr := [(aC, .inl (cI, 24, .inl Co))]) (wz := (fun _ => [(aV, .inr (2, [.ref aN, .ref aB, .ref aW, .int (za_bi sc)])), (aB, .inl (cI, 24, .inl (za_fl (za_cb Tg Bq Uq) Bq 24))), (aW, .inl (cI, 96, .inl (za_ua Tg Bq 0 Uq))), (aN, .inr (0, [.ref aT, .ref aC, .int ct])), (aT, .inl (cI, 96, .inl Tg)), (aC, .inl (cI, 24, .inl Co))])) ⟨hx, hb, hml, hown, hts⟩ (zc_C_shrinks ln D cI cZ _ aV aN aB aW sc aT aC ct Tg Bq Uq ) (za_gV 0 hts zw_352 zw_354 zw_10 zw_38 zw_355 (by decide +kernel) ⟨Nat.le_of_ble_eq_true rfl, Nat.le_of_ble_eq_true rfl⟩) hK hN hP hD hS hA [0, 1, 2, 3, 4] [5] [1, 2, 3, 4, 5, 0] rfl rfl (by decide) (by decide) (by decide) (by decide) (fun _ => rfl) (q0 := 0) rfl rfl hl rfl rfl (Nat.le_of_ble_eq_true rfl) zd_C_settle_35 ⟨Nat.le_of_ble_eq_true rfl, Nat.le_of_ble_eq_true rfl⟩ (fun r35 u35 H locs hq35 hP hD hS => ?_)
            have hP : va_P D vwCl [(aV, .inr (2, [.ref aN, .ref aB, .ref aW, .int (za_bi sc)])), (aB, .inl (cI, 24, .inl (za_fl (za_cb Tg Bq Uq) Bq 24))), (aW, .inl (cI, 96, .inl (za_ua Tg Bq 0 Uq))), (aN, .inr (0, [.ref aT, .ref aC, .int ct])), (aT, .inl (cI, 96, .inl Tg)), (aC, .inl (cI, 24, .inl Co))] H := hP
            have hD : va_D A [(aV, .inr (2, [.ref aN, .ref aB, .ref aW, .int (za_bi sc)])), (aB, .inl (cI, 24, .inl (za_fl (za_cb Tg Bq Uq) Bq 24))), (aW, .inl (cI, 96, .inl (za_ua Tg Bq 0 Uq))), (aN, .inr (0, [.ref aT, .ref aC, .int ct])), (aT, .inl (cI, 96, .inl Tg)), (aC, .inl (cI, 24, .inl Co))] := hD
            have hq35 : r35 = za_bi (za_ex (za_cd Tg Bq Uq) 24) := hq35
            rw [hq35]
            refine lv_istore_n (lv' := [(1, .int (za_bi (za_ex (za_cd Tg Bq Uq) 24))), (0, .ref aV), (2, .int (nI q))]) hx hb zd_C_settle_38 rfl hl (by decide) rfl (fun ls hl => ?_)
            refine lv_iinc (k := 2) (v := nI (q + 1)) (lv' := [(2, .int (nI (q + 1))), (1, .int (za_bi (za_ex (za_cd Tg Bq Uq) 24))), (0, .ref aV)]) hx hb zd_C_settle_39 hl rfl (za_inc _) (by decide) rfl (fun ls hl => ?_)
            refine lv_goto hx hb (tgt := 23) zd_C_settle_42 (by decide) ?_
            exact ih23 (q + 1) (za_ex (za_cd Tg Bq Uq) 24) (za_fl (za_cb Tg Bq Uq) Bq 24) (za_ua Tg Bq 0 Uq) ls H locs (by omega) (by omega) (by exact za_cov_s hsm hR) (by exact za_cstab_of hsm hR) (lv_sub hl [2, 1, 0] rfl) hP hD hS
    have e1 : za_bi true = nI 1 := by first | with_reducible rfl | (rfl)
    exact hC23 (577 - 0 + 1) 0 true (za_fl (fun x => za_mk (fun z => decide (Co z = Co x)) 24) Bl 24) Uc ls H locs (Nat.lt_succ_self _) (by omega) (by exact za_cov_0) (by exact fun h => by cases h) (by rw [e1]; exact lv_sub hl [2, 1, 0] rfl) hP hD hS
  · have h4 := za_bT h4
    have e1 : za_bi true = za_bi sc := by first | with_reducible rfl | (rw [h4])
    have hP9 : va_P D vwCl [(aV, .inr (2, [.ref aN, .ref aB, .ref aW, .int (za_bi true)])), (aB, .inl (cI, 24, .inl Bl)), (aW, .inl (cI, 96, .inl Uc)), (aN, .inr (0, [.ref aT, .ref aC, .int ct])), (aT, .inl (cI, 96, .inl Tg)), (aC, .inl (cI, 24, .inl Co))] H0 := by rw [e1]; exact hP
    have hD9 : va_D A [(aV, .inr (2, [.ref aN, .ref aB, .ref aW, .int (za_bi true)])), (aB, .inl (cI, 24, .inl Bl)), (aW, .inl (cI, 96, .inl Uc)), (aN, .inr (0, [.ref aT, .ref aC, .int ct])), (aT, .inl (cI, 96, .inl Tg)), (aC, .inl (cI, 24, .inl Co))] := by rw [e1]; exact hD
    have hQ9 : za_cov Tg Co Bl := by exact hok h4
    exact hret ⟨Bl, Uc⟩ _ _ _ _ (hQ9) hP9 hD9 hS zd_C_settle_7
end
section
def zr_X_forgetAnswers : Room := { frames := 1, cells := 0, slots := 0, locals := 20 }
set_option maxHeartbeats 4000000 in
set_option maxRecDepth 100000 in
theorem zc_X_forgetAnswers (ln : Launch) (D : va_G) (cI cZ : ClassId) (sz : Nat) (aX : Nat) (aV : Nat) (aG : Nat) (aL : Nat) (aN : Nat) (aR : Nat) (aU : Nat) (aK : Nat) (lr : Nat) (kc : Nat) (sd : Bool) (aB : Nat) (aW : Nat) (sc : Bool) : Met ln zm_X_forgetAnswers (Cond.code zm_X_forgetAnswers zo_X_forgetAnswers 1 none :: zb_big) zr_X_forgetAnswers (za_Pw D vwCl [(cI, .int), (cZ, .boolean)] [.ref aX] [(aX, .inr (4, [.ref aN, .ref aL, .ref aV, .ref aG])), (aL, .inr (1, [.ref aN, .ref aR, .ref aU, .ref aK, .int (nI lr), .int (nI kc), .int (za_bi sd)])), (aV, .inr (2, [.ref aN, .ref aB, .ref aW, .int (za_bi sc)]))] sz) (va_Qv (fun (_u : Unit) => True) (za_B D vwCl [(aX, .inr (4, [.ref aN, .ref aL, .ref aV, .ref aG])), (aL, .inr (1, [.ref aN, .ref aR, .ref aU, .ref aK, .int (nI lr), .int (nI kc), .int (za_bi sd)])), (aV, .inr (2, [.ref aN, .ref aB, .ref aW, .int (za_bi sc)]))] sz (fun (_u : Unit) => [(aX, .inr (4, [.ref aN, .ref aL, .ref aV, .ref aG])), (aL, .inr (1, [.ref aN, .ref aR, .ref aU, .ref aK, .int (nI lr), .int (nI kc), .int (za_bi false)])), (aV, .inr (2, [.ref aN, .ref aB, .ref aW, .int (za_bi false)]))])) (va_A [(aX, .inr (4, [.ref aN, .ref aL, .ref aV, .ref aG])), (aL, .inr (1, [.ref aN, .ref aR, .ref aU, .ref aK, .int (nI lr), .int (nI kc), .int (za_bi sd)])), (aV, .inr (2, [.ref aN, .ref aB, .ref aW, .int (za_bi sc)]))] sz)) 0 0 (va_A [(aX, .inr (4, [.ref aN, .ref aL, .ref aV, .ref aG])), (aL, .inr (1, [.ref aN, .ref aR, .ref aU, .ref aK, .int (nI lr), .int (nI kc), .int (za_bi sd)])), (aV, .inr (2, [.ref aN, .ref aB, .ref aW, .int (za_bi sc)]))] sz) := by
  refine za_wv (cc := zo_X_forgetAnswers) (maxL := 1) (by decide) (Nat.le_of_ble_eq_true rfl) ?_
  intro p e sg m args below meth c H0 A Q hx hb hml hts hown hmn hP hK hN hD hA hS hret ls hl
  have hP : va_P D vwCl [(aX, .inr (4, [.ref aN, .ref aL, .ref aV, .ref aG])), (aL, .inr (1, [.ref aN, .ref aR, .ref aU, .ref aK, .int (nI lr), .int (nI kc), .int (za_bi sd)])), (aV, .inr (2, [.ref aN, .ref aB, .ref aW, .int (za_bi sc)]))] H0 := hP
  have hD : va_D A [(aX, .inr (4, [.ref aN, .ref aL, .ref aV, .ref aG])), (aL, .inr (1, [.ref aN, .ref aR, .ref aU, .ref aK, .int (nI lr), .int (nI kc), .int (za_bi sd)])), (aV, .inr (2, [.ref aN, .ref aB, .ref aW, .int (za_bi sc)]))] := hD
  have hl : lv_has ls 1 [(0, .ref aX)] := hl
  have hf21 := hts _ zw_140
  have hf28 := hts _ zw_141
  refine lv_aload_n hx hb zd_X_forgetAnswers_0 rfl (lv_at hl 0 rfl) ?_
  refine va_get (D := D) (ci := 4) (v := .ref aL) (C := zs_X) (T := zt_X) (N := 4) hx hb hts zi_X hown hK hP 0 rfl rfl 1 (by decide) hf21 (fun _ h9 => h9) rfl zd_X_forgetAnswers_1 ?_
  refine za_wVv (As := []) (rest := []) (wr := [(aX, .inr (4, [.ref aN, .ref aL, .ref aV, .ref aG])), (aV, .inr (2, [.ref aN, .ref aB, .ref aW, .int (za_bi sc)]))]) (wz := (fun _ => [(aX, .inr (4, [.ref aN, .ref aL, .ref aV, .ref aG])), (aL, .inr (1, [.ref aN, .ref aR, .ref aU, .ref aK, .int (nI lr), .int (nI kc), .int (za_bi false)])), (aV, .inr (2, [.ref aN, .ref aB, .ref aW, .int (za_bi sc)]))])) ⟨hx, hb, hml, hown, hts⟩ (zc_L_forget ln D cI cZ _ aL aN aR aU aK lr kc sd ) (za_gV 0 hts zw_191 zw_192 zw_193 zw_37 zw_194 (by decide +kernel) ⟨Nat.le_of_ble_eq_true rfl, Nat.le_of_ble_eq_true rfl⟩) hK hN hP hD hS hA [1] [0, 2] [0, 2, 1] rfl rfl (by decide) (by decide) (by decide) (by decide) (fun _ => rfl) (q0 := 1) rfl rfl hl rfl rfl (Nat.le_of_ble_eq_true rfl) zd_X_forgetAnswers_4 ⟨Nat.le_of_ble_eq_true rfl, Nat.le_of_ble_eq_true rfl⟩ (fun u4 H locs hq4 hP hD hS => ?_)
  have hP : va_P D vwCl [(aX, .inr (4, [.ref aN, .ref aL, .ref aV, .ref aG])), (aL, .inr (1, [.ref aN, .ref aR, .ref aU, .ref aK, .int (nI lr), .int (nI kc), .int (za_bi false)])), (aV, .inr (2, [.ref aN, .ref aB, .ref aW, .int (za_bi sc)]))] H := hP
  have hD : va_D A [(aX, .inr (4, [.ref aN, .ref aL, .ref aV, .ref aG])), (aL, .inr (1, [.ref aN, .ref aR, .ref aU, .ref aK, .int (nI lr), .int (nI kc), .int (za_bi false)])), (aV, .inr (2, [.ref aN, .ref aB, .ref aW, .int (za_bi sc)]))] := hD
  refine lv_aload_n hx hb zd_X_forgetAnswers_7 rfl (lv_at hl 0 rfl) ?_
  refine va_get (D := D) (ci := 4) (v := .ref aV) (C := zs_X) (T := zt_X) (N := 4) hx hb hts zi_X hown hK hP 0 rfl rfl 2 (by decide) hf28 (fun _ h9 => h9) rfl zd_X_forgetAnswers_8 ?_
  refine za_wVv (As := []) (rest := []) (wr := [(aX, .inr (4, [.ref aN, .ref aL, .ref aV, .ref aG])), (aL, .inr (1, [.ref aN, .ref aR, .ref aU, .ref aK, .int (nI lr), .int (nI kc), .int (za_bi false)]))]) (wz := (fun _ => [(aX, .inr (4, [.ref aN, .ref aL, .ref aV, .ref aG])), (aL, .inr (1, [.ref aN, .ref aR, .ref aU, .ref aK, .int (nI lr), .int (nI kc), .int (za_bi false)])), (aV, .inr (2, [.ref aN, .ref aB, .ref aW, .int (za_bi false)]))])) ⟨hx, hb, hml, hown, hts⟩ (zc_C_forget ln D cI cZ _ aV aN aB aW sc ) (za_gV 0 hts zw_195 zw_196 zw_197 zw_38 zw_198 (by decide +kernel) ⟨Nat.le_of_ble_eq_true rfl, Nat.le_of_ble_eq_true rfl⟩) hK hN hP hD hS hA [2] [0, 1] [0, 1, 2] rfl rfl (by decide) (by decide) (by decide) (by decide) (fun _ => rfl) (q0 := 2) rfl rfl hl rfl rfl (Nat.le_of_ble_eq_true rfl) zd_X_forgetAnswers_11 ⟨Nat.le_of_ble_eq_true rfl, Nat.le_of_ble_eq_true rfl⟩ (fun u11 H locs hq11 hP hD hS => ?_)
  have hP : va_P D vwCl [(aX, .inr (4, [.ref aN, .ref aL, .ref aV, .ref aG])), (aL, .inr (1, [.ref aN, .ref aR, .ref aU, .ref aK, .int (nI lr), .int (nI kc), .int (za_bi false)])), (aV, .inr (2, [.ref aN, .ref aB, .ref aW, .int (za_bi false)]))] H := hP
  have hD : va_D A [(aX, .inr (4, [.ref aN, .ref aL, .ref aV, .ref aG])), (aL, .inr (1, [.ref aN, .ref aR, .ref aU, .ref aK, .int (nI lr), .int (nI kc), .int (za_bi false)])), (aV, .inr (2, [.ref aN, .ref aB, .ref aW, .int (za_bi false)]))] := hD
  have hP9 : va_P D vwCl [(aX, .inr (4, [.ref aN, .ref aL, .ref aV, .ref aG])), (aL, .inr (1, [.ref aN, .ref aR, .ref aU, .ref aK, .int (nI lr), .int (nI kc), .int (za_bi false)])), (aV, .inr (2, [.ref aN, .ref aB, .ref aW, .int (za_bi false)]))] H := hP
  have hD9 : va_D A [(aX, .inr (4, [.ref aN, .ref aL, .ref aV, .ref aG])), (aL, .inr (1, [.ref aN, .ref aR, .ref aU, .ref aK, .int (nI lr), .int (nI kc), .int (za_bi false)])), (aV, .inr (2, [.ref aN, .ref aB, .ref aW, .int (za_bi false)]))] := hD
  exact hret () _ _ _ _ (trivial) hP9 hD9 hS zd_X_forgetAnswers_14
def zr_X_moves : Room := { frames := 1, cells := 0, slots := 0, locals := 20 }
set_option maxHeartbeats 4000000 in
set_option maxRecDepth 100000 in
theorem zc_X_moves (ln : Launch) (D : va_G) (cI cZ : ClassId) (aX : Nat) (aV : Nat) (aG : Nat) (aL : Nat) (aN : Nat) (aT : Nat) (aC : Nat) (ct : Int32) : Met ln zm_X_moves (Cond.code zm_X_moves zo_X_moves 1 (some .int) :: zb_big) zr_X_moves (za_Pr D vwCl [(cI, .int), (cZ, .boolean)] [.ref aX] [(aX, .inr (4, [.ref aN, .ref aL, .ref aV, .ref aG])), (aN, .inr (0, [.ref aT, .ref aC, .int ct]))]) (vp_Si (fun r => r = ct)) 0 0 (fun _ => False) := by
  refine za_reader (cc := zo_X_moves) (maxL := 1) (ty := .int) (by decide) (Nat.le_of_ble_eq_true rfl) (fun _ _ => rfl) ?_
  intro p e sg m args below meth c H Q hx hb hml hts hown hP hK hN hret ls hl
  have hP : va_P D vwCl [(aX, .inr (4, [.ref aN, .ref aL, .ref aV, .ref aG])), (aN, .inr (0, [.ref aT, .ref aC, .int ct]))] H := hP
  have hl : lv_has ls 1 [(0, .ref aX)] := hl
  have hf10 := hts _ zw_139
  refine lv_aload_n hx hb zd_X_moves_0 rfl (lv_at hl 0 rfl) ?_
  refine va_get (D := D) (ci := 4) (v := .ref aN) (C := zs_X) (T := zt_X) (N := 4) hx hb hts zi_X hown hK hP 0 rfl rfl 0 (by decide) hf10 (fun _ h9 => h9) rfl zd_X_moves_1 ?_
  refine za_cV (As := []) (rest := []) ⟨hx, hb, hml, hown, hts⟩ (zc_N_count ln D cI cZ aN aT aC ct ) (za_gV 0 hts zw_179 zw_180 zw_181 zw_36 zw_182 (by decide +kernel) ⟨Nat.le_of_ble_eq_true rfl, Nat.le_of_ble_eq_true rfl⟩) hK hN hP [1] rfl (q0 := 1) rfl rfl hl rfl rfl (Nat.le_of_ble_eq_true rfl) zd_X_moves_4 ⟨Nat.le_of_ble_eq_true rfl, Nat.le_of_ble_eq_true rfl⟩ ?_
  exact hret _ _ _ (rfl) zd_X_moves_7
def zr_X_move : Room := { frames := 3, cells := 0, slots := 0, locals := 63 }
set_option maxHeartbeats 4000000 in
set_option maxRecDepth 100000 in
theorem zc_X_move (ln : Launch) (D : va_G) (cI cZ : ClassId) (sz : Nat) (aX : Nat) (aV : Nat) (aG : Nat) (aL : Nat) (aN : Nat) (aR : Nat) (aU : Nat) (aK : Nat) (lr : Nat) (kc : Nat) (sd : Bool) (aB : Nat) (aW : Nat) (sc : Bool) (aT : Nat) (aC : Nat) (ct : Int32) (Tg : Nat → Int32) (Co : Nat → Int32) (w : Int32) (x0 : Int32) (v : Int32) : Met ln zm_X_move (Cond.code zm_X_move zo_X_move 4 (some .boolean) :: zb_big) zr_X_move (za_Pw D vwCl [(cI, .int), (cZ, .boolean)] [.ref aX, .int w, .int x0, .int v] [(aX, .inr (4, [.ref aN, .ref aL, .ref aV, .ref aG])), (aN, .inr (0, [.ref aT, .ref aC, .int ct])), (aT, .inl (cI, 96, .inl Tg)), (aC, .inl (cI, 24, .inl Co)), (aL, .inr (1, [.ref aN, .ref aR, .ref aU, .ref aK, .int (nI lr), .int (nI kc), .int (za_bi sd)])), (aV, .inr (2, [.ref aN, .ref aB, .ref aW, .int (za_bi sc)]))] sz) (va_Qi (fun (r : Int32) (_u : Unit) => r = za_bi (za_mok Tg ct w x0 v)) (za_B D vwCl [(aX, .inr (4, [.ref aN, .ref aL, .ref aV, .ref aG])), (aN, .inr (0, [.ref aT, .ref aC, .int ct])), (aT, .inl (cI, 96, .inl Tg)), (aC, .inl (cI, 24, .inl Co)), (aL, .inr (1, [.ref aN, .ref aR, .ref aU, .ref aK, .int (nI lr), .int (nI kc), .int (za_bi sd)])), (aV, .inr (2, [.ref aN, .ref aB, .ref aW, .int (za_bi sc)]))] sz (fun (_u : Unit) => [(aX, .inr (4, [.ref aN, .ref aL, .ref aV, .ref aG])), (aN, .inr (0, [.ref aT, .ref aC, .int (za_mct Tg ct w x0 v)])), (aT, .inl (cI, 96, .inl (za_mvT Tg ct w x0 v))), (aC, .inl (cI, 24, .inl Co)), (aL, .inr (1, [.ref aN, .ref aR, .ref aU, .ref aK, .int (nI lr), .int (nI kc), .int (za_bi (sd && !za_mok Tg ct w x0 v))])), (aV, .inr (2, [.ref aN, .ref aB, .ref aW, .int (za_bi (sc && !za_mok Tg ct w x0 v))]))])) (va_A [(aX, .inr (4, [.ref aN, .ref aL, .ref aV, .ref aG])), (aN, .inr (0, [.ref aT, .ref aC, .int ct])), (aT, .inl (cI, 96, .inl Tg)), (aC, .inl (cI, 24, .inl Co)), (aL, .inr (1, [.ref aN, .ref aR, .ref aU, .ref aK, .int (nI lr), .int (nI kc), .int (za_bi sd)])), (aV, .inr (2, [.ref aN, .ref aB, .ref aW, .int (za_bi sc)]))] sz)) 0 0 (va_A [(aX, .inr (4, [.ref aN, .ref aL, .ref aV, .ref aG])), (aN, .inr (0, [.ref aT, .ref aC, .int ct])), (aT, .inl (cI, 96, .inl Tg)), (aC, .inl (cI, 24, .inl Co)), (aL, .inr (1, [.ref aN, .ref aR, .ref aU, .ref aK, .int (nI lr), .int (nI kc), .int (za_bi sd)])), (aV, .inr (2, [.ref aN, .ref aB, .ref aW, .int (za_bi sc)]))] sz) := by
  refine za_wi (cc := zo_X_move) (maxL := 4) (ty := .boolean) (by decide) (Nat.le_of_ble_eq_true rfl) (fun _ _ h => by rw [h]; exact za_nar _) ?_
  intro p e sg m args below meth c H0 A Q hx hb hml hts hown hmn hP hK hN hD hA hS hret ls hl
  have hP : va_P D vwCl [(aX, .inr (4, [.ref aN, .ref aL, .ref aV, .ref aG])), (aN, .inr (0, [.ref aT, .ref aC, .int ct])), (aT, .inl (cI, 96, .inl Tg)), (aC, .inl (cI, 24, .inl Co)), (aL, .inr (1, [.ref aN, .ref aR, .ref aU, .ref aK, .int (nI lr), .int (nI kc), .int (za_bi sd)])), (aV, .inr (2, [.ref aN, .ref aB, .ref aW, .int (za_bi sc)]))] H0 := hP
  have hD : va_D A [(aX, .inr (4, [.ref aN, .ref aL, .ref aV, .ref aG])), (aN, .inr (0, [.ref aT, .ref aC, .int ct])), (aT, .inl (cI, 96, .inl Tg)), (aC, .inl (cI, 24, .inl Co)), (aL, .inr (1, [.ref aN, .ref aR, .ref aU, .ref aK, .int (nI lr), .int (nI kc), .int (za_bi sd)])), (aV, .inr (2, [.ref aN, .ref aB, .ref aW, .int (za_bi sc)]))] := hD
  have hl : lv_has ls 4 [(0, .ref aX), (1, .int w), (2, .int x0), (3, .int v)] := hl
  have hf10 := hts _ zw_139
  refine lv_iload_n hx hb zd_X_move_0 rfl (lv_at hl 1 rfl) ?_
  refine lv_iload_n hx hb zd_X_move_1 rfl (lv_at hl 2 rfl) ?_
  refine lv_iload_n hx hb zd_X_move_2 rfl (lv_at hl 3 rfl) ?_
  refine za_cS (As := [.int w, .int x0, .int v]) (rest := []) ⟨hx, hb, hml, hown, hts⟩ (zc_X_isMove ln D cI cZ w x0 v ) (za_gS 3 hts zw_156 zw_157 zw_35 zw_158 (by decide +kernel) ⟨Nat.le_of_ble_eq_true rfl, Nat.le_of_ble_eq_true rfl⟩) hK hN hP [] rfl hl rfl rfl (Nat.le_of_ble_eq_true rfl) zd_X_move_3 ⟨Nat.le_of_ble_eq_true rfl, Nat.le_of_ble_eq_true rfl⟩ ?_
  refine lv_if_eq hx hb (tgt := 34) zd_X_move_6 (by decide) (fun h6 => ?_) (fun h6 => ?_)
  · have h6 := za_bF h6
    have hm : za_mok Tg ct w x0 v = false := by first | exact za_mok1 h6 | exact za_mok2 hs0 hl0 ht0 hw hx9 hv9 h19 | exact za_mok3 h31
    refine lv_iconst (v := nI 0) hx hb zd_X_move_34 (by decide) ?_
    have e1 : za_mct Tg ct w x0 v = ct := by first | with_reducible rfl | (first | (simp [za_mvT, za_mct, hm]; done) | (unfold za_mvT; rw [if_pos hm, hw, hx9, hv9, za_clS hs0, za_clL hl0]))
    have e2 : za_mvT Tg ct w x0 v = Tg := by first | with_reducible rfl | (first | (simp [za_mvT, za_mct, hm]; done) | (unfold za_mvT; rw [if_pos hm, hw, hx9, hv9, za_clS hs0, za_clL hl0]))
    have e3 : za_bi (sd && !za_mok Tg ct w x0 v) = za_bi sd := by first | with_reducible rfl | (first | (simp [za_mvT, za_mct, hm]; done) | (unfold za_mvT; rw [if_pos hm, hw, hx9, hv9, za_clS hs0, za_clL hl0]))
    have e4 : za_bi (sc && !za_mok Tg ct w x0 v) = za_bi sc := by first | with_reducible rfl | (first | (simp [za_mvT, za_mct, hm]; done) | (unfold za_mvT; rw [if_pos hm, hw, hx9, hv9, za_clS hs0, za_clL hl0]))
    have hP9 : va_P D vwCl [(aX, .inr (4, [.ref aN, .ref aL, .ref aV, .ref aG])), (aN, .inr (0, [.ref aT, .ref aC, .int (za_mct Tg ct w x0 v)])), (aT, .inl (cI, 96, .inl (za_mvT Tg ct w x0 v))), (aC, .inl (cI, 24, .inl Co)), (aL, .inr (1, [.ref aN, .ref aR, .ref aU, .ref aK, .int (nI lr), .int (nI kc), .int (za_bi (sd && !za_mok Tg ct w x0 v))])), (aV, .inr (2, [.ref aN, .ref aB, .ref aW, .int (za_bi (sc && !za_mok Tg ct w x0 v))]))] H0 := by rw [e1, e2, e3, e4]; exact hP
    have hD9 : va_D A [(aX, .inr (4, [.ref aN, .ref aL, .ref aV, .ref aG])), (aN, .inr (0, [.ref aT, .ref aC, .int (za_mct Tg ct w x0 v)])), (aT, .inl (cI, 96, .inl (za_mvT Tg ct w x0 v))), (aC, .inl (cI, 24, .inl Co)), (aL, .inr (1, [.ref aN, .ref aR, .ref aU, .ref aK, .int (nI lr), .int (nI kc), .int (za_bi (sd && !za_mok Tg ct w x0 v))])), (aV, .inr (2, [.ref aN, .ref aB, .ref aW, .int (za_bi (sc && !za_mok Tg ct w x0 v))]))] := by rw [e1, e2, e3, e4]; exact hD
    exact hret _ () _ _ _ _ (za_b0 (by exact hm)) hP9 hD9 hS zd_X_move_35
  · have h6 := za_bT h6
    obtain ⟨⟨s, hs0, hw⟩, ⟨l, hl0, hx9⟩, t, ht0, hv9⟩ := za_isM_of h6
    have hl : lv_has ls 4 [(0, .ref aX), (1, .int (nI s)), (2, .int x0), (3, .int v)] := by rw [← hw]; exact hl
    have hl : lv_has ls 4 [(0, .ref aX), (1, .int (nI s)), (2, .int (nI l)), (3, .int v)] := by rw [← hx9]; exact hl
    have hl : lv_has ls 4 [(0, .ref aX), (1, .int (nI s)), (2, .int (nI l)), (3, .int (nI t))] := by rw [← hv9]; exact hl
    refine lv_aload_n hx hb zd_X_move_9 rfl (lv_at hl 0 rfl) ?_
    refine va_get (D := D) (ci := 4) (v := .ref aN) (C := zs_X) (T := zt_X) (N := 4) hx hb hts zi_X hown hK hP 0 rfl rfl 0 (by decide) hf10 (fun _ h9 => h9) rfl zd_X_move_10 ?_
    refine lv_iload_n hx hb zd_X_move_13 rfl (lv_at hl 1 rfl) ?_
    refine lv_iload_n hx hb zd_X_move_14 rfl (lv_at hl 2 rfl) ?_
    refine lv_iload_n hx hb zd_X_move_15 rfl (lv_at hl 3 rfl) ?_
    refine za_cV (As := [.int (nI s), .int (nI l), .int (nI t)]) (rest := []) ⟨hx, hb, hml, hown, hts⟩ (zc_N_holds ln D cI cZ aN aT aC ct Tg s l t (by omega) (by omega) (by omega)) (za_gV 3 hts zw_168 zw_169 zw_170 zw_36 zw_171 (by decide +kernel) ⟨Nat.le_of_ble_eq_true rfl, Nat.le_of_ble_eq_true rfl⟩) hK hN hP [1, 2] rfl (q0 := 1) rfl rfl hl rfl rfl (Nat.le_of_ble_eq_true rfl) zd_X_move_16 ⟨Nat.le_of_ble_eq_true rfl, Nat.le_of_ble_eq_true rfl⟩ ?_
    refine lv_if_ne hx hb (tgt := 34) zd_X_move_19 (by decide) (fun h19 => ?_) (fun h19 => ?_)
    · have h19 := za_bT h19
      have hm : za_mok Tg ct w x0 v = false := by first | exact za_mok1 h6 | exact za_mok2 hs0 hl0 ht0 hw hx9 hv9 h19 | exact za_mok3 h31
      refine lv_iconst (v := nI 0) hx hb zd_X_move_34 (by decide) ?_
      have e1 : za_mct Tg ct w x0 v = ct := by first | with_reducible rfl | (first | (simp [za_mvT, za_mct, hm]; done) | (unfold za_mvT; rw [if_pos hm, hw, hx9, hv9, za_clS hs0, za_clL hl0]))
      have e2 : za_mvT Tg ct w x0 v = Tg := by first | with_reducible rfl | (first | (simp [za_mvT, za_mct, hm]; done) | (unfold za_mvT; rw [if_pos hm, hw, hx9, hv9, za_clS hs0, za_clL hl0]))
      have e3 : za_bi (sd && !za_mok Tg ct w x0 v) = za_bi sd := by first | with_reducible rfl | (first | (simp [za_mvT, za_mct, hm]; done) | (unfold za_mvT; rw [if_pos hm, hw, hx9, hv9, za_clS hs0, za_clL hl0]))
      have e4 : za_bi (sc && !za_mok Tg ct w x0 v) = za_bi sc := by first | with_reducible rfl | (first | (simp [za_mvT, za_mct, hm]; done) | (unfold za_mvT; rw [if_pos hm, hw, hx9, hv9, za_clS hs0, za_clL hl0]))
      have hP9 : va_P D vwCl [(aX, .inr (4, [.ref aN, .ref aL, .ref aV, .ref aG])), (aN, .inr (0, [.ref aT, .ref aC, .int (za_mct Tg ct w x0 v)])), (aT, .inl (cI, 96, .inl (za_mvT Tg ct w x0 v))), (aC, .inl (cI, 24, .inl Co)), (aL, .inr (1, [.ref aN, .ref aR, .ref aU, .ref aK, .int (nI lr), .int (nI kc), .int (za_bi (sd && !za_mok Tg ct w x0 v))])), (aV, .inr (2, [.ref aN, .ref aB, .ref aW, .int (za_bi (sc && !za_mok Tg ct w x0 v))]))] H0 := by rw [e1, e2, e3, e4]; exact hP
      have hD9 : va_D A [(aX, .inr (4, [.ref aN, .ref aL, .ref aV, .ref aG])), (aN, .inr (0, [.ref aT, .ref aC, .int (za_mct Tg ct w x0 v)])), (aT, .inl (cI, 96, .inl (za_mvT Tg ct w x0 v))), (aC, .inl (cI, 24, .inl Co)), (aL, .inr (1, [.ref aN, .ref aR, .ref aU, .ref aK, .int (nI lr), .int (nI kc), .int (za_bi (sd && !za_mok Tg ct w x0 v))])), (aV, .inr (2, [.ref aN, .ref aB, .ref aW, .int (za_bi (sc && !za_mok Tg ct w x0 v))]))] := by rw [e1, e2, e3, e4]; exact hD
      exact hret _ () _ _ _ _ (za_b0 (by exact hm)) hP9 hD9 hS zd_X_move_35
    · have h19 := za_bF h19
      refine lv_aload_n hx hb zd_X_move_22 rfl (lv_at hl 0 rfl) ?_
      refine va_get (D := D) (ci := 4) (v := .ref aN) (C := zs_X) (T := zt_X) (N := 4) hx hb hts zi_X hown hK hP 0 rfl rfl 0 (by decide) hf10 (fun _ h9 => h9) rfl zd_X_move_23 ?_
      refine za_cV (As := []) (rest := []) ⟨hx, hb, hml, hown, hts⟩ (zc_N_count ln D cI cZ aN aT aC ct ) (za_gV 0 hts zw_179 zw_180 zw_181 zw_36 zw_182 (by decide +kernel) ⟨Nat.le_of_ble_eq_true rfl, Nat.le_of_ble_eq_true rfl⟩) hK hN hP [1] rfl (q0 := 1) rfl rfl hl rfl rfl (Nat.le_of_ble_eq_true rfl) zd_X_move_26 ⟨Nat.le_of_ble_eq_true rfl, Nat.le_of_ble_eq_true rfl⟩ ?_
      refine lv_bipush (v := nI 120) hx hb zd_X_move_29 (by decide) ?_
      refine lv_icmp_lt hx hb (tgt := 36) zd_X_move_31 (by decide) (fun h31 => ?_) (fun h31 => ?_)
      · skip
        have hm : za_mok Tg ct w x0 v = true := za_mok4 hs0 hl0 ht0 hw hx9 hv9 h6 h19 h31
        refine lv_aload_n hx hb zd_X_move_36 rfl (lv_at hl 0 rfl) ?_
        refine va_get (D := D) (ci := 4) (v := .ref aN) (C := zs_X) (T := zt_X) (N := 4) hx hb hts zi_X hown hK hP 0 rfl rfl 0 (by decide) hf10 (fun _ h9 => h9) rfl zd_X_move_37 ?_
        refine lv_iload_n hx hb zd_X_move_40 rfl (lv_at hl 1 rfl) ?_
        refine lv_iload_n hx hb zd_X_move_41 rfl (lv_at hl 2 rfl) ?_
        refine lv_iload_n hx hb zd_X_move_42 rfl (lv_at hl 3 rfl) ?_
        refine za_wVv (As := [.int (nI s), .int (nI l), .int (nI t)]) (rest := []) (wr := [(aX, .inr (4, [.ref aN, .ref aL, .ref aV, .ref aG])), (aC, .inl (cI, 24, .inl Co)), (aL, .inr (1, [.ref aN, .ref aR, .ref aU, .ref aK, .int (nI lr), .int (nI kc), .int (za_bi sd)])), (aV, .inr (2, [.ref aN, .ref aB, .ref aW, .int (za_bi sc)]))]) (wz := (fun _ => [(aX, .inr (4, [.ref aN, .ref aL, .ref aV, .ref aG])), (aN, .inr (0, [.ref aT, .ref aC, .int (ct + nI 1)])), (aT, .inl (cI, 96, .inl (upd Tg (s * 4 + l) (Tg (s * 4 + l) ||| (nI 1 <<< (nI t &&& 31)))))), (aC, .inl (cI, 24, .inl Co)), (aL, .inr (1, [.ref aN, .ref aR, .ref aU, .ref aK, .int (nI lr), .int (nI kc), .int (za_bi sd)])), (aV, .inr (2, [.ref aN, .ref aB, .ref aW, .int (za_bi sc)]))])) ⟨hx, hb, hml, hown, hts⟩ (zc_N_put ln D cI cZ _ aN aT aC ct Tg s l t (by omega) (by omega) (by omega)) (za_gV 3 hts zw_183 zw_184 zw_185 zw_36 zw_186 (by decide +kernel) ⟨Nat.le_of_ble_eq_true rfl, Nat.le_of_ble_eq_true rfl⟩) hK hN hP hD hS hA [1, 2] [0, 3, 4, 5] [0, 4, 5, 1, 2, 3] rfl rfl (by decide) (by decide) (by decide) (by decide) (fun _ => rfl) (q0 := 1) rfl rfl hl rfl rfl (Nat.le_of_ble_eq_true rfl) zd_X_move_43 ⟨Nat.le_of_ble_eq_true rfl, Nat.le_of_ble_eq_true rfl⟩ (fun u43 H locs hq43 hP hD hS => ?_)
        have hP : va_P D vwCl [(aX, .inr (4, [.ref aN, .ref aL, .ref aV, .ref aG])), (aN, .inr (0, [.ref aT, .ref aC, .int (ct + nI 1)])), (aT, .inl (cI, 96, .inl (upd Tg (s * 4 + l) (Tg (s * 4 + l) ||| (nI 1 <<< (nI t &&& 31)))))), (aC, .inl (cI, 24, .inl Co)), (aL, .inr (1, [.ref aN, .ref aR, .ref aU, .ref aK, .int (nI lr), .int (nI kc), .int (za_bi sd)])), (aV, .inr (2, [.ref aN, .ref aB, .ref aW, .int (za_bi sc)]))] H := hP
        have hD : va_D A [(aX, .inr (4, [.ref aN, .ref aL, .ref aV, .ref aG])), (aN, .inr (0, [.ref aT, .ref aC, .int (ct + nI 1)])), (aT, .inl (cI, 96, .inl (upd Tg (s * 4 + l) (Tg (s * 4 + l) ||| (nI 1 <<< (nI t &&& 31)))))), (aC, .inl (cI, 24, .inl Co)), (aL, .inr (1, [.ref aN, .ref aR, .ref aU, .ref aK, .int (nI lr), .int (nI kc), .int (za_bi sd)])), (aV, .inr (2, [.ref aN, .ref aB, .ref aW, .int (za_bi sc)]))] := hD
        refine lv_aload_n hx hb zd_X_move_46 rfl (lv_at hl 0 rfl) ?_
        refine za_wVv (As := []) (rest := []) (wr := [(aN, .inr (0, [.ref aT, .ref aC, .int (ct + nI 1)])), (aT, .inl (cI, 96, .inl (upd Tg (s * 4 + l) (Tg (s * 4 + l) ||| (nI 1 <<< (nI t &&& 31)))))), (aC, .inl (cI, 24, .inl Co))]) (wz := (fun _ => [(aX, .inr (4, [.ref aN, .ref aL, .ref aV, .ref aG])), (aN, .inr (0, [.ref aT, .ref aC, .int (ct + nI 1)])), (aT, .inl (cI, 96, .inl (upd Tg (s * 4 + l) (Tg (s * 4 + l) ||| (nI 1 <<< (nI t &&& 31)))))), (aC, .inl (cI, 24, .inl Co)), (aL, .inr (1, [.ref aN, .ref aR, .ref aU, .ref aK, .int (nI lr), .int (nI kc), .int (za_bi false)])), (aV, .inr (2, [.ref aN, .ref aB, .ref aW, .int (za_bi false)]))])) ⟨hx, hb, hml, hown, hts⟩ (zc_X_forgetAnswers ln D cI cZ _ aX aV aG aL aN aR aU aK lr kc sd aB aW sc ) (za_gV 0 hts zw_187 zw_189 zw_0 zw_35 zw_190 (by decide +kernel) ⟨Nat.le_of_ble_eq_true rfl, Nat.le_of_ble_eq_true rfl⟩) hK hN hP hD hS hA [0, 4, 5] [1, 2, 3] [3, 0, 1, 2, 4, 5] rfl rfl (by decide) (by decide) (by decide) (by decide) (fun _ => rfl) (q0 := 0) rfl rfl hl rfl rfl (Nat.le_of_ble_eq_true rfl) zd_X_move_47 ⟨Nat.le_of_ble_eq_true rfl, Nat.le_of_ble_eq_true rfl⟩ (fun u47 H locs hq47 hP hD hS => ?_)
        have hP : va_P D vwCl [(aX, .inr (4, [.ref aN, .ref aL, .ref aV, .ref aG])), (aN, .inr (0, [.ref aT, .ref aC, .int (ct + nI 1)])), (aT, .inl (cI, 96, .inl (upd Tg (s * 4 + l) (Tg (s * 4 + l) ||| (nI 1 <<< (nI t &&& 31)))))), (aC, .inl (cI, 24, .inl Co)), (aL, .inr (1, [.ref aN, .ref aR, .ref aU, .ref aK, .int (nI lr), .int (nI kc), .int (za_bi false)])), (aV, .inr (2, [.ref aN, .ref aB, .ref aW, .int (za_bi false)]))] H := hP
        have hD : va_D A [(aX, .inr (4, [.ref aN, .ref aL, .ref aV, .ref aG])), (aN, .inr (0, [.ref aT, .ref aC, .int (ct + nI 1)])), (aT, .inl (cI, 96, .inl (upd Tg (s * 4 + l) (Tg (s * 4 + l) ||| (nI 1 <<< (nI t &&& 31)))))), (aC, .inl (cI, 24, .inl Co)), (aL, .inr (1, [.ref aN, .ref aR, .ref aU, .ref aK, .int (nI lr), .int (nI kc), .int (za_bi false)])), (aV, .inr (2, [.ref aN, .ref aB, .ref aW, .int (za_bi false)]))] := hD
        refine lv_iconst (v := nI 1) hx hb zd_X_move_50 (by decide) ?_
        have e1 : za_mct Tg ct w x0 v = ct + nI 1 := by first | with_reducible rfl | (first | (simp [za_mvT, za_mct, hm]; done) | (unfold za_mvT; rw [if_pos hm, hw, hx9, hv9, za_clS hs0, za_clL hl0]))
        have e2 : za_mvT Tg ct w x0 v = upd Tg (s * 4 + l) (Tg (s * 4 + l) ||| (nI 1 <<< (nI t &&& 31))) := by first | with_reducible rfl | (first | (simp [za_mvT, za_mct, hm]; done) | (unfold za_mvT; rw [if_pos hm, hw, hx9, hv9, za_clS hs0, za_clL hl0]))
        have e3 : za_bi (sd && !za_mok Tg ct w x0 v) = za_bi false := by first | with_reducible rfl | (first | (simp [za_mvT, za_mct, hm]; done) | (unfold za_mvT; rw [if_pos hm, hw, hx9, hv9, za_clS hs0, za_clL hl0]))
        have e4 : za_bi (sc && !za_mok Tg ct w x0 v) = za_bi false := by first | with_reducible rfl | (first | (simp [za_mvT, za_mct, hm]; done) | (unfold za_mvT; rw [if_pos hm, hw, hx9, hv9, za_clS hs0, za_clL hl0]))
        have hP9 : va_P D vwCl [(aX, .inr (4, [.ref aN, .ref aL, .ref aV, .ref aG])), (aN, .inr (0, [.ref aT, .ref aC, .int (za_mct Tg ct w x0 v)])), (aT, .inl (cI, 96, .inl (za_mvT Tg ct w x0 v))), (aC, .inl (cI, 24, .inl Co)), (aL, .inr (1, [.ref aN, .ref aR, .ref aU, .ref aK, .int (nI lr), .int (nI kc), .int (za_bi (sd && !za_mok Tg ct w x0 v))])), (aV, .inr (2, [.ref aN, .ref aB, .ref aW, .int (za_bi (sc && !za_mok Tg ct w x0 v))]))] H := by rw [e1, e2, e3, e4]; exact hP
        have hD9 : va_D A [(aX, .inr (4, [.ref aN, .ref aL, .ref aV, .ref aG])), (aN, .inr (0, [.ref aT, .ref aC, .int (za_mct Tg ct w x0 v)])), (aT, .inl (cI, 96, .inl (za_mvT Tg ct w x0 v))), (aC, .inl (cI, 24, .inl Co)), (aL, .inr (1, [.ref aN, .ref aR, .ref aU, .ref aK, .int (nI lr), .int (nI kc), .int (za_bi (sd && !za_mok Tg ct w x0 v))])), (aV, .inr (2, [.ref aN, .ref aB, .ref aW, .int (za_bi (sc && !za_mok Tg ct w x0 v))]))] := by rw [e1, e2, e3, e4]; exact hD
        exact hret _ () _ _ _ _ (za_b1 (by exact hm)) hP9 hD9 hS zd_X_move_51
      · skip
        have hm : za_mok Tg ct w x0 v = false := by first | exact za_mok1 h6 | exact za_mok2 hs0 hl0 ht0 hw hx9 hv9 h19 | exact za_mok3 h31
        refine lv_iconst (v := nI 0) hx hb zd_X_move_34 (by decide) ?_
        have e1 : za_mct Tg ct w x0 v = ct := by first | with_reducible rfl | (first | (simp [za_mvT, za_mct, hm]; done) | (unfold za_mvT; rw [if_pos hm, hw, hx9, hv9, za_clS hs0, za_clL hl0]))
        have e2 : za_mvT Tg ct w x0 v = Tg := by first | with_reducible rfl | (first | (simp [za_mvT, za_mct, hm]; done) | (unfold za_mvT; rw [if_pos hm, hw, hx9, hv9, za_clS hs0, za_clL hl0]))
        have e3 : za_bi (sd && !za_mok Tg ct w x0 v) = za_bi sd := by first | with_reducible rfl | (first | (simp [za_mvT, za_mct, hm]; done) | (unfold za_mvT; rw [if_pos hm, hw, hx9, hv9, za_clS hs0, za_clL hl0]))
        have e4 : za_bi (sc && !za_mok Tg ct w x0 v) = za_bi sc := by first | with_reducible rfl | (first | (simp [za_mvT, za_mct, hm]; done) | (unfold za_mvT; rw [if_pos hm, hw, hx9, hv9, za_clS hs0, za_clL hl0]))
        have hP9 : va_P D vwCl [(aX, .inr (4, [.ref aN, .ref aL, .ref aV, .ref aG])), (aN, .inr (0, [.ref aT, .ref aC, .int (za_mct Tg ct w x0 v)])), (aT, .inl (cI, 96, .inl (za_mvT Tg ct w x0 v))), (aC, .inl (cI, 24, .inl Co)), (aL, .inr (1, [.ref aN, .ref aR, .ref aU, .ref aK, .int (nI lr), .int (nI kc), .int (za_bi (sd && !za_mok Tg ct w x0 v))])), (aV, .inr (2, [.ref aN, .ref aB, .ref aW, .int (za_bi (sc && !za_mok Tg ct w x0 v))]))] H0 := by rw [e1, e2, e3, e4]; exact hP
        have hD9 : va_D A [(aX, .inr (4, [.ref aN, .ref aL, .ref aV, .ref aG])), (aN, .inr (0, [.ref aT, .ref aC, .int (za_mct Tg ct w x0 v)])), (aT, .inl (cI, 96, .inl (za_mvT Tg ct w x0 v))), (aC, .inl (cI, 24, .inl Co)), (aL, .inr (1, [.ref aN, .ref aR, .ref aU, .ref aK, .int (nI lr), .int (nI kc), .int (za_bi (sd && !za_mok Tg ct w x0 v))])), (aV, .inr (2, [.ref aN, .ref aB, .ref aW, .int (za_bi (sc && !za_mok Tg ct w x0 v))]))] := by rw [e1, e2, e3, e4]; exact hD
        exact hret _ () _ _ _ _ (za_b0 (by exact hm)) hP9 hD9 hS zd_X_move_35
def zr_X_drop : Room := { frames := 3, cells := 0, slots := 0, locals := 63 }
set_option maxHeartbeats 4000000 in
set_option maxRecDepth 100000 in
theorem zc_X_drop (ln : Launch) (D : va_G) (cI cZ : ClassId) (sz : Nat) (aX : Nat) (aV : Nat) (aG : Nat) (aL : Nat) (aN : Nat) (aR : Nat) (aU : Nat) (aK : Nat) (lr : Nat) (kc : Nat) (sd : Bool) (aB : Nat) (aW : Nat) (sc : Bool) (aT : Nat) (aC : Nat) (ct : Int32) (Tg : Nat → Int32) (Co : Nat → Int32) (w : Int32) (x0 : Int32) (v : Int32) : Met ln zm_X_drop (Cond.code zm_X_drop zo_X_drop 4 (some .boolean) :: zb_big) zr_X_drop (za_Pw D vwCl [(cI, .int), (cZ, .boolean)] [.ref aX, .int w, .int x0, .int v] [(aX, .inr (4, [.ref aN, .ref aL, .ref aV, .ref aG])), (aN, .inr (0, [.ref aT, .ref aC, .int ct])), (aT, .inl (cI, 96, .inl Tg)), (aC, .inl (cI, 24, .inl Co)), (aL, .inr (1, [.ref aN, .ref aR, .ref aU, .ref aK, .int (nI lr), .int (nI kc), .int (za_bi sd)])), (aV, .inr (2, [.ref aN, .ref aB, .ref aW, .int (za_bi sc)]))] sz) (va_Qi (fun (r : Int32) (_u : Unit) => r = za_bi (za_dok Tg w x0 v)) (za_B D vwCl [(aX, .inr (4, [.ref aN, .ref aL, .ref aV, .ref aG])), (aN, .inr (0, [.ref aT, .ref aC, .int ct])), (aT, .inl (cI, 96, .inl Tg)), (aC, .inl (cI, 24, .inl Co)), (aL, .inr (1, [.ref aN, .ref aR, .ref aU, .ref aK, .int (nI lr), .int (nI kc), .int (za_bi sd)])), (aV, .inr (2, [.ref aN, .ref aB, .ref aW, .int (za_bi sc)]))] sz (fun (_u : Unit) => [(aX, .inr (4, [.ref aN, .ref aL, .ref aV, .ref aG])), (aN, .inr (0, [.ref aT, .ref aC, .int (za_dct Tg ct w x0 v)])), (aT, .inl (cI, 96, .inl (za_dvT Tg w x0 v))), (aC, .inl (cI, 24, .inl Co)), (aL, .inr (1, [.ref aN, .ref aR, .ref aU, .ref aK, .int (nI lr), .int (nI kc), .int (za_bi (sd && !za_dok Tg w x0 v))])), (aV, .inr (2, [.ref aN, .ref aB, .ref aW, .int (za_bi (sc && !za_dok Tg w x0 v))]))])) (va_A [(aX, .inr (4, [.ref aN, .ref aL, .ref aV, .ref aG])), (aN, .inr (0, [.ref aT, .ref aC, .int ct])), (aT, .inl (cI, 96, .inl Tg)), (aC, .inl (cI, 24, .inl Co)), (aL, .inr (1, [.ref aN, .ref aR, .ref aU, .ref aK, .int (nI lr), .int (nI kc), .int (za_bi sd)])), (aV, .inr (2, [.ref aN, .ref aB, .ref aW, .int (za_bi sc)]))] sz)) 0 0 (va_A [(aX, .inr (4, [.ref aN, .ref aL, .ref aV, .ref aG])), (aN, .inr (0, [.ref aT, .ref aC, .int ct])), (aT, .inl (cI, 96, .inl Tg)), (aC, .inl (cI, 24, .inl Co)), (aL, .inr (1, [.ref aN, .ref aR, .ref aU, .ref aK, .int (nI lr), .int (nI kc), .int (za_bi sd)])), (aV, .inr (2, [.ref aN, .ref aB, .ref aW, .int (za_bi sc)]))] sz) := by
  refine za_wi (cc := zo_X_drop) (maxL := 4) (ty := .boolean) (by decide) (Nat.le_of_ble_eq_true rfl) (fun _ _ h => by rw [h]; exact za_nar _) ?_
  intro p e sg m args below meth c H0 A Q hx hb hml hts hown hmn hP hK hN hD hA hS hret ls hl
  have hP : va_P D vwCl [(aX, .inr (4, [.ref aN, .ref aL, .ref aV, .ref aG])), (aN, .inr (0, [.ref aT, .ref aC, .int ct])), (aT, .inl (cI, 96, .inl Tg)), (aC, .inl (cI, 24, .inl Co)), (aL, .inr (1, [.ref aN, .ref aR, .ref aU, .ref aK, .int (nI lr), .int (nI kc), .int (za_bi sd)])), (aV, .inr (2, [.ref aN, .ref aB, .ref aW, .int (za_bi sc)]))] H0 := hP
  have hD : va_D A [(aX, .inr (4, [.ref aN, .ref aL, .ref aV, .ref aG])), (aN, .inr (0, [.ref aT, .ref aC, .int ct])), (aT, .inl (cI, 96, .inl Tg)), (aC, .inl (cI, 24, .inl Co)), (aL, .inr (1, [.ref aN, .ref aR, .ref aU, .ref aK, .int (nI lr), .int (nI kc), .int (za_bi sd)])), (aV, .inr (2, [.ref aN, .ref aB, .ref aW, .int (za_bi sc)]))] := hD
  have hl : lv_has ls 4 [(0, .ref aX), (1, .int w), (2, .int x0), (3, .int v)] := hl
  have hf10 := hts _ zw_139
  refine lv_iload_n hx hb zd_X_drop_0 rfl (lv_at hl 1 rfl) ?_
  refine lv_iload_n hx hb zd_X_drop_1 rfl (lv_at hl 2 rfl) ?_
  refine lv_iload_n hx hb zd_X_drop_2 rfl (lv_at hl 3 rfl) ?_
  refine za_cS (As := [.int w, .int x0, .int v]) (rest := []) ⟨hx, hb, hml, hown, hts⟩ (zc_X_isMove ln D cI cZ w x0 v ) (za_gS 3 hts zw_156 zw_157 zw_35 zw_158 (by decide +kernel) ⟨Nat.le_of_ble_eq_true rfl, Nat.le_of_ble_eq_true rfl⟩) hK hN hP [] rfl hl rfl rfl (Nat.le_of_ble_eq_true rfl) zd_X_drop_3 ⟨Nat.le_of_ble_eq_true rfl, Nat.le_of_ble_eq_true rfl⟩ ?_
  refine lv_if_eq hx hb (tgt := 22) zd_X_drop_6 (by decide) (fun h6 => ?_) (fun h6 => ?_)
  · have h6 := za_bF h6
    have hm : za_dok Tg w x0 v = false := by first | exact za_dok1 h6 | exact za_dok2 hs0 hl0 ht0 hw hx9 hv9 h19
    refine lv_iconst (v := nI 0) hx hb zd_X_drop_22 (by decide) ?_
    have e1 : za_dct Tg ct w x0 v = ct := by first | with_reducible rfl | (first | (simp [za_dvT, za_dct, hm]; done) | (unfold za_dvT; rw [if_pos hm, hw, hx9, hv9, za_clS hs0, za_clL hl0]))
    have e2 : za_dvT Tg w x0 v = Tg := by first | with_reducible rfl | (first | (simp [za_dvT, za_dct, hm]; done) | (unfold za_dvT; rw [if_pos hm, hw, hx9, hv9, za_clS hs0, za_clL hl0]))
    have e3 : za_bi (sd && !za_dok Tg w x0 v) = za_bi sd := by first | with_reducible rfl | (first | (simp [za_dvT, za_dct, hm]; done) | (unfold za_dvT; rw [if_pos hm, hw, hx9, hv9, za_clS hs0, za_clL hl0]))
    have e4 : za_bi (sc && !za_dok Tg w x0 v) = za_bi sc := by first | with_reducible rfl | (first | (simp [za_dvT, za_dct, hm]; done) | (unfold za_dvT; rw [if_pos hm, hw, hx9, hv9, za_clS hs0, za_clL hl0]))
    have hP9 : va_P D vwCl [(aX, .inr (4, [.ref aN, .ref aL, .ref aV, .ref aG])), (aN, .inr (0, [.ref aT, .ref aC, .int (za_dct Tg ct w x0 v)])), (aT, .inl (cI, 96, .inl (za_dvT Tg w x0 v))), (aC, .inl (cI, 24, .inl Co)), (aL, .inr (1, [.ref aN, .ref aR, .ref aU, .ref aK, .int (nI lr), .int (nI kc), .int (za_bi (sd && !za_dok Tg w x0 v))])), (aV, .inr (2, [.ref aN, .ref aB, .ref aW, .int (za_bi (sc && !za_dok Tg w x0 v))]))] H0 := by rw [e1, e2, e3, e4]; exact hP
    have hD9 : va_D A [(aX, .inr (4, [.ref aN, .ref aL, .ref aV, .ref aG])), (aN, .inr (0, [.ref aT, .ref aC, .int (za_dct Tg ct w x0 v)])), (aT, .inl (cI, 96, .inl (za_dvT Tg w x0 v))), (aC, .inl (cI, 24, .inl Co)), (aL, .inr (1, [.ref aN, .ref aR, .ref aU, .ref aK, .int (nI lr), .int (nI kc), .int (za_bi (sd && !za_dok Tg w x0 v))])), (aV, .inr (2, [.ref aN, .ref aB, .ref aW, .int (za_bi (sc && !za_dok Tg w x0 v))]))] := by rw [e1, e2, e3, e4]; exact hD
    exact hret _ () _ _ _ _ (za_b0 (by exact hm)) hP9 hD9 hS zd_X_drop_23
  · have h6 := za_bT h6
    obtain ⟨⟨s, hs0, hw⟩, ⟨l, hl0, hx9⟩, t, ht0, hv9⟩ := za_isM_of h6
    have hl : lv_has ls 4 [(0, .ref aX), (1, .int (nI s)), (2, .int x0), (3, .int v)] := by rw [← hw]; exact hl
    have hl : lv_has ls 4 [(0, .ref aX), (1, .int (nI s)), (2, .int (nI l)), (3, .int v)] := by rw [← hx9]; exact hl
    have hl : lv_has ls 4 [(0, .ref aX), (1, .int (nI s)), (2, .int (nI l)), (3, .int (nI t))] := by rw [← hv9]; exact hl
    refine lv_aload_n hx hb zd_X_drop_9 rfl (lv_at hl 0 rfl) ?_
    refine va_get (D := D) (ci := 4) (v := .ref aN) (C := zs_X) (T := zt_X) (N := 4) hx hb hts zi_X hown hK hP 0 rfl rfl 0 (by decide) hf10 (fun _ h9 => h9) rfl zd_X_drop_10 ?_
    refine lv_iload_n hx hb zd_X_drop_13 rfl (lv_at hl 1 rfl) ?_
    refine lv_iload_n hx hb zd_X_drop_14 rfl (lv_at hl 2 rfl) ?_
    refine lv_iload_n hx hb zd_X_drop_15 rfl (lv_at hl 3 rfl) ?_
    refine za_cV (As := [.int (nI s), .int (nI l), .int (nI t)]) (rest := []) ⟨hx, hb, hml, hown, hts⟩ (zc_N_holds ln D cI cZ aN aT aC ct Tg s l t (by omega) (by omega) (by omega)) (za_gV 3 hts zw_168 zw_169 zw_170 zw_36 zw_171 (by decide +kernel) ⟨Nat.le_of_ble_eq_true rfl, Nat.le_of_ble_eq_true rfl⟩) hK hN hP [1, 2] rfl (q0 := 1) rfl rfl hl rfl rfl (Nat.le_of_ble_eq_true rfl) zd_X_drop_16 ⟨Nat.le_of_ble_eq_true rfl, Nat.le_of_ble_eq_true rfl⟩ ?_
    refine lv_if_ne hx hb (tgt := 24) zd_X_drop_19 (by decide) (fun h19 => ?_) (fun h19 => ?_)
    · have h19 := za_bT h19
      have hm : za_dok Tg w x0 v = true := za_dok4 hs0 hl0 ht0 hw hx9 hv9 h6 h19
      refine lv_aload_n hx hb zd_X_drop_24 rfl (lv_at hl 0 rfl) ?_
      refine va_get (D := D) (ci := 4) (v := .ref aN) (C := zs_X) (T := zt_X) (N := 4) hx hb hts zi_X hown hK hP 0 rfl rfl 0 (by decide) hf10 (fun _ h9 => h9) rfl zd_X_drop_25 ?_
      refine lv_iload_n hx hb zd_X_drop_28 rfl (lv_at hl 1 rfl) ?_
      refine lv_iload_n hx hb zd_X_drop_29 rfl (lv_at hl 2 rfl) ?_
      refine lv_iload_n hx hb zd_X_drop_30 rfl (lv_at hl 3 rfl) ?_
      refine za_wVv (As := [.int (nI s), .int (nI l), .int (nI t)]) (rest := []) (wr := [(aX, .inr (4, [.ref aN, .ref aL, .ref aV, .ref aG])), (aC, .inl (cI, 24, .inl Co)), (aL, .inr (1, [.ref aN, .ref aR, .ref aU, .ref aK, .int (nI lr), .int (nI kc), .int (za_bi sd)])), (aV, .inr (2, [.ref aN, .ref aB, .ref aW, .int (za_bi sc)]))]) (wz := (fun _ => [(aX, .inr (4, [.ref aN, .ref aL, .ref aV, .ref aG])), (aN, .inr (0, [.ref aT, .ref aC, .int (ct - nI 1)])), (aT, .inl (cI, 96, .inl (upd Tg (s * 4 + l) (Tg (s * 4 + l) &&& ((nI 1 <<< (nI t &&& 31)) ^^^ (-1)))))), (aC, .inl (cI, 24, .inl Co)), (aL, .inr (1, [.ref aN, .ref aR, .ref aU, .ref aK, .int (nI lr), .int (nI kc), .int (za_bi sd)])), (aV, .inr (2, [.ref aN, .ref aB, .ref aW, .int (za_bi sc)]))])) ⟨hx, hb, hml, hown, hts⟩ (zc_N_take ln D cI cZ _ aN aT aC ct Tg s l t (by omega) (by omega) (by omega)) (za_gV 3 hts zw_203 zw_204 zw_205 zw_36 zw_206 (by decide +kernel) ⟨Nat.le_of_ble_eq_true rfl, Nat.le_of_ble_eq_true rfl⟩) hK hN hP hD hS hA [1, 2] [0, 3, 4, 5] [0, 4, 5, 1, 2, 3] rfl rfl (by decide) (by decide) (by decide) (by decide) (fun _ => rfl) (q0 := 1) rfl rfl hl rfl rfl (Nat.le_of_ble_eq_true rfl) zd_X_drop_31 ⟨Nat.le_of_ble_eq_true rfl, Nat.le_of_ble_eq_true rfl⟩ (fun u31 H locs hq31 hP hD hS => ?_)
      have hP : va_P D vwCl [(aX, .inr (4, [.ref aN, .ref aL, .ref aV, .ref aG])), (aN, .inr (0, [.ref aT, .ref aC, .int (ct - nI 1)])), (aT, .inl (cI, 96, .inl (upd Tg (s * 4 + l) (Tg (s * 4 + l) &&& ((nI 1 <<< (nI t &&& 31)) ^^^ (-1)))))), (aC, .inl (cI, 24, .inl Co)), (aL, .inr (1, [.ref aN, .ref aR, .ref aU, .ref aK, .int (nI lr), .int (nI kc), .int (za_bi sd)])), (aV, .inr (2, [.ref aN, .ref aB, .ref aW, .int (za_bi sc)]))] H := hP
      have hD : va_D A [(aX, .inr (4, [.ref aN, .ref aL, .ref aV, .ref aG])), (aN, .inr (0, [.ref aT, .ref aC, .int (ct - nI 1)])), (aT, .inl (cI, 96, .inl (upd Tg (s * 4 + l) (Tg (s * 4 + l) &&& ((nI 1 <<< (nI t &&& 31)) ^^^ (-1)))))), (aC, .inl (cI, 24, .inl Co)), (aL, .inr (1, [.ref aN, .ref aR, .ref aU, .ref aK, .int (nI lr), .int (nI kc), .int (za_bi sd)])), (aV, .inr (2, [.ref aN, .ref aB, .ref aW, .int (za_bi sc)]))] := hD
      refine lv_aload_n hx hb zd_X_drop_34 rfl (lv_at hl 0 rfl) ?_
      refine za_wVv (As := []) (rest := []) (wr := [(aN, .inr (0, [.ref aT, .ref aC, .int (ct - nI 1)])), (aT, .inl (cI, 96, .inl (upd Tg (s * 4 + l) (Tg (s * 4 + l) &&& ((nI 1 <<< (nI t &&& 31)) ^^^ (-1)))))), (aC, .inl (cI, 24, .inl Co))]) (wz := (fun _ => [(aX, .inr (4, [.ref aN, .ref aL, .ref aV, .ref aG])), (aN, .inr (0, [.ref aT, .ref aC, .int (ct - nI 1)])), (aT, .inl (cI, 96, .inl (upd Tg (s * 4 + l) (Tg (s * 4 + l) &&& ((nI 1 <<< (nI t &&& 31)) ^^^ (-1)))))), (aC, .inl (cI, 24, .inl Co)), (aL, .inr (1, [.ref aN, .ref aR, .ref aU, .ref aK, .int (nI lr), .int (nI kc), .int (za_bi false)])), (aV, .inr (2, [.ref aN, .ref aB, .ref aW, .int (za_bi false)]))])) ⟨hx, hb, hml, hown, hts⟩ (zc_X_forgetAnswers ln D cI cZ _ aX aV aG aL aN aR aU aK lr kc sd aB aW sc ) (za_gV 0 hts zw_187 zw_189 zw_0 zw_35 zw_190 (by decide +kernel) ⟨Nat.le_of_ble_eq_true rfl, Nat.le_of_ble_eq_true rfl⟩) hK hN hP hD hS hA [0, 4, 5] [1, 2, 3] [3, 0, 1, 2, 4, 5] rfl rfl (by decide) (by decide) (by decide) (by decide) (fun _ => rfl) (q0 := 0) rfl rfl hl rfl rfl (Nat.le_of_ble_eq_true rfl) zd_X_drop_35 ⟨Nat.le_of_ble_eq_true rfl, Nat.le_of_ble_eq_true rfl⟩ (fun u35 H locs hq35 hP hD hS => ?_)
      have hP : va_P D vwCl [(aX, .inr (4, [.ref aN, .ref aL, .ref aV, .ref aG])), (aN, .inr (0, [.ref aT, .ref aC, .int (ct - nI 1)])), (aT, .inl (cI, 96, .inl (upd Tg (s * 4 + l) (Tg (s * 4 + l) &&& ((nI 1 <<< (nI t &&& 31)) ^^^ (-1)))))), (aC, .inl (cI, 24, .inl Co)), (aL, .inr (1, [.ref aN, .ref aR, .ref aU, .ref aK, .int (nI lr), .int (nI kc), .int (za_bi false)])), (aV, .inr (2, [.ref aN, .ref aB, .ref aW, .int (za_bi false)]))] H := hP
      have hD : va_D A [(aX, .inr (4, [.ref aN, .ref aL, .ref aV, .ref aG])), (aN, .inr (0, [.ref aT, .ref aC, .int (ct - nI 1)])), (aT, .inl (cI, 96, .inl (upd Tg (s * 4 + l) (Tg (s * 4 + l) &&& ((nI 1 <<< (nI t &&& 31)) ^^^ (-1)))))), (aC, .inl (cI, 24, .inl Co)), (aL, .inr (1, [.ref aN, .ref aR, .ref aU, .ref aK, .int (nI lr), .int (nI kc), .int (za_bi false)])), (aV, .inr (2, [.ref aN, .ref aB, .ref aW, .int (za_bi false)]))] := hD
      refine lv_iconst (v := nI 1) hx hb zd_X_drop_38 (by decide) ?_
      have e1 : za_dct Tg ct w x0 v = ct - nI 1 := by first | with_reducible rfl | (first | (simp [za_dvT, za_dct, hm]; done) | (unfold za_dvT; rw [if_pos hm, hw, hx9, hv9, za_clS hs0, za_clL hl0]))
      have e2 : za_dvT Tg w x0 v = upd Tg (s * 4 + l) (Tg (s * 4 + l) &&& ((nI 1 <<< (nI t &&& 31)) ^^^ (-1))) := by first | with_reducible rfl | (first | (simp [za_dvT, za_dct, hm]; done) | (unfold za_dvT; rw [if_pos hm, hw, hx9, hv9, za_clS hs0, za_clL hl0]))
      have e3 : za_bi (sd && !za_dok Tg w x0 v) = za_bi false := by first | with_reducible rfl | (first | (simp [za_dvT, za_dct, hm]; done) | (unfold za_dvT; rw [if_pos hm, hw, hx9, hv9, za_clS hs0, za_clL hl0]))
      have e4 : za_bi (sc && !za_dok Tg w x0 v) = za_bi false := by first | with_reducible rfl | (first | (simp [za_dvT, za_dct, hm]; done) | (unfold za_dvT; rw [if_pos hm, hw, hx9, hv9, za_clS hs0, za_clL hl0]))
      have hP9 : va_P D vwCl [(aX, .inr (4, [.ref aN, .ref aL, .ref aV, .ref aG])), (aN, .inr (0, [.ref aT, .ref aC, .int (za_dct Tg ct w x0 v)])), (aT, .inl (cI, 96, .inl (za_dvT Tg w x0 v))), (aC, .inl (cI, 24, .inl Co)), (aL, .inr (1, [.ref aN, .ref aR, .ref aU, .ref aK, .int (nI lr), .int (nI kc), .int (za_bi (sd && !za_dok Tg w x0 v))])), (aV, .inr (2, [.ref aN, .ref aB, .ref aW, .int (za_bi (sc && !za_dok Tg w x0 v))]))] H := by rw [e1, e2, e3, e4]; exact hP
      have hD9 : va_D A [(aX, .inr (4, [.ref aN, .ref aL, .ref aV, .ref aG])), (aN, .inr (0, [.ref aT, .ref aC, .int (za_dct Tg ct w x0 v)])), (aT, .inl (cI, 96, .inl (za_dvT Tg w x0 v))), (aC, .inl (cI, 24, .inl Co)), (aL, .inr (1, [.ref aN, .ref aR, .ref aU, .ref aK, .int (nI lr), .int (nI kc), .int (za_bi (sd && !za_dok Tg w x0 v))])), (aV, .inr (2, [.ref aN, .ref aB, .ref aW, .int (za_bi (sc && !za_dok Tg w x0 v))]))] := by rw [e1, e2, e3, e4]; exact hD
      exact hret _ () _ _ _ _ (za_b1 (by exact hm)) hP9 hD9 hS zd_X_drop_39
    · have h19 := za_bF h19
      have hm : za_dok Tg w x0 v = false := by first | exact za_dok1 h6 | exact za_dok2 hs0 hl0 ht0 hw hx9 hv9 h19
      refine lv_iconst (v := nI 0) hx hb zd_X_drop_22 (by decide) ?_
      have e1 : za_dct Tg ct w x0 v = ct := by first | with_reducible rfl | (first | (simp [za_dvT, za_dct, hm]; done) | (unfold za_dvT; rw [if_pos hm, hw, hx9, hv9, za_clS hs0, za_clL hl0]))
      have e2 : za_dvT Tg w x0 v = Tg := by first | with_reducible rfl | (first | (simp [za_dvT, za_dct, hm]; done) | (unfold za_dvT; rw [if_pos hm, hw, hx9, hv9, za_clS hs0, za_clL hl0]))
      have e3 : za_bi (sd && !za_dok Tg w x0 v) = za_bi sd := by first | with_reducible rfl | (first | (simp [za_dvT, za_dct, hm]; done) | (unfold za_dvT; rw [if_pos hm, hw, hx9, hv9, za_clS hs0, za_clL hl0]))
      have e4 : za_bi (sc && !za_dok Tg w x0 v) = za_bi sc := by first | with_reducible rfl | (first | (simp [za_dvT, za_dct, hm]; done) | (unfold za_dvT; rw [if_pos hm, hw, hx9, hv9, za_clS hs0, za_clL hl0]))
      have hP9 : va_P D vwCl [(aX, .inr (4, [.ref aN, .ref aL, .ref aV, .ref aG])), (aN, .inr (0, [.ref aT, .ref aC, .int (za_dct Tg ct w x0 v)])), (aT, .inl (cI, 96, .inl (za_dvT Tg w x0 v))), (aC, .inl (cI, 24, .inl Co)), (aL, .inr (1, [.ref aN, .ref aR, .ref aU, .ref aK, .int (nI lr), .int (nI kc), .int (za_bi (sd && !za_dok Tg w x0 v))])), (aV, .inr (2, [.ref aN, .ref aB, .ref aW, .int (za_bi (sc && !za_dok Tg w x0 v))]))] H0 := by rw [e1, e2, e3, e4]; exact hP
      have hD9 : va_D A [(aX, .inr (4, [.ref aN, .ref aL, .ref aV, .ref aG])), (aN, .inr (0, [.ref aT, .ref aC, .int (za_dct Tg ct w x0 v)])), (aT, .inl (cI, 96, .inl (za_dvT Tg w x0 v))), (aC, .inl (cI, 24, .inl Co)), (aL, .inr (1, [.ref aN, .ref aR, .ref aU, .ref aK, .int (nI lr), .int (nI kc), .int (za_bi (sd && !za_dok Tg w x0 v))])), (aV, .inr (2, [.ref aN, .ref aB, .ref aW, .int (za_bi (sc && !za_dok Tg w x0 v))]))] := by rw [e1, e2, e3, e4]; exact hD
      exact hret _ () _ _ _ _ (za_b0 (by exact hm)) hP9 hD9 hS zd_X_drop_23
def zr_X_colour : Room := { frames := 2, cells := 0, slots := 0, locals := 40 }
set_option maxHeartbeats 4000000 in
set_option maxRecDepth 100000 in
theorem zc_X_colour (ln : Launch) (D : va_G) (cI cZ : ClassId) (sz : Nat) (aX : Nat) (aV : Nat) (aG : Nat) (aL : Nat) (aN : Nat) (aR : Nat) (aU : Nat) (aK : Nat) (lr : Nat) (kc : Nat) (sd : Bool) (aB : Nat) (aW : Nat) (sc : Bool) (aT : Nat) (aC : Nat) (ct : Int32) (Tg : Nat → Int32) (Co : Nat → Int32) (w : Int32) (x0 : Int32) : Met ln zm_X_colour (Cond.code zm_X_colour zo_X_colour 3 (some .boolean) :: zb_big) zr_X_colour (za_Pw D vwCl [(cI, .int), (cZ, .boolean)] [.ref aX, .int w, .int x0] [(aX, .inr (4, [.ref aN, .ref aL, .ref aV, .ref aG])), (aN, .inr (0, [.ref aT, .ref aC, .int ct])), (aT, .inl (cI, 96, .inl Tg)), (aC, .inl (cI, 24, .inl Co)), (aL, .inr (1, [.ref aN, .ref aR, .ref aU, .ref aK, .int (nI lr), .int (nI kc), .int (za_bi sd)])), (aV, .inr (2, [.ref aN, .ref aB, .ref aW, .int (za_bi sc)]))] sz) (va_Qi (fun (r : Int32) (_u : Unit) => r = za_bi (za_isS w)) (za_B D vwCl [(aX, .inr (4, [.ref aN, .ref aL, .ref aV, .ref aG])), (aN, .inr (0, [.ref aT, .ref aC, .int ct])), (aT, .inl (cI, 96, .inl Tg)), (aC, .inl (cI, 24, .inl Co)), (aL, .inr (1, [.ref aN, .ref aR, .ref aU, .ref aK, .int (nI lr), .int (nI kc), .int (za_bi sd)])), (aV, .inr (2, [.ref aN, .ref aB, .ref aW, .int (za_bi sc)]))] sz (fun (_u : Unit) => [(aX, .inr (4, [.ref aN, .ref aL, .ref aV, .ref aG])), (aN, .inr (0, [.ref aT, .ref aC, .int ct])), (aT, .inl (cI, 96, .inl Tg)), (aC, .inl (cI, 24, .inl (za_cvC Co w x0))), (aL, .inr (1, [.ref aN, .ref aR, .ref aU, .ref aK, .int (nI lr), .int (nI kc), .int (za_bi (sd && !za_isS w))])), (aV, .inr (2, [.ref aN, .ref aB, .ref aW, .int (za_bi (sc && !za_isS w))]))])) (va_A [(aX, .inr (4, [.ref aN, .ref aL, .ref aV, .ref aG])), (aN, .inr (0, [.ref aT, .ref aC, .int ct])), (aT, .inl (cI, 96, .inl Tg)), (aC, .inl (cI, 24, .inl Co)), (aL, .inr (1, [.ref aN, .ref aR, .ref aU, .ref aK, .int (nI lr), .int (nI kc), .int (za_bi sd)])), (aV, .inr (2, [.ref aN, .ref aB, .ref aW, .int (za_bi sc)]))] sz)) 0 0 (va_A [(aX, .inr (4, [.ref aN, .ref aL, .ref aV, .ref aG])), (aN, .inr (0, [.ref aT, .ref aC, .int ct])), (aT, .inl (cI, 96, .inl Tg)), (aC, .inl (cI, 24, .inl Co)), (aL, .inr (1, [.ref aN, .ref aR, .ref aU, .ref aK, .int (nI lr), .int (nI kc), .int (za_bi sd)])), (aV, .inr (2, [.ref aN, .ref aB, .ref aW, .int (za_bi sc)]))] sz) := by
  refine za_wi (cc := zo_X_colour) (maxL := 3) (ty := .boolean) (by decide) (Nat.le_of_ble_eq_true rfl) (fun _ _ h => by rw [h]; exact za_nar _) ?_
  intro p e sg m args below meth c H0 A Q hx hb hml hts hown hmn hP hK hN hD hA hS hret ls hl
  have hP : va_P D vwCl [(aX, .inr (4, [.ref aN, .ref aL, .ref aV, .ref aG])), (aN, .inr (0, [.ref aT, .ref aC, .int ct])), (aT, .inl (cI, 96, .inl Tg)), (aC, .inl (cI, 24, .inl Co)), (aL, .inr (1, [.ref aN, .ref aR, .ref aU, .ref aK, .int (nI lr), .int (nI kc), .int (za_bi sd)])), (aV, .inr (2, [.ref aN, .ref aB, .ref aW, .int (za_bi sc)]))] H0 := hP
  have hD : va_D A [(aX, .inr (4, [.ref aN, .ref aL, .ref aV, .ref aG])), (aN, .inr (0, [.ref aT, .ref aC, .int ct])), (aT, .inl (cI, 96, .inl Tg)), (aC, .inl (cI, 24, .inl Co)), (aL, .inr (1, [.ref aN, .ref aR, .ref aU, .ref aK, .int (nI lr), .int (nI kc), .int (za_bi sd)])), (aV, .inr (2, [.ref aN, .ref aB, .ref aW, .int (za_bi sc)]))] := hD
  have hl : lv_has ls 3 [(0, .ref aX), (1, .int w), (2, .int x0)] := hl
  have hf10 := hts _ zw_139
  refine lv_iload_n hx hb zd_X_colour_0 rfl (lv_at hl 1 rfl) ?_
  refine za_cS (As := [.int w]) (rest := []) ⟨hx, hb, hml, hown, hts⟩ (zc_X_isState ln D cI cZ w ) (za_gS 1 hts zw_162 zw_163 zw_35 zw_164 (by decide +kernel) ⟨Nat.le_of_ble_eq_true rfl, Nat.le_of_ble_eq_true rfl⟩) hK hN hP [] rfl hl rfl rfl (Nat.le_of_ble_eq_true rfl) zd_X_colour_1 ⟨Nat.le_of_ble_eq_true rfl, Nat.le_of_ble_eq_true rfl⟩ ?_
  refine lv_if_ne hx hb (tgt := 9) zd_X_colour_4 (by decide) (fun h4 => ?_) (fun h4 => ?_)
  · have h4 := za_bT h4
    obtain ⟨s, hs0, hw⟩ := za_isS_of h4
    have hl : lv_has ls 3 [(0, .ref aX), (1, .int (nI s)), (2, .int x0)] := by rw [← hw]; exact hl
    refine lv_aload_n hx hb zd_X_colour_9 rfl (lv_at hl 0 rfl) ?_
    refine va_get (D := D) (ci := 4) (v := .ref aN) (C := zs_X) (T := zt_X) (N := 4) hx hb hts zi_X hown hK hP 0 rfl rfl 0 (by decide) hf10 (fun _ h9 => h9) rfl zd_X_colour_10 ?_
    refine lv_iload_n hx hb zd_X_colour_13 rfl (lv_at hl 1 rfl) ?_
    refine lv_iload_n hx hb zd_X_colour_14 rfl (lv_at hl 2 rfl) ?_
    refine za_wVv (As := [.int (nI s), .int x0]) (rest := []) (wr := [(aX, .inr (4, [.ref aN, .ref aL, .ref aV, .ref aG])), (aT, .inl (cI, 96, .inl Tg)), (aL, .inr (1, [.ref aN, .ref aR, .ref aU, .ref aK, .int (nI lr), .int (nI kc), .int (za_bi sd)])), (aV, .inr (2, [.ref aN, .ref aB, .ref aW, .int (za_bi sc)]))]) (wz := (fun _ => [(aX, .inr (4, [.ref aN, .ref aL, .ref aV, .ref aG])), (aN, .inr (0, [.ref aT, .ref aC, .int ct])), (aT, .inl (cI, 96, .inl Tg)), (aC, .inl (cI, 24, .inl (upd Co s x0))), (aL, .inr (1, [.ref aN, .ref aR, .ref aU, .ref aK, .int (nI lr), .int (nI kc), .int (za_bi sd)])), (aV, .inr (2, [.ref aN, .ref aB, .ref aW, .int (za_bi sc)]))])) ⟨hx, hb, hml, hown, hts⟩ (zc_N_paint ln D cI cZ _ aN aT aC ct Co s x0 (by omega)) (za_gV 2 hts zw_211 zw_212 zw_213 zw_36 zw_214 (by decide +kernel) ⟨Nat.le_of_ble_eq_true rfl, Nat.le_of_ble_eq_true rfl⟩) hK hN hP hD hS hA [1, 3] [0, 2, 4, 5] [0, 4, 1, 5, 2, 3] rfl rfl (by decide) (by decide) (by decide) (by decide) (fun _ => rfl) (q0 := 1) rfl rfl hl rfl rfl (Nat.le_of_ble_eq_true rfl) zd_X_colour_15 ⟨Nat.le_of_ble_eq_true rfl, Nat.le_of_ble_eq_true rfl⟩ (fun u15 H locs hq15 hP hD hS => ?_)
    have hP : va_P D vwCl [(aX, .inr (4, [.ref aN, .ref aL, .ref aV, .ref aG])), (aN, .inr (0, [.ref aT, .ref aC, .int ct])), (aT, .inl (cI, 96, .inl Tg)), (aC, .inl (cI, 24, .inl (upd Co s x0))), (aL, .inr (1, [.ref aN, .ref aR, .ref aU, .ref aK, .int (nI lr), .int (nI kc), .int (za_bi sd)])), (aV, .inr (2, [.ref aN, .ref aB, .ref aW, .int (za_bi sc)]))] H := hP
    have hD : va_D A [(aX, .inr (4, [.ref aN, .ref aL, .ref aV, .ref aG])), (aN, .inr (0, [.ref aT, .ref aC, .int ct])), (aT, .inl (cI, 96, .inl Tg)), (aC, .inl (cI, 24, .inl (upd Co s x0))), (aL, .inr (1, [.ref aN, .ref aR, .ref aU, .ref aK, .int (nI lr), .int (nI kc), .int (za_bi sd)])), (aV, .inr (2, [.ref aN, .ref aB, .ref aW, .int (za_bi sc)]))] := hD
    refine lv_aload_n hx hb zd_X_colour_18 rfl (lv_at hl 0 rfl) ?_
    refine za_wVv (As := []) (rest := []) (wr := [(aN, .inr (0, [.ref aT, .ref aC, .int ct])), (aT, .inl (cI, 96, .inl Tg)), (aC, .inl (cI, 24, .inl (upd Co s x0)))]) (wz := (fun _ => [(aX, .inr (4, [.ref aN, .ref aL, .ref aV, .ref aG])), (aN, .inr (0, [.ref aT, .ref aC, .int ct])), (aT, .inl (cI, 96, .inl Tg)), (aC, .inl (cI, 24, .inl (upd Co s x0))), (aL, .inr (1, [.ref aN, .ref aR, .ref aU, .ref aK, .int (nI lr), .int (nI kc), .int (za_bi false)])), (aV, .inr (2, [.ref aN, .ref aB, .ref aW, .int (za_bi false)]))])) ⟨hx, hb, hml, hown, hts⟩ (zc_X_forgetAnswers ln D cI cZ _ aX aV aG aL aN aR aU aK lr kc sd aB aW sc ) (za_gV 0 hts zw_187 zw_189 zw_0 zw_35 zw_190 (by decide +kernel) ⟨Nat.le_of_ble_eq_true rfl, Nat.le_of_ble_eq_true rfl⟩) hK hN hP hD hS hA [0, 4, 5] [1, 2, 3] [3, 0, 1, 2, 4, 5] rfl rfl (by decide) (by decide) (by decide) (by decide) (fun _ => rfl) (q0 := 0) rfl rfl hl rfl rfl (Nat.le_of_ble_eq_true rfl) zd_X_colour_19 ⟨Nat.le_of_ble_eq_true rfl, Nat.le_of_ble_eq_true rfl⟩ (fun u19 H locs hq19 hP hD hS => ?_)
    have hP : va_P D vwCl [(aX, .inr (4, [.ref aN, .ref aL, .ref aV, .ref aG])), (aN, .inr (0, [.ref aT, .ref aC, .int ct])), (aT, .inl (cI, 96, .inl Tg)), (aC, .inl (cI, 24, .inl (upd Co s x0))), (aL, .inr (1, [.ref aN, .ref aR, .ref aU, .ref aK, .int (nI lr), .int (nI kc), .int (za_bi false)])), (aV, .inr (2, [.ref aN, .ref aB, .ref aW, .int (za_bi false)]))] H := hP
    have hD : va_D A [(aX, .inr (4, [.ref aN, .ref aL, .ref aV, .ref aG])), (aN, .inr (0, [.ref aT, .ref aC, .int ct])), (aT, .inl (cI, 96, .inl Tg)), (aC, .inl (cI, 24, .inl (upd Co s x0))), (aL, .inr (1, [.ref aN, .ref aR, .ref aU, .ref aK, .int (nI lr), .int (nI kc), .int (za_bi false)])), (aV, .inr (2, [.ref aN, .ref aB, .ref aW, .int (za_bi false)]))] := hD
    refine lv_iconst (v := nI 1) hx hb zd_X_colour_22 (by decide) ?_
    have e1 : za_cvC Co w x0 = upd Co s x0 := by first | with_reducible rfl | (first | (simp [za_cvC, h4]; done) | (unfold za_cvC; rw [if_pos h4, hw, za_clS hs0]))
    have e2 : za_bi (sd && !za_isS w) = za_bi false := by first | with_reducible rfl | (first | (simp [za_cvC, h4]; done) | (unfold za_cvC; rw [if_pos h4, hw, za_clS hs0]))
    have e3 : za_bi (sc && !za_isS w) = za_bi false := by first | with_reducible rfl | (first | (simp [za_cvC, h4]; done) | (unfold za_cvC; rw [if_pos h4, hw, za_clS hs0]))
    have hP9 : va_P D vwCl [(aX, .inr (4, [.ref aN, .ref aL, .ref aV, .ref aG])), (aN, .inr (0, [.ref aT, .ref aC, .int ct])), (aT, .inl (cI, 96, .inl Tg)), (aC, .inl (cI, 24, .inl (za_cvC Co w x0))), (aL, .inr (1, [.ref aN, .ref aR, .ref aU, .ref aK, .int (nI lr), .int (nI kc), .int (za_bi (sd && !za_isS w))])), (aV, .inr (2, [.ref aN, .ref aB, .ref aW, .int (za_bi (sc && !za_isS w))]))] H := by rw [e1, e2, e3]; exact hP
    have hD9 : va_D A [(aX, .inr (4, [.ref aN, .ref aL, .ref aV, .ref aG])), (aN, .inr (0, [.ref aT, .ref aC, .int ct])), (aT, .inl (cI, 96, .inl Tg)), (aC, .inl (cI, 24, .inl (za_cvC Co w x0))), (aL, .inr (1, [.ref aN, .ref aR, .ref aU, .ref aK, .int (nI lr), .int (nI kc), .int (za_bi (sd && !za_isS w))])), (aV, .inr (2, [.ref aN, .ref aB, .ref aW, .int (za_bi (sc && !za_isS w))]))] := by rw [e1, e2, e3]; exact hD
    exact hret _ () _ _ _ _ (za_b1 (by exact h4)) hP9 hD9 hS zd_X_colour_23
  · have h4 := za_bF h4
    refine lv_iconst (v := nI 0) hx hb zd_X_colour_7 (by decide) ?_
    have e1 : za_cvC Co w x0 = Co := by first | with_reducible rfl | (first | (simp [za_cvC, h4]; done) | (unfold za_cvC; rw [if_pos h4, hw, za_clS hs0]))
    have e2 : za_bi (sd && !za_isS w) = za_bi sd := by first | with_reducible rfl | (first | (simp [za_cvC, h4]; done) | (unfold za_cvC; rw [if_pos h4, hw, za_clS hs0]))
    have e3 : za_bi (sc && !za_isS w) = za_bi sc := by first | with_reducible rfl | (first | (simp [za_cvC, h4]; done) | (unfold za_cvC; rw [if_pos h4, hw, za_clS hs0]))
    have hP9 : va_P D vwCl [(aX, .inr (4, [.ref aN, .ref aL, .ref aV, .ref aG])), (aN, .inr (0, [.ref aT, .ref aC, .int ct])), (aT, .inl (cI, 96, .inl Tg)), (aC, .inl (cI, 24, .inl (za_cvC Co w x0))), (aL, .inr (1, [.ref aN, .ref aR, .ref aU, .ref aK, .int (nI lr), .int (nI kc), .int (za_bi (sd && !za_isS w))])), (aV, .inr (2, [.ref aN, .ref aB, .ref aW, .int (za_bi (sc && !za_isS w))]))] H0 := by rw [e1, e2, e3]; exact hP
    have hD9 : va_D A [(aX, .inr (4, [.ref aN, .ref aL, .ref aV, .ref aG])), (aN, .inr (0, [.ref aT, .ref aC, .int ct])), (aT, .inl (cI, 96, .inl Tg)), (aC, .inl (cI, 24, .inl (za_cvC Co w x0))), (aL, .inr (1, [.ref aN, .ref aR, .ref aU, .ref aK, .int (nI lr), .int (nI kc), .int (za_bi (sd && !za_isS w))])), (aV, .inr (2, [.ref aN, .ref aB, .ref aW, .int (za_bi (sc && !za_isS w))]))] := by rw [e1, e2, e3]; exact hD
    exact hret _ () _ _ _ _ (za_b0 (by exact h4)) hP9 hD9 hS zd_X_colour_8
def zr_X_clear : Room := { frames := 2, cells := 0, slots := 0, locals := 40 }
set_option maxHeartbeats 4000000 in
set_option maxRecDepth 100000 in
theorem zc_X_clear (ln : Launch) (D : va_G) (cI cZ : ClassId) (sz : Nat) (aX : Nat) (aV : Nat) (aG : Nat) (aL : Nat) (aN : Nat) (aR : Nat) (aU : Nat) (aK : Nat) (lr : Nat) (kc : Nat) (sd : Bool) (aB : Nat) (aW : Nat) (sc : Bool) (aT : Nat) (aC : Nat) (ct : Int32) (Tg : Nat → Int32) (Co : Nat → Int32) : Met ln zm_X_clear (Cond.code zm_X_clear zo_X_clear 2 (some .int) :: zb_big) zr_X_clear (za_Pw D vwCl [(cI, .int), (cZ, .boolean)] [.ref aX] [(aX, .inr (4, [.ref aN, .ref aL, .ref aV, .ref aG])), (aN, .inr (0, [.ref aT, .ref aC, .int ct])), (aT, .inl (cI, 96, .inl Tg)), (aC, .inl (cI, 24, .inl Co)), (aL, .inr (1, [.ref aN, .ref aR, .ref aU, .ref aK, .int (nI lr), .int (nI kc), .int (za_bi sd)])), (aV, .inr (2, [.ref aN, .ref aB, .ref aW, .int (za_bi sc)]))] sz) (va_Qi (fun (r : Int32) (_u : Unit) => r = ct) (za_B D vwCl [(aX, .inr (4, [.ref aN, .ref aL, .ref aV, .ref aG])), (aN, .inr (0, [.ref aT, .ref aC, .int ct])), (aT, .inl (cI, 96, .inl Tg)), (aC, .inl (cI, 24, .inl Co)), (aL, .inr (1, [.ref aN, .ref aR, .ref aU, .ref aK, .int (nI lr), .int (nI kc), .int (za_bi sd)])), (aV, .inr (2, [.ref aN, .ref aB, .ref aW, .int (za_bi sc)]))] sz (fun (_u : Unit) => [(aX, .inr (4, [.ref aN, .ref aL, .ref aV, .ref aG])), (aN, .inr (0, [.ref aT, .ref aC, .int (nI 0)])), (aT, .inl (cI, 96, .inl (za_fl (fun _ => nI 0) Tg 96))), (aC, .inl (cI, 24, .inl (za_fl (fun _ => nI 0) Co 24))), (aL, .inr (1, [.ref aN, .ref aR, .ref aU, .ref aK, .int (nI lr), .int (nI kc), .int (za_bi false)])), (aV, .inr (2, [.ref aN, .ref aB, .ref aW, .int (za_bi false)]))])) (va_A [(aX, .inr (4, [.ref aN, .ref aL, .ref aV, .ref aG])), (aN, .inr (0, [.ref aT, .ref aC, .int ct])), (aT, .inl (cI, 96, .inl Tg)), (aC, .inl (cI, 24, .inl Co)), (aL, .inr (1, [.ref aN, .ref aR, .ref aU, .ref aK, .int (nI lr), .int (nI kc), .int (za_bi sd)])), (aV, .inr (2, [.ref aN, .ref aB, .ref aW, .int (za_bi sc)]))] sz)) 0 0 (va_A [(aX, .inr (4, [.ref aN, .ref aL, .ref aV, .ref aG])), (aN, .inr (0, [.ref aT, .ref aC, .int ct])), (aT, .inl (cI, 96, .inl Tg)), (aC, .inl (cI, 24, .inl Co)), (aL, .inr (1, [.ref aN, .ref aR, .ref aU, .ref aK, .int (nI lr), .int (nI kc), .int (za_bi sd)])), (aV, .inr (2, [.ref aN, .ref aB, .ref aW, .int (za_bi sc)]))] sz) := by
  refine za_wi (cc := zo_X_clear) (maxL := 2) (ty := .int) (by decide) (Nat.le_of_ble_eq_true rfl) (fun _ _ _ => rfl) ?_
  intro p e sg m args below meth c H0 A Q hx hb hml hts hown hmn hP hK hN hD hA hS hret ls hl
  have hP : va_P D vwCl [(aX, .inr (4, [.ref aN, .ref aL, .ref aV, .ref aG])), (aN, .inr (0, [.ref aT, .ref aC, .int ct])), (aT, .inl (cI, 96, .inl Tg)), (aC, .inl (cI, 24, .inl Co)), (aL, .inr (1, [.ref aN, .ref aR, .ref aU, .ref aK, .int (nI lr), .int (nI kc), .int (za_bi sd)])), (aV, .inr (2, [.ref aN, .ref aB, .ref aW, .int (za_bi sc)]))] H0 := hP
  have hD : va_D A [(aX, .inr (4, [.ref aN, .ref aL, .ref aV, .ref aG])), (aN, .inr (0, [.ref aT, .ref aC, .int ct])), (aT, .inl (cI, 96, .inl Tg)), (aC, .inl (cI, 24, .inl Co)), (aL, .inr (1, [.ref aN, .ref aR, .ref aU, .ref aK, .int (nI lr), .int (nI kc), .int (za_bi sd)])), (aV, .inr (2, [.ref aN, .ref aB, .ref aW, .int (za_bi sc)]))] := hD
  have hl : lv_has ls 2 [(0, .ref aX)] := hl
  have hf10 := hts _ zw_139
  refine lv_aload_n hx hb zd_X_clear_0 rfl (lv_at hl 0 rfl) ?_
  refine va_get (D := D) (ci := 4) (v := .ref aN) (C := zs_X) (T := zt_X) (N := 4) hx hb hts zi_X hown hK hP 0 rfl rfl 0 (by decide) hf10 (fun _ h9 => h9) rfl zd_X_clear_1 ?_
  refine za_cV (As := []) (rest := []) ⟨hx, hb, hml, hown, hts⟩ (zc_N_count ln D cI cZ aN aT aC ct ) (za_gV 0 hts zw_179 zw_180 zw_181 zw_36 zw_182 (by decide +kernel) ⟨Nat.le_of_ble_eq_true rfl, Nat.le_of_ble_eq_true rfl⟩) hK hN hP [1] rfl (q0 := 1) rfl rfl hl rfl rfl (Nat.le_of_ble_eq_true rfl) zd_X_clear_4 ⟨Nat.le_of_ble_eq_true rfl, Nat.le_of_ble_eq_true rfl⟩ ?_
  refine lv_istore_n (lv' := [(1, .int ct), (0, .ref aX)]) hx hb zd_X_clear_7 rfl hl (by decide) rfl (fun ls hl => ?_)
  refine lv_aload_n hx hb zd_X_clear_8 rfl (lv_at hl 1 rfl) ?_
  refine va_get (D := D) (ci := 4) (v := .ref aN) (C := zs_X) (T := zt_X) (N := 4) hx hb hts zi_X hown hK hP 0 rfl rfl 0 (by decide) hf10 (fun _ h9 => h9) rfl zd_X_clear_9 ?_
  refine za_wVv (As := []) (rest := []) (wr := [(aX, .inr (4, [.ref aN, .ref aL, .ref aV, .ref aG])), (aL, .inr (1, [.ref aN, .ref aR, .ref aU, .ref aK, .int (nI lr), .int (nI kc), .int (za_bi sd)])), (aV, .inr (2, [.ref aN, .ref aB, .ref aW, .int (za_bi sc)]))]) (wz := (fun _ => [(aX, .inr (4, [.ref aN, .ref aL, .ref aV, .ref aG])), (aN, .inr (0, [.ref aT, .ref aC, .int (nI 0)])), (aT, .inl (cI, 96, .inl (za_fl (fun _ => nI 0) Tg 96))), (aC, .inl (cI, 24, .inl (za_fl (fun _ => nI 0) Co 24))), (aL, .inr (1, [.ref aN, .ref aR, .ref aU, .ref aK, .int (nI lr), .int (nI kc), .int (za_bi sd)])), (aV, .inr (2, [.ref aN, .ref aB, .ref aW, .int (za_bi sc)]))])) ⟨hx, hb, hml, hown, hts⟩ (zc_N_wipe ln D cI cZ _ aN aT aC ct Tg Co ) (za_gV 0 hts zw_223 zw_224 zw_225 zw_36 zw_226 (by decide +kernel) ⟨Nat.le_of_ble_eq_true rfl, Nat.le_of_ble_eq_true rfl⟩) hK hN hP hD hS hA [1, 2, 3] [0, 4, 5] [0, 3, 4, 5, 1, 2] rfl rfl (by decide) (by decide) (by decide) (by decide) (fun _ => rfl) (q0 := 1) rfl rfl hl rfl rfl (Nat.le_of_ble_eq_true rfl) zd_X_clear_12 ⟨Nat.le_of_ble_eq_true rfl, Nat.le_of_ble_eq_true rfl⟩ (fun u12 H locs hq12 hP hD hS => ?_)
  have hP : va_P D vwCl [(aX, .inr (4, [.ref aN, .ref aL, .ref aV, .ref aG])), (aN, .inr (0, [.ref aT, .ref aC, .int (nI 0)])), (aT, .inl (cI, 96, .inl (za_fl (fun _ => nI 0) Tg 96))), (aC, .inl (cI, 24, .inl (za_fl (fun _ => nI 0) Co 24))), (aL, .inr (1, [.ref aN, .ref aR, .ref aU, .ref aK, .int (nI lr), .int (nI kc), .int (za_bi sd)])), (aV, .inr (2, [.ref aN, .ref aB, .ref aW, .int (za_bi sc)]))] H := hP
  have hD : va_D A [(aX, .inr (4, [.ref aN, .ref aL, .ref aV, .ref aG])), (aN, .inr (0, [.ref aT, .ref aC, .int (nI 0)])), (aT, .inl (cI, 96, .inl (za_fl (fun _ => nI 0) Tg 96))), (aC, .inl (cI, 24, .inl (za_fl (fun _ => nI 0) Co 24))), (aL, .inr (1, [.ref aN, .ref aR, .ref aU, .ref aK, .int (nI lr), .int (nI kc), .int (za_bi sd)])), (aV, .inr (2, [.ref aN, .ref aB, .ref aW, .int (za_bi sc)]))] := hD
  refine lv_aload_n hx hb zd_X_clear_15 rfl (lv_at hl 1 rfl) ?_
  refine za_wVv (As := []) (rest := []) (wr := [(aN, .inr (0, [.ref aT, .ref aC, .int (nI 0)])), (aT, .inl (cI, 96, .inl (za_fl (fun _ => nI 0) Tg 96))), (aC, .inl (cI, 24, .inl (za_fl (fun _ => nI 0) Co 24)))]) (wz := (fun _ => [(aX, .inr (4, [.ref aN, .ref aL, .ref aV, .ref aG])), (aN, .inr (0, [.ref aT, .ref aC, .int (nI 0)])), (aT, .inl (cI, 96, .inl (za_fl (fun _ => nI 0) Tg 96))), (aC, .inl (cI, 24, .inl (za_fl (fun _ => nI 0) Co 24))), (aL, .inr (1, [.ref aN, .ref aR, .ref aU, .ref aK, .int (nI lr), .int (nI kc), .int (za_bi false)])), (aV, .inr (2, [.ref aN, .ref aB, .ref aW, .int (za_bi false)]))])) ⟨hx, hb, hml, hown, hts⟩ (zc_X_forgetAnswers ln D cI cZ _ aX aV aG aL aN aR aU aK lr kc sd aB aW sc ) (za_gV 0 hts zw_187 zw_189 zw_0 zw_35 zw_190 (by decide +kernel) ⟨Nat.le_of_ble_eq_true rfl, Nat.le_of_ble_eq_true rfl⟩) hK hN hP hD hS hA [0, 4, 5] [1, 2, 3] [3, 0, 1, 2, 4, 5] rfl rfl (by decide) (by decide) (by decide) (by decide) (fun _ => rfl) (q0 := 0) rfl rfl hl rfl rfl (Nat.le_of_ble_eq_true rfl) zd_X_clear_16 ⟨Nat.le_of_ble_eq_true rfl, Nat.le_of_ble_eq_true rfl⟩ (fun u16 H locs hq16 hP hD hS => ?_)
  have hP : va_P D vwCl [(aX, .inr (4, [.ref aN, .ref aL, .ref aV, .ref aG])), (aN, .inr (0, [.ref aT, .ref aC, .int (nI 0)])), (aT, .inl (cI, 96, .inl (za_fl (fun _ => nI 0) Tg 96))), (aC, .inl (cI, 24, .inl (za_fl (fun _ => nI 0) Co 24))), (aL, .inr (1, [.ref aN, .ref aR, .ref aU, .ref aK, .int (nI lr), .int (nI kc), .int (za_bi false)])), (aV, .inr (2, [.ref aN, .ref aB, .ref aW, .int (za_bi false)]))] H := hP
  have hD : va_D A [(aX, .inr (4, [.ref aN, .ref aL, .ref aV, .ref aG])), (aN, .inr (0, [.ref aT, .ref aC, .int (nI 0)])), (aT, .inl (cI, 96, .inl (za_fl (fun _ => nI 0) Tg 96))), (aC, .inl (cI, 24, .inl (za_fl (fun _ => nI 0) Co 24))), (aL, .inr (1, [.ref aN, .ref aR, .ref aU, .ref aK, .int (nI lr), .int (nI kc), .int (za_bi false)])), (aV, .inr (2, [.ref aN, .ref aB, .ref aW, .int (za_bi false)]))] := hD
  refine lv_iload_n hx hb zd_X_clear_19 rfl (lv_at hl 0 rfl) ?_
  have hP9 : va_P D vwCl [(aX, .inr (4, [.ref aN, .ref aL, .ref aV, .ref aG])), (aN, .inr (0, [.ref aT, .ref aC, .int (nI 0)])), (aT, .inl (cI, 96, .inl (za_fl (fun _ => nI 0) Tg 96))), (aC, .inl (cI, 24, .inl (za_fl (fun _ => nI 0) Co 24))), (aL, .inr (1, [.ref aN, .ref aR, .ref aU, .ref aK, .int (nI lr), .int (nI kc), .int (za_bi false)])), (aV, .inr (2, [.ref aN, .ref aB, .ref aW, .int (za_bi false)]))] H := hP
  have hD9 : va_D A [(aX, .inr (4, [.ref aN, .ref aL, .ref aV, .ref aG])), (aN, .inr (0, [.ref aT, .ref aC, .int (nI 0)])), (aT, .inl (cI, 96, .inl (za_fl (fun _ => nI 0) Tg 96))), (aC, .inl (cI, 24, .inl (za_fl (fun _ => nI 0) Co 24))), (aL, .inr (1, [.ref aN, .ref aR, .ref aU, .ref aK, .int (nI lr), .int (nI kc), .int (za_bi false)])), (aV, .inr (2, [.ref aN, .ref aB, .ref aW, .int (za_bi false)]))] := hD
  exact hret _ () _ _ _ _ (rfl) hP9 hD9 hS zd_X_clear_20
def zr_X_settledLikeness : Room := { frames := 5, cells := 0, slots := 0, locals := 115 }
set_option maxHeartbeats 4000000 in
set_option maxRecDepth 100000 in
theorem zc_X_settledLikeness (ln : Launch) (D : va_G) (cI cZ : ClassId) (sz : Nat) (aX : Nat) (aV : Nat) (aG : Nat) (aL : Nat) (aN : Nat) (aR : Nat) (aU : Nat) (aK : Nat) (lr : Nat) (kc : Nat) (sd : Bool) (aT : Nat) (aC : Nat) (ct : Int32) (Tg : Nat → Int32) (Co : Nat → Int32) (Rw : Nat → Int32) (Un : Nat → Int32) (Kd : Nat → Int32) (hok : sd = true → za_like Tg Co Rw lr Kd kc) : Met ln zm_X_settledLikeness (Cond.code zm_X_settledLikeness zo_X_settledLikeness 1 (some (.object "AlikeStates$Likeness")) :: zb_big) zr_X_settledLikeness (za_Pw D vwCl [(cI, .int), (cZ, .boolean)] [.ref aX] [(aX, .inr (4, [.ref aN, .ref aL, .ref aV, .ref aG])), (aL, .inr (1, [.ref aN, .ref aR, .ref aU, .ref aK, .int (nI lr), .int (nI kc), .int (za_bi sd)])), (aR, .inl (cI, 576, .inl Rw)), (aU, .inl (cI, 96, .inl Un)), (aK, .inl (cI, 24, .inl Kd)), (aN, .inr (0, [.ref aT, .ref aC, .int ct])), (aT, .inl (cI, 96, .inl Tg)), (aC, .inl (cI, 24, .inl Co))] sz) (va_Qr (fun (u : (Nat → Int32) × (Nat → Int32) × (Nat → Int32) × Nat × Nat) => za_like Tg Co u.1 u.2.2.2.1 u.2.2.1 u.2.2.2.2) (za_Br D vwCl [(aX, .inr (4, [.ref aN, .ref aL, .ref aV, .ref aG])), (aL, .inr (1, [.ref aN, .ref aR, .ref aU, .ref aK, .int (nI lr), .int (nI kc), .int (za_bi sd)])), (aR, .inl (cI, 576, .inl Rw)), (aU, .inl (cI, 96, .inl Un)), (aK, .inl (cI, 24, .inl Kd)), (aN, .inr (0, [.ref aT, .ref aC, .int ct])), (aT, .inl (cI, 96, .inl Tg)), (aC, .inl (cI, 24, .inl Co))] sz aL (fun (u : (Nat → Int32) × (Nat → Int32) × (Nat → Int32) × Nat × Nat) => [(aX, .inr (4, [.ref aN, .ref aL, .ref aV, .ref aG])), (aL, .inr (1, [.ref aN, .ref aR, .ref aU, .ref aK, .int (nI u.2.2.2.1), .int (nI u.2.2.2.2), .int (za_bi true)])), (aR, .inl (cI, 576, .inl u.1)), (aU, .inl (cI, 96, .inl u.2.1)), (aK, .inl (cI, 24, .inl u.2.2.1)), (aN, .inr (0, [.ref aT, .ref aC, .int ct])), (aT, .inl (cI, 96, .inl Tg)), (aC, .inl (cI, 24, .inl Co))])) (va_A [(aX, .inr (4, [.ref aN, .ref aL, .ref aV, .ref aG])), (aL, .inr (1, [.ref aN, .ref aR, .ref aU, .ref aK, .int (nI lr), .int (nI kc), .int (za_bi sd)])), (aR, .inl (cI, 576, .inl Rw)), (aU, .inl (cI, 96, .inl Un)), (aK, .inl (cI, 24, .inl Kd)), (aN, .inr (0, [.ref aT, .ref aC, .int ct])), (aT, .inl (cI, 96, .inl Tg)), (aC, .inl (cI, 24, .inl Co))] sz)) 0 0 (va_A [(aX, .inr (4, [.ref aN, .ref aL, .ref aV, .ref aG])), (aL, .inr (1, [.ref aN, .ref aR, .ref aU, .ref aK, .int (nI lr), .int (nI kc), .int (za_bi sd)])), (aR, .inl (cI, 576, .inl Rw)), (aU, .inl (cI, 96, .inl Un)), (aK, .inl (cI, 24, .inl Kd)), (aN, .inr (0, [.ref aT, .ref aC, .int ct])), (aT, .inl (cI, 96, .inl Tg)), (aC, .inl (cI, 24, .inl Co))] sz) := by
  refine za_wr (cc := zo_X_settledLikeness) (maxL := 1) (by decide) (Nat.le_of_ble_eq_true rfl) ?_
  intro p e sg m args below meth c H0 A Q hx hb hml hts hown hmn hP hK hN hD hA hS hret ls hl
  have hP : va_P D vwCl [(aX, .inr (4, [.ref aN, .ref aL, .ref aV, .ref aG])), (aL, .inr (1, [.ref aN, .ref aR, .ref aU, .ref aK, .int (nI lr), .int (nI kc), .int (za_bi sd)])), (aR, .inl (cI, 576, .inl Rw)), (aU, .inl (cI, 96, .inl Un)), (aK, .inl (cI, 24, .inl Kd)), (aN, .inr (0, [.ref aT, .ref aC, .int ct])), (aT, .inl (cI, 96, .inl Tg)), (aC, .inl (cI, 24, .inl Co))] H0 := hP
  have hD : va_D A [(aX, .inr (4, [.ref aN, .ref aL, .ref aV, .ref aG])), (aL, .inr (1, [.ref aN, .ref aR, .ref aU, .ref aK, .int (nI lr), .int (nI kc), .int (za_bi sd)])), (aR, .inl (cI, 576, .inl Rw)), (aU, .inl (cI, 96, .inl Un)), (aK, .inl (cI, 24, .inl Kd)), (aN, .inr (0, [.ref aT, .ref aC, .int ct])), (aT, .inl (cI, 96, .inl Tg)), (aC, .inl (cI, 24, .inl Co))] := hD
  have hl : lv_has ls 1 [(0, .ref aX)] := hl
  have hf21 := hts _ zw_140
  refine lv_aload_n hx hb zd_X_settledLikeness_0 rfl (lv_at hl 0 rfl) ?_
  refine va_get (D := D) (ci := 4) (v := .ref aL) (C := zs_X) (T := zt_X) (N := 4) hx hb hts zi_X hown hK hP 0 rfl rfl 1 (by decide) hf21 (fun _ h9 => h9) rfl zd_X_settledLikeness_1 ?_
  refine za_wVv (As := []) (rest := []) (wr := [(aX, .inr (4, [.ref aN, .ref aL, .ref aV, .ref aG]))]) (wz := (fun u => [(aX, .inr (4, [.ref aN, .ref aL, .ref aV, .ref aG])), (aL, .inr (1, [.ref aN, .ref aR, .ref aU, .ref aK, .int (nI u.2.2.2.1), .int (nI u.2.2.2.2), .int (za_bi true)])), (aR, .inl (cI, 576, .inl u.1)), (aU, .inl (cI, 96, .inl u.2.1)), (aK, .inl (cI, 24, .inl u.2.2.1)), (aN, .inr (0, [.ref aT, .ref aC, .int ct])), (aT, .inl (cI, 96, .inl Tg)), (aC, .inl (cI, 24, .inl Co))])) ⟨hx, hb, hml, hown, hts⟩ (zc_L_settle ln D cI cZ _ aL aN aR aU aK lr kc sd aT aC ct Tg Co Rw Un Kd (by exact hok)) (za_gV 0 hts zw_235 zw_236 zw_237 zw_37 zw_238 (by decide +kernel) ⟨Nat.le_of_ble_eq_true rfl, Nat.le_of_ble_eq_true rfl⟩) hK hN hP hD hS hA [1, 2, 3, 4, 5, 6, 7] [0] [0, 1, 2, 3, 4, 5, 6, 7] rfl rfl (by decide) (by decide) (by decide) (by decide) (fun _ => rfl) (q0 := 1) rfl rfl hl rfl rfl (Nat.le_of_ble_eq_true rfl) zd_X_settledLikeness_4 ⟨Nat.le_of_ble_eq_true rfl, Nat.le_of_ble_eq_true rfl⟩ (fun u4 H locs hq4 hP hD hS => ?_)
  obtain ⟨Rw1_4, Un1_4, Kd1_4, lr1_4, kc1_4⟩ := u4
  have hP : va_P D vwCl [(aX, .inr (4, [.ref aN, .ref aL, .ref aV, .ref aG])), (aL, .inr (1, [.ref aN, .ref aR, .ref aU, .ref aK, .int (nI lr1_4), .int (nI kc1_4), .int (za_bi true)])), (aR, .inl (cI, 576, .inl Rw1_4)), (aU, .inl (cI, 96, .inl Un1_4)), (aK, .inl (cI, 24, .inl Kd1_4)), (aN, .inr (0, [.ref aT, .ref aC, .int ct])), (aT, .inl (cI, 96, .inl Tg)), (aC, .inl (cI, 24, .inl Co))] H := hP
  have hD : va_D A [(aX, .inr (4, [.ref aN, .ref aL, .ref aV, .ref aG])), (aL, .inr (1, [.ref aN, .ref aR, .ref aU, .ref aK, .int (nI lr1_4), .int (nI kc1_4), .int (za_bi true)])), (aR, .inl (cI, 576, .inl Rw1_4)), (aU, .inl (cI, 96, .inl Un1_4)), (aK, .inl (cI, 24, .inl Kd1_4)), (aN, .inr (0, [.ref aT, .ref aC, .int ct])), (aT, .inl (cI, 96, .inl Tg)), (aC, .inl (cI, 24, .inl Co))] := hD
  have hq4 : za_like Tg Co Rw1_4 lr1_4 Kd1_4 kc1_4 := hq4
  refine lv_aload_n hx hb zd_X_settledLikeness_7 rfl (lv_at hl 0 rfl) ?_
  refine va_get (D := D) (ci := 4) (v := .ref aL) (C := zs_X) (T := zt_X) (N := 4) hx hb hts zi_X hown hK hP 0 rfl rfl 1 (by decide) hf21 (fun _ h9 => h9) rfl zd_X_settledLikeness_8 ?_
  have hP9 : va_P D vwCl [(aX, .inr (4, [.ref aN, .ref aL, .ref aV, .ref aG])), (aL, .inr (1, [.ref aN, .ref aR, .ref aU, .ref aK, .int (nI lr1_4), .int (nI kc1_4), .int (za_bi true)])), (aR, .inl (cI, 576, .inl Rw1_4)), (aU, .inl (cI, 96, .inl Un1_4)), (aK, .inl (cI, 24, .inl Kd1_4)), (aN, .inr (0, [.ref aT, .ref aC, .int ct])), (aT, .inl (cI, 96, .inl Tg)), (aC, .inl (cI, 24, .inl Co))] H := hP
  have hD9 : va_D A [(aX, .inr (4, [.ref aN, .ref aL, .ref aV, .ref aG])), (aL, .inr (1, [.ref aN, .ref aR, .ref aU, .ref aK, .int (nI lr1_4), .int (nI kc1_4), .int (za_bi true)])), (aR, .inl (cI, 576, .inl Rw1_4)), (aU, .inl (cI, 96, .inl Un1_4)), (aK, .inl (cI, 24, .inl Kd1_4)), (aN, .inr (0, [.ref aT, .ref aC, .int ct])), (aT, .inl (cI, 96, .inl Tg)), (aC, .inl (cI, 24, .inl Co))] := hD
  have hQ9 : za_like Tg Co Rw1_4 lr1_4 Kd1_4 kc1_4 := by exact hq4
  exact hret ⟨Rw1_4, Un1_4, Kd1_4, lr1_4, kc1_4⟩ _ _ _ _ (hQ9) hP9 hD9 hS zd_X_settledLikeness_11
def zr_X_alike : Room := { frames := 6, cells := 0, slots := 0, locals := 135 }
set_option maxHeartbeats 4000000 in
set_option maxRecDepth 100000 in
theorem zc_X_alike (ln : Launch) (D : va_G) (cI cZ : ClassId) (sz : Nat) (aX : Nat) (aV : Nat) (aG : Nat) (aL : Nat) (aN : Nat) (aR : Nat) (aU : Nat) (aK : Nat) (lr : Nat) (kc : Nat) (sd : Bool) (aT : Nat) (aC : Nat) (ct : Int32) (Tg : Nat → Int32) (Co : Nat → Int32) (Rw : Nat → Int32) (Un : Nat → Int32) (Kd : Nat → Int32) (w : Int32) (v : Int32) (hok : sd = true → za_like Tg Co Rw lr Kd kc) : Met ln zm_X_alike (Cond.code zm_X_alike zo_X_alike 3 (some .boolean) :: zb_big) zr_X_alike (za_Pw D vwCl [(cI, .int), (cZ, .boolean)] [.ref aX, .int w, .int v] [(aX, .inr (4, [.ref aN, .ref aL, .ref aV, .ref aG])), (aL, .inr (1, [.ref aN, .ref aR, .ref aU, .ref aK, .int (nI lr), .int (nI kc), .int (za_bi sd)])), (aR, .inl (cI, 576, .inl Rw)), (aU, .inl (cI, 96, .inl Un)), (aK, .inl (cI, 24, .inl Kd)), (aN, .inr (0, [.ref aT, .ref aC, .int ct])), (aT, .inl (cI, 96, .inl Tg)), (aC, .inl (cI, 24, .inl Co))] sz) (va_Qi (fun (r : Int32) (u : (Nat → Int32) × (Nat → Int32) × (Nat → Int32) × Nat × Nat × Bool) => r = za_bi ((za_isS w && za_isS v) && za_ak Tg Co 23 (za_clp w) (za_clp v)) ∧ (u.2.2.2.2.2 = true → za_like Tg Co u.1 u.2.2.2.1 u.2.2.1 u.2.2.2.2.1)) (za_B D vwCl [(aX, .inr (4, [.ref aN, .ref aL, .ref aV, .ref aG])), (aL, .inr (1, [.ref aN, .ref aR, .ref aU, .ref aK, .int (nI lr), .int (nI kc), .int (za_bi sd)])), (aR, .inl (cI, 576, .inl Rw)), (aU, .inl (cI, 96, .inl Un)), (aK, .inl (cI, 24, .inl Kd)), (aN, .inr (0, [.ref aT, .ref aC, .int ct])), (aT, .inl (cI, 96, .inl Tg)), (aC, .inl (cI, 24, .inl Co))] sz (fun (u : (Nat → Int32) × (Nat → Int32) × (Nat → Int32) × Nat × Nat × Bool) => [(aX, .inr (4, [.ref aN, .ref aL, .ref aV, .ref aG])), (aL, .inr (1, [.ref aN, .ref aR, .ref aU, .ref aK, .int (nI u.2.2.2.1), .int (nI u.2.2.2.2.1), .int (za_bi u.2.2.2.2.2)])), (aR, .inl (cI, 576, .inl u.1)), (aU, .inl (cI, 96, .inl u.2.1)), (aK, .inl (cI, 24, .inl u.2.2.1)), (aN, .inr (0, [.ref aT, .ref aC, .int ct])), (aT, .inl (cI, 96, .inl Tg)), (aC, .inl (cI, 24, .inl Co))])) (va_A [(aX, .inr (4, [.ref aN, .ref aL, .ref aV, .ref aG])), (aL, .inr (1, [.ref aN, .ref aR, .ref aU, .ref aK, .int (nI lr), .int (nI kc), .int (za_bi sd)])), (aR, .inl (cI, 576, .inl Rw)), (aU, .inl (cI, 96, .inl Un)), (aK, .inl (cI, 24, .inl Kd)), (aN, .inr (0, [.ref aT, .ref aC, .int ct])), (aT, .inl (cI, 96, .inl Tg)), (aC, .inl (cI, 24, .inl Co))] sz)) 0 0 (va_A [(aX, .inr (4, [.ref aN, .ref aL, .ref aV, .ref aG])), (aL, .inr (1, [.ref aN, .ref aR, .ref aU, .ref aK, .int (nI lr), .int (nI kc), .int (za_bi sd)])), (aR, .inl (cI, 576, .inl Rw)), (aU, .inl (cI, 96, .inl Un)), (aK, .inl (cI, 24, .inl Kd)), (aN, .inr (0, [.ref aT, .ref aC, .int ct])), (aT, .inl (cI, 96, .inl Tg)), (aC, .inl (cI, 24, .inl Co))] sz) := by
  refine za_wi (cc := zo_X_alike) (maxL := 3) (ty := .boolean) (by decide) (Nat.le_of_ble_eq_true rfl) (fun _ _ h => by rw [h.1]; exact za_nar _) ?_
  intro p e sg m args below meth c H0 A Q hx hb hml hts hown hmn hP hK hN hD hA hS hret ls hl
  have hP : va_P D vwCl [(aX, .inr (4, [.ref aN, .ref aL, .ref aV, .ref aG])), (aL, .inr (1, [.ref aN, .ref aR, .ref aU, .ref aK, .int (nI lr), .int (nI kc), .int (za_bi sd)])), (aR, .inl (cI, 576, .inl Rw)), (aU, .inl (cI, 96, .inl Un)), (aK, .inl (cI, 24, .inl Kd)), (aN, .inr (0, [.ref aT, .ref aC, .int ct])), (aT, .inl (cI, 96, .inl Tg)), (aC, .inl (cI, 24, .inl Co))] H0 := hP
  have hD : va_D A [(aX, .inr (4, [.ref aN, .ref aL, .ref aV, .ref aG])), (aL, .inr (1, [.ref aN, .ref aR, .ref aU, .ref aK, .int (nI lr), .int (nI kc), .int (za_bi sd)])), (aR, .inl (cI, 576, .inl Rw)), (aU, .inl (cI, 96, .inl Un)), (aK, .inl (cI, 24, .inl Kd)), (aN, .inr (0, [.ref aT, .ref aC, .int ct])), (aT, .inl (cI, 96, .inl Tg)), (aC, .inl (cI, 24, .inl Co))] := hD
  have hl : lv_has ls 3 [(0, .ref aX), (1, .int w), (2, .int v)] := hl
  refine lv_iload_n hx hb zd_X_alike_0 rfl (lv_at hl 1 rfl) ?_
  refine lv_iload_n hx hb zd_X_alike_1 rfl (lv_at hl 2 rfl) ?_
  refine za_cS (As := [.int w, .int v]) (rest := []) ⟨hx, hb, hml, hown, hts⟩ (zc_X_areStates ln D cI cZ w v ) (za_gS 2 hts zw_159 zw_160 zw_35 zw_161 (by decide +kernel) ⟨Nat.le_of_ble_eq_true rfl, Nat.le_of_ble_eq_true rfl⟩) hK hN hP [] rfl hl rfl rfl (Nat.le_of_ble_eq_true rfl) zd_X_alike_2 ⟨Nat.le_of_ble_eq_true rfl, Nat.le_of_ble_eq_true rfl⟩ ?_
  refine lv_if_eq hx hb (tgt := 25) zd_X_alike_5 (by decide) (fun h5 => ?_) (fun h5 => ?_)
  · have h5 := za_bF h5
    refine lv_iconst (v := nI 0) hx hb zd_X_alike_25 (by decide) ?_
    have hP9 : va_P D vwCl [(aX, .inr (4, [.ref aN, .ref aL, .ref aV, .ref aG])), (aL, .inr (1, [.ref aN, .ref aR, .ref aU, .ref aK, .int (nI lr), .int (nI kc), .int (za_bi sd)])), (aR, .inl (cI, 576, .inl Rw)), (aU, .inl (cI, 96, .inl Un)), (aK, .inl (cI, 24, .inl Kd)), (aN, .inr (0, [.ref aT, .ref aC, .int ct])), (aT, .inl (cI, 96, .inl Tg)), (aC, .inl (cI, 24, .inl Co))] H0 := hP
    have hD9 : va_D A [(aX, .inr (4, [.ref aN, .ref aL, .ref aV, .ref aG])), (aL, .inr (1, [.ref aN, .ref aR, .ref aU, .ref aK, .int (nI lr), .int (nI kc), .int (za_bi sd)])), (aR, .inl (cI, 576, .inl Rw)), (aU, .inl (cI, 96, .inl Un)), (aK, .inl (cI, 24, .inl Kd)), (aN, .inr (0, [.ref aT, .ref aC, .int ct])), (aT, .inl (cI, 96, .inl Tg)), (aC, .inl (cI, 24, .inl Co))] := hD
    have hQ9 : (nI 0) = za_bi ((za_isS w && za_isS v) && za_ak Tg Co 23 (za_clp w) (za_clp v)) ∧ (sd = true → za_like Tg Co Rw lr Kd kc) := by first | exact ⟨za_b0 (by rw [h5, Bool.false_and]), hok⟩ | exact ⟨za_b1 (by rw [h5, hw, hv9, za_clS hs0, za_clS ht0, za_bv_al.mp h18]; rfl), fun _ => hq9⟩ | exact ⟨za_b0 (by rw [hw, hv9, za_clS hs0, za_clS ht0, Bool.eq_false_iff.mpr (fun q => h18 (za_bv_al.mpr q)), Bool.and_false]), fun _ => hq9⟩
    exact hret _ ⟨Rw, Un, Kd, lr, kc, sd⟩ _ _ _ _ (hQ9) hP9 hD9 hS zd_X_alike_26
  · have h5 := za_bT h5
    obtain ⟨⟨s, hs0, hw⟩, t, ht0, hv9⟩ := za_isSS_of h5
    have hl : lv_has ls 3 [(0, .ref aX), (1, .int (nI s)), (2, .int v)] := by rw [← hw]; exact hl
    have hl : lv_has ls 3 [(0, .ref aX), (1, .int (nI s)), (2, .int (nI t))] := by rw [← hv9]; exact hl
    refine lv_aload_n hx hb zd_X_alike_8 rfl (lv_at hl 0 rfl) ?_
    refine za_wVr (As := []) (rest := []) (wr := []) (wz := (fun u => [(aX, .inr (4, [.ref aN, .ref aL, .ref aV, .ref aG])), (aL, .inr (1, [.ref aN, .ref aR, .ref aU, .ref aK, .int (nI u.2.2.2.1), .int (nI u.2.2.2.2), .int (za_bi true)])), (aR, .inl (cI, 576, .inl u.1)), (aU, .inl (cI, 96, .inl u.2.1)), (aK, .inl (cI, 24, .inl u.2.2.1)), (aN, .inr (0, [.ref aT, .ref aC, .int ct])), (aT, .inl (cI, 96, .inl Tg)), (aC, .inl (cI, 24, .inl Co))])) ⟨hx, hb, hml, hown, hts⟩ (zc_X_settledLikeness ln D cI cZ _ aX aV aG aL aN aR aU aK lr kc sd aT aC ct Tg Co Rw Un Kd (by exact hok)) (za_gV 0 hts zw_231 zw_233 zw_1 zw_35 zw_234 (by decide +kernel) ⟨Nat.le_of_ble_eq_true rfl, Nat.le_of_ble_eq_true rfl⟩) hK hN hP hD hS hA [0, 1, 2, 3, 4, 5, 6, 7] [] [0, 1, 2, 3, 4, 5, 6, 7] rfl rfl (by decide) (by decide) (by decide) (by decide) (fun _ => rfl) (q0 := 0) rfl rfl hl rfl rfl (Nat.le_of_ble_eq_true rfl) zd_X_alike_9 ⟨Nat.le_of_ble_eq_true rfl, Nat.le_of_ble_eq_true rfl⟩ (fun u9 H locs hq9 hP hD hS => ?_)
    obtain ⟨Rw1_9, Un1_9, Kd1_9, lr1_9, kc1_9⟩ := u9
    have hP : va_P D vwCl [(aX, .inr (4, [.ref aN, .ref aL, .ref aV, .ref aG])), (aL, .inr (1, [.ref aN, .ref aR, .ref aU, .ref aK, .int (nI lr1_9), .int (nI kc1_9), .int (za_bi true)])), (aR, .inl (cI, 576, .inl Rw1_9)), (aU, .inl (cI, 96, .inl Un1_9)), (aK, .inl (cI, 24, .inl Kd1_9)), (aN, .inr (0, [.ref aT, .ref aC, .int ct])), (aT, .inl (cI, 96, .inl Tg)), (aC, .inl (cI, 24, .inl Co))] H := hP
    have hD : va_D A [(aX, .inr (4, [.ref aN, .ref aL, .ref aV, .ref aG])), (aL, .inr (1, [.ref aN, .ref aR, .ref aU, .ref aK, .int (nI lr1_9), .int (nI kc1_9), .int (za_bi true)])), (aR, .inl (cI, 576, .inl Rw1_9)), (aU, .inl (cI, 96, .inl Un1_9)), (aK, .inl (cI, 24, .inl Kd1_9)), (aN, .inr (0, [.ref aT, .ref aC, .int ct])), (aT, .inl (cI, 96, .inl Tg)), (aC, .inl (cI, 24, .inl Co))] := hD
    have hq9 : za_like Tg Co Rw1_9 lr1_9 Kd1_9 kc1_9 := hq9
    refine lv_iload_n hx hb zd_X_alike_12 rfl (lv_at hl 1 rfl) ?_
    refine lv_iload_n hx hb zd_X_alike_13 rfl (lv_at hl 2 rfl) ?_
    refine za_cV (As := [.int (nI s), .int (nI t)]) (rest := []) ⟨hx, hb, hml, hown, hts⟩ (zc_L_breachOf ln D cI cZ aL aN aR aU aK lr1_9 kc1_9 true Rw1_9 s t (by omega) (by omega) (by exact hq9.1)) (za_gV 2 hts zw_279 zw_280 zw_281 zw_37 zw_282 (by decide +kernel) ⟨Nat.le_of_ble_eq_true rfl, Nat.le_of_ble_eq_true rfl⟩) hK hN hP [1, 2] rfl (q0 := 1) rfl rfl hl rfl rfl (Nat.le_of_ble_eq_true rfl) zd_X_alike_14 ⟨Nat.le_of_ble_eq_true rfl, Nat.le_of_ble_eq_true rfl⟩ ?_
    refine za_eqi (y := za_bv Tg Co s t) (za_bv_of hq9 hs0 ht0) ?_
    refine lv_iconst (v := (-1)) hx hb zd_X_alike_17 (by decide) ?_
    refine lv_icmp_ne hx hb (tgt := 25) zd_X_alike_18 (by decide) (fun h18 => ?_) (fun h18 => ?_)
    · skip
      refine lv_iconst (v := nI 0) hx hb zd_X_alike_25 (by decide) ?_
      have hP9 : va_P D vwCl [(aX, .inr (4, [.ref aN, .ref aL, .ref aV, .ref aG])), (aL, .inr (1, [.ref aN, .ref aR, .ref aU, .ref aK, .int (nI lr1_9), .int (nI kc1_9), .int (za_bi true)])), (aR, .inl (cI, 576, .inl Rw1_9)), (aU, .inl (cI, 96, .inl Un1_9)), (aK, .inl (cI, 24, .inl Kd1_9)), (aN, .inr (0, [.ref aT, .ref aC, .int ct])), (aT, .inl (cI, 96, .inl Tg)), (aC, .inl (cI, 24, .inl Co))] H := hP
      have hD9 : va_D A [(aX, .inr (4, [.ref aN, .ref aL, .ref aV, .ref aG])), (aL, .inr (1, [.ref aN, .ref aR, .ref aU, .ref aK, .int (nI lr1_9), .int (nI kc1_9), .int (za_bi true)])), (aR, .inl (cI, 576, .inl Rw1_9)), (aU, .inl (cI, 96, .inl Un1_9)), (aK, .inl (cI, 24, .inl Kd1_9)), (aN, .inr (0, [.ref aT, .ref aC, .int ct])), (aT, .inl (cI, 96, .inl Tg)), (aC, .inl (cI, 24, .inl Co))] := hD
      have hQ9 : (nI 0) = za_bi ((za_isS w && za_isS v) && za_ak Tg Co 23 (za_clp w) (za_clp v)) ∧ (true = true → za_like Tg Co Rw1_9 lr1_9 Kd1_9 kc1_9) := by first | exact ⟨za_b0 (by rw [h5, Bool.false_and]), hok⟩ | exact ⟨za_b1 (by rw [h5, hw, hv9, za_clS hs0, za_clS ht0, za_bv_al.mp h18]; rfl), fun _ => hq9⟩ | exact ⟨za_b0 (by rw [hw, hv9, za_clS hs0, za_clS ht0, Bool.eq_false_iff.mpr (fun q => h18 (za_bv_al.mpr q)), Bool.and_false]), fun _ => hq9⟩
      exact hret _ ⟨Rw1_9, Un1_9, Kd1_9, lr1_9, kc1_9, true⟩ _ _ _ _ (hQ9) hP9 hD9 hS zd_X_alike_26
    · skip
      refine lv_iconst (v := nI 1) hx hb zd_X_alike_21 (by decide) ?_
      refine lv_goto hx hb (tgt := 26) zd_X_alike_22 (by decide) ?_
      have hP9 : va_P D vwCl [(aX, .inr (4, [.ref aN, .ref aL, .ref aV, .ref aG])), (aL, .inr (1, [.ref aN, .ref aR, .ref aU, .ref aK, .int (nI lr1_9), .int (nI kc1_9), .int (za_bi true)])), (aR, .inl (cI, 576, .inl Rw1_9)), (aU, .inl (cI, 96, .inl Un1_9)), (aK, .inl (cI, 24, .inl Kd1_9)), (aN, .inr (0, [.ref aT, .ref aC, .int ct])), (aT, .inl (cI, 96, .inl Tg)), (aC, .inl (cI, 24, .inl Co))] H := hP
      have hD9 : va_D A [(aX, .inr (4, [.ref aN, .ref aL, .ref aV, .ref aG])), (aL, .inr (1, [.ref aN, .ref aR, .ref aU, .ref aK, .int (nI lr1_9), .int (nI kc1_9), .int (za_bi true)])), (aR, .inl (cI, 576, .inl Rw1_9)), (aU, .inl (cI, 96, .inl Un1_9)), (aK, .inl (cI, 24, .inl Kd1_9)), (aN, .inr (0, [.ref aT, .ref aC, .int ct])), (aT, .inl (cI, 96, .inl Tg)), (aC, .inl (cI, 24, .inl Co))] := hD
      have hQ9 : (nI 1) = za_bi ((za_isS w && za_isS v) && za_ak Tg Co 23 (za_clp w) (za_clp v)) ∧ (true = true → za_like Tg Co Rw1_9 lr1_9 Kd1_9 kc1_9) := by first | exact ⟨za_b0 (by rw [h5, Bool.false_and]), hok⟩ | exact ⟨za_b1 (by rw [h5, hw, hv9, za_clS hs0, za_clS ht0, za_bv_al.mp h18]; rfl), fun _ => hq9⟩ | exact ⟨za_b0 (by rw [hw, hv9, za_clS hs0, za_clS ht0, Bool.eq_false_iff.mpr (fun q => h18 (za_bv_al.mpr q)), Bool.and_false]), fun _ => hq9⟩
      exact hret _ ⟨Rw1_9, Un1_9, Kd1_9, lr1_9, kc1_9, true⟩ _ _ _ _ (hQ9) hP9 hD9 hS zd_X_alike_26
def zr_X_breach : Room := { frames := 6, cells := 0, slots := 0, locals := 135 }
set_option maxHeartbeats 4000000 in
set_option maxRecDepth 100000 in
theorem zc_X_breach (ln : Launch) (D : va_G) (cI cZ : ClassId) (sz : Nat) (aX : Nat) (aV : Nat) (aG : Nat) (aL : Nat) (aN : Nat) (aR : Nat) (aU : Nat) (aK : Nat) (lr : Nat) (kc : Nat) (sd : Bool) (aT : Nat) (aC : Nat) (ct : Int32) (Tg : Nat → Int32) (Co : Nat → Int32) (Rw : Nat → Int32) (Un : Nat → Int32) (Kd : Nat → Int32) (w : Int32) (v : Int32) (hok : sd = true → za_like Tg Co Rw lr Kd kc) : Met ln zm_X_breach (Cond.code zm_X_breach zo_X_breach 3 (some .int) :: zb_big) zr_X_breach (za_Pw D vwCl [(cI, .int), (cZ, .boolean)] [.ref aX, .int w, .int v] [(aX, .inr (4, [.ref aN, .ref aL, .ref aV, .ref aG])), (aL, .inr (1, [.ref aN, .ref aR, .ref aU, .ref aK, .int (nI lr), .int (nI kc), .int (za_bi sd)])), (aR, .inl (cI, 576, .inl Rw)), (aU, .inl (cI, 96, .inl Un)), (aK, .inl (cI, 24, .inl Kd)), (aN, .inr (0, [.ref aT, .ref aC, .int ct])), (aT, .inl (cI, 96, .inl Tg)), (aC, .inl (cI, 24, .inl Co))] sz) (va_Qi (fun (r : Int32) (u : (Nat → Int32) × (Nat → Int32) × (Nat → Int32) × Nat × Nat × Bool) => r = (if (za_isS w && za_isS v) = true then za_bv Tg Co (za_clp w) (za_clp v) else (-1)) ∧ (u.2.2.2.2.2 = true → za_like Tg Co u.1 u.2.2.2.1 u.2.2.1 u.2.2.2.2.1)) (za_B D vwCl [(aX, .inr (4, [.ref aN, .ref aL, .ref aV, .ref aG])), (aL, .inr (1, [.ref aN, .ref aR, .ref aU, .ref aK, .int (nI lr), .int (nI kc), .int (za_bi sd)])), (aR, .inl (cI, 576, .inl Rw)), (aU, .inl (cI, 96, .inl Un)), (aK, .inl (cI, 24, .inl Kd)), (aN, .inr (0, [.ref aT, .ref aC, .int ct])), (aT, .inl (cI, 96, .inl Tg)), (aC, .inl (cI, 24, .inl Co))] sz (fun (u : (Nat → Int32) × (Nat → Int32) × (Nat → Int32) × Nat × Nat × Bool) => [(aX, .inr (4, [.ref aN, .ref aL, .ref aV, .ref aG])), (aL, .inr (1, [.ref aN, .ref aR, .ref aU, .ref aK, .int (nI u.2.2.2.1), .int (nI u.2.2.2.2.1), .int (za_bi u.2.2.2.2.2)])), (aR, .inl (cI, 576, .inl u.1)), (aU, .inl (cI, 96, .inl u.2.1)), (aK, .inl (cI, 24, .inl u.2.2.1)), (aN, .inr (0, [.ref aT, .ref aC, .int ct])), (aT, .inl (cI, 96, .inl Tg)), (aC, .inl (cI, 24, .inl Co))])) (va_A [(aX, .inr (4, [.ref aN, .ref aL, .ref aV, .ref aG])), (aL, .inr (1, [.ref aN, .ref aR, .ref aU, .ref aK, .int (nI lr), .int (nI kc), .int (za_bi sd)])), (aR, .inl (cI, 576, .inl Rw)), (aU, .inl (cI, 96, .inl Un)), (aK, .inl (cI, 24, .inl Kd)), (aN, .inr (0, [.ref aT, .ref aC, .int ct])), (aT, .inl (cI, 96, .inl Tg)), (aC, .inl (cI, 24, .inl Co))] sz)) 0 0 (va_A [(aX, .inr (4, [.ref aN, .ref aL, .ref aV, .ref aG])), (aL, .inr (1, [.ref aN, .ref aR, .ref aU, .ref aK, .int (nI lr), .int (nI kc), .int (za_bi sd)])), (aR, .inl (cI, 576, .inl Rw)), (aU, .inl (cI, 96, .inl Un)), (aK, .inl (cI, 24, .inl Kd)), (aN, .inr (0, [.ref aT, .ref aC, .int ct])), (aT, .inl (cI, 96, .inl Tg)), (aC, .inl (cI, 24, .inl Co))] sz) := by
  refine za_wi (cc := zo_X_breach) (maxL := 3) (ty := .int) (by decide) (Nat.le_of_ble_eq_true rfl) (fun _ _ _ => rfl) ?_
  intro p e sg m args below meth c H0 A Q hx hb hml hts hown hmn hP hK hN hD hA hS hret ls hl
  have hP : va_P D vwCl [(aX, .inr (4, [.ref aN, .ref aL, .ref aV, .ref aG])), (aL, .inr (1, [.ref aN, .ref aR, .ref aU, .ref aK, .int (nI lr), .int (nI kc), .int (za_bi sd)])), (aR, .inl (cI, 576, .inl Rw)), (aU, .inl (cI, 96, .inl Un)), (aK, .inl (cI, 24, .inl Kd)), (aN, .inr (0, [.ref aT, .ref aC, .int ct])), (aT, .inl (cI, 96, .inl Tg)), (aC, .inl (cI, 24, .inl Co))] H0 := hP
  have hD : va_D A [(aX, .inr (4, [.ref aN, .ref aL, .ref aV, .ref aG])), (aL, .inr (1, [.ref aN, .ref aR, .ref aU, .ref aK, .int (nI lr), .int (nI kc), .int (za_bi sd)])), (aR, .inl (cI, 576, .inl Rw)), (aU, .inl (cI, 96, .inl Un)), (aK, .inl (cI, 24, .inl Kd)), (aN, .inr (0, [.ref aT, .ref aC, .int ct])), (aT, .inl (cI, 96, .inl Tg)), (aC, .inl (cI, 24, .inl Co))] := hD
  have hl : lv_has ls 3 [(0, .ref aX), (1, .int w), (2, .int v)] := hl
  refine lv_iload_n hx hb zd_X_breach_0 rfl (lv_at hl 1 rfl) ?_
  refine lv_iload_n hx hb zd_X_breach_1 rfl (lv_at hl 2 rfl) ?_
  refine za_cS (As := [.int w, .int v]) (rest := []) ⟨hx, hb, hml, hown, hts⟩ (zc_X_areStates ln D cI cZ w v ) (za_gS 2 hts zw_159 zw_160 zw_35 zw_161 (by decide +kernel) ⟨Nat.le_of_ble_eq_true rfl, Nat.le_of_ble_eq_true rfl⟩) hK hN hP [] rfl hl rfl rfl (Nat.le_of_ble_eq_true rfl) zd_X_breach_2 ⟨Nat.le_of_ble_eq_true rfl, Nat.le_of_ble_eq_true rfl⟩ ?_
  refine lv_if_eq hx hb (tgt := 20) zd_X_breach_5 (by decide) (fun h5 => ?_) (fun h5 => ?_)
  · have h5 := za_bF h5
    refine lv_iconst (v := (-1)) hx hb zd_X_breach_20 (by decide) ?_
    have hP9 : va_P D vwCl [(aX, .inr (4, [.ref aN, .ref aL, .ref aV, .ref aG])), (aL, .inr (1, [.ref aN, .ref aR, .ref aU, .ref aK, .int (nI lr), .int (nI kc), .int (za_bi sd)])), (aR, .inl (cI, 576, .inl Rw)), (aU, .inl (cI, 96, .inl Un)), (aK, .inl (cI, 24, .inl Kd)), (aN, .inr (0, [.ref aT, .ref aC, .int ct])), (aT, .inl (cI, 96, .inl Tg)), (aC, .inl (cI, 24, .inl Co))] H0 := hP
    have hD9 : va_D A [(aX, .inr (4, [.ref aN, .ref aL, .ref aV, .ref aG])), (aL, .inr (1, [.ref aN, .ref aR, .ref aU, .ref aK, .int (nI lr), .int (nI kc), .int (za_bi sd)])), (aR, .inl (cI, 576, .inl Rw)), (aU, .inl (cI, 96, .inl Un)), (aK, .inl (cI, 24, .inl Kd)), (aN, .inr (0, [.ref aT, .ref aC, .int ct])), (aT, .inl (cI, 96, .inl Tg)), (aC, .inl (cI, 24, .inl Co))] := hD
    have hQ9 : (-1) = (if (za_isS w && za_isS v) = true then za_bv Tg Co (za_clp w) (za_clp v) else (-1)) ∧ (sd = true → za_like Tg Co Rw lr Kd kc) := by first | exact ⟨by rw [h5]; rfl, hok⟩ | exact ⟨by rw [if_pos h5, hw, hv9, za_clS hs0, za_clS ht0], fun _ => hq9⟩
    exact hret _ ⟨Rw, Un, Kd, lr, kc, sd⟩ _ _ _ _ (hQ9) hP9 hD9 hS zd_X_breach_21
  · have h5 := za_bT h5
    obtain ⟨⟨s, hs0, hw⟩, t, ht0, hv9⟩ := za_isSS_of h5
    have hl : lv_has ls 3 [(0, .ref aX), (1, .int (nI s)), (2, .int v)] := by rw [← hw]; exact hl
    have hl : lv_has ls 3 [(0, .ref aX), (1, .int (nI s)), (2, .int (nI t))] := by rw [← hv9]; exact hl
    refine lv_aload_n hx hb zd_X_breach_8 rfl (lv_at hl 0 rfl) ?_
    refine za_wVr (As := []) (rest := []) (wr := []) (wz := (fun u => [(aX, .inr (4, [.ref aN, .ref aL, .ref aV, .ref aG])), (aL, .inr (1, [.ref aN, .ref aR, .ref aU, .ref aK, .int (nI u.2.2.2.1), .int (nI u.2.2.2.2), .int (za_bi true)])), (aR, .inl (cI, 576, .inl u.1)), (aU, .inl (cI, 96, .inl u.2.1)), (aK, .inl (cI, 24, .inl u.2.2.1)), (aN, .inr (0, [.ref aT, .ref aC, .int ct])), (aT, .inl (cI, 96, .inl Tg)), (aC, .inl (cI, 24, .inl Co))])) ⟨hx, hb, hml, hown, hts⟩ (zc_X_settledLikeness ln D cI cZ _ aX aV aG aL aN aR aU aK lr kc sd aT aC ct Tg Co Rw Un Kd (by exact hok)) (za_gV 0 hts zw_231 zw_233 zw_1 zw_35 zw_234 (by decide +kernel) ⟨Nat.le_of_ble_eq_true rfl, Nat.le_of_ble_eq_true rfl⟩) hK hN hP hD hS hA [0, 1, 2, 3, 4, 5, 6, 7] [] [0, 1, 2, 3, 4, 5, 6, 7] rfl rfl (by decide) (by decide) (by decide) (by decide) (fun _ => rfl) (q0 := 0) rfl rfl hl rfl rfl (Nat.le_of_ble_eq_true rfl) zd_X_breach_9 ⟨Nat.le_of_ble_eq_true rfl, Nat.le_of_ble_eq_true rfl⟩ (fun u9 H locs hq9 hP hD hS => ?_)
    obtain ⟨Rw1_9, Un1_9, Kd1_9, lr1_9, kc1_9⟩ := u9
    have hP : va_P D vwCl [(aX, .inr (4, [.ref aN, .ref aL, .ref aV, .ref aG])), (aL, .inr (1, [.ref aN, .ref aR, .ref aU, .ref aK, .int (nI lr1_9), .int (nI kc1_9), .int (za_bi true)])), (aR, .inl (cI, 576, .inl Rw1_9)), (aU, .inl (cI, 96, .inl Un1_9)), (aK, .inl (cI, 24, .inl Kd1_9)), (aN, .inr (0, [.ref aT, .ref aC, .int ct])), (aT, .inl (cI, 96, .inl Tg)), (aC, .inl (cI, 24, .inl Co))] H := hP
    have hD : va_D A [(aX, .inr (4, [.ref aN, .ref aL, .ref aV, .ref aG])), (aL, .inr (1, [.ref aN, .ref aR, .ref aU, .ref aK, .int (nI lr1_9), .int (nI kc1_9), .int (za_bi true)])), (aR, .inl (cI, 576, .inl Rw1_9)), (aU, .inl (cI, 96, .inl Un1_9)), (aK, .inl (cI, 24, .inl Kd1_9)), (aN, .inr (0, [.ref aT, .ref aC, .int ct])), (aT, .inl (cI, 96, .inl Tg)), (aC, .inl (cI, 24, .inl Co))] := hD
    have hq9 : za_like Tg Co Rw1_9 lr1_9 Kd1_9 kc1_9 := hq9
    refine lv_iload_n hx hb zd_X_breach_12 rfl (lv_at hl 1 rfl) ?_
    refine lv_iload_n hx hb zd_X_breach_13 rfl (lv_at hl 2 rfl) ?_
    refine za_cV (As := [.int (nI s), .int (nI t)]) (rest := []) ⟨hx, hb, hml, hown, hts⟩ (zc_L_breachOf ln D cI cZ aL aN aR aU aK lr1_9 kc1_9 true Rw1_9 s t (by omega) (by omega) (by exact hq9.1)) (za_gV 2 hts zw_279 zw_280 zw_281 zw_37 zw_282 (by decide +kernel) ⟨Nat.le_of_ble_eq_true rfl, Nat.le_of_ble_eq_true rfl⟩) hK hN hP [1, 2] rfl (q0 := 1) rfl rfl hl rfl rfl (Nat.le_of_ble_eq_true rfl) zd_X_breach_14 ⟨Nat.le_of_ble_eq_true rfl, Nat.le_of_ble_eq_true rfl⟩ ?_
    refine za_eqi (y := za_bv Tg Co s t) (za_bv_of hq9 hs0 ht0) ?_
    refine lv_goto hx hb (tgt := 21) zd_X_breach_17 (by decide) ?_
    have hP9 : va_P D vwCl [(aX, .inr (4, [.ref aN, .ref aL, .ref aV, .ref aG])), (aL, .inr (1, [.ref aN, .ref aR, .ref aU, .ref aK, .int (nI lr1_9), .int (nI kc1_9), .int (za_bi true)])), (aR, .inl (cI, 576, .inl Rw1_9)), (aU, .inl (cI, 96, .inl Un1_9)), (aK, .inl (cI, 24, .inl Kd1_9)), (aN, .inr (0, [.ref aT, .ref aC, .int ct])), (aT, .inl (cI, 96, .inl Tg)), (aC, .inl (cI, 24, .inl Co))] H := hP
    have hD9 : va_D A [(aX, .inr (4, [.ref aN, .ref aL, .ref aV, .ref aG])), (aL, .inr (1, [.ref aN, .ref aR, .ref aU, .ref aK, .int (nI lr1_9), .int (nI kc1_9), .int (za_bi true)])), (aR, .inl (cI, 576, .inl Rw1_9)), (aU, .inl (cI, 96, .inl Un1_9)), (aK, .inl (cI, 24, .inl Kd1_9)), (aN, .inr (0, [.ref aT, .ref aC, .int ct])), (aT, .inl (cI, 96, .inl Tg)), (aC, .inl (cI, 24, .inl Co))] := hD
    have hQ9 : (za_bv Tg Co s t) = (if (za_isS w && za_isS v) = true then za_bv Tg Co (za_clp w) (za_clp v) else (-1)) ∧ (true = true → za_like Tg Co Rw1_9 lr1_9 Kd1_9 kc1_9) := by first | exact ⟨by rw [h5]; rfl, hok⟩ | exact ⟨by rw [if_pos h5, hw, hv9, za_clS hs0, za_clS ht0], fun _ => hq9⟩
    exact hret _ ⟨Rw1_9, Un1_9, Kd1_9, lr1_9, kc1_9, true⟩ _ _ _ _ (hQ9) hP9 hD9 hS zd_X_breach_21
def zr_X_kinds : Room := { frames := 6, cells := 0, slots := 0, locals := 135 }
set_option maxHeartbeats 4000000 in
set_option maxRecDepth 100000 in
theorem zc_X_kinds (ln : Launch) (D : va_G) (cI cZ : ClassId) (sz : Nat) (aX : Nat) (aV : Nat) (aG : Nat) (aL : Nat) (aN : Nat) (aR : Nat) (aU : Nat) (aK : Nat) (lr : Nat) (kc : Nat) (sd : Bool) (aT : Nat) (aC : Nat) (ct : Int32) (Tg : Nat → Int32) (Co : Nat → Int32) (Rw : Nat → Int32) (Un : Nat → Int32) (Kd : Nat → Int32) (hok : sd = true → za_like Tg Co Rw lr Kd kc) : Met ln zm_X_kinds (Cond.code zm_X_kinds zo_X_kinds 1 (some .int) :: zb_big) zr_X_kinds (za_Pw D vwCl [(cI, .int), (cZ, .boolean)] [.ref aX] [(aX, .inr (4, [.ref aN, .ref aL, .ref aV, .ref aG])), (aL, .inr (1, [.ref aN, .ref aR, .ref aU, .ref aK, .int (nI lr), .int (nI kc), .int (za_bi sd)])), (aR, .inl (cI, 576, .inl Rw)), (aU, .inl (cI, 96, .inl Un)), (aK, .inl (cI, 24, .inl Kd)), (aN, .inr (0, [.ref aT, .ref aC, .int ct])), (aT, .inl (cI, 96, .inl Tg)), (aC, .inl (cI, 24, .inl Co))] sz) (va_Qi (fun (r : Int32) (u : (Nat → Int32) × (Nat → Int32) × (Nat → Int32) × Nat × Nat × Bool) => r = nI (za_kc Tg Co) ∧ (u.2.2.2.2.2 = true → za_like Tg Co u.1 u.2.2.2.1 u.2.2.1 u.2.2.2.2.1)) (za_B D vwCl [(aX, .inr (4, [.ref aN, .ref aL, .ref aV, .ref aG])), (aL, .inr (1, [.ref aN, .ref aR, .ref aU, .ref aK, .int (nI lr), .int (nI kc), .int (za_bi sd)])), (aR, .inl (cI, 576, .inl Rw)), (aU, .inl (cI, 96, .inl Un)), (aK, .inl (cI, 24, .inl Kd)), (aN, .inr (0, [.ref aT, .ref aC, .int ct])), (aT, .inl (cI, 96, .inl Tg)), (aC, .inl (cI, 24, .inl Co))] sz (fun (u : (Nat → Int32) × (Nat → Int32) × (Nat → Int32) × Nat × Nat × Bool) => [(aX, .inr (4, [.ref aN, .ref aL, .ref aV, .ref aG])), (aL, .inr (1, [.ref aN, .ref aR, .ref aU, .ref aK, .int (nI u.2.2.2.1), .int (nI u.2.2.2.2.1), .int (za_bi u.2.2.2.2.2)])), (aR, .inl (cI, 576, .inl u.1)), (aU, .inl (cI, 96, .inl u.2.1)), (aK, .inl (cI, 24, .inl u.2.2.1)), (aN, .inr (0, [.ref aT, .ref aC, .int ct])), (aT, .inl (cI, 96, .inl Tg)), (aC, .inl (cI, 24, .inl Co))])) (va_A [(aX, .inr (4, [.ref aN, .ref aL, .ref aV, .ref aG])), (aL, .inr (1, [.ref aN, .ref aR, .ref aU, .ref aK, .int (nI lr), .int (nI kc), .int (za_bi sd)])), (aR, .inl (cI, 576, .inl Rw)), (aU, .inl (cI, 96, .inl Un)), (aK, .inl (cI, 24, .inl Kd)), (aN, .inr (0, [.ref aT, .ref aC, .int ct])), (aT, .inl (cI, 96, .inl Tg)), (aC, .inl (cI, 24, .inl Co))] sz)) 0 0 (va_A [(aX, .inr (4, [.ref aN, .ref aL, .ref aV, .ref aG])), (aL, .inr (1, [.ref aN, .ref aR, .ref aU, .ref aK, .int (nI lr), .int (nI kc), .int (za_bi sd)])), (aR, .inl (cI, 576, .inl Rw)), (aU, .inl (cI, 96, .inl Un)), (aK, .inl (cI, 24, .inl Kd)), (aN, .inr (0, [.ref aT, .ref aC, .int ct])), (aT, .inl (cI, 96, .inl Tg)), (aC, .inl (cI, 24, .inl Co))] sz) := by
  refine za_wi (cc := zo_X_kinds) (maxL := 1) (ty := .int) (by decide) (Nat.le_of_ble_eq_true rfl) (fun _ _ _ => rfl) ?_
  intro p e sg m args below meth c H0 A Q hx hb hml hts hown hmn hP hK hN hD hA hS hret ls hl
  have hP : va_P D vwCl [(aX, .inr (4, [.ref aN, .ref aL, .ref aV, .ref aG])), (aL, .inr (1, [.ref aN, .ref aR, .ref aU, .ref aK, .int (nI lr), .int (nI kc), .int (za_bi sd)])), (aR, .inl (cI, 576, .inl Rw)), (aU, .inl (cI, 96, .inl Un)), (aK, .inl (cI, 24, .inl Kd)), (aN, .inr (0, [.ref aT, .ref aC, .int ct])), (aT, .inl (cI, 96, .inl Tg)), (aC, .inl (cI, 24, .inl Co))] H0 := hP
  have hD : va_D A [(aX, .inr (4, [.ref aN, .ref aL, .ref aV, .ref aG])), (aL, .inr (1, [.ref aN, .ref aR, .ref aU, .ref aK, .int (nI lr), .int (nI kc), .int (za_bi sd)])), (aR, .inl (cI, 576, .inl Rw)), (aU, .inl (cI, 96, .inl Un)), (aK, .inl (cI, 24, .inl Kd)), (aN, .inr (0, [.ref aT, .ref aC, .int ct])), (aT, .inl (cI, 96, .inl Tg)), (aC, .inl (cI, 24, .inl Co))] := hD
  have hl : lv_has ls 1 [(0, .ref aX)] := hl
  refine lv_aload_n hx hb zd_X_kinds_0 rfl (lv_at hl 0 rfl) ?_
  refine za_wVr (As := []) (rest := []) (wr := []) (wz := (fun u => [(aX, .inr (4, [.ref aN, .ref aL, .ref aV, .ref aG])), (aL, .inr (1, [.ref aN, .ref aR, .ref aU, .ref aK, .int (nI u.2.2.2.1), .int (nI u.2.2.2.2), .int (za_bi true)])), (aR, .inl (cI, 576, .inl u.1)), (aU, .inl (cI, 96, .inl u.2.1)), (aK, .inl (cI, 24, .inl u.2.2.1)), (aN, .inr (0, [.ref aT, .ref aC, .int ct])), (aT, .inl (cI, 96, .inl Tg)), (aC, .inl (cI, 24, .inl Co))])) ⟨hx, hb, hml, hown, hts⟩ (zc_X_settledLikeness ln D cI cZ _ aX aV aG aL aN aR aU aK lr kc sd aT aC ct Tg Co Rw Un Kd (by exact hok)) (za_gV 0 hts zw_231 zw_233 zw_1 zw_35 zw_234 (by decide +kernel) ⟨Nat.le_of_ble_eq_true rfl, Nat.le_of_ble_eq_true rfl⟩) hK hN hP hD hS hA [0, 1, 2, 3, 4, 5, 6, 7] [] [0, 1, 2, 3, 4, 5, 6, 7] rfl rfl (by decide) (by decide) (by decide) (by decide) (fun _ => rfl) (q0 := 0) rfl rfl hl rfl rfl (Nat.le_of_ble_eq_true rfl) zd_X_kinds_1 ⟨Nat.le_of_ble_eq_true rfl, Nat.le_of_ble_eq_true rfl⟩ (fun u1 H locs hq1 hP hD hS => ?_)
  obtain ⟨Rw1_1, Un1_1, Kd1_1, lr1_1, kc1_1⟩ := u1
  have hP : va_P D vwCl [(aX, .inr (4, [.ref aN, .ref aL, .ref aV, .ref aG])), (aL, .inr (1, [.ref aN, .ref aR, .ref aU, .ref aK, .int (nI lr1_1), .int (nI kc1_1), .int (za_bi true)])), (aR, .inl (cI, 576, .inl Rw1_1)), (aU, .inl (cI, 96, .inl Un1_1)), (aK, .inl (cI, 24, .inl Kd1_1)), (aN, .inr (0, [.ref aT, .ref aC, .int ct])), (aT, .inl (cI, 96, .inl Tg)), (aC, .inl (cI, 24, .inl Co))] H := hP
  have hD : va_D A [(aX, .inr (4, [.ref aN, .ref aL, .ref aV, .ref aG])), (aL, .inr (1, [.ref aN, .ref aR, .ref aU, .ref aK, .int (nI lr1_1), .int (nI kc1_1), .int (za_bi true)])), (aR, .inl (cI, 576, .inl Rw1_1)), (aU, .inl (cI, 96, .inl Un1_1)), (aK, .inl (cI, 24, .inl Kd1_1)), (aN, .inr (0, [.ref aT, .ref aC, .int ct])), (aT, .inl (cI, 96, .inl Tg)), (aC, .inl (cI, 24, .inl Co))] := hD
  have hq1 : za_like Tg Co Rw1_1 lr1_1 Kd1_1 kc1_1 := hq1
  refine za_cV (As := []) (rest := []) ⟨hx, hb, hml, hown, hts⟩ (zc_L_kindCount ln D cI cZ aL aN aR aU aK lr1_1 kc1_1 true ) (za_gV 0 hts zw_291 zw_292 zw_293 zw_37 zw_294 (by decide +kernel) ⟨Nat.le_of_ble_eq_true rfl, Nat.le_of_ble_eq_true rfl⟩) hK hN hP [1] rfl (q0 := 1) rfl rfl hl rfl rfl (Nat.le_of_ble_eq_true rfl) zd_X_kinds_4 ⟨Nat.le_of_ble_eq_true rfl, Nat.le_of_ble_eq_true rfl⟩ ?_
  have hP9 : va_P D vwCl [(aX, .inr (4, [.ref aN, .ref aL, .ref aV, .ref aG])), (aL, .inr (1, [.ref aN, .ref aR, .ref aU, .ref aK, .int (nI lr1_1), .int (nI kc1_1), .int (za_bi true)])), (aR, .inl (cI, 576, .inl Rw1_1)), (aU, .inl (cI, 96, .inl Un1_1)), (aK, .inl (cI, 24, .inl Kd1_1)), (aN, .inr (0, [.ref aT, .ref aC, .int ct])), (aT, .inl (cI, 96, .inl Tg)), (aC, .inl (cI, 24, .inl Co))] H := hP
  have hD9 : va_D A [(aX, .inr (4, [.ref aN, .ref aL, .ref aV, .ref aG])), (aL, .inr (1, [.ref aN, .ref aR, .ref aU, .ref aK, .int (nI lr1_1), .int (nI kc1_1), .int (za_bi true)])), (aR, .inl (cI, 576, .inl Rw1_1)), (aU, .inl (cI, 96, .inl Un1_1)), (aK, .inl (cI, 24, .inl Kd1_1)), (aN, .inr (0, [.ref aT, .ref aC, .int ct])), (aT, .inl (cI, 96, .inl Tg)), (aC, .inl (cI, 24, .inl Co))] := hD
  have hQ9 : (nI kc1_1) = nI (za_kc Tg Co) ∧ (true = true → za_like Tg Co Rw1_1 lr1_1 Kd1_1 kc1_1) := by exact ⟨by rw [hq1.2.2.2.2], fun _ => hq1⟩
  exact hret _ ⟨Rw1_1, Un1_1, Kd1_1, lr1_1, kc1_1, true⟩ _ _ _ _ (hQ9) hP9 hD9 hS zd_X_kinds_7
def zr_X_kind : Room := { frames := 6, cells := 0, slots := 0, locals := 135 }
set_option maxHeartbeats 4000000 in
set_option maxRecDepth 100000 in
theorem zc_X_kind (ln : Launch) (D : va_G) (cI cZ : ClassId) (sz : Nat) (aX : Nat) (aV : Nat) (aG : Nat) (aL : Nat) (aN : Nat) (aR : Nat) (aU : Nat) (aK : Nat) (lr : Nat) (kc : Nat) (sd : Bool) (aT : Nat) (aC : Nat) (ct : Int32) (Tg : Nat → Int32) (Co : Nat → Int32) (Rw : Nat → Int32) (Un : Nat → Int32) (Kd : Nat → Int32) (w : Int32) (hok : sd = true → za_like Tg Co Rw lr Kd kc) : Met ln zm_X_kind (Cond.code zm_X_kind zo_X_kind 2 (some .int) :: zb_big) zr_X_kind (za_Pw D vwCl [(cI, .int), (cZ, .boolean)] [.ref aX, .int w] [(aX, .inr (4, [.ref aN, .ref aL, .ref aV, .ref aG])), (aL, .inr (1, [.ref aN, .ref aR, .ref aU, .ref aK, .int (nI lr), .int (nI kc), .int (za_bi sd)])), (aR, .inl (cI, 576, .inl Rw)), (aU, .inl (cI, 96, .inl Un)), (aK, .inl (cI, 24, .inl Kd)), (aN, .inr (0, [.ref aT, .ref aC, .int ct])), (aT, .inl (cI, 96, .inl Tg)), (aC, .inl (cI, 24, .inl Co))] sz) (va_Qi (fun (r : Int32) (u : (Nat → Int32) × (Nat → Int32) × (Nat → Int32) × Nat × Nat × Bool) => r = (if za_isS w = true then za_kd Tg Co (za_clp w) else (-1)) ∧ (u.2.2.2.2.2 = true → za_like Tg Co u.1 u.2.2.2.1 u.2.2.1 u.2.2.2.2.1)) (za_B D vwCl [(aX, .inr (4, [.ref aN, .ref aL, .ref aV, .ref aG])), (aL, .inr (1, [.ref aN, .ref aR, .ref aU, .ref aK, .int (nI lr), .int (nI kc), .int (za_bi sd)])), (aR, .inl (cI, 576, .inl Rw)), (aU, .inl (cI, 96, .inl Un)), (aK, .inl (cI, 24, .inl Kd)), (aN, .inr (0, [.ref aT, .ref aC, .int ct])), (aT, .inl (cI, 96, .inl Tg)), (aC, .inl (cI, 24, .inl Co))] sz (fun (u : (Nat → Int32) × (Nat → Int32) × (Nat → Int32) × Nat × Nat × Bool) => [(aX, .inr (4, [.ref aN, .ref aL, .ref aV, .ref aG])), (aL, .inr (1, [.ref aN, .ref aR, .ref aU, .ref aK, .int (nI u.2.2.2.1), .int (nI u.2.2.2.2.1), .int (za_bi u.2.2.2.2.2)])), (aR, .inl (cI, 576, .inl u.1)), (aU, .inl (cI, 96, .inl u.2.1)), (aK, .inl (cI, 24, .inl u.2.2.1)), (aN, .inr (0, [.ref aT, .ref aC, .int ct])), (aT, .inl (cI, 96, .inl Tg)), (aC, .inl (cI, 24, .inl Co))])) (va_A [(aX, .inr (4, [.ref aN, .ref aL, .ref aV, .ref aG])), (aL, .inr (1, [.ref aN, .ref aR, .ref aU, .ref aK, .int (nI lr), .int (nI kc), .int (za_bi sd)])), (aR, .inl (cI, 576, .inl Rw)), (aU, .inl (cI, 96, .inl Un)), (aK, .inl (cI, 24, .inl Kd)), (aN, .inr (0, [.ref aT, .ref aC, .int ct])), (aT, .inl (cI, 96, .inl Tg)), (aC, .inl (cI, 24, .inl Co))] sz)) 0 0 (va_A [(aX, .inr (4, [.ref aN, .ref aL, .ref aV, .ref aG])), (aL, .inr (1, [.ref aN, .ref aR, .ref aU, .ref aK, .int (nI lr), .int (nI kc), .int (za_bi sd)])), (aR, .inl (cI, 576, .inl Rw)), (aU, .inl (cI, 96, .inl Un)), (aK, .inl (cI, 24, .inl Kd)), (aN, .inr (0, [.ref aT, .ref aC, .int ct])), (aT, .inl (cI, 96, .inl Tg)), (aC, .inl (cI, 24, .inl Co))] sz) := by
  refine za_wi (cc := zo_X_kind) (maxL := 2) (ty := .int) (by decide) (Nat.le_of_ble_eq_true rfl) (fun _ _ _ => rfl) ?_
  intro p e sg m args below meth c H0 A Q hx hb hml hts hown hmn hP hK hN hD hA hS hret ls hl
  have hP : va_P D vwCl [(aX, .inr (4, [.ref aN, .ref aL, .ref aV, .ref aG])), (aL, .inr (1, [.ref aN, .ref aR, .ref aU, .ref aK, .int (nI lr), .int (nI kc), .int (za_bi sd)])), (aR, .inl (cI, 576, .inl Rw)), (aU, .inl (cI, 96, .inl Un)), (aK, .inl (cI, 24, .inl Kd)), (aN, .inr (0, [.ref aT, .ref aC, .int ct])), (aT, .inl (cI, 96, .inl Tg)), (aC, .inl (cI, 24, .inl Co))] H0 := hP
  have hD : va_D A [(aX, .inr (4, [.ref aN, .ref aL, .ref aV, .ref aG])), (aL, .inr (1, [.ref aN, .ref aR, .ref aU, .ref aK, .int (nI lr), .int (nI kc), .int (za_bi sd)])), (aR, .inl (cI, 576, .inl Rw)), (aU, .inl (cI, 96, .inl Un)), (aK, .inl (cI, 24, .inl Kd)), (aN, .inr (0, [.ref aT, .ref aC, .int ct])), (aT, .inl (cI, 96, .inl Tg)), (aC, .inl (cI, 24, .inl Co))] := hD
  have hl : lv_has ls 2 [(0, .ref aX), (1, .int w)] := hl
  refine lv_iload_n hx hb zd_X_kind_0 rfl (lv_at hl 1 rfl) ?_
  refine za_cS (As := [.int w]) (rest := []) ⟨hx, hb, hml, hown, hts⟩ (zc_X_isState ln D cI cZ w ) (za_gS 1 hts zw_162 zw_163 zw_35 zw_164 (by decide +kernel) ⟨Nat.le_of_ble_eq_true rfl, Nat.le_of_ble_eq_true rfl⟩) hK hN hP [] rfl hl rfl rfl (Nat.le_of_ble_eq_true rfl) zd_X_kind_1 ⟨Nat.le_of_ble_eq_true rfl, Nat.le_of_ble_eq_true rfl⟩ ?_
  refine lv_if_eq hx hb (tgt := 18) zd_X_kind_4 (by decide) (fun h4 => ?_) (fun h4 => ?_)
  · have h4 := za_bF h4
    refine lv_iconst (v := (-1)) hx hb zd_X_kind_18 (by decide) ?_
    have hP9 : va_P D vwCl [(aX, .inr (4, [.ref aN, .ref aL, .ref aV, .ref aG])), (aL, .inr (1, [.ref aN, .ref aR, .ref aU, .ref aK, .int (nI lr), .int (nI kc), .int (za_bi sd)])), (aR, .inl (cI, 576, .inl Rw)), (aU, .inl (cI, 96, .inl Un)), (aK, .inl (cI, 24, .inl Kd)), (aN, .inr (0, [.ref aT, .ref aC, .int ct])), (aT, .inl (cI, 96, .inl Tg)), (aC, .inl (cI, 24, .inl Co))] H0 := hP
    have hD9 : va_D A [(aX, .inr (4, [.ref aN, .ref aL, .ref aV, .ref aG])), (aL, .inr (1, [.ref aN, .ref aR, .ref aU, .ref aK, .int (nI lr), .int (nI kc), .int (za_bi sd)])), (aR, .inl (cI, 576, .inl Rw)), (aU, .inl (cI, 96, .inl Un)), (aK, .inl (cI, 24, .inl Kd)), (aN, .inr (0, [.ref aT, .ref aC, .int ct])), (aT, .inl (cI, 96, .inl Tg)), (aC, .inl (cI, 24, .inl Co))] := hD
    have hQ9 : (-1) = (if za_isS w = true then za_kd Tg Co (za_clp w) else (-1)) ∧ (sd = true → za_like Tg Co Rw lr Kd kc) := by first | exact ⟨by rw [h4]; rfl, hok⟩ | exact ⟨by rw [if_pos h4, hw, za_clS hs0, hq8.2.2.2.1 s hs0], fun _ => hq8⟩
    exact hret _ ⟨Rw, Un, Kd, lr, kc, sd⟩ _ _ _ _ (hQ9) hP9 hD9 hS zd_X_kind_19
  · have h4 := za_bT h4
    obtain ⟨s, hs0, hw⟩ := za_isS_of h4
    have hl : lv_has ls 2 [(0, .ref aX), (1, .int (nI s))] := by rw [← hw]; exact hl
    refine lv_aload_n hx hb zd_X_kind_7 rfl (lv_at hl 0 rfl) ?_
    refine za_wVr (As := []) (rest := []) (wr := []) (wz := (fun u => [(aX, .inr (4, [.ref aN, .ref aL, .ref aV, .ref aG])), (aL, .inr (1, [.ref aN, .ref aR, .ref aU, .ref aK, .int (nI u.2.2.2.1), .int (nI u.2.2.2.2), .int (za_bi true)])), (aR, .inl (cI, 576, .inl u.1)), (aU, .inl (cI, 96, .inl u.2.1)), (aK, .inl (cI, 24, .inl u.2.2.1)), (aN, .inr (0, [.ref aT, .ref aC, .int ct])), (aT, .inl (cI, 96, .inl Tg)), (aC, .inl (cI, 24, .inl Co))])) ⟨hx, hb, hml, hown, hts⟩ (zc_X_settledLikeness ln D cI cZ _ aX aV aG aL aN aR aU aK lr kc sd aT aC ct Tg Co Rw Un Kd (by exact hok)) (za_gV 0 hts zw_231 zw_233 zw_1 zw_35 zw_234 (by decide +kernel) ⟨Nat.le_of_ble_eq_true rfl, Nat.le_of_ble_eq_true rfl⟩) hK hN hP hD hS hA [0, 1, 2, 3, 4, 5, 6, 7] [] [0, 1, 2, 3, 4, 5, 6, 7] rfl rfl (by decide) (by decide) (by decide) (by decide) (fun _ => rfl) (q0 := 0) rfl rfl hl rfl rfl (Nat.le_of_ble_eq_true rfl) zd_X_kind_8 ⟨Nat.le_of_ble_eq_true rfl, Nat.le_of_ble_eq_true rfl⟩ (fun u8 H locs hq8 hP hD hS => ?_)
    obtain ⟨Rw1_8, Un1_8, Kd1_8, lr1_8, kc1_8⟩ := u8
    have hP : va_P D vwCl [(aX, .inr (4, [.ref aN, .ref aL, .ref aV, .ref aG])), (aL, .inr (1, [.ref aN, .ref aR, .ref aU, .ref aK, .int (nI lr1_8), .int (nI kc1_8), .int (za_bi true)])), (aR, .inl (cI, 576, .inl Rw1_8)), (aU, .inl (cI, 96, .inl Un1_8)), (aK, .inl (cI, 24, .inl Kd1_8)), (aN, .inr (0, [.ref aT, .ref aC, .int ct])), (aT, .inl (cI, 96, .inl Tg)), (aC, .inl (cI, 24, .inl Co))] H := hP
    have hD : va_D A [(aX, .inr (4, [.ref aN, .ref aL, .ref aV, .ref aG])), (aL, .inr (1, [.ref aN, .ref aR, .ref aU, .ref aK, .int (nI lr1_8), .int (nI kc1_8), .int (za_bi true)])), (aR, .inl (cI, 576, .inl Rw1_8)), (aU, .inl (cI, 96, .inl Un1_8)), (aK, .inl (cI, 24, .inl Kd1_8)), (aN, .inr (0, [.ref aT, .ref aC, .int ct])), (aT, .inl (cI, 96, .inl Tg)), (aC, .inl (cI, 24, .inl Co))] := hD
    have hq8 : za_like Tg Co Rw1_8 lr1_8 Kd1_8 kc1_8 := hq8
    refine lv_iload_n hx hb zd_X_kind_11 rfl (lv_at hl 1 rfl) ?_
    refine za_cV (As := [.int (nI s)]) (rest := []) ⟨hx, hb, hml, hown, hts⟩ (zc_L_kindOf ln D cI cZ aL aN aR aU aK lr1_8 kc1_8 true Kd1_8 s (by omega)) (za_gV 1 hts zw_299 zw_300 zw_301 zw_37 zw_302 (by decide +kernel) ⟨Nat.le_of_ble_eq_true rfl, Nat.le_of_ble_eq_true rfl⟩) hK hN hP [1, 4] rfl (q0 := 1) rfl rfl hl rfl rfl (Nat.le_of_ble_eq_true rfl) zd_X_kind_12 ⟨Nat.le_of_ble_eq_true rfl, Nat.le_of_ble_eq_true rfl⟩ ?_
    refine lv_goto hx hb (tgt := 19) zd_X_kind_15 (by decide) ?_
    have hP9 : va_P D vwCl [(aX, .inr (4, [.ref aN, .ref aL, .ref aV, .ref aG])), (aL, .inr (1, [.ref aN, .ref aR, .ref aU, .ref aK, .int (nI lr1_8), .int (nI kc1_8), .int (za_bi true)])), (aR, .inl (cI, 576, .inl Rw1_8)), (aU, .inl (cI, 96, .inl Un1_8)), (aK, .inl (cI, 24, .inl Kd1_8)), (aN, .inr (0, [.ref aT, .ref aC, .int ct])), (aT, .inl (cI, 96, .inl Tg)), (aC, .inl (cI, 24, .inl Co))] H := hP
    have hD9 : va_D A [(aX, .inr (4, [.ref aN, .ref aL, .ref aV, .ref aG])), (aL, .inr (1, [.ref aN, .ref aR, .ref aU, .ref aK, .int (nI lr1_8), .int (nI kc1_8), .int (za_bi true)])), (aR, .inl (cI, 576, .inl Rw1_8)), (aU, .inl (cI, 96, .inl Un1_8)), (aK, .inl (cI, 24, .inl Kd1_8)), (aN, .inr (0, [.ref aT, .ref aC, .int ct])), (aT, .inl (cI, 96, .inl Tg)), (aC, .inl (cI, 24, .inl Co))] := hD
    have hQ9 : (Kd1_8 s) = (if za_isS w = true then za_kd Tg Co (za_clp w) else (-1)) ∧ (true = true → za_like Tg Co Rw1_8 lr1_8 Kd1_8 kc1_8) := by first | exact ⟨by rw [h4]; rfl, hok⟩ | exact ⟨by rw [if_pos h4, hw, za_clS hs0, hq8.2.2.2.1 s hs0], fun _ => hq8⟩
    exact hret _ ⟨Rw1_8, Un1_8, Kd1_8, lr1_8, kc1_8, true⟩ _ _ _ _ (hQ9) hP9 hD9 hS zd_X_kind_19
def zr_X_size : Room := { frames := 6, cells := 0, slots := 0, locals := 135 }
set_option maxHeartbeats 4000000 in
set_option maxRecDepth 100000 in
theorem zc_X_size (ln : Launch) (D : va_G) (cI cZ : ClassId) (sz : Nat) (aX : Nat) (aV : Nat) (aG : Nat) (aL : Nat) (aN : Nat) (aR : Nat) (aU : Nat) (aK : Nat) (lr : Nat) (kc : Nat) (sd : Bool) (aT : Nat) (aC : Nat) (ct : Int32) (Tg : Nat → Int32) (Co : Nat → Int32) (Rw : Nat → Int32) (Un : Nat → Int32) (Kd : Nat → Int32) (w : Int32) (hok : sd = true → za_like Tg Co Rw lr Kd kc) : Met ln zm_X_size (Cond.code zm_X_size zo_X_size 2 (some .int) :: zb_big) zr_X_size (za_Pw D vwCl [(cI, .int), (cZ, .boolean)] [.ref aX, .int w] [(aX, .inr (4, [.ref aN, .ref aL, .ref aV, .ref aG])), (aL, .inr (1, [.ref aN, .ref aR, .ref aU, .ref aK, .int (nI lr), .int (nI kc), .int (za_bi sd)])), (aR, .inl (cI, 576, .inl Rw)), (aU, .inl (cI, 96, .inl Un)), (aK, .inl (cI, 24, .inl Kd)), (aN, .inr (0, [.ref aT, .ref aC, .int ct])), (aT, .inl (cI, 96, .inl Tg)), (aC, .inl (cI, 24, .inl Co))] sz) (va_Qi (fun (r : Int32) (u : (Nat → Int32) × (Nat → Int32) × (Nat → Int32) × Nat × Nat × Bool) => r = nI (za_cn (fun x => decide (za_kd Tg Co x = w)) 24) ∧ (u.2.2.2.2.2 = true → za_like Tg Co u.1 u.2.2.2.1 u.2.2.1 u.2.2.2.2.1)) (za_B D vwCl [(aX, .inr (4, [.ref aN, .ref aL, .ref aV, .ref aG])), (aL, .inr (1, [.ref aN, .ref aR, .ref aU, .ref aK, .int (nI lr), .int (nI kc), .int (za_bi sd)])), (aR, .inl (cI, 576, .inl Rw)), (aU, .inl (cI, 96, .inl Un)), (aK, .inl (cI, 24, .inl Kd)), (aN, .inr (0, [.ref aT, .ref aC, .int ct])), (aT, .inl (cI, 96, .inl Tg)), (aC, .inl (cI, 24, .inl Co))] sz (fun (u : (Nat → Int32) × (Nat → Int32) × (Nat → Int32) × Nat × Nat × Bool) => [(aX, .inr (4, [.ref aN, .ref aL, .ref aV, .ref aG])), (aL, .inr (1, [.ref aN, .ref aR, .ref aU, .ref aK, .int (nI u.2.2.2.1), .int (nI u.2.2.2.2.1), .int (za_bi u.2.2.2.2.2)])), (aR, .inl (cI, 576, .inl u.1)), (aU, .inl (cI, 96, .inl u.2.1)), (aK, .inl (cI, 24, .inl u.2.2.1)), (aN, .inr (0, [.ref aT, .ref aC, .int ct])), (aT, .inl (cI, 96, .inl Tg)), (aC, .inl (cI, 24, .inl Co))])) (va_A [(aX, .inr (4, [.ref aN, .ref aL, .ref aV, .ref aG])), (aL, .inr (1, [.ref aN, .ref aR, .ref aU, .ref aK, .int (nI lr), .int (nI kc), .int (za_bi sd)])), (aR, .inl (cI, 576, .inl Rw)), (aU, .inl (cI, 96, .inl Un)), (aK, .inl (cI, 24, .inl Kd)), (aN, .inr (0, [.ref aT, .ref aC, .int ct])), (aT, .inl (cI, 96, .inl Tg)), (aC, .inl (cI, 24, .inl Co))] sz)) 0 0 (va_A [(aX, .inr (4, [.ref aN, .ref aL, .ref aV, .ref aG])), (aL, .inr (1, [.ref aN, .ref aR, .ref aU, .ref aK, .int (nI lr), .int (nI kc), .int (za_bi sd)])), (aR, .inl (cI, 576, .inl Rw)), (aU, .inl (cI, 96, .inl Un)), (aK, .inl (cI, 24, .inl Kd)), (aN, .inr (0, [.ref aT, .ref aC, .int ct])), (aT, .inl (cI, 96, .inl Tg)), (aC, .inl (cI, 24, .inl Co))] sz) := by
  refine za_wi (cc := zo_X_size) (maxL := 2) (ty := .int) (by decide) (Nat.le_of_ble_eq_true rfl) (fun _ _ _ => rfl) ?_
  intro p e sg m args below meth c H0 A Q hx hb hml hts hown hmn hP hK hN hD hA hS hret ls hl
  have hP : va_P D vwCl [(aX, .inr (4, [.ref aN, .ref aL, .ref aV, .ref aG])), (aL, .inr (1, [.ref aN, .ref aR, .ref aU, .ref aK, .int (nI lr), .int (nI kc), .int (za_bi sd)])), (aR, .inl (cI, 576, .inl Rw)), (aU, .inl (cI, 96, .inl Un)), (aK, .inl (cI, 24, .inl Kd)), (aN, .inr (0, [.ref aT, .ref aC, .int ct])), (aT, .inl (cI, 96, .inl Tg)), (aC, .inl (cI, 24, .inl Co))] H0 := hP
  have hD : va_D A [(aX, .inr (4, [.ref aN, .ref aL, .ref aV, .ref aG])), (aL, .inr (1, [.ref aN, .ref aR, .ref aU, .ref aK, .int (nI lr), .int (nI kc), .int (za_bi sd)])), (aR, .inl (cI, 576, .inl Rw)), (aU, .inl (cI, 96, .inl Un)), (aK, .inl (cI, 24, .inl Kd)), (aN, .inr (0, [.ref aT, .ref aC, .int ct])), (aT, .inl (cI, 96, .inl Tg)), (aC, .inl (cI, 24, .inl Co))] := hD
  have hl : lv_has ls 2 [(0, .ref aX), (1, .int w)] := hl
  refine lv_aload_n hx hb zd_X_size_0 rfl (lv_at hl 0 rfl) ?_
  refine za_wVr (As := []) (rest := []) (wr := []) (wz := (fun u => [(aX, .inr (4, [.ref aN, .ref aL, .ref aV, .ref aG])), (aL, .inr (1, [.ref aN, .ref aR, .ref aU, .ref aK, .int (nI u.2.2.2.1), .int (nI u.2.2.2.2), .int (za_bi true)])), (aR, .inl (cI, 576, .inl u.1)), (aU, .inl (cI, 96, .inl u.2.1)), (aK, .inl (cI, 24, .inl u.2.2.1)), (aN, .inr (0, [.ref aT, .ref aC, .int ct])), (aT, .inl (cI, 96, .inl Tg)), (aC, .inl (cI, 24, .inl Co))])) ⟨hx, hb, hml, hown, hts⟩ (zc_X_settledLikeness ln D cI cZ _ aX aV aG aL aN aR aU aK lr kc sd aT aC ct Tg Co Rw Un Kd (by exact hok)) (za_gV 0 hts zw_231 zw_233 zw_1 zw_35 zw_234 (by decide +kernel) ⟨Nat.le_of_ble_eq_true rfl, Nat.le_of_ble_eq_true rfl⟩) hK hN hP hD hS hA [0, 1, 2, 3, 4, 5, 6, 7] [] [0, 1, 2, 3, 4, 5, 6, 7] rfl rfl (by decide) (by decide) (by decide) (by decide) (fun _ => rfl) (q0 := 0) rfl rfl hl rfl rfl (Nat.le_of_ble_eq_true rfl) zd_X_size_1 ⟨Nat.le_of_ble_eq_true rfl, Nat.le_of_ble_eq_true rfl⟩ (fun u1 H locs hq1 hP hD hS => ?_)
  obtain ⟨Rw1_1, Un1_1, Kd1_1, lr1_1, kc1_1⟩ := u1
  have hP : va_P D vwCl [(aX, .inr (4, [.ref aN, .ref aL, .ref aV, .ref aG])), (aL, .inr (1, [.ref aN, .ref aR, .ref aU, .ref aK, .int (nI lr1_1), .int (nI kc1_1), .int (za_bi true)])), (aR, .inl (cI, 576, .inl Rw1_1)), (aU, .inl (cI, 96, .inl Un1_1)), (aK, .inl (cI, 24, .inl Kd1_1)), (aN, .inr (0, [.ref aT, .ref aC, .int ct])), (aT, .inl (cI, 96, .inl Tg)), (aC, .inl (cI, 24, .inl Co))] H := hP
  have hD : va_D A [(aX, .inr (4, [.ref aN, .ref aL, .ref aV, .ref aG])), (aL, .inr (1, [.ref aN, .ref aR, .ref aU, .ref aK, .int (nI lr1_1), .int (nI kc1_1), .int (za_bi true)])), (aR, .inl (cI, 576, .inl Rw1_1)), (aU, .inl (cI, 96, .inl Un1_1)), (aK, .inl (cI, 24, .inl Kd1_1)), (aN, .inr (0, [.ref aT, .ref aC, .int ct])), (aT, .inl (cI, 96, .inl Tg)), (aC, .inl (cI, 24, .inl Co))] := hD
  have hq1 : za_like Tg Co Rw1_1 lr1_1 Kd1_1 kc1_1 := hq1
  refine lv_iload_n hx hb zd_X_size_4 rfl (lv_at hl 1 rfl) ?_
  refine za_cV (As := [.int w]) (rest := []) ⟨hx, hb, hml, hown, hts⟩ (zc_L_sizeOf ln D cI cZ aL aN aR aU aK lr1_1 kc1_1 true Kd1_1 w ) (za_gV 1 hts zw_307 zw_308 zw_309 zw_37 zw_310 (by decide +kernel) ⟨Nat.le_of_ble_eq_true rfl, Nat.le_of_ble_eq_true rfl⟩) hK hN hP [1, 4] rfl (q0 := 1) rfl rfl hl rfl rfl (Nat.le_of_ble_eq_true rfl) zd_X_size_5 ⟨Nat.le_of_ble_eq_true rfl, Nat.le_of_ble_eq_true rfl⟩ ?_
  have hP9 : va_P D vwCl [(aX, .inr (4, [.ref aN, .ref aL, .ref aV, .ref aG])), (aL, .inr (1, [.ref aN, .ref aR, .ref aU, .ref aK, .int (nI lr1_1), .int (nI kc1_1), .int (za_bi true)])), (aR, .inl (cI, 576, .inl Rw1_1)), (aU, .inl (cI, 96, .inl Un1_1)), (aK, .inl (cI, 24, .inl Kd1_1)), (aN, .inr (0, [.ref aT, .ref aC, .int ct])), (aT, .inl (cI, 96, .inl Tg)), (aC, .inl (cI, 24, .inl Co))] H := hP
  have hD9 : va_D A [(aX, .inr (4, [.ref aN, .ref aL, .ref aV, .ref aG])), (aL, .inr (1, [.ref aN, .ref aR, .ref aU, .ref aK, .int (nI lr1_1), .int (nI kc1_1), .int (za_bi true)])), (aR, .inl (cI, 576, .inl Rw1_1)), (aU, .inl (cI, 96, .inl Un1_1)), (aK, .inl (cI, 24, .inl Kd1_1)), (aN, .inr (0, [.ref aT, .ref aC, .int ct])), (aT, .inl (cI, 96, .inl Tg)), (aC, .inl (cI, 24, .inl Co))] := hD
  have hQ9 : (nI (za_cn (fun x => decide (Kd1_1 x = w)) 24)) = nI (za_cn (fun x => decide (za_kd Tg Co x = w)) 24) ∧ (true = true → za_like Tg Co Rw1_1 lr1_1 Kd1_1 kc1_1) := by exact ⟨by rw [za_cn_congr (fun x hx => by rw [hq1.2.2.2.1 x hx])], fun _ => hq1⟩
  exact hret _ ⟨Rw1_1, Un1_1, Kd1_1, lr1_1, kc1_1, true⟩ _ _ _ _ (hQ9) hP9 hD9 hS zd_X_size_8
def zr_X_reach : Room := { frames := 6, cells := 0, slots := 0, locals := 135 }
set_option maxHeartbeats 4000000 in
set_option maxRecDepth 100000 in
theorem zc_X_reach (ln : Launch) (D : va_G) (cI cZ : ClassId) (sz : Nat) (aX : Nat) (aV : Nat) (aG : Nat) (aL : Nat) (aN : Nat) (aR : Nat) (aU : Nat) (aK : Nat) (lr : Nat) (kc : Nat) (sd : Bool) (aT : Nat) (aC : Nat) (ct : Int32) (Tg : Nat → Int32) (Co : Nat → Int32) (Rw : Nat → Int32) (Un : Nat → Int32) (Kd : Nat → Int32) (w : Int32) (x0 : Int32) (hok : sd = true → za_like Tg Co Rw lr Kd kc) : Met ln zm_X_reach (Cond.code zm_X_reach zo_X_reach 3 (some .int) :: zb_big) zr_X_reach (za_Pw D vwCl [(cI, .int), (cZ, .boolean)] [.ref aX, .int w, .int x0] [(aX, .inr (4, [.ref aN, .ref aL, .ref aV, .ref aG])), (aL, .inr (1, [.ref aN, .ref aR, .ref aU, .ref aK, .int (nI lr), .int (nI kc), .int (za_bi sd)])), (aR, .inl (cI, 576, .inl Rw)), (aU, .inl (cI, 96, .inl Un)), (aK, .inl (cI, 24, .inl Kd)), (aN, .inr (0, [.ref aT, .ref aC, .int ct])), (aT, .inl (cI, 96, .inl Tg)), (aC, .inl (cI, 24, .inl Co))] sz) (va_Qi (fun (r : Int32) (u : (Nat → Int32) × (Nat → Int32) × (Nat → Int32) × Nat × Nat × Bool) => r = (if za_isL x0 = true then za_rv Tg Co w (za_clp x0) else nI 0) ∧ (u.2.2.2.2.2 = true → za_like Tg Co u.1 u.2.2.2.1 u.2.2.1 u.2.2.2.2.1)) (za_B D vwCl [(aX, .inr (4, [.ref aN, .ref aL, .ref aV, .ref aG])), (aL, .inr (1, [.ref aN, .ref aR, .ref aU, .ref aK, .int (nI lr), .int (nI kc), .int (za_bi sd)])), (aR, .inl (cI, 576, .inl Rw)), (aU, .inl (cI, 96, .inl Un)), (aK, .inl (cI, 24, .inl Kd)), (aN, .inr (0, [.ref aT, .ref aC, .int ct])), (aT, .inl (cI, 96, .inl Tg)), (aC, .inl (cI, 24, .inl Co))] sz (fun (u : (Nat → Int32) × (Nat → Int32) × (Nat → Int32) × Nat × Nat × Bool) => [(aX, .inr (4, [.ref aN, .ref aL, .ref aV, .ref aG])), (aL, .inr (1, [.ref aN, .ref aR, .ref aU, .ref aK, .int (nI u.2.2.2.1), .int (nI u.2.2.2.2.1), .int (za_bi u.2.2.2.2.2)])), (aR, .inl (cI, 576, .inl u.1)), (aU, .inl (cI, 96, .inl u.2.1)), (aK, .inl (cI, 24, .inl u.2.2.1)), (aN, .inr (0, [.ref aT, .ref aC, .int ct])), (aT, .inl (cI, 96, .inl Tg)), (aC, .inl (cI, 24, .inl Co))])) (va_A [(aX, .inr (4, [.ref aN, .ref aL, .ref aV, .ref aG])), (aL, .inr (1, [.ref aN, .ref aR, .ref aU, .ref aK, .int (nI lr), .int (nI kc), .int (za_bi sd)])), (aR, .inl (cI, 576, .inl Rw)), (aU, .inl (cI, 96, .inl Un)), (aK, .inl (cI, 24, .inl Kd)), (aN, .inr (0, [.ref aT, .ref aC, .int ct])), (aT, .inl (cI, 96, .inl Tg)), (aC, .inl (cI, 24, .inl Co))] sz)) 0 0 (va_A [(aX, .inr (4, [.ref aN, .ref aL, .ref aV, .ref aG])), (aL, .inr (1, [.ref aN, .ref aR, .ref aU, .ref aK, .int (nI lr), .int (nI kc), .int (za_bi sd)])), (aR, .inl (cI, 576, .inl Rw)), (aU, .inl (cI, 96, .inl Un)), (aK, .inl (cI, 24, .inl Kd)), (aN, .inr (0, [.ref aT, .ref aC, .int ct])), (aT, .inl (cI, 96, .inl Tg)), (aC, .inl (cI, 24, .inl Co))] sz) := by
  refine za_wi (cc := zo_X_reach) (maxL := 3) (ty := .int) (by decide) (Nat.le_of_ble_eq_true rfl) (fun _ _ _ => rfl) ?_
  intro p e sg m args below meth c H0 A Q hx hb hml hts hown hmn hP hK hN hD hA hS hret ls hl
  have hP : va_P D vwCl [(aX, .inr (4, [.ref aN, .ref aL, .ref aV, .ref aG])), (aL, .inr (1, [.ref aN, .ref aR, .ref aU, .ref aK, .int (nI lr), .int (nI kc), .int (za_bi sd)])), (aR, .inl (cI, 576, .inl Rw)), (aU, .inl (cI, 96, .inl Un)), (aK, .inl (cI, 24, .inl Kd)), (aN, .inr (0, [.ref aT, .ref aC, .int ct])), (aT, .inl (cI, 96, .inl Tg)), (aC, .inl (cI, 24, .inl Co))] H0 := hP
  have hD : va_D A [(aX, .inr (4, [.ref aN, .ref aL, .ref aV, .ref aG])), (aL, .inr (1, [.ref aN, .ref aR, .ref aU, .ref aK, .int (nI lr), .int (nI kc), .int (za_bi sd)])), (aR, .inl (cI, 576, .inl Rw)), (aU, .inl (cI, 96, .inl Un)), (aK, .inl (cI, 24, .inl Kd)), (aN, .inr (0, [.ref aT, .ref aC, .int ct])), (aT, .inl (cI, 96, .inl Tg)), (aC, .inl (cI, 24, .inl Co))] := hD
  have hl : lv_has ls 3 [(0, .ref aX), (1, .int w), (2, .int x0)] := hl
  refine lv_iload_n hx hb zd_X_reach_0 rfl (lv_at hl 2 rfl) ?_
  refine za_cS (As := [.int x0]) (rest := []) ⟨hx, hb, hml, hown, hts⟩ (zc_X_isLabel ln D cI cZ x0 ) (za_gS 1 hts zw_165 zw_166 zw_35 zw_167 (by decide +kernel) ⟨Nat.le_of_ble_eq_true rfl, Nat.le_of_ble_eq_true rfl⟩) hK hN hP [] rfl hl rfl rfl (Nat.le_of_ble_eq_true rfl) zd_X_reach_1 ⟨Nat.le_of_ble_eq_true rfl, Nat.le_of_ble_eq_true rfl⟩ ?_
  refine lv_if_eq hx hb (tgt := 19) zd_X_reach_4 (by decide) (fun h4 => ?_) (fun h4 => ?_)
  · have h4 := za_bF h4
    refine lv_iconst (v := nI 0) hx hb zd_X_reach_19 (by decide) ?_
    have hP9 : va_P D vwCl [(aX, .inr (4, [.ref aN, .ref aL, .ref aV, .ref aG])), (aL, .inr (1, [.ref aN, .ref aR, .ref aU, .ref aK, .int (nI lr), .int (nI kc), .int (za_bi sd)])), (aR, .inl (cI, 576, .inl Rw)), (aU, .inl (cI, 96, .inl Un)), (aK, .inl (cI, 24, .inl Kd)), (aN, .inr (0, [.ref aT, .ref aC, .int ct])), (aT, .inl (cI, 96, .inl Tg)), (aC, .inl (cI, 24, .inl Co))] H0 := hP
    have hD9 : va_D A [(aX, .inr (4, [.ref aN, .ref aL, .ref aV, .ref aG])), (aL, .inr (1, [.ref aN, .ref aR, .ref aU, .ref aK, .int (nI lr), .int (nI kc), .int (za_bi sd)])), (aR, .inl (cI, 576, .inl Rw)), (aU, .inl (cI, 96, .inl Un)), (aK, .inl (cI, 24, .inl Kd)), (aN, .inr (0, [.ref aT, .ref aC, .int ct])), (aT, .inl (cI, 96, .inl Tg)), (aC, .inl (cI, 24, .inl Co))] := hD
    have hQ9 : (nI 0) = (if za_isL x0 = true then za_rv Tg Co w (za_clp x0) else nI 0) ∧ (sd = true → za_like Tg Co Rw lr Kd kc) := by first | exact ⟨by rw [h4]; rfl, hok⟩ | exact ⟨by rw [if_pos h4, hx9, za_clL hl0]; exact za_kr_congr hq8.2.2.2.1 (Nat.le_refl _), fun _ => hq8⟩
    exact hret _ ⟨Rw, Un, Kd, lr, kc, sd⟩ _ _ _ _ (hQ9) hP9 hD9 hS zd_X_reach_20
  · have h4 := za_bT h4
    obtain ⟨l, hl0, hx9⟩ := za_isL_of h4
    have hl : lv_has ls 3 [(0, .ref aX), (1, .int w), (2, .int (nI l))] := by rw [← hx9]; exact hl
    refine lv_aload_n hx hb zd_X_reach_7 rfl (lv_at hl 0 rfl) ?_
    refine za_wVr (As := []) (rest := []) (wr := []) (wz := (fun u => [(aX, .inr (4, [.ref aN, .ref aL, .ref aV, .ref aG])), (aL, .inr (1, [.ref aN, .ref aR, .ref aU, .ref aK, .int (nI u.2.2.2.1), .int (nI u.2.2.2.2), .int (za_bi true)])), (aR, .inl (cI, 576, .inl u.1)), (aU, .inl (cI, 96, .inl u.2.1)), (aK, .inl (cI, 24, .inl u.2.2.1)), (aN, .inr (0, [.ref aT, .ref aC, .int ct])), (aT, .inl (cI, 96, .inl Tg)), (aC, .inl (cI, 24, .inl Co))])) ⟨hx, hb, hml, hown, hts⟩ (zc_X_settledLikeness ln D cI cZ _ aX aV aG aL aN aR aU aK lr kc sd aT aC ct Tg Co Rw Un Kd (by exact hok)) (za_gV 0 hts zw_231 zw_233 zw_1 zw_35 zw_234 (by decide +kernel) ⟨Nat.le_of_ble_eq_true rfl, Nat.le_of_ble_eq_true rfl⟩) hK hN hP hD hS hA [0, 1, 2, 3, 4, 5, 6, 7] [] [0, 1, 2, 3, 4, 5, 6, 7] rfl rfl (by decide) (by decide) (by decide) (by decide) (fun _ => rfl) (q0 := 0) rfl rfl hl rfl rfl (Nat.le_of_ble_eq_true rfl) zd_X_reach_8 ⟨Nat.le_of_ble_eq_true rfl, Nat.le_of_ble_eq_true rfl⟩ (fun u8 H locs hq8 hP hD hS => ?_)
    obtain ⟨Rw1_8, Un1_8, Kd1_8, lr1_8, kc1_8⟩ := u8
    have hP : va_P D vwCl [(aX, .inr (4, [.ref aN, .ref aL, .ref aV, .ref aG])), (aL, .inr (1, [.ref aN, .ref aR, .ref aU, .ref aK, .int (nI lr1_8), .int (nI kc1_8), .int (za_bi true)])), (aR, .inl (cI, 576, .inl Rw1_8)), (aU, .inl (cI, 96, .inl Un1_8)), (aK, .inl (cI, 24, .inl Kd1_8)), (aN, .inr (0, [.ref aT, .ref aC, .int ct])), (aT, .inl (cI, 96, .inl Tg)), (aC, .inl (cI, 24, .inl Co))] H := hP
    have hD : va_D A [(aX, .inr (4, [.ref aN, .ref aL, .ref aV, .ref aG])), (aL, .inr (1, [.ref aN, .ref aR, .ref aU, .ref aK, .int (nI lr1_8), .int (nI kc1_8), .int (za_bi true)])), (aR, .inl (cI, 576, .inl Rw1_8)), (aU, .inl (cI, 96, .inl Un1_8)), (aK, .inl (cI, 24, .inl Kd1_8)), (aN, .inr (0, [.ref aT, .ref aC, .int ct])), (aT, .inl (cI, 96, .inl Tg)), (aC, .inl (cI, 24, .inl Co))] := hD
    have hq8 : za_like Tg Co Rw1_8 lr1_8 Kd1_8 kc1_8 := hq8
    refine lv_iload_n hx hb zd_X_reach_11 rfl (lv_at hl 1 rfl) ?_
    refine lv_iload_n hx hb zd_X_reach_12 rfl (lv_at hl 2 rfl) ?_
    refine za_cV (As := [.int w, .int (nI l)]) (rest := []) ⟨hx, hb, hml, hown, hts⟩ (zc_L_kindsReached ln D cI cZ aL aN aR aU aK lr1_8 kc1_8 true aT aC ct Tg Kd1_8 w l (by omega)) (za_gV 2 hts zw_315 zw_316 zw_317 zw_37 zw_318 (by decide +kernel) ⟨Nat.le_of_ble_eq_true rfl, Nat.le_of_ble_eq_true rfl⟩) hK hN hP [1, 4, 5, 6] rfl (q0 := 1) rfl rfl hl rfl rfl (Nat.le_of_ble_eq_true rfl) zd_X_reach_13 ⟨Nat.le_of_ble_eq_true rfl, Nat.le_of_ble_eq_true rfl⟩ ?_
    refine lv_goto hx hb (tgt := 20) zd_X_reach_16 (by decide) ?_
    have hP9 : va_P D vwCl [(aX, .inr (4, [.ref aN, .ref aL, .ref aV, .ref aG])), (aL, .inr (1, [.ref aN, .ref aR, .ref aU, .ref aK, .int (nI lr1_8), .int (nI kc1_8), .int (za_bi true)])), (aR, .inl (cI, 576, .inl Rw1_8)), (aU, .inl (cI, 96, .inl Un1_8)), (aK, .inl (cI, 24, .inl Kd1_8)), (aN, .inr (0, [.ref aT, .ref aC, .int ct])), (aT, .inl (cI, 96, .inl Tg)), (aC, .inl (cI, 24, .inl Co))] H := hP
    have hD9 : va_D A [(aX, .inr (4, [.ref aN, .ref aL, .ref aV, .ref aG])), (aL, .inr (1, [.ref aN, .ref aR, .ref aU, .ref aK, .int (nI lr1_8), .int (nI kc1_8), .int (za_bi true)])), (aR, .inl (cI, 576, .inl Rw1_8)), (aU, .inl (cI, 96, .inl Un1_8)), (aK, .inl (cI, 24, .inl Kd1_8)), (aN, .inr (0, [.ref aT, .ref aC, .int ct])), (aT, .inl (cI, 96, .inl Tg)), (aC, .inl (cI, 24, .inl Co))] := hD
    have hQ9 : (za_kr w l Tg Kd1_8 24) = (if za_isL x0 = true then za_rv Tg Co w (za_clp x0) else nI 0) ∧ (true = true → za_like Tg Co Rw1_8 lr1_8 Kd1_8 kc1_8) := by first | exact ⟨by rw [h4]; rfl, hok⟩ | exact ⟨by rw [if_pos h4, hx9, za_clL hl0]; exact za_kr_congr hq8.2.2.2.1 (Nat.le_refl _), fun _ => hq8⟩
    exact hret _ ⟨Rw1_8, Un1_8, Kd1_8, lr1_8, kc1_8, true⟩ _ _ _ _ (hQ9) hP9 hD9 hS zd_X_reach_20
def zr_X_settledCover : Room := { frames := 5, cells := 0, slots := 0, locals := 114 }
set_option maxHeartbeats 4000000 in
set_option maxRecDepth 100000 in
theorem zc_X_settledCover (ln : Launch) (D : va_G) (cI cZ : ClassId) (sz : Nat) (aX : Nat) (aV : Nat) (aG : Nat) (aL : Nat) (aN : Nat) (aB : Nat) (aW : Nat) (sc : Bool) (aT : Nat) (aC : Nat) (ct : Int32) (Tg : Nat → Int32) (Co : Nat → Int32) (Bl : Nat → Int32) (Uc : Nat → Int32) (hsm : za_small Tg) (hok : sc = true → za_cov Tg Co Bl) : Met ln zm_X_settledCover (Cond.code zm_X_settledCover zo_X_settledCover 1 (some (.object "AlikeStates$Cover")) :: zb_big) zr_X_settledCover (za_Pw D vwCl [(cI, .int), (cZ, .boolean)] [.ref aX] [(aX, .inr (4, [.ref aN, .ref aL, .ref aV, .ref aG])), (aV, .inr (2, [.ref aN, .ref aB, .ref aW, .int (za_bi sc)])), (aB, .inl (cI, 24, .inl Bl)), (aW, .inl (cI, 96, .inl Uc)), (aN, .inr (0, [.ref aT, .ref aC, .int ct])), (aT, .inl (cI, 96, .inl Tg)), (aC, .inl (cI, 24, .inl Co))] sz) (va_Qr (fun (u : (Nat → Int32) × (Nat → Int32)) => za_cov Tg Co u.1) (za_Br D vwCl [(aX, .inr (4, [.ref aN, .ref aL, .ref aV, .ref aG])), (aV, .inr (2, [.ref aN, .ref aB, .ref aW, .int (za_bi sc)])), (aB, .inl (cI, 24, .inl Bl)), (aW, .inl (cI, 96, .inl Uc)), (aN, .inr (0, [.ref aT, .ref aC, .int ct])), (aT, .inl (cI, 96, .inl Tg)), (aC, .inl (cI, 24, .inl Co))] sz aV (fun (u : (Nat → Int32) × (Nat → Int32)) => [(aX, .inr (4, [.ref aN, .ref aL, .ref aV, .ref aG])), (aV, .inr (2, [.ref aN, .ref aB, .ref aW, .int (za_bi true)])), (aB, .inl (cI, 24, .inl u.1)), (aW, .inl (cI, 96, .inl u.2)), (aN, .inr (0, [.ref aT, .ref aC, .int ct])), (aT, .inl (cI, 96, .inl Tg)), (aC, .inl (cI, 24, .inl Co))])) (va_A [(aX, .inr (4, [.ref aN, .ref aL, .ref aV, .ref aG])), (aV, .inr (2, [.ref aN, .ref aB, .ref aW, .int (za_bi sc)])), (aB, .inl (cI, 24, .inl Bl)), (aW, .inl (cI, 96, .inl Uc)), (aN, .inr (0, [.ref aT, .ref aC, .int ct])), (aT, .inl (cI, 96, .inl Tg)), (aC, .inl (cI, 24, .inl Co))] sz)) 0 0 (va_A [(aX, .inr (4, [.ref aN, .ref aL, .ref aV, .ref aG])), (aV, .inr (2, [.ref aN, .ref aB, .ref aW, .int (za_bi sc)])), (aB, .inl (cI, 24, .inl Bl)), (aW, .inl (cI, 96, .inl Uc)), (aN, .inr (0, [.ref aT, .ref aC, .int ct])), (aT, .inl (cI, 96, .inl Tg)), (aC, .inl (cI, 24, .inl Co))] sz) := by
  refine za_wr (cc := zo_X_settledCover) (maxL := 1) (by decide) (Nat.le_of_ble_eq_true rfl) ?_
  intro p e sg m args below meth c H0 A Q hx hb hml hts hown hmn hP hK hN hD hA hS hret ls hl
  have hP : va_P D vwCl [(aX, .inr (4, [.ref aN, .ref aL, .ref aV, .ref aG])), (aV, .inr (2, [.ref aN, .ref aB, .ref aW, .int (za_bi sc)])), (aB, .inl (cI, 24, .inl Bl)), (aW, .inl (cI, 96, .inl Uc)), (aN, .inr (0, [.ref aT, .ref aC, .int ct])), (aT, .inl (cI, 96, .inl Tg)), (aC, .inl (cI, 24, .inl Co))] H0 := hP
  have hD : va_D A [(aX, .inr (4, [.ref aN, .ref aL, .ref aV, .ref aG])), (aV, .inr (2, [.ref aN, .ref aB, .ref aW, .int (za_bi sc)])), (aB, .inl (cI, 24, .inl Bl)), (aW, .inl (cI, 96, .inl Uc)), (aN, .inr (0, [.ref aT, .ref aC, .int ct])), (aT, .inl (cI, 96, .inl Tg)), (aC, .inl (cI, 24, .inl Co))] := hD
  have hl : lv_has ls 1 [(0, .ref aX)] := hl
  have hf28 := hts _ zw_141
  refine lv_aload_n hx hb zd_X_settledCover_0 rfl (lv_at hl 0 rfl) ?_
  refine va_get (D := D) (ci := 4) (v := .ref aV) (C := zs_X) (T := zt_X) (N := 4) hx hb hts zi_X hown hK hP 0 rfl rfl 2 (by decide) hf28 (fun _ h9 => h9) rfl zd_X_settledCover_1 ?_
  refine za_wVv (As := []) (rest := []) (wr := [(aX, .inr (4, [.ref aN, .ref aL, .ref aV, .ref aG]))]) (wz := (fun u => [(aX, .inr (4, [.ref aN, .ref aL, .ref aV, .ref aG])), (aV, .inr (2, [.ref aN, .ref aB, .ref aW, .int (za_bi true)])), (aB, .inl (cI, 24, .inl u.1)), (aW, .inl (cI, 96, .inl u.2)), (aN, .inr (0, [.ref aT, .ref aC, .int ct])), (aT, .inl (cI, 96, .inl Tg)), (aC, .inl (cI, 24, .inl Co))])) ⟨hx, hb, hml, hown, hts⟩ (zc_C_settle ln D cI cZ _ aV aN aB aW sc aT aC ct Tg Co Bl Uc (by exact hsm) (by exact hok)) (za_gV 0 hts zw_347 zw_348 zw_349 zw_38 zw_350 (by decide +kernel) ⟨Nat.le_of_ble_eq_true rfl, Nat.le_of_ble_eq_true rfl⟩) hK hN hP hD hS hA [1, 2, 3, 4, 5, 6] [0] [0, 1, 2, 3, 4, 5, 6] rfl rfl (by decide) (by decide) (by decide) (by decide) (fun _ => rfl) (q0 := 1) rfl rfl hl rfl rfl (Nat.le_of_ble_eq_true rfl) zd_X_settledCover_4 ⟨Nat.le_of_ble_eq_true rfl, Nat.le_of_ble_eq_true rfl⟩ (fun u4 H locs hq4 hP hD hS => ?_)
  obtain ⟨Bl1_4, Uc1_4⟩ := u4
  have hP : va_P D vwCl [(aX, .inr (4, [.ref aN, .ref aL, .ref aV, .ref aG])), (aV, .inr (2, [.ref aN, .ref aB, .ref aW, .int (za_bi true)])), (aB, .inl (cI, 24, .inl Bl1_4)), (aW, .inl (cI, 96, .inl Uc1_4)), (aN, .inr (0, [.ref aT, .ref aC, .int ct])), (aT, .inl (cI, 96, .inl Tg)), (aC, .inl (cI, 24, .inl Co))] H := hP
  have hD : va_D A [(aX, .inr (4, [.ref aN, .ref aL, .ref aV, .ref aG])), (aV, .inr (2, [.ref aN, .ref aB, .ref aW, .int (za_bi true)])), (aB, .inl (cI, 24, .inl Bl1_4)), (aW, .inl (cI, 96, .inl Uc1_4)), (aN, .inr (0, [.ref aT, .ref aC, .int ct])), (aT, .inl (cI, 96, .inl Tg)), (aC, .inl (cI, 24, .inl Co))] := hD
  have hq4 : za_cov Tg Co Bl1_4 := hq4
  refine lv_aload_n hx hb zd_X_settledCover_7 rfl (lv_at hl 0 rfl) ?_
  refine va_get (D := D) (ci := 4) (v := .ref aV) (C := zs_X) (T := zt_X) (N := 4) hx hb hts zi_X hown hK hP 0 rfl rfl 2 (by decide) hf28 (fun _ h9 => h9) rfl zd_X_settledCover_8 ?_
  have hP9 : va_P D vwCl [(aX, .inr (4, [.ref aN, .ref aL, .ref aV, .ref aG])), (aV, .inr (2, [.ref aN, .ref aB, .ref aW, .int (za_bi true)])), (aB, .inl (cI, 24, .inl Bl1_4)), (aW, .inl (cI, 96, .inl Uc1_4)), (aN, .inr (0, [.ref aT, .ref aC, .int ct])), (aT, .inl (cI, 96, .inl Tg)), (aC, .inl (cI, 24, .inl Co))] H := hP
  have hD9 : va_D A [(aX, .inr (4, [.ref aN, .ref aL, .ref aV, .ref aG])), (aV, .inr (2, [.ref aN, .ref aB, .ref aW, .int (za_bi true)])), (aB, .inl (cI, 24, .inl Bl1_4)), (aW, .inl (cI, 96, .inl Uc1_4)), (aN, .inr (0, [.ref aT, .ref aC, .int ct])), (aT, .inl (cI, 96, .inl Tg)), (aC, .inl (cI, 24, .inl Co))] := hD
  have hQ9 : za_cov Tg Co Bl1_4 := by exact hq4
  exact hret ⟨Bl1_4, Uc1_4⟩ _ _ _ _ (hQ9) hP9 hD9 hS zd_X_settledCover_11
def zr_X_covers : Room := { frames := 6, cells := 0, slots := 0, locals := 134 }
set_option maxHeartbeats 4000000 in
set_option maxRecDepth 100000 in
theorem zc_X_covers (ln : Launch) (D : va_G) (cI cZ : ClassId) (sz : Nat) (aX : Nat) (aV : Nat) (aG : Nat) (aL : Nat) (aN : Nat) (aB : Nat) (aW : Nat) (sc : Bool) (aT : Nat) (aC : Nat) (ct : Int32) (Tg : Nat → Int32) (Co : Nat → Int32) (Bl : Nat → Int32) (Uc : Nat → Int32) (w : Int32) (v : Int32) (hsm : za_small Tg) (hok : sc = true → za_cov Tg Co Bl) : Met ln zm_X_covers (Cond.code zm_X_covers zo_X_covers 3 (some .boolean) :: zb_big) zr_X_covers (za_Pw D vwCl [(cI, .int), (cZ, .boolean)] [.ref aX, .int w, .int v] [(aX, .inr (4, [.ref aN, .ref aL, .ref aV, .ref aG])), (aV, .inr (2, [.ref aN, .ref aB, .ref aW, .int (za_bi sc)])), (aB, .inl (cI, 24, .inl Bl)), (aW, .inl (cI, 96, .inl Uc)), (aN, .inr (0, [.ref aT, .ref aC, .int ct])), (aT, .inl (cI, 96, .inl Tg)), (aC, .inl (cI, 24, .inl Co))] sz) (va_Qi (fun (r : Int32) (u : (Nat → Int32) × (Nat → Int32) × Bool) => r = za_bi ((za_isS w && za_isS v) && za_cv Tg Co 576 (za_clp w) (za_clp v)) ∧ (u.2.2 = true → za_cov Tg Co u.1)) (za_B D vwCl [(aX, .inr (4, [.ref aN, .ref aL, .ref aV, .ref aG])), (aV, .inr (2, [.ref aN, .ref aB, .ref aW, .int (za_bi sc)])), (aB, .inl (cI, 24, .inl Bl)), (aW, .inl (cI, 96, .inl Uc)), (aN, .inr (0, [.ref aT, .ref aC, .int ct])), (aT, .inl (cI, 96, .inl Tg)), (aC, .inl (cI, 24, .inl Co))] sz (fun (u : (Nat → Int32) × (Nat → Int32) × Bool) => [(aX, .inr (4, [.ref aN, .ref aL, .ref aV, .ref aG])), (aV, .inr (2, [.ref aN, .ref aB, .ref aW, .int (za_bi u.2.2)])), (aB, .inl (cI, 24, .inl u.1)), (aW, .inl (cI, 96, .inl u.2.1)), (aN, .inr (0, [.ref aT, .ref aC, .int ct])), (aT, .inl (cI, 96, .inl Tg)), (aC, .inl (cI, 24, .inl Co))])) (va_A [(aX, .inr (4, [.ref aN, .ref aL, .ref aV, .ref aG])), (aV, .inr (2, [.ref aN, .ref aB, .ref aW, .int (za_bi sc)])), (aB, .inl (cI, 24, .inl Bl)), (aW, .inl (cI, 96, .inl Uc)), (aN, .inr (0, [.ref aT, .ref aC, .int ct])), (aT, .inl (cI, 96, .inl Tg)), (aC, .inl (cI, 24, .inl Co))] sz)) 0 0 (va_A [(aX, .inr (4, [.ref aN, .ref aL, .ref aV, .ref aG])), (aV, .inr (2, [.ref aN, .ref aB, .ref aW, .int (za_bi sc)])), (aB, .inl (cI, 24, .inl Bl)), (aW, .inl (cI, 96, .inl Uc)), (aN, .inr (0, [.ref aT, .ref aC, .int ct])), (aT, .inl (cI, 96, .inl Tg)), (aC, .inl (cI, 24, .inl Co))] sz) := by
  refine za_wi (cc := zo_X_covers) (maxL := 3) (ty := .boolean) (by decide) (Nat.le_of_ble_eq_true rfl) (fun _ _ h => by rw [h.1]; exact za_nar _) ?_
  intro p e sg m args below meth c H0 A Q hx hb hml hts hown hmn hP hK hN hD hA hS hret ls hl
  have hP : va_P D vwCl [(aX, .inr (4, [.ref aN, .ref aL, .ref aV, .ref aG])), (aV, .inr (2, [.ref aN, .ref aB, .ref aW, .int (za_bi sc)])), (aB, .inl (cI, 24, .inl Bl)), (aW, .inl (cI, 96, .inl Uc)), (aN, .inr (0, [.ref aT, .ref aC, .int ct])), (aT, .inl (cI, 96, .inl Tg)), (aC, .inl (cI, 24, .inl Co))] H0 := hP
  have hD : va_D A [(aX, .inr (4, [.ref aN, .ref aL, .ref aV, .ref aG])), (aV, .inr (2, [.ref aN, .ref aB, .ref aW, .int (za_bi sc)])), (aB, .inl (cI, 24, .inl Bl)), (aW, .inl (cI, 96, .inl Uc)), (aN, .inr (0, [.ref aT, .ref aC, .int ct])), (aT, .inl (cI, 96, .inl Tg)), (aC, .inl (cI, 24, .inl Co))] := hD
  have hl : lv_has ls 3 [(0, .ref aX), (1, .int w), (2, .int v)] := hl
  refine lv_iload_n hx hb zd_X_covers_0 rfl (lv_at hl 1 rfl) ?_
  refine lv_iload_n hx hb zd_X_covers_1 rfl (lv_at hl 2 rfl) ?_
  refine za_cS (As := [.int w, .int v]) (rest := []) ⟨hx, hb, hml, hown, hts⟩ (zc_X_areStates ln D cI cZ w v ) (za_gS 2 hts zw_159 zw_160 zw_35 zw_161 (by decide +kernel) ⟨Nat.le_of_ble_eq_true rfl, Nat.le_of_ble_eq_true rfl⟩) hK hN hP [] rfl hl rfl rfl (Nat.le_of_ble_eq_true rfl) zd_X_covers_2 ⟨Nat.le_of_ble_eq_true rfl, Nat.le_of_ble_eq_true rfl⟩ ?_
  refine lv_if_eq hx hb (tgt := 27) zd_X_covers_5 (by decide) (fun h5 => ?_) (fun h5 => ?_)
  · have h5 := za_bF h5
    refine lv_iconst (v := nI 0) hx hb zd_X_covers_27 (by decide) ?_
    have hP9 : va_P D vwCl [(aX, .inr (4, [.ref aN, .ref aL, .ref aV, .ref aG])), (aV, .inr (2, [.ref aN, .ref aB, .ref aW, .int (za_bi sc)])), (aB, .inl (cI, 24, .inl Bl)), (aW, .inl (cI, 96, .inl Uc)), (aN, .inr (0, [.ref aT, .ref aC, .int ct])), (aT, .inl (cI, 96, .inl Tg)), (aC, .inl (cI, 24, .inl Co))] H0 := hP
    have hD9 : va_D A [(aX, .inr (4, [.ref aN, .ref aL, .ref aV, .ref aG])), (aV, .inr (2, [.ref aN, .ref aB, .ref aW, .int (za_bi sc)])), (aB, .inl (cI, 24, .inl Bl)), (aW, .inl (cI, 96, .inl Uc)), (aN, .inr (0, [.ref aT, .ref aC, .int ct])), (aT, .inl (cI, 96, .inl Tg)), (aC, .inl (cI, 24, .inl Co))] := hD
    have hQ9 : (nI 0) = za_bi ((za_isS w && za_isS v) && za_cv Tg Co 576 (za_clp w) (za_clp v)) ∧ (sc = true → za_cov Tg Co Bl) := by first | exact ⟨za_b0 (by rw [h5, Bool.false_and]), hok⟩ | exact ⟨za_b1 (by rw [h5, hw, hv9, za_clS hs0, za_clS ht0, h20]; rfl), fun _ => hq9⟩ | exact ⟨za_b0 (by rw [hw, hv9, za_clS hs0, za_clS ht0, h20, Bool.and_false]), fun _ => hq9⟩
    exact hret _ ⟨Bl, Uc, sc⟩ _ _ _ _ (hQ9) hP9 hD9 hS zd_X_covers_28
  · have h5 := za_bT h5
    obtain ⟨⟨s, hs0, hw⟩, t, ht0, hv9⟩ := za_isSS_of h5
    have hl : lv_has ls 3 [(0, .ref aX), (1, .int (nI s)), (2, .int v)] := by rw [← hw]; exact hl
    have hl : lv_has ls 3 [(0, .ref aX), (1, .int (nI s)), (2, .int (nI t))] := by rw [← hv9]; exact hl
    refine lv_aload_n hx hb zd_X_covers_8 rfl (lv_at hl 0 rfl) ?_
    refine za_wVr (As := []) (rest := []) (wr := []) (wz := (fun u => [(aX, .inr (4, [.ref aN, .ref aL, .ref aV, .ref aG])), (aV, .inr (2, [.ref aN, .ref aB, .ref aW, .int (za_bi true)])), (aB, .inl (cI, 24, .inl u.1)), (aW, .inl (cI, 96, .inl u.2)), (aN, .inr (0, [.ref aT, .ref aC, .int ct])), (aT, .inl (cI, 96, .inl Tg)), (aC, .inl (cI, 24, .inl Co))])) ⟨hx, hb, hml, hown, hts⟩ (zc_X_settledCover ln D cI cZ _ aX aV aG aL aN aB aW sc aT aC ct Tg Co Bl Uc (by exact hsm) (by exact hok)) (za_gV 0 hts zw_343 zw_345 zw_9 zw_35 zw_346 (by decide +kernel) ⟨Nat.le_of_ble_eq_true rfl, Nat.le_of_ble_eq_true rfl⟩) hK hN hP hD hS hA [0, 1, 2, 3, 4, 5, 6] [] [0, 1, 2, 3, 4, 5, 6] rfl rfl (by decide) (by decide) (by decide) (by decide) (fun _ => rfl) (q0 := 0) rfl rfl hl rfl rfl (Nat.le_of_ble_eq_true rfl) zd_X_covers_9 ⟨Nat.le_of_ble_eq_true rfl, Nat.le_of_ble_eq_true rfl⟩ (fun u9 H locs hq9 hP hD hS => ?_)
    obtain ⟨Bl1_9, Uc1_9⟩ := u9
    have hP : va_P D vwCl [(aX, .inr (4, [.ref aN, .ref aL, .ref aV, .ref aG])), (aV, .inr (2, [.ref aN, .ref aB, .ref aW, .int (za_bi true)])), (aB, .inl (cI, 24, .inl Bl1_9)), (aW, .inl (cI, 96, .inl Uc1_9)), (aN, .inr (0, [.ref aT, .ref aC, .int ct])), (aT, .inl (cI, 96, .inl Tg)), (aC, .inl (cI, 24, .inl Co))] H := hP
    have hD : va_D A [(aX, .inr (4, [.ref aN, .ref aL, .ref aV, .ref aG])), (aV, .inr (2, [.ref aN, .ref aB, .ref aW, .int (za_bi true)])), (aB, .inl (cI, 24, .inl Bl1_9)), (aW, .inl (cI, 96, .inl Uc1_9)), (aN, .inr (0, [.ref aT, .ref aC, .int ct])), (aT, .inl (cI, 96, .inl Tg)), (aC, .inl (cI, 24, .inl Co))] := hD
    have hq9 : za_cov Tg Co Bl1_9 := hq9
    refine lv_iload_n hx hb zd_X_covers_12 rfl (lv_at hl 1 rfl) ?_
    refine za_cV (As := [.int (nI s)]) (rest := []) ⟨hx, hb, hml, hown, hts⟩ (zc_C_belowOf ln D cI cZ aV aN aB aW true Bl1_9 s (by omega)) (za_gV 1 hts zw_367 zw_368 zw_369 zw_38 zw_370 (by decide +kernel) ⟨Nat.le_of_ble_eq_true rfl, Nat.le_of_ble_eq_true rfl⟩) hK hN hP [1, 2] rfl (q0 := 1) rfl rfl hl rfl rfl (Nat.le_of_ble_eq_true rfl) zd_X_covers_13 ⟨Nat.le_of_ble_eq_true rfl, Nat.le_of_ble_eq_true rfl⟩ ?_
    refine lv_iload_n hx hb zd_X_covers_16 rfl (lv_at hl 2 rfl) ?_
    refine za_cS (As := [.int (Bl1_9 s), .int (nI t)]) (rest := []) ⟨hx, hb, hml, hown, hts⟩ (zc_X_hasBit ln D cI cZ (Bl1_9 s) t (by omega)) (za_gS 2 hts zw_371 zw_177 zw_35 zw_178 (by decide +kernel) ⟨Nat.le_of_ble_eq_true rfl, Nat.le_of_ble_eq_true rfl⟩) hK hN hP [] rfl hl rfl rfl (Nat.le_of_ble_eq_true rfl) zd_X_covers_17 ⟨Nat.le_of_ble_eq_true rfl, Nat.le_of_ble_eq_true rfl⟩ ?_
    refine za_eqi (y := za_bi (za_cv Tg Co 576 s t)) (by rw [hq9 s hs0, za_mk_bit _ 24 (by omega), decide_eq_true ht0, Bool.true_and]) ?_
    refine lv_if_eq hx hb (tgt := 27) zd_X_covers_20 (by decide) (fun h20 => ?_) (fun h20 => ?_)
    · have h20 := za_bF h20
      refine lv_iconst (v := nI 0) hx hb zd_X_covers_27 (by decide) ?_
      have hP9 : va_P D vwCl [(aX, .inr (4, [.ref aN, .ref aL, .ref aV, .ref aG])), (aV, .inr (2, [.ref aN, .ref aB, .ref aW, .int (za_bi true)])), (aB, .inl (cI, 24, .inl Bl1_9)), (aW, .inl (cI, 96, .inl Uc1_9)), (aN, .inr (0, [.ref aT, .ref aC, .int ct])), (aT, .inl (cI, 96, .inl Tg)), (aC, .inl (cI, 24, .inl Co))] H := hP
      have hD9 : va_D A [(aX, .inr (4, [.ref aN, .ref aL, .ref aV, .ref aG])), (aV, .inr (2, [.ref aN, .ref aB, .ref aW, .int (za_bi true)])), (aB, .inl (cI, 24, .inl Bl1_9)), (aW, .inl (cI, 96, .inl Uc1_9)), (aN, .inr (0, [.ref aT, .ref aC, .int ct])), (aT, .inl (cI, 96, .inl Tg)), (aC, .inl (cI, 24, .inl Co))] := hD
      have hQ9 : (nI 0) = za_bi ((za_isS w && za_isS v) && za_cv Tg Co 576 (za_clp w) (za_clp v)) ∧ (true = true → za_cov Tg Co Bl1_9) := by first | exact ⟨za_b0 (by rw [h5, Bool.false_and]), hok⟩ | exact ⟨za_b1 (by rw [h5, hw, hv9, za_clS hs0, za_clS ht0, h20]; rfl), fun _ => hq9⟩ | exact ⟨za_b0 (by rw [hw, hv9, za_clS hs0, za_clS ht0, h20, Bool.and_false]), fun _ => hq9⟩
      exact hret _ ⟨Bl1_9, Uc1_9, true⟩ _ _ _ _ (hQ9) hP9 hD9 hS zd_X_covers_28
    · have h20 := za_bT h20
      refine lv_iconst (v := nI 1) hx hb zd_X_covers_23 (by decide) ?_
      refine lv_goto hx hb (tgt := 28) zd_X_covers_24 (by decide) ?_
      have hP9 : va_P D vwCl [(aX, .inr (4, [.ref aN, .ref aL, .ref aV, .ref aG])), (aV, .inr (2, [.ref aN, .ref aB, .ref aW, .int (za_bi true)])), (aB, .inl (cI, 24, .inl Bl1_9)), (aW, .inl (cI, 96, .inl Uc1_9)), (aN, .inr (0, [.ref aT, .ref aC, .int ct])), (aT, .inl (cI, 96, .inl Tg)), (aC, .inl (cI, 24, .inl Co))] H := hP
      have hD9 : va_D A [(aX, .inr (4, [.ref aN, .ref aL, .ref aV, .ref aG])), (aV, .inr (2, [.ref aN, .ref aB, .ref aW, .int (za_bi true)])), (aB, .inl (cI, 24, .inl Bl1_9)), (aW, .inl (cI, 96, .inl Uc1_9)), (aN, .inr (0, [.ref aT, .ref aC, .int ct])), (aT, .inl (cI, 96, .inl Tg)), (aC, .inl (cI, 24, .inl Co))] := hD
      have hQ9 : (nI 1) = za_bi ((za_isS w && za_isS v) && za_cv Tg Co 576 (za_clp w) (za_clp v)) ∧ (true = true → za_cov Tg Co Bl1_9) := by first | exact ⟨za_b0 (by rw [h5, Bool.false_and]), hok⟩ | exact ⟨za_b1 (by rw [h5, hw, hv9, za_clS hs0, za_clS ht0, h20]; rfl), fun _ => hq9⟩ | exact ⟨za_b0 (by rw [hw, hv9, za_clS hs0, za_clS ht0, h20, Bool.and_false]), fun _ => hq9⟩
      exact hret _ ⟨Bl1_9, Uc1_9, true⟩ _ _ _ _ (hQ9) hP9 hD9 hS zd_X_covers_28
end
section
def zr_G_countAttacks : Room := { frames := 3, cells := 0, slots := 0, locals := 73 }
set_option maxHeartbeats 4000000 in
set_option maxRecDepth 100000 in
theorem zc_G_countAttacks (ln : Launch) (D : va_G) (cI cZ : ClassId) (aG : Nat) (aN : Nat) (aL : Nat) (aS : Nat) (aM : Nat) (aA : Nat) (ln0 : Nat) (aT : Nat) (aC : Nat) (ct : Int32) (aR : Nat) (aU : Nat) (aK : Nat) (lr : Nat) (kc : Nat) (sd : Bool) (Tg : Nat → Int32) (Rw : Nat → Int32) (Co : Nat → Int32) (Kd : Nat → Int32) (s : Nat) (t : Nat) (hs0 : s < 24) (ht0 : t < 24) (hlk : za_like Tg Co Rw lr Kd kc) : Met ln zm_G_countAttacks (Cond.code zm_G_countAttacks zo_G_countAttacks 4 (some .int) :: zb_big) zr_G_countAttacks (za_Pr D vwCl [(cI, .int), (cZ, .boolean)] [.ref aG, .int (nI s), .int (nI t)] [(aG, .inr (3, [.ref aN, .ref aL, .ref aS, .ref aM, .ref aA, .int (nI ln0)])), (aN, .inr (0, [.ref aT, .ref aC, .int ct])), (aT, .inl (cI, 96, .inl Tg)), (aL, .inr (1, [.ref aN, .ref aR, .ref aU, .ref aK, .int (nI lr), .int (nI kc), .int (za_bi sd)])), (aR, .inl (cI, 576, .inl Rw))]) (vp_Si (fun r => r = za_ac Tg Co s t)) 0 0 (fun _ => False) := by
  refine za_reader (cc := zo_G_countAttacks) (maxL := 4) (ty := .int) (by decide) (Nat.le_of_ble_eq_true rfl) (fun _ _ => rfl) ?_
  intro p e sg m args below meth c H Q hx hb hml hts hown hP hK hN hret ls hl
  have hP : va_P D vwCl [(aG, .inr (3, [.ref aN, .ref aL, .ref aS, .ref aM, .ref aA, .int (nI ln0)])), (aN, .inr (0, [.ref aT, .ref aC, .int ct])), (aT, .inl (cI, 96, .inl Tg)), (aL, .inr (1, [.ref aN, .ref aR, .ref aU, .ref aK, .int (nI lr), .int (nI kc), .int (za_bi sd)])), (aR, .inl (cI, 576, .inl Rw))] H := hP
  have hl : lv_has ls 4 [(0, .ref aG), (1, .int (nI s)), (2, .int (nI t))] := hl
  have hf15 := hts _ zw_121
  refine lv_aload_n hx hb zd_G_countAttacks_0 rfl (lv_at hl 0 rfl) ?_
  refine va_get (D := D) (ci := 3) (v := .ref aL) (C := zs_G) (T := zt_G) (N := 6) hx hb hts zi_G hown hK hP 0 rfl rfl 1 (by decide) hf15 (fun _ h9 => h9) rfl zd_G_countAttacks_1 ?_
  refine lv_iload_n hx hb zd_G_countAttacks_4 rfl (lv_at hl 1 rfl) ?_
  refine lv_iload_n hx hb zd_G_countAttacks_5 rfl (lv_at hl 2 rfl) ?_
  refine za_cV (As := [.int (nI s), .int (nI t)]) (rest := []) ⟨hx, hb, hml, hown, hts⟩ (zc_L_breachOf ln D cI cZ aL aN aR aU aK lr kc sd Rw s t (by omega) (by omega) (by exact hlk.1)) (za_gV 2 hts zw_385 zw_280 zw_281 zw_37 zw_282 (by decide +kernel) ⟨Nat.le_of_ble_eq_true rfl, Nat.le_of_ble_eq_true rfl⟩) hK hN hP [3, 4] rfl (q0 := 3) rfl rfl hl rfl rfl (Nat.le_of_ble_eq_true rfl) zd_G_countAttacks_6 ⟨Nat.le_of_ble_eq_true rfl, Nat.le_of_ble_eq_true rfl⟩ ?_
  refine za_eqi (y := za_bv Tg Co s t) (za_bv_of hlk hs0 ht0) ?_
  refine lv_iconst (v := nI 1) hx hb zd_G_countAttacks_9 (by decide) ?_
  refine lv_isub hx hb zd_G_countAttacks_10 ?_
  refine lv_istore_n (lv' := [(3, .int ((za_bv Tg Co s t) - (nI 1))), (0, .ref aG), (1, .int (nI s)), (2, .int (nI t))]) hx hb zd_G_countAttacks_11 rfl hl (by decide) rfl (fun ls hl => ?_)
  refine lv_iload_n hx hb zd_G_countAttacks_12 rfl (lv_at hl 0 rfl) ?_
  refine lv_if_ge hx hb (tgt := 20) zd_G_countAttacks_13 (by decide) (fun h13 => ?_) (fun h13 => ?_)
  · skip
    obtain ⟨hp, hk1, hb24, hb0⟩ := za_bvk_t h13
    have hl : lv_has ls 4 [(3, .int (nI (za_bn Tg Co s t - 1))), (0, .ref aG), (1, .int (nI s)), (2, .int (nI t))] := by rw [← hk1]; exact hl
    refine lv_aload_n hx hb zd_G_countAttacks_20 rfl (lv_at hl 1 rfl) ?_
    refine lv_iload_n hx hb zd_G_countAttacks_21 rfl (lv_at hl 2 rfl) ?_
    refine lv_iload_n hx hb zd_G_countAttacks_22 rfl (lv_at hl 3 rfl) ?_
    refine lv_iload_n hx hb zd_G_countAttacks_23 rfl (lv_at hl 0 rfl) ?_
    refine za_cV (As := [.int (nI s), .int (nI t), .int (nI (za_bn Tg Co s t - 1))]) (rest := []) ⟨hx, hb, hml, hown, hts⟩ (zc_G_countOf ln D cI cZ aG aN aL aS aM aA ln0 aT aC ct aR aU aK lr kc sd Tg Rw s t (za_bn Tg Co s t - 1) (by omega) (by omega) (by omega)) (za_gV 3 hts zw_386 zw_388 zw_13 zw_39 zw_389 (by decide +kernel) ⟨Nat.le_of_ble_eq_true rfl, Nat.le_of_ble_eq_true rfl⟩) hK hN hP [0, 1, 2, 3, 4] rfl (q0 := 0) rfl rfl hl rfl rfl (Nat.le_of_ble_eq_true rfl) zd_G_countAttacks_24 ⟨Nat.le_of_ble_eq_true rfl, Nat.le_of_ble_eq_true rfl⟩ ?_
    refine lv_aload_n hx hb zd_G_countAttacks_27 rfl (lv_at hl 1 rfl) ?_
    refine lv_iload_n hx hb zd_G_countAttacks_28 rfl (lv_at hl 3 rfl) ?_
    refine lv_iload_n hx hb zd_G_countAttacks_29 rfl (lv_at hl 2 rfl) ?_
    refine lv_iload_n hx hb zd_G_countAttacks_30 rfl (lv_at hl 0 rfl) ?_
    refine za_cV (As := [.int (nI t), .int (nI s), .int (nI (za_bn Tg Co s t - 1))]) (rest := [.int (nI (za_cn (za_atm Tg Rw s t (za_bn Tg Co s t - 1)) 96))]) ⟨hx, hb, hml, hown, hts⟩ (zc_G_countOf ln D cI cZ aG aN aL aS aM aA ln0 aT aC ct aR aU aK lr kc sd Tg Rw t s (za_bn Tg Co s t - 1) (by omega) (by omega) (by omega)) (za_gV 3 hts zw_386 zw_388 zw_13 zw_39 zw_389 (by decide +kernel) ⟨Nat.le_of_ble_eq_true rfl, Nat.le_of_ble_eq_true rfl⟩) hK hN hP [0, 1, 2, 3, 4] rfl (q0 := 0) rfl rfl hl rfl rfl (Nat.le_of_ble_eq_true rfl) zd_G_countAttacks_31 ⟨Nat.le_of_ble_eq_true rfl, Nat.le_of_ble_eq_true rfl⟩ ?_
    refine za_addN hx hb zd_G_countAttacks_34 ?_
    exact hret _ _ _ (by first | with_reducible rfl | (first | exact za_ac_of hlk hs0 ht0 hp | (unfold za_ac; rw [za_bvk_f h13]; rfl))) zd_G_countAttacks_35
  · skip
    refine lv_iconst (v := nI 0) hx hb zd_G_countAttacks_16 (by decide) ?_
    refine lv_goto hx hb (tgt := 35) zd_G_countAttacks_17 (by decide) ?_
    exact hret _ _ _ (by first | with_reducible rfl | (first | exact za_ac_of hlk hs0 ht0 hp | (unfold za_ac; rw [za_bvk_f h13]; rfl))) zd_G_countAttacks_35
def zr_G_attackOnce : Room := { frames := 3, cells := 0, slots := 0, locals := 73 }
set_option maxHeartbeats 4000000 in
set_option maxRecDepth 100000 in
theorem zc_G_attackOnce (ln : Launch) (D : va_G) (cI cZ : ClassId) (sz : Nat) (aG : Nat) (aN : Nat) (aL : Nat) (aS : Nat) (aM : Nat) (aA : Nat) (ln0 : Nat) (aT : Nat) (aC : Nat) (ct : Int32) (aR : Nat) (aU : Nat) (aK : Nat) (lr : Nat) (kc : Nat) (sd : Bool) (Tg : Nat → Int32) (Rw : Nat → Int32) (Co : Nat → Int32) (Kd : Nat → Int32) (Sd : Nat → Int32) (Md : Nat → Int32) (An : Nat → Int32) (xx : Nat) (yy : Nat) (hx0 : xx < 24) (hy0 : yy < 24) (hS0 : Sd 0 = nI xx) (hS1 : Sd 1 = nI yy) (hln : ln0 < 24) (hlk : za_like Tg Co Rw lr Kd kc) : Met ln zm_G_attackOnce (Cond.code zm_G_attackOnce zo_G_attackOnce 5 (some .boolean) :: zb_big) zr_G_attackOnce (za_Pw D vwCl [(cI, .int), (cZ, .boolean)] [.ref aG] [(aG, .inr (3, [.ref aN, .ref aL, .ref aS, .ref aM, .ref aA, .int (nI ln0)])), (aN, .inr (0, [.ref aT, .ref aC, .int ct])), (aT, .inl (cI, 96, .inl Tg)), (aL, .inr (1, [.ref aN, .ref aR, .ref aU, .ref aK, .int (nI lr), .int (nI kc), .int (za_bi sd)])), (aR, .inl (cI, 576, .inl Rw)), (aS, .inl (cI, 2, .inl Sd)), (aM, .inl (cI, 24, .inl Md)), (aA, .inl (cI, 24, .inl An))] sz) (va_Qi (fun (r : Int32) (Sd1 : (Nat → Int32)) => r = za_bi (za_go Tg Co xx yy) ∧ (za_go Tg Co xx yy = true → Sd1 0 = nI (za_x1 Tg Co xx yy) ∧ Sd1 1 = nI (za_y1 Tg Co xx yy))) (za_B D vwCl [(aG, .inr (3, [.ref aN, .ref aL, .ref aS, .ref aM, .ref aA, .int (nI ln0)])), (aN, .inr (0, [.ref aT, .ref aC, .int ct])), (aT, .inl (cI, 96, .inl Tg)), (aL, .inr (1, [.ref aN, .ref aR, .ref aU, .ref aK, .int (nI lr), .int (nI kc), .int (za_bi sd)])), (aR, .inl (cI, 576, .inl Rw)), (aS, .inl (cI, 2, .inl Sd)), (aM, .inl (cI, 24, .inl Md)), (aA, .inl (cI, 24, .inl An))] sz (fun (Sd1 : (Nat → Int32)) => [(aG, .inr (3, [.ref aN, .ref aL, .ref aS, .ref aM, .ref aA, .int (nI (za_l1 Tg Co xx yy ln0))])), (aN, .inr (0, [.ref aT, .ref aC, .int ct])), (aT, .inl (cI, 96, .inl Tg)), (aL, .inr (1, [.ref aN, .ref aR, .ref aU, .ref aK, .int (nI lr), .int (nI kc), .int (za_bi sd)])), (aR, .inl (cI, 576, .inl Rw)), (aS, .inl (cI, 2, .inl Sd1)), (aM, .inl (cI, 24, .inl (za_M1 Tg Co xx yy ln0 Md))), (aA, .inl (cI, 24, .inl (za_A1 Tg Co xx yy ln0 An)))])) (va_A [(aG, .inr (3, [.ref aN, .ref aL, .ref aS, .ref aM, .ref aA, .int (nI ln0)])), (aN, .inr (0, [.ref aT, .ref aC, .int ct])), (aT, .inl (cI, 96, .inl Tg)), (aL, .inr (1, [.ref aN, .ref aR, .ref aU, .ref aK, .int (nI lr), .int (nI kc), .int (za_bi sd)])), (aR, .inl (cI, 576, .inl Rw)), (aS, .inl (cI, 2, .inl Sd)), (aM, .inl (cI, 24, .inl Md)), (aA, .inl (cI, 24, .inl An))] sz)) 0 0 (va_A [(aG, .inr (3, [.ref aN, .ref aL, .ref aS, .ref aM, .ref aA, .int (nI ln0)])), (aN, .inr (0, [.ref aT, .ref aC, .int ct])), (aT, .inl (cI, 96, .inl Tg)), (aL, .inr (1, [.ref aN, .ref aR, .ref aU, .ref aK, .int (nI lr), .int (nI kc), .int (za_bi sd)])), (aR, .inl (cI, 576, .inl Rw)), (aS, .inl (cI, 2, .inl Sd)), (aM, .inl (cI, 24, .inl Md)), (aA, .inl (cI, 24, .inl An))] sz) := by
  refine za_wi (cc := zo_G_attackOnce) (maxL := 5) (ty := .boolean) (by decide) (Nat.le_of_ble_eq_true rfl) (fun _ _ h => by rw [h.1]; exact za_nar _) ?_
  intro p e sg m args below meth c H0 A Q hx hb hml hts hown hmn hP hK hN hD hA hS hret ls hl
  have hP : va_P D vwCl [(aG, .inr (3, [.ref aN, .ref aL, .ref aS, .ref aM, .ref aA, .int (nI ln0)])), (aN, .inr (0, [.ref aT, .ref aC, .int ct])), (aT, .inl (cI, 96, .inl Tg)), (aL, .inr (1, [.ref aN, .ref aR, .ref aU, .ref aK, .int (nI lr), .int (nI kc), .int (za_bi sd)])), (aR, .inl (cI, 576, .inl Rw)), (aS, .inl (cI, 2, .inl Sd)), (aM, .inl (cI, 24, .inl Md)), (aA, .inl (cI, 24, .inl An))] H0 := hP
  have hD : va_D A [(aG, .inr (3, [.ref aN, .ref aL, .ref aS, .ref aM, .ref aA, .int (nI ln0)])), (aN, .inr (0, [.ref aT, .ref aC, .int ct])), (aT, .inl (cI, 96, .inl Tg)), (aL, .inr (1, [.ref aN, .ref aR, .ref aU, .ref aK, .int (nI lr), .int (nI kc), .int (za_bi sd)])), (aR, .inl (cI, 576, .inl Rw)), (aS, .inl (cI, 2, .inl Sd)), (aM, .inl (cI, 24, .inl Md)), (aA, .inl (cI, 24, .inl An))] := hD
  have hl : lv_has ls 5 [(0, .ref aG)] := hl
  have hf15 := hts _ zw_121
  have hf19 := hts _ zw_122
  have hf23 := hts _ zw_123
  have hf55 := hts _ zw_125
  have hf26 := hts _ zw_124
  refine lv_aload_n hx hb zd_G_attackOnce_0 rfl (lv_at hl 0 rfl) ?_
  refine va_get (D := D) (ci := 3) (v := .ref aL) (C := zs_G) (T := zt_G) (N := 6) hx hb hts zi_G hown hK hP 0 rfl rfl 1 (by decide) hf15 (fun _ h9 => h9) rfl zd_G_attackOnce_1 ?_
  refine lv_aload_n hx hb zd_G_attackOnce_4 rfl (lv_at hl 0 rfl) ?_
  refine va_get (D := D) (ci := 3) (v := .ref aS) (C := zs_G) (T := zt_G) (N := 6) hx hb hts zi_G hown hK hP 0 rfl rfl 2 (by decide) hf19 (fun _ h9 => h9) rfl zd_G_attackOnce_5 ?_
  refine lv_iconst (v := nI 0) hx hb zd_G_attackOnce_8 (by decide) ?_
  refine za_ild hx hb hK hP 5 0 rfl rfl (k := 0) (by omega) (by decide) zd_G_attackOnce_9 ?_
  refine za_eqi (y := nI xx) (hS0) ?_
  refine lv_aload_n hx hb zd_G_attackOnce_10 rfl (lv_at hl 0 rfl) ?_
  refine va_get (D := D) (ci := 3) (v := .ref aS) (C := zs_G) (T := zt_G) (N := 6) hx hb hts zi_G hown hK hP 0 rfl rfl 2 (by decide) hf19 (fun _ h9 => h9) rfl zd_G_attackOnce_11 ?_
  refine lv_iconst (v := nI 1) hx hb zd_G_attackOnce_14 (by decide) ?_
  refine za_ild hx hb hK hP 5 0 rfl rfl (k := 1) (by omega) (by decide) zd_G_attackOnce_15 ?_
  refine za_eqi (y := nI yy) (hS1) ?_
  refine za_cV (As := [.int (nI xx), .int (nI yy)]) (rest := []) ⟨hx, hb, hml, hown, hts⟩ (zc_L_breachOf ln D cI cZ aL aN aR aU aK lr kc sd Rw xx yy (by omega) (by omega) (by exact hlk.1)) (za_gV 2 hts zw_385 zw_280 zw_281 zw_37 zw_282 (by decide +kernel) ⟨Nat.le_of_ble_eq_true rfl, Nat.le_of_ble_eq_true rfl⟩) hK hN hP [3, 4] rfl (q0 := 3) rfl rfl hl rfl rfl (Nat.le_of_ble_eq_true rfl) zd_G_attackOnce_16 ⟨Nat.le_of_ble_eq_true rfl, Nat.le_of_ble_eq_true rfl⟩ ?_
  refine za_eqi (y := za_bv Tg Co xx yy) (za_bv_of hlk hx0 hy0) ?_
  refine lv_iconst (v := nI 1) hx hb zd_G_attackOnce_19 (by decide) ?_
  refine lv_isub hx hb zd_G_attackOnce_20 ?_
  refine lv_istore_n (lv' := [(1, .int ((za_bv Tg Co xx yy) - (nI 1))), (0, .ref aG)]) hx hb zd_G_attackOnce_21 rfl hl (by decide) rfl (fun ls hl => ?_)
  refine lv_iload_n hx hb zd_G_attackOnce_22 rfl (lv_at hl 0 rfl) ?_
  refine lv_if_ge hx hb (tgt := 28) zd_G_attackOnce_23 (by decide) (fun h23 => ?_) (fun h23 => ?_)
  · skip
    obtain ⟨hp, hk1, hb24, hb0⟩ := za_bvk_t h23
    have hrk := hlk.2.1 (za_bn Tg Co xx yy - 1) (by have := za_bn_lr hlk hx0 hy0 hb24; omega)
    have hl : lv_has ls 5 [(1, .int (nI (za_bn Tg Co xx yy - 1))), (0, .ref aG)] := by rw [← hk1]; exact hl
    refine lv_iconst (v := nI 0) hx hb zd_G_attackOnce_28 (by decide) ?_
    refine lv_istore_n (lv' := [(2, .int (nI 0)), (1, .int (nI (za_bn Tg Co xx yy - 1))), (0, .ref aG)]) hx hb zd_G_attackOnce_29 rfl hl (by decide) rfl (fun ls hl => ?_)
    refine lv_aload_n hx hb zd_G_attackOnce_30 rfl (lv_at hl 2 rfl) ?_
    refine lv_aload_n hx hb zd_G_attackOnce_31 rfl (lv_at hl 2 rfl) ?_
    refine va_get (D := D) (ci := 3) (v := .ref aS) (C := zs_G) (T := zt_G) (N := 6) hx hb hts zi_G hown hK hP 0 rfl rfl 2 (by decide) hf19 (fun _ h9 => h9) rfl zd_G_attackOnce_32 ?_
    refine lv_iconst (v := nI 0) hx hb zd_G_attackOnce_35 (by decide) ?_
    refine za_ild hx hb hK hP 5 0 rfl rfl (k := 0) (by omega) (by decide) zd_G_attackOnce_36 ?_
    refine za_eqi (y := nI xx) (hS0) ?_
    refine lv_aload_n hx hb zd_G_attackOnce_37 rfl (lv_at hl 2 rfl) ?_
    refine va_get (D := D) (ci := 3) (v := .ref aS) (C := zs_G) (T := zt_G) (N := 6) hx hb hts zi_G hown hK hP 0 rfl rfl 2 (by decide) hf19 (fun _ h9 => h9) rfl zd_G_attackOnce_38 ?_
    refine lv_iconst (v := nI 1) hx hb zd_G_attackOnce_41 (by decide) ?_
    refine za_ild hx hb hK hP 5 0 rfl rfl (k := 1) (by omega) (by decide) zd_G_attackOnce_42 ?_
    refine za_eqi (y := nI yy) (hS1) ?_
    refine lv_iload_n hx hb zd_G_attackOnce_43 rfl (lv_at hl 1 rfl) ?_
    refine za_cV (As := [.int (nI xx), .int (nI yy), .int (nI (za_bn Tg Co xx yy - 1))]) (rest := []) ⟨hx, hb, hml, hown, hts⟩ (zc_G_firstOf ln D cI cZ aG aN aL aS aM aA ln0 aT aC ct aR aU aK lr kc sd Tg Rw xx yy (za_bn Tg Co xx yy - 1) (by omega) (by omega) (by omega)) (za_gV 3 hts zw_413 zw_415 zw_17 zw_39 zw_416 (by decide +kernel) ⟨Nat.le_of_ble_eq_true rfl, Nat.le_of_ble_eq_true rfl⟩) hK hN hP [0, 1, 2, 3, 4] rfl (q0 := 0) rfl rfl hl rfl rfl (Nat.le_of_ble_eq_true rfl) zd_G_attackOnce_44 ⟨Nat.le_of_ble_eq_true rfl, Nat.le_of_ble_eq_true rfl⟩ ?_
    refine lv_istore_n (lv' := [(3, .int (za_fo Tg Rw xx yy (za_bn Tg Co xx yy - 1))), (2, .int (nI 0)), (1, .int (nI (za_bn Tg Co xx yy - 1))), (0, .ref aG)]) hx hb zd_G_attackOnce_47 rfl hl (by decide) rfl (fun ls hl => ?_)
    refine lv_iload_n hx hb zd_G_attackOnce_48 rfl (lv_at hl 0 rfl) ?_
    refine lv_iconst (v := (-1)) hx hb zd_G_attackOnce_49 (by decide) ?_
    refine lv_icmp_ne hx hb (tgt := 73) zd_G_attackOnce_50 (by decide) (fun h50 => ?_) (fun h50 => ?_)
    · skip
      refine lv_iload_n hx hb zd_G_attackOnce_73 rfl (lv_at hl 0 rfl) ?_
      refine lv_iconst (v := (-1)) hx hb zd_G_attackOnce_74 (by decide) ?_
      refine lv_icmp_ne hx hb (tgt := 80) zd_G_attackOnce_75 (by decide) (fun h75 => ?_) (fun h75 => ?_)
      · skip
        obtain ⟨hmi, hfo⟩ := za_fo_1 hrk h50
        have hl : lv_has ls 5 [(3, .int (nI (za_lb Tg Co xx yy * 100 + za_to Tg Co xx yy))), (2, .int (nI 0)), (1, .int (nI (za_bn Tg Co xx yy - 1))), (0, .ref aG)] := by rw [← hfo]; exact hl
        have hC80 : ∀  (sd0 : Nat) (e0 : Nat) (ls : Array Slot) (H : Heap) (locs : List Loc), sd0 ≤ 1 → sd0 = (if za_mi Tg Co xx yy = true then 0 else 1) → e0 = za_lb Tg Co xx yy * 100 + za_to Tg Co xx yy → lv_has ls 5 [(0, .ref aG), (2, .int (nI sd0)), (3, .int (nI e0))] → va_P D vwCl [(aG, .inr (3, [.ref aN, .ref aL, .ref aS, .ref aM, .ref aA, .int (nI ln0)])), (aN, .inr (0, [.ref aT, .ref aC, .int ct])), (aT, .inl (cI, 96, .inl Tg)), (aL, .inr (1, [.ref aN, .ref aR, .ref aU, .ref aK, .int (nI lr), .int (nI kc), .int (za_bi sd)])), (aR, .inl (cI, 576, .inl Rw)), (aS, .inl (cI, 2, .inl Sd)), (aM, .inl (cI, 24, .inl Md)), (aA, .inl (cI, 24, .inl An))] H → va_D A [(aG, .inr (3, [.ref aN, .ref aL, .ref aS, .ref aM, .ref aA, .int (nI ln0)])), (aN, .inr (0, [.ref aT, .ref aC, .int ct])), (aT, .inl (cI, 96, .inl Tg)), (aL, .inr (1, [.ref aN, .ref aR, .ref aU, .ref aK, .int (nI lr), .int (nI kc), .int (za_bi sd)])), (aR, .inl (cI, 576, .inl Rw)), (aS, .inl (cI, 2, .inl Sd)), (aM, .inl (cI, 24, .inl Md)), (aA, .inl (cI, 24, .inl An))] → va_S A H0 H locs → W p ln e zr_G_attackOnce sg m args below meth c H locs 0 0 Q (F0 m 80 ls []) := by
          intro sd0 e0 ls H locs hs1 hside he hl hP hD hS
          have hlb := za_lb_lt (Tg := Tg) (Co := Co) xx yy
          have hto := za_to_lt (Tg := Tg) (Co := Co) xx yy
          have hot : za_ot Tg Co xx yy < 24 := by unfold za_ot; split <;> omega
          have hpl1 : za_l1 Tg Co xx yy ln0 = ln0 + 1 := by unfold za_l1; rw [if_pos hp]
          refine lv_aload_n hx hb zd_G_attackOnce_80 rfl (lv_at hl 0 rfl) ?_
          refine lv_aload_n hx hb zd_G_attackOnce_81 rfl (lv_at hl 0 rfl) ?_
          refine va_get (D := D) (ci := 3) (v := .ref aS) (C := zs_G) (T := zt_G) (N := 6) hx hb hts zi_G hown hK hP 0 rfl rfl 2 (by decide) hf19 (fun _ h9 => h9) rfl zd_G_attackOnce_82 ?_
          refine lv_iconst (v := nI 1) hx hb zd_G_attackOnce_85 (by decide) ?_
          refine lv_iload_n hx hb zd_G_attackOnce_86 rfl (lv_at hl 1 rfl) ?_
          refine za_subN hx hb (by omega) zd_G_attackOnce_87 ?_
          refine za_ild hx hb hK hP 5 0 rfl rfl (k := 1 - sd0) (by omega) (by decide) zd_G_attackOnce_88 ?_
          refine za_eqi (y := nI (za_ot Tg Co xx yy)) (za_once1 hside hS0 hS1) ?_
          refine lv_iload_n hx hb zd_G_attackOnce_89 rfl (lv_at hl 2 rfl) ?_
          refine za_cV (As := [.int (nI (za_ot Tg Co xx yy)), .int (nI e0)]) (rest := []) ⟨hx, hb, hml, hown, hts⟩ (zc_G_bestAnswer ln D cI cZ aG aN aL aS aM aA ln0 aT aC ct aR aU aK lr kc sd Tg Rw (za_ot Tg Co xx yy) e0 (by omega) (by omega) (by omega) (by omega) (by exact hlk.1)) (za_gV 2 hts zw_417 zw_419 zw_18 zw_39 zw_420 (by decide +kernel) ⟨Nat.le_of_ble_eq_true rfl, Nat.le_of_ble_eq_true rfl⟩) hK hN hP [0, 1, 2, 3, 4] rfl (q0 := 0) rfl rfl hl rfl rfl (Nat.le_of_ble_eq_true rfl) zd_G_attackOnce_90 ⟨Nat.le_of_ble_eq_true rfl, Nat.le_of_ble_eq_true rfl⟩ ?_
          refine za_eqi (y := za_ai (za_an Tg Co xx yy)) (za_best hlk hp he) ?_
          refine lv_istore (lv' := [(4, .int (za_ai (za_an Tg Co xx yy))), (0, .ref aG), (2, .int (nI sd0)), (3, .int (nI e0))]) hx hb zd_G_attackOnce_93 hl (by decide) rfl (fun ls hl => ?_)
          refine lv_aload_n hx hb zd_G_attackOnce_95 rfl (lv_at hl 1 rfl) ?_
          refine va_get (D := D) (ci := 3) (v := .ref aM) (C := zs_G) (T := zt_G) (N := 6) hx hb hts zi_G hown hK hP 0 rfl rfl 3 (by decide) hf23 (fun _ h9 => h9) rfl zd_G_attackOnce_96 ?_
          refine lv_aload_n hx hb zd_G_attackOnce_99 rfl (lv_at hl 1 rfl) ?_
          refine va_get (D := D) (ci := 3) (v := .int (nI ln0)) (C := zs_G) (T := zt_G) (N := 6) hx hb hts zi_G hown hK hP 0 rfl rfl 5 (by decide) hf55 (fun _ h9 => h9) rfl zd_G_attackOnce_100 ?_
          refine lv_iload_n hx hb zd_G_attackOnce_103 rfl (lv_at hl 2 rfl) ?_
          refine lv_sipush (v := nI 1000) hx hb zd_G_attackOnce_104 (by decide) ?_
          refine za_mulN hx hb zd_G_attackOnce_107 ?_
          refine lv_iload_n hx hb zd_G_attackOnce_108 rfl (lv_at hl 3 rfl) ?_
          refine za_addN hx hb zd_G_attackOnce_109 ?_
          refine za_ist hx hb hK hP hD hS 6 0 rfl rfl (k := ln0) (by omega) (by decide) zd_G_attackOnce_110 (fun H locs hP hD hS => ?_)
          have hP : va_P D vwCl [(aG, .inr (3, [.ref aN, .ref aL, .ref aS, .ref aM, .ref aA, .int (nI ln0)])), (aN, .inr (0, [.ref aT, .ref aC, .int ct])), (aT, .inl (cI, 96, .inl Tg)), (aL, .inr (1, [.ref aN, .ref aR, .ref aU, .ref aK, .int (nI lr), .int (nI kc), .int (za_bi sd)])), (aR, .inl (cI, 576, .inl Rw)), (aS, .inl (cI, 2, .inl Sd)), (aM, .inl (cI, 24, .inl (upd Md ln0 (nI ((sd0 * 1000) + e0))))), (aA, .inl (cI, 24, .inl An))] H := hP
          have hD : va_D A [(aG, .inr (3, [.ref aN, .ref aL, .ref aS, .ref aM, .ref aA, .int (nI ln0)])), (aN, .inr (0, [.ref aT, .ref aC, .int ct])), (aT, .inl (cI, 96, .inl Tg)), (aL, .inr (1, [.ref aN, .ref aR, .ref aU, .ref aK, .int (nI lr), .int (nI kc), .int (za_bi sd)])), (aR, .inl (cI, 576, .inl Rw)), (aS, .inl (cI, 2, .inl Sd)), (aM, .inl (cI, 24, .inl (upd Md ln0 (nI ((sd0 * 1000) + e0))))), (aA, .inl (cI, 24, .inl An))] := hD
          refine lv_aload_n hx hb zd_G_attackOnce_111 rfl (lv_at hl 1 rfl) ?_
          refine va_get (D := D) (ci := 3) (v := .ref aA) (C := zs_G) (T := zt_G) (N := 6) hx hb hts zi_G hown hK hP 0 rfl rfl 4 (by decide) hf26 (fun _ h9 => h9) rfl zd_G_attackOnce_112 ?_
          refine lv_aload_n hx hb zd_G_attackOnce_115 rfl (lv_at hl 1 rfl) ?_
          refine va_get (D := D) (ci := 3) (v := .int (nI ln0)) (C := zs_G) (T := zt_G) (N := 6) hx hb hts zi_G hown hK hP 0 rfl rfl 5 (by decide) hf55 (fun _ h9 => h9) rfl zd_G_attackOnce_116 ?_
          refine lv_iload hx hb zd_G_attackOnce_119 (lv_at hl 0 rfl) ?_
          refine za_ist hx hb hK hP hD hS 7 0 rfl rfl (k := ln0) (by omega) (by decide) zd_G_attackOnce_121 (fun H locs hP hD hS => ?_)
          have hP : va_P D vwCl [(aG, .inr (3, [.ref aN, .ref aL, .ref aS, .ref aM, .ref aA, .int (nI ln0)])), (aN, .inr (0, [.ref aT, .ref aC, .int ct])), (aT, .inl (cI, 96, .inl Tg)), (aL, .inr (1, [.ref aN, .ref aR, .ref aU, .ref aK, .int (nI lr), .int (nI kc), .int (za_bi sd)])), (aR, .inl (cI, 576, .inl Rw)), (aS, .inl (cI, 2, .inl Sd)), (aM, .inl (cI, 24, .inl (upd Md ln0 (nI ((sd0 * 1000) + e0))))), (aA, .inl (cI, 24, .inl (upd An ln0 (za_ai (za_an Tg Co xx yy)))))] H := hP
          have hD : va_D A [(aG, .inr (3, [.ref aN, .ref aL, .ref aS, .ref aM, .ref aA, .int (nI ln0)])), (aN, .inr (0, [.ref aT, .ref aC, .int ct])), (aT, .inl (cI, 96, .inl Tg)), (aL, .inr (1, [.ref aN, .ref aR, .ref aU, .ref aK, .int (nI lr), .int (nI kc), .int (za_bi sd)])), (aR, .inl (cI, 576, .inl Rw)), (aS, .inl (cI, 2, .inl Sd)), (aM, .inl (cI, 24, .inl (upd Md ln0 (nI ((sd0 * 1000) + e0))))), (aA, .inl (cI, 24, .inl (upd An ln0 (za_ai (za_an Tg Co xx yy)))))] := hD
          refine lv_aload_n hx hb zd_G_attackOnce_122 rfl (lv_at hl 1 rfl) ?_
          refine lv_dup hx hb zd_G_attackOnce_123 rfl ?_
          refine va_get (D := D) (ci := 3) (v := .int (nI ln0)) (C := zs_G) (T := zt_G) (N := 6) hx hb hts zi_G hown hK hP 0 rfl rfl 5 (by decide) hf55 (fun _ h9 => h9) rfl zd_G_attackOnce_124 ?_
          refine lv_iconst (v := nI 1) hx hb zd_G_attackOnce_127 (by decide) ?_
          refine za_addN hx hb zd_G_attackOnce_128 ?_
          refine va_put (D := D) (ci := 3) (v := .int (nI (ln0 + 1))) (ty := .int) (C := zs_G) (T := zt_G) (N := 6) hx hb hts zi_G zy_G zk_G zn_G hown hK hP hD hS 0 rfl rfl 5 (by decide) hf55 (fun _ h9 => h9) rfl (by decide +kernel) rfl rfl (Nat.le_of_ble_eq_true rfl) zd_G_attackOnce_129 (fun H locs hP hD hS => ?_)
          have hP : va_P D vwCl [(aG, .inr (3, [.ref aN, .ref aL, .ref aS, .ref aM, .ref aA, .int (nI (ln0 + 1))])), (aN, .inr (0, [.ref aT, .ref aC, .int ct])), (aT, .inl (cI, 96, .inl Tg)), (aL, .inr (1, [.ref aN, .ref aR, .ref aU, .ref aK, .int (nI lr), .int (nI kc), .int (za_bi sd)])), (aR, .inl (cI, 576, .inl Rw)), (aS, .inl (cI, 2, .inl Sd)), (aM, .inl (cI, 24, .inl (upd Md ln0 (nI ((sd0 * 1000) + e0))))), (aA, .inl (cI, 24, .inl (upd An ln0 (za_ai (za_an Tg Co xx yy)))))] H := hP
          have hD : va_D A [(aG, .inr (3, [.ref aN, .ref aL, .ref aS, .ref aM, .ref aA, .int (nI (ln0 + 1))])), (aN, .inr (0, [.ref aT, .ref aC, .int ct])), (aT, .inl (cI, 96, .inl Tg)), (aL, .inr (1, [.ref aN, .ref aR, .ref aU, .ref aK, .int (nI lr), .int (nI kc), .int (za_bi sd)])), (aR, .inl (cI, 576, .inl Rw)), (aS, .inl (cI, 2, .inl Sd)), (aM, .inl (cI, 24, .inl (upd Md ln0 (nI ((sd0 * 1000) + e0))))), (aA, .inl (cI, 24, .inl (upd An ln0 (za_ai (za_an Tg Co xx yy)))))] := hD
          refine lv_aload_n hx hb zd_G_attackOnce_132 rfl (lv_at hl 1 rfl) ?_
          refine va_get (D := D) (ci := 3) (v := .ref aS) (C := zs_G) (T := zt_G) (N := 6) hx hb hts zi_G hown hK hP 0 rfl rfl 2 (by decide) hf19 (fun _ h9 => h9) rfl zd_G_attackOnce_133 ?_
          refine lv_iload_n hx hb zd_G_attackOnce_136 rfl (lv_at hl 2 rfl) ?_
          refine lv_iload_n hx hb zd_G_attackOnce_137 rfl (lv_at hl 3 rfl) ?_
          refine lv_bipush (v := nI 100) hx hb zd_G_attackOnce_138 (by decide) ?_
          refine za_remN hx hb (by omega) (by decide) (by decide) zd_G_attackOnce_140 ?_
          refine za_ist hx hb hK hP hD hS 5 0 rfl rfl (k := sd0) (by omega) (by decide) zd_G_attackOnce_141 (fun H locs hP hD hS => ?_)
          have hP : va_P D vwCl [(aG, .inr (3, [.ref aN, .ref aL, .ref aS, .ref aM, .ref aA, .int (nI (ln0 + 1))])), (aN, .inr (0, [.ref aT, .ref aC, .int ct])), (aT, .inl (cI, 96, .inl Tg)), (aL, .inr (1, [.ref aN, .ref aR, .ref aU, .ref aK, .int (nI lr), .int (nI kc), .int (za_bi sd)])), (aR, .inl (cI, 576, .inl Rw)), (aS, .inl (cI, 2, .inl (upd Sd sd0 (nI (e0 % 100))))), (aM, .inl (cI, 24, .inl (upd Md ln0 (nI ((sd0 * 1000) + e0))))), (aA, .inl (cI, 24, .inl (upd An ln0 (za_ai (za_an Tg Co xx yy)))))] H := hP
          have hD : va_D A [(aG, .inr (3, [.ref aN, .ref aL, .ref aS, .ref aM, .ref aA, .int (nI (ln0 + 1))])), (aN, .inr (0, [.ref aT, .ref aC, .int ct])), (aT, .inl (cI, 96, .inl Tg)), (aL, .inr (1, [.ref aN, .ref aR, .ref aU, .ref aK, .int (nI lr), .int (nI kc), .int (za_bi sd)])), (aR, .inl (cI, 576, .inl Rw)), (aS, .inl (cI, 2, .inl (upd Sd sd0 (nI (e0 % 100))))), (aM, .inl (cI, 24, .inl (upd Md ln0 (nI ((sd0 * 1000) + e0))))), (aA, .inl (cI, 24, .inl (upd An ln0 (za_ai (za_an Tg Co xx yy)))))] := hD
          refine lv_aload_n hx hb zd_G_attackOnce_142 rfl (lv_at hl 1 rfl) ?_
          refine va_get (D := D) (ci := 3) (v := .ref aS) (C := zs_G) (T := zt_G) (N := 6) hx hb hts zi_G hown hK hP 0 rfl rfl 2 (by decide) hf19 (fun _ h9 => h9) rfl zd_G_attackOnce_143 ?_
          refine lv_iconst (v := nI 1) hx hb zd_G_attackOnce_146 (by decide) ?_
          refine lv_iload_n hx hb zd_G_attackOnce_147 rfl (lv_at hl 2 rfl) ?_
          refine za_subN hx hb (by omega) zd_G_attackOnce_148 ?_
          refine lv_iload hx hb zd_G_attackOnce_149 (lv_at hl 0 rfl) ?_
          refine za_ist hx hb hK hP hD hS 5 0 rfl rfl (k := 1 - sd0) (by omega) (by decide) zd_G_attackOnce_151 (fun H locs hP hD hS => ?_)
          have hP : va_P D vwCl [(aG, .inr (3, [.ref aN, .ref aL, .ref aS, .ref aM, .ref aA, .int (nI (ln0 + 1))])), (aN, .inr (0, [.ref aT, .ref aC, .int ct])), (aT, .inl (cI, 96, .inl Tg)), (aL, .inr (1, [.ref aN, .ref aR, .ref aU, .ref aK, .int (nI lr), .int (nI kc), .int (za_bi sd)])), (aR, .inl (cI, 576, .inl Rw)), (aS, .inl (cI, 2, .inl (upd (upd Sd sd0 (nI (e0 % 100))) (1 - sd0) (za_ai (za_an Tg Co xx yy))))), (aM, .inl (cI, 24, .inl (upd Md ln0 (nI ((sd0 * 1000) + e0))))), (aA, .inl (cI, 24, .inl (upd An ln0 (za_ai (za_an Tg Co xx yy)))))] H := hP
          have hD : va_D A [(aG, .inr (3, [.ref aN, .ref aL, .ref aS, .ref aM, .ref aA, .int (nI (ln0 + 1))])), (aN, .inr (0, [.ref aT, .ref aC, .int ct])), (aT, .inl (cI, 96, .inl Tg)), (aL, .inr (1, [.ref aN, .ref aR, .ref aU, .ref aK, .int (nI lr), .int (nI kc), .int (za_bi sd)])), (aR, .inl (cI, 576, .inl Rw)), (aS, .inl (cI, 2, .inl (upd (upd Sd sd0 (nI (e0 % 100))) (1 - sd0) (za_ai (za_an Tg Co xx yy))))), (aM, .inl (cI, 24, .inl (upd Md ln0 (nI ((sd0 * 1000) + e0))))), (aA, .inl (cI, 24, .inl (upd An ln0 (za_ai (za_an Tg Co xx yy)))))] := hD
          refine lv_iload hx hb zd_G_attackOnce_152 (lv_at hl 0 rfl) ?_
          refine lv_iconst (v := (-1)) hx hb zd_G_attackOnce_154 (by decide) ?_
          refine lv_icmp_eq hx hb (tgt := 162) zd_G_attackOnce_155 (by decide) (fun h155 => ?_) (fun h155 => ?_)
          · skip
            refine lv_iconst (v := nI 0) hx hb zd_G_attackOnce_162 (by decide) ?_
            have e1 : nI (za_l1 Tg Co xx yy ln0) = nI (ln0 + 1) := by first | with_reducible rfl | (first | (unfold za_l1; rw [za_bvk_f h23]; rfl) | (unfold za_M1; rw [za_bvk_f h23]; rfl) | (unfold za_A1; rw [za_bvk_f h23]; rfl) | (unfold za_l1; rw [if_pos hp]) | (unfold za_M1; rw [if_pos hp, za_once2 hside he]) | (unfold za_A1; rw [if_pos hp]))
            have e2 : za_M1 Tg Co xx yy ln0 Md = upd Md ln0 (nI ((sd0 * 1000) + e0)) := by first | with_reducible rfl | (first | (unfold za_l1; rw [za_bvk_f h23]; rfl) | (unfold za_M1; rw [za_bvk_f h23]; rfl) | (unfold za_A1; rw [za_bvk_f h23]; rfl) | (unfold za_l1; rw [if_pos hp]) | (unfold za_M1; rw [if_pos hp, za_once2 hside he]) | (unfold za_A1; rw [if_pos hp]))
            have e3 : za_A1 Tg Co xx yy ln0 An = upd An ln0 (za_ai (za_an Tg Co xx yy)) := by first | with_reducible rfl | (first | (unfold za_l1; rw [za_bvk_f h23]; rfl) | (unfold za_M1; rw [za_bvk_f h23]; rfl) | (unfold za_A1; rw [za_bvk_f h23]; rfl) | (unfold za_l1; rw [if_pos hp]) | (unfold za_M1; rw [if_pos hp, za_once2 hside he]) | (unfold za_A1; rw [if_pos hp]))
            have hP9 : va_P D vwCl [(aG, .inr (3, [.ref aN, .ref aL, .ref aS, .ref aM, .ref aA, .int (nI (za_l1 Tg Co xx yy ln0))])), (aN, .inr (0, [.ref aT, .ref aC, .int ct])), (aT, .inl (cI, 96, .inl Tg)), (aL, .inr (1, [.ref aN, .ref aR, .ref aU, .ref aK, .int (nI lr), .int (nI kc), .int (za_bi sd)])), (aR, .inl (cI, 576, .inl Rw)), (aS, .inl (cI, 2, .inl (upd (upd Sd sd0 (nI (e0 % 100))) (1 - sd0) (za_ai (za_an Tg Co xx yy))))), (aM, .inl (cI, 24, .inl (za_M1 Tg Co xx yy ln0 Md))), (aA, .inl (cI, 24, .inl (za_A1 Tg Co xx yy ln0 An)))] H := by rw [e1, e2, e3]; exact hP
            have hD9 : va_D A [(aG, .inr (3, [.ref aN, .ref aL, .ref aS, .ref aM, .ref aA, .int (nI (za_l1 Tg Co xx yy ln0))])), (aN, .inr (0, [.ref aT, .ref aC, .int ct])), (aT, .inl (cI, 96, .inl Tg)), (aL, .inr (1, [.ref aN, .ref aR, .ref aU, .ref aK, .int (nI lr), .int (nI kc), .int (za_bi sd)])), (aR, .inl (cI, 576, .inl Rw)), (aS, .inl (cI, 2, .inl (upd (upd Sd sd0 (nI (e0 % 100))) (1 - sd0) (za_ai (za_an Tg Co xx yy))))), (aM, .inl (cI, 24, .inl (za_M1 Tg Co xx yy ln0 Md))), (aA, .inl (cI, 24, .inl (za_A1 Tg Co xx yy ln0 An)))] := by rw [e1, e2, e3]; exact hD
            have hQ9 : (nI 0) = za_bi (za_go Tg Co xx yy) ∧ (za_go Tg Co xx yy = true → (upd (upd Sd sd0 (nI (e0 % 100))) (1 - sd0) (za_ai (za_an Tg Co xx yy))) 0 = nI (za_x1 Tg Co xx yy) ∧ (upd (upd Sd sd0 (nI (e0 % 100))) (1 - sd0) (za_ai (za_an Tg Co xx yy))) 1 = nI (za_y1 Tg Co xx yy)) := by first | exact ⟨za_b0 (by unfold za_go; rw [hp, (za_ai_m1 (za_an_le xx yy)).mp h155]; rfl), fun z => absurd z (by simp [za_go, (za_ai_m1 (za_an_le xx yy)).mp h155])⟩ | exact ⟨za_b1 (by unfold za_go; rw [hp, decide_eq_false (fun z => h155 ((za_ai_m1 (za_an_le xx yy)).mpr z))]; rfl), fun _ => za_once3 hside he (fun z => h155 ((za_ai_m1 (za_an_le xx yy)).mpr z))⟩
            exact hret _ (upd (upd Sd sd0 (nI (e0 % 100))) (1 - sd0) (za_ai (za_an Tg Co xx yy))) _ _ _ _ (hQ9) hP9 hD9 hS zd_G_attackOnce_163
          · skip
            refine lv_iconst (v := nI 1) hx hb zd_G_attackOnce_158 (by decide) ?_
            refine lv_goto hx hb (tgt := 163) zd_G_attackOnce_159 (by decide) ?_
            have e1 : nI (za_l1 Tg Co xx yy ln0) = nI (ln0 + 1) := by first | with_reducible rfl | (first | (unfold za_l1; rw [za_bvk_f h23]; rfl) | (unfold za_M1; rw [za_bvk_f h23]; rfl) | (unfold za_A1; rw [za_bvk_f h23]; rfl) | (unfold za_l1; rw [if_pos hp]) | (unfold za_M1; rw [if_pos hp, za_once2 hside he]) | (unfold za_A1; rw [if_pos hp]))
            have e2 : za_M1 Tg Co xx yy ln0 Md = upd Md ln0 (nI ((sd0 * 1000) + e0)) := by first | with_reducible rfl | (first | (unfold za_l1; rw [za_bvk_f h23]; rfl) | (unfold za_M1; rw [za_bvk_f h23]; rfl) | (unfold za_A1; rw [za_bvk_f h23]; rfl) | (unfold za_l1; rw [if_pos hp]) | (unfold za_M1; rw [if_pos hp, za_once2 hside he]) | (unfold za_A1; rw [if_pos hp]))
            have e3 : za_A1 Tg Co xx yy ln0 An = upd An ln0 (za_ai (za_an Tg Co xx yy)) := by first | with_reducible rfl | (first | (unfold za_l1; rw [za_bvk_f h23]; rfl) | (unfold za_M1; rw [za_bvk_f h23]; rfl) | (unfold za_A1; rw [za_bvk_f h23]; rfl) | (unfold za_l1; rw [if_pos hp]) | (unfold za_M1; rw [if_pos hp, za_once2 hside he]) | (unfold za_A1; rw [if_pos hp]))
            have hP9 : va_P D vwCl [(aG, .inr (3, [.ref aN, .ref aL, .ref aS, .ref aM, .ref aA, .int (nI (za_l1 Tg Co xx yy ln0))])), (aN, .inr (0, [.ref aT, .ref aC, .int ct])), (aT, .inl (cI, 96, .inl Tg)), (aL, .inr (1, [.ref aN, .ref aR, .ref aU, .ref aK, .int (nI lr), .int (nI kc), .int (za_bi sd)])), (aR, .inl (cI, 576, .inl Rw)), (aS, .inl (cI, 2, .inl (upd (upd Sd sd0 (nI (e0 % 100))) (1 - sd0) (za_ai (za_an Tg Co xx yy))))), (aM, .inl (cI, 24, .inl (za_M1 Tg Co xx yy ln0 Md))), (aA, .inl (cI, 24, .inl (za_A1 Tg Co xx yy ln0 An)))] H := by rw [e1, e2, e3]; exact hP
            have hD9 : va_D A [(aG, .inr (3, [.ref aN, .ref aL, .ref aS, .ref aM, .ref aA, .int (nI (za_l1 Tg Co xx yy ln0))])), (aN, .inr (0, [.ref aT, .ref aC, .int ct])), (aT, .inl (cI, 96, .inl Tg)), (aL, .inr (1, [.ref aN, .ref aR, .ref aU, .ref aK, .int (nI lr), .int (nI kc), .int (za_bi sd)])), (aR, .inl (cI, 576, .inl Rw)), (aS, .inl (cI, 2, .inl (upd (upd Sd sd0 (nI (e0 % 100))) (1 - sd0) (za_ai (za_an Tg Co xx yy))))), (aM, .inl (cI, 24, .inl (za_M1 Tg Co xx yy ln0 Md))), (aA, .inl (cI, 24, .inl (za_A1 Tg Co xx yy ln0 An)))] := by rw [e1, e2, e3]; exact hD
            have hQ9 : (nI 1) = za_bi (za_go Tg Co xx yy) ∧ (za_go Tg Co xx yy = true → (upd (upd Sd sd0 (nI (e0 % 100))) (1 - sd0) (za_ai (za_an Tg Co xx yy))) 0 = nI (za_x1 Tg Co xx yy) ∧ (upd (upd Sd sd0 (nI (e0 % 100))) (1 - sd0) (za_ai (za_an Tg Co xx yy))) 1 = nI (za_y1 Tg Co xx yy)) := by first | exact ⟨za_b0 (by unfold za_go; rw [hp, (za_ai_m1 (za_an_le xx yy)).mp h155]; rfl), fun z => absurd z (by simp [za_go, (za_ai_m1 (za_an_le xx yy)).mp h155])⟩ | exact ⟨za_b1 (by unfold za_go; rw [hp, decide_eq_false (fun z => h155 ((za_ai_m1 (za_an_le xx yy)).mpr z))]; rfl), fun _ => za_once3 hside he (fun z => h155 ((za_ai_m1 (za_an_le xx yy)).mpr z))⟩
            exact hret _ (upd (upd Sd sd0 (nI (e0 % 100))) (1 - sd0) (za_ai (za_an Tg Co xx yy))) _ _ _ _ (hQ9) hP9 hD9 hS zd_G_attackOnce_163
        exact hC80 0 (za_lb Tg Co xx yy * 100 + za_to Tg Co xx yy) ls H0 [] (by omega) (by rw [hmi]; rfl) (by rfl) (lv_sub hl [3, 1, 0] rfl) hP hD hS
      · skip
        exact absurd h75 h50
    · skip
      refine lv_iconst (v := nI 1) hx hb zd_G_attackOnce_53 (by decide) ?_
      refine lv_istore_n (lv' := [(2, .int (nI 1)), (3, .int (za_fo Tg Rw xx yy (za_bn Tg Co xx yy - 1))), (1, .int (nI (za_bn Tg Co xx yy - 1))), (0, .ref aG)]) hx hb zd_G_attackOnce_54 rfl hl (by decide) rfl (fun ls hl => ?_)
      refine lv_aload_n hx hb zd_G_attackOnce_55 rfl (lv_at hl 3 rfl) ?_
      refine lv_aload_n hx hb zd_G_attackOnce_56 rfl (lv_at hl 3 rfl) ?_
      refine va_get (D := D) (ci := 3) (v := .ref aS) (C := zs_G) (T := zt_G) (N := 6) hx hb hts zi_G hown hK hP 0 rfl rfl 2 (by decide) hf19 (fun _ h9 => h9) rfl zd_G_attackOnce_57 ?_
      refine lv_iconst (v := nI 1) hx hb zd_G_attackOnce_60 (by decide) ?_
      refine za_ild hx hb hK hP 5 0 rfl rfl (k := 1) (by omega) (by decide) zd_G_attackOnce_61 ?_
      refine za_eqi (y := nI yy) (hS1) ?_
      refine lv_aload_n hx hb zd_G_attackOnce_62 rfl (lv_at hl 3 rfl) ?_
      refine va_get (D := D) (ci := 3) (v := .ref aS) (C := zs_G) (T := zt_G) (N := 6) hx hb hts zi_G hown hK hP 0 rfl rfl 2 (by decide) hf19 (fun _ h9 => h9) rfl zd_G_attackOnce_63 ?_
      refine lv_iconst (v := nI 0) hx hb zd_G_attackOnce_66 (by decide) ?_
      refine za_ild hx hb hK hP 5 0 rfl rfl (k := 0) (by omega) (by decide) zd_G_attackOnce_67 ?_
      refine za_eqi (y := nI xx) (hS0) ?_
      refine lv_iload_n hx hb zd_G_attackOnce_68 rfl (lv_at hl 2 rfl) ?_
      refine za_cV (As := [.int (nI yy), .int (nI xx), .int (nI (za_bn Tg Co xx yy - 1))]) (rest := []) ⟨hx, hb, hml, hown, hts⟩ (zc_G_firstOf ln D cI cZ aG aN aL aS aM aA ln0 aT aC ct aR aU aK lr kc sd Tg Rw yy xx (za_bn Tg Co xx yy - 1) (by omega) (by omega) (by omega)) (za_gV 3 hts zw_413 zw_415 zw_17 zw_39 zw_416 (by decide +kernel) ⟨Nat.le_of_ble_eq_true rfl, Nat.le_of_ble_eq_true rfl⟩) hK hN hP [0, 1, 2, 3, 4] rfl (q0 := 0) rfl rfl hl rfl rfl (Nat.le_of_ble_eq_true rfl) zd_G_attackOnce_69 ⟨Nat.le_of_ble_eq_true rfl, Nat.le_of_ble_eq_true rfl⟩ ?_
      refine lv_istore_n (lv' := [(3, .int (za_fo Tg Rw yy xx (za_bn Tg Co xx yy - 1))), (2, .int (nI 1)), (1, .int (nI (za_bn Tg Co xx yy - 1))), (0, .ref aG)]) hx hb zd_G_attackOnce_72 rfl hl (by decide) rfl (fun ls hl => ?_)
      refine lv_iload_n hx hb zd_G_attackOnce_73 rfl (lv_at hl 0 rfl) ?_
      refine lv_iconst (v := (-1)) hx hb zd_G_attackOnce_74 (by decide) ?_
      refine lv_icmp_ne hx hb (tgt := 80) zd_G_attackOnce_75 (by decide) (fun h75 => ?_) (fun h75 => ?_)
      · skip
        obtain ⟨hmi, hfo⟩ := za_fo_2 hrk hp h50
        have hl : lv_has ls 5 [(3, .int (nI (za_lb Tg Co xx yy * 100 + za_to Tg Co xx yy))), (2, .int (nI 1)), (1, .int (nI (za_bn Tg Co xx yy - 1))), (0, .ref aG)] := by rw [← hfo]; exact hl
        have hC80 : ∀  (sd0 : Nat) (e0 : Nat) (ls : Array Slot) (H : Heap) (locs : List Loc), sd0 ≤ 1 → sd0 = (if za_mi Tg Co xx yy = true then 0 else 1) → e0 = za_lb Tg Co xx yy * 100 + za_to Tg Co xx yy → lv_has ls 5 [(0, .ref aG), (2, .int (nI sd0)), (3, .int (nI e0))] → va_P D vwCl [(aG, .inr (3, [.ref aN, .ref aL, .ref aS, .ref aM, .ref aA, .int (nI ln0)])), (aN, .inr (0, [.ref aT, .ref aC, .int ct])), (aT, .inl (cI, 96, .inl Tg)), (aL, .inr (1, [.ref aN, .ref aR, .ref aU, .ref aK, .int (nI lr), .int (nI kc), .int (za_bi sd)])), (aR, .inl (cI, 576, .inl Rw)), (aS, .inl (cI, 2, .inl Sd)), (aM, .inl (cI, 24, .inl Md)), (aA, .inl (cI, 24, .inl An))] H → va_D A [(aG, .inr (3, [.ref aN, .ref aL, .ref aS, .ref aM, .ref aA, .int (nI ln0)])), (aN, .inr (0, [.ref aT, .ref aC, .int ct])), (aT, .inl (cI, 96, .inl Tg)), (aL, .inr (1, [.ref aN, .ref aR, .ref aU, .ref aK, .int (nI lr), .int (nI kc), .int (za_bi sd)])), (aR, .inl (cI, 576, .inl Rw)), (aS, .inl (cI, 2, .inl Sd)), (aM, .inl (cI, 24, .inl Md)), (aA, .inl (cI, 24, .inl An))] → va_S A H0 H locs → W p ln e zr_G_attackOnce sg m args below meth c H locs 0 0 Q (F0 m 80 ls []) := by
          intro sd0 e0 ls H locs hs1 hside he hl hP hD hS
          have hlb := za_lb_lt (Tg := Tg) (Co := Co) xx yy
          have hto := za_to_lt (Tg := Tg) (Co := Co) xx yy
          have hot : za_ot Tg Co xx yy < 24 := by unfold za_ot; split <;> omega
          have hpl1 : za_l1 Tg Co xx yy ln0 = ln0 + 1 := by unfold za_l1; rw [if_pos hp]
          refine lv_aload_n hx hb zd_G_attackOnce_80 rfl (lv_at hl 0 rfl) ?_
          refine lv_aload_n hx hb zd_G_attackOnce_81 rfl (lv_at hl 0 rfl) ?_
          refine va_get (D := D) (ci := 3) (v := .ref aS) (C := zs_G) (T := zt_G) (N := 6) hx hb hts zi_G hown hK hP 0 rfl rfl 2 (by decide) hf19 (fun _ h9 => h9) rfl zd_G_attackOnce_82 ?_
          refine lv_iconst (v := nI 1) hx hb zd_G_attackOnce_85 (by decide) ?_
          refine lv_iload_n hx hb zd_G_attackOnce_86 rfl (lv_at hl 1 rfl) ?_
          refine za_subN hx hb (by omega) zd_G_attackOnce_87 ?_
          refine za_ild hx hb hK hP 5 0 rfl rfl (k := 1 - sd0) (by omega) (by decide) zd_G_attackOnce_88 ?_
          refine za_eqi (y := nI (za_ot Tg Co xx yy)) (za_once1 hside hS0 hS1) ?_
          refine lv_iload_n hx hb zd_G_attackOnce_89 rfl (lv_at hl 2 rfl) ?_
          refine za_cV (As := [.int (nI (za_ot Tg Co xx yy)), .int (nI e0)]) (rest := []) ⟨hx, hb, hml, hown, hts⟩ (zc_G_bestAnswer ln D cI cZ aG aN aL aS aM aA ln0 aT aC ct aR aU aK lr kc sd Tg Rw (za_ot Tg Co xx yy) e0 (by omega) (by omega) (by omega) (by omega) (by exact hlk.1)) (za_gV 2 hts zw_417 zw_419 zw_18 zw_39 zw_420 (by decide +kernel) ⟨Nat.le_of_ble_eq_true rfl, Nat.le_of_ble_eq_true rfl⟩) hK hN hP [0, 1, 2, 3, 4] rfl (q0 := 0) rfl rfl hl rfl rfl (Nat.le_of_ble_eq_true rfl) zd_G_attackOnce_90 ⟨Nat.le_of_ble_eq_true rfl, Nat.le_of_ble_eq_true rfl⟩ ?_
          refine za_eqi (y := za_ai (za_an Tg Co xx yy)) (za_best hlk hp he) ?_
          refine lv_istore (lv' := [(4, .int (za_ai (za_an Tg Co xx yy))), (0, .ref aG), (2, .int (nI sd0)), (3, .int (nI e0))]) hx hb zd_G_attackOnce_93 hl (by decide) rfl (fun ls hl => ?_)
          refine lv_aload_n hx hb zd_G_attackOnce_95 rfl (lv_at hl 1 rfl) ?_
          refine va_get (D := D) (ci := 3) (v := .ref aM) (C := zs_G) (T := zt_G) (N := 6) hx hb hts zi_G hown hK hP 0 rfl rfl 3 (by decide) hf23 (fun _ h9 => h9) rfl zd_G_attackOnce_96 ?_
          refine lv_aload_n hx hb zd_G_attackOnce_99 rfl (lv_at hl 1 rfl) ?_
          refine va_get (D := D) (ci := 3) (v := .int (nI ln0)) (C := zs_G) (T := zt_G) (N := 6) hx hb hts zi_G hown hK hP 0 rfl rfl 5 (by decide) hf55 (fun _ h9 => h9) rfl zd_G_attackOnce_100 ?_
          refine lv_iload_n hx hb zd_G_attackOnce_103 rfl (lv_at hl 2 rfl) ?_
          refine lv_sipush (v := nI 1000) hx hb zd_G_attackOnce_104 (by decide) ?_
          refine za_mulN hx hb zd_G_attackOnce_107 ?_
          refine lv_iload_n hx hb zd_G_attackOnce_108 rfl (lv_at hl 3 rfl) ?_
          refine za_addN hx hb zd_G_attackOnce_109 ?_
          refine za_ist hx hb hK hP hD hS 6 0 rfl rfl (k := ln0) (by omega) (by decide) zd_G_attackOnce_110 (fun H locs hP hD hS => ?_)
          have hP : va_P D vwCl [(aG, .inr (3, [.ref aN, .ref aL, .ref aS, .ref aM, .ref aA, .int (nI ln0)])), (aN, .inr (0, [.ref aT, .ref aC, .int ct])), (aT, .inl (cI, 96, .inl Tg)), (aL, .inr (1, [.ref aN, .ref aR, .ref aU, .ref aK, .int (nI lr), .int (nI kc), .int (za_bi sd)])), (aR, .inl (cI, 576, .inl Rw)), (aS, .inl (cI, 2, .inl Sd)), (aM, .inl (cI, 24, .inl (upd Md ln0 (nI ((sd0 * 1000) + e0))))), (aA, .inl (cI, 24, .inl An))] H := hP
          have hD : va_D A [(aG, .inr (3, [.ref aN, .ref aL, .ref aS, .ref aM, .ref aA, .int (nI ln0)])), (aN, .inr (0, [.ref aT, .ref aC, .int ct])), (aT, .inl (cI, 96, .inl Tg)), (aL, .inr (1, [.ref aN, .ref aR, .ref aU, .ref aK, .int (nI lr), .int (nI kc), .int (za_bi sd)])), (aR, .inl (cI, 576, .inl Rw)), (aS, .inl (cI, 2, .inl Sd)), (aM, .inl (cI, 24, .inl (upd Md ln0 (nI ((sd0 * 1000) + e0))))), (aA, .inl (cI, 24, .inl An))] := hD
          refine lv_aload_n hx hb zd_G_attackOnce_111 rfl (lv_at hl 1 rfl) ?_
          refine va_get (D := D) (ci := 3) (v := .ref aA) (C := zs_G) (T := zt_G) (N := 6) hx hb hts zi_G hown hK hP 0 rfl rfl 4 (by decide) hf26 (fun _ h9 => h9) rfl zd_G_attackOnce_112 ?_
          refine lv_aload_n hx hb zd_G_attackOnce_115 rfl (lv_at hl 1 rfl) ?_
          refine va_get (D := D) (ci := 3) (v := .int (nI ln0)) (C := zs_G) (T := zt_G) (N := 6) hx hb hts zi_G hown hK hP 0 rfl rfl 5 (by decide) hf55 (fun _ h9 => h9) rfl zd_G_attackOnce_116 ?_
          refine lv_iload hx hb zd_G_attackOnce_119 (lv_at hl 0 rfl) ?_
          refine za_ist hx hb hK hP hD hS 7 0 rfl rfl (k := ln0) (by omega) (by decide) zd_G_attackOnce_121 (fun H locs hP hD hS => ?_)
          have hP : va_P D vwCl [(aG, .inr (3, [.ref aN, .ref aL, .ref aS, .ref aM, .ref aA, .int (nI ln0)])), (aN, .inr (0, [.ref aT, .ref aC, .int ct])), (aT, .inl (cI, 96, .inl Tg)), (aL, .inr (1, [.ref aN, .ref aR, .ref aU, .ref aK, .int (nI lr), .int (nI kc), .int (za_bi sd)])), (aR, .inl (cI, 576, .inl Rw)), (aS, .inl (cI, 2, .inl Sd)), (aM, .inl (cI, 24, .inl (upd Md ln0 (nI ((sd0 * 1000) + e0))))), (aA, .inl (cI, 24, .inl (upd An ln0 (za_ai (za_an Tg Co xx yy)))))] H := hP
          have hD : va_D A [(aG, .inr (3, [.ref aN, .ref aL, .ref aS, .ref aM, .ref aA, .int (nI ln0)])), (aN, .inr (0, [.ref aT, .ref aC, .int ct])), (aT, .inl (cI, 96, .inl Tg)), (aL, .inr (1, [.ref aN, .ref aR, .ref aU, .ref aK, .int (nI lr), .int (nI kc), .int (za_bi sd)])), (aR, .inl (cI, 576, .inl Rw)), (aS, .inl (cI, 2, .inl Sd)), (aM, .inl (cI, 24, .inl (upd Md ln0 (nI ((sd0 * 1000) + e0))))), (aA, .inl (cI, 24, .inl (upd An ln0 (za_ai (za_an Tg Co xx yy)))))] := hD
          refine lv_aload_n hx hb zd_G_attackOnce_122 rfl (lv_at hl 1 rfl) ?_
          refine lv_dup hx hb zd_G_attackOnce_123 rfl ?_
          refine va_get (D := D) (ci := 3) (v := .int (nI ln0)) (C := zs_G) (T := zt_G) (N := 6) hx hb hts zi_G hown hK hP 0 rfl rfl 5 (by decide) hf55 (fun _ h9 => h9) rfl zd_G_attackOnce_124 ?_
          refine lv_iconst (v := nI 1) hx hb zd_G_attackOnce_127 (by decide) ?_
          refine za_addN hx hb zd_G_attackOnce_128 ?_
          refine va_put (D := D) (ci := 3) (v := .int (nI (ln0 + 1))) (ty := .int) (C := zs_G) (T := zt_G) (N := 6) hx hb hts zi_G zy_G zk_G zn_G hown hK hP hD hS 0 rfl rfl 5 (by decide) hf55 (fun _ h9 => h9) rfl (by decide +kernel) rfl rfl (Nat.le_of_ble_eq_true rfl) zd_G_attackOnce_129 (fun H locs hP hD hS => ?_)
          have hP : va_P D vwCl [(aG, .inr (3, [.ref aN, .ref aL, .ref aS, .ref aM, .ref aA, .int (nI (ln0 + 1))])), (aN, .inr (0, [.ref aT, .ref aC, .int ct])), (aT, .inl (cI, 96, .inl Tg)), (aL, .inr (1, [.ref aN, .ref aR, .ref aU, .ref aK, .int (nI lr), .int (nI kc), .int (za_bi sd)])), (aR, .inl (cI, 576, .inl Rw)), (aS, .inl (cI, 2, .inl Sd)), (aM, .inl (cI, 24, .inl (upd Md ln0 (nI ((sd0 * 1000) + e0))))), (aA, .inl (cI, 24, .inl (upd An ln0 (za_ai (za_an Tg Co xx yy)))))] H := hP
          have hD : va_D A [(aG, .inr (3, [.ref aN, .ref aL, .ref aS, .ref aM, .ref aA, .int (nI (ln0 + 1))])), (aN, .inr (0, [.ref aT, .ref aC, .int ct])), (aT, .inl (cI, 96, .inl Tg)), (aL, .inr (1, [.ref aN, .ref aR, .ref aU, .ref aK, .int (nI lr), .int (nI kc), .int (za_bi sd)])), (aR, .inl (cI, 576, .inl Rw)), (aS, .inl (cI, 2, .inl Sd)), (aM, .inl (cI, 24, .inl (upd Md ln0 (nI ((sd0 * 1000) + e0))))), (aA, .inl (cI, 24, .inl (upd An ln0 (za_ai (za_an Tg Co xx yy)))))] := hD
          refine lv_aload_n hx hb zd_G_attackOnce_132 rfl (lv_at hl 1 rfl) ?_
          refine va_get (D := D) (ci := 3) (v := .ref aS) (C := zs_G) (T := zt_G) (N := 6) hx hb hts zi_G hown hK hP 0 rfl rfl 2 (by decide) hf19 (fun _ h9 => h9) rfl zd_G_attackOnce_133 ?_
          refine lv_iload_n hx hb zd_G_attackOnce_136 rfl (lv_at hl 2 rfl) ?_
          refine lv_iload_n hx hb zd_G_attackOnce_137 rfl (lv_at hl 3 rfl) ?_
          refine lv_bipush (v := nI 100) hx hb zd_G_attackOnce_138 (by decide) ?_
          refine za_remN hx hb (by omega) (by decide) (by decide) zd_G_attackOnce_140 ?_
          refine za_ist hx hb hK hP hD hS 5 0 rfl rfl (k := sd0) (by omega) (by decide) zd_G_attackOnce_141 (fun H locs hP hD hS => ?_)
          have hP : va_P D vwCl [(aG, .inr (3, [.ref aN, .ref aL, .ref aS, .ref aM, .ref aA, .int (nI (ln0 + 1))])), (aN, .inr (0, [.ref aT, .ref aC, .int ct])), (aT, .inl (cI, 96, .inl Tg)), (aL, .inr (1, [.ref aN, .ref aR, .ref aU, .ref aK, .int (nI lr), .int (nI kc), .int (za_bi sd)])), (aR, .inl (cI, 576, .inl Rw)), (aS, .inl (cI, 2, .inl (upd Sd sd0 (nI (e0 % 100))))), (aM, .inl (cI, 24, .inl (upd Md ln0 (nI ((sd0 * 1000) + e0))))), (aA, .inl (cI, 24, .inl (upd An ln0 (za_ai (za_an Tg Co xx yy)))))] H := hP
          have hD : va_D A [(aG, .inr (3, [.ref aN, .ref aL, .ref aS, .ref aM, .ref aA, .int (nI (ln0 + 1))])), (aN, .inr (0, [.ref aT, .ref aC, .int ct])), (aT, .inl (cI, 96, .inl Tg)), (aL, .inr (1, [.ref aN, .ref aR, .ref aU, .ref aK, .int (nI lr), .int (nI kc), .int (za_bi sd)])), (aR, .inl (cI, 576, .inl Rw)), (aS, .inl (cI, 2, .inl (upd Sd sd0 (nI (e0 % 100))))), (aM, .inl (cI, 24, .inl (upd Md ln0 (nI ((sd0 * 1000) + e0))))), (aA, .inl (cI, 24, .inl (upd An ln0 (za_ai (za_an Tg Co xx yy)))))] := hD
          refine lv_aload_n hx hb zd_G_attackOnce_142 rfl (lv_at hl 1 rfl) ?_
          refine va_get (D := D) (ci := 3) (v := .ref aS) (C := zs_G) (T := zt_G) (N := 6) hx hb hts zi_G hown hK hP 0 rfl rfl 2 (by decide) hf19 (fun _ h9 => h9) rfl zd_G_attackOnce_143 ?_
          refine lv_iconst (v := nI 1) hx hb zd_G_attackOnce_146 (by decide) ?_
          refine lv_iload_n hx hb zd_G_attackOnce_147 rfl (lv_at hl 2 rfl) ?_
          refine za_subN hx hb (by omega) zd_G_attackOnce_148 ?_
          refine lv_iload hx hb zd_G_attackOnce_149 (lv_at hl 0 rfl) ?_
          refine za_ist hx hb hK hP hD hS 5 0 rfl rfl (k := 1 - sd0) (by omega) (by decide) zd_G_attackOnce_151 (fun H locs hP hD hS => ?_)
          have hP : va_P D vwCl [(aG, .inr (3, [.ref aN, .ref aL, .ref aS, .ref aM, .ref aA, .int (nI (ln0 + 1))])), (aN, .inr (0, [.ref aT, .ref aC, .int ct])), (aT, .inl (cI, 96, .inl Tg)), (aL, .inr (1, [.ref aN, .ref aR, .ref aU, .ref aK, .int (nI lr), .int (nI kc), .int (za_bi sd)])), (aR, .inl (cI, 576, .inl Rw)), (aS, .inl (cI, 2, .inl (upd (upd Sd sd0 (nI (e0 % 100))) (1 - sd0) (za_ai (za_an Tg Co xx yy))))), (aM, .inl (cI, 24, .inl (upd Md ln0 (nI ((sd0 * 1000) + e0))))), (aA, .inl (cI, 24, .inl (upd An ln0 (za_ai (za_an Tg Co xx yy)))))] H := hP
          have hD : va_D A [(aG, .inr (3, [.ref aN, .ref aL, .ref aS, .ref aM, .ref aA, .int (nI (ln0 + 1))])), (aN, .inr (0, [.ref aT, .ref aC, .int ct])), (aT, .inl (cI, 96, .inl Tg)), (aL, .inr (1, [.ref aN, .ref aR, .ref aU, .ref aK, .int (nI lr), .int (nI kc), .int (za_bi sd)])), (aR, .inl (cI, 576, .inl Rw)), (aS, .inl (cI, 2, .inl (upd (upd Sd sd0 (nI (e0 % 100))) (1 - sd0) (za_ai (za_an Tg Co xx yy))))), (aM, .inl (cI, 24, .inl (upd Md ln0 (nI ((sd0 * 1000) + e0))))), (aA, .inl (cI, 24, .inl (upd An ln0 (za_ai (za_an Tg Co xx yy)))))] := hD
          refine lv_iload hx hb zd_G_attackOnce_152 (lv_at hl 0 rfl) ?_
          refine lv_iconst (v := (-1)) hx hb zd_G_attackOnce_154 (by decide) ?_
          refine lv_icmp_eq hx hb (tgt := 162) zd_G_attackOnce_155 (by decide) (fun h155 => ?_) (fun h155 => ?_)
          · skip
            refine lv_iconst (v := nI 0) hx hb zd_G_attackOnce_162 (by decide) ?_
            have e1 : nI (za_l1 Tg Co xx yy ln0) = nI (ln0 + 1) := by first | with_reducible rfl | (first | (unfold za_l1; rw [za_bvk_f h23]; rfl) | (unfold za_M1; rw [za_bvk_f h23]; rfl) | (unfold za_A1; rw [za_bvk_f h23]; rfl) | (unfold za_l1; rw [if_pos hp]) | (unfold za_M1; rw [if_pos hp, za_once2 hside he]) | (unfold za_A1; rw [if_pos hp]))
            have e2 : za_M1 Tg Co xx yy ln0 Md = upd Md ln0 (nI ((sd0 * 1000) + e0)) := by first | with_reducible rfl | (first | (unfold za_l1; rw [za_bvk_f h23]; rfl) | (unfold za_M1; rw [za_bvk_f h23]; rfl) | (unfold za_A1; rw [za_bvk_f h23]; rfl) | (unfold za_l1; rw [if_pos hp]) | (unfold za_M1; rw [if_pos hp, za_once2 hside he]) | (unfold za_A1; rw [if_pos hp]))
            have e3 : za_A1 Tg Co xx yy ln0 An = upd An ln0 (za_ai (za_an Tg Co xx yy)) := by first | with_reducible rfl | (first | (unfold za_l1; rw [za_bvk_f h23]; rfl) | (unfold za_M1; rw [za_bvk_f h23]; rfl) | (unfold za_A1; rw [za_bvk_f h23]; rfl) | (unfold za_l1; rw [if_pos hp]) | (unfold za_M1; rw [if_pos hp, za_once2 hside he]) | (unfold za_A1; rw [if_pos hp]))
            have hP9 : va_P D vwCl [(aG, .inr (3, [.ref aN, .ref aL, .ref aS, .ref aM, .ref aA, .int (nI (za_l1 Tg Co xx yy ln0))])), (aN, .inr (0, [.ref aT, .ref aC, .int ct])), (aT, .inl (cI, 96, .inl Tg)), (aL, .inr (1, [.ref aN, .ref aR, .ref aU, .ref aK, .int (nI lr), .int (nI kc), .int (za_bi sd)])), (aR, .inl (cI, 576, .inl Rw)), (aS, .inl (cI, 2, .inl (upd (upd Sd sd0 (nI (e0 % 100))) (1 - sd0) (za_ai (za_an Tg Co xx yy))))), (aM, .inl (cI, 24, .inl (za_M1 Tg Co xx yy ln0 Md))), (aA, .inl (cI, 24, .inl (za_A1 Tg Co xx yy ln0 An)))] H := by rw [e1, e2, e3]; exact hP
            have hD9 : va_D A [(aG, .inr (3, [.ref aN, .ref aL, .ref aS, .ref aM, .ref aA, .int (nI (za_l1 Tg Co xx yy ln0))])), (aN, .inr (0, [.ref aT, .ref aC, .int ct])), (aT, .inl (cI, 96, .inl Tg)), (aL, .inr (1, [.ref aN, .ref aR, .ref aU, .ref aK, .int (nI lr), .int (nI kc), .int (za_bi sd)])), (aR, .inl (cI, 576, .inl Rw)), (aS, .inl (cI, 2, .inl (upd (upd Sd sd0 (nI (e0 % 100))) (1 - sd0) (za_ai (za_an Tg Co xx yy))))), (aM, .inl (cI, 24, .inl (za_M1 Tg Co xx yy ln0 Md))), (aA, .inl (cI, 24, .inl (za_A1 Tg Co xx yy ln0 An)))] := by rw [e1, e2, e3]; exact hD
            have hQ9 : (nI 0) = za_bi (za_go Tg Co xx yy) ∧ (za_go Tg Co xx yy = true → (upd (upd Sd sd0 (nI (e0 % 100))) (1 - sd0) (za_ai (za_an Tg Co xx yy))) 0 = nI (za_x1 Tg Co xx yy) ∧ (upd (upd Sd sd0 (nI (e0 % 100))) (1 - sd0) (za_ai (za_an Tg Co xx yy))) 1 = nI (za_y1 Tg Co xx yy)) := by first | exact ⟨za_b0 (by unfold za_go; rw [hp, (za_ai_m1 (za_an_le xx yy)).mp h155]; rfl), fun z => absurd z (by simp [za_go, (za_ai_m1 (za_an_le xx yy)).mp h155])⟩ | exact ⟨za_b1 (by unfold za_go; rw [hp, decide_eq_false (fun z => h155 ((za_ai_m1 (za_an_le xx yy)).mpr z))]; rfl), fun _ => za_once3 hside he (fun z => h155 ((za_ai_m1 (za_an_le xx yy)).mpr z))⟩
            exact hret _ (upd (upd Sd sd0 (nI (e0 % 100))) (1 - sd0) (za_ai (za_an Tg Co xx yy))) _ _ _ _ (hQ9) hP9 hD9 hS zd_G_attackOnce_163
          · skip
            refine lv_iconst (v := nI 1) hx hb zd_G_attackOnce_158 (by decide) ?_
            refine lv_goto hx hb (tgt := 163) zd_G_attackOnce_159 (by decide) ?_
            have e1 : nI (za_l1 Tg Co xx yy ln0) = nI (ln0 + 1) := by first | with_reducible rfl | (first | (unfold za_l1; rw [za_bvk_f h23]; rfl) | (unfold za_M1; rw [za_bvk_f h23]; rfl) | (unfold za_A1; rw [za_bvk_f h23]; rfl) | (unfold za_l1; rw [if_pos hp]) | (unfold za_M1; rw [if_pos hp, za_once2 hside he]) | (unfold za_A1; rw [if_pos hp]))
            have e2 : za_M1 Tg Co xx yy ln0 Md = upd Md ln0 (nI ((sd0 * 1000) + e0)) := by first | with_reducible rfl | (first | (unfold za_l1; rw [za_bvk_f h23]; rfl) | (unfold za_M1; rw [za_bvk_f h23]; rfl) | (unfold za_A1; rw [za_bvk_f h23]; rfl) | (unfold za_l1; rw [if_pos hp]) | (unfold za_M1; rw [if_pos hp, za_once2 hside he]) | (unfold za_A1; rw [if_pos hp]))
            have e3 : za_A1 Tg Co xx yy ln0 An = upd An ln0 (za_ai (za_an Tg Co xx yy)) := by first | with_reducible rfl | (first | (unfold za_l1; rw [za_bvk_f h23]; rfl) | (unfold za_M1; rw [za_bvk_f h23]; rfl) | (unfold za_A1; rw [za_bvk_f h23]; rfl) | (unfold za_l1; rw [if_pos hp]) | (unfold za_M1; rw [if_pos hp, za_once2 hside he]) | (unfold za_A1; rw [if_pos hp]))
            have hP9 : va_P D vwCl [(aG, .inr (3, [.ref aN, .ref aL, .ref aS, .ref aM, .ref aA, .int (nI (za_l1 Tg Co xx yy ln0))])), (aN, .inr (0, [.ref aT, .ref aC, .int ct])), (aT, .inl (cI, 96, .inl Tg)), (aL, .inr (1, [.ref aN, .ref aR, .ref aU, .ref aK, .int (nI lr), .int (nI kc), .int (za_bi sd)])), (aR, .inl (cI, 576, .inl Rw)), (aS, .inl (cI, 2, .inl (upd (upd Sd sd0 (nI (e0 % 100))) (1 - sd0) (za_ai (za_an Tg Co xx yy))))), (aM, .inl (cI, 24, .inl (za_M1 Tg Co xx yy ln0 Md))), (aA, .inl (cI, 24, .inl (za_A1 Tg Co xx yy ln0 An)))] H := by rw [e1, e2, e3]; exact hP
            have hD9 : va_D A [(aG, .inr (3, [.ref aN, .ref aL, .ref aS, .ref aM, .ref aA, .int (nI (za_l1 Tg Co xx yy ln0))])), (aN, .inr (0, [.ref aT, .ref aC, .int ct])), (aT, .inl (cI, 96, .inl Tg)), (aL, .inr (1, [.ref aN, .ref aR, .ref aU, .ref aK, .int (nI lr), .int (nI kc), .int (za_bi sd)])), (aR, .inl (cI, 576, .inl Rw)), (aS, .inl (cI, 2, .inl (upd (upd Sd sd0 (nI (e0 % 100))) (1 - sd0) (za_ai (za_an Tg Co xx yy))))), (aM, .inl (cI, 24, .inl (za_M1 Tg Co xx yy ln0 Md))), (aA, .inl (cI, 24, .inl (za_A1 Tg Co xx yy ln0 An)))] := by rw [e1, e2, e3]; exact hD
            have hQ9 : (nI 1) = za_bi (za_go Tg Co xx yy) ∧ (za_go Tg Co xx yy = true → (upd (upd Sd sd0 (nI (e0 % 100))) (1 - sd0) (za_ai (za_an Tg Co xx yy))) 0 = nI (za_x1 Tg Co xx yy) ∧ (upd (upd Sd sd0 (nI (e0 % 100))) (1 - sd0) (za_ai (za_an Tg Co xx yy))) 1 = nI (za_y1 Tg Co xx yy)) := by first | exact ⟨za_b0 (by unfold za_go; rw [hp, (za_ai_m1 (za_an_le xx yy)).mp h155]; rfl), fun z => absurd z (by simp [za_go, (za_ai_m1 (za_an_le xx yy)).mp h155])⟩ | exact ⟨za_b1 (by unfold za_go; rw [hp, decide_eq_false (fun z => h155 ((za_ai_m1 (za_an_le xx yy)).mpr z))]; rfl), fun _ => za_once3 hside he (fun z => h155 ((za_ai_m1 (za_an_le xx yy)).mpr z))⟩
            exact hret _ (upd (upd Sd sd0 (nI (e0 % 100))) (1 - sd0) (za_ai (za_an Tg Co xx yy))) _ _ _ _ (hQ9) hP9 hD9 hS zd_G_attackOnce_163
        exact hC80 1 (za_lb Tg Co xx yy * 100 + za_to Tg Co xx yy) ls H0 [] (by omega) (by rw [hmi]; rfl) (by rfl) (lv_sub hl [3, 1, 0] rfl) hP hD hS
      · skip
        exact absurd (h75.symm.trans (za_fo_2 hrk hp h50).2).symm (za_m1 (by have := za_lb_lt (Tg := Tg) (Co := Co) xx yy; have := za_to_lt (Tg := Tg) (Co := Co) xx yy; omega))
  · skip
    refine lv_iconst (v := nI 0) hx hb zd_G_attackOnce_26 (by decide) ?_
    have e1 : nI (za_l1 Tg Co xx yy ln0) = nI ln0 := by first | with_reducible rfl | (first | (unfold za_l1; rw [za_bvk_f h23]; rfl) | (unfold za_M1; rw [za_bvk_f h23]; rfl) | (unfold za_A1; rw [za_bvk_f h23]; rfl) | (unfold za_l1; rw [if_pos hp]) | (unfold za_M1; rw [if_pos hp, za_once2 hside he]) | (unfold za_A1; rw [if_pos hp]))
    have e2 : za_M1 Tg Co xx yy ln0 Md = Md := by first | with_reducible rfl | (first | (unfold za_l1; rw [za_bvk_f h23]; rfl) | (unfold za_M1; rw [za_bvk_f h23]; rfl) | (unfold za_A1; rw [za_bvk_f h23]; rfl) | (unfold za_l1; rw [if_pos hp]) | (unfold za_M1; rw [if_pos hp, za_once2 hside he]) | (unfold za_A1; rw [if_pos hp]))
    have e3 : za_A1 Tg Co xx yy ln0 An = An := by first | with_reducible rfl | (first | (unfold za_l1; rw [za_bvk_f h23]; rfl) | (unfold za_M1; rw [za_bvk_f h23]; rfl) | (unfold za_A1; rw [za_bvk_f h23]; rfl) | (unfold za_l1; rw [if_pos hp]) | (unfold za_M1; rw [if_pos hp, za_once2 hside he]) | (unfold za_A1; rw [if_pos hp]))
    have hP9 : va_P D vwCl [(aG, .inr (3, [.ref aN, .ref aL, .ref aS, .ref aM, .ref aA, .int (nI (za_l1 Tg Co xx yy ln0))])), (aN, .inr (0, [.ref aT, .ref aC, .int ct])), (aT, .inl (cI, 96, .inl Tg)), (aL, .inr (1, [.ref aN, .ref aR, .ref aU, .ref aK, .int (nI lr), .int (nI kc), .int (za_bi sd)])), (aR, .inl (cI, 576, .inl Rw)), (aS, .inl (cI, 2, .inl Sd)), (aM, .inl (cI, 24, .inl (za_M1 Tg Co xx yy ln0 Md))), (aA, .inl (cI, 24, .inl (za_A1 Tg Co xx yy ln0 An)))] H0 := by rw [e1, e2, e3]; exact hP
    have hD9 : va_D A [(aG, .inr (3, [.ref aN, .ref aL, .ref aS, .ref aM, .ref aA, .int (nI (za_l1 Tg Co xx yy ln0))])), (aN, .inr (0, [.ref aT, .ref aC, .int ct])), (aT, .inl (cI, 96, .inl Tg)), (aL, .inr (1, [.ref aN, .ref aR, .ref aU, .ref aK, .int (nI lr), .int (nI kc), .int (za_bi sd)])), (aR, .inl (cI, 576, .inl Rw)), (aS, .inl (cI, 2, .inl Sd)), (aM, .inl (cI, 24, .inl (za_M1 Tg Co xx yy ln0 Md))), (aA, .inl (cI, 24, .inl (za_A1 Tg Co xx yy ln0 An)))] := by rw [e1, e2, e3]; exact hD
    have hQ9 : (nI 0) = za_bi (za_go Tg Co xx yy) ∧ (za_go Tg Co xx yy = true → Sd 0 = nI (za_x1 Tg Co xx yy) ∧ Sd 1 = nI (za_y1 Tg Co xx yy)) := by exact ⟨za_b0 (by unfold za_go; rw [za_bvk_f h23]; rfl), fun z => absurd z (by simp [za_go, za_bvk_f h23])⟩
    exact hret _ Sd _ _ _ _ (hQ9) hP9 hD9 hS zd_G_attackOnce_27
end
section
def zr_G_playThrough : Room := { frames := 4, cells := 0, slots := 0, locals := 97 }
set_option maxHeartbeats 4000000 in
set_option maxRecDepth 100000 in
theorem zc_G_playThrough (ln : Launch) (D : va_G) (cI cZ : ClassId) (sz : Nat) (aG : Nat) (aN : Nat) (aL : Nat) (aS : Nat) (aM : Nat) (aA : Nat) (ln0 : Nat) (aT : Nat) (aC : Nat) (ct : Int32) (aR : Nat) (aU : Nat) (aK : Nat) (lr : Nat) (kc : Nat) (sd : Bool) (Tg : Nat → Int32) (Rw : Nat → Int32) (Co : Nat → Int32) (Kd : Nat → Int32) (Sd : Nat → Int32) (Md : Nat → Int32) (An : Nat → Int32) (s : Nat) (t : Nat) (hs0 : s < 24) (ht0 : t < 24) (hlk : za_like Tg Co Rw lr Kd kc) : Met ln zm_G_playThrough (Cond.code zm_G_playThrough zo_G_playThrough 5 (some .int) :: zb_big) zr_G_playThrough (za_Pw D vwCl [(cI, .int), (cZ, .boolean)] [.ref aG, .int (nI s), .int (nI t)] [(aG, .inr (3, [.ref aN, .ref aL, .ref aS, .ref aM, .ref aA, .int (nI ln0)])), (aN, .inr (0, [.ref aT, .ref aC, .int ct])), (aT, .inl (cI, 96, .inl Tg)), (aL, .inr (1, [.ref aN, .ref aR, .ref aU, .ref aK, .int (nI lr), .int (nI kc), .int (za_bi sd)])), (aR, .inl (cI, 576, .inl Rw)), (aS, .inl (cI, 2, .inl Sd)), (aM, .inl (cI, 24, .inl Md)), (aA, .inl (cI, 24, .inl An))] sz) (va_Qi (fun (r : Int32) (u : (Nat → Int32) × (Nat → Int32) × (Nat → Int32) × Nat) => r = nI (za_pn Tg Co s t) ∧ u.2.2.2 = za_pn Tg Co s t ∧ (∀ q, q < za_pn Tg Co s t → u.2.1 q = nI (za_cd9 Tg Co (za_tr Tg Co s t q).2.1 (za_tr Tg Co s t q).2.2)) ∧ (∀ q, q < za_pn Tg Co s t → u.2.2.1 q = za_ai (za_an Tg Co (za_tr Tg Co s t q).2.1 (za_tr Tg Co s t q).2.2))) (za_B D vwCl [(aG, .inr (3, [.ref aN, .ref aL, .ref aS, .ref aM, .ref aA, .int (nI ln0)])), (aN, .inr (0, [.ref aT, .ref aC, .int ct])), (aT, .inl (cI, 96, .inl Tg)), (aL, .inr (1, [.ref aN, .ref aR, .ref aU, .ref aK, .int (nI lr), .int (nI kc), .int (za_bi sd)])), (aR, .inl (cI, 576, .inl Rw)), (aS, .inl (cI, 2, .inl Sd)), (aM, .inl (cI, 24, .inl Md)), (aA, .inl (cI, 24, .inl An))] sz (fun (u : (Nat → Int32) × (Nat → Int32) × (Nat → Int32) × Nat) => [(aG, .inr (3, [.ref aN, .ref aL, .ref aS, .ref aM, .ref aA, .int (nI u.2.2.2)])), (aN, .inr (0, [.ref aT, .ref aC, .int ct])), (aT, .inl (cI, 96, .inl Tg)), (aL, .inr (1, [.ref aN, .ref aR, .ref aU, .ref aK, .int (nI lr), .int (nI kc), .int (za_bi sd)])), (aR, .inl (cI, 576, .inl Rw)), (aS, .inl (cI, 2, .inl u.1)), (aM, .inl (cI, 24, .inl u.2.1)), (aA, .inl (cI, 24, .inl u.2.2.1))])) (va_A [(aG, .inr (3, [.ref aN, .ref aL, .ref aS, .ref aM, .ref aA, .int (nI ln0)])), (aN, .inr (0, [.ref aT, .ref aC, .int ct])), (aT, .inl (cI, 96, .inl Tg)), (aL, .inr (1, [.ref aN, .ref aR, .ref aU, .ref aK, .int (nI lr), .int (nI kc), .int (za_bi sd)])), (aR, .inl (cI, 576, .inl Rw)), (aS, .inl (cI, 2, .inl Sd)), (aM, .inl (cI, 24, .inl Md)), (aA, .inl (cI, 24, .inl An))] sz)) 0 0 (va_A [(aG, .inr (3, [.ref aN, .ref aL, .ref aS, .ref aM, .ref aA, .int (nI ln0)])), (aN, .inr (0, [.ref aT, .ref aC, .int ct])), (aT, .inl (cI, 96, .inl Tg)), (aL, .inr (1, [.ref aN, .ref aR, .ref aU, .ref aK, .int (nI lr), .int (nI kc), .int (za_bi sd)])), (aR, .inl (cI, 576, .inl Rw)), (aS, .inl (cI, 2, .inl Sd)), (aM, .inl (cI, 24, .inl Md)), (aA, .inl (cI, 24, .inl An))] sz) := by
  refine za_wi (cc := zo_G_playThrough) (maxL := 5) (ty := .int) (by decide) (Nat.le_of_ble_eq_true rfl) (fun _ _ _ => rfl) ?_
  intro p e sg m args below meth c H0 A Q hx hb hml hts hown hmn hP hK hN hD hA hS hret ls hl
  have hP : va_P D vwCl [(aG, .inr (3, [.ref aN, .ref aL, .ref aS, .ref aM, .ref aA, .int (nI ln0)])), (aN, .inr (0, [.ref aT, .ref aC, .int ct])), (aT, .inl (cI, 96, .inl Tg)), (aL, .inr (1, [.ref aN, .ref aR, .ref aU, .ref aK, .int (nI lr), .int (nI kc), .int (za_bi sd)])), (aR, .inl (cI, 576, .inl Rw)), (aS, .inl (cI, 2, .inl Sd)), (aM, .inl (cI, 24, .inl Md)), (aA, .inl (cI, 24, .inl An))] H0 := hP
  have hD : va_D A [(aG, .inr (3, [.ref aN, .ref aL, .ref aS, .ref aM, .ref aA, .int (nI ln0)])), (aN, .inr (0, [.ref aT, .ref aC, .int ct])), (aT, .inl (cI, 96, .inl Tg)), (aL, .inr (1, [.ref aN, .ref aR, .ref aU, .ref aK, .int (nI lr), .int (nI kc), .int (za_bi sd)])), (aR, .inl (cI, 576, .inl Rw)), (aS, .inl (cI, 2, .inl Sd)), (aM, .inl (cI, 24, .inl Md)), (aA, .inl (cI, 24, .inl An))] := hD
  have hl : lv_has ls 5 [(0, .ref aG), (1, .int (nI s)), (2, .int (nI t))] := hl
  have hf19 := hts _ zw_122
  have hf55 := hts _ zw_125
  have hf23 := hts _ zw_123
  refine lv_aload_n hx hb zd_G_playThrough_0 rfl (lv_at hl 0 rfl) ?_
  refine va_get (D := D) (ci := 3) (v := .ref aS) (C := zs_G) (T := zt_G) (N := 6) hx hb hts zi_G hown hK hP 0 rfl rfl 2 (by decide) hf19 (fun _ h9 => h9) rfl zd_G_playThrough_1 ?_
  refine lv_iconst (v := nI 0) hx hb zd_G_playThrough_4 (by decide) ?_
  refine lv_iload_n hx hb zd_G_playThrough_5 rfl (lv_at hl 1 rfl) ?_
  refine za_ist hx hb hK hP hD hS 5 0 rfl rfl (k := 0) (by omega) (by decide) zd_G_playThrough_6 (fun H locs hP hD hS => ?_)
  have hP : va_P D vwCl [(aG, .inr (3, [.ref aN, .ref aL, .ref aS, .ref aM, .ref aA, .int (nI ln0)])), (aN, .inr (0, [.ref aT, .ref aC, .int ct])), (aT, .inl (cI, 96, .inl Tg)), (aL, .inr (1, [.ref aN, .ref aR, .ref aU, .ref aK, .int (nI lr), .int (nI kc), .int (za_bi sd)])), (aR, .inl (cI, 576, .inl Rw)), (aS, .inl (cI, 2, .inl (upd Sd 0 (nI s)))), (aM, .inl (cI, 24, .inl Md)), (aA, .inl (cI, 24, .inl An))] H := hP
  have hD : va_D A [(aG, .inr (3, [.ref aN, .ref aL, .ref aS, .ref aM, .ref aA, .int (nI ln0)])), (aN, .inr (0, [.ref aT, .ref aC, .int ct])), (aT, .inl (cI, 96, .inl Tg)), (aL, .inr (1, [.ref aN, .ref aR, .ref aU, .ref aK, .int (nI lr), .int (nI kc), .int (za_bi sd)])), (aR, .inl (cI, 576, .inl Rw)), (aS, .inl (cI, 2, .inl (upd Sd 0 (nI s)))), (aM, .inl (cI, 24, .inl Md)), (aA, .inl (cI, 24, .inl An))] := hD
  refine lv_aload_n hx hb zd_G_playThrough_7 rfl (lv_at hl 0 rfl) ?_
  refine va_get (D := D) (ci := 3) (v := .ref aS) (C := zs_G) (T := zt_G) (N := 6) hx hb hts zi_G hown hK hP 0 rfl rfl 2 (by decide) hf19 (fun _ h9 => h9) rfl zd_G_playThrough_8 ?_
  refine lv_iconst (v := nI 1) hx hb zd_G_playThrough_11 (by decide) ?_
  refine lv_iload_n hx hb zd_G_playThrough_12 rfl (lv_at hl 2 rfl) ?_
  refine za_ist hx hb hK hP hD hS 5 0 rfl rfl (k := 1) (by omega) (by decide) zd_G_playThrough_13 (fun H locs hP hD hS => ?_)
  have hP : va_P D vwCl [(aG, .inr (3, [.ref aN, .ref aL, .ref aS, .ref aM, .ref aA, .int (nI ln0)])), (aN, .inr (0, [.ref aT, .ref aC, .int ct])), (aT, .inl (cI, 96, .inl Tg)), (aL, .inr (1, [.ref aN, .ref aR, .ref aU, .ref aK, .int (nI lr), .int (nI kc), .int (za_bi sd)])), (aR, .inl (cI, 576, .inl Rw)), (aS, .inl (cI, 2, .inl (upd (upd Sd 0 (nI s)) 1 (nI t)))), (aM, .inl (cI, 24, .inl Md)), (aA, .inl (cI, 24, .inl An))] H := hP
  have hD : va_D A [(aG, .inr (3, [.ref aN, .ref aL, .ref aS, .ref aM, .ref aA, .int (nI ln0)])), (aN, .inr (0, [.ref aT, .ref aC, .int ct])), (aT, .inl (cI, 96, .inl Tg)), (aL, .inr (1, [.ref aN, .ref aR, .ref aU, .ref aK, .int (nI lr), .int (nI kc), .int (za_bi sd)])), (aR, .inl (cI, 576, .inl Rw)), (aS, .inl (cI, 2, .inl (upd (upd Sd 0 (nI s)) 1 (nI t)))), (aM, .inl (cI, 24, .inl Md)), (aA, .inl (cI, 24, .inl An))] := hD
  refine lv_aload_n hx hb zd_G_playThrough_14 rfl (lv_at hl 0 rfl) ?_
  refine lv_iconst (v := nI 0) hx hb zd_G_playThrough_15 (by decide) ?_
  refine va_put (D := D) (ci := 3) (v := .int (nI 0)) (ty := .int) (C := zs_G) (T := zt_G) (N := 6) hx hb hts zi_G zy_G zk_G zn_G hown hK hP hD hS 0 rfl rfl 5 (by decide) hf55 (fun _ h9 => h9) rfl (by decide +kernel) rfl rfl (Nat.le_of_ble_eq_true rfl) zd_G_playThrough_16 (fun H locs hP hD hS => ?_)
  have hP : va_P D vwCl [(aG, .inr (3, [.ref aN, .ref aL, .ref aS, .ref aM, .ref aA, .int (nI 0)])), (aN, .inr (0, [.ref aT, .ref aC, .int ct])), (aT, .inl (cI, 96, .inl Tg)), (aL, .inr (1, [.ref aN, .ref aR, .ref aU, .ref aK, .int (nI lr), .int (nI kc), .int (za_bi sd)])), (aR, .inl (cI, 576, .inl Rw)), (aS, .inl (cI, 2, .inl (upd (upd Sd 0 (nI s)) 1 (nI t)))), (aM, .inl (cI, 24, .inl Md)), (aA, .inl (cI, 24, .inl An))] H := hP
  have hD : va_D A [(aG, .inr (3, [.ref aN, .ref aL, .ref aS, .ref aM, .ref aA, .int (nI 0)])), (aN, .inr (0, [.ref aT, .ref aC, .int ct])), (aT, .inl (cI, 96, .inl Tg)), (aL, .inr (1, [.ref aN, .ref aR, .ref aU, .ref aK, .int (nI lr), .int (nI kc), .int (za_bi sd)])), (aR, .inl (cI, 576, .inl Rw)), (aS, .inl (cI, 2, .inl (upd (upd Sd 0 (nI s)) 1 (nI t)))), (aM, .inl (cI, 24, .inl Md)), (aA, .inl (cI, 24, .inl An))] := hD
  refine lv_iconst (v := nI 1) hx hb zd_G_playThrough_19 (by decide) ?_
  refine lv_istore_n (lv' := [(3, .int (nI 1)), (0, .ref aG), (1, .int (nI s)), (2, .int (nI t))]) hx hb zd_G_playThrough_20 rfl hl (by decide) rfl (fun ls hl => ?_)
  refine lv_iconst (v := nI 0) hx hb zd_G_playThrough_21 (by decide) ?_
  refine lv_istore (lv' := [(4, .int (nI 0)), (3, .int (nI 1)), (0, .ref aG), (1, .int (nI s)), (2, .int (nI t))]) hx hb zd_G_playThrough_22 hl (by decide) rfl (fun ls hl => ?_)
  have hC49 : ∀  (j : Nat) (Sz : Nat → Int32) (Mz : Nat → Int32) (Az : Nat → Int32) (ls : Array Slot) (H : Heap) (locs : List Loc), j = za_pn Tg Co s t → (∀ q, q < j → Mz q = nI (za_cd9 Tg Co (za_tr Tg Co s t q).2.1 (za_tr Tg Co s t q).2.2)) → (∀ q, q < j → Az q = za_ai (za_an Tg Co (za_tr Tg Co s t q).2.1 (za_tr Tg Co s t q).2.2)) → lv_has ls 5 [(0, .ref aG), (1, .int (nI s)), (2, .int (nI t))] → va_P D vwCl [(aG, .inr (3, [.ref aN, .ref aL, .ref aS, .ref aM, .ref aA, .int (nI j)])), (aN, .inr (0, [.ref aT, .ref aC, .int ct])), (aT, .inl (cI, 96, .inl Tg)), (aL, .inr (1, [.ref aN, .ref aR, .ref aU, .ref aK, .int (nI lr), .int (nI kc), .int (za_bi sd)])), (aR, .inl (cI, 576, .inl Rw)), (aS, .inl (cI, 2, .inl Sz)), (aM, .inl (cI, 24, .inl Mz)), (aA, .inl (cI, 24, .inl Az))] H → va_D A [(aG, .inr (3, [.ref aN, .ref aL, .ref aS, .ref aM, .ref aA, .int (nI j)])), (aN, .inr (0, [.ref aT, .ref aC, .int ct])), (aT, .inl (cI, 96, .inl Tg)), (aL, .inr (1, [.ref aN, .ref aR, .ref aU, .ref aK, .int (nI lr), .int (nI kc), .int (za_bi sd)])), (aR, .inl (cI, 576, .inl Rw)), (aS, .inl (cI, 2, .inl Sz)), (aM, .inl (cI, 24, .inl Mz)), (aA, .inl (cI, 24, .inl Az))] → va_S A H0 H locs → W p ln e zr_G_playThrough sg m args below meth c H locs 0 0 Q (F0 m 49 ls []) := by
    intro j Sz Mz Az ls H locs hjn hM hA9 hl hP hD hS
    refine lv_aload_n hx hb zd_G_playThrough_49 rfl (lv_at hl 0 rfl) ?_
    refine va_get (D := D) (ci := 3) (v := .int (nI j)) (C := zs_G) (T := zt_G) (N := 6) hx hb hts zi_G hown hK hP 0 rfl rfl 5 (by decide) hf55 (fun _ h9 => h9) rfl zd_G_playThrough_50 ?_
    have hP9 : va_P D vwCl [(aG, .inr (3, [.ref aN, .ref aL, .ref aS, .ref aM, .ref aA, .int (nI j)])), (aN, .inr (0, [.ref aT, .ref aC, .int ct])), (aT, .inl (cI, 96, .inl Tg)), (aL, .inr (1, [.ref aN, .ref aR, .ref aU, .ref aK, .int (nI lr), .int (nI kc), .int (za_bi sd)])), (aR, .inl (cI, 576, .inl Rw)), (aS, .inl (cI, 2, .inl Sz)), (aM, .inl (cI, 24, .inl Mz)), (aA, .inl (cI, 24, .inl Az))] H := hP
    have hD9 : va_D A [(aG, .inr (3, [.ref aN, .ref aL, .ref aS, .ref aM, .ref aA, .int (nI j)])), (aN, .inr (0, [.ref aT, .ref aC, .int ct])), (aT, .inl (cI, 96, .inl Tg)), (aL, .inr (1, [.ref aN, .ref aR, .ref aU, .ref aK, .int (nI lr), .int (nI kc), .int (za_bi sd)])), (aR, .inl (cI, 576, .inl Rw)), (aS, .inl (cI, 2, .inl Sz)), (aM, .inl (cI, 24, .inl Mz)), (aA, .inl (cI, 24, .inl Az))] := hD
    have hQ9 : (nI j) = nI (za_pn Tg Co s t) ∧ j = za_pn Tg Co s t ∧ (∀ q, q < za_pn Tg Co s t → Mz q = nI (za_cd9 Tg Co (za_tr Tg Co s t q).2.1 (za_tr Tg Co s t q).2.2)) ∧ (∀ q, q < za_pn Tg Co s t → Az q = za_ai (za_an Tg Co (za_tr Tg Co s t q).2.1 (za_tr Tg Co s t q).2.2)) := by exact ⟨by rw [hjn], hjn, fun q hq => hM q (by omega), fun q hq => hA9 q (by omega)⟩
    exact hret _ ⟨Sz, Mz, Az, j⟩ _ _ _ _ (hQ9) hP9 hD9 hS zd_G_playThrough_53
  have hC24 : ∀ (n24 : Nat) (i : Nat) (g : Bool) (j : Nat) (Sq : Nat → Int32) (Mq : Nat → Int32) (Aq : Nat → Int32) (ls : Array Slot) (H : Heap) (locs : List Loc), 24 - i < n24 → i ≤ 24 → (∀ q, q < j → (za_tr Tg Co s t q).1 = true) → (∀ q, q < j → Mq q = nI (za_cd9 Tg Co (za_tr Tg Co s t q).2.1 (za_tr Tg Co s t q).2.2)) → (∀ q, q < j → Aq q = za_ai (za_an Tg Co (za_tr Tg Co s t q).2.1 (za_tr Tg Co s t q).2.2)) → (g = true → i = j ∧ Sq 0 = nI (za_tr Tg Co s t j).2.1 ∧ Sq 1 = nI (za_tr Tg Co s t j).2.2) → (g = false → (za_tr Tg Co s t j).1 = false) → (g = true → 0 < j → (za_tr Tg Co s t j).1 = za_pl Tg Co (za_tr Tg Co s t j).2.1 (za_tr Tg Co s t j).2.2) → lv_has ls 5 [(0, .ref aG), (1, .int (nI s)), (2, .int (nI t)), (3, .int (za_bi g)), (4, .int (nI i))] → va_P D vwCl [(aG, .inr (3, [.ref aN, .ref aL, .ref aS, .ref aM, .ref aA, .int (nI j)])), (aN, .inr (0, [.ref aT, .ref aC, .int ct])), (aT, .inl (cI, 96, .inl Tg)), (aL, .inr (1, [.ref aN, .ref aR, .ref aU, .ref aK, .int (nI lr), .int (nI kc), .int (za_bi sd)])), (aR, .inl (cI, 576, .inl Rw)), (aS, .inl (cI, 2, .inl Sq)), (aM, .inl (cI, 24, .inl Mq)), (aA, .inl (cI, 24, .inl Aq))] H → va_D A [(aG, .inr (3, [.ref aN, .ref aL, .ref aS, .ref aM, .ref aA, .int (nI j)])), (aN, .inr (0, [.ref aT, .ref aC, .int ct])), (aT, .inl (cI, 96, .inl Tg)), (aL, .inr (1, [.ref aN, .ref aR, .ref aU, .ref aK, .int (nI lr), .int (nI kc), .int (za_bi sd)])), (aR, .inl (cI, 576, .inl Rw)), (aS, .inl (cI, 2, .inl Sq)), (aM, .inl (cI, 24, .inl Mq)), (aA, .inl (cI, 24, .inl Aq))] → va_S A H0 H locs → W p ln e zr_G_playThrough sg m args below meth c H locs 0 0 Q (F0 m 24 ls []) := by
    intro n24
    induction n24 with
    | zero => intro i g j Sq Mq Aq ls H locs hn24 hi hj hM hA9 hg hg2 hg3 hl hP hD hS; exact absurd hn24 (Nat.not_lt_zero _)
    | succ n24 ih24 =>
      intro i g j Sq Mq Aq ls H locs hn24 hi hj hM hA9 hg hg2 hg3 hl hP hD hS
      refine lv_iload hx hb zd_G_playThrough_24 (lv_at hl 4 rfl) ?_
      refine lv_aload_n hx hb zd_G_playThrough_26 rfl (lv_at hl 0 rfl) ?_
      refine va_get (D := D) (ci := 3) (v := .ref aM) (C := zs_G) (T := zt_G) (N := 6) hx hb hts zi_G hown hK hP 0 rfl rfl 3 (by decide) hf23 (fun _ h9 => h9) rfl zd_G_playThrough_27 ?_
      refine va_alen hx hb hK hP 6 0 rfl rfl (v := nI 24) rfl zd_G_playThrough_30 ?_
      refine lv_icmp_ge hx hb (tgt := 49) zd_G_playThrough_31 (by decide) (fun h31 => ?_) (fun h31 => ?_)
      · have h31 := za_leN h31 (by omega) (by omega)
        exact hC49 j Sq Mq Aq ls H locs (by exact za_play7 hs0 ht0 hj (fun z => (hg z).1) hg2 (by omega)) (by exact hM) (by exact hA9) (lv_sub hl [0, 1, 2] rfl) hP hD hS
      · have h31 := za_nleN h31 (by omega) (by omega)
        refine lv_iload_n hx hb zd_G_playThrough_34 rfl (lv_at hl 3 rfl) ?_
        refine lv_if_eq hx hb (tgt := 49) zd_G_playThrough_35 (by decide) (fun h35 => ?_) (fun h35 => ?_)
        · have h35 := za_bF h35
          exact hC49 j Sq Mq Aq ls H locs (by exact za_play8 hs0 ht0 hj (hg2 h35)) (by exact hM) (by exact hA9) (lv_sub hl [0, 1, 2] rfl) hP hD hS
        · have h35 := za_bT h35
          have htr := za_tr_in (Tg := Tg) (Co := Co) hs0 ht0 j
          have htl : (za_tr Tg Co s t j).1 = za_pl Tg Co (za_tr Tg Co s t j).2.1 (za_tr Tg Co s t j).2.2 := by
            by_cases z : 0 < j
            · exact hg3 h35 z
            · rw [show j = 0 by omega, za_tr0]
          refine lv_aload_n hx hb zd_G_playThrough_38 rfl (lv_at hl 0 rfl) ?_
          refine za_wVi (As := []) (rest := []) (wr := []) (wz := (fun Sd1_39 => [(aG, .inr (3, [.ref aN, .ref aL, .ref aS, .ref aM, .ref aA, .int (nI (za_l1 Tg Co ((za_tr Tg Co s t j).2.1) ((za_tr Tg Co s t j).2.2) j))])), (aN, .inr (0, [.ref aT, .ref aC, .int ct])), (aT, .inl (cI, 96, .inl Tg)), (aL, .inr (1, [.ref aN, .ref aR, .ref aU, .ref aK, .int (nI lr), .int (nI kc), .int (za_bi sd)])), (aR, .inl (cI, 576, .inl Rw)), (aS, .inl (cI, 2, .inl Sd1_39)), (aM, .inl (cI, 24, .inl (za_M1 Tg Co ((za_tr Tg Co s t j).2.1) ((za_tr Tg Co s t j).2.2) j Mq))), (aA, .inl (cI, 24, .inl (za_A1 Tg Co ((za_tr Tg Co s t j).2.1) ((za_tr Tg Co s t j).2.2) j Aq)))])) ⟨hx, hb, hml, hown, hts⟩ (zc_G_attackOnce ln D cI cZ _ aG aN aL aS aM aA j aT aC ct aR aU aK lr kc sd Tg Rw Co Kd Sq Mq Aq ((za_tr Tg Co s t j).2.1) ((za_tr Tg Co s t j).2.2) (by exact htr.1) (by exact htr.2.1) (by exact (hg h35).2.1) (by exact (hg h35).2.2) (by have := (hg h35).1; omega) (by exact hlk)) (za_gV 0 hts zw_409 zw_411 zw_16 zw_39 zw_412 (by decide +kernel) ⟨Nat.le_of_ble_eq_true rfl, Nat.le_of_ble_eq_true rfl⟩) hK hN hP hD hS hA [0, 1, 2, 3, 4, 5, 6, 7] [] [0, 1, 2, 3, 4, 5, 6, 7] rfl rfl (by decide) (by decide) (by decide) (by decide) (fun _ => rfl) (q0 := 0) rfl rfl hl rfl rfl (Nat.le_of_ble_eq_true rfl) zd_G_playThrough_39 ⟨Nat.le_of_ble_eq_true rfl, Nat.le_of_ble_eq_true rfl⟩ (fun r39 u39 H locs hq39 hP hD hS => ?_)
          obtain ⟨Sd1_39, rfl⟩ : ∃ z, z = u39 := ⟨_, rfl⟩
          have hP : va_P D vwCl [(aG, .inr (3, [.ref aN, .ref aL, .ref aS, .ref aM, .ref aA, .int (nI (za_l1 Tg Co ((za_tr Tg Co s t j).2.1) ((za_tr Tg Co s t j).2.2) j))])), (aN, .inr (0, [.ref aT, .ref aC, .int ct])), (aT, .inl (cI, 96, .inl Tg)), (aL, .inr (1, [.ref aN, .ref aR, .ref aU, .ref aK, .int (nI lr), .int (nI kc), .int (za_bi sd)])), (aR, .inl (cI, 576, .inl Rw)), (aS, .inl (cI, 2, .inl Sd1_39)), (aM, .inl (cI, 24, .inl (za_M1 Tg Co ((za_tr Tg Co s t j).2.1) ((za_tr Tg Co s t j).2.2) j Mq))), (aA, .inl (cI, 24, .inl (za_A1 Tg Co ((za_tr Tg Co s t j).2.1) ((za_tr Tg Co s t j).2.2) j Aq)))] H := hP
          have hD : va_D A [(aG, .inr (3, [.ref aN, .ref aL, .ref aS, .ref aM, .ref aA, .int (nI (za_l1 Tg Co ((za_tr Tg Co s t j).2.1) ((za_tr Tg Co s t j).2.2) j))])), (aN, .inr (0, [.ref aT, .ref aC, .int ct])), (aT, .inl (cI, 96, .inl Tg)), (aL, .inr (1, [.ref aN, .ref aR, .ref aU, .ref aK, .int (nI lr), .int (nI kc), .int (za_bi sd)])), (aR, .inl (cI, 576, .inl Rw)), (aS, .inl (cI, 2, .inl Sd1_39)), (aM, .inl (cI, 24, .inl (za_M1 Tg Co ((za_tr Tg Co s t j).2.1) ((za_tr Tg Co s t j).2.2) j Mq))), (aA, .inl (cI, 24, .inl (za_A1 Tg Co ((za_tr Tg Co s t j).2.1) ((za_tr Tg Co s t j).2.2) j Aq)))] := hD
          obtain ⟨hr39, hq39⟩ := hq39
          have hr39 : r39 = za_bi (za_go Tg Co ((za_tr Tg Co s t j).2.1) ((za_tr Tg Co s t j).2.2)) := hr39
          rw [hr39]
          have hq39 : (za_go Tg Co ((za_tr Tg Co s t j).2.1) ((za_tr Tg Co s t j).2.2) = true → Sd1_39 0 = nI (za_x1 Tg Co ((za_tr Tg Co s t j).2.1) ((za_tr Tg Co s t j).2.2)) ∧ Sd1_39 1 = nI (za_y1 Tg Co ((za_tr Tg Co s t j).2.1) ((za_tr Tg Co s t j).2.2))) := hq39
          refine lv_istore_n (lv' := [(3, .int (za_bi (za_go Tg Co ((za_tr Tg Co s t j).2.1) ((za_tr Tg Co s t j).2.2)))), (0, .ref aG), (1, .int (nI s)), (2, .int (nI t)), (4, .int (nI i))]) hx hb zd_G_playThrough_42 rfl hl (by decide) rfl (fun ls hl => ?_)
          refine lv_iinc (k := 4) (v := nI (i + 1)) (lv' := [(4, .int (nI (i + 1))), (3, .int (za_bi (za_go Tg Co ((za_tr Tg Co s t j).2.1) ((za_tr Tg Co s t j).2.2)))), (0, .ref aG), (1, .int (nI s)), (2, .int (nI t))]) hx hb zd_G_playThrough_43 hl rfl (za_inc _) (by decide) rfl (fun ls hl => ?_)
          refine lv_goto hx hb (tgt := 24) zd_G_playThrough_46 (by decide) ?_
          exact ih24 (i + 1) (za_go Tg Co ((za_tr Tg Co s t j).2.1) ((za_tr Tg Co s t j).2.2)) (za_l1 Tg Co ((za_tr Tg Co s t j).2.1) ((za_tr Tg Co s t j).2.2) j) Sd1_39 (za_M1 Tg Co ((za_tr Tg Co s t j).2.1) ((za_tr Tg Co s t j).2.2) j Mq) (za_A1 Tg Co ((za_tr Tg Co s t j).2.1) ((za_tr Tg Co s t j).2.2) j Aq) ls H locs (by omega) (by omega) (by exact za_play1 hj htl) (by exact za_play2 hM) (by exact za_play3 hA9) (by exact fun z => za_play4 (hg h35).1 htl hq39 z) (by exact fun z => za_play5 htl z) (by exact fun z1 z2 => za_play6 htl z1 z2) (lv_sub hl [2, 3, 4, 1, 0] rfl) hP hD hS
  have e1 : za_bi true = nI 1 := by first | with_reducible rfl | (rfl)
  exact hC24 (24 - 0 + 1) 0 true 0 (upd (upd Sd 0 (nI s)) 1 (nI t)) Md An ls H locs (Nat.lt_succ_self _) (by omega) (by exact fun q hq => absurd hq (Nat.not_lt_zero _)) (by exact fun q hq => absurd hq (Nat.not_lt_zero _)) (by exact fun q hq => absurd hq (Nat.not_lt_zero _)) (by rw [za_tr0]; exact fun _ => ⟨rfl, rfl, rfl⟩) (by intro z; cases z) (by intro _ z; omega) (by rw [e1]; exact lv_sub hl [2, 3, 4, 1, 0] rfl) hP hD hS
end
section
def zr_X_attacks : Room := { frames := 5, cells := 0, slots := 0, locals := 115 }
set_option maxHeartbeats 4000000 in
set_option maxRecDepth 100000 in
theorem zc_X_attacks (ln : Launch) (D : va_G) (cI cZ : ClassId) (sz : Nat) (aX : Nat) (aV : Nat) (aG : Nat) (aL : Nat) (aN : Nat) (aR : Nat) (aU : Nat) (aK : Nat) (lr : Nat) (kc : Nat) (sd : Bool) (aT : Nat) (aC : Nat) (ct : Int32) (Tg : Nat → Int32) (Co : Nat → Int32) (Rw : Nat → Int32) (Un : Nat → Int32) (Kd : Nat → Int32) (aS : Nat) (aM : Nat) (aA : Nat) (ln0 : Nat) (w : Int32) (v : Int32) (hok : sd = true → za_like Tg Co Rw lr Kd kc) : Met ln zm_X_attacks (Cond.code zm_X_attacks zo_X_attacks 3 (some .int) :: zb_big) zr_X_attacks (za_Pw D vwCl [(cI, .int), (cZ, .boolean)] [.ref aX, .int w, .int v] [(aX, .inr (4, [.ref aN, .ref aL, .ref aV, .ref aG])), (aL, .inr (1, [.ref aN, .ref aR, .ref aU, .ref aK, .int (nI lr), .int (nI kc), .int (za_bi sd)])), (aR, .inl (cI, 576, .inl Rw)), (aU, .inl (cI, 96, .inl Un)), (aK, .inl (cI, 24, .inl Kd)), (aN, .inr (0, [.ref aT, .ref aC, .int ct])), (aT, .inl (cI, 96, .inl Tg)), (aC, .inl (cI, 24, .inl Co)), (aG, .inr (3, [.ref aN, .ref aL, .ref aS, .ref aM, .ref aA, .int (nI ln0)]))] sz) (va_Qi (fun (r : Int32) (u : (Nat → Int32) × (Nat → Int32) × (Nat → Int32) × Nat × Nat × Bool) => r = (if (za_isS w && za_isS v) = true then za_ac Tg Co (za_clp w) (za_clp v) else nI 0) ∧ (u.2.2.2.2.2 = true → za_like Tg Co u.1 u.2.2.2.1 u.2.2.1 u.2.2.2.2.1)) (za_B D vwCl [(aX, .inr (4, [.ref aN, .ref aL, .ref aV, .ref aG])), (aL, .inr (1, [.ref aN, .ref aR, .ref aU, .ref aK, .int (nI lr), .int (nI kc), .int (za_bi sd)])), (aR, .inl (cI, 576, .inl Rw)), (aU, .inl (cI, 96, .inl Un)), (aK, .inl (cI, 24, .inl Kd)), (aN, .inr (0, [.ref aT, .ref aC, .int ct])), (aT, .inl (cI, 96, .inl Tg)), (aC, .inl (cI, 24, .inl Co)), (aG, .inr (3, [.ref aN, .ref aL, .ref aS, .ref aM, .ref aA, .int (nI ln0)]))] sz (fun (u : (Nat → Int32) × (Nat → Int32) × (Nat → Int32) × Nat × Nat × Bool) => [(aX, .inr (4, [.ref aN, .ref aL, .ref aV, .ref aG])), (aL, .inr (1, [.ref aN, .ref aR, .ref aU, .ref aK, .int (nI u.2.2.2.1), .int (nI u.2.2.2.2.1), .int (za_bi u.2.2.2.2.2)])), (aR, .inl (cI, 576, .inl u.1)), (aU, .inl (cI, 96, .inl u.2.1)), (aK, .inl (cI, 24, .inl u.2.2.1)), (aN, .inr (0, [.ref aT, .ref aC, .int ct])), (aT, .inl (cI, 96, .inl Tg)), (aC, .inl (cI, 24, .inl Co)), (aG, .inr (3, [.ref aN, .ref aL, .ref aS, .ref aM, .ref aA, .int (nI ln0)]))])) (va_A [(aX, .inr (4, [.ref aN, .ref aL, .ref aV, .ref aG])), (aL, .inr (1, [.ref aN, .ref aR, .ref aU, .ref aK, .int (nI lr), .int (nI kc), .int (za_bi sd)])), (aR, .inl (cI, 576, .inl Rw)), (aU, .inl (cI, 96, .inl Un)), (aK, .inl (cI, 24, .inl Kd)), (aN, .inr (0, [.ref aT, .ref aC, .int ct])), (aT, .inl (cI, 96, .inl Tg)), (aC, .inl (cI, 24, .inl Co)), (aG, .inr (3, [.ref aN, .ref aL, .ref aS, .ref aM, .ref aA, .int (nI ln0)]))] sz)) 0 0 (va_A [(aX, .inr (4, [.ref aN, .ref aL, .ref aV, .ref aG])), (aL, .inr (1, [.ref aN, .ref aR, .ref aU, .ref aK, .int (nI lr), .int (nI kc), .int (za_bi sd)])), (aR, .inl (cI, 576, .inl Rw)), (aU, .inl (cI, 96, .inl Un)), (aK, .inl (cI, 24, .inl Kd)), (aN, .inr (0, [.ref aT, .ref aC, .int ct])), (aT, .inl (cI, 96, .inl Tg)), (aC, .inl (cI, 24, .inl Co)), (aG, .inr (3, [.ref aN, .ref aL, .ref aS, .ref aM, .ref aA, .int (nI ln0)]))] sz) := by
  refine za_wi (cc := zo_X_attacks) (maxL := 3) (ty := .int) (by decide) (Nat.le_of_ble_eq_true rfl) (fun _ _ _ => rfl) ?_
  intro p e sg m args below meth c H0 A Q hx hb hml hts hown hmn hP hK hN hD hA hS hret ls hl
  have hP : va_P D vwCl [(aX, .inr (4, [.ref aN, .ref aL, .ref aV, .ref aG])), (aL, .inr (1, [.ref aN, .ref aR, .ref aU, .ref aK, .int (nI lr), .int (nI kc), .int (za_bi sd)])), (aR, .inl (cI, 576, .inl Rw)), (aU, .inl (cI, 96, .inl Un)), (aK, .inl (cI, 24, .inl Kd)), (aN, .inr (0, [.ref aT, .ref aC, .int ct])), (aT, .inl (cI, 96, .inl Tg)), (aC, .inl (cI, 24, .inl Co)), (aG, .inr (3, [.ref aN, .ref aL, .ref aS, .ref aM, .ref aA, .int (nI ln0)]))] H0 := hP
  have hD : va_D A [(aX, .inr (4, [.ref aN, .ref aL, .ref aV, .ref aG])), (aL, .inr (1, [.ref aN, .ref aR, .ref aU, .ref aK, .int (nI lr), .int (nI kc), .int (za_bi sd)])), (aR, .inl (cI, 576, .inl Rw)), (aU, .inl (cI, 96, .inl Un)), (aK, .inl (cI, 24, .inl Kd)), (aN, .inr (0, [.ref aT, .ref aC, .int ct])), (aT, .inl (cI, 96, .inl Tg)), (aC, .inl (cI, 24, .inl Co)), (aG, .inr (3, [.ref aN, .ref aL, .ref aS, .ref aM, .ref aA, .int (nI ln0)]))] := hD
  have hl : lv_has ls 3 [(0, .ref aX), (1, .int w), (2, .int v)] := hl
  have hf21 := hts _ zw_140
  have hf37 := hts _ zw_142
  refine lv_iload_n hx hb zd_X_attacks_0 rfl (lv_at hl 1 rfl) ?_
  refine lv_iload_n hx hb zd_X_attacks_1 rfl (lv_at hl 2 rfl) ?_
  refine za_cS (As := [.int w, .int v]) (rest := []) ⟨hx, hb, hml, hown, hts⟩ (zc_X_areStates ln D cI cZ w v ) (za_gS 2 hts zw_159 zw_160 zw_35 zw_161 (by decide +kernel) ⟨Nat.le_of_ble_eq_true rfl, Nat.le_of_ble_eq_true rfl⟩) hK hN hP [] rfl hl rfl rfl (Nat.le_of_ble_eq_true rfl) zd_X_attacks_2 ⟨Nat.le_of_ble_eq_true rfl, Nat.le_of_ble_eq_true rfl⟩ ?_
  refine lv_if_ne hx hb (tgt := 10) zd_X_attacks_5 (by decide) (fun h5 => ?_) (fun h5 => ?_)
  · have h5 := za_bT h5
    obtain ⟨⟨s, hs0, hw⟩, t, ht0, hv9⟩ := za_isSS_of h5
    have hl : lv_has ls 3 [(0, .ref aX), (1, .int (nI s)), (2, .int v)] := by rw [← hw]; exact hl
    have hl : lv_has ls 3 [(0, .ref aX), (1, .int (nI s)), (2, .int (nI t))] := by rw [← hv9]; exact hl
    refine lv_aload_n hx hb zd_X_attacks_10 rfl (lv_at hl 0 rfl) ?_
    refine va_get (D := D) (ci := 4) (v := .ref aL) (C := zs_X) (T := zt_X) (N := 4) hx hb hts zi_X hown hK hP 0 rfl rfl 1 (by decide) hf21 (fun _ h9 => h9) rfl zd_X_attacks_11 ?_
    refine za_wVv (As := []) (rest := []) (wr := [(aX, .inr (4, [.ref aN, .ref aL, .ref aV, .ref aG])), (aG, .inr (3, [.ref aN, .ref aL, .ref aS, .ref aM, .ref aA, .int (nI ln0)]))]) (wz := (fun u => [(aX, .inr (4, [.ref aN, .ref aL, .ref aV, .ref aG])), (aL, .inr (1, [.ref aN, .ref aR, .ref aU, .ref aK, .int (nI u.2.2.2.1), .int (nI u.2.2.2.2), .int (za_bi true)])), (aR, .inl (cI, 576, .inl u.1)), (aU, .inl (cI, 96, .inl u.2.1)), (aK, .inl (cI, 24, .inl u.2.2.1)), (aN, .inr (0, [.ref aT, .ref aC, .int ct])), (aT, .inl (cI, 96, .inl Tg)), (aC, .inl (cI, 24, .inl Co)), (aG, .inr (3, [.ref aN, .ref aL, .ref aS, .ref aM, .ref aA, .int (nI ln0)]))])) ⟨hx, hb, hml, hown, hts⟩ (zc_L_settle ln D cI cZ _ aL aN aR aU aK lr kc sd aT aC ct Tg Co Rw Un Kd (by exact hok)) (za_gV 0 hts zw_235 zw_236 zw_237 zw_37 zw_238 (by decide +kernel) ⟨Nat.le_of_ble_eq_true rfl, Nat.le_of_ble_eq_true rfl⟩) hK hN hP hD hS hA [1, 2, 3, 4, 5, 6, 7] [0, 8] [0, 2, 3, 4, 5, 6, 7, 8, 1] rfl rfl (by decide) (by decide) (by decide) (by decide) (fun _ => rfl) (q0 := 1) rfl rfl hl rfl rfl (Nat.le_of_ble_eq_true rfl) zd_X_attacks_14 ⟨Nat.le_of_ble_eq_true rfl, Nat.le_of_ble_eq_true rfl⟩ (fun u14 H locs hq14 hP hD hS => ?_)
    obtain ⟨Rw1_14, Un1_14, Kd1_14, lr1_14, kc1_14⟩ := u14
    have hP : va_P D vwCl [(aX, .inr (4, [.ref aN, .ref aL, .ref aV, .ref aG])), (aL, .inr (1, [.ref aN, .ref aR, .ref aU, .ref aK, .int (nI lr1_14), .int (nI kc1_14), .int (za_bi true)])), (aR, .inl (cI, 576, .inl Rw1_14)), (aU, .inl (cI, 96, .inl Un1_14)), (aK, .inl (cI, 24, .inl Kd1_14)), (aN, .inr (0, [.ref aT, .ref aC, .int ct])), (aT, .inl (cI, 96, .inl Tg)), (aC, .inl (cI, 24, .inl Co)), (aG, .inr (3, [.ref aN, .ref aL, .ref aS, .ref aM, .ref aA, .int (nI ln0)]))] H := hP
    have hD : va_D A [(aX, .inr (4, [.ref aN, .ref aL, .ref aV, .ref aG])), (aL, .inr (1, [.ref aN, .ref aR, .ref aU, .ref aK, .int (nI lr1_14), .int (nI kc1_14), .int (za_bi true)])), (aR, .inl (cI, 576, .inl Rw1_14)), (aU, .inl (cI, 96, .inl Un1_14)), (aK, .inl (cI, 24, .inl Kd1_14)), (aN, .inr (0, [.ref aT, .ref aC, .int ct])), (aT, .inl (cI, 96, .inl Tg)), (aC, .inl (cI, 24, .inl Co)), (aG, .inr (3, [.ref aN, .ref aL, .ref aS, .ref aM, .ref aA, .int (nI ln0)]))] := hD
    have hq14 : za_like Tg Co Rw1_14 lr1_14 Kd1_14 kc1_14 := hq14
    refine lv_aload_n hx hb zd_X_attacks_17 rfl (lv_at hl 0 rfl) ?_
    refine va_get (D := D) (ci := 4) (v := .ref aG) (C := zs_X) (T := zt_X) (N := 4) hx hb hts zi_X hown hK hP 0 rfl rfl 3 (by decide) hf37 (fun _ h9 => h9) rfl zd_X_attacks_18 ?_
    refine lv_iload_n hx hb zd_X_attacks_21 rfl (lv_at hl 1 rfl) ?_
    refine lv_iload_n hx hb zd_X_attacks_22 rfl (lv_at hl 2 rfl) ?_
    refine za_cV (As := [.int (nI s), .int (nI t)]) (rest := []) ⟨hx, hb, hml, hown, hts⟩ (zc_G_countAttacks ln D cI cZ aG aN aL aS aM aA ln0 aT aC ct aR aU aK lr1_14 kc1_14 true Tg Rw1_14 Co Kd1_14 s t (by omega) (by omega) (by exact hq14)) (za_gV 2 hts zw_381 zw_382 zw_383 zw_39 zw_384 (by decide +kernel) ⟨Nat.le_of_ble_eq_true rfl, Nat.le_of_ble_eq_true rfl⟩) hK hN hP [8, 5, 6, 1, 2] rfl (q0 := 8) rfl rfl hl rfl rfl (Nat.le_of_ble_eq_true rfl) zd_X_attacks_23 ⟨Nat.le_of_ble_eq_true rfl, Nat.le_of_ble_eq_true rfl⟩ ?_
    have hP9 : va_P D vwCl [(aX, .inr (4, [.ref aN, .ref aL, .ref aV, .ref aG])), (aL, .inr (1, [.ref aN, .ref aR, .ref aU, .ref aK, .int (nI lr1_14), .int (nI kc1_14), .int (za_bi true)])), (aR, .inl (cI, 576, .inl Rw1_14)), (aU, .inl (cI, 96, .inl Un1_14)), (aK, .inl (cI, 24, .inl Kd1_14)), (aN, .inr (0, [.ref aT, .ref aC, .int ct])), (aT, .inl (cI, 96, .inl Tg)), (aC, .inl (cI, 24, .inl Co)), (aG, .inr (3, [.ref aN, .ref aL, .ref aS, .ref aM, .ref aA, .int (nI ln0)]))] H := hP
    have hD9 : va_D A [(aX, .inr (4, [.ref aN, .ref aL, .ref aV, .ref aG])), (aL, .inr (1, [.ref aN, .ref aR, .ref aU, .ref aK, .int (nI lr1_14), .int (nI kc1_14), .int (za_bi true)])), (aR, .inl (cI, 576, .inl Rw1_14)), (aU, .inl (cI, 96, .inl Un1_14)), (aK, .inl (cI, 24, .inl Kd1_14)), (aN, .inr (0, [.ref aT, .ref aC, .int ct])), (aT, .inl (cI, 96, .inl Tg)), (aC, .inl (cI, 24, .inl Co)), (aG, .inr (3, [.ref aN, .ref aL, .ref aS, .ref aM, .ref aA, .int (nI ln0)]))] := hD
    have hQ9 : (za_ac Tg Co s t) = (if (za_isS w && za_isS v) = true then za_ac Tg Co (za_clp w) (za_clp v) else nI 0) ∧ (true = true → za_like Tg Co Rw1_14 lr1_14 Kd1_14 kc1_14) := by first | exact ⟨by rw [h5]; rfl, hok⟩ | exact ⟨by rw [if_pos h5, hw, hv9, za_clS hs0, za_clS ht0], fun _ => hq14⟩
    exact hret _ ⟨Rw1_14, Un1_14, Kd1_14, lr1_14, kc1_14, true⟩ _ _ _ _ (hQ9) hP9 hD9 hS zd_X_attacks_26
  · have h5 := za_bF h5
    refine lv_iconst (v := nI 0) hx hb zd_X_attacks_8 (by decide) ?_
    have hP9 : va_P D vwCl [(aX, .inr (4, [.ref aN, .ref aL, .ref aV, .ref aG])), (aL, .inr (1, [.ref aN, .ref aR, .ref aU, .ref aK, .int (nI lr), .int (nI kc), .int (za_bi sd)])), (aR, .inl (cI, 576, .inl Rw)), (aU, .inl (cI, 96, .inl Un)), (aK, .inl (cI, 24, .inl Kd)), (aN, .inr (0, [.ref aT, .ref aC, .int ct])), (aT, .inl (cI, 96, .inl Tg)), (aC, .inl (cI, 24, .inl Co)), (aG, .inr (3, [.ref aN, .ref aL, .ref aS, .ref aM, .ref aA, .int (nI ln0)]))] H0 := hP
    have hD9 : va_D A [(aX, .inr (4, [.ref aN, .ref aL, .ref aV, .ref aG])), (aL, .inr (1, [.ref aN, .ref aR, .ref aU, .ref aK, .int (nI lr), .int (nI kc), .int (za_bi sd)])), (aR, .inl (cI, 576, .inl Rw)), (aU, .inl (cI, 96, .inl Un)), (aK, .inl (cI, 24, .inl Kd)), (aN, .inr (0, [.ref aT, .ref aC, .int ct])), (aT, .inl (cI, 96, .inl Tg)), (aC, .inl (cI, 24, .inl Co)), (aG, .inr (3, [.ref aN, .ref aL, .ref aS, .ref aM, .ref aA, .int (nI ln0)]))] := hD
    have hQ9 : (nI 0) = (if (za_isS w && za_isS v) = true then za_ac Tg Co (za_clp w) (za_clp v) else nI 0) ∧ (sd = true → za_like Tg Co Rw lr Kd kc) := by first | exact ⟨by rw [h5]; rfl, hok⟩ | exact ⟨by rw [if_pos h5, hw, hv9, za_clS hs0, za_clS ht0], fun _ => hq14⟩
    exact hret _ ⟨Rw, Un, Kd, lr, kc, sd⟩ _ _ _ _ (hQ9) hP9 hD9 hS zd_X_attacks_9
def zr_X_playedAttacks : Room := { frames := 5, cells := 0, slots := 0, locals := 121 }
set_option maxHeartbeats 4000000 in
set_option maxRecDepth 100000 in
theorem zc_X_playedAttacks (ln : Launch) (D : va_G) (cI cZ : ClassId) (sz : Nat) (aX : Nat) (aV : Nat) (aG : Nat) (aL : Nat) (aN : Nat) (aR : Nat) (aU : Nat) (aK : Nat) (lr : Nat) (kc : Nat) (sd : Bool) (aT : Nat) (aC : Nat) (ct : Int32) (Tg : Nat → Int32) (Co : Nat → Int32) (Rw : Nat → Int32) (Un : Nat → Int32) (Kd : Nat → Int32) (aS : Nat) (aM : Nat) (aA : Nat) (ln0 : Nat) (Sd : Nat → Int32) (Md : Nat → Int32) (An : Nat → Int32) (w : Int32) (v : Int32) (hok : sd = true → za_like Tg Co Rw lr Kd kc) : Met ln zm_X_playedAttacks (Cond.code zm_X_playedAttacks zo_X_playedAttacks 3 (some .int) :: zb_big) zr_X_playedAttacks (za_Pw D vwCl [(cI, .int), (cZ, .boolean)] [.ref aX, .int w, .int v] [(aX, .inr (4, [.ref aN, .ref aL, .ref aV, .ref aG])), (aL, .inr (1, [.ref aN, .ref aR, .ref aU, .ref aK, .int (nI lr), .int (nI kc), .int (za_bi sd)])), (aR, .inl (cI, 576, .inl Rw)), (aU, .inl (cI, 96, .inl Un)), (aK, .inl (cI, 24, .inl Kd)), (aN, .inr (0, [.ref aT, .ref aC, .int ct])), (aT, .inl (cI, 96, .inl Tg)), (aC, .inl (cI, 24, .inl Co)), (aG, .inr (3, [.ref aN, .ref aL, .ref aS, .ref aM, .ref aA, .int (nI ln0)])), (aS, .inl (cI, 2, .inl Sd)), (aM, .inl (cI, 24, .inl Md)), (aA, .inl (cI, 24, .inl An))] sz) (va_Qi (fun (r : Int32) (u : (Nat → Int32) × (Nat → Int32) × (Nat → Int32) × Nat × Nat × Bool × (Nat → Int32) × (Nat → Int32) × (Nat → Int32) × Nat) => r = nI (za_pnv Tg Co w v) ∧ (u.2.2.2.2.2.1 = true → za_like Tg Co u.1 u.2.2.2.1 u.2.2.1 u.2.2.2.2.1) ∧ ((za_isS w && za_isS v) = true → (∀ q, q < za_pn Tg Co (za_clp w) (za_clp v) → u.2.2.2.2.2.2.2.1 q = nI (za_cd9 Tg Co (za_tr Tg Co (za_clp w) (za_clp v) q).2.1 (za_tr Tg Co (za_clp w) (za_clp v) q).2.2) ∧ u.2.2.2.2.2.2.2.2.1 q = za_ai (za_an Tg Co (za_tr Tg Co (za_clp w) (za_clp v) q).2.1 (za_tr Tg Co (za_clp w) (za_clp v) q).2.2)))) (za_B D vwCl [(aX, .inr (4, [.ref aN, .ref aL, .ref aV, .ref aG])), (aL, .inr (1, [.ref aN, .ref aR, .ref aU, .ref aK, .int (nI lr), .int (nI kc), .int (za_bi sd)])), (aR, .inl (cI, 576, .inl Rw)), (aU, .inl (cI, 96, .inl Un)), (aK, .inl (cI, 24, .inl Kd)), (aN, .inr (0, [.ref aT, .ref aC, .int ct])), (aT, .inl (cI, 96, .inl Tg)), (aC, .inl (cI, 24, .inl Co)), (aG, .inr (3, [.ref aN, .ref aL, .ref aS, .ref aM, .ref aA, .int (nI ln0)])), (aS, .inl (cI, 2, .inl Sd)), (aM, .inl (cI, 24, .inl Md)), (aA, .inl (cI, 24, .inl An))] sz (fun (u : (Nat → Int32) × (Nat → Int32) × (Nat → Int32) × Nat × Nat × Bool × (Nat → Int32) × (Nat → Int32) × (Nat → Int32) × Nat) => [(aX, .inr (4, [.ref aN, .ref aL, .ref aV, .ref aG])), (aL, .inr (1, [.ref aN, .ref aR, .ref aU, .ref aK, .int (nI u.2.2.2.1), .int (nI u.2.2.2.2.1), .int (za_bi u.2.2.2.2.2.1)])), (aR, .inl (cI, 576, .inl u.1)), (aU, .inl (cI, 96, .inl u.2.1)), (aK, .inl (cI, 24, .inl u.2.2.1)), (aN, .inr (0, [.ref aT, .ref aC, .int ct])), (aT, .inl (cI, 96, .inl Tg)), (aC, .inl (cI, 24, .inl Co)), (aG, .inr (3, [.ref aN, .ref aL, .ref aS, .ref aM, .ref aA, .int (nI u.2.2.2.2.2.2.2.2.2)])), (aS, .inl (cI, 2, .inl u.2.2.2.2.2.2.1)), (aM, .inl (cI, 24, .inl u.2.2.2.2.2.2.2.1)), (aA, .inl (cI, 24, .inl u.2.2.2.2.2.2.2.2.1))])) (va_A [(aX, .inr (4, [.ref aN, .ref aL, .ref aV, .ref aG])), (aL, .inr (1, [.ref aN, .ref aR, .ref aU, .ref aK, .int (nI lr), .int (nI kc), .int (za_bi sd)])), (aR, .inl (cI, 576, .inl Rw)), (aU, .inl (cI, 96, .inl Un)), (aK, .inl (cI, 24, .inl Kd)), (aN, .inr (0, [.ref aT, .ref aC, .int ct])), (aT, .inl (cI, 96, .inl Tg)), (aC, .inl (cI, 24, .inl Co)), (aG, .inr (3, [.ref aN, .ref aL, .ref aS, .ref aM, .ref aA, .int (nI ln0)])), (aS, .inl (cI, 2, .inl Sd)), (aM, .inl (cI, 24, .inl Md)), (aA, .inl (cI, 24, .inl An))] sz)) 0 0 (va_A [(aX, .inr (4, [.ref aN, .ref aL, .ref aV, .ref aG])), (aL, .inr (1, [.ref aN, .ref aR, .ref aU, .ref aK, .int (nI lr), .int (nI kc), .int (za_bi sd)])), (aR, .inl (cI, 576, .inl Rw)), (aU, .inl (cI, 96, .inl Un)), (aK, .inl (cI, 24, .inl Kd)), (aN, .inr (0, [.ref aT, .ref aC, .int ct])), (aT, .inl (cI, 96, .inl Tg)), (aC, .inl (cI, 24, .inl Co)), (aG, .inr (3, [.ref aN, .ref aL, .ref aS, .ref aM, .ref aA, .int (nI ln0)])), (aS, .inl (cI, 2, .inl Sd)), (aM, .inl (cI, 24, .inl Md)), (aA, .inl (cI, 24, .inl An))] sz) := by
  refine za_wi (cc := zo_X_playedAttacks) (maxL := 3) (ty := .int) (by decide) (Nat.le_of_ble_eq_true rfl) (fun _ _ _ => rfl) ?_
  intro p e sg m args below meth c H0 A Q hx hb hml hts hown hmn hP hK hN hD hA hS hret ls hl
  have hP : va_P D vwCl [(aX, .inr (4, [.ref aN, .ref aL, .ref aV, .ref aG])), (aL, .inr (1, [.ref aN, .ref aR, .ref aU, .ref aK, .int (nI lr), .int (nI kc), .int (za_bi sd)])), (aR, .inl (cI, 576, .inl Rw)), (aU, .inl (cI, 96, .inl Un)), (aK, .inl (cI, 24, .inl Kd)), (aN, .inr (0, [.ref aT, .ref aC, .int ct])), (aT, .inl (cI, 96, .inl Tg)), (aC, .inl (cI, 24, .inl Co)), (aG, .inr (3, [.ref aN, .ref aL, .ref aS, .ref aM, .ref aA, .int (nI ln0)])), (aS, .inl (cI, 2, .inl Sd)), (aM, .inl (cI, 24, .inl Md)), (aA, .inl (cI, 24, .inl An))] H0 := hP
  have hD : va_D A [(aX, .inr (4, [.ref aN, .ref aL, .ref aV, .ref aG])), (aL, .inr (1, [.ref aN, .ref aR, .ref aU, .ref aK, .int (nI lr), .int (nI kc), .int (za_bi sd)])), (aR, .inl (cI, 576, .inl Rw)), (aU, .inl (cI, 96, .inl Un)), (aK, .inl (cI, 24, .inl Kd)), (aN, .inr (0, [.ref aT, .ref aC, .int ct])), (aT, .inl (cI, 96, .inl Tg)), (aC, .inl (cI, 24, .inl Co)), (aG, .inr (3, [.ref aN, .ref aL, .ref aS, .ref aM, .ref aA, .int (nI ln0)])), (aS, .inl (cI, 2, .inl Sd)), (aM, .inl (cI, 24, .inl Md)), (aA, .inl (cI, 24, .inl An))] := hD
  have hl : lv_has ls 3 [(0, .ref aX), (1, .int w), (2, .int v)] := hl
  have hf21 := hts _ zw_140
  have hf37 := hts _ zw_142
  refine lv_iload_n hx hb zd_X_playedAttacks_0 rfl (lv_at hl 1 rfl) ?_
  refine lv_iload_n hx hb zd_X_playedAttacks_1 rfl (lv_at hl 2 rfl) ?_
  refine za_cS (As := [.int w, .int v]) (rest := []) ⟨hx, hb, hml, hown, hts⟩ (zc_X_areStates ln D cI cZ w v ) (za_gS 2 hts zw_159 zw_160 zw_35 zw_161 (by decide +kernel) ⟨Nat.le_of_ble_eq_true rfl, Nat.le_of_ble_eq_true rfl⟩) hK hN hP [] rfl hl rfl rfl (Nat.le_of_ble_eq_true rfl) zd_X_playedAttacks_2 ⟨Nat.le_of_ble_eq_true rfl, Nat.le_of_ble_eq_true rfl⟩ ?_
  refine lv_if_ne hx hb (tgt := 10) zd_X_playedAttacks_5 (by decide) (fun h5 => ?_) (fun h5 => ?_)
  · have h5 := za_bT h5
    obtain ⟨⟨s, hs0, hw⟩, t, ht0, hv9⟩ := za_isSS_of h5
    have hl : lv_has ls 3 [(0, .ref aX), (1, .int (nI s)), (2, .int v)] := by rw [← hw]; exact hl
    have hl : lv_has ls 3 [(0, .ref aX), (1, .int (nI s)), (2, .int (nI t))] := by rw [← hv9]; exact hl
    refine lv_aload_n hx hb zd_X_playedAttacks_10 rfl (lv_at hl 0 rfl) ?_
    refine va_get (D := D) (ci := 4) (v := .ref aL) (C := zs_X) (T := zt_X) (N := 4) hx hb hts zi_X hown hK hP 0 rfl rfl 1 (by decide) hf21 (fun _ h9 => h9) rfl zd_X_playedAttacks_11 ?_
    refine za_wVv (As := []) (rest := []) (wr := [(aX, .inr (4, [.ref aN, .ref aL, .ref aV, .ref aG])), (aG, .inr (3, [.ref aN, .ref aL, .ref aS, .ref aM, .ref aA, .int (nI ln0)])), (aS, .inl (cI, 2, .inl Sd)), (aM, .inl (cI, 24, .inl Md)), (aA, .inl (cI, 24, .inl An))]) (wz := (fun u => [(aX, .inr (4, [.ref aN, .ref aL, .ref aV, .ref aG])), (aL, .inr (1, [.ref aN, .ref aR, .ref aU, .ref aK, .int (nI u.2.2.2.1), .int (nI u.2.2.2.2), .int (za_bi true)])), (aR, .inl (cI, 576, .inl u.1)), (aU, .inl (cI, 96, .inl u.2.1)), (aK, .inl (cI, 24, .inl u.2.2.1)), (aN, .inr (0, [.ref aT, .ref aC, .int ct])), (aT, .inl (cI, 96, .inl Tg)), (aC, .inl (cI, 24, .inl Co)), (aG, .inr (3, [.ref aN, .ref aL, .ref aS, .ref aM, .ref aA, .int (nI ln0)])), (aS, .inl (cI, 2, .inl Sd)), (aM, .inl (cI, 24, .inl Md)), (aA, .inl (cI, 24, .inl An))])) ⟨hx, hb, hml, hown, hts⟩ (zc_L_settle ln D cI cZ _ aL aN aR aU aK lr kc sd aT aC ct Tg Co Rw Un Kd (by exact hok)) (za_gV 0 hts zw_235 zw_236 zw_237 zw_37 zw_238 (by decide +kernel) ⟨Nat.le_of_ble_eq_true rfl, Nat.le_of_ble_eq_true rfl⟩) hK hN hP hD hS hA [1, 2, 3, 4, 5, 6, 7] [0, 8, 9, 10, 11] [0, 5, 6, 7, 8, 9, 10, 11, 1, 2, 3, 4] rfl rfl (by decide) (by decide) (by decide) (by decide) (fun _ => rfl) (q0 := 1) rfl rfl hl rfl rfl (Nat.le_of_ble_eq_true rfl) zd_X_playedAttacks_14 ⟨Nat.le_of_ble_eq_true rfl, Nat.le_of_ble_eq_true rfl⟩ (fun u14 H locs hq14 hP hD hS => ?_)
    obtain ⟨Rw1_14, Un1_14, Kd1_14, lr1_14, kc1_14⟩ := u14
    have hP : va_P D vwCl [(aX, .inr (4, [.ref aN, .ref aL, .ref aV, .ref aG])), (aL, .inr (1, [.ref aN, .ref aR, .ref aU, .ref aK, .int (nI lr1_14), .int (nI kc1_14), .int (za_bi true)])), (aR, .inl (cI, 576, .inl Rw1_14)), (aU, .inl (cI, 96, .inl Un1_14)), (aK, .inl (cI, 24, .inl Kd1_14)), (aN, .inr (0, [.ref aT, .ref aC, .int ct])), (aT, .inl (cI, 96, .inl Tg)), (aC, .inl (cI, 24, .inl Co)), (aG, .inr (3, [.ref aN, .ref aL, .ref aS, .ref aM, .ref aA, .int (nI ln0)])), (aS, .inl (cI, 2, .inl Sd)), (aM, .inl (cI, 24, .inl Md)), (aA, .inl (cI, 24, .inl An))] H := hP
    have hD : va_D A [(aX, .inr (4, [.ref aN, .ref aL, .ref aV, .ref aG])), (aL, .inr (1, [.ref aN, .ref aR, .ref aU, .ref aK, .int (nI lr1_14), .int (nI kc1_14), .int (za_bi true)])), (aR, .inl (cI, 576, .inl Rw1_14)), (aU, .inl (cI, 96, .inl Un1_14)), (aK, .inl (cI, 24, .inl Kd1_14)), (aN, .inr (0, [.ref aT, .ref aC, .int ct])), (aT, .inl (cI, 96, .inl Tg)), (aC, .inl (cI, 24, .inl Co)), (aG, .inr (3, [.ref aN, .ref aL, .ref aS, .ref aM, .ref aA, .int (nI ln0)])), (aS, .inl (cI, 2, .inl Sd)), (aM, .inl (cI, 24, .inl Md)), (aA, .inl (cI, 24, .inl An))] := hD
    have hq14 : za_like Tg Co Rw1_14 lr1_14 Kd1_14 kc1_14 := hq14
    refine lv_aload_n hx hb zd_X_playedAttacks_17 rfl (lv_at hl 0 rfl) ?_
    refine va_get (D := D) (ci := 4) (v := .ref aG) (C := zs_X) (T := zt_X) (N := 4) hx hb hts zi_X hown hK hP 0 rfl rfl 3 (by decide) hf37 (fun _ h9 => h9) rfl zd_X_playedAttacks_18 ?_
    refine lv_iload_n hx hb zd_X_playedAttacks_21 rfl (lv_at hl 1 rfl) ?_
    refine lv_iload_n hx hb zd_X_playedAttacks_22 rfl (lv_at hl 2 rfl) ?_
    refine za_wVi (As := [.int (nI s), .int (nI t)]) (rest := []) (wr := [(aX, .inr (4, [.ref aN, .ref aL, .ref aV, .ref aG])), (aU, .inl (cI, 96, .inl Un1_14)), (aK, .inl (cI, 24, .inl Kd1_14)), (aC, .inl (cI, 24, .inl Co))]) (wz := (fun u => [(aX, .inr (4, [.ref aN, .ref aL, .ref aV, .ref aG])), (aL, .inr (1, [.ref aN, .ref aR, .ref aU, .ref aK, .int (nI lr1_14), .int (nI kc1_14), .int (za_bi true)])), (aR, .inl (cI, 576, .inl Rw1_14)), (aU, .inl (cI, 96, .inl Un1_14)), (aK, .inl (cI, 24, .inl Kd1_14)), (aN, .inr (0, [.ref aT, .ref aC, .int ct])), (aT, .inl (cI, 96, .inl Tg)), (aC, .inl (cI, 24, .inl Co)), (aG, .inr (3, [.ref aN, .ref aL, .ref aS, .ref aM, .ref aA, .int (nI u.2.2.2)])), (aS, .inl (cI, 2, .inl u.1)), (aM, .inl (cI, 24, .inl u.2.1)), (aA, .inl (cI, 24, .inl u.2.2.1))])) ⟨hx, hb, hml, hown, hts⟩ (zc_G_playThrough ln D cI cZ _ aG aN aL aS aM aA ln0 aT aC ct aR aU aK lr1_14 kc1_14 true Tg Rw1_14 Co Kd1_14 Sd Md An s t (by omega) (by omega) (by exact hq14)) (za_gV 2 hts zw_405 zw_406 zw_407 zw_39 zw_408 (by decide +kernel) ⟨Nat.le_of_ble_eq_true rfl, Nat.le_of_ble_eq_true rfl⟩) hK hN hP hD hS hA [8, 5, 6, 1, 2, 9, 10, 11] [0, 3, 4, 7] [0, 7, 8, 1, 2, 5, 6, 3, 4, 9, 10, 11] rfl rfl (by decide) (by decide) (by decide) (by decide) (fun _ => rfl) (q0 := 8) rfl rfl hl rfl rfl (Nat.le_of_ble_eq_true rfl) zd_X_playedAttacks_23 ⟨Nat.le_of_ble_eq_true rfl, Nat.le_of_ble_eq_true rfl⟩ (fun r23 u23 H locs hq23 hP hD hS => ?_)
    obtain ⟨Sd1_23, Md1_23, An1_23, ln1_23⟩ := u23
    have hP : va_P D vwCl [(aX, .inr (4, [.ref aN, .ref aL, .ref aV, .ref aG])), (aL, .inr (1, [.ref aN, .ref aR, .ref aU, .ref aK, .int (nI lr1_14), .int (nI kc1_14), .int (za_bi true)])), (aR, .inl (cI, 576, .inl Rw1_14)), (aU, .inl (cI, 96, .inl Un1_14)), (aK, .inl (cI, 24, .inl Kd1_14)), (aN, .inr (0, [.ref aT, .ref aC, .int ct])), (aT, .inl (cI, 96, .inl Tg)), (aC, .inl (cI, 24, .inl Co)), (aG, .inr (3, [.ref aN, .ref aL, .ref aS, .ref aM, .ref aA, .int (nI ln1_23)])), (aS, .inl (cI, 2, .inl Sd1_23)), (aM, .inl (cI, 24, .inl Md1_23)), (aA, .inl (cI, 24, .inl An1_23))] H := hP
    have hD : va_D A [(aX, .inr (4, [.ref aN, .ref aL, .ref aV, .ref aG])), (aL, .inr (1, [.ref aN, .ref aR, .ref aU, .ref aK, .int (nI lr1_14), .int (nI kc1_14), .int (za_bi true)])), (aR, .inl (cI, 576, .inl Rw1_14)), (aU, .inl (cI, 96, .inl Un1_14)), (aK, .inl (cI, 24, .inl Kd1_14)), (aN, .inr (0, [.ref aT, .ref aC, .int ct])), (aT, .inl (cI, 96, .inl Tg)), (aC, .inl (cI, 24, .inl Co)), (aG, .inr (3, [.ref aN, .ref aL, .ref aS, .ref aM, .ref aA, .int (nI ln1_23)])), (aS, .inl (cI, 2, .inl Sd1_23)), (aM, .inl (cI, 24, .inl Md1_23)), (aA, .inl (cI, 24, .inl An1_23))] := hD
    obtain ⟨hr23, hq23⟩ := hq23
    have hr23 : r23 = nI (za_pn Tg Co s t) := hr23
    rw [hr23]
    have hq23 : ln1_23 = za_pn Tg Co s t ∧ (∀ q, q < za_pn Tg Co s t → Md1_23 q = nI (za_cd9 Tg Co (za_tr Tg Co s t q).2.1 (za_tr Tg Co s t q).2.2)) ∧ (∀ q, q < za_pn Tg Co s t → An1_23 q = za_ai (za_an Tg Co (za_tr Tg Co s t q).2.1 (za_tr Tg Co s t q).2.2)) := hq23
    have hP9 : va_P D vwCl [(aX, .inr (4, [.ref aN, .ref aL, .ref aV, .ref aG])), (aL, .inr (1, [.ref aN, .ref aR, .ref aU, .ref aK, .int (nI lr1_14), .int (nI kc1_14), .int (za_bi true)])), (aR, .inl (cI, 576, .inl Rw1_14)), (aU, .inl (cI, 96, .inl Un1_14)), (aK, .inl (cI, 24, .inl Kd1_14)), (aN, .inr (0, [.ref aT, .ref aC, .int ct])), (aT, .inl (cI, 96, .inl Tg)), (aC, .inl (cI, 24, .inl Co)), (aG, .inr (3, [.ref aN, .ref aL, .ref aS, .ref aM, .ref aA, .int (nI ln1_23)])), (aS, .inl (cI, 2, .inl Sd1_23)), (aM, .inl (cI, 24, .inl Md1_23)), (aA, .inl (cI, 24, .inl An1_23))] H := hP
    have hD9 : va_D A [(aX, .inr (4, [.ref aN, .ref aL, .ref aV, .ref aG])), (aL, .inr (1, [.ref aN, .ref aR, .ref aU, .ref aK, .int (nI lr1_14), .int (nI kc1_14), .int (za_bi true)])), (aR, .inl (cI, 576, .inl Rw1_14)), (aU, .inl (cI, 96, .inl Un1_14)), (aK, .inl (cI, 24, .inl Kd1_14)), (aN, .inr (0, [.ref aT, .ref aC, .int ct])), (aT, .inl (cI, 96, .inl Tg)), (aC, .inl (cI, 24, .inl Co)), (aG, .inr (3, [.ref aN, .ref aL, .ref aS, .ref aM, .ref aA, .int (nI ln1_23)])), (aS, .inl (cI, 2, .inl Sd1_23)), (aM, .inl (cI, 24, .inl Md1_23)), (aA, .inl (cI, 24, .inl An1_23))] := hD
    have hQ9 : (nI (za_pn Tg Co s t)) = nI (za_pnv Tg Co w v) ∧ (true = true → za_like Tg Co Rw1_14 lr1_14 Kd1_14 kc1_14) ∧ ((za_isS w && za_isS v) = true → (∀ q, q < za_pn Tg Co (za_clp w) (za_clp v) → Md1_23 q = nI (za_cd9 Tg Co (za_tr Tg Co (za_clp w) (za_clp v) q).2.1 (za_tr Tg Co (za_clp w) (za_clp v) q).2.2) ∧ An1_23 q = za_ai (za_an Tg Co (za_tr Tg Co (za_clp w) (za_clp v) q).2.1 (za_tr Tg Co (za_clp w) (za_clp v) q).2.2))) := by first | exact ⟨by unfold za_pnv; rw [h5]; rfl, hok, fun z => absurd z (by rw [h5]; decide)⟩ | exact ⟨by unfold za_pnv; rw [if_pos h5, hw, hv9, za_clS hs0, za_clS ht0], fun _ => hq14, fun _ => by rw [hw, hv9, za_clS hs0, za_clS ht0]; exact fun q hq => ⟨hq23.2.1 q hq, hq23.2.2 q hq⟩⟩
    exact hret _ ⟨Rw1_14, Un1_14, Kd1_14, lr1_14, kc1_14, true, Sd1_23, Md1_23, An1_23, ln1_23⟩ _ _ _ _ (hQ9) hP9 hD9 hS zd_X_playedAttacks_26
  · have h5 := za_bF h5
    refine lv_iconst (v := nI 0) hx hb zd_X_playedAttacks_8 (by decide) ?_
    have hP9 : va_P D vwCl [(aX, .inr (4, [.ref aN, .ref aL, .ref aV, .ref aG])), (aL, .inr (1, [.ref aN, .ref aR, .ref aU, .ref aK, .int (nI lr), .int (nI kc), .int (za_bi sd)])), (aR, .inl (cI, 576, .inl Rw)), (aU, .inl (cI, 96, .inl Un)), (aK, .inl (cI, 24, .inl Kd)), (aN, .inr (0, [.ref aT, .ref aC, .int ct])), (aT, .inl (cI, 96, .inl Tg)), (aC, .inl (cI, 24, .inl Co)), (aG, .inr (3, [.ref aN, .ref aL, .ref aS, .ref aM, .ref aA, .int (nI ln0)])), (aS, .inl (cI, 2, .inl Sd)), (aM, .inl (cI, 24, .inl Md)), (aA, .inl (cI, 24, .inl An))] H0 := hP
    have hD9 : va_D A [(aX, .inr (4, [.ref aN, .ref aL, .ref aV, .ref aG])), (aL, .inr (1, [.ref aN, .ref aR, .ref aU, .ref aK, .int (nI lr), .int (nI kc), .int (za_bi sd)])), (aR, .inl (cI, 576, .inl Rw)), (aU, .inl (cI, 96, .inl Un)), (aK, .inl (cI, 24, .inl Kd)), (aN, .inr (0, [.ref aT, .ref aC, .int ct])), (aT, .inl (cI, 96, .inl Tg)), (aC, .inl (cI, 24, .inl Co)), (aG, .inr (3, [.ref aN, .ref aL, .ref aS, .ref aM, .ref aA, .int (nI ln0)])), (aS, .inl (cI, 2, .inl Sd)), (aM, .inl (cI, 24, .inl Md)), (aA, .inl (cI, 24, .inl An))] := hD
    have hQ9 : (nI 0) = nI (za_pnv Tg Co w v) ∧ (sd = true → za_like Tg Co Rw lr Kd kc) ∧ ((za_isS w && za_isS v) = true → (∀ q, q < za_pn Tg Co (za_clp w) (za_clp v) → Md q = nI (za_cd9 Tg Co (za_tr Tg Co (za_clp w) (za_clp v) q).2.1 (za_tr Tg Co (za_clp w) (za_clp v) q).2.2) ∧ An q = za_ai (za_an Tg Co (za_tr Tg Co (za_clp w) (za_clp v) q).2.1 (za_tr Tg Co (za_clp w) (za_clp v) q).2.2))) := by first | exact ⟨by unfold za_pnv; rw [h5]; rfl, hok, fun z => absurd z (by rw [h5]; decide)⟩ | exact ⟨by unfold za_pnv; rw [if_pos h5, hw, hv9, za_clS hs0, za_clS ht0], fun _ => hq14, fun _ => by rw [hw, hv9, za_clS hs0, za_clS ht0]; exact fun q hq => ⟨hq23.2.1 q hq, hq23.2.2 q hq⟩⟩
    exact hret _ ⟨Rw, Un, Kd, lr, kc, sd, Sd, Md, An, ln0⟩ _ _ _ _ (hQ9) hP9 hD9 hS zd_X_playedAttacks_9
def zr_X_play : Room := { frames := 6, cells := 0, slots := 0, locals := 143 }
set_option maxHeartbeats 4000000 in
set_option maxRecDepth 100000 in
theorem zc_X_play (ln : Launch) (D : va_G) (cI cZ : ClassId) (sz : Nat) (aX : Nat) (aV : Nat) (aG : Nat) (aL : Nat) (aN : Nat) (aR : Nat) (aU : Nat) (aK : Nat) (lr : Nat) (kc : Nat) (sd : Bool) (aT : Nat) (aC : Nat) (ct : Int32) (Tg : Nat → Int32) (Co : Nat → Int32) (Rw : Nat → Int32) (Un : Nat → Int32) (Kd : Nat → Int32) (aS : Nat) (aM : Nat) (aA : Nat) (ln0 : Nat) (Sd : Nat → Int32) (Md : Nat → Int32) (An : Nat → Int32) (w : Int32) (v : Int32) (hok : sd = true → za_like Tg Co Rw lr Kd kc) : Met ln zm_X_play (Cond.code zm_X_play zo_X_play 3 (some .int) :: zb_big) zr_X_play (za_Pw D vwCl [(cI, .int), (cZ, .boolean)] [.ref aX, .int w, .int v] [(aX, .inr (4, [.ref aN, .ref aL, .ref aV, .ref aG])), (aL, .inr (1, [.ref aN, .ref aR, .ref aU, .ref aK, .int (nI lr), .int (nI kc), .int (za_bi sd)])), (aR, .inl (cI, 576, .inl Rw)), (aU, .inl (cI, 96, .inl Un)), (aK, .inl (cI, 24, .inl Kd)), (aN, .inr (0, [.ref aT, .ref aC, .int ct])), (aT, .inl (cI, 96, .inl Tg)), (aC, .inl (cI, 24, .inl Co)), (aG, .inr (3, [.ref aN, .ref aL, .ref aS, .ref aM, .ref aA, .int (nI ln0)])), (aS, .inl (cI, 2, .inl Sd)), (aM, .inl (cI, 24, .inl Md)), (aA, .inl (cI, 24, .inl An))] sz) (va_Qi (fun (r : Int32) (u : (Nat → Int32) × (Nat → Int32) × (Nat → Int32) × Nat × Nat × Bool × (Nat → Int32) × (Nat → Int32) × (Nat → Int32) × Nat) => r = nI (za_pnv Tg Co w v) ∧ (u.2.2.2.2.2.1 = true → za_like Tg Co u.1 u.2.2.2.1 u.2.2.1 u.2.2.2.2.1)) (za_B D vwCl [(aX, .inr (4, [.ref aN, .ref aL, .ref aV, .ref aG])), (aL, .inr (1, [.ref aN, .ref aR, .ref aU, .ref aK, .int (nI lr), .int (nI kc), .int (za_bi sd)])), (aR, .inl (cI, 576, .inl Rw)), (aU, .inl (cI, 96, .inl Un)), (aK, .inl (cI, 24, .inl Kd)), (aN, .inr (0, [.ref aT, .ref aC, .int ct])), (aT, .inl (cI, 96, .inl Tg)), (aC, .inl (cI, 24, .inl Co)), (aG, .inr (3, [.ref aN, .ref aL, .ref aS, .ref aM, .ref aA, .int (nI ln0)])), (aS, .inl (cI, 2, .inl Sd)), (aM, .inl (cI, 24, .inl Md)), (aA, .inl (cI, 24, .inl An))] sz (fun (u : (Nat → Int32) × (Nat → Int32) × (Nat → Int32) × Nat × Nat × Bool × (Nat → Int32) × (Nat → Int32) × (Nat → Int32) × Nat) => [(aX, .inr (4, [.ref aN, .ref aL, .ref aV, .ref aG])), (aL, .inr (1, [.ref aN, .ref aR, .ref aU, .ref aK, .int (nI u.2.2.2.1), .int (nI u.2.2.2.2.1), .int (za_bi u.2.2.2.2.2.1)])), (aR, .inl (cI, 576, .inl u.1)), (aU, .inl (cI, 96, .inl u.2.1)), (aK, .inl (cI, 24, .inl u.2.2.1)), (aN, .inr (0, [.ref aT, .ref aC, .int ct])), (aT, .inl (cI, 96, .inl Tg)), (aC, .inl (cI, 24, .inl Co)), (aG, .inr (3, [.ref aN, .ref aL, .ref aS, .ref aM, .ref aA, .int (nI u.2.2.2.2.2.2.2.2.2)])), (aS, .inl (cI, 2, .inl u.2.2.2.2.2.2.1)), (aM, .inl (cI, 24, .inl u.2.2.2.2.2.2.2.1)), (aA, .inl (cI, 24, .inl u.2.2.2.2.2.2.2.2.1))])) (va_A [(aX, .inr (4, [.ref aN, .ref aL, .ref aV, .ref aG])), (aL, .inr (1, [.ref aN, .ref aR, .ref aU, .ref aK, .int (nI lr), .int (nI kc), .int (za_bi sd)])), (aR, .inl (cI, 576, .inl Rw)), (aU, .inl (cI, 96, .inl Un)), (aK, .inl (cI, 24, .inl Kd)), (aN, .inr (0, [.ref aT, .ref aC, .int ct])), (aT, .inl (cI, 96, .inl Tg)), (aC, .inl (cI, 24, .inl Co)), (aG, .inr (3, [.ref aN, .ref aL, .ref aS, .ref aM, .ref aA, .int (nI ln0)])), (aS, .inl (cI, 2, .inl Sd)), (aM, .inl (cI, 24, .inl Md)), (aA, .inl (cI, 24, .inl An))] sz)) 0 0 (va_A [(aX, .inr (4, [.ref aN, .ref aL, .ref aV, .ref aG])), (aL, .inr (1, [.ref aN, .ref aR, .ref aU, .ref aK, .int (nI lr), .int (nI kc), .int (za_bi sd)])), (aR, .inl (cI, 576, .inl Rw)), (aU, .inl (cI, 96, .inl Un)), (aK, .inl (cI, 24, .inl Kd)), (aN, .inr (0, [.ref aT, .ref aC, .int ct])), (aT, .inl (cI, 96, .inl Tg)), (aC, .inl (cI, 24, .inl Co)), (aG, .inr (3, [.ref aN, .ref aL, .ref aS, .ref aM, .ref aA, .int (nI ln0)])), (aS, .inl (cI, 2, .inl Sd)), (aM, .inl (cI, 24, .inl Md)), (aA, .inl (cI, 24, .inl An))] sz) := by
  refine za_wi (cc := zo_X_play) (maxL := 3) (ty := .int) (by decide) (Nat.le_of_ble_eq_true rfl) (fun _ _ _ => rfl) ?_
  intro p e sg m args below meth c H0 A Q hx hb hml hts hown hmn hP hK hN hD hA hS hret ls hl
  have hP : va_P D vwCl [(aX, .inr (4, [.ref aN, .ref aL, .ref aV, .ref aG])), (aL, .inr (1, [.ref aN, .ref aR, .ref aU, .ref aK, .int (nI lr), .int (nI kc), .int (za_bi sd)])), (aR, .inl (cI, 576, .inl Rw)), (aU, .inl (cI, 96, .inl Un)), (aK, .inl (cI, 24, .inl Kd)), (aN, .inr (0, [.ref aT, .ref aC, .int ct])), (aT, .inl (cI, 96, .inl Tg)), (aC, .inl (cI, 24, .inl Co)), (aG, .inr (3, [.ref aN, .ref aL, .ref aS, .ref aM, .ref aA, .int (nI ln0)])), (aS, .inl (cI, 2, .inl Sd)), (aM, .inl (cI, 24, .inl Md)), (aA, .inl (cI, 24, .inl An))] H0 := hP
  have hD : va_D A [(aX, .inr (4, [.ref aN, .ref aL, .ref aV, .ref aG])), (aL, .inr (1, [.ref aN, .ref aR, .ref aU, .ref aK, .int (nI lr), .int (nI kc), .int (za_bi sd)])), (aR, .inl (cI, 576, .inl Rw)), (aU, .inl (cI, 96, .inl Un)), (aK, .inl (cI, 24, .inl Kd)), (aN, .inr (0, [.ref aT, .ref aC, .int ct])), (aT, .inl (cI, 96, .inl Tg)), (aC, .inl (cI, 24, .inl Co)), (aG, .inr (3, [.ref aN, .ref aL, .ref aS, .ref aM, .ref aA, .int (nI ln0)])), (aS, .inl (cI, 2, .inl Sd)), (aM, .inl (cI, 24, .inl Md)), (aA, .inl (cI, 24, .inl An))] := hD
  have hl : lv_has ls 3 [(0, .ref aX), (1, .int w), (2, .int v)] := hl
  refine lv_aload_n hx hb zd_X_play_0 rfl (lv_at hl 0 rfl) ?_
  refine lv_iload_n hx hb zd_X_play_1 rfl (lv_at hl 1 rfl) ?_
  refine lv_iload_n hx hb zd_X_play_2 rfl (lv_at hl 2 rfl) ?_
  refine za_wVi (As := [.int w, .int v]) (rest := []) (wr := []) (wz := (fun u => [(aX, .inr (4, [.ref aN, .ref aL, .ref aV, .ref aG])), (aL, .inr (1, [.ref aN, .ref aR, .ref aU, .ref aK, .int (nI u.2.2.2.1), .int (nI u.2.2.2.2.1), .int (za_bi u.2.2.2.2.2.1)])), (aR, .inl (cI, 576, .inl u.1)), (aU, .inl (cI, 96, .inl u.2.1)), (aK, .inl (cI, 24, .inl u.2.2.1)), (aN, .inr (0, [.ref aT, .ref aC, .int ct])), (aT, .inl (cI, 96, .inl Tg)), (aC, .inl (cI, 24, .inl Co)), (aG, .inr (3, [.ref aN, .ref aL, .ref aS, .ref aM, .ref aA, .int (nI u.2.2.2.2.2.2.2.2.2)])), (aS, .inl (cI, 2, .inl u.2.2.2.2.2.2.1)), (aM, .inl (cI, 24, .inl u.2.2.2.2.2.2.2.1)), (aA, .inl (cI, 24, .inl u.2.2.2.2.2.2.2.2.1))])) ⟨hx, hb, hml, hown, hts⟩ (zc_X_playedAttacks ln D cI cZ _ aX aV aG aL aN aR aU aK lr kc sd aT aC ct Tg Co Rw Un Kd aS aM aA ln0 Sd Md An w v (by exact hok)) (za_gV 2 hts zw_401 zw_403 zw_15 zw_35 zw_404 (by decide +kernel) ⟨Nat.le_of_ble_eq_true rfl, Nat.le_of_ble_eq_true rfl⟩) hK hN hP hD hS hA [0, 1, 2, 3, 4, 5, 6, 7, 8, 9, 10, 11] [] [0, 1, 2, 3, 4, 5, 6, 7, 8, 9, 10, 11] rfl rfl (by decide) (by decide) (by decide) (by decide) (fun _ => rfl) (q0 := 0) rfl rfl hl rfl rfl (Nat.le_of_ble_eq_true rfl) zd_X_play_3 ⟨Nat.le_of_ble_eq_true rfl, Nat.le_of_ble_eq_true rfl⟩ (fun r3 u3 H locs hq3 hP hD hS => ?_)
  obtain ⟨Rw1_3, Un1_3, Kd1_3, lr1_3, kc1_3, sd1_3, Sd1_3, Md1_3, An1_3, ln1_3⟩ := u3
  have hP : va_P D vwCl [(aX, .inr (4, [.ref aN, .ref aL, .ref aV, .ref aG])), (aL, .inr (1, [.ref aN, .ref aR, .ref aU, .ref aK, .int (nI lr1_3), .int (nI kc1_3), .int (za_bi sd1_3)])), (aR, .inl (cI, 576, .inl Rw1_3)), (aU, .inl (cI, 96, .inl Un1_3)), (aK, .inl (cI, 24, .inl Kd1_3)), (aN, .inr (0, [.ref aT, .ref aC, .int ct])), (aT, .inl (cI, 96, .inl Tg)), (aC, .inl (cI, 24, .inl Co)), (aG, .inr (3, [.ref aN, .ref aL, .ref aS, .ref aM, .ref aA, .int (nI ln1_3)])), (aS, .inl (cI, 2, .inl Sd1_3)), (aM, .inl (cI, 24, .inl Md1_3)), (aA, .inl (cI, 24, .inl An1_3))] H := hP
  have hD : va_D A [(aX, .inr (4, [.ref aN, .ref aL, .ref aV, .ref aG])), (aL, .inr (1, [.ref aN, .ref aR, .ref aU, .ref aK, .int (nI lr1_3), .int (nI kc1_3), .int (za_bi sd1_3)])), (aR, .inl (cI, 576, .inl Rw1_3)), (aU, .inl (cI, 96, .inl Un1_3)), (aK, .inl (cI, 24, .inl Kd1_3)), (aN, .inr (0, [.ref aT, .ref aC, .int ct])), (aT, .inl (cI, 96, .inl Tg)), (aC, .inl (cI, 24, .inl Co)), (aG, .inr (3, [.ref aN, .ref aL, .ref aS, .ref aM, .ref aA, .int (nI ln1_3)])), (aS, .inl (cI, 2, .inl Sd1_3)), (aM, .inl (cI, 24, .inl Md1_3)), (aA, .inl (cI, 24, .inl An1_3))] := hD
  obtain ⟨hr3, hq3⟩ := hq3
  have hr3 : r3 = nI (za_pnv Tg Co w v) := hr3
  rw [hr3]
  have hq3 : (sd1_3 = true → za_like Tg Co Rw1_3 lr1_3 Kd1_3 kc1_3) ∧ ((za_isS w && za_isS v) = true → (∀ q, q < za_pn Tg Co (za_clp w) (za_clp v) → Md1_3 q = nI (za_cd9 Tg Co (za_tr Tg Co (za_clp w) (za_clp v) q).2.1 (za_tr Tg Co (za_clp w) (za_clp v) q).2.2) ∧ An1_3 q = za_ai (za_an Tg Co (za_tr Tg Co (za_clp w) (za_clp v) q).2.1 (za_tr Tg Co (za_clp w) (za_clp v) q).2.2))) := hq3
  have hP9 : va_P D vwCl [(aX, .inr (4, [.ref aN, .ref aL, .ref aV, .ref aG])), (aL, .inr (1, [.ref aN, .ref aR, .ref aU, .ref aK, .int (nI lr1_3), .int (nI kc1_3), .int (za_bi sd1_3)])), (aR, .inl (cI, 576, .inl Rw1_3)), (aU, .inl (cI, 96, .inl Un1_3)), (aK, .inl (cI, 24, .inl Kd1_3)), (aN, .inr (0, [.ref aT, .ref aC, .int ct])), (aT, .inl (cI, 96, .inl Tg)), (aC, .inl (cI, 24, .inl Co)), (aG, .inr (3, [.ref aN, .ref aL, .ref aS, .ref aM, .ref aA, .int (nI ln1_3)])), (aS, .inl (cI, 2, .inl Sd1_3)), (aM, .inl (cI, 24, .inl Md1_3)), (aA, .inl (cI, 24, .inl An1_3))] H := hP
  have hD9 : va_D A [(aX, .inr (4, [.ref aN, .ref aL, .ref aV, .ref aG])), (aL, .inr (1, [.ref aN, .ref aR, .ref aU, .ref aK, .int (nI lr1_3), .int (nI kc1_3), .int (za_bi sd1_3)])), (aR, .inl (cI, 576, .inl Rw1_3)), (aU, .inl (cI, 96, .inl Un1_3)), (aK, .inl (cI, 24, .inl Kd1_3)), (aN, .inr (0, [.ref aT, .ref aC, .int ct])), (aT, .inl (cI, 96, .inl Tg)), (aC, .inl (cI, 24, .inl Co)), (aG, .inr (3, [.ref aN, .ref aL, .ref aS, .ref aM, .ref aA, .int (nI ln1_3)])), (aS, .inl (cI, 2, .inl Sd1_3)), (aM, .inl (cI, 24, .inl Md1_3)), (aA, .inl (cI, 24, .inl An1_3))] := hD
  have hQ9 : (nI (za_pnv Tg Co w v)) = nI (za_pnv Tg Co w v) ∧ (sd1_3 = true → za_like Tg Co Rw1_3 lr1_3 Kd1_3 kc1_3) := by exact ⟨rfl, hq3.1⟩
  exact hret _ ⟨Rw1_3, Un1_3, Kd1_3, lr1_3, kc1_3, sd1_3, Sd1_3, Md1_3, An1_3, ln1_3⟩ _ _ _ _ (hQ9) hP9 hD9 hS zd_X_play_6
def zr_X_attack : Room := { frames := 6, cells := 0, slots := 0, locals := 143 }
set_option maxHeartbeats 4000000 in
set_option maxRecDepth 100000 in
theorem zc_X_attack (ln : Launch) (D : va_G) (cI cZ : ClassId) (sz : Nat) (aX : Nat) (aV : Nat) (aG : Nat) (aL : Nat) (aN : Nat) (aR : Nat) (aU : Nat) (aK : Nat) (lr : Nat) (kc : Nat) (sd : Bool) (aT : Nat) (aC : Nat) (ct : Int32) (Tg : Nat → Int32) (Co : Nat → Int32) (Rw : Nat → Int32) (Un : Nat → Int32) (Kd : Nat → Int32) (aS : Nat) (aM : Nat) (aA : Nat) (ln0 : Nat) (Sd : Nat → Int32) (Md : Nat → Int32) (An : Nat → Int32) (w : Int32) (v : Int32) (x0 : Int32) (hok : sd = true → za_like Tg Co Rw lr Kd kc) : Met ln zm_X_attack (Cond.code zm_X_attack zo_X_attack 4 (some .int) :: zb_big) zr_X_attack (za_Pw D vwCl [(cI, .int), (cZ, .boolean)] [.ref aX, .int w, .int v, .int x0] [(aX, .inr (4, [.ref aN, .ref aL, .ref aV, .ref aG])), (aL, .inr (1, [.ref aN, .ref aR, .ref aU, .ref aK, .int (nI lr), .int (nI kc), .int (za_bi sd)])), (aR, .inl (cI, 576, .inl Rw)), (aU, .inl (cI, 96, .inl Un)), (aK, .inl (cI, 24, .inl Kd)), (aN, .inr (0, [.ref aT, .ref aC, .int ct])), (aT, .inl (cI, 96, .inl Tg)), (aC, .inl (cI, 24, .inl Co)), (aG, .inr (3, [.ref aN, .ref aL, .ref aS, .ref aM, .ref aA, .int (nI ln0)])), (aS, .inl (cI, 2, .inl Sd)), (aM, .inl (cI, 24, .inl Md)), (aA, .inl (cI, 24, .inl An))] sz) (va_Qi (fun (r : Int32) (u : (Nat → Int32) × (Nat → Int32) × (Nat → Int32) × Nat × Nat × Bool × (Nat → Int32) × (Nat → Int32) × (Nat → Int32) × Nat) => r = za_kv Tg Co w v x0 ∧ (u.2.2.2.2.2.1 = true → za_like Tg Co u.1 u.2.2.2.1 u.2.2.1 u.2.2.2.2.1)) (za_B D vwCl [(aX, .inr (4, [.ref aN, .ref aL, .ref aV, .ref aG])), (aL, .inr (1, [.ref aN, .ref aR, .ref aU, .ref aK, .int (nI lr), .int (nI kc), .int (za_bi sd)])), (aR, .inl (cI, 576, .inl Rw)), (aU, .inl (cI, 96, .inl Un)), (aK, .inl (cI, 24, .inl Kd)), (aN, .inr (0, [.ref aT, .ref aC, .int ct])), (aT, .inl (cI, 96, .inl Tg)), (aC, .inl (cI, 24, .inl Co)), (aG, .inr (3, [.ref aN, .ref aL, .ref aS, .ref aM, .ref aA, .int (nI ln0)])), (aS, .inl (cI, 2, .inl Sd)), (aM, .inl (cI, 24, .inl Md)), (aA, .inl (cI, 24, .inl An))] sz (fun (u : (Nat → Int32) × (Nat → Int32) × (Nat → Int32) × Nat × Nat × Bool × (Nat → Int32) × (Nat → Int32) × (Nat → Int32) × Nat) => [(aX, .inr (4, [.ref aN, .ref aL, .ref aV, .ref aG])), (aL, .inr (1, [.ref aN, .ref aR, .ref aU, .ref aK, .int (nI u.2.2.2.1), .int (nI u.2.2.2.2.1), .int (za_bi u.2.2.2.2.2.1)])), (aR, .inl (cI, 576, .inl u.1)), (aU, .inl (cI, 96, .inl u.2.1)), (aK, .inl (cI, 24, .inl u.2.2.1)), (aN, .inr (0, [.ref aT, .ref aC, .int ct])), (aT, .inl (cI, 96, .inl Tg)), (aC, .inl (cI, 24, .inl Co)), (aG, .inr (3, [.ref aN, .ref aL, .ref aS, .ref aM, .ref aA, .int (nI u.2.2.2.2.2.2.2.2.2)])), (aS, .inl (cI, 2, .inl u.2.2.2.2.2.2.1)), (aM, .inl (cI, 24, .inl u.2.2.2.2.2.2.2.1)), (aA, .inl (cI, 24, .inl u.2.2.2.2.2.2.2.2.1))])) (va_A [(aX, .inr (4, [.ref aN, .ref aL, .ref aV, .ref aG])), (aL, .inr (1, [.ref aN, .ref aR, .ref aU, .ref aK, .int (nI lr), .int (nI kc), .int (za_bi sd)])), (aR, .inl (cI, 576, .inl Rw)), (aU, .inl (cI, 96, .inl Un)), (aK, .inl (cI, 24, .inl Kd)), (aN, .inr (0, [.ref aT, .ref aC, .int ct])), (aT, .inl (cI, 96, .inl Tg)), (aC, .inl (cI, 24, .inl Co)), (aG, .inr (3, [.ref aN, .ref aL, .ref aS, .ref aM, .ref aA, .int (nI ln0)])), (aS, .inl (cI, 2, .inl Sd)), (aM, .inl (cI, 24, .inl Md)), (aA, .inl (cI, 24, .inl An))] sz)) 0 0 (va_A [(aX, .inr (4, [.ref aN, .ref aL, .ref aV, .ref aG])), (aL, .inr (1, [.ref aN, .ref aR, .ref aU, .ref aK, .int (nI lr), .int (nI kc), .int (za_bi sd)])), (aR, .inl (cI, 576, .inl Rw)), (aU, .inl (cI, 96, .inl Un)), (aK, .inl (cI, 24, .inl Kd)), (aN, .inr (0, [.ref aT, .ref aC, .int ct])), (aT, .inl (cI, 96, .inl Tg)), (aC, .inl (cI, 24, .inl Co)), (aG, .inr (3, [.ref aN, .ref aL, .ref aS, .ref aM, .ref aA, .int (nI ln0)])), (aS, .inl (cI, 2, .inl Sd)), (aM, .inl (cI, 24, .inl Md)), (aA, .inl (cI, 24, .inl An))] sz) := by
  refine za_wi (cc := zo_X_attack) (maxL := 4) (ty := .int) (by decide) (Nat.le_of_ble_eq_true rfl) (fun _ _ _ => rfl) ?_
  intro p e sg m args below meth c H0 A Q hx hb hml hts hown hmn hP hK hN hD hA hS hret ls hl
  have hP : va_P D vwCl [(aX, .inr (4, [.ref aN, .ref aL, .ref aV, .ref aG])), (aL, .inr (1, [.ref aN, .ref aR, .ref aU, .ref aK, .int (nI lr), .int (nI kc), .int (za_bi sd)])), (aR, .inl (cI, 576, .inl Rw)), (aU, .inl (cI, 96, .inl Un)), (aK, .inl (cI, 24, .inl Kd)), (aN, .inr (0, [.ref aT, .ref aC, .int ct])), (aT, .inl (cI, 96, .inl Tg)), (aC, .inl (cI, 24, .inl Co)), (aG, .inr (3, [.ref aN, .ref aL, .ref aS, .ref aM, .ref aA, .int (nI ln0)])), (aS, .inl (cI, 2, .inl Sd)), (aM, .inl (cI, 24, .inl Md)), (aA, .inl (cI, 24, .inl An))] H0 := hP
  have hD : va_D A [(aX, .inr (4, [.ref aN, .ref aL, .ref aV, .ref aG])), (aL, .inr (1, [.ref aN, .ref aR, .ref aU, .ref aK, .int (nI lr), .int (nI kc), .int (za_bi sd)])), (aR, .inl (cI, 576, .inl Rw)), (aU, .inl (cI, 96, .inl Un)), (aK, .inl (cI, 24, .inl Kd)), (aN, .inr (0, [.ref aT, .ref aC, .int ct])), (aT, .inl (cI, 96, .inl Tg)), (aC, .inl (cI, 24, .inl Co)), (aG, .inr (3, [.ref aN, .ref aL, .ref aS, .ref aM, .ref aA, .int (nI ln0)])), (aS, .inl (cI, 2, .inl Sd)), (aM, .inl (cI, 24, .inl Md)), (aA, .inl (cI, 24, .inl An))] := hD
  have hl : lv_has ls 4 [(0, .ref aX), (1, .int w), (2, .int v), (3, .int x0)] := hl
  have hf37 := hts _ zw_142
  refine lv_iload_n hx hb zd_X_attack_0 rfl (lv_at hl 3 rfl) ?_
  refine lv_if_lt hx hb (tgt := 25) zd_X_attack_1 (by decide) (fun h1 => ?_) (fun h1 => ?_)
  · skip
    refine lv_iconst (v := (-1)) hx hb zd_X_attack_25 (by decide) ?_
    have hP9 : va_P D vwCl [(aX, .inr (4, [.ref aN, .ref aL, .ref aV, .ref aG])), (aL, .inr (1, [.ref aN, .ref aR, .ref aU, .ref aK, .int (nI lr), .int (nI kc), .int (za_bi sd)])), (aR, .inl (cI, 576, .inl Rw)), (aU, .inl (cI, 96, .inl Un)), (aK, .inl (cI, 24, .inl Kd)), (aN, .inr (0, [.ref aT, .ref aC, .int ct])), (aT, .inl (cI, 96, .inl Tg)), (aC, .inl (cI, 24, .inl Co)), (aG, .inr (3, [.ref aN, .ref aL, .ref aS, .ref aM, .ref aA, .int (nI ln0)])), (aS, .inl (cI, 2, .inl Sd)), (aM, .inl (cI, 24, .inl Md)), (aA, .inl (cI, 24, .inl An))] H0 := hP
    have hD9 : va_D A [(aX, .inr (4, [.ref aN, .ref aL, .ref aV, .ref aG])), (aL, .inr (1, [.ref aN, .ref aR, .ref aU, .ref aK, .int (nI lr), .int (nI kc), .int (za_bi sd)])), (aR, .inl (cI, 576, .inl Rw)), (aU, .inl (cI, 96, .inl Un)), (aK, .inl (cI, 24, .inl Kd)), (aN, .inr (0, [.ref aT, .ref aC, .int ct])), (aT, .inl (cI, 96, .inl Tg)), (aC, .inl (cI, 24, .inl Co)), (aG, .inr (3, [.ref aN, .ref aL, .ref aS, .ref aM, .ref aA, .int (nI ln0)])), (aS, .inl (cI, 2, .inl Sd)), (aM, .inl (cI, 24, .inl Md)), (aA, .inl (cI, 24, .inl An))] := hD
    have hQ9 : (-1) = za_kv Tg Co w v x0 ∧ (sd = true → za_like Tg Co Rw lr Kd kc) := by first | exact ⟨by unfold za_kv; rw [za_ok9_f1 h1]; rfl, hok⟩ | exact ⟨by unfold za_kv; rw [za_ok9_f2 h1 h11]; rfl, hq8.1⟩ | exact ⟨by unfold za_kv; rw [if_pos hok9, hcl]; exact (hq8.2 hss y9 hy1).1, hq8.1⟩
    exact hret _ ⟨Rw, Un, Kd, lr, kc, sd, Sd, Md, An, ln0⟩ _ _ _ _ (hQ9) hP9 hD9 hS zd_X_attack_26
  · skip
    refine lv_iload_n hx hb zd_X_attack_4 rfl (lv_at hl 3 rfl) ?_
    refine lv_aload_n hx hb zd_X_attack_5 rfl (lv_at hl 0 rfl) ?_
    refine lv_iload_n hx hb zd_X_attack_6 rfl (lv_at hl 1 rfl) ?_
    refine lv_iload_n hx hb zd_X_attack_7 rfl (lv_at hl 2 rfl) ?_
    refine za_wVi (As := [.int w, .int v]) (rest := [.int x0]) (wr := []) (wz := (fun u => [(aX, .inr (4, [.ref aN, .ref aL, .ref aV, .ref aG])), (aL, .inr (1, [.ref aN, .ref aR, .ref aU, .ref aK, .int (nI u.2.2.2.1), .int (nI u.2.2.2.2.1), .int (za_bi u.2.2.2.2.2.1)])), (aR, .inl (cI, 576, .inl u.1)), (aU, .inl (cI, 96, .inl u.2.1)), (aK, .inl (cI, 24, .inl u.2.2.1)), (aN, .inr (0, [.ref aT, .ref aC, .int ct])), (aT, .inl (cI, 96, .inl Tg)), (aC, .inl (cI, 24, .inl Co)), (aG, .inr (3, [.ref aN, .ref aL, .ref aS, .ref aM, .ref aA, .int (nI u.2.2.2.2.2.2.2.2.2)])), (aS, .inl (cI, 2, .inl u.2.2.2.2.2.2.1)), (aM, .inl (cI, 24, .inl u.2.2.2.2.2.2.2.1)), (aA, .inl (cI, 24, .inl u.2.2.2.2.2.2.2.2.1))])) ⟨hx, hb, hml, hown, hts⟩ (zc_X_playedAttacks ln D cI cZ _ aX aV aG aL aN aR aU aK lr kc sd aT aC ct Tg Co Rw Un Kd aS aM aA ln0 Sd Md An w v (by exact hok)) (za_gV 2 hts zw_401 zw_403 zw_15 zw_35 zw_404 (by decide +kernel) ⟨Nat.le_of_ble_eq_true rfl, Nat.le_of_ble_eq_true rfl⟩) hK hN hP hD hS hA [0, 1, 2, 3, 4, 5, 6, 7, 8, 9, 10, 11] [] [0, 1, 2, 3, 4, 5, 6, 7, 8, 9, 10, 11] rfl rfl (by decide) (by decide) (by decide) (by decide) (fun _ => rfl) (q0 := 0) rfl rfl hl rfl rfl (Nat.le_of_ble_eq_true rfl) zd_X_attack_8 ⟨Nat.le_of_ble_eq_true rfl, Nat.le_of_ble_eq_true rfl⟩ (fun r8 u8 H locs hq8 hP hD hS => ?_)
    obtain ⟨Rw1_8, Un1_8, Kd1_8, lr1_8, kc1_8, sd1_8, Sd1_8, Md1_8, An1_8, ln1_8⟩ := u8
    have hP : va_P D vwCl [(aX, .inr (4, [.ref aN, .ref aL, .ref aV, .ref aG])), (aL, .inr (1, [.ref aN, .ref aR, .ref aU, .ref aK, .int (nI lr1_8), .int (nI kc1_8), .int (za_bi sd1_8)])), (aR, .inl (cI, 576, .inl Rw1_8)), (aU, .inl (cI, 96, .inl Un1_8)), (aK, .inl (cI, 24, .inl Kd1_8)), (aN, .inr (0, [.ref aT, .ref aC, .int ct])), (aT, .inl (cI, 96, .inl Tg)), (aC, .inl (cI, 24, .inl Co)), (aG, .inr (3, [.ref aN, .ref aL, .ref aS, .ref aM, .ref aA, .int (nI ln1_8)])), (aS, .inl (cI, 2, .inl Sd1_8)), (aM, .inl (cI, 24, .inl Md1_8)), (aA, .inl (cI, 24, .inl An1_8))] H := hP
    have hD : va_D A [(aX, .inr (4, [.ref aN, .ref aL, .ref aV, .ref aG])), (aL, .inr (1, [.ref aN, .ref aR, .ref aU, .ref aK, .int (nI lr1_8), .int (nI kc1_8), .int (za_bi sd1_8)])), (aR, .inl (cI, 576, .inl Rw1_8)), (aU, .inl (cI, 96, .inl Un1_8)), (aK, .inl (cI, 24, .inl Kd1_8)), (aN, .inr (0, [.ref aT, .ref aC, .int ct])), (aT, .inl (cI, 96, .inl Tg)), (aC, .inl (cI, 24, .inl Co)), (aG, .inr (3, [.ref aN, .ref aL, .ref aS, .ref aM, .ref aA, .int (nI ln1_8)])), (aS, .inl (cI, 2, .inl Sd1_8)), (aM, .inl (cI, 24, .inl Md1_8)), (aA, .inl (cI, 24, .inl An1_8))] := hD
    obtain ⟨hr8, hq8⟩ := hq8
    have hr8 : r8 = nI (za_pnv Tg Co w v) := hr8
    rw [hr8]
    have hq8 : (sd1_8 = true → za_like Tg Co Rw1_8 lr1_8 Kd1_8 kc1_8) ∧ ((za_isS w && za_isS v) = true → (∀ q, q < za_pn Tg Co (za_clp w) (za_clp v) → Md1_8 q = nI (za_cd9 Tg Co (za_tr Tg Co (za_clp w) (za_clp v) q).2.1 (za_tr Tg Co (za_clp w) (za_clp v) q).2.2) ∧ An1_8 q = za_ai (za_an Tg Co (za_tr Tg Co (za_clp w) (za_clp v) q).2.1 (za_tr Tg Co (za_clp w) (za_clp v) q).2.2))) := hq8
    refine lv_icmp_ge hx hb (tgt := 25) zd_X_attack_11 (by decide) (fun h11 => ?_) (fun h11 => ?_)
    · skip
      refine lv_iconst (v := (-1)) hx hb zd_X_attack_25 (by decide) ?_
      have hP9 : va_P D vwCl [(aX, .inr (4, [.ref aN, .ref aL, .ref aV, .ref aG])), (aL, .inr (1, [.ref aN, .ref aR, .ref aU, .ref aK, .int (nI lr1_8), .int (nI kc1_8), .int (za_bi sd1_8)])), (aR, .inl (cI, 576, .inl Rw1_8)), (aU, .inl (cI, 96, .inl Un1_8)), (aK, .inl (cI, 24, .inl Kd1_8)), (aN, .inr (0, [.ref aT, .ref aC, .int ct])), (aT, .inl (cI, 96, .inl Tg)), (aC, .inl (cI, 24, .inl Co)), (aG, .inr (3, [.ref aN, .ref aL, .ref aS, .ref aM, .ref aA, .int (nI ln1_8)])), (aS, .inl (cI, 2, .inl Sd1_8)), (aM, .inl (cI, 24, .inl Md1_8)), (aA, .inl (cI, 24, .inl An1_8))] H := hP
      have hD9 : va_D A [(aX, .inr (4, [.ref aN, .ref aL, .ref aV, .ref aG])), (aL, .inr (1, [.ref aN, .ref aR, .ref aU, .ref aK, .int (nI lr1_8), .int (nI kc1_8), .int (za_bi sd1_8)])), (aR, .inl (cI, 576, .inl Rw1_8)), (aU, .inl (cI, 96, .inl Un1_8)), (aK, .inl (cI, 24, .inl Kd1_8)), (aN, .inr (0, [.ref aT, .ref aC, .int ct])), (aT, .inl (cI, 96, .inl Tg)), (aC, .inl (cI, 24, .inl Co)), (aG, .inr (3, [.ref aN, .ref aL, .ref aS, .ref aM, .ref aA, .int (nI ln1_8)])), (aS, .inl (cI, 2, .inl Sd1_8)), (aM, .inl (cI, 24, .inl Md1_8)), (aA, .inl (cI, 24, .inl An1_8))] := hD
      have hQ9 : (-1) = za_kv Tg Co w v x0 ∧ (sd1_8 = true → za_like Tg Co Rw1_8 lr1_8 Kd1_8 kc1_8) := by first | exact ⟨by unfold za_kv; rw [za_ok9_f1 h1]; rfl, hok⟩ | exact ⟨by unfold za_kv; rw [za_ok9_f2 h1 h11]; rfl, hq8.1⟩ | exact ⟨by unfold za_kv; rw [if_pos hok9, hcl]; exact (hq8.2 hss y9 hy1).1, hq8.1⟩
      exact hret _ ⟨Rw1_8, Un1_8, Kd1_8, lr1_8, kc1_8, sd1_8, Sd1_8, Md1_8, An1_8, ln1_8⟩ _ _ _ _ (hQ9) hP9 hD9 hS zd_X_attack_26
    · skip
      obtain ⟨hok9, hss, y9, hy1, hy2, hx9, hcl⟩ := za_ok9_t h1 h11
      have hl : lv_has ls 4 [(0, .ref aX), (1, .int w), (2, .int v), (3, .int (nI y9))] := by rw [← hx9]; exact hl
      refine lv_aload_n hx hb zd_X_attack_14 rfl (lv_at hl 0 rfl) ?_
      refine va_get (D := D) (ci := 4) (v := .ref aG) (C := zs_X) (T := zt_X) (N := 4) hx hb hts zi_X hown hK hP 0 rfl rfl 3 (by decide) hf37 (fun _ h9 => h9) rfl zd_X_attack_15 ?_
      refine lv_iload_n hx hb zd_X_attack_18 rfl (lv_at hl 3 rfl) ?_
      refine za_cV (As := [.int (nI y9)]) (rest := []) ⟨hx, hb, hml, hown, hts⟩ (zc_G_attackAt ln D cI cZ aG aN aL aS aM aA ln1_8 Md1_8 y9 (by omega)) (za_gV 1 hts zw_425 zw_426 zw_427 zw_39 zw_428 (by decide +kernel) ⟨Nat.le_of_ble_eq_true rfl, Nat.le_of_ble_eq_true rfl⟩) hK hN hP [8, 10] rfl (q0 := 8) rfl rfl hl rfl rfl (Nat.le_of_ble_eq_true rfl) zd_X_attack_19 ⟨Nat.le_of_ble_eq_true rfl, Nat.le_of_ble_eq_true rfl⟩ ?_
      refine lv_goto hx hb (tgt := 26) zd_X_attack_22 (by decide) ?_
      have hP9 : va_P D vwCl [(aX, .inr (4, [.ref aN, .ref aL, .ref aV, .ref aG])), (aL, .inr (1, [.ref aN, .ref aR, .ref aU, .ref aK, .int (nI lr1_8), .int (nI kc1_8), .int (za_bi sd1_8)])), (aR, .inl (cI, 576, .inl Rw1_8)), (aU, .inl (cI, 96, .inl Un1_8)), (aK, .inl (cI, 24, .inl Kd1_8)), (aN, .inr (0, [.ref aT, .ref aC, .int ct])), (aT, .inl (cI, 96, .inl Tg)), (aC, .inl (cI, 24, .inl Co)), (aG, .inr (3, [.ref aN, .ref aL, .ref aS, .ref aM, .ref aA, .int (nI ln1_8)])), (aS, .inl (cI, 2, .inl Sd1_8)), (aM, .inl (cI, 24, .inl Md1_8)), (aA, .inl (cI, 24, .inl An1_8))] H := hP
      have hD9 : va_D A [(aX, .inr (4, [.ref aN, .ref aL, .ref aV, .ref aG])), (aL, .inr (1, [.ref aN, .ref aR, .ref aU, .ref aK, .int (nI lr1_8), .int (nI kc1_8), .int (za_bi sd1_8)])), (aR, .inl (cI, 576, .inl Rw1_8)), (aU, .inl (cI, 96, .inl Un1_8)), (aK, .inl (cI, 24, .inl Kd1_8)), (aN, .inr (0, [.ref aT, .ref aC, .int ct])), (aT, .inl (cI, 96, .inl Tg)), (aC, .inl (cI, 24, .inl Co)), (aG, .inr (3, [.ref aN, .ref aL, .ref aS, .ref aM, .ref aA, .int (nI ln1_8)])), (aS, .inl (cI, 2, .inl Sd1_8)), (aM, .inl (cI, 24, .inl Md1_8)), (aA, .inl (cI, 24, .inl An1_8))] := hD
      have hQ9 : (Md1_8 y9) = za_kv Tg Co w v x0 ∧ (sd1_8 = true → za_like Tg Co Rw1_8 lr1_8 Kd1_8 kc1_8) := by first | exact ⟨by unfold za_kv; rw [za_ok9_f1 h1]; rfl, hok⟩ | exact ⟨by unfold za_kv; rw [za_ok9_f2 h1 h11]; rfl, hq8.1⟩ | exact ⟨by unfold za_kv; rw [if_pos hok9, hcl]; exact (hq8.2 hss y9 hy1).1, hq8.1⟩
      exact hret _ ⟨Rw1_8, Un1_8, Kd1_8, lr1_8, kc1_8, sd1_8, Sd1_8, Md1_8, An1_8, ln1_8⟩ _ _ _ _ (hQ9) hP9 hD9 hS zd_X_attack_26
def zr_X_answer : Room := { frames := 6, cells := 0, slots := 0, locals := 143 }
set_option maxHeartbeats 4000000 in
set_option maxRecDepth 100000 in
theorem zc_X_answer (ln : Launch) (D : va_G) (cI cZ : ClassId) (sz : Nat) (aX : Nat) (aV : Nat) (aG : Nat) (aL : Nat) (aN : Nat) (aR : Nat) (aU : Nat) (aK : Nat) (lr : Nat) (kc : Nat) (sd : Bool) (aT : Nat) (aC : Nat) (ct : Int32) (Tg : Nat → Int32) (Co : Nat → Int32) (Rw : Nat → Int32) (Un : Nat → Int32) (Kd : Nat → Int32) (aS : Nat) (aM : Nat) (aA : Nat) (ln0 : Nat) (Sd : Nat → Int32) (Md : Nat → Int32) (An : Nat → Int32) (w : Int32) (v : Int32) (x0 : Int32) (hok : sd = true → za_like Tg Co Rw lr Kd kc) : Met ln zm_X_answer (Cond.code zm_X_answer zo_X_answer 4 (some .int) :: zb_big) zr_X_answer (za_Pw D vwCl [(cI, .int), (cZ, .boolean)] [.ref aX, .int w, .int v, .int x0] [(aX, .inr (4, [.ref aN, .ref aL, .ref aV, .ref aG])), (aL, .inr (1, [.ref aN, .ref aR, .ref aU, .ref aK, .int (nI lr), .int (nI kc), .int (za_bi sd)])), (aR, .inl (cI, 576, .inl Rw)), (aU, .inl (cI, 96, .inl Un)), (aK, .inl (cI, 24, .inl Kd)), (aN, .inr (0, [.ref aT, .ref aC, .int ct])), (aT, .inl (cI, 96, .inl Tg)), (aC, .inl (cI, 24, .inl Co)), (aG, .inr (3, [.ref aN, .ref aL, .ref aS, .ref aM, .ref aA, .int (nI ln0)])), (aS, .inl (cI, 2, .inl Sd)), (aM, .inl (cI, 24, .inl Md)), (aA, .inl (cI, 24, .inl An))] sz) (va_Qi (fun (r : Int32) (u : (Nat → Int32) × (Nat → Int32) × (Nat → Int32) × Nat × Nat × Bool × (Nat → Int32) × (Nat → Int32) × (Nat → Int32) × Nat) => r = za_wv9 Tg Co w v x0 ∧ (u.2.2.2.2.2.1 = true → za_like Tg Co u.1 u.2.2.2.1 u.2.2.1 u.2.2.2.2.1)) (za_B D vwCl [(aX, .inr (4, [.ref aN, .ref aL, .ref aV, .ref aG])), (aL, .inr (1, [.ref aN, .ref aR, .ref aU, .ref aK, .int (nI lr), .int (nI kc), .int (za_bi sd)])), (aR, .inl (cI, 576, .inl Rw)), (aU, .inl (cI, 96, .inl Un)), (aK, .inl (cI, 24, .inl Kd)), (aN, .inr (0, [.ref aT, .ref aC, .int ct])), (aT, .inl (cI, 96, .inl Tg)), (aC, .inl (cI, 24, .inl Co)), (aG, .inr (3, [.ref aN, .ref aL, .ref aS, .ref aM, .ref aA, .int (nI ln0)])), (aS, .inl (cI, 2, .inl Sd)), (aM, .inl (cI, 24, .inl Md)), (aA, .inl (cI, 24, .inl An))] sz (fun (u : (Nat → Int32) × (Nat → Int32) × (Nat → Int32) × Nat × Nat × Bool × (Nat → Int32) × (Nat → Int32) × (Nat → Int32) × Nat) => [(aX, .inr (4, [.ref aN, .ref aL, .ref aV, .ref aG])), (aL, .inr (1, [.ref aN, .ref aR, .ref aU, .ref aK, .int (nI u.2.2.2.1), .int (nI u.2.2.2.2.1), .int (za_bi u.2.2.2.2.2.1)])), (aR, .inl (cI, 576, .inl u.1)), (aU, .inl (cI, 96, .inl u.2.1)), (aK, .inl (cI, 24, .inl u.2.2.1)), (aN, .inr (0, [.ref aT, .ref aC, .int ct])), (aT, .inl (cI, 96, .inl Tg)), (aC, .inl (cI, 24, .inl Co)), (aG, .inr (3, [.ref aN, .ref aL, .ref aS, .ref aM, .ref aA, .int (nI u.2.2.2.2.2.2.2.2.2)])), (aS, .inl (cI, 2, .inl u.2.2.2.2.2.2.1)), (aM, .inl (cI, 24, .inl u.2.2.2.2.2.2.2.1)), (aA, .inl (cI, 24, .inl u.2.2.2.2.2.2.2.2.1))])) (va_A [(aX, .inr (4, [.ref aN, .ref aL, .ref aV, .ref aG])), (aL, .inr (1, [.ref aN, .ref aR, .ref aU, .ref aK, .int (nI lr), .int (nI kc), .int (za_bi sd)])), (aR, .inl (cI, 576, .inl Rw)), (aU, .inl (cI, 96, .inl Un)), (aK, .inl (cI, 24, .inl Kd)), (aN, .inr (0, [.ref aT, .ref aC, .int ct])), (aT, .inl (cI, 96, .inl Tg)), (aC, .inl (cI, 24, .inl Co)), (aG, .inr (3, [.ref aN, .ref aL, .ref aS, .ref aM, .ref aA, .int (nI ln0)])), (aS, .inl (cI, 2, .inl Sd)), (aM, .inl (cI, 24, .inl Md)), (aA, .inl (cI, 24, .inl An))] sz)) 0 0 (va_A [(aX, .inr (4, [.ref aN, .ref aL, .ref aV, .ref aG])), (aL, .inr (1, [.ref aN, .ref aR, .ref aU, .ref aK, .int (nI lr), .int (nI kc), .int (za_bi sd)])), (aR, .inl (cI, 576, .inl Rw)), (aU, .inl (cI, 96, .inl Un)), (aK, .inl (cI, 24, .inl Kd)), (aN, .inr (0, [.ref aT, .ref aC, .int ct])), (aT, .inl (cI, 96, .inl Tg)), (aC, .inl (cI, 24, .inl Co)), (aG, .inr (3, [.ref aN, .ref aL, .ref aS, .ref aM, .ref aA, .int (nI ln0)])), (aS, .inl (cI, 2, .inl Sd)), (aM, .inl (cI, 24, .inl Md)), (aA, .inl (cI, 24, .inl An))] sz) := by
  refine za_wi (cc := zo_X_answer) (maxL := 4) (ty := .int) (by decide) (Nat.le_of_ble_eq_true rfl) (fun _ _ _ => rfl) ?_
  intro p e sg m args below meth c H0 A Q hx hb hml hts hown hmn hP hK hN hD hA hS hret ls hl
  have hP : va_P D vwCl [(aX, .inr (4, [.ref aN, .ref aL, .ref aV, .ref aG])), (aL, .inr (1, [.ref aN, .ref aR, .ref aU, .ref aK, .int (nI lr), .int (nI kc), .int (za_bi sd)])), (aR, .inl (cI, 576, .inl Rw)), (aU, .inl (cI, 96, .inl Un)), (aK, .inl (cI, 24, .inl Kd)), (aN, .inr (0, [.ref aT, .ref aC, .int ct])), (aT, .inl (cI, 96, .inl Tg)), (aC, .inl (cI, 24, .inl Co)), (aG, .inr (3, [.ref aN, .ref aL, .ref aS, .ref aM, .ref aA, .int (nI ln0)])), (aS, .inl (cI, 2, .inl Sd)), (aM, .inl (cI, 24, .inl Md)), (aA, .inl (cI, 24, .inl An))] H0 := hP
  have hD : va_D A [(aX, .inr (4, [.ref aN, .ref aL, .ref aV, .ref aG])), (aL, .inr (1, [.ref aN, .ref aR, .ref aU, .ref aK, .int (nI lr), .int (nI kc), .int (za_bi sd)])), (aR, .inl (cI, 576, .inl Rw)), (aU, .inl (cI, 96, .inl Un)), (aK, .inl (cI, 24, .inl Kd)), (aN, .inr (0, [.ref aT, .ref aC, .int ct])), (aT, .inl (cI, 96, .inl Tg)), (aC, .inl (cI, 24, .inl Co)), (aG, .inr (3, [.ref aN, .ref aL, .ref aS, .ref aM, .ref aA, .int (nI ln0)])), (aS, .inl (cI, 2, .inl Sd)), (aM, .inl (cI, 24, .inl Md)), (aA, .inl (cI, 24, .inl An))] := hD
  have hl : lv_has ls 4 [(0, .ref aX), (1, .int w), (2, .int v), (3, .int x0)] := hl
  have hf37 := hts _ zw_142
  refine lv_iload_n hx hb zd_X_answer_0 rfl (lv_at hl 3 rfl) ?_
  refine lv_if_lt hx hb (tgt := 25) zd_X_answer_1 (by decide) (fun h1 => ?_) (fun h1 => ?_)
  · skip
    refine lv_iconst (v := (-1)) hx hb zd_X_answer_25 (by decide) ?_
    have hP9 : va_P D vwCl [(aX, .inr (4, [.ref aN, .ref aL, .ref aV, .ref aG])), (aL, .inr (1, [.ref aN, .ref aR, .ref aU, .ref aK, .int (nI lr), .int (nI kc), .int (za_bi sd)])), (aR, .inl (cI, 576, .inl Rw)), (aU, .inl (cI, 96, .inl Un)), (aK, .inl (cI, 24, .inl Kd)), (aN, .inr (0, [.ref aT, .ref aC, .int ct])), (aT, .inl (cI, 96, .inl Tg)), (aC, .inl (cI, 24, .inl Co)), (aG, .inr (3, [.ref aN, .ref aL, .ref aS, .ref aM, .ref aA, .int (nI ln0)])), (aS, .inl (cI, 2, .inl Sd)), (aM, .inl (cI, 24, .inl Md)), (aA, .inl (cI, 24, .inl An))] H0 := hP
    have hD9 : va_D A [(aX, .inr (4, [.ref aN, .ref aL, .ref aV, .ref aG])), (aL, .inr (1, [.ref aN, .ref aR, .ref aU, .ref aK, .int (nI lr), .int (nI kc), .int (za_bi sd)])), (aR, .inl (cI, 576, .inl Rw)), (aU, .inl (cI, 96, .inl Un)), (aK, .inl (cI, 24, .inl Kd)), (aN, .inr (0, [.ref aT, .ref aC, .int ct])), (aT, .inl (cI, 96, .inl Tg)), (aC, .inl (cI, 24, .inl Co)), (aG, .inr (3, [.ref aN, .ref aL, .ref aS, .ref aM, .ref aA, .int (nI ln0)])), (aS, .inl (cI, 2, .inl Sd)), (aM, .inl (cI, 24, .inl Md)), (aA, .inl (cI, 24, .inl An))] := hD
    have hQ9 : (-1) = za_wv9 Tg Co w v x0 ∧ (sd = true → za_like Tg Co Rw lr Kd kc) := by first | exact ⟨by unfold za_wv9; rw [za_ok9_f1 h1]; rfl, hok⟩ | exact ⟨by unfold za_wv9; rw [za_ok9_f2 h1 h11]; rfl, hq8.1⟩ | exact ⟨by unfold za_wv9; rw [if_pos hok9, hcl]; exact (hq8.2 hss y9 hy1).2, hq8.1⟩
    exact hret _ ⟨Rw, Un, Kd, lr, kc, sd, Sd, Md, An, ln0⟩ _ _ _ _ (hQ9) hP9 hD9 hS zd_X_answer_26
  · skip
    refine lv_iload_n hx hb zd_X_answer_4 rfl (lv_at hl 3 rfl) ?_
    refine lv_aload_n hx hb zd_X_answer_5 rfl (lv_at hl 0 rfl) ?_
    refine lv_iload_n hx hb zd_X_answer_6 rfl (lv_at hl 1 rfl) ?_
    refine lv_iload_n hx hb zd_X_answer_7 rfl (lv_at hl 2 rfl) ?_
    refine za_wVi (As := [.int w, .int v]) (rest := [.int x0]) (wr := []) (wz := (fun u => [(aX, .inr (4, [.ref aN, .ref aL, .ref aV, .ref aG])), (aL, .inr (1, [.ref aN, .ref aR, .ref aU, .ref aK, .int (nI u.2.2.2.1), .int (nI u.2.2.2.2.1), .int (za_bi u.2.2.2.2.2.1)])), (aR, .inl (cI, 576, .inl u.1)), (aU, .inl (cI, 96, .inl u.2.1)), (aK, .inl (cI, 24, .inl u.2.2.1)), (aN, .inr (0, [.ref aT, .ref aC, .int ct])), (aT, .inl (cI, 96, .inl Tg)), (aC, .inl (cI, 24, .inl Co)), (aG, .inr (3, [.ref aN, .ref aL, .ref aS, .ref aM, .ref aA, .int (nI u.2.2.2.2.2.2.2.2.2)])), (aS, .inl (cI, 2, .inl u.2.2.2.2.2.2.1)), (aM, .inl (cI, 24, .inl u.2.2.2.2.2.2.2.1)), (aA, .inl (cI, 24, .inl u.2.2.2.2.2.2.2.2.1))])) ⟨hx, hb, hml, hown, hts⟩ (zc_X_playedAttacks ln D cI cZ _ aX aV aG aL aN aR aU aK lr kc sd aT aC ct Tg Co Rw Un Kd aS aM aA ln0 Sd Md An w v (by exact hok)) (za_gV 2 hts zw_401 zw_403 zw_15 zw_35 zw_404 (by decide +kernel) ⟨Nat.le_of_ble_eq_true rfl, Nat.le_of_ble_eq_true rfl⟩) hK hN hP hD hS hA [0, 1, 2, 3, 4, 5, 6, 7, 8, 9, 10, 11] [] [0, 1, 2, 3, 4, 5, 6, 7, 8, 9, 10, 11] rfl rfl (by decide) (by decide) (by decide) (by decide) (fun _ => rfl) (q0 := 0) rfl rfl hl rfl rfl (Nat.le_of_ble_eq_true rfl) zd_X_answer_8 ⟨Nat.le_of_ble_eq_true rfl, Nat.le_of_ble_eq_true rfl⟩ (fun r8 u8 H locs hq8 hP hD hS => ?_)
    obtain ⟨Rw1_8, Un1_8, Kd1_8, lr1_8, kc1_8, sd1_8, Sd1_8, Md1_8, An1_8, ln1_8⟩ := u8
    have hP : va_P D vwCl [(aX, .inr (4, [.ref aN, .ref aL, .ref aV, .ref aG])), (aL, .inr (1, [.ref aN, .ref aR, .ref aU, .ref aK, .int (nI lr1_8), .int (nI kc1_8), .int (za_bi sd1_8)])), (aR, .inl (cI, 576, .inl Rw1_8)), (aU, .inl (cI, 96, .inl Un1_8)), (aK, .inl (cI, 24, .inl Kd1_8)), (aN, .inr (0, [.ref aT, .ref aC, .int ct])), (aT, .inl (cI, 96, .inl Tg)), (aC, .inl (cI, 24, .inl Co)), (aG, .inr (3, [.ref aN, .ref aL, .ref aS, .ref aM, .ref aA, .int (nI ln1_8)])), (aS, .inl (cI, 2, .inl Sd1_8)), (aM, .inl (cI, 24, .inl Md1_8)), (aA, .inl (cI, 24, .inl An1_8))] H := hP
    have hD : va_D A [(aX, .inr (4, [.ref aN, .ref aL, .ref aV, .ref aG])), (aL, .inr (1, [.ref aN, .ref aR, .ref aU, .ref aK, .int (nI lr1_8), .int (nI kc1_8), .int (za_bi sd1_8)])), (aR, .inl (cI, 576, .inl Rw1_8)), (aU, .inl (cI, 96, .inl Un1_8)), (aK, .inl (cI, 24, .inl Kd1_8)), (aN, .inr (0, [.ref aT, .ref aC, .int ct])), (aT, .inl (cI, 96, .inl Tg)), (aC, .inl (cI, 24, .inl Co)), (aG, .inr (3, [.ref aN, .ref aL, .ref aS, .ref aM, .ref aA, .int (nI ln1_8)])), (aS, .inl (cI, 2, .inl Sd1_8)), (aM, .inl (cI, 24, .inl Md1_8)), (aA, .inl (cI, 24, .inl An1_8))] := hD
    obtain ⟨hr8, hq8⟩ := hq8
    have hr8 : r8 = nI (za_pnv Tg Co w v) := hr8
    rw [hr8]
    have hq8 : (sd1_8 = true → za_like Tg Co Rw1_8 lr1_8 Kd1_8 kc1_8) ∧ ((za_isS w && za_isS v) = true → (∀ q, q < za_pn Tg Co (za_clp w) (za_clp v) → Md1_8 q = nI (za_cd9 Tg Co (za_tr Tg Co (za_clp w) (za_clp v) q).2.1 (za_tr Tg Co (za_clp w) (za_clp v) q).2.2) ∧ An1_8 q = za_ai (za_an Tg Co (za_tr Tg Co (za_clp w) (za_clp v) q).2.1 (za_tr Tg Co (za_clp w) (za_clp v) q).2.2))) := hq8
    refine lv_icmp_ge hx hb (tgt := 25) zd_X_answer_11 (by decide) (fun h11 => ?_) (fun h11 => ?_)
    · skip
      refine lv_iconst (v := (-1)) hx hb zd_X_answer_25 (by decide) ?_
      have hP9 : va_P D vwCl [(aX, .inr (4, [.ref aN, .ref aL, .ref aV, .ref aG])), (aL, .inr (1, [.ref aN, .ref aR, .ref aU, .ref aK, .int (nI lr1_8), .int (nI kc1_8), .int (za_bi sd1_8)])), (aR, .inl (cI, 576, .inl Rw1_8)), (aU, .inl (cI, 96, .inl Un1_8)), (aK, .inl (cI, 24, .inl Kd1_8)), (aN, .inr (0, [.ref aT, .ref aC, .int ct])), (aT, .inl (cI, 96, .inl Tg)), (aC, .inl (cI, 24, .inl Co)), (aG, .inr (3, [.ref aN, .ref aL, .ref aS, .ref aM, .ref aA, .int (nI ln1_8)])), (aS, .inl (cI, 2, .inl Sd1_8)), (aM, .inl (cI, 24, .inl Md1_8)), (aA, .inl (cI, 24, .inl An1_8))] H := hP
      have hD9 : va_D A [(aX, .inr (4, [.ref aN, .ref aL, .ref aV, .ref aG])), (aL, .inr (1, [.ref aN, .ref aR, .ref aU, .ref aK, .int (nI lr1_8), .int (nI kc1_8), .int (za_bi sd1_8)])), (aR, .inl (cI, 576, .inl Rw1_8)), (aU, .inl (cI, 96, .inl Un1_8)), (aK, .inl (cI, 24, .inl Kd1_8)), (aN, .inr (0, [.ref aT, .ref aC, .int ct])), (aT, .inl (cI, 96, .inl Tg)), (aC, .inl (cI, 24, .inl Co)), (aG, .inr (3, [.ref aN, .ref aL, .ref aS, .ref aM, .ref aA, .int (nI ln1_8)])), (aS, .inl (cI, 2, .inl Sd1_8)), (aM, .inl (cI, 24, .inl Md1_8)), (aA, .inl (cI, 24, .inl An1_8))] := hD
      have hQ9 : (-1) = za_wv9 Tg Co w v x0 ∧ (sd1_8 = true → za_like Tg Co Rw1_8 lr1_8 Kd1_8 kc1_8) := by first | exact ⟨by unfold za_wv9; rw [za_ok9_f1 h1]; rfl, hok⟩ | exact ⟨by unfold za_wv9; rw [za_ok9_f2 h1 h11]; rfl, hq8.1⟩ | exact ⟨by unfold za_wv9; rw [if_pos hok9, hcl]; exact (hq8.2 hss y9 hy1).2, hq8.1⟩
      exact hret _ ⟨Rw1_8, Un1_8, Kd1_8, lr1_8, kc1_8, sd1_8, Sd1_8, Md1_8, An1_8, ln1_8⟩ _ _ _ _ (hQ9) hP9 hD9 hS zd_X_answer_26
    · skip
      obtain ⟨hok9, hss, y9, hy1, hy2, hx9, hcl⟩ := za_ok9_t h1 h11
      have hl : lv_has ls 4 [(0, .ref aX), (1, .int w), (2, .int v), (3, .int (nI y9))] := by rw [← hx9]; exact hl
      refine lv_aload_n hx hb zd_X_answer_14 rfl (lv_at hl 0 rfl) ?_
      refine va_get (D := D) (ci := 4) (v := .ref aG) (C := zs_X) (T := zt_X) (N := 4) hx hb hts zi_X hown hK hP 0 rfl rfl 3 (by decide) hf37 (fun _ h9 => h9) rfl zd_X_answer_15 ?_
      refine lv_iload_n hx hb zd_X_answer_18 rfl (lv_at hl 3 rfl) ?_
      refine za_cV (As := [.int (nI y9)]) (rest := []) ⟨hx, hb, hml, hown, hts⟩ (zc_G_answerAt ln D cI cZ aG aN aL aS aM aA ln1_8 An1_8 y9 (by omega)) (za_gV 1 hts zw_433 zw_434 zw_435 zw_39 zw_436 (by decide +kernel) ⟨Nat.le_of_ble_eq_true rfl, Nat.le_of_ble_eq_true rfl⟩) hK hN hP [8, 11] rfl (q0 := 8) rfl rfl hl rfl rfl (Nat.le_of_ble_eq_true rfl) zd_X_answer_19 ⟨Nat.le_of_ble_eq_true rfl, Nat.le_of_ble_eq_true rfl⟩ ?_
      refine lv_goto hx hb (tgt := 26) zd_X_answer_22 (by decide) ?_
      have hP9 : va_P D vwCl [(aX, .inr (4, [.ref aN, .ref aL, .ref aV, .ref aG])), (aL, .inr (1, [.ref aN, .ref aR, .ref aU, .ref aK, .int (nI lr1_8), .int (nI kc1_8), .int (za_bi sd1_8)])), (aR, .inl (cI, 576, .inl Rw1_8)), (aU, .inl (cI, 96, .inl Un1_8)), (aK, .inl (cI, 24, .inl Kd1_8)), (aN, .inr (0, [.ref aT, .ref aC, .int ct])), (aT, .inl (cI, 96, .inl Tg)), (aC, .inl (cI, 24, .inl Co)), (aG, .inr (3, [.ref aN, .ref aL, .ref aS, .ref aM, .ref aA, .int (nI ln1_8)])), (aS, .inl (cI, 2, .inl Sd1_8)), (aM, .inl (cI, 24, .inl Md1_8)), (aA, .inl (cI, 24, .inl An1_8))] H := hP
      have hD9 : va_D A [(aX, .inr (4, [.ref aN, .ref aL, .ref aV, .ref aG])), (aL, .inr (1, [.ref aN, .ref aR, .ref aU, .ref aK, .int (nI lr1_8), .int (nI kc1_8), .int (za_bi sd1_8)])), (aR, .inl (cI, 576, .inl Rw1_8)), (aU, .inl (cI, 96, .inl Un1_8)), (aK, .inl (cI, 24, .inl Kd1_8)), (aN, .inr (0, [.ref aT, .ref aC, .int ct])), (aT, .inl (cI, 96, .inl Tg)), (aC, .inl (cI, 24, .inl Co)), (aG, .inr (3, [.ref aN, .ref aL, .ref aS, .ref aM, .ref aA, .int (nI ln1_8)])), (aS, .inl (cI, 2, .inl Sd1_8)), (aM, .inl (cI, 24, .inl Md1_8)), (aA, .inl (cI, 24, .inl An1_8))] := hD
      have hQ9 : (An1_8 y9) = za_wv9 Tg Co w v x0 ∧ (sd1_8 = true → za_like Tg Co Rw1_8 lr1_8 Kd1_8 kc1_8) := by first | exact ⟨by unfold za_wv9; rw [za_ok9_f1 h1]; rfl, hok⟩ | exact ⟨by unfold za_wv9; rw [za_ok9_f2 h1 h11]; rfl, hq8.1⟩ | exact ⟨by unfold za_wv9; rw [if_pos hok9, hcl]; exact (hq8.2 hss y9 hy1).2, hq8.1⟩
      exact hret _ ⟨Rw1_8, Un1_8, Kd1_8, lr1_8, kc1_8, sd1_8, Sd1_8, Md1_8, An1_8, ln1_8⟩ _ _ _ _ (hQ9) hP9 hD9 hS zd_X_answer_26
end
