section
-- ===== PART A: goes FIRST, ahead of the names: the tables' words, and 'selects' of the private methods out of them =====
/-- a private method of a class that the tables say can be made, by its rows of tables_1 -/
def lw_okq (q : MethodName × Nat) : Prop := (q.1.cls ≠ "java/lang/invoke/MethodHandle" ∧ q.1.cls ≠ "java/lang/invoke/VarHandle") ∧ Cond.instantiable q.1.cls q.2 ∈ tables_1 ∧ Cond.privateMethod q.1 ∈ tables_1 ∧ Cond.instanceMethod q.1 ∈ tables_1
theorem lw_p0 : lw_okq (⟨"FlowProofs", "forgetSolving", "()V"⟩, 11) := ⟨⟨by decide +kernel, by decide +kernel⟩, List.mem_of_getElem? (i := 8) (by decide +kernel), List.mem_of_getElem? (i := 130) (by decide +kernel), List.mem_of_getElem? (i := 131) (by decide +kernel)⟩
theorem lw_p1 : lw_okq (⟨"FlowProofs$Distances", "settle", "(Z)Z"⟩, 3) := ⟨⟨by decide +kernel, by decide +kernel⟩, List.mem_of_getElem? (i := 61) (by decide +kernel), List.mem_of_getElem? (i := 150) (by decide +kernel), List.mem_of_getElem? (i := 151) (by decide +kernel)⟩
theorem lw_p2 : lw_okq (⟨"FlowProofs$Distances", "passOverArcs", "(Z)Z"⟩, 3) := ⟨⟨by decide +kernel, by decide +kernel⟩, List.mem_of_getElem? (i := 61) (by decide +kernel), List.mem_of_getElem? (i := 154) (by decide +kernel), List.mem_of_getElem? (i := 155) (by decide +kernel)⟩
theorem lw_p3 : lw_okq (⟨"FlowProofs$Distances", "shorten", "(III)Z"⟩, 3) := ⟨⟨by decide +kernel, by decide +kernel⟩, List.mem_of_getElem? (i := 61) (by decide +kernel), List.mem_of_getElem? (i := 186) (by decide +kernel), List.mem_of_getElem? (i := 187) (by decide +kernel)⟩
theorem lw_p4 : lw_okq (⟨"FlowProofs", "findWay", "()Z"⟩, 11) := ⟨⟨by decide +kernel, by decide +kernel⟩, List.mem_of_getElem? (i := 8) (by decide +kernel), List.mem_of_getElem? (i := 198) (by decide +kernel), List.mem_of_getElem? (i := 199) (by decide +kernel)⟩
theorem lw_p5 : lw_okq (⟨"FlowProofs$Distances", "beginAt", "(I)V"⟩, 3) := ⟨⟨by decide +kernel, by decide +kernel⟩, List.mem_of_getElem? (i := 61) (by decide +kernel), List.mem_of_getElem? (i := 206) (by decide +kernel), List.mem_of_getElem? (i := 207) (by decide +kernel)⟩
theorem lw_p6 : lw_okq (⟨"FlowProofs", "doRound", "()V"⟩, 11) := ⟨⟨by decide +kernel, by decide +kernel⟩, List.mem_of_getElem? (i := 8) (by decide +kernel), List.mem_of_getElem? (i := 211) (by decide +kernel), List.mem_of_getElem? (i := 212) (by decide +kernel)⟩
theorem lw_p7 : lw_okq (⟨"FlowProofs", "traceWay", "()V"⟩, 11) := ⟨⟨by decide +kernel, by decide +kernel⟩, List.mem_of_getElem? (i := 8) (by decide +kernel), List.mem_of_getElem? (i := 215) (by decide +kernel), List.mem_of_getElem? (i := 216) (by decide +kernel)⟩
theorem lw_p8 : lw_okq (⟨"FlowProofs", "leastOnWay", "()I"⟩, 11) := ⟨⟨by decide +kernel, by decide +kernel⟩, List.mem_of_getElem? (i := 8) (by decide +kernel), List.mem_of_getElem? (i := 224) (by decide +kernel), List.mem_of_getElem? (i := 225) (by decide +kernel)⟩
theorem lw_p9 : lw_okq (⟨"FlowProofs", "flowsFit", "()Z"⟩, 11) := ⟨⟨by decide +kernel, by decide +kernel⟩, List.mem_of_getElem? (i := 8) (by decide +kernel), List.mem_of_getElem? (i := 269) (by decide +kernel), List.mem_of_getElem? (i := 270) (by decide +kernel)⟩
theorem lw_p10 : lw_okq (⟨"FlowProofs", "nodesPassOn", "()Z"⟩, 11) := ⟨⟨by decide +kernel, by decide +kernel⟩, List.mem_of_getElem? (i := 8) (by decide +kernel), List.mem_of_getElem? (i := 273) (by decide +kernel), List.mem_of_getElem? (i := 274) (by decide +kernel)⟩
theorem lw_p11 : lw_okq (⟨"FlowProofs", "cutIsTight", "()Z"⟩, 11) := ⟨⟨by decide +kernel, by decide +kernel⟩, List.mem_of_getElem? (i := 8) (by decide +kernel), List.mem_of_getElem? (i := 281) (by decide +kernel), List.mem_of_getElem? (i := 282) (by decide +kernel)⟩
theorem lw_p12 : lw_okq (⟨"FlowProofs", "potentialsHold", "()Z"⟩, 11) := ⟨⟨by decide +kernel, by decide +kernel⟩, List.mem_of_getElem? (i := 8) (by decide +kernel), List.mem_of_getElem? (i := 285) (by decide +kernel), List.mem_of_getElem? (i := 286) (by decide +kernel)⟩
theorem lw_p13 : lw_okq (⟨"FlowProofsModel", "isNode", "(I)Z"⟩, 19) := ⟨⟨by decide +kernel, by decide +kernel⟩, List.mem_of_getElem? (i := 303) (by decide +kernel), List.mem_of_getElem? (i := 373) (by decide +kernel), List.mem_of_getElem? (i := 374) (by decide +kernel)⟩
theorem lw_p14 : lw_okq (⟨"FlowProofsModel", "gone", "()V"⟩, 19) := ⟨⟨by decide +kernel, by decide +kernel⟩, List.mem_of_getElem? (i := 303) (by decide +kernel), List.mem_of_getElem? (i := 379) (by decide +kernel), List.mem_of_getElem? (i := 380) (by decide +kernel)⟩
theorem lw_p15 : lw_okq (⟨"FlowProofsModel", "hasCircle", "()Z"⟩, 19) := ⟨⟨by decide +kernel, by decide +kernel⟩, List.mem_of_getElem? (i := 303) (by decide +kernel), List.mem_of_getElem? (i := 391) (by decide +kernel), List.mem_of_getElem? (i := 392) (by decide +kernel)⟩
def lw_privs_1 : List (MethodName × Nat) := [(⟨"FlowProofs", "forgetSolving", "()V"⟩, 11), (⟨"FlowProofs$Distances", "settle", "(Z)Z"⟩, 3), (⟨"FlowProofs$Distances", "passOverArcs", "(Z)Z"⟩, 3), (⟨"FlowProofs$Distances", "shorten", "(III)Z"⟩, 3), (⟨"FlowProofs", "findWay", "()Z"⟩, 11), (⟨"FlowProofs$Distances", "beginAt", "(I)V"⟩, 3), (⟨"FlowProofs", "doRound", "()V"⟩, 11), (⟨"FlowProofs", "traceWay", "()V"⟩, 11), (⟨"FlowProofs", "leastOnWay", "()I"⟩, 11), (⟨"FlowProofs", "flowsFit", "()Z"⟩, 11), (⟨"FlowProofs", "nodesPassOn", "()Z"⟩, 11), (⟨"FlowProofs", "cutIsTight", "()Z"⟩, 11), (⟨"FlowProofs", "potentialsHold", "()Z"⟩, 11), (⟨"FlowProofsModel", "isNode", "(I)Z"⟩, 19), (⟨"FlowProofsModel", "gone", "()V"⟩, 19), (⟨"FlowProofsModel", "hasCircle", "()Z"⟩, 19)]
theorem lw_r1 : ∀ q ∈ lw_privs_1, lw_okq q := List.forall_mem_cons.mpr ⟨lw_p0, List.forall_mem_cons.mpr ⟨lw_p1, List.forall_mem_cons.mpr ⟨lw_p2, List.forall_mem_cons.mpr ⟨lw_p3, List.forall_mem_cons.mpr ⟨lw_p4, List.forall_mem_cons.mpr ⟨lw_p5, List.forall_mem_cons.mpr ⟨lw_p6, List.forall_mem_cons.mpr ⟨lw_p7, List.forall_mem_cons.mpr ⟨lw_p8, List.forall_mem_cons.mpr ⟨lw_p9, List.forall_mem_cons.mpr ⟨lw_p10, List.forall_mem_cons.mpr ⟨lw_p11, List.forall_mem_cons.mpr ⟨lw_p12, List.forall_mem_cons.mpr ⟨lw_p13, List.forall_mem_cons.mpr ⟨lw_p14, List.forall_mem_cons.mpr ⟨lw_p15, fun _ h => absurd h List.not_mem_nil⟩⟩⟩⟩⟩⟩⟩⟩⟩⟩⟩⟩⟩⟩⟩⟩
theorem lw_p16 : lw_okq (⟨"FlowProofsModel", "findWays", "()Z"⟩, 19) := ⟨⟨by decide +kernel, by decide +kernel⟩, List.mem_of_getElem? (i := 303) (by decide +kernel), List.mem_of_getElem? (i := 395) (by decide +kernel), List.mem_of_getElem? (i := 396) (by decide +kernel)⟩
theorem lw_p17 : lw_okq (⟨"FlowProofsModel", "begin", "(I)I"⟩, 19) := ⟨⟨by decide +kernel, by decide +kernel⟩, List.mem_of_getElem? (i := 303) (by decide +kernel), List.mem_of_getElem? (i := 399) (by decide +kernel), List.mem_of_getElem? (i := 400) (by decide +kernel)⟩
theorem lw_p18 : lw_okq (⟨"FlowProofsModel", "end", "(I)I"⟩, 19) := ⟨⟨by decide +kernel, by decide +kernel⟩, List.mem_of_getElem? (i := 303) (by decide +kernel), List.mem_of_getElem? (i := 403) (by decide +kernel), List.mem_of_getElem? (i := 404) (by decide +kernel)⟩
theorem lw_p19 : lw_okq (⟨"FlowProofsModel", "left", "(I)I"⟩, 19) := ⟨⟨by decide +kernel, by decide +kernel⟩, List.mem_of_getElem? (i := 303) (by decide +kernel), List.mem_of_getElem? (i := 407) (by decide +kernel), List.mem_of_getElem? (i := 408) (by decide +kernel)⟩
theorem lw_p20 : lw_okq (⟨"FlowProofsModel", "costOf", "(I)I"⟩, 19) := ⟨⟨by decide +kernel, by decide +kernel⟩, List.mem_of_getElem? (i := 303) (by decide +kernel), List.mem_of_getElem? (i := 411) (by decide +kernel), List.mem_of_getElem? (i := 412) (by decide +kernel)⟩
theorem lw_p21 : lw_okq (⟨"FlowProofsModel", "round", "()V"⟩, 19) := ⟨⟨by decide +kernel, by decide +kernel⟩, List.mem_of_getElem? (i := 303) (by decide +kernel), List.mem_of_getElem? (i := 415) (by decide +kernel), List.mem_of_getElem? (i := 416) (by decide +kernel)⟩
theorem lw_p22 : lw_okq (⟨"FlowProofsModel", "nextArc", "(I)I"⟩, 19) := ⟨⟨by decide +kernel, by decide +kernel⟩, List.mem_of_getElem? (i := 303) (by decide +kernel), List.mem_of_getElem? (i := 420) (by decide +kernel), List.mem_of_getElem? (i := 421) (by decide +kernel)⟩
theorem lw_p23 : lw_okq (⟨"FlowProofsModel", "findCosts", "()V"⟩, 19) := ⟨⟨by decide +kernel, by decide +kernel⟩, List.mem_of_getElem? (i := 303) (by decide +kernel), List.mem_of_getElem? (i := 440) (by decide +kernel), List.mem_of_getElem? (i := 441) (by decide +kernel)⟩
def lw_privs_2 : List (MethodName × Nat) := [(⟨"FlowProofsModel", "findWays", "()Z"⟩, 19), (⟨"FlowProofsModel", "begin", "(I)I"⟩, 19), (⟨"FlowProofsModel", "end", "(I)I"⟩, 19), (⟨"FlowProofsModel", "left", "(I)I"⟩, 19), (⟨"FlowProofsModel", "costOf", "(I)I"⟩, 19), (⟨"FlowProofsModel", "round", "()V"⟩, 19), (⟨"FlowProofsModel", "nextArc", "(I)I"⟩, 19), (⟨"FlowProofsModel", "findCosts", "()V"⟩, 19)]
theorem lw_r2 : ∀ q ∈ lw_privs_2, lw_okq q := List.forall_mem_cons.mpr ⟨lw_p16, List.forall_mem_cons.mpr ⟨lw_p17, List.forall_mem_cons.mpr ⟨lw_p18, List.forall_mem_cons.mpr ⟨lw_p19, List.forall_mem_cons.mpr ⟨lw_p20, List.forall_mem_cons.mpr ⟨lw_p21, List.forall_mem_cons.mpr ⟨lw_p22, List.forall_mem_cons.mpr ⟨lw_p23, fun _ h => absurd h List.not_mem_nil⟩⟩⟩⟩⟩⟩⟩⟩
def lw_privs : List (MethodName × Nat) := lw_privs_1 ++ (lw_privs_2)
def lw_tbl : List Cond := k2_sels lw_privs ++ tables_1
theorem lw_privs_ok : ∀ q ∈ lw_privs, lw_okq q := by
  show ∀ q ∈ lw_privs_1 ++ (lw_privs_2), lw_okq q
  exact List.forall_mem_append.mpr ⟨lw_r1, lw_r2⟩
-- ===== end of PART A; then your names; then what follows =====
end
section
/-! ===== BEGIN words of one list among another's, by their places ===== -/
theorem goodIn_r {big : List Cond} (ws : List Cond) (ps : List Nat) (hp : ws = ps.filterMap (fun i => big[i]?)) (h : ws.all goodWord = true) : GoodIn big ws := by
  intro w hw
  have h1 := List.all_eq_true.mp h w hw
  rw [hp] at hw
  obtain ⟨i, -, hi⟩ := List.mem_filterMap.mp hw
  have hm : w ∈ big := by first | exact List.mem_of_getElem? hi | exact List.getElem?_mem hi
  exact ⟨hm, good_of_word h1⟩
theorem goodIn_app {big a b : List Cond} (ha : GoodIn big a) (hb : GoodIn big b) : GoodIn big (a ++ b) := fun w h => (List.mem_append.mp h).elim (ha w) (hb w)
theorem goodIn_ca {big a b : List Cond} {c : Cond} (ha : GoodIn big (c :: a)) (hb : GoodIn big b) : GoodIn big (c :: (a ++ b)) := fun w h => (List.mem_cons.mp h).elim (fun e => ha w (List.mem_cons.mpr (Or.inl e))) (fun h => (List.mem_append.mp h).elim (fun h => ha w (List.mem_cons.mpr (Or.inr h))) (hb w))
theorem goodIn_sub {big ws : List Cond} (hm : ∀ w ∈ ws, w ∈ big) (h : ws.all goodWord = true) : GoodIn big ws := fun w hw => ⟨hm w hw, good_of_word (List.all_eq_true.mp h w hw)⟩
/-! ===== END ===== -/

/-! ===== BEGIN printed: names, fields, word lists, decode rows ===== -/
def RX0 : String := "FlowProofs$Distances"
def TX0 : u_T := fun k => match k with
  | 0 => ("FlowProofs$Distances", "least", "[I", true)
  | 1 => ("FlowProofs$Distances", "fewest", "[I", true)
  | _ => ("FlowProofs$Distances", "net", "LFlowProofs$Net;", true)
def tyX0 : Nat → FieldType := fun k => match k with
  | 0 => .array .int
  | 1 => .array .int
  | _ => .object "FlowProofs$Net"
abbrev wsX00 : List Cond := u_ws RX0 TX0 3
theorem nmX0 : ∀ a, a < 3 → ∀ b, b < 3 → a ≠ b → (TX0 a).2.1 ≠ (TX0 b).2.1 := by decide +kernel
theorem tyX0_ok : ∀ k, k < 3 → parseFieldDescriptor (TX0 k).2.2.1 = some (tyX0 k) := by decide +kernel
abbrev cX0_init : ByteArray := prog_2_method_1_code
def yX0_init : MethodName := ⟨RX0, "<init>", "(LFlowProofs$Net;)V"⟩
abbrev cX0_reaches : ByteArray := prog_2_method_2_code
def yX0_reaches : MethodName := ⟨RX0, "reaches", "(I)Z"⟩
abbrev cX0_measureFrom : ByteArray := prog_2_method_3_code
def yX0_measureFrom : MethodName := ⟨RX0, "measureFrom", "(I)V"⟩
abbrev cX0_measureTo : ByteArray := prog_2_method_4_code
def yX0_measureTo : MethodName := ⟨RX0, "measureTo", "(I)V"⟩
abbrev cX0_settlesFromEverywhere : ByteArray := prog_2_method_5_code
def yX0_settlesFromEverywhere : MethodName := ⟨RX0, "settlesFromEverywhere", "()Z"⟩
abbrev cX0_leastArcOnward : ByteArray := prog_2_method_6_code
def yX0_leastArcOnward : MethodName := ⟨RX0, "leastArcOnward", "(I)I"⟩
abbrev cX0_beginAt : ByteArray := prog_2_method_7_code
def yX0_beginAt : MethodName := ⟨RX0, "beginAt", "(I)V"⟩
abbrev cX0_settle : ByteArray := prog_2_method_8_code
def yX0_settle : MethodName := ⟨RX0, "settle", "(Z)Z"⟩
abbrev cX0_passOverArcs : ByteArray := prog_2_method_9_code
def yX0_passOverArcs : MethodName := ⟨RX0, "passOverArcs", "(Z)Z"⟩
abbrev cX0_shorten : ByteArray := prog_2_method_10_code
def yX0_shorten : MethodName := ⟨RX0, "shorten", "(III)Z"⟩
def RX1 : String := "FlowProofs$Net"
def TX1 : u_T := fun k => match k with
  | 0 => ("FlowProofs$Net", "nodes", "I", true)
  | 1 => ("FlowProofs$Net", "from", "[I", true)
  | 2 => ("FlowProofs$Net", "to", "[I", true)
  | 3 => ("FlowProofs$Net", "capacity", "[I", true)
  | 4 => ("FlowProofs$Net", "unitCost", "[I", true)
  | 5 => ("FlowProofs$Net", "flow", "[I", true)
  | _ => ("FlowProofs$Net", "edges", "I", false)
def tyX1 : Nat → FieldType := fun k => match k with
  | 0 => .int
  | 1 => .array .int
  | 2 => .array .int
  | 3 => .array .int
  | 4 => .array .int
  | 5 => .array .int
  | _ => .int
abbrev wsX10 : List Cond := u_ws RX1 TX1 7
theorem nmX1 : ∀ a, a < 7 → ∀ b, b < 7 → a ≠ b → (TX1 a).2.1 ≠ (TX1 b).2.1 := by decide +kernel
theorem tyX1_ok : ∀ k, k < 7 → parseFieldDescriptor (TX1 k).2.2.1 = some (tyX1 k) := by decide +kernel
abbrev cX1_init : ByteArray := prog_3_method_1_code
def yX1_init : MethodName := ⟨RX1, "<init>", "(II)V"⟩
abbrev cX1_hasNode : ByteArray := prog_3_method_2_code
def yX1_hasNode : MethodName := ⟨RX1, "hasNode", "(I)Z"⟩
abbrev cX1_hasEdge : ByteArray := prog_3_method_3_code
def yX1_hasEdge : MethodName := ⟨RX1, "hasEdge", "(I)Z"⟩
abbrev cX1_isFull : ByteArray := prog_3_method_4_code
def yX1_isFull : MethodName := ⟨RX1, "isFull", "()Z"⟩
abbrev cX1_capacityInAll : ByteArray := prog_3_method_5_code
def yX1_capacityInAll : MethodName := ⟨RX1, "capacityInAll", "()J"⟩
abbrev cX1_add : ByteArray := prog_3_method_6_code
def yX1_add : MethodName := ⟨RX1, "add", "(IIII)I"⟩
abbrev cX1_clearFlow : ByteArray := prog_3_method_7_code
def yX1_clearFlow : MethodName := ⟨RX1, "clearFlow", "()V"⟩
abbrev cX1_costOfFlow : ByteArray := prog_3_method_8_code
def yX1_costOfFlow : MethodName := ⟨RX1, "costOfFlow", "()J"⟩
abbrev cX1_surplus : ByteArray := prog_3_method_9_code
def yX1_surplus : MethodName := ⟨RX1, "surplus", "(I)J"⟩
abbrev cX1_arcs : ByteArray := prog_3_method_10_code
def yX1_arcs : MethodName := ⟨RX1, "arcs", "()I"⟩
abbrev cX1_begin : ByteArray := prog_3_method_11_code
def yX1_begin : MethodName := ⟨RX1, "begin", "(I)I"⟩
abbrev cX1_end : ByteArray := prog_3_method_12_code
def yX1_end : MethodName := ⟨RX1, "end", "(I)I"⟩
abbrev cX1_price : ByteArray := prog_3_method_13_code
def yX1_price : MethodName := ⟨RX1, "price", "(I)I"⟩
abbrev cX1_left : ByteArray := prog_3_method_14_code
def yX1_left : MethodName := ⟨RX1, "left", "(I)I"⟩
abbrev cX1_send : ByteArray := prog_3_method_15_code
def yX1_send : MethodName := ⟨RX1, "send", "(II)V"⟩
abbrev cX1_isBack : ByteArray := prog_3_method_16_code
def yX1_isBack : MethodName := ⟨RX1, "isBack", "(I)Z"⟩
def RX2 : String := "FlowProofs"
def TX2 : u_T := fun k => match k with
  | 0 => ("FlowProofs", "net", "LFlowProofs$Net;", true)
  | 1 => ("FlowProofs", "fromSource", "LFlowProofs$Distances;", true)
  | 2 => ("FlowProofs", "toSink", "LFlowProofs$Distances;", true)
  | 3 => ("FlowProofs", "way", "[I", true)
  | 4 => ("FlowProofs", "wayLength", "I", false)
  | 5 => ("FlowProofs", "source", "I", false)
  | 6 => ("FlowProofs", "sink", "I", false)
  | 7 => ("FlowProofs", "circle", "Z", false)
  | 8 => ("FlowProofs", "solved", "Z", false)
  | 9 => ("FlowProofs", "roundsDone", "I", false)
  | _ => ("FlowProofs", "flowing", "I", false)
def tyX2 : Nat → FieldType := fun k => match k with
  | 0 => .object "FlowProofs$Net"
  | 1 => .object "FlowProofs$Distances"
  | 2 => .object "FlowProofs$Distances"
  | 3 => .array .int
  | 4 => .int
  | 5 => .int
  | 6 => .int
  | 7 => .boolean
  | 8 => .boolean
  | 9 => .int
  | _ => .int
abbrev wsX20 : List Cond := u_ws RX2 TX2 11
theorem nmX2 : ∀ a, a < 11 → ∀ b, b < 11 → a ≠ b → (TX2 a).2.1 ≠ (TX2 b).2.1 := by decide +kernel
theorem tyX2_ok : ∀ k, k < 11 → parseFieldDescriptor (TX2 k).2.2.1 = some (tyX2 k) := by decide +kernel
abbrev cX2_init : ByteArray := prog_1_method_1_code
def yX2_init : MethodName := ⟨RX2, "<init>", "(II)V"⟩
abbrev cX2_edge : ByteArray := prog_1_method_2_code
def yX2_edge : MethodName := ⟨RX2, "edge", "(IIII)I"⟩
abbrev cX2_ends : ByteArray := prog_1_method_3_code
def yX2_ends : MethodName := ⟨RX2, "ends", "(II)Z"⟩
abbrev cX2_run : ByteArray := prog_1_method_4_code
def yX2_run : MethodName := ⟨RX2, "run", "(I)I"⟩
abbrev cX2_value : ByteArray := prog_1_method_5_code
def yX2_value : MethodName := ⟨RX2, "value", "()I"⟩
abbrev cX2_cost : ByteArray := prog_1_method_6_code
def yX2_cost : MethodName := ⟨RX2, "cost", "()J"⟩
abbrev cX2_flow : ByteArray := prog_1_method_7_code
def yX2_flow : MethodName := ⟨RX2, "flow", "(I)I"⟩
abbrev cX2_potential : ByteArray := prog_1_method_8_code
def yX2_potential : MethodName := ⟨RX2, "potential", "(I)I"⟩
abbrev cX2_inCut : ByteArray := prog_1_method_9_code
def yX2_inCut : MethodName := ⟨RX2, "inCut", "(I)Z"⟩
abbrev cX2_check : ByteArray := prog_1_method_10_code
def yX2_check : MethodName := ⟨RX2, "check", "()Z"⟩
abbrev cX2_next : ByteArray := prog_1_method_11_code
def yX2_next : MethodName := ⟨RX2, "next", "()I"⟩
abbrev cX2_count : ByteArray := prog_1_method_12_code
def yX2_count : MethodName := ⟨RX2, "count", "(I)I"⟩
abbrev cX2_within : ByteArray := prog_1_method_13_code
def yX2_within : MethodName := ⟨RX2, "within", "(III)I"⟩
abbrev cX2_forgetSolving : ByteArray := prog_1_method_14_code
def yX2_forgetSolving : MethodName := ⟨RX2, "forgetSolving", "()V"⟩
abbrev cX2_findWay : ByteArray := prog_1_method_15_code
def yX2_findWay : MethodName := ⟨RX2, "findWay", "()Z"⟩
abbrev cX2_doRound : ByteArray := prog_1_method_16_code
def yX2_doRound : MethodName := ⟨RX2, "doRound", "()V"⟩
abbrev cX2_traceWay : ByteArray := prog_1_method_17_code
def yX2_traceWay : MethodName := ⟨RX2, "traceWay", "()V"⟩
abbrev cX2_leastOnWay : ByteArray := prog_1_method_18_code
def yX2_leastOnWay : MethodName := ⟨RX2, "leastOnWay", "()I"⟩
abbrev cX2_flowsFit : ByteArray := prog_1_method_19_code
def yX2_flowsFit : MethodName := ⟨RX2, "flowsFit", "()Z"⟩
abbrev cX2_nodesPassOn : ByteArray := prog_1_method_20_code
def yX2_nodesPassOn : MethodName := ⟨RX2, "nodesPassOn", "()Z"⟩
abbrev cX2_cutIsTight : ByteArray := prog_1_method_21_code
def yX2_cutIsTight : MethodName := ⟨RX2, "cutIsTight", "()Z"⟩
abbrev cX2_potentialsHold : ByteArray := prog_1_method_22_code
def yX2_potentialsHold : MethodName := ⟨RX2, "potentialsHold", "()Z"⟩
def RX3 : String := "FlowProofsModel"
def TX3 : u_T := fun k => match k with
  | 0 => ("FlowProofsModel", "nodes", "I", true)
  | 1 => ("FlowProofsModel", "most", "I", true)
  | 2 => ("FlowProofsModel", "edges", "I", false)
  | 3 => ("FlowProofsModel", "froms", "[I", true)
  | 4 => ("FlowProofsModel", "tos", "[I", true)
  | 5 => ("FlowProofsModel", "capacities", "[I", true)
  | 6 => ("FlowProofsModel", "costs", "[I", true)
  | 7 => ("FlowProofsModel", "flows", "[I", true)
  | 8 => ("FlowProofsModel", "allCapacities", "J", false)
  | 9 => ("FlowProofsModel", "hasEnds", "Z", false)
  | 10 => ("FlowProofsModel", "source", "I", false)
  | 11 => ("FlowProofsModel", "sink", "I", false)
  | 12 => ("FlowProofsModel", "isSolved", "Z", false)
  | 13 => ("FlowProofsModel", "rounds", "I", false)
  | 14 => ("FlowProofsModel", "flowing", "I", false)
  | 15 => ("FlowProofsModel", "costTo", "[J", true)
  | 16 => ("FlowProofsModel", "arcsTo", "[I", true)
  | 17 => ("FlowProofsModel", "hasWay", "[Z", true)
  | _ => ("FlowProofsModel", "way", "[I", true)
def tyX3 : Nat → FieldType := fun k => match k with
  | 0 => .int
  | 1 => .int
  | 2 => .int
  | 3 => .array .int
  | 4 => .array .int
  | 5 => .array .int
  | 6 => .array .int
  | 7 => .array .int
  | 8 => .long
  | 9 => .boolean
  | 10 => .int
  | 11 => .int
  | 12 => .boolean
  | 13 => .int
  | 14 => .int
  | 15 => .array .long
  | 16 => .array .int
  | 17 => .array .boolean
  | _ => .array .int
abbrev wsX30 : List Cond := u_ws RX3 TX3 19
theorem nmX3 : ∀ a, a < 19 → ∀ b, b < 19 → a ≠ b → (TX3 a).2.1 ≠ (TX3 b).2.1 := by decide +kernel
theorem tyX3_ok : ∀ k, k < 19 → parseFieldDescriptor (TX3 k).2.2.1 = some (tyX3 k) := by decide +kernel
abbrev cX3_init : ByteArray := prog_5_method_1_code
def yX3_init : MethodName := ⟨RX3, "<init>", "(II)V"⟩
abbrev cX3_isNode : ByteArray := prog_5_method_3_code
def yX3_isNode : MethodName := ⟨RX3, "isNode", "(I)Z"⟩
abbrev cX3_gone : ByteArray := prog_5_method_4_code
def yX3_gone : MethodName := ⟨RX3, "gone", "()V"⟩
abbrev cX3_edge : ByteArray := prog_5_method_5_code
def yX3_edge : MethodName := ⟨RX3, "edge", "(IIII)I"⟩
abbrev cX3_ends : ByteArray := prog_5_method_6_code
def yX3_ends : MethodName := ⟨RX3, "ends", "(II)Z"⟩
abbrev cX3_left : ByteArray := prog_5_method_7_code
def yX3_left : MethodName := ⟨RX3, "left", "(I)I"⟩
abbrev cX3_begin : ByteArray := prog_5_method_8_code
def yX3_begin : MethodName := ⟨RX3, "begin", "(I)I"⟩
abbrev cX3_end : ByteArray := prog_5_method_9_code
def yX3_end : MethodName := ⟨RX3, "end", "(I)I"⟩
abbrev cX3_costOf : ByteArray := prog_5_method_10_code
def yX3_costOf : MethodName := ⟨RX3, "costOf", "(I)I"⟩
abbrev cX3_hasCircle : ByteArray := prog_5_method_11_code
def yX3_hasCircle : MethodName := ⟨RX3, "hasCircle", "()Z"⟩
abbrev cX3_findWays : ByteArray := prog_5_method_12_code
def yX3_findWays : MethodName := ⟨RX3, "findWays", "()Z"⟩
abbrev cX3_nextArc : ByteArray := prog_5_method_13_code
def yX3_nextArc : MethodName := ⟨RX3, "nextArc", "(I)I"⟩
abbrev cX3_round : ByteArray := prog_5_method_14_code
def yX3_round : MethodName := ⟨RX3, "round", "()V"⟩
abbrev cX3_run : ByteArray := prog_5_method_15_code
def yX3_run : MethodName := ⟨RX3, "run", "(I)I"⟩
abbrev cX3_value : ByteArray := prog_5_method_16_code
def yX3_value : MethodName := ⟨RX3, "value", "()I"⟩
abbrev cX3_cost : ByteArray := prog_5_method_17_code
def yX3_cost : MethodName := ⟨RX3, "cost", "()J"⟩
abbrev cX3_flow : ByteArray := prog_5_method_18_code
def yX3_flow : MethodName := ⟨RX3, "flow", "(I)I"⟩
abbrev cX3_findCosts : ByteArray := prog_5_method_19_code
def yX3_findCosts : MethodName := ⟨RX3, "findCosts", "()V"⟩
abbrev cX3_potential : ByteArray := prog_5_method_20_code
def yX3_potential : MethodName := ⟨RX3, "potential", "(I)I"⟩
abbrev cX3_inCut : ByteArray := prog_5_method_21_code
def yX3_inCut : MethodName := ⟨RX3, "inCut", "(I)Z"⟩
abbrev cX3_check : ByteArray := prog_5_method_22_code
def yX3_check : MethodName := ⟨RX3, "check", "()Z"⟩
abbrev cX3_next : ByteArray := prog_5_method_23_code
def yX3_next : MethodName := ⟨RX3, "next", "()I"⟩
abbrev cX3_count : ByteArray := prog_5_method_24_code
def yX3_count : MethodName := ⟨RX3, "count", "(I)I"⟩
def RJ9 : String := "java/lang/Math"
def TJ9 : u_T := fun k => match k with
  | _ => ("", "", "", false)
def tyJ9 : Nat → FieldType := fun k => match k with
  | _ => .int
abbrev wsJ90 : List Cond := u_ws RJ9 TJ9 0
theorem nmJ9 : ∀ a, a < 0 → ∀ b, b < 0 → a ≠ b → (TJ9 a).2.1 ≠ (TJ9 b).2.1 := by decide +kernel
theorem tyJ9_ok : ∀ k, k < 0 → parseFieldDescriptor (TJ9 k).2.2.1 = some (tyJ9 k) := by decide +kernel
abbrev cJ9_max_7cf53 : ByteArray := prog_6_method_65_code
def yJ9_max_7cf53 : MethodName := ⟨RJ9, "max", "(II)I"⟩
abbrev cJ9_min_7cf53 : ByteArray := prog_6_method_69_code
def yJ9_min_7cf53 : MethodName := ⟨RJ9, "min", "(II)I"⟩
def RJ7 : String := "java/util/Arrays"
def TJ7 : u_T := fun k => match k with
  | _ => ("", "", "", false)
def tyJ7 : Nat → FieldType := fun k => match k with
  | _ => .int
abbrev wsJ70 : List Cond := u_ws RJ7 TJ7 0
theorem nmJ7 : ∀ a, a < 0 → ∀ b, b < 0 → a ≠ b → (TJ7 a).2.1 ≠ (TJ7 b).2.1 := by decide +kernel
theorem tyJ7_ok : ∀ k, k < 0 → parseFieldDescriptor (TJ7 k).2.2.1 = some (tyJ7 k) := by decide +kernel
abbrev cJ7_fill_53178 : ByteArray := prog_7_method_103_code
def yJ7_fill_53178 : MethodName := ⟨RJ7, "fill", "([II)V"⟩
def RL : String := "FlowProofsLaw"
abbrev cL_cell : ByteArray := method_2_code
def yL_cell : MethodName := ⟨RL, "cell", "([II)I"⟩
abbrev cL_law : ByteArray := code
def yL_law : MethodName := ⟨RL, "law", "([I)Z"⟩
def wsX0_init : List Cond := .code yX0_init cX0_init 2 none :: ([.methodLink RX0 3 objectInit, .instanceMethod objectInit, .code objectInit ⟨#[0xb1]⟩ 1 none, .fieldLink RX0 9 "FlowProofs$Distances" "net" "LFlowProofs$Net;", .fieldLink RX0 15 "FlowProofs$Net" "nodes" "I", .arrayClass .int, .fieldLink RX0 21 "FlowProofs$Distances" "least" "[I", .fieldLink RX0 25 "FlowProofs$Distances" "fewest" "[I"] ++ wsX00 ++ wsX10)
def wsX0_reaches : List Cond := .code yX0_reaches cX0_reaches 2 (some .boolean) :: ([.fieldLink RX0 21 "FlowProofs$Distances" "least" "[I", .constant RX0 28 (2147483647)] ++ wsX00)
def wsJ7_fill_53178 : List Cond := .code yJ7_fill_53178 cJ7_fill_53178 4 none :: ([])
def wsX0_beginAt : List Cond := .code yX0_beginAt cX0_beginAt 2 none :: ([.fieldLink RX0 21 "FlowProofs$Distances" "least" "[I", .constant RX0 28 (2147483647), .fieldLink RX0 25 "FlowProofs$Distances" "fewest" "[I", .methodLink RX0 37 yJ7_fill_53178, .static yJ7_fill_53178, .initialized RJ7, .code yJ7_fill_53178 cJ7_fill_53178 4 none] ++ wsX00)
def wsX1_arcs : List Cond := .code yX1_arcs cX1_arcs 1 (some .int) :: ([.fieldLink RX1 29 "FlowProofs$Net" "edges" "I"] ++ wsX10)
def wsX1_isBack : List Cond := .code yX1_isBack cX1_isBack 1 (some .boolean) :: ([])
def wsX1_left : List Cond := .code yX1_left cX1_left 3 (some .int) :: ([.fieldLink RX1 26 "FlowProofs$Net" "flow" "[I", .fieldLink RX1 20 "FlowProofs$Net" "capacity" "[I", .methodLink RX1 38 yX1_isBack, .static yX1_isBack, .initialized RX1, .code yX1_isBack cX1_isBack 1 (some .boolean)] ++ wsX10)
def wsX1_end : List Cond := .code yX1_end cX1_end 2 (some .int) :: ([.fieldLink RX1 13 "FlowProofs$Net" "from" "[I", .fieldLink RX1 17 "FlowProofs$Net" "to" "[I", .methodLink RX1 38 yX1_isBack, .static yX1_isBack, .initialized RX1, .code yX1_isBack cX1_isBack 1 (some .boolean)] ++ wsX10)
def wsX1_begin : List Cond := .code yX1_begin cX1_begin 2 (some .int) :: ([.fieldLink RX1 17 "FlowProofs$Net" "to" "[I", .fieldLink RX1 13 "FlowProofs$Net" "from" "[I", .methodLink RX1 38 yX1_isBack, .static yX1_isBack, .initialized RX1, .code yX1_isBack cX1_isBack 1 (some .boolean)] ++ wsX10)
def wsX1_price : List Cond := .code yX1_price cX1_price 2 (some .int) :: ([.fieldLink RX1 23 "FlowProofs$Net" "unitCost" "[I", .methodLink RX1 38 yX1_isBack, .static yX1_isBack, .initialized RX1, .code yX1_isBack cX1_isBack 1 (some .boolean)] ++ wsX10)
def wsX0_shorten : List Cond := .code yX0_shorten cX0_shorten 4 (some .boolean) :: ([.fieldLink RX0 21 "FlowProofs$Distances" "least" "[I", .fieldLink RX0 25 "FlowProofs$Distances" "fewest" "[I"] ++ wsX00)
def wsX0_passOverArcs_r1 : List Cond := [Cond.fieldLink RX0 9 "FlowProofs$Distances" "net" "LFlowProofs$Net;", Cond.fieldLink RX0 21 "FlowProofs$Distances" "least" "[I", Cond.fieldLink RX0 25 "FlowProofs$Distances" "fewest" "[I", Cond.methodLink RX0 43 yX1_arcs, Cond.instanceMethod yX1_arcs, Cond.selects RX1 yX1_arcs yX1_arcs, Cond.initialized RX1, Cond.code yX1_arcs cX1_arcs 1 (some .int), Cond.fieldLink RX1 29 "FlowProofs$Net" "edges" "I", Cond.methodLink RX0 51 yX1_left, Cond.instanceMethod yX1_left, Cond.selects RX1 yX1_left yX1_left, Cond.code yX1_left cX1_left 3 (some .int), Cond.fieldLink RX1 26 "FlowProofs$Net" "flow" "[I", Cond.fieldLink RX1 20 "FlowProofs$Net" "capacity" "[I", Cond.methodLink RX1 38 yX1_isBack, Cond.static yX1_isBack, Cond.code yX1_isBack cX1_isBack 1 (some .boolean), Cond.methodLink RX0 54 yX1_end, Cond.instanceMethod yX1_end, Cond.selects RX1 yX1_end yX1_end, Cond.code yX1_end cX1_end 2 (some .int), Cond.fieldLink RX1 13 "FlowProofs$Net" "from" "[I", Cond.fieldLink RX1 17 "FlowProofs$Net" "to" "[I"]
def wsX0_passOverArcs_r2 : List Cond := [Cond.methodLink RX0 47 yX1_begin, Cond.instanceMethod yX1_begin, Cond.selects RX1 yX1_begin yX1_begin, Cond.code yX1_begin cX1_begin 2 (some .int), Cond.methodLink RX0 57 yX0_reaches, Cond.instanceMethod yX0_reaches, Cond.selects RX0 yX0_reaches yX0_reaches, Cond.initialized RX0, Cond.code yX0_reaches cX0_reaches 2 (some .boolean), Cond.constant RX0 28 (2147483647), Cond.methodLink RX0 61 yX1_price, Cond.instanceMethod yX1_price, Cond.selects RX1 yX1_price yX1_price, Cond.code yX1_price cX1_price 2 (some .int), Cond.fieldLink RX1 23 "FlowProofs$Net" "unitCost" "[I", Cond.methodLink RX0 67 yX0_shorten, Cond.instanceMethod yX0_shorten, Cond.selects RX0 yX0_shorten yX0_shorten, Cond.code yX0_shorten cX0_shorten 4 (some .boolean)]
def wsX0_passOverArcs : List Cond := .code yX0_passOverArcs cX0_passOverArcs 6 (some .boolean) :: ((wsX0_passOverArcs_r1 ++ wsX0_passOverArcs_r2) ++ wsX00 ++ wsX10)
def wsX0_settle_r1 : List Cond := [Cond.fieldLink RX0 9 "FlowProofs$Distances" "net" "LFlowProofs$Net;", Cond.fieldLink RX0 15 "FlowProofs$Net" "nodes" "I", Cond.methodLink RX0 64 yX0_passOverArcs, Cond.instanceMethod yX0_passOverArcs, Cond.selects RX0 yX0_passOverArcs yX0_passOverArcs, Cond.initialized RX0, Cond.code yX0_passOverArcs cX0_passOverArcs 6 (some .boolean), Cond.fieldLink RX0 21 "FlowProofs$Distances" "least" "[I", Cond.fieldLink RX0 25 "FlowProofs$Distances" "fewest" "[I", Cond.methodLink RX0 43 yX1_arcs, Cond.instanceMethod yX1_arcs, Cond.selects RX1 yX1_arcs yX1_arcs, Cond.initialized RX1, Cond.code yX1_arcs cX1_arcs 1 (some .int), Cond.fieldLink RX1 29 "FlowProofs$Net" "edges" "I", Cond.methodLink RX0 51 yX1_left, Cond.instanceMethod yX1_left, Cond.selects RX1 yX1_left yX1_left, Cond.code yX1_left cX1_left 3 (some .int), Cond.fieldLink RX1 26 "FlowProofs$Net" "flow" "[I", Cond.fieldLink RX1 20 "FlowProofs$Net" "capacity" "[I", Cond.methodLink RX1 38 yX1_isBack, Cond.static yX1_isBack, Cond.code yX1_isBack cX1_isBack 1 (some .boolean)]
def wsX0_settle_r2 : List Cond := [Cond.methodLink RX0 54 yX1_end, Cond.instanceMethod yX1_end, Cond.selects RX1 yX1_end yX1_end, Cond.code yX1_end cX1_end 2 (some .int), Cond.fieldLink RX1 13 "FlowProofs$Net" "from" "[I", Cond.fieldLink RX1 17 "FlowProofs$Net" "to" "[I", Cond.methodLink RX0 47 yX1_begin, Cond.instanceMethod yX1_begin, Cond.selects RX1 yX1_begin yX1_begin, Cond.code yX1_begin cX1_begin 2 (some .int), Cond.methodLink RX0 57 yX0_reaches, Cond.instanceMethod yX0_reaches, Cond.selects RX0 yX0_reaches yX0_reaches, Cond.code yX0_reaches cX0_reaches 2 (some .boolean), Cond.constant RX0 28 (2147483647), Cond.methodLink RX0 61 yX1_price, Cond.instanceMethod yX1_price, Cond.selects RX1 yX1_price yX1_price, Cond.code yX1_price cX1_price 2 (some .int), Cond.fieldLink RX1 23 "FlowProofs$Net" "unitCost" "[I", Cond.methodLink RX0 67 yX0_shorten, Cond.instanceMethod yX0_shorten, Cond.selects RX0 yX0_shorten yX0_shorten, Cond.code yX0_shorten cX0_shorten 4 (some .boolean)]
def wsX0_settle : List Cond := .code yX0_settle cX0_settle 3 (some .boolean) :: ((wsX0_settle_r1 ++ wsX0_settle_r2) ++ wsX00 ++ wsX10)
def wsX0_measureFrom_r1 : List Cond := [Cond.methodLink RX0 29 yX0_beginAt, Cond.instanceMethod yX0_beginAt, Cond.selects RX0 yX0_beginAt yX0_beginAt, Cond.initialized RX0, Cond.code yX0_beginAt cX0_beginAt 2 none, Cond.fieldLink RX0 21 "FlowProofs$Distances" "least" "[I", Cond.constant RX0 28 (2147483647), Cond.fieldLink RX0 25 "FlowProofs$Distances" "fewest" "[I", Cond.methodLink RX0 37 yJ7_fill_53178, Cond.static yJ7_fill_53178, Cond.initialized RJ7, Cond.code yJ7_fill_53178 cJ7_fill_53178 4 none, Cond.methodLink RX0 33 yX0_settle, Cond.instanceMethod yX0_settle, Cond.selects RX0 yX0_settle yX0_settle, Cond.code yX0_settle cX0_settle 3 (some .boolean), Cond.fieldLink RX0 9 "FlowProofs$Distances" "net" "LFlowProofs$Net;", Cond.fieldLink RX0 15 "FlowProofs$Net" "nodes" "I", Cond.methodLink RX0 64 yX0_passOverArcs, Cond.instanceMethod yX0_passOverArcs, Cond.selects RX0 yX0_passOverArcs yX0_passOverArcs, Cond.code yX0_passOverArcs cX0_passOverArcs 6 (some .boolean), Cond.methodLink RX0 43 yX1_arcs, Cond.instanceMethod yX1_arcs]
def wsX0_measureFrom_r2 : List Cond := [Cond.selects RX1 yX1_arcs yX1_arcs, Cond.initialized RX1, Cond.code yX1_arcs cX1_arcs 1 (some .int), Cond.fieldLink RX1 29 "FlowProofs$Net" "edges" "I", Cond.methodLink RX0 51 yX1_left, Cond.instanceMethod yX1_left, Cond.selects RX1 yX1_left yX1_left, Cond.code yX1_left cX1_left 3 (some .int), Cond.fieldLink RX1 26 "FlowProofs$Net" "flow" "[I", Cond.fieldLink RX1 20 "FlowProofs$Net" "capacity" "[I", Cond.methodLink RX1 38 yX1_isBack, Cond.static yX1_isBack, Cond.code yX1_isBack cX1_isBack 1 (some .boolean), Cond.methodLink RX0 54 yX1_end, Cond.instanceMethod yX1_end, Cond.selects RX1 yX1_end yX1_end, Cond.code yX1_end cX1_end 2 (some .int), Cond.fieldLink RX1 13 "FlowProofs$Net" "from" "[I", Cond.fieldLink RX1 17 "FlowProofs$Net" "to" "[I", Cond.methodLink RX0 47 yX1_begin, Cond.instanceMethod yX1_begin, Cond.selects RX1 yX1_begin yX1_begin, Cond.code yX1_begin cX1_begin 2 (some .int), Cond.methodLink RX0 57 yX0_reaches]
def wsX0_measureFrom_r3 : List Cond := [Cond.instanceMethod yX0_reaches, Cond.selects RX0 yX0_reaches yX0_reaches, Cond.code yX0_reaches cX0_reaches 2 (some .boolean), Cond.methodLink RX0 61 yX1_price, Cond.instanceMethod yX1_price, Cond.selects RX1 yX1_price yX1_price, Cond.code yX1_price cX1_price 2 (some .int), Cond.fieldLink RX1 23 "FlowProofs$Net" "unitCost" "[I", Cond.methodLink RX0 67 yX0_shorten, Cond.instanceMethod yX0_shorten, Cond.selects RX0 yX0_shorten yX0_shorten, Cond.code yX0_shorten cX0_shorten 4 (some .boolean)]
def wsX0_measureFrom : List Cond := .code yX0_measureFrom cX0_measureFrom 2 none :: ((wsX0_measureFrom_r1 ++ (wsX0_measureFrom_r2 ++ wsX0_measureFrom_r3)) ++ wsX00 ++ wsX10)
def wsX0_measureTo_r1 : List Cond := [Cond.methodLink RX0 29 yX0_beginAt, Cond.instanceMethod yX0_beginAt, Cond.selects RX0 yX0_beginAt yX0_beginAt, Cond.initialized RX0, Cond.code yX0_beginAt cX0_beginAt 2 none, Cond.fieldLink RX0 21 "FlowProofs$Distances" "least" "[I", Cond.constant RX0 28 (2147483647), Cond.fieldLink RX0 25 "FlowProofs$Distances" "fewest" "[I", Cond.methodLink RX0 37 yJ7_fill_53178, Cond.static yJ7_fill_53178, Cond.initialized RJ7, Cond.code yJ7_fill_53178 cJ7_fill_53178 4 none, Cond.methodLink RX0 33 yX0_settle, Cond.instanceMethod yX0_settle, Cond.selects RX0 yX0_settle yX0_settle, Cond.code yX0_settle cX0_settle 3 (some .boolean), Cond.fieldLink RX0 9 "FlowProofs$Distances" "net" "LFlowProofs$Net;", Cond.fieldLink RX0 15 "FlowProofs$Net" "nodes" "I", Cond.methodLink RX0 64 yX0_passOverArcs, Cond.instanceMethod yX0_passOverArcs, Cond.selects RX0 yX0_passOverArcs yX0_passOverArcs, Cond.code yX0_passOverArcs cX0_passOverArcs 6 (some .boolean), Cond.methodLink RX0 43 yX1_arcs, Cond.instanceMethod yX1_arcs]
def wsX0_measureTo_r2 : List Cond := [Cond.selects RX1 yX1_arcs yX1_arcs, Cond.initialized RX1, Cond.code yX1_arcs cX1_arcs 1 (some .int), Cond.fieldLink RX1 29 "FlowProofs$Net" "edges" "I", Cond.methodLink RX0 51 yX1_left, Cond.instanceMethod yX1_left, Cond.selects RX1 yX1_left yX1_left, Cond.code yX1_left cX1_left 3 (some .int), Cond.fieldLink RX1 26 "FlowProofs$Net" "flow" "[I", Cond.fieldLink RX1 20 "FlowProofs$Net" "capacity" "[I", Cond.methodLink RX1 38 yX1_isBack, Cond.static yX1_isBack, Cond.code yX1_isBack cX1_isBack 1 (some .boolean), Cond.methodLink RX0 54 yX1_end, Cond.instanceMethod yX1_end, Cond.selects RX1 yX1_end yX1_end, Cond.code yX1_end cX1_end 2 (some .int), Cond.fieldLink RX1 13 "FlowProofs$Net" "from" "[I", Cond.fieldLink RX1 17 "FlowProofs$Net" "to" "[I", Cond.methodLink RX0 47 yX1_begin, Cond.instanceMethod yX1_begin, Cond.selects RX1 yX1_begin yX1_begin, Cond.code yX1_begin cX1_begin 2 (some .int), Cond.methodLink RX0 57 yX0_reaches]
def wsX0_measureTo_r3 : List Cond := [Cond.instanceMethod yX0_reaches, Cond.selects RX0 yX0_reaches yX0_reaches, Cond.code yX0_reaches cX0_reaches 2 (some .boolean), Cond.methodLink RX0 61 yX1_price, Cond.instanceMethod yX1_price, Cond.selects RX1 yX1_price yX1_price, Cond.code yX1_price cX1_price 2 (some .int), Cond.fieldLink RX1 23 "FlowProofs$Net" "unitCost" "[I", Cond.methodLink RX0 67 yX0_shorten, Cond.instanceMethod yX0_shorten, Cond.selects RX0 yX0_shorten yX0_shorten, Cond.code yX0_shorten cX0_shorten 4 (some .boolean)]
def wsX0_measureTo : List Cond := .code yX0_measureTo cX0_measureTo 2 none :: ((wsX0_measureTo_r1 ++ (wsX0_measureTo_r2 ++ wsX0_measureTo_r3)) ++ wsX00 ++ wsX10)
def wsX0_settlesFromEverywhere_r1 : List Cond := [Cond.fieldLink RX0 21 "FlowProofs$Distances" "least" "[I", Cond.fieldLink RX0 25 "FlowProofs$Distances" "fewest" "[I", Cond.methodLink RX0 37 yJ7_fill_53178, Cond.static yJ7_fill_53178, Cond.initialized RJ7, Cond.code yJ7_fill_53178 cJ7_fill_53178 4 none, Cond.methodLink RX0 33 yX0_settle, Cond.instanceMethod yX0_settle, Cond.selects RX0 yX0_settle yX0_settle, Cond.initialized RX0, Cond.code yX0_settle cX0_settle 3 (some .boolean), Cond.fieldLink RX0 9 "FlowProofs$Distances" "net" "LFlowProofs$Net;", Cond.fieldLink RX0 15 "FlowProofs$Net" "nodes" "I", Cond.methodLink RX0 64 yX0_passOverArcs, Cond.instanceMethod yX0_passOverArcs, Cond.selects RX0 yX0_passOverArcs yX0_passOverArcs, Cond.code yX0_passOverArcs cX0_passOverArcs 6 (some .boolean), Cond.methodLink RX0 43 yX1_arcs, Cond.instanceMethod yX1_arcs, Cond.selects RX1 yX1_arcs yX1_arcs, Cond.initialized RX1, Cond.code yX1_arcs cX1_arcs 1 (some .int), Cond.fieldLink RX1 29 "FlowProofs$Net" "edges" "I", Cond.methodLink RX0 51 yX1_left]
def wsX0_settlesFromEverywhere_r2 : List Cond := [Cond.instanceMethod yX1_left, Cond.selects RX1 yX1_left yX1_left, Cond.code yX1_left cX1_left 3 (some .int), Cond.fieldLink RX1 26 "FlowProofs$Net" "flow" "[I", Cond.fieldLink RX1 20 "FlowProofs$Net" "capacity" "[I", Cond.methodLink RX1 38 yX1_isBack, Cond.static yX1_isBack, Cond.code yX1_isBack cX1_isBack 1 (some .boolean), Cond.methodLink RX0 54 yX1_end, Cond.instanceMethod yX1_end, Cond.selects RX1 yX1_end yX1_end, Cond.code yX1_end cX1_end 2 (some .int), Cond.fieldLink RX1 13 "FlowProofs$Net" "from" "[I", Cond.fieldLink RX1 17 "FlowProofs$Net" "to" "[I", Cond.methodLink RX0 47 yX1_begin, Cond.instanceMethod yX1_begin, Cond.selects RX1 yX1_begin yX1_begin, Cond.code yX1_begin cX1_begin 2 (some .int), Cond.methodLink RX0 57 yX0_reaches, Cond.instanceMethod yX0_reaches, Cond.selects RX0 yX0_reaches yX0_reaches, Cond.code yX0_reaches cX0_reaches 2 (some .boolean), Cond.constant RX0 28 (2147483647), Cond.methodLink RX0 61 yX1_price]
def wsX0_settlesFromEverywhere_r3 : List Cond := [Cond.instanceMethod yX1_price, Cond.selects RX1 yX1_price yX1_price, Cond.code yX1_price cX1_price 2 (some .int), Cond.fieldLink RX1 23 "FlowProofs$Net" "unitCost" "[I", Cond.methodLink RX0 67 yX0_shorten, Cond.instanceMethod yX0_shorten, Cond.selects RX0 yX0_shorten yX0_shorten, Cond.code yX0_shorten cX0_shorten 4 (some .boolean)]
def wsX0_settlesFromEverywhere : List Cond := .code yX0_settlesFromEverywhere cX0_settlesFromEverywhere 1 (some .boolean) :: ((wsX0_settlesFromEverywhere_r1 ++ (wsX0_settlesFromEverywhere_r2 ++ wsX0_settlesFromEverywhere_r3)) ++ wsX00 ++ wsX10)
def wsX0_leastArcOnward_r1 : List Cond := [Cond.fieldLink RX0 9 "FlowProofs$Distances" "net" "LFlowProofs$Net;", Cond.fieldLink RX0 21 "FlowProofs$Distances" "least" "[I", Cond.fieldLink RX0 25 "FlowProofs$Distances" "fewest" "[I", Cond.methodLink RX0 43 yX1_arcs, Cond.instanceMethod yX1_arcs, Cond.selects RX1 yX1_arcs yX1_arcs, Cond.initialized RX1, Cond.code yX1_arcs cX1_arcs 1 (some .int), Cond.fieldLink RX1 29 "FlowProofs$Net" "edges" "I", Cond.methodLink RX0 47 yX1_begin, Cond.instanceMethod yX1_begin, Cond.selects RX1 yX1_begin yX1_begin, Cond.code yX1_begin cX1_begin 2 (some .int), Cond.fieldLink RX1 17 "FlowProofs$Net" "to" "[I", Cond.fieldLink RX1 13 "FlowProofs$Net" "from" "[I", Cond.methodLink RX1 38 yX1_isBack, Cond.static yX1_isBack, Cond.code yX1_isBack cX1_isBack 1 (some .boolean), Cond.methodLink RX0 51 yX1_left, Cond.instanceMethod yX1_left, Cond.selects RX1 yX1_left yX1_left, Cond.code yX1_left cX1_left 3 (some .int), Cond.fieldLink RX1 26 "FlowProofs$Net" "flow" "[I", Cond.fieldLink RX1 20 "FlowProofs$Net" "capacity" "[I"]
def wsX0_leastArcOnward_r2 : List Cond := [Cond.methodLink RX0 54 yX1_end, Cond.instanceMethod yX1_end, Cond.selects RX1 yX1_end yX1_end, Cond.code yX1_end cX1_end 2 (some .int), Cond.methodLink RX0 57 yX0_reaches, Cond.instanceMethod yX0_reaches, Cond.selects RX0 yX0_reaches yX0_reaches, Cond.initialized RX0, Cond.code yX0_reaches cX0_reaches 2 (some .boolean), Cond.constant RX0 28 (2147483647), Cond.methodLink RX0 61 yX1_price, Cond.instanceMethod yX1_price, Cond.selects RX1 yX1_price yX1_price, Cond.code yX1_price cX1_price 2 (some .int), Cond.fieldLink RX1 23 "FlowProofs$Net" "unitCost" "[I"]
def wsX0_leastArcOnward : List Cond := .code yX0_leastArcOnward cX0_leastArcOnward 4 (some .int) :: ((wsX0_leastArcOnward_r1 ++ wsX0_leastArcOnward_r2) ++ wsX00 ++ wsX10)
def wsX1_init : List Cond := .code yX1_init cX1_init 3 none :: ([.methodLink RX1 1 objectInit, .instanceMethod objectInit, .code objectInit ⟨#[0xb1]⟩ 1 none, .fieldLink RX1 7 "FlowProofs$Net" "nodes" "I", .arrayClass .int, .fieldLink RX1 13 "FlowProofs$Net" "from" "[I", .fieldLink RX1 17 "FlowProofs$Net" "to" "[I", .fieldLink RX1 20 "FlowProofs$Net" "capacity" "[I", .fieldLink RX1 23 "FlowProofs$Net" "unitCost" "[I", .fieldLink RX1 26 "FlowProofs$Net" "flow" "[I"] ++ wsX10)
def wsX1_hasNode : List Cond := .code yX1_hasNode cX1_hasNode 2 (some .boolean) :: ([.fieldLink RX1 7 "FlowProofs$Net" "nodes" "I"] ++ wsX10)
def wsX1_hasEdge : List Cond := .code yX1_hasEdge cX1_hasEdge 2 (some .boolean) :: ([.fieldLink RX1 29 "FlowProofs$Net" "edges" "I"] ++ wsX10)
def wsX1_isFull : List Cond := .code yX1_isFull cX1_isFull 1 (some .boolean) :: ([.fieldLink RX1 29 "FlowProofs$Net" "edges" "I", .fieldLink RX1 13 "FlowProofs$Net" "from" "[I"] ++ wsX10)
def wsX1_capacityInAll : List Cond := .code yX1_capacityInAll cX1_capacityInAll 4 (some .long) :: ([.fieldLink RX1 29 "FlowProofs$Net" "edges" "I", .fieldLink RX1 20 "FlowProofs$Net" "capacity" "[I"] ++ wsX10)
def wsX1_add : List Cond := .code yX1_add cX1_add 6 (some .int) :: ([.fieldLink RX1 29 "FlowProofs$Net" "edges" "I", .fieldLink RX1 13 "FlowProofs$Net" "from" "[I", .fieldLink RX1 17 "FlowProofs$Net" "to" "[I", .fieldLink RX1 20 "FlowProofs$Net" "capacity" "[I", .fieldLink RX1 23 "FlowProofs$Net" "unitCost" "[I"] ++ wsX10)
def wsX1_clearFlow : List Cond := .code yX1_clearFlow cX1_clearFlow 1 none :: ([.fieldLink RX1 26 "FlowProofs$Net" "flow" "[I", .methodLink RX1 32 yJ7_fill_53178, .static yJ7_fill_53178, .initialized RJ7, .code yJ7_fill_53178 cJ7_fill_53178 4 none] ++ wsX10)
def wsX1_costOfFlow : List Cond := .code yX1_costOfFlow cX1_costOfFlow 4 (some .long) :: ([.fieldLink RX1 29 "FlowProofs$Net" "edges" "I", .fieldLink RX1 26 "FlowProofs$Net" "flow" "[I", .fieldLink RX1 23 "FlowProofs$Net" "unitCost" "[I"] ++ wsX10)
def wsX1_surplus : List Cond := .code yX1_surplus cX1_surplus 5 (some .long) :: ([.fieldLink RX1 29 "FlowProofs$Net" "edges" "I", .fieldLink RX1 17 "FlowProofs$Net" "to" "[I", .fieldLink RX1 26 "FlowProofs$Net" "flow" "[I", .fieldLink RX1 13 "FlowProofs$Net" "from" "[I"] ++ wsX10)
def wsX1_send : List Cond := .code yX1_send cX1_send 3 none :: ([.fieldLink RX1 26 "FlowProofs$Net" "flow" "[I", .methodLink RX1 38 yX1_isBack, .static yX1_isBack, .initialized RX1, .code yX1_isBack cX1_isBack 1 (some .boolean)] ++ wsX10)
def wsX2_within : List Cond := .code yX2_within cX2_within 3 (some .int) :: ([.methodLink RX2 128 Lib.Math.min.name, .static Lib.Math.min.name, .initialized "java/lang/Math", .code Lib.Math.min.name Lib.Math.min.code 2 (some .int), .methodLink RX2 134 Lib.Math.max.name, .static Lib.Math.max.name, .code Lib.Math.max.name Lib.Math.max.code 2 (some .int)])
def wsX2_init_r1 : List Cond := [Cond.methodLink RX2 3 objectInit, Cond.instanceMethod objectInit, Cond.code objectInit ⟨#[0xb1]⟩ 1 none, Cond.fieldLink RX2 11 "FlowProofs" "source" "I", Cond.fieldLink RX2 15 "FlowProofs" "sink" "I", Cond.classLink RX2 22 RX1, Cond.instantiable RX1 7, Cond.initialized RX1, Cond.fieldLink RX2 27 "FlowProofs" "net" "LFlowProofs$Net;", Cond.classLink RX2 31 RX0, Cond.instantiable RX0 3, Cond.initialized RX0, Cond.fieldLink RX2 36 "FlowProofs" "fromSource" "LFlowProofs$Distances;", Cond.fieldLink RX2 40 "FlowProofs" "toSink" "LFlowProofs$Distances;", Cond.arrayClass .int, Cond.fieldLink RX2 43 "FlowProofs" "way" "[I", Cond.methodLink RX2 18 yX2_within, Cond.static yX2_within, Cond.initialized RX2, Cond.code yX2_within cX2_within 3 (some .int), Cond.methodLink RX2 128 Lib.Math.min.name, Cond.static Lib.Math.min.name, Cond.initialized "java/lang/Math", Cond.code Lib.Math.min.name Lib.Math.min.code 2 (some .int)]
def wsX2_init_r2 : List Cond := [Cond.methodLink RX2 134 Lib.Math.max.name, Cond.static Lib.Math.max.name, Cond.code Lib.Math.max.name Lib.Math.max.code 2 (some .int), Cond.methodLink RX2 24 yX1_init, Cond.instanceMethod yX1_init, Cond.code yX1_init cX1_init 3 none, Cond.methodLink RX1 1 objectInit, Cond.fieldLink RX1 7 "FlowProofs$Net" "nodes" "I", Cond.fieldLink RX1 13 "FlowProofs$Net" "from" "[I", Cond.fieldLink RX1 17 "FlowProofs$Net" "to" "[I", Cond.fieldLink RX1 20 "FlowProofs$Net" "capacity" "[I", Cond.fieldLink RX1 23 "FlowProofs$Net" "unitCost" "[I", Cond.fieldLink RX1 26 "FlowProofs$Net" "flow" "[I", Cond.methodLink RX2 33 yX0_init, Cond.instanceMethod yX0_init, Cond.code yX0_init cX0_init 2 none, Cond.methodLink RX0 3 objectInit, Cond.fieldLink RX0 9 "FlowProofs$Distances" "net" "LFlowProofs$Net;", Cond.fieldLink RX0 15 "FlowProofs$Net" "nodes" "I", Cond.fieldLink RX0 21 "FlowProofs$Distances" "least" "[I", Cond.fieldLink RX0 25 "FlowProofs$Distances" "fewest" "[I"]
def wsX2_init : List Cond := .code yX2_init cX2_init 4 none :: ((wsX2_init_r1 ++ wsX2_init_r2) ++ wsX20 ++ wsX10 ++ wsX00)
def wsX2_forgetSolving : List Cond := .code yX2_forgetSolving cX2_forgetSolving 1 none :: ([.fieldLink RX2 27 "FlowProofs" "net" "LFlowProofs$Net;", .fieldLink RX2 76 "FlowProofs" "solved" "Z", .fieldLink RX2 125 "FlowProofs" "roundsDone" "I", .fieldLink RX2 89 "FlowProofs" "flowing" "I", .methodLink RX2 137 yX1_clearFlow, .instanceMethod yX1_clearFlow, .selects RX1 yX1_clearFlow yX1_clearFlow, .initialized RX1, .code yX1_clearFlow cX1_clearFlow 1 none, .fieldLink RX1 26 "FlowProofs$Net" "flow" "[I", .methodLink RX1 32 yJ7_fill_53178, .static yJ7_fill_53178, .initialized RJ7, .code yJ7_fill_53178 cJ7_fill_53178 4 none] ++ wsX20 ++ wsX10)
def wsX2_edge_r1 : List Cond := [Cond.fieldLink RX2 27 "FlowProofs" "net" "LFlowProofs$Net;", Cond.constant RX2 51 (1000000), Cond.constantLong RX2 60 (1073741824), Cond.fieldLink RX2 36 "FlowProofs" "fromSource" "LFlowProofs$Distances;", Cond.fieldLink RX2 72 "FlowProofs" "circle" "Z", Cond.methodLink RX2 47 yX1_hasNode, Cond.instanceMethod yX1_hasNode, Cond.selects RX1 yX1_hasNode yX1_hasNode, Cond.initialized RX1, Cond.code yX1_hasNode cX1_hasNode 2 (some .boolean), Cond.fieldLink RX1 7 "FlowProofs$Net" "nodes" "I", Cond.methodLink RX2 52 yX1_isFull, Cond.instanceMethod yX1_isFull, Cond.selects RX1 yX1_isFull yX1_isFull, Cond.code yX1_isFull cX1_isFull 1 (some .boolean), Cond.fieldLink RX1 29 "FlowProofs$Net" "edges" "I", Cond.fieldLink RX1 13 "FlowProofs$Net" "from" "[I", Cond.methodLink RX2 56 yX1_capacityInAll, Cond.instanceMethod yX1_capacityInAll, Cond.selects RX1 yX1_capacityInAll yX1_capacityInAll, Cond.code yX1_capacityInAll cX1_capacityInAll 4 (some .long), Cond.fieldLink RX1 20 "FlowProofs$Net" "capacity" "[I", Cond.methodLink RX2 62 yX2_forgetSolving, Cond.instanceMethod yX2_forgetSolving]
def wsX2_edge_r2 : List Cond := [Cond.selects RX2 yX2_forgetSolving yX2_forgetSolving, Cond.initialized RX2, Cond.code yX2_forgetSolving cX2_forgetSolving 1 none, Cond.fieldLink RX2 76 "FlowProofs" "solved" "Z", Cond.fieldLink RX2 125 "FlowProofs" "roundsDone" "I", Cond.fieldLink RX2 89 "FlowProofs" "flowing" "I", Cond.methodLink RX2 137 yX1_clearFlow, Cond.instanceMethod yX1_clearFlow, Cond.selects RX1 yX1_clearFlow yX1_clearFlow, Cond.code yX1_clearFlow cX1_clearFlow 1 none, Cond.fieldLink RX1 26 "FlowProofs$Net" "flow" "[I", Cond.methodLink RX1 32 yJ7_fill_53178, Cond.static yJ7_fill_53178, Cond.initialized RJ7, Cond.code yJ7_fill_53178 cJ7_fill_53178 4 none, Cond.methodLink RX2 65 yX1_add, Cond.instanceMethod yX1_add, Cond.selects RX1 yX1_add yX1_add, Cond.code yX1_add cX1_add 6 (some .int), Cond.fieldLink RX1 17 "FlowProofs$Net" "to" "[I", Cond.fieldLink RX1 23 "FlowProofs$Net" "unitCost" "[I", Cond.methodLink RX2 69 yX0_settlesFromEverywhere, Cond.instanceMethod yX0_settlesFromEverywhere, Cond.selects RX0 yX0_settlesFromEverywhere yX0_settlesFromEverywhere]
def wsX2_edge_r3 : List Cond := [Cond.initialized RX0, Cond.code yX0_settlesFromEverywhere cX0_settlesFromEverywhere 1 (some .boolean), Cond.fieldLink RX0 21 "FlowProofs$Distances" "least" "[I", Cond.fieldLink RX0 25 "FlowProofs$Distances" "fewest" "[I", Cond.methodLink RX0 37 yJ7_fill_53178, Cond.methodLink RX0 33 yX0_settle, Cond.instanceMethod yX0_settle, Cond.selects RX0 yX0_settle yX0_settle, Cond.code yX0_settle cX0_settle 3 (some .boolean), Cond.fieldLink RX0 9 "FlowProofs$Distances" "net" "LFlowProofs$Net;", Cond.fieldLink RX0 15 "FlowProofs$Net" "nodes" "I", Cond.methodLink RX0 64 yX0_passOverArcs, Cond.instanceMethod yX0_passOverArcs, Cond.selects RX0 yX0_passOverArcs yX0_passOverArcs, Cond.code yX0_passOverArcs cX0_passOverArcs 6 (some .boolean), Cond.methodLink RX0 43 yX1_arcs, Cond.instanceMethod yX1_arcs, Cond.selects RX1 yX1_arcs yX1_arcs, Cond.code yX1_arcs cX1_arcs 1 (some .int), Cond.methodLink RX0 51 yX1_left, Cond.instanceMethod yX1_left, Cond.selects RX1 yX1_left yX1_left, Cond.code yX1_left cX1_left 3 (some .int), Cond.methodLink RX1 38 yX1_isBack]
def wsX2_edge_r4 : List Cond := [Cond.static yX1_isBack, Cond.code yX1_isBack cX1_isBack 1 (some .boolean), Cond.methodLink RX0 54 yX1_end, Cond.instanceMethod yX1_end, Cond.selects RX1 yX1_end yX1_end, Cond.code yX1_end cX1_end 2 (some .int), Cond.methodLink RX0 47 yX1_begin, Cond.instanceMethod yX1_begin, Cond.selects RX1 yX1_begin yX1_begin, Cond.code yX1_begin cX1_begin 2 (some .int), Cond.methodLink RX0 57 yX0_reaches, Cond.instanceMethod yX0_reaches, Cond.selects RX0 yX0_reaches yX0_reaches, Cond.code yX0_reaches cX0_reaches 2 (some .boolean), Cond.constant RX0 28 (2147483647), Cond.methodLink RX0 61 yX1_price, Cond.instanceMethod yX1_price, Cond.selects RX1 yX1_price yX1_price, Cond.code yX1_price cX1_price 2 (some .int), Cond.methodLink RX0 67 yX0_shorten, Cond.instanceMethod yX0_shorten, Cond.selects RX0 yX0_shorten yX0_shorten, Cond.code yX0_shorten cX0_shorten 4 (some .boolean)]
def wsX2_edge : List Cond := .code yX2_edge cX2_edge 6 (some .int) :: ((wsX2_edge_r1 ++ (wsX2_edge_r2 ++ (wsX2_edge_r3 ++ wsX2_edge_r4))) ++ wsX20 ++ wsX10 ++ wsX00)
def wsX2_ends_r1 : List Cond := [Cond.fieldLink RX2 27 "FlowProofs" "net" "LFlowProofs$Net;", Cond.fieldLink RX2 11 "FlowProofs" "source" "I", Cond.fieldLink RX2 15 "FlowProofs" "sink" "I", Cond.methodLink RX2 47 yX1_hasNode, Cond.instanceMethod yX1_hasNode, Cond.selects RX1 yX1_hasNode yX1_hasNode, Cond.initialized RX1, Cond.code yX1_hasNode cX1_hasNode 2 (some .boolean), Cond.fieldLink RX1 7 "FlowProofs$Net" "nodes" "I", Cond.methodLink RX2 62 yX2_forgetSolving, Cond.instanceMethod yX2_forgetSolving, Cond.selects RX2 yX2_forgetSolving yX2_forgetSolving, Cond.initialized RX2, Cond.code yX2_forgetSolving cX2_forgetSolving 1 none, Cond.fieldLink RX2 76 "FlowProofs" "solved" "Z", Cond.fieldLink RX2 125 "FlowProofs" "roundsDone" "I", Cond.fieldLink RX2 89 "FlowProofs" "flowing" "I", Cond.methodLink RX2 137 yX1_clearFlow, Cond.instanceMethod yX1_clearFlow, Cond.selects RX1 yX1_clearFlow yX1_clearFlow, Cond.code yX1_clearFlow cX1_clearFlow 1 none, Cond.fieldLink RX1 26 "FlowProofs$Net" "flow" "[I", Cond.methodLink RX1 32 yJ7_fill_53178, Cond.static yJ7_fill_53178]
def wsX2_ends_r2 : List Cond := [Cond.initialized RJ7, Cond.code yJ7_fill_53178 cJ7_fill_53178 4 none]
def wsX2_ends : List Cond := .code yX2_ends cX2_ends 3 (some .boolean) :: ((wsX2_ends_r1 ++ wsX2_ends_r2) ++ wsX20 ++ wsX10)
def wsX2_findWay_r1 : List Cond := [Cond.fieldLink RX2 40 "FlowProofs" "toSink" "LFlowProofs$Distances;", Cond.fieldLink RX2 15 "FlowProofs" "sink" "I", Cond.fieldLink RX2 11 "FlowProofs" "source" "I", Cond.methodLink RX2 140 yX0_measureTo, Cond.instanceMethod yX0_measureTo, Cond.selects RX0 yX0_measureTo yX0_measureTo, Cond.initialized RX0, Cond.code yX0_measureTo cX0_measureTo 2 none, Cond.methodLink RX0 29 yX0_beginAt, Cond.instanceMethod yX0_beginAt, Cond.selects RX0 yX0_beginAt yX0_beginAt, Cond.code yX0_beginAt cX0_beginAt 2 none, Cond.fieldLink RX0 21 "FlowProofs$Distances" "least" "[I", Cond.constant RX0 28 (2147483647), Cond.fieldLink RX0 25 "FlowProofs$Distances" "fewest" "[I", Cond.methodLink RX0 37 yJ7_fill_53178, Cond.static yJ7_fill_53178, Cond.initialized RJ7, Cond.code yJ7_fill_53178 cJ7_fill_53178 4 none, Cond.methodLink RX0 33 yX0_settle, Cond.instanceMethod yX0_settle, Cond.selects RX0 yX0_settle yX0_settle, Cond.code yX0_settle cX0_settle 3 (some .boolean), Cond.fieldLink RX0 9 "FlowProofs$Distances" "net" "LFlowProofs$Net;"]
def wsX2_findWay_r2 : List Cond := [Cond.fieldLink RX0 15 "FlowProofs$Net" "nodes" "I", Cond.methodLink RX0 64 yX0_passOverArcs, Cond.instanceMethod yX0_passOverArcs, Cond.selects RX0 yX0_passOverArcs yX0_passOverArcs, Cond.code yX0_passOverArcs cX0_passOverArcs 6 (some .boolean), Cond.methodLink RX0 43 yX1_arcs, Cond.instanceMethod yX1_arcs, Cond.selects RX1 yX1_arcs yX1_arcs, Cond.initialized RX1, Cond.code yX1_arcs cX1_arcs 1 (some .int), Cond.fieldLink RX1 29 "FlowProofs$Net" "edges" "I", Cond.methodLink RX0 51 yX1_left, Cond.instanceMethod yX1_left, Cond.selects RX1 yX1_left yX1_left, Cond.code yX1_left cX1_left 3 (some .int), Cond.fieldLink RX1 26 "FlowProofs$Net" "flow" "[I", Cond.fieldLink RX1 20 "FlowProofs$Net" "capacity" "[I", Cond.methodLink RX1 38 yX1_isBack, Cond.static yX1_isBack, Cond.code yX1_isBack cX1_isBack 1 (some .boolean), Cond.methodLink RX0 54 yX1_end, Cond.instanceMethod yX1_end, Cond.selects RX1 yX1_end yX1_end, Cond.code yX1_end cX1_end 2 (some .int)]
def wsX2_findWay_r3 : List Cond := [Cond.fieldLink RX1 13 "FlowProofs$Net" "from" "[I", Cond.fieldLink RX1 17 "FlowProofs$Net" "to" "[I", Cond.methodLink RX0 47 yX1_begin, Cond.instanceMethod yX1_begin, Cond.selects RX1 yX1_begin yX1_begin, Cond.code yX1_begin cX1_begin 2 (some .int), Cond.methodLink RX0 57 yX0_reaches, Cond.instanceMethod yX0_reaches, Cond.selects RX0 yX0_reaches yX0_reaches, Cond.code yX0_reaches cX0_reaches 2 (some .boolean), Cond.methodLink RX0 61 yX1_price, Cond.instanceMethod yX1_price, Cond.selects RX1 yX1_price yX1_price, Cond.code yX1_price cX1_price 2 (some .int), Cond.fieldLink RX1 23 "FlowProofs$Net" "unitCost" "[I", Cond.methodLink RX0 67 yX0_shorten, Cond.instanceMethod yX0_shorten, Cond.selects RX0 yX0_shorten yX0_shorten, Cond.code yX0_shorten cX0_shorten 4 (some .boolean), Cond.methodLink RX2 104 yX0_reaches]
def wsX2_findWay : List Cond := .code yX2_findWay cX2_findWay 1 (some .boolean) :: ((wsX2_findWay_r1 ++ (wsX2_findWay_r2 ++ wsX2_findWay_r3)) ++ wsX20 ++ wsX00 ++ wsX10)
def wsX2_traceWay_r1 : List Cond := [Cond.fieldLink RX2 150 "FlowProofs" "wayLength" "I", Cond.fieldLink RX2 11 "FlowProofs" "source" "I", Cond.fieldLink RX2 15 "FlowProofs" "sink" "I", Cond.fieldLink RX2 43 "FlowProofs" "way" "[I", Cond.fieldLink RX2 40 "FlowProofs" "toSink" "LFlowProofs$Distances;", Cond.fieldLink RX2 27 "FlowProofs" "net" "LFlowProofs$Net;", Cond.methodLink RX2 156 yX0_leastArcOnward, Cond.instanceMethod yX0_leastArcOnward, Cond.selects RX0 yX0_leastArcOnward yX0_leastArcOnward, Cond.initialized RX0, Cond.code yX0_leastArcOnward cX0_leastArcOnward 4 (some .int), Cond.fieldLink RX0 9 "FlowProofs$Distances" "net" "LFlowProofs$Net;", Cond.fieldLink RX0 21 "FlowProofs$Distances" "least" "[I", Cond.fieldLink RX0 25 "FlowProofs$Distances" "fewest" "[I", Cond.methodLink RX0 43 yX1_arcs, Cond.instanceMethod yX1_arcs, Cond.selects RX1 yX1_arcs yX1_arcs, Cond.initialized RX1, Cond.code yX1_arcs cX1_arcs 1 (some .int), Cond.fieldLink RX1 29 "FlowProofs$Net" "edges" "I", Cond.methodLink RX0 47 yX1_begin, Cond.instanceMethod yX1_begin, Cond.selects RX1 yX1_begin yX1_begin, Cond.code yX1_begin cX1_begin 2 (some .int)]
def wsX2_traceWay_r2 : List Cond := [Cond.fieldLink RX1 17 "FlowProofs$Net" "to" "[I", Cond.fieldLink RX1 13 "FlowProofs$Net" "from" "[I", Cond.methodLink RX1 38 yX1_isBack, Cond.static yX1_isBack, Cond.code yX1_isBack cX1_isBack 1 (some .boolean), Cond.methodLink RX0 51 yX1_left, Cond.instanceMethod yX1_left, Cond.selects RX1 yX1_left yX1_left, Cond.code yX1_left cX1_left 3 (some .int), Cond.fieldLink RX1 26 "FlowProofs$Net" "flow" "[I", Cond.fieldLink RX1 20 "FlowProofs$Net" "capacity" "[I", Cond.methodLink RX0 54 yX1_end, Cond.instanceMethod yX1_end, Cond.selects RX1 yX1_end yX1_end, Cond.code yX1_end cX1_end 2 (some .int), Cond.methodLink RX0 57 yX0_reaches, Cond.instanceMethod yX0_reaches, Cond.selects RX0 yX0_reaches yX0_reaches, Cond.code yX0_reaches cX0_reaches 2 (some .boolean), Cond.constant RX0 28 (2147483647), Cond.methodLink RX0 61 yX1_price, Cond.instanceMethod yX1_price, Cond.selects RX1 yX1_price yX1_price, Cond.code yX1_price cX1_price 2 (some .int)]
def wsX2_traceWay_r3 : List Cond := [Cond.fieldLink RX1 23 "FlowProofs$Net" "unitCost" "[I", Cond.methodLink RX2 160 yX1_end]
def wsX2_traceWay : List Cond := .code yX2_traceWay cX2_traceWay 3 none :: ((wsX2_traceWay_r1 ++ (wsX2_traceWay_r2 ++ wsX2_traceWay_r3)) ++ wsX20 ++ wsX00 ++ wsX10)
def wsX2_leastOnWay : List Cond := .code yX2_leastOnWay cX2_leastOnWay 3 (some .int) :: ([.fieldLink RX2 150 "FlowProofs" "wayLength" "I", .fieldLink RX2 27 "FlowProofs" "net" "LFlowProofs$Net;", .fieldLink RX2 43 "FlowProofs" "way" "[I", .methodLink RX2 128 Lib.Math.min.name, .static Lib.Math.min.name, .initialized "java/lang/Math", .code Lib.Math.min.name Lib.Math.min.code 2 (some .int), .methodLink RX2 163 yX1_left, .instanceMethod yX1_left, .selects RX1 yX1_left yX1_left, .initialized RX1, .code yX1_left cX1_left 3 (some .int), .fieldLink RX1 26 "FlowProofs$Net" "flow" "[I", .fieldLink RX1 20 "FlowProofs$Net" "capacity" "[I", .methodLink RX1 38 yX1_isBack, .static yX1_isBack, .code yX1_isBack cX1_isBack 1 (some .boolean)] ++ wsX20 ++ wsX10)
def wsX2_doRound_r1 : List Cond := [Cond.fieldLink RX2 150 "FlowProofs" "wayLength" "I", Cond.fieldLink RX2 27 "FlowProofs" "net" "LFlowProofs$Net;", Cond.fieldLink RX2 43 "FlowProofs" "way" "[I", Cond.fieldLink RX2 89 "FlowProofs" "flowing" "I", Cond.fieldLink RX2 125 "FlowProofs" "roundsDone" "I", Cond.methodLink RX2 143 yX2_traceWay, Cond.instanceMethod yX2_traceWay, Cond.selects RX2 yX2_traceWay yX2_traceWay, Cond.initialized RX2, Cond.code yX2_traceWay cX2_traceWay 3 none, Cond.fieldLink RX2 11 "FlowProofs" "source" "I", Cond.fieldLink RX2 15 "FlowProofs" "sink" "I", Cond.fieldLink RX2 40 "FlowProofs" "toSink" "LFlowProofs$Distances;", Cond.methodLink RX2 156 yX0_leastArcOnward, Cond.instanceMethod yX0_leastArcOnward, Cond.selects RX0 yX0_leastArcOnward yX0_leastArcOnward, Cond.initialized RX0, Cond.code yX0_leastArcOnward cX0_leastArcOnward 4 (some .int), Cond.fieldLink RX0 9 "FlowProofs$Distances" "net" "LFlowProofs$Net;", Cond.fieldLink RX0 21 "FlowProofs$Distances" "least" "[I", Cond.fieldLink RX0 25 "FlowProofs$Distances" "fewest" "[I", Cond.methodLink RX0 43 yX1_arcs, Cond.instanceMethod yX1_arcs, Cond.selects RX1 yX1_arcs yX1_arcs]
def wsX2_doRound_r2 : List Cond := [Cond.initialized RX1, Cond.code yX1_arcs cX1_arcs 1 (some .int), Cond.fieldLink RX1 29 "FlowProofs$Net" "edges" "I", Cond.methodLink RX0 47 yX1_begin, Cond.instanceMethod yX1_begin, Cond.selects RX1 yX1_begin yX1_begin, Cond.code yX1_begin cX1_begin 2 (some .int), Cond.fieldLink RX1 17 "FlowProofs$Net" "to" "[I", Cond.fieldLink RX1 13 "FlowProofs$Net" "from" "[I", Cond.methodLink RX1 38 yX1_isBack, Cond.static yX1_isBack, Cond.code yX1_isBack cX1_isBack 1 (some .boolean), Cond.methodLink RX0 51 yX1_left, Cond.instanceMethod yX1_left, Cond.selects RX1 yX1_left yX1_left, Cond.code yX1_left cX1_left 3 (some .int), Cond.fieldLink RX1 26 "FlowProofs$Net" "flow" "[I", Cond.fieldLink RX1 20 "FlowProofs$Net" "capacity" "[I", Cond.methodLink RX0 54 yX1_end, Cond.instanceMethod yX1_end, Cond.selects RX1 yX1_end yX1_end, Cond.code yX1_end cX1_end 2 (some .int), Cond.methodLink RX0 57 yX0_reaches, Cond.instanceMethod yX0_reaches]
def wsX2_doRound_r3 : List Cond := [Cond.selects RX0 yX0_reaches yX0_reaches, Cond.code yX0_reaches cX0_reaches 2 (some .boolean), Cond.constant RX0 28 (2147483647), Cond.methodLink RX0 61 yX1_price, Cond.instanceMethod yX1_price, Cond.selects RX1 yX1_price yX1_price, Cond.code yX1_price cX1_price 2 (some .int), Cond.fieldLink RX1 23 "FlowProofs$Net" "unitCost" "[I", Cond.methodLink RX2 160 yX1_end, Cond.methodLink RX2 146 yX2_leastOnWay, Cond.instanceMethod yX2_leastOnWay, Cond.selects RX2 yX2_leastOnWay yX2_leastOnWay, Cond.code yX2_leastOnWay cX2_leastOnWay 3 (some .int), Cond.methodLink RX2 128 Lib.Math.min.name, Cond.static Lib.Math.min.name, Cond.initialized "java/lang/Math", Cond.code Lib.Math.min.name Lib.Math.min.code 2 (some .int), Cond.methodLink RX2 163 yX1_left, Cond.methodLink RX2 153 yX1_send, Cond.instanceMethod yX1_send, Cond.selects RX1 yX1_send yX1_send, Cond.code yX1_send cX1_send 3 none]
def wsX2_doRound : List Cond := .code yX2_doRound cX2_doRound 3 none :: ((wsX2_doRound_r1 ++ (wsX2_doRound_r2 ++ wsX2_doRound_r3)) ++ wsX20 ++ wsX00 ++ wsX10)
def wsX2_run_r1 : List Cond := [Cond.fieldLink RX2 11 "FlowProofs" "source" "I", Cond.fieldLink RX2 72 "FlowProofs" "circle" "Z", Cond.fieldLink RX2 76 "FlowProofs" "solved" "Z", Cond.fieldLink RX2 36 "FlowProofs" "fromSource" "LFlowProofs$Distances;", Cond.methodLink RX2 79 yX2_findWay, Cond.instanceMethod yX2_findWay, Cond.selects RX2 yX2_findWay yX2_findWay, Cond.initialized RX2, Cond.code yX2_findWay cX2_findWay 1 (some .boolean), Cond.fieldLink RX2 40 "FlowProofs" "toSink" "LFlowProofs$Distances;", Cond.fieldLink RX2 15 "FlowProofs" "sink" "I", Cond.methodLink RX2 140 yX0_measureTo, Cond.instanceMethod yX0_measureTo, Cond.selects RX0 yX0_measureTo yX0_measureTo, Cond.initialized RX0, Cond.code yX0_measureTo cX0_measureTo 2 none, Cond.methodLink RX0 29 yX0_beginAt, Cond.instanceMethod yX0_beginAt, Cond.selects RX0 yX0_beginAt yX0_beginAt, Cond.code yX0_beginAt cX0_beginAt 2 none, Cond.fieldLink RX0 21 "FlowProofs$Distances" "least" "[I", Cond.constant RX0 28 (2147483647), Cond.fieldLink RX0 25 "FlowProofs$Distances" "fewest" "[I", Cond.methodLink RX0 37 yJ7_fill_53178]
def wsX2_run_r2 : List Cond := [Cond.static yJ7_fill_53178, Cond.initialized RJ7, Cond.code yJ7_fill_53178 cJ7_fill_53178 4 none, Cond.methodLink RX0 33 yX0_settle, Cond.instanceMethod yX0_settle, Cond.selects RX0 yX0_settle yX0_settle, Cond.code yX0_settle cX0_settle 3 (some .boolean), Cond.fieldLink RX0 9 "FlowProofs$Distances" "net" "LFlowProofs$Net;", Cond.fieldLink RX0 15 "FlowProofs$Net" "nodes" "I", Cond.methodLink RX0 64 yX0_passOverArcs, Cond.instanceMethod yX0_passOverArcs, Cond.selects RX0 yX0_passOverArcs yX0_passOverArcs, Cond.code yX0_passOverArcs cX0_passOverArcs 6 (some .boolean), Cond.methodLink RX0 43 yX1_arcs, Cond.instanceMethod yX1_arcs, Cond.selects RX1 yX1_arcs yX1_arcs, Cond.initialized RX1, Cond.code yX1_arcs cX1_arcs 1 (some .int), Cond.fieldLink RX1 29 "FlowProofs$Net" "edges" "I", Cond.methodLink RX0 51 yX1_left, Cond.instanceMethod yX1_left, Cond.selects RX1 yX1_left yX1_left, Cond.code yX1_left cX1_left 3 (some .int), Cond.fieldLink RX1 26 "FlowProofs$Net" "flow" "[I"]
def wsX2_run_r3 : List Cond := [Cond.fieldLink RX1 20 "FlowProofs$Net" "capacity" "[I", Cond.methodLink RX1 38 yX1_isBack, Cond.static yX1_isBack, Cond.code yX1_isBack cX1_isBack 1 (some .boolean), Cond.methodLink RX0 54 yX1_end, Cond.instanceMethod yX1_end, Cond.selects RX1 yX1_end yX1_end, Cond.code yX1_end cX1_end 2 (some .int), Cond.fieldLink RX1 13 "FlowProofs$Net" "from" "[I", Cond.fieldLink RX1 17 "FlowProofs$Net" "to" "[I", Cond.methodLink RX0 47 yX1_begin, Cond.instanceMethod yX1_begin, Cond.selects RX1 yX1_begin yX1_begin, Cond.code yX1_begin cX1_begin 2 (some .int), Cond.methodLink RX0 57 yX0_reaches, Cond.instanceMethod yX0_reaches, Cond.selects RX0 yX0_reaches yX0_reaches, Cond.code yX0_reaches cX0_reaches 2 (some .boolean), Cond.methodLink RX0 61 yX1_price, Cond.instanceMethod yX1_price, Cond.selects RX1 yX1_price yX1_price, Cond.code yX1_price cX1_price 2 (some .int), Cond.fieldLink RX1 23 "FlowProofs$Net" "unitCost" "[I", Cond.methodLink RX0 67 yX0_shorten]
def wsX2_run_r4 : List Cond := [Cond.instanceMethod yX0_shorten, Cond.selects RX0 yX0_shorten yX0_shorten, Cond.code yX0_shorten cX0_shorten 4 (some .boolean), Cond.methodLink RX2 104 yX0_reaches, Cond.methodLink RX2 82 yX2_doRound, Cond.instanceMethod yX2_doRound, Cond.selects RX2 yX2_doRound yX2_doRound, Cond.code yX2_doRound cX2_doRound 3 none, Cond.fieldLink RX2 150 "FlowProofs" "wayLength" "I", Cond.fieldLink RX2 27 "FlowProofs" "net" "LFlowProofs$Net;", Cond.fieldLink RX2 43 "FlowProofs" "way" "[I", Cond.fieldLink RX2 89 "FlowProofs" "flowing" "I", Cond.fieldLink RX2 125 "FlowProofs" "roundsDone" "I", Cond.methodLink RX2 143 yX2_traceWay, Cond.instanceMethod yX2_traceWay, Cond.selects RX2 yX2_traceWay yX2_traceWay, Cond.code yX2_traceWay cX2_traceWay 3 none, Cond.methodLink RX2 156 yX0_leastArcOnward, Cond.instanceMethod yX0_leastArcOnward, Cond.selects RX0 yX0_leastArcOnward yX0_leastArcOnward, Cond.code yX0_leastArcOnward cX0_leastArcOnward 4 (some .int), Cond.methodLink RX2 160 yX1_end, Cond.methodLink RX2 146 yX2_leastOnWay, Cond.instanceMethod yX2_leastOnWay]
def wsX2_run_r5 : List Cond := [Cond.selects RX2 yX2_leastOnWay yX2_leastOnWay, Cond.code yX2_leastOnWay cX2_leastOnWay 3 (some .int), Cond.methodLink RX2 128 Lib.Math.min.name, Cond.static Lib.Math.min.name, Cond.initialized "java/lang/Math", Cond.code Lib.Math.min.name Lib.Math.min.code 2 (some .int), Cond.methodLink RX2 163 yX1_left, Cond.methodLink RX2 153 yX1_send, Cond.instanceMethod yX1_send, Cond.selects RX1 yX1_send yX1_send, Cond.code yX1_send cX1_send 3 none, Cond.methodLink RX2 85 yX0_measureFrom, Cond.instanceMethod yX0_measureFrom, Cond.selects RX0 yX0_measureFrom yX0_measureFrom, Cond.code yX0_measureFrom cX0_measureFrom 2 none]
def wsX2_run : List Cond := .code yX2_run cX2_run 4 (some .int) :: ((wsX2_run_r1 ++ (wsX2_run_r2 ++ (wsX2_run_r3 ++ (wsX2_run_r4 ++ wsX2_run_r5)))) ++ wsX20 ++ wsX00 ++ wsX10)
def wsX2_value : List Cond := .code yX2_value cX2_value 1 (some .int) :: ([.fieldLink RX2 76 "FlowProofs" "solved" "Z", .fieldLink RX2 89 "FlowProofs" "flowing" "I"] ++ wsX20)
def wsX2_cost : List Cond := .code yX2_cost cX2_cost 1 (some .long) :: ([.fieldLink RX2 76 "FlowProofs" "solved" "Z", .fieldLink RX2 27 "FlowProofs" "net" "LFlowProofs$Net;", .methodLink RX2 92 yX1_costOfFlow, .instanceMethod yX1_costOfFlow, .selects RX1 yX1_costOfFlow yX1_costOfFlow, .initialized RX1, .code yX1_costOfFlow cX1_costOfFlow 4 (some .long), .fieldLink RX1 29 "FlowProofs$Net" "edges" "I", .fieldLink RX1 26 "FlowProofs$Net" "flow" "[I", .fieldLink RX1 23 "FlowProofs$Net" "unitCost" "[I"] ++ wsX20 ++ wsX10)
def wsX2_flow : List Cond := .code yX2_flow cX2_flow 2 (some .int) :: ([.fieldLink RX2 27 "FlowProofs" "net" "LFlowProofs$Net;", .fieldLink RX2 98 "FlowProofs$Net" "flow" "[I", .methodLink RX2 95 yX1_hasEdge, .instanceMethod yX1_hasEdge, .selects RX1 yX1_hasEdge yX1_hasEdge, .initialized RX1, .code yX1_hasEdge cX1_hasEdge 2 (some .boolean), .fieldLink RX1 29 "FlowProofs$Net" "edges" "I"] ++ wsX20 ++ wsX10)
def wsX2_potential : List Cond := .code yX2_potential cX2_potential 2 (some .int) :: ([.fieldLink RX2 76 "FlowProofs" "solved" "Z", .fieldLink RX2 27 "FlowProofs" "net" "LFlowProofs$Net;", .fieldLink RX2 36 "FlowProofs" "fromSource" "LFlowProofs$Distances;", .fieldLink RX2 101 "FlowProofs$Distances" "least" "[I", .methodLink RX2 47 yX1_hasNode, .instanceMethod yX1_hasNode, .selects RX1 yX1_hasNode yX1_hasNode, .initialized RX1, .code yX1_hasNode cX1_hasNode 2 (some .boolean), .fieldLink RX1 7 "FlowProofs$Net" "nodes" "I"] ++ wsX20 ++ wsX00 ++ wsX10)
def wsX2_inCut : List Cond := .code yX2_inCut cX2_inCut 2 (some .boolean) :: ([.fieldLink RX2 76 "FlowProofs" "solved" "Z", .fieldLink RX2 27 "FlowProofs" "net" "LFlowProofs$Net;", .fieldLink RX2 36 "FlowProofs" "fromSource" "LFlowProofs$Distances;", .methodLink RX2 47 yX1_hasNode, .instanceMethod yX1_hasNode, .selects RX1 yX1_hasNode yX1_hasNode, .initialized RX1, .code yX1_hasNode cX1_hasNode 2 (some .boolean), .fieldLink RX1 7 "FlowProofs$Net" "nodes" "I", .methodLink RX2 104 yX0_reaches, .instanceMethod yX0_reaches, .selects RX0 yX0_reaches yX0_reaches, .initialized RX0, .code yX0_reaches cX0_reaches 2 (some .boolean), .fieldLink RX0 21 "FlowProofs$Distances" "least" "[I", .constant RX0 28 (2147483647)] ++ wsX20 ++ wsX10 ++ wsX00)
def wsX2_flowsFit : List Cond := .code yX2_flowsFit cX2_flowsFit 2 (some .boolean) :: ([.fieldLink RX2 27 "FlowProofs" "net" "LFlowProofs$Net;", .fieldLink RX2 122 "FlowProofs$Net" "edges" "I", .fieldLink RX2 98 "FlowProofs$Net" "flow" "[I", .fieldLink RX2 166 "FlowProofs$Net" "capacity" "[I"] ++ wsX20 ++ wsX10)
def wsX2_nodesPassOn : List Cond := .code yX2_nodesPassOn cX2_nodesPassOn 2 (some .boolean) :: ([.fieldLink RX2 27 "FlowProofs" "net" "LFlowProofs$Net;", .fieldLink RX2 119 "FlowProofs$Net" "nodes" "I", .fieldLink RX2 11 "FlowProofs" "source" "I", .fieldLink RX2 15 "FlowProofs" "sink" "I", .methodLink RX2 169 yX1_surplus, .instanceMethod yX1_surplus, .selects RX1 yX1_surplus yX1_surplus, .initialized RX1, .code yX1_surplus cX1_surplus 5 (some .long), .fieldLink RX1 29 "FlowProofs$Net" "edges" "I", .fieldLink RX1 17 "FlowProofs$Net" "to" "[I", .fieldLink RX1 26 "FlowProofs$Net" "flow" "[I", .fieldLink RX1 13 "FlowProofs$Net" "from" "[I"] ++ wsX20 ++ wsX10)
def wsX2_cutIsTight : List Cond := .code yX2_cutIsTight cX2_cutIsTight 6 (some .boolean) :: ([.fieldLink RX2 27 "FlowProofs" "net" "LFlowProofs$Net;", .fieldLink RX2 122 "FlowProofs$Net" "edges" "I", .fieldLink RX2 36 "FlowProofs" "fromSource" "LFlowProofs$Distances;", .fieldLink RX2 173 "FlowProofs$Net" "from" "[I", .fieldLink RX2 176 "FlowProofs$Net" "to" "[I", .fieldLink RX2 98 "FlowProofs$Net" "flow" "[I", .fieldLink RX2 166 "FlowProofs$Net" "capacity" "[I", .fieldLink RX2 89 "FlowProofs" "flowing" "I", .methodLink RX2 104 yX0_reaches, .instanceMethod yX0_reaches, .selects RX0 yX0_reaches yX0_reaches, .initialized RX0, .code yX0_reaches cX0_reaches 2 (some .boolean), .fieldLink RX0 21 "FlowProofs$Distances" "least" "[I", .constant RX0 28 (2147483647)] ++ wsX20 ++ wsX10 ++ wsX00)
def wsX2_potentialsHold_r1 : List Cond := [Cond.fieldLink RX2 27 "FlowProofs" "net" "LFlowProofs$Net;", Cond.fieldLink RX2 36 "FlowProofs" "fromSource" "LFlowProofs$Distances;", Cond.fieldLink RX2 101 "FlowProofs$Distances" "least" "[I", Cond.methodLink RX2 179 yX1_arcs, Cond.instanceMethod yX1_arcs, Cond.selects RX1 yX1_arcs yX1_arcs, Cond.initialized RX1, Cond.code yX1_arcs cX1_arcs 1 (some .int), Cond.fieldLink RX1 29 "FlowProofs$Net" "edges" "I", Cond.methodLink RX2 182 yX1_begin, Cond.instanceMethod yX1_begin, Cond.selects RX1 yX1_begin yX1_begin, Cond.code yX1_begin cX1_begin 2 (some .int), Cond.fieldLink RX1 17 "FlowProofs$Net" "to" "[I", Cond.fieldLink RX1 13 "FlowProofs$Net" "from" "[I", Cond.methodLink RX1 38 yX1_isBack, Cond.static yX1_isBack, Cond.code yX1_isBack cX1_isBack 1 (some .boolean), Cond.methodLink RX2 160 yX1_end, Cond.instanceMethod yX1_end, Cond.selects RX1 yX1_end yX1_end, Cond.code yX1_end cX1_end 2 (some .int), Cond.methodLink RX2 163 yX1_left, Cond.instanceMethod yX1_left]
def wsX2_potentialsHold_r2 : List Cond := [Cond.selects RX1 yX1_left yX1_left, Cond.code yX1_left cX1_left 3 (some .int), Cond.fieldLink RX1 26 "FlowProofs$Net" "flow" "[I", Cond.fieldLink RX1 20 "FlowProofs$Net" "capacity" "[I", Cond.methodLink RX2 104 yX0_reaches, Cond.instanceMethod yX0_reaches, Cond.selects RX0 yX0_reaches yX0_reaches, Cond.initialized RX0, Cond.code yX0_reaches cX0_reaches 2 (some .boolean), Cond.fieldLink RX0 21 "FlowProofs$Distances" "least" "[I", Cond.constant RX0 28 (2147483647), Cond.methodLink RX2 185 yX1_price, Cond.instanceMethod yX1_price, Cond.selects RX1 yX1_price yX1_price, Cond.code yX1_price cX1_price 2 (some .int), Cond.fieldLink RX1 23 "FlowProofs$Net" "unitCost" "[I"]
def wsX2_potentialsHold : List Cond := .code yX2_potentialsHold cX2_potentialsHold 4 (some .boolean) :: ((wsX2_potentialsHold_r1 ++ wsX2_potentialsHold_r2) ++ wsX20 ++ wsX00 ++ wsX10)
def wsX2_check_r1 : List Cond := [Cond.fieldLink RX2 76 "FlowProofs" "solved" "Z", Cond.methodLink RX2 107 yX2_flowsFit, Cond.instanceMethod yX2_flowsFit, Cond.selects RX2 yX2_flowsFit yX2_flowsFit, Cond.initialized RX2, Cond.code yX2_flowsFit cX2_flowsFit 2 (some .boolean), Cond.fieldLink RX2 27 "FlowProofs" "net" "LFlowProofs$Net;", Cond.fieldLink RX2 122 "FlowProofs$Net" "edges" "I", Cond.fieldLink RX2 98 "FlowProofs$Net" "flow" "[I", Cond.fieldLink RX2 166 "FlowProofs$Net" "capacity" "[I", Cond.methodLink RX2 110 yX2_nodesPassOn, Cond.instanceMethod yX2_nodesPassOn, Cond.selects RX2 yX2_nodesPassOn yX2_nodesPassOn, Cond.code yX2_nodesPassOn cX2_nodesPassOn 2 (some .boolean), Cond.fieldLink RX2 119 "FlowProofs$Net" "nodes" "I", Cond.fieldLink RX2 11 "FlowProofs" "source" "I", Cond.fieldLink RX2 15 "FlowProofs" "sink" "I", Cond.methodLink RX2 169 yX1_surplus, Cond.instanceMethod yX1_surplus, Cond.selects RX1 yX1_surplus yX1_surplus, Cond.initialized RX1, Cond.code yX1_surplus cX1_surplus 5 (some .long), Cond.fieldLink RX1 29 "FlowProofs$Net" "edges" "I", Cond.fieldLink RX1 17 "FlowProofs$Net" "to" "[I"]
def wsX2_check_r2 : List Cond := [Cond.fieldLink RX1 26 "FlowProofs$Net" "flow" "[I", Cond.fieldLink RX1 13 "FlowProofs$Net" "from" "[I", Cond.methodLink RX2 113 yX2_cutIsTight, Cond.instanceMethod yX2_cutIsTight, Cond.selects RX2 yX2_cutIsTight yX2_cutIsTight, Cond.code yX2_cutIsTight cX2_cutIsTight 6 (some .boolean), Cond.fieldLink RX2 36 "FlowProofs" "fromSource" "LFlowProofs$Distances;", Cond.fieldLink RX2 173 "FlowProofs$Net" "from" "[I", Cond.fieldLink RX2 176 "FlowProofs$Net" "to" "[I", Cond.fieldLink RX2 89 "FlowProofs" "flowing" "I", Cond.methodLink RX2 104 yX0_reaches, Cond.instanceMethod yX0_reaches, Cond.selects RX0 yX0_reaches yX0_reaches, Cond.initialized RX0, Cond.code yX0_reaches cX0_reaches 2 (some .boolean), Cond.fieldLink RX0 21 "FlowProofs$Distances" "least" "[I", Cond.constant RX0 28 (2147483647), Cond.methodLink RX2 116 yX2_potentialsHold, Cond.instanceMethod yX2_potentialsHold, Cond.selects RX2 yX2_potentialsHold yX2_potentialsHold, Cond.code yX2_potentialsHold cX2_potentialsHold 4 (some .boolean), Cond.fieldLink RX2 101 "FlowProofs$Distances" "least" "[I", Cond.methodLink RX2 179 yX1_arcs, Cond.instanceMethod yX1_arcs]
def wsX2_check_r3 : List Cond := [Cond.selects RX1 yX1_arcs yX1_arcs, Cond.code yX1_arcs cX1_arcs 1 (some .int), Cond.methodLink RX2 182 yX1_begin, Cond.instanceMethod yX1_begin, Cond.selects RX1 yX1_begin yX1_begin, Cond.code yX1_begin cX1_begin 2 (some .int), Cond.methodLink RX1 38 yX1_isBack, Cond.static yX1_isBack, Cond.code yX1_isBack cX1_isBack 1 (some .boolean), Cond.methodLink RX2 160 yX1_end, Cond.instanceMethod yX1_end, Cond.selects RX1 yX1_end yX1_end, Cond.code yX1_end cX1_end 2 (some .int), Cond.methodLink RX2 163 yX1_left, Cond.instanceMethod yX1_left, Cond.selects RX1 yX1_left yX1_left, Cond.code yX1_left cX1_left 3 (some .int), Cond.fieldLink RX1 20 "FlowProofs$Net" "capacity" "[I", Cond.methodLink RX2 185 yX1_price, Cond.instanceMethod yX1_price, Cond.selects RX1 yX1_price yX1_price, Cond.code yX1_price cX1_price 2 (some .int), Cond.fieldLink RX1 23 "FlowProofs$Net" "unitCost" "[I"]
def wsX2_check : List Cond := .code yX2_check cX2_check 1 (some .boolean) :: ((wsX2_check_r1 ++ (wsX2_check_r2 ++ wsX2_check_r3)) ++ wsX20 ++ wsX10 ++ wsX00)
def wsX2_next_r1 : List Cond := [Cond.fieldLink RX2 11 "FlowProofs" "source" "I", Cond.fieldLink RX2 72 "FlowProofs" "circle" "Z", Cond.fieldLink RX2 76 "FlowProofs" "solved" "Z", Cond.fieldLink RX2 40 "FlowProofs" "toSink" "LFlowProofs$Distances;", Cond.fieldLink RX2 101 "FlowProofs$Distances" "least" "[I", Cond.methodLink RX2 79 yX2_findWay, Cond.instanceMethod yX2_findWay, Cond.selects RX2 yX2_findWay yX2_findWay, Cond.initialized RX2, Cond.code yX2_findWay cX2_findWay 1 (some .boolean), Cond.fieldLink RX2 15 "FlowProofs" "sink" "I", Cond.methodLink RX2 140 yX0_measureTo, Cond.instanceMethod yX0_measureTo, Cond.selects RX0 yX0_measureTo yX0_measureTo, Cond.initialized RX0, Cond.code yX0_measureTo cX0_measureTo 2 none, Cond.methodLink RX0 29 yX0_beginAt, Cond.instanceMethod yX0_beginAt, Cond.selects RX0 yX0_beginAt yX0_beginAt, Cond.code yX0_beginAt cX0_beginAt 2 none, Cond.fieldLink RX0 21 "FlowProofs$Distances" "least" "[I", Cond.constant RX0 28 (2147483647), Cond.fieldLink RX0 25 "FlowProofs$Distances" "fewest" "[I", Cond.methodLink RX0 37 yJ7_fill_53178]
def wsX2_next_r2 : List Cond := [Cond.static yJ7_fill_53178, Cond.initialized RJ7, Cond.code yJ7_fill_53178 cJ7_fill_53178 4 none, Cond.methodLink RX0 33 yX0_settle, Cond.instanceMethod yX0_settle, Cond.selects RX0 yX0_settle yX0_settle, Cond.code yX0_settle cX0_settle 3 (some .boolean), Cond.fieldLink RX0 9 "FlowProofs$Distances" "net" "LFlowProofs$Net;", Cond.fieldLink RX0 15 "FlowProofs$Net" "nodes" "I", Cond.methodLink RX0 64 yX0_passOverArcs, Cond.instanceMethod yX0_passOverArcs, Cond.selects RX0 yX0_passOverArcs yX0_passOverArcs, Cond.code yX0_passOverArcs cX0_passOverArcs 6 (some .boolean), Cond.methodLink RX0 43 yX1_arcs, Cond.instanceMethod yX1_arcs, Cond.selects RX1 yX1_arcs yX1_arcs, Cond.initialized RX1, Cond.code yX1_arcs cX1_arcs 1 (some .int), Cond.fieldLink RX1 29 "FlowProofs$Net" "edges" "I", Cond.methodLink RX0 51 yX1_left, Cond.instanceMethod yX1_left, Cond.selects RX1 yX1_left yX1_left, Cond.code yX1_left cX1_left 3 (some .int), Cond.fieldLink RX1 26 "FlowProofs$Net" "flow" "[I"]
def wsX2_next_r3 : List Cond := [Cond.fieldLink RX1 20 "FlowProofs$Net" "capacity" "[I", Cond.methodLink RX1 38 yX1_isBack, Cond.static yX1_isBack, Cond.code yX1_isBack cX1_isBack 1 (some .boolean), Cond.methodLink RX0 54 yX1_end, Cond.instanceMethod yX1_end, Cond.selects RX1 yX1_end yX1_end, Cond.code yX1_end cX1_end 2 (some .int), Cond.fieldLink RX1 13 "FlowProofs$Net" "from" "[I", Cond.fieldLink RX1 17 "FlowProofs$Net" "to" "[I", Cond.methodLink RX0 47 yX1_begin, Cond.instanceMethod yX1_begin, Cond.selects RX1 yX1_begin yX1_begin, Cond.code yX1_begin cX1_begin 2 (some .int), Cond.methodLink RX0 57 yX0_reaches, Cond.instanceMethod yX0_reaches, Cond.selects RX0 yX0_reaches yX0_reaches, Cond.code yX0_reaches cX0_reaches 2 (some .boolean), Cond.methodLink RX0 61 yX1_price, Cond.instanceMethod yX1_price, Cond.selects RX1 yX1_price yX1_price, Cond.code yX1_price cX1_price 2 (some .int), Cond.fieldLink RX1 23 "FlowProofs$Net" "unitCost" "[I", Cond.methodLink RX0 67 yX0_shorten]
def wsX2_next_r4 : List Cond := [Cond.instanceMethod yX0_shorten, Cond.selects RX0 yX0_shorten yX0_shorten, Cond.code yX0_shorten cX0_shorten 4 (some .boolean), Cond.methodLink RX2 104 yX0_reaches]
def wsX2_next : List Cond := .code yX2_next cX2_next 1 (some .int) :: ((wsX2_next_r1 ++ (wsX2_next_r2 ++ (wsX2_next_r3 ++ wsX2_next_r4))) ++ wsX20 ++ wsX00 ++ wsX10)
def wsX2_count : List Cond := .code yX2_count cX2_count 2 (some .int) :: ([.fieldLink RX2 27 "FlowProofs" "net" "LFlowProofs$Net;", .fieldLink RX2 119 "FlowProofs$Net" "nodes" "I", .fieldLink RX2 122 "FlowProofs$Net" "edges" "I", .fieldLink RX2 125 "FlowProofs" "roundsDone" "I", .fieldLink RX2 89 "FlowProofs" "flowing" "I"] ++ wsX20 ++ wsX10)
def wsX3_init : List Cond := .code yX3_init cX3_init 3 none :: ([.methodLink RX3 1 objectInit, .instanceMethod objectInit, .code objectInit ⟨#[0xb1]⟩ 1 none, .arrayClass .int, .fieldLink RX3 7 "FlowProofsModel" "froms" "[I", .fieldLink RX3 13 "FlowProofsModel" "tos" "[I", .fieldLink RX3 16 "FlowProofsModel" "capacities" "[I", .fieldLink RX3 19 "FlowProofsModel" "costs" "[I", .fieldLink RX3 22 "FlowProofsModel" "flows" "[I", .arrayClass .long, .fieldLink RX3 25 "FlowProofsModel" "costTo" "[J", .fieldLink RX3 29 "FlowProofsModel" "arcsTo" "[I", .arrayClass .boolean, .fieldLink RX3 32 "FlowProofsModel" "hasWay" "[Z", .fieldLink RX3 36 "FlowProofsModel" "way" "[I", .fieldLink RX3 39 "FlowProofsModel" "nodes" "I", .fieldLink RX3 43 "FlowProofsModel" "most" "I"] ++ wsX30)
def wsX3_isNode : List Cond := .code yX3_isNode cX3_isNode 2 (some .boolean) :: ([.fieldLink RX3 39 "FlowProofsModel" "nodes" "I"] ++ wsX30)
def wsX3_gone : List Cond := .code yX3_gone cX3_gone 2 none :: ([.fieldLink RX3 46 "FlowProofsModel" "isSolved" "Z", .fieldLink RX3 50 "FlowProofsModel" "rounds" "I", .fieldLink RX3 53 "FlowProofsModel" "flowing" "I", .fieldLink RX3 56 "FlowProofsModel" "edges" "I", .fieldLink RX3 22 "FlowProofsModel" "flows" "[I"] ++ wsX30)
def wsX3_edge : List Cond := .code yX3_edge cX3_edge 6 (some .int) :: ([.constant RX3 63 (1000000), .fieldLink RX3 56 "FlowProofsModel" "edges" "I", .fieldLink RX3 43 "FlowProofsModel" "most" "I", .fieldLink RX3 64 "FlowProofsModel" "allCapacities" "J", .constantLong RX3 68 (1073741824), .fieldLink RX3 7 "FlowProofsModel" "froms" "[I", .fieldLink RX3 13 "FlowProofsModel" "tos" "[I", .fieldLink RX3 16 "FlowProofsModel" "capacities" "[I", .fieldLink RX3 19 "FlowProofsModel" "costs" "[I", .methodLink RX3 59 yX3_isNode, .instanceMethod yX3_isNode, .selects RX3 yX3_isNode yX3_isNode, .initialized RX3, .code yX3_isNode cX3_isNode 2 (some .boolean), .fieldLink RX3 39 "FlowProofsModel" "nodes" "I", .methodLink RX3 70 yX3_gone, .instanceMethod yX3_gone, .selects RX3 yX3_gone yX3_gone, .code yX3_gone cX3_gone 2 none, .fieldLink RX3 46 "FlowProofsModel" "isSolved" "Z", .fieldLink RX3 50 "FlowProofsModel" "rounds" "I", .fieldLink RX3 53 "FlowProofsModel" "flowing" "I", .fieldLink RX3 22 "FlowProofsModel" "flows" "[I"] ++ wsX30)
def wsX3_ends : List Cond := .code yX3_ends cX3_ends 3 (some .boolean) :: ([.fieldLink RX3 73 "FlowProofsModel" "source" "I", .fieldLink RX3 76 "FlowProofsModel" "sink" "I", .fieldLink RX3 79 "FlowProofsModel" "hasEnds" "Z", .methodLink RX3 59 yX3_isNode, .instanceMethod yX3_isNode, .selects RX3 yX3_isNode yX3_isNode, .initialized RX3, .code yX3_isNode cX3_isNode 2 (some .boolean), .fieldLink RX3 39 "FlowProofsModel" "nodes" "I", .methodLink RX3 70 yX3_gone, .instanceMethod yX3_gone, .selects RX3 yX3_gone yX3_gone, .code yX3_gone cX3_gone 2 none, .fieldLink RX3 46 "FlowProofsModel" "isSolved" "Z", .fieldLink RX3 50 "FlowProofsModel" "rounds" "I", .fieldLink RX3 53 "FlowProofsModel" "flowing" "I", .fieldLink RX3 56 "FlowProofsModel" "edges" "I", .fieldLink RX3 22 "FlowProofsModel" "flows" "[I"] ++ wsX30)
def wsX3_left : List Cond := .code yX3_left cX3_left 3 (some .int) :: ([.fieldLink RX3 16 "FlowProofsModel" "capacities" "[I", .fieldLink RX3 22 "FlowProofsModel" "flows" "[I"] ++ wsX30)
def wsX3_begin : List Cond := .code yX3_begin cX3_begin 2 (some .int) :: ([.fieldLink RX3 7 "FlowProofsModel" "froms" "[I", .fieldLink RX3 13 "FlowProofsModel" "tos" "[I"] ++ wsX30)
def wsX3_end : List Cond := .code yX3_end cX3_end 2 (some .int) :: ([.fieldLink RX3 13 "FlowProofsModel" "tos" "[I", .fieldLink RX3 7 "FlowProofsModel" "froms" "[I"] ++ wsX30)
def wsX3_costOf : List Cond := .code yX3_costOf cX3_costOf 2 (some .int) :: ([.fieldLink RX3 19 "FlowProofsModel" "costs" "[I"] ++ wsX30)
def wsX3_hasCircle : List Cond := .code yX3_hasCircle cX3_hasCircle 4 (some .boolean) :: ([.fieldLink RX3 39 "FlowProofsModel" "nodes" "I", .fieldLink RX3 25 "FlowProofsModel" "costTo" "[J", .fieldLink RX3 56 "FlowProofsModel" "edges" "I", .fieldLink RX3 16 "FlowProofsModel" "capacities" "[I", .fieldLink RX3 7 "FlowProofsModel" "froms" "[I", .fieldLink RX3 19 "FlowProofsModel" "costs" "[I", .fieldLink RX3 13 "FlowProofsModel" "tos" "[I"] ++ wsX30)
def wsX3_findWays_r1 : List Cond := [Cond.fieldLink RX3 39 "FlowProofsModel" "nodes" "I", Cond.fieldLink RX3 32 "FlowProofsModel" "hasWay" "[Z", Cond.fieldLink RX3 76 "FlowProofsModel" "sink" "I", Cond.fieldLink RX3 25 "FlowProofsModel" "costTo" "[J", Cond.fieldLink RX3 29 "FlowProofsModel" "arcsTo" "[I", Cond.fieldLink RX3 56 "FlowProofsModel" "edges" "I", Cond.fieldLink RX3 73 "FlowProofsModel" "source" "I", Cond.methodLink RX3 82 yX3_begin, Cond.instanceMethod yX3_begin, Cond.selects RX3 yX3_begin yX3_begin, Cond.initialized RX3, Cond.code yX3_begin cX3_begin 2 (some .int), Cond.fieldLink RX3 7 "FlowProofsModel" "froms" "[I", Cond.fieldLink RX3 13 "FlowProofsModel" "tos" "[I", Cond.methodLink RX3 86 yX3_end, Cond.instanceMethod yX3_end, Cond.selects RX3 yX3_end yX3_end, Cond.code yX3_end cX3_end 2 (some .int), Cond.methodLink RX3 89 yX3_left, Cond.instanceMethod yX3_left, Cond.selects RX3 yX3_left yX3_left, Cond.code yX3_left cX3_left 3 (some .int), Cond.fieldLink RX3 16 "FlowProofsModel" "capacities" "[I", Cond.fieldLink RX3 22 "FlowProofsModel" "flows" "[I"]
def wsX3_findWays_r2 : List Cond := [Cond.methodLink RX3 92 yX3_costOf, Cond.instanceMethod yX3_costOf, Cond.selects RX3 yX3_costOf yX3_costOf, Cond.code yX3_costOf cX3_costOf 2 (some .int), Cond.fieldLink RX3 19 "FlowProofsModel" "costs" "[I"]
def wsX3_findWays : List Cond := .code yX3_findWays cX3_findWays 8 (some .boolean) :: ((wsX3_findWays_r1 ++ wsX3_findWays_r2) ++ wsX30)
def wsX3_nextArc_r1 : List Cond := [Cond.fieldLink RX3 56 "FlowProofsModel" "edges" "I", Cond.fieldLink RX3 32 "FlowProofsModel" "hasWay" "[Z", Cond.fieldLink RX3 25 "FlowProofsModel" "costTo" "[J", Cond.fieldLink RX3 29 "FlowProofsModel" "arcsTo" "[I", Cond.methodLink RX3 86 yX3_end, Cond.instanceMethod yX3_end, Cond.selects RX3 yX3_end yX3_end, Cond.initialized RX3, Cond.code yX3_end cX3_end 2 (some .int), Cond.fieldLink RX3 13 "FlowProofsModel" "tos" "[I", Cond.fieldLink RX3 7 "FlowProofsModel" "froms" "[I", Cond.methodLink RX3 82 yX3_begin, Cond.instanceMethod yX3_begin, Cond.selects RX3 yX3_begin yX3_begin, Cond.code yX3_begin cX3_begin 2 (some .int), Cond.methodLink RX3 89 yX3_left, Cond.instanceMethod yX3_left, Cond.selects RX3 yX3_left yX3_left, Cond.code yX3_left cX3_left 3 (some .int), Cond.fieldLink RX3 16 "FlowProofsModel" "capacities" "[I", Cond.fieldLink RX3 22 "FlowProofsModel" "flows" "[I", Cond.methodLink RX3 92 yX3_costOf, Cond.instanceMethod yX3_costOf, Cond.selects RX3 yX3_costOf yX3_costOf]
def wsX3_nextArc_r2 : List Cond := [Cond.code yX3_costOf cX3_costOf 2 (some .int), Cond.fieldLink RX3 19 "FlowProofsModel" "costs" "[I"]
def wsX3_nextArc : List Cond := .code yX3_nextArc cX3_nextArc 4 (some .int) :: ((wsX3_nextArc_r1 ++ wsX3_nextArc_r2) ++ wsX30)
def wsX3_round_r1 : List Cond := [Cond.constant RX3 95 (2147483647), Cond.fieldLink RX3 73 "FlowProofsModel" "source" "I", Cond.fieldLink RX3 76 "FlowProofsModel" "sink" "I", Cond.fieldLink RX3 29 "FlowProofsModel" "arcsTo" "[I", Cond.fieldLink RX3 36 "FlowProofsModel" "way" "[I", Cond.fieldLink RX3 22 "FlowProofsModel" "flows" "[I", Cond.fieldLink RX3 53 "FlowProofsModel" "flowing" "I", Cond.fieldLink RX3 50 "FlowProofsModel" "rounds" "I", Cond.methodLink RX3 96 yX3_nextArc, Cond.instanceMethod yX3_nextArc, Cond.selects RX3 yX3_nextArc yX3_nextArc, Cond.initialized RX3, Cond.code yX3_nextArc cX3_nextArc 4 (some .int), Cond.fieldLink RX3 56 "FlowProofsModel" "edges" "I", Cond.fieldLink RX3 32 "FlowProofsModel" "hasWay" "[Z", Cond.fieldLink RX3 25 "FlowProofsModel" "costTo" "[J", Cond.methodLink RX3 86 yX3_end, Cond.instanceMethod yX3_end, Cond.selects RX3 yX3_end yX3_end, Cond.code yX3_end cX3_end 2 (some .int), Cond.fieldLink RX3 13 "FlowProofsModel" "tos" "[I", Cond.fieldLink RX3 7 "FlowProofsModel" "froms" "[I", Cond.methodLink RX3 82 yX3_begin, Cond.instanceMethod yX3_begin]
def wsX3_round_r2 : List Cond := [Cond.selects RX3 yX3_begin yX3_begin, Cond.code yX3_begin cX3_begin 2 (some .int), Cond.methodLink RX3 89 yX3_left, Cond.instanceMethod yX3_left, Cond.selects RX3 yX3_left yX3_left, Cond.code yX3_left cX3_left 3 (some .int), Cond.fieldLink RX3 16 "FlowProofsModel" "capacities" "[I", Cond.methodLink RX3 92 yX3_costOf, Cond.instanceMethod yX3_costOf, Cond.selects RX3 yX3_costOf yX3_costOf, Cond.code yX3_costOf cX3_costOf 2 (some .int), Cond.fieldLink RX3 19 "FlowProofsModel" "costs" "[I"]
def wsX3_round : List Cond := .code yX3_round cX3_round 5 none :: ((wsX3_round_r1 ++ wsX3_round_r2) ++ wsX30)
def wsX3_run_r1 : List Cond := [Cond.fieldLink RX3 79 "FlowProofsModel" "hasEnds" "Z", Cond.fieldLink RX3 46 "FlowProofsModel" "isSolved" "Z", Cond.methodLink RX3 99 yX3_hasCircle, Cond.instanceMethod yX3_hasCircle, Cond.selects RX3 yX3_hasCircle yX3_hasCircle, Cond.initialized RX3, Cond.code yX3_hasCircle cX3_hasCircle 4 (some .boolean), Cond.fieldLink RX3 39 "FlowProofsModel" "nodes" "I", Cond.fieldLink RX3 25 "FlowProofsModel" "costTo" "[J", Cond.fieldLink RX3 56 "FlowProofsModel" "edges" "I", Cond.fieldLink RX3 16 "FlowProofsModel" "capacities" "[I", Cond.fieldLink RX3 7 "FlowProofsModel" "froms" "[I", Cond.fieldLink RX3 19 "FlowProofsModel" "costs" "[I", Cond.fieldLink RX3 13 "FlowProofsModel" "tos" "[I", Cond.methodLink RX3 103 yX3_findWays, Cond.instanceMethod yX3_findWays, Cond.selects RX3 yX3_findWays yX3_findWays, Cond.code yX3_findWays cX3_findWays 8 (some .boolean), Cond.fieldLink RX3 32 "FlowProofsModel" "hasWay" "[Z", Cond.fieldLink RX3 76 "FlowProofsModel" "sink" "I", Cond.fieldLink RX3 29 "FlowProofsModel" "arcsTo" "[I", Cond.fieldLink RX3 73 "FlowProofsModel" "source" "I", Cond.methodLink RX3 82 yX3_begin, Cond.instanceMethod yX3_begin]
def wsX3_run_r2 : List Cond := [Cond.selects RX3 yX3_begin yX3_begin, Cond.code yX3_begin cX3_begin 2 (some .int), Cond.methodLink RX3 86 yX3_end, Cond.instanceMethod yX3_end, Cond.selects RX3 yX3_end yX3_end, Cond.code yX3_end cX3_end 2 (some .int), Cond.methodLink RX3 89 yX3_left, Cond.instanceMethod yX3_left, Cond.selects RX3 yX3_left yX3_left, Cond.code yX3_left cX3_left 3 (some .int), Cond.fieldLink RX3 22 "FlowProofsModel" "flows" "[I", Cond.methodLink RX3 92 yX3_costOf, Cond.instanceMethod yX3_costOf, Cond.selects RX3 yX3_costOf yX3_costOf, Cond.code yX3_costOf cX3_costOf 2 (some .int), Cond.methodLink RX3 106 yX3_round, Cond.instanceMethod yX3_round, Cond.selects RX3 yX3_round yX3_round, Cond.code yX3_round cX3_round 5 none, Cond.constant RX3 95 (2147483647), Cond.fieldLink RX3 36 "FlowProofsModel" "way" "[I", Cond.fieldLink RX3 53 "FlowProofsModel" "flowing" "I", Cond.fieldLink RX3 50 "FlowProofsModel" "rounds" "I", Cond.methodLink RX3 96 yX3_nextArc]
def wsX3_run_r3 : List Cond := [Cond.instanceMethod yX3_nextArc, Cond.selects RX3 yX3_nextArc yX3_nextArc, Cond.code yX3_nextArc cX3_nextArc 4 (some .int)]
def wsX3_run : List Cond := .code yX3_run cX3_run 4 (some .int) :: ((wsX3_run_r1 ++ (wsX3_run_r2 ++ wsX3_run_r3)) ++ wsX30)
def wsX3_value : List Cond := .code yX3_value cX3_value 1 (some .int) :: ([.fieldLink RX3 46 "FlowProofsModel" "isSolved" "Z", .fieldLink RX3 53 "FlowProofsModel" "flowing" "I"] ++ wsX30)
def wsX3_cost : List Cond := .code yX3_cost cX3_cost 4 (some .long) :: ([.fieldLink RX3 56 "FlowProofsModel" "edges" "I", .fieldLink RX3 46 "FlowProofsModel" "isSolved" "Z", .fieldLink RX3 22 "FlowProofsModel" "flows" "[I", .fieldLink RX3 19 "FlowProofsModel" "costs" "[I"] ++ wsX30)
def wsX3_flow : List Cond := .code yX3_flow cX3_flow 2 (some .int) :: ([.fieldLink RX3 56 "FlowProofsModel" "edges" "I", .fieldLink RX3 22 "FlowProofsModel" "flows" "[I"] ++ wsX30)
def wsX3_findCosts_r1 : List Cond := [Cond.fieldLink RX3 39 "FlowProofsModel" "nodes" "I", Cond.fieldLink RX3 32 "FlowProofsModel" "hasWay" "[Z", Cond.fieldLink RX3 73 "FlowProofsModel" "source" "I", Cond.fieldLink RX3 25 "FlowProofsModel" "costTo" "[J", Cond.fieldLink RX3 56 "FlowProofsModel" "edges" "I", Cond.methodLink RX3 82 yX3_begin, Cond.instanceMethod yX3_begin, Cond.selects RX3 yX3_begin yX3_begin, Cond.initialized RX3, Cond.code yX3_begin cX3_begin 2 (some .int), Cond.fieldLink RX3 7 "FlowProofsModel" "froms" "[I", Cond.fieldLink RX3 13 "FlowProofsModel" "tos" "[I", Cond.methodLink RX3 86 yX3_end, Cond.instanceMethod yX3_end, Cond.selects RX3 yX3_end yX3_end, Cond.code yX3_end cX3_end 2 (some .int), Cond.methodLink RX3 89 yX3_left, Cond.instanceMethod yX3_left, Cond.selects RX3 yX3_left yX3_left, Cond.code yX3_left cX3_left 3 (some .int), Cond.fieldLink RX3 16 "FlowProofsModel" "capacities" "[I", Cond.fieldLink RX3 22 "FlowProofsModel" "flows" "[I", Cond.methodLink RX3 92 yX3_costOf, Cond.instanceMethod yX3_costOf]
def wsX3_findCosts_r2 : List Cond := [Cond.selects RX3 yX3_costOf yX3_costOf, Cond.code yX3_costOf cX3_costOf 2 (some .int), Cond.fieldLink RX3 19 "FlowProofsModel" "costs" "[I"]
def wsX3_findCosts : List Cond := .code yX3_findCosts cX3_findCosts 5 none :: ((wsX3_findCosts_r1 ++ wsX3_findCosts_r2) ++ wsX30)
def wsX3_potential_r1 : List Cond := [Cond.fieldLink RX3 46 "FlowProofsModel" "isSolved" "Z", Cond.fieldLink RX3 32 "FlowProofsModel" "hasWay" "[Z", Cond.fieldLink RX3 25 "FlowProofsModel" "costTo" "[J", Cond.constant RX3 95 (2147483647), Cond.methodLink RX3 59 yX3_isNode, Cond.instanceMethod yX3_isNode, Cond.selects RX3 yX3_isNode yX3_isNode, Cond.initialized RX3, Cond.code yX3_isNode cX3_isNode 2 (some .boolean), Cond.fieldLink RX3 39 "FlowProofsModel" "nodes" "I", Cond.methodLink RX3 109 yX3_findCosts, Cond.instanceMethod yX3_findCosts, Cond.selects RX3 yX3_findCosts yX3_findCosts, Cond.code yX3_findCosts cX3_findCosts 5 none, Cond.fieldLink RX3 73 "FlowProofsModel" "source" "I", Cond.fieldLink RX3 56 "FlowProofsModel" "edges" "I", Cond.methodLink RX3 82 yX3_begin, Cond.instanceMethod yX3_begin, Cond.selects RX3 yX3_begin yX3_begin, Cond.code yX3_begin cX3_begin 2 (some .int), Cond.fieldLink RX3 7 "FlowProofsModel" "froms" "[I", Cond.fieldLink RX3 13 "FlowProofsModel" "tos" "[I", Cond.methodLink RX3 86 yX3_end, Cond.instanceMethod yX3_end]
def wsX3_potential_r2 : List Cond := [Cond.selects RX3 yX3_end yX3_end, Cond.code yX3_end cX3_end 2 (some .int), Cond.methodLink RX3 89 yX3_left, Cond.instanceMethod yX3_left, Cond.selects RX3 yX3_left yX3_left, Cond.code yX3_left cX3_left 3 (some .int), Cond.fieldLink RX3 16 "FlowProofsModel" "capacities" "[I", Cond.fieldLink RX3 22 "FlowProofsModel" "flows" "[I", Cond.methodLink RX3 92 yX3_costOf, Cond.instanceMethod yX3_costOf, Cond.selects RX3 yX3_costOf yX3_costOf, Cond.code yX3_costOf cX3_costOf 2 (some .int), Cond.fieldLink RX3 19 "FlowProofsModel" "costs" "[I"]
def wsX3_potential : List Cond := .code yX3_potential cX3_potential 2 (some .int) :: ((wsX3_potential_r1 ++ wsX3_potential_r2) ++ wsX30)
def wsX3_inCut_r1 : List Cond := [Cond.fieldLink RX3 46 "FlowProofsModel" "isSolved" "Z", Cond.fieldLink RX3 32 "FlowProofsModel" "hasWay" "[Z", Cond.methodLink RX3 59 yX3_isNode, Cond.instanceMethod yX3_isNode, Cond.selects RX3 yX3_isNode yX3_isNode, Cond.initialized RX3, Cond.code yX3_isNode cX3_isNode 2 (some .boolean), Cond.fieldLink RX3 39 "FlowProofsModel" "nodes" "I", Cond.methodLink RX3 109 yX3_findCosts, Cond.instanceMethod yX3_findCosts, Cond.selects RX3 yX3_findCosts yX3_findCosts, Cond.code yX3_findCosts cX3_findCosts 5 none, Cond.fieldLink RX3 73 "FlowProofsModel" "source" "I", Cond.fieldLink RX3 25 "FlowProofsModel" "costTo" "[J", Cond.fieldLink RX3 56 "FlowProofsModel" "edges" "I", Cond.methodLink RX3 82 yX3_begin, Cond.instanceMethod yX3_begin, Cond.selects RX3 yX3_begin yX3_begin, Cond.code yX3_begin cX3_begin 2 (some .int), Cond.fieldLink RX3 7 "FlowProofsModel" "froms" "[I", Cond.fieldLink RX3 13 "FlowProofsModel" "tos" "[I", Cond.methodLink RX3 86 yX3_end, Cond.instanceMethod yX3_end, Cond.selects RX3 yX3_end yX3_end]
def wsX3_inCut_r2 : List Cond := [Cond.code yX3_end cX3_end 2 (some .int), Cond.methodLink RX3 89 yX3_left, Cond.instanceMethod yX3_left, Cond.selects RX3 yX3_left yX3_left, Cond.code yX3_left cX3_left 3 (some .int), Cond.fieldLink RX3 16 "FlowProofsModel" "capacities" "[I", Cond.fieldLink RX3 22 "FlowProofsModel" "flows" "[I", Cond.methodLink RX3 92 yX3_costOf, Cond.instanceMethod yX3_costOf, Cond.selects RX3 yX3_costOf yX3_costOf, Cond.code yX3_costOf cX3_costOf 2 (some .int), Cond.fieldLink RX3 19 "FlowProofsModel" "costs" "[I"]
def wsX3_inCut : List Cond := .code yX3_inCut cX3_inCut 2 (some .boolean) :: ((wsX3_inCut_r1 ++ wsX3_inCut_r2) ++ wsX30)
def wsX3_check_r1 : List Cond := [Cond.fieldLink RX3 46 "FlowProofsModel" "isSolved" "Z", Cond.fieldLink RX3 56 "FlowProofsModel" "edges" "I", Cond.fieldLink RX3 22 "FlowProofsModel" "flows" "[I", Cond.fieldLink RX3 16 "FlowProofsModel" "capacities" "[I", Cond.fieldLink RX3 32 "FlowProofsModel" "hasWay" "[Z", Cond.fieldLink RX3 7 "FlowProofsModel" "froms" "[I", Cond.fieldLink RX3 13 "FlowProofsModel" "tos" "[I", Cond.fieldLink RX3 39 "FlowProofsModel" "nodes" "I", Cond.fieldLink RX3 73 "FlowProofsModel" "source" "I", Cond.fieldLink RX3 76 "FlowProofsModel" "sink" "I", Cond.fieldLink RX3 25 "FlowProofsModel" "costTo" "[J", Cond.fieldLink RX3 53 "FlowProofsModel" "flowing" "I", Cond.methodLink RX3 109 yX3_findCosts, Cond.instanceMethod yX3_findCosts, Cond.selects RX3 yX3_findCosts yX3_findCosts, Cond.initialized RX3, Cond.code yX3_findCosts cX3_findCosts 5 none, Cond.methodLink RX3 82 yX3_begin, Cond.instanceMethod yX3_begin, Cond.selects RX3 yX3_begin yX3_begin, Cond.code yX3_begin cX3_begin 2 (some .int), Cond.methodLink RX3 86 yX3_end, Cond.instanceMethod yX3_end, Cond.selects RX3 yX3_end yX3_end]
def wsX3_check_r2 : List Cond := [Cond.code yX3_end cX3_end 2 (some .int), Cond.methodLink RX3 89 yX3_left, Cond.instanceMethod yX3_left, Cond.selects RX3 yX3_left yX3_left, Cond.code yX3_left cX3_left 3 (some .int), Cond.methodLink RX3 92 yX3_costOf, Cond.instanceMethod yX3_costOf, Cond.selects RX3 yX3_costOf yX3_costOf, Cond.code yX3_costOf cX3_costOf 2 (some .int), Cond.fieldLink RX3 19 "FlowProofsModel" "costs" "[I"]
def wsX3_check : List Cond := .code yX3_check cX3_check 8 (some .boolean) :: ((wsX3_check_r1 ++ wsX3_check_r2) ++ wsX30)
def wsX3_next_r1 : List Cond := [Cond.fieldLink RX3 79 "FlowProofsModel" "hasEnds" "Z", Cond.fieldLink RX3 46 "FlowProofsModel" "isSolved" "Z", Cond.fieldLink RX3 25 "FlowProofsModel" "costTo" "[J", Cond.fieldLink RX3 73 "FlowProofsModel" "source" "I", Cond.methodLink RX3 99 yX3_hasCircle, Cond.instanceMethod yX3_hasCircle, Cond.selects RX3 yX3_hasCircle yX3_hasCircle, Cond.initialized RX3, Cond.code yX3_hasCircle cX3_hasCircle 4 (some .boolean), Cond.fieldLink RX3 39 "FlowProofsModel" "nodes" "I", Cond.fieldLink RX3 56 "FlowProofsModel" "edges" "I", Cond.fieldLink RX3 16 "FlowProofsModel" "capacities" "[I", Cond.fieldLink RX3 7 "FlowProofsModel" "froms" "[I", Cond.fieldLink RX3 19 "FlowProofsModel" "costs" "[I", Cond.fieldLink RX3 13 "FlowProofsModel" "tos" "[I", Cond.methodLink RX3 103 yX3_findWays, Cond.instanceMethod yX3_findWays, Cond.selects RX3 yX3_findWays yX3_findWays, Cond.code yX3_findWays cX3_findWays 8 (some .boolean), Cond.fieldLink RX3 32 "FlowProofsModel" "hasWay" "[Z", Cond.fieldLink RX3 76 "FlowProofsModel" "sink" "I", Cond.fieldLink RX3 29 "FlowProofsModel" "arcsTo" "[I", Cond.methodLink RX3 82 yX3_begin, Cond.instanceMethod yX3_begin]
def wsX3_next_r2 : List Cond := [Cond.selects RX3 yX3_begin yX3_begin, Cond.code yX3_begin cX3_begin 2 (some .int), Cond.methodLink RX3 86 yX3_end, Cond.instanceMethod yX3_end, Cond.selects RX3 yX3_end yX3_end, Cond.code yX3_end cX3_end 2 (some .int), Cond.methodLink RX3 89 yX3_left, Cond.instanceMethod yX3_left, Cond.selects RX3 yX3_left yX3_left, Cond.code yX3_left cX3_left 3 (some .int), Cond.fieldLink RX3 22 "FlowProofsModel" "flows" "[I", Cond.methodLink RX3 92 yX3_costOf, Cond.instanceMethod yX3_costOf, Cond.selects RX3 yX3_costOf yX3_costOf, Cond.code yX3_costOf cX3_costOf 2 (some .int)]
def wsX3_next : List Cond := .code yX3_next cX3_next 1 (some .int) :: ((wsX3_next_r1 ++ wsX3_next_r2) ++ wsX30)
def wsX3_count : List Cond := .code yX3_count cX3_count 2 (some .int) :: ([.fieldLink RX3 39 "FlowProofsModel" "nodes" "I", .fieldLink RX3 56 "FlowProofsModel" "edges" "I", .fieldLink RX3 50 "FlowProofsModel" "rounds" "I", .fieldLink RX3 53 "FlowProofsModel" "flowing" "I"] ++ wsX30)
def wsJ9_max_7cf53 : List Cond := .code yJ9_max_7cf53 cJ9_max_7cf53 2 (some .int) :: ([])
def wsJ9_min_7cf53 : List Cond := .code yJ9_min_7cf53 cJ9_min_7cf53 2 (some .int) :: ([])
def wsL_cell : List Cond := .code yL_cell cL_cell 2 (some .int) :: ([])
def wsL_law_r1 : List Cond := [Cond.classLink RL 7 RX2, Cond.instantiable RX2 11, Cond.initialized RX2, Cond.classLink RL 18 RX3, Cond.instantiable RX3 19, Cond.initialized RX3, Cond.methodLink RL 9 yL_cell, Cond.static yL_cell, Cond.initialized RL, Cond.code yL_cell cL_cell 2 (some .int), Cond.methodLink RL 15 yX2_init, Cond.instanceMethod yX2_init, Cond.code yX2_init cX2_init 4 none, Cond.methodLink RX2 3 objectInit, Cond.instanceMethod objectInit, Cond.code objectInit ⟨#[0xb1]⟩ 1 none, Cond.fieldLink RX2 11 "FlowProofs" "source" "I", Cond.fieldLink RX2 15 "FlowProofs" "sink" "I", Cond.classLink RX2 22 RX1, Cond.instantiable RX1 7, Cond.initialized RX1, Cond.fieldLink RX2 27 "FlowProofs" "net" "LFlowProofs$Net;", Cond.classLink RX2 31 RX0, Cond.instantiable RX0 3]
def wsL_law_r2 : List Cond := [Cond.initialized RX0, Cond.fieldLink RX2 36 "FlowProofs" "fromSource" "LFlowProofs$Distances;", Cond.fieldLink RX2 40 "FlowProofs" "toSink" "LFlowProofs$Distances;", Cond.arrayClass .int, Cond.fieldLink RX2 43 "FlowProofs" "way" "[I", Cond.methodLink RX2 18 yX2_within, Cond.static yX2_within, Cond.code yX2_within cX2_within 3 (some .int), Cond.methodLink RX2 128 Lib.Math.min.name, Cond.static Lib.Math.min.name, Cond.initialized "java/lang/Math", Cond.code Lib.Math.min.name Lib.Math.min.code 2 (some .int), Cond.methodLink RX2 134 Lib.Math.max.name, Cond.static Lib.Math.max.name, Cond.code Lib.Math.max.name Lib.Math.max.code 2 (some .int), Cond.methodLink RX2 24 yX1_init, Cond.instanceMethod yX1_init, Cond.code yX1_init cX1_init 3 none, Cond.methodLink RX1 1 objectInit, Cond.fieldLink RX1 7 "FlowProofs$Net" "nodes" "I", Cond.fieldLink RX1 13 "FlowProofs$Net" "from" "[I", Cond.fieldLink RX1 17 "FlowProofs$Net" "to" "[I", Cond.fieldLink RX1 20 "FlowProofs$Net" "capacity" "[I", Cond.fieldLink RX1 23 "FlowProofs$Net" "unitCost" "[I"]
def wsL_law_r3 : List Cond := [Cond.fieldLink RX1 26 "FlowProofs$Net" "flow" "[I", Cond.methodLink RX2 33 yX0_init, Cond.instanceMethod yX0_init, Cond.code yX0_init cX0_init 2 none, Cond.methodLink RX0 3 objectInit, Cond.fieldLink RX0 9 "FlowProofs$Distances" "net" "LFlowProofs$Net;", Cond.fieldLink RX0 15 "FlowProofs$Net" "nodes" "I", Cond.fieldLink RX0 21 "FlowProofs$Distances" "least" "[I", Cond.fieldLink RX0 25 "FlowProofs$Distances" "fewest" "[I", Cond.methodLink RL 20 yX3_init, Cond.instanceMethod yX3_init, Cond.code yX3_init cX3_init 3 none, Cond.methodLink RX3 1 objectInit, Cond.fieldLink RX3 7 "FlowProofsModel" "froms" "[I", Cond.fieldLink RX3 13 "FlowProofsModel" "tos" "[I", Cond.fieldLink RX3 16 "FlowProofsModel" "capacities" "[I", Cond.fieldLink RX3 19 "FlowProofsModel" "costs" "[I", Cond.fieldLink RX3 22 "FlowProofsModel" "flows" "[I", Cond.arrayClass .long, Cond.fieldLink RX3 25 "FlowProofsModel" "costTo" "[J", Cond.fieldLink RX3 29 "FlowProofsModel" "arcsTo" "[I", Cond.arrayClass .boolean, Cond.fieldLink RX3 32 "FlowProofsModel" "hasWay" "[Z", Cond.fieldLink RX3 36 "FlowProofsModel" "way" "[I"]
def wsL_law_r4 : List Cond := [Cond.fieldLink RX3 39 "FlowProofsModel" "nodes" "I", Cond.fieldLink RX3 43 "FlowProofsModel" "most" "I", Cond.methodLink RL 21 yX2_edge, Cond.instanceMethod yX2_edge, Cond.selects RX2 yX2_edge yX2_edge, Cond.code yX2_edge cX2_edge 6 (some .int), Cond.constant RX2 51 (1000000), Cond.constantLong RX2 60 (1073741824), Cond.fieldLink RX2 72 "FlowProofs" "circle" "Z", Cond.methodLink RX2 47 yX1_hasNode, Cond.instanceMethod yX1_hasNode, Cond.selects RX1 yX1_hasNode yX1_hasNode, Cond.code yX1_hasNode cX1_hasNode 2 (some .boolean), Cond.methodLink RX2 52 yX1_isFull, Cond.instanceMethod yX1_isFull, Cond.selects RX1 yX1_isFull yX1_isFull, Cond.code yX1_isFull cX1_isFull 1 (some .boolean), Cond.fieldLink RX1 29 "FlowProofs$Net" "edges" "I", Cond.methodLink RX2 56 yX1_capacityInAll, Cond.instanceMethod yX1_capacityInAll, Cond.selects RX1 yX1_capacityInAll yX1_capacityInAll, Cond.code yX1_capacityInAll cX1_capacityInAll 4 (some .long), Cond.methodLink RX2 62 yX2_forgetSolving, Cond.instanceMethod yX2_forgetSolving]
def wsL_law_r5 : List Cond := [Cond.selects RX2 yX2_forgetSolving yX2_forgetSolving, Cond.code yX2_forgetSolving cX2_forgetSolving 1 none, Cond.fieldLink RX2 76 "FlowProofs" "solved" "Z", Cond.fieldLink RX2 125 "FlowProofs" "roundsDone" "I", Cond.fieldLink RX2 89 "FlowProofs" "flowing" "I", Cond.methodLink RX2 137 yX1_clearFlow, Cond.instanceMethod yX1_clearFlow, Cond.selects RX1 yX1_clearFlow yX1_clearFlow, Cond.code yX1_clearFlow cX1_clearFlow 1 none, Cond.methodLink RX1 32 yJ7_fill_53178, Cond.static yJ7_fill_53178, Cond.initialized RJ7, Cond.code yJ7_fill_53178 cJ7_fill_53178 4 none, Cond.methodLink RX2 65 yX1_add, Cond.instanceMethod yX1_add, Cond.selects RX1 yX1_add yX1_add, Cond.code yX1_add cX1_add 6 (some .int), Cond.methodLink RX2 69 yX0_settlesFromEverywhere, Cond.instanceMethod yX0_settlesFromEverywhere, Cond.selects RX0 yX0_settlesFromEverywhere yX0_settlesFromEverywhere, Cond.code yX0_settlesFromEverywhere cX0_settlesFromEverywhere 1 (some .boolean), Cond.methodLink RX0 37 yJ7_fill_53178, Cond.methodLink RX0 33 yX0_settle, Cond.instanceMethod yX0_settle]
def wsL_law_r6 : List Cond := [Cond.selects RX0 yX0_settle yX0_settle, Cond.code yX0_settle cX0_settle 3 (some .boolean), Cond.methodLink RX0 64 yX0_passOverArcs, Cond.instanceMethod yX0_passOverArcs, Cond.selects RX0 yX0_passOverArcs yX0_passOverArcs, Cond.code yX0_passOverArcs cX0_passOverArcs 6 (some .boolean), Cond.methodLink RX0 43 yX1_arcs, Cond.instanceMethod yX1_arcs, Cond.selects RX1 yX1_arcs yX1_arcs, Cond.code yX1_arcs cX1_arcs 1 (some .int), Cond.methodLink RX0 51 yX1_left, Cond.instanceMethod yX1_left, Cond.selects RX1 yX1_left yX1_left, Cond.code yX1_left cX1_left 3 (some .int), Cond.methodLink RX1 38 yX1_isBack, Cond.static yX1_isBack, Cond.code yX1_isBack cX1_isBack 1 (some .boolean), Cond.methodLink RX0 54 yX1_end, Cond.instanceMethod yX1_end, Cond.selects RX1 yX1_end yX1_end, Cond.code yX1_end cX1_end 2 (some .int), Cond.methodLink RX0 47 yX1_begin, Cond.instanceMethod yX1_begin, Cond.selects RX1 yX1_begin yX1_begin]
def wsL_law_r7 : List Cond := [Cond.code yX1_begin cX1_begin 2 (some .int), Cond.methodLink RX0 57 yX0_reaches, Cond.instanceMethod yX0_reaches, Cond.selects RX0 yX0_reaches yX0_reaches, Cond.code yX0_reaches cX0_reaches 2 (some .boolean), Cond.constant RX0 28 (2147483647), Cond.methodLink RX0 61 yX1_price, Cond.instanceMethod yX1_price, Cond.selects RX1 yX1_price yX1_price, Cond.code yX1_price cX1_price 2 (some .int), Cond.methodLink RX0 67 yX0_shorten, Cond.instanceMethod yX0_shorten, Cond.selects RX0 yX0_shorten yX0_shorten, Cond.code yX0_shorten cX0_shorten 4 (some .boolean), Cond.methodLink RL 25 yX3_edge, Cond.instanceMethod yX3_edge, Cond.selects RX3 yX3_edge yX3_edge, Cond.code yX3_edge cX3_edge 6 (some .int), Cond.constant RX3 63 (1000000), Cond.fieldLink RX3 56 "FlowProofsModel" "edges" "I", Cond.fieldLink RX3 64 "FlowProofsModel" "allCapacities" "J", Cond.constantLong RX3 68 (1073741824), Cond.methodLink RX3 59 yX3_isNode, Cond.instanceMethod yX3_isNode]
def wsL_law_r8 : List Cond := [Cond.selects RX3 yX3_isNode yX3_isNode, Cond.code yX3_isNode cX3_isNode 2 (some .boolean), Cond.methodLink RX3 70 yX3_gone, Cond.instanceMethod yX3_gone, Cond.selects RX3 yX3_gone yX3_gone, Cond.code yX3_gone cX3_gone 2 none, Cond.fieldLink RX3 46 "FlowProofsModel" "isSolved" "Z", Cond.fieldLink RX3 50 "FlowProofsModel" "rounds" "I", Cond.fieldLink RX3 53 "FlowProofsModel" "flowing" "I", Cond.methodLink RL 26 yX2_ends, Cond.instanceMethod yX2_ends, Cond.selects RX2 yX2_ends yX2_ends, Cond.code yX2_ends cX2_ends 3 (some .boolean), Cond.methodLink RL 30 yX3_ends, Cond.instanceMethod yX3_ends, Cond.selects RX3 yX3_ends yX3_ends, Cond.code yX3_ends cX3_ends 3 (some .boolean), Cond.fieldLink RX3 73 "FlowProofsModel" "source" "I", Cond.fieldLink RX3 76 "FlowProofsModel" "sink" "I", Cond.fieldLink RX3 79 "FlowProofsModel" "hasEnds" "Z", Cond.methodLink RL 31 yX2_run, Cond.instanceMethod yX2_run, Cond.selects RX2 yX2_run yX2_run, Cond.code yX2_run cX2_run 4 (some .int)]
def wsL_law_r9 : List Cond := [Cond.methodLink RX2 79 yX2_findWay, Cond.instanceMethod yX2_findWay, Cond.selects RX2 yX2_findWay yX2_findWay, Cond.code yX2_findWay cX2_findWay 1 (some .boolean), Cond.methodLink RX2 140 yX0_measureTo, Cond.instanceMethod yX0_measureTo, Cond.selects RX0 yX0_measureTo yX0_measureTo, Cond.code yX0_measureTo cX0_measureTo 2 none, Cond.methodLink RX0 29 yX0_beginAt, Cond.instanceMethod yX0_beginAt, Cond.selects RX0 yX0_beginAt yX0_beginAt, Cond.code yX0_beginAt cX0_beginAt 2 none, Cond.methodLink RX2 104 yX0_reaches, Cond.methodLink RX2 82 yX2_doRound, Cond.instanceMethod yX2_doRound, Cond.selects RX2 yX2_doRound yX2_doRound, Cond.code yX2_doRound cX2_doRound 3 none, Cond.fieldLink RX2 150 "FlowProofs" "wayLength" "I", Cond.methodLink RX2 143 yX2_traceWay, Cond.instanceMethod yX2_traceWay, Cond.selects RX2 yX2_traceWay yX2_traceWay, Cond.code yX2_traceWay cX2_traceWay 3 none, Cond.methodLink RX2 156 yX0_leastArcOnward, Cond.instanceMethod yX0_leastArcOnward]
def wsL_law_r10 : List Cond := [Cond.selects RX0 yX0_leastArcOnward yX0_leastArcOnward, Cond.code yX0_leastArcOnward cX0_leastArcOnward 4 (some .int), Cond.methodLink RX2 160 yX1_end, Cond.methodLink RX2 146 yX2_leastOnWay, Cond.instanceMethod yX2_leastOnWay, Cond.selects RX2 yX2_leastOnWay yX2_leastOnWay, Cond.code yX2_leastOnWay cX2_leastOnWay 3 (some .int), Cond.methodLink RX2 163 yX1_left, Cond.methodLink RX2 153 yX1_send, Cond.instanceMethod yX1_send, Cond.selects RX1 yX1_send yX1_send, Cond.code yX1_send cX1_send 3 none, Cond.methodLink RX2 85 yX0_measureFrom, Cond.instanceMethod yX0_measureFrom, Cond.selects RX0 yX0_measureFrom yX0_measureFrom, Cond.code yX0_measureFrom cX0_measureFrom 2 none, Cond.methodLink RL 35 yX3_run, Cond.instanceMethod yX3_run, Cond.selects RX3 yX3_run yX3_run, Cond.code yX3_run cX3_run 4 (some .int), Cond.methodLink RX3 99 yX3_hasCircle, Cond.instanceMethod yX3_hasCircle, Cond.selects RX3 yX3_hasCircle yX3_hasCircle, Cond.code yX3_hasCircle cX3_hasCircle 4 (some .boolean)]
def wsL_law_r11 : List Cond := [Cond.methodLink RX3 103 yX3_findWays, Cond.instanceMethod yX3_findWays, Cond.selects RX3 yX3_findWays yX3_findWays, Cond.code yX3_findWays cX3_findWays 8 (some .boolean), Cond.methodLink RX3 82 yX3_begin, Cond.instanceMethod yX3_begin, Cond.selects RX3 yX3_begin yX3_begin, Cond.code yX3_begin cX3_begin 2 (some .int), Cond.methodLink RX3 86 yX3_end, Cond.instanceMethod yX3_end, Cond.selects RX3 yX3_end yX3_end, Cond.code yX3_end cX3_end 2 (some .int), Cond.methodLink RX3 89 yX3_left, Cond.instanceMethod yX3_left, Cond.selects RX3 yX3_left yX3_left, Cond.code yX3_left cX3_left 3 (some .int), Cond.methodLink RX3 92 yX3_costOf, Cond.instanceMethod yX3_costOf, Cond.selects RX3 yX3_costOf yX3_costOf, Cond.code yX3_costOf cX3_costOf 2 (some .int), Cond.methodLink RX3 106 yX3_round, Cond.instanceMethod yX3_round, Cond.selects RX3 yX3_round yX3_round, Cond.code yX3_round cX3_round 5 none]
def wsL_law_r12 : List Cond := [Cond.constant RX3 95 (2147483647), Cond.methodLink RX3 96 yX3_nextArc, Cond.instanceMethod yX3_nextArc, Cond.selects RX3 yX3_nextArc yX3_nextArc, Cond.code yX3_nextArc cX3_nextArc 4 (some .int), Cond.methodLink RL 36 yX2_value, Cond.instanceMethod yX2_value, Cond.selects RX2 yX2_value yX2_value, Cond.code yX2_value cX2_value 1 (some .int), Cond.methodLink RL 40 yX3_value, Cond.instanceMethod yX3_value, Cond.selects RX3 yX3_value yX3_value, Cond.code yX3_value cX3_value 1 (some .int), Cond.methodLink RL 41 yX2_cost, Cond.instanceMethod yX2_cost, Cond.selects RX2 yX2_cost yX2_cost, Cond.code yX2_cost cX2_cost 1 (some .long), Cond.methodLink RX2 92 yX1_costOfFlow, Cond.instanceMethod yX1_costOfFlow, Cond.selects RX1 yX1_costOfFlow yX1_costOfFlow, Cond.code yX1_costOfFlow cX1_costOfFlow 4 (some .long), Cond.methodLink RL 45 yX3_cost, Cond.instanceMethod yX3_cost, Cond.selects RX3 yX3_cost yX3_cost]
def wsL_law_r13 : List Cond := [Cond.code yX3_cost cX3_cost 4 (some .long), Cond.methodLink RL 46 yX2_flow, Cond.instanceMethod yX2_flow, Cond.selects RX2 yX2_flow yX2_flow, Cond.code yX2_flow cX2_flow 2 (some .int), Cond.fieldLink RX2 98 "FlowProofs$Net" "flow" "[I", Cond.methodLink RX2 95 yX1_hasEdge, Cond.instanceMethod yX1_hasEdge, Cond.selects RX1 yX1_hasEdge yX1_hasEdge, Cond.code yX1_hasEdge cX1_hasEdge 2 (some .boolean), Cond.methodLink RL 49 yX3_flow, Cond.instanceMethod yX3_flow, Cond.selects RX3 yX3_flow yX3_flow, Cond.code yX3_flow cX3_flow 2 (some .int), Cond.methodLink RL 50 yX2_potential, Cond.instanceMethod yX2_potential, Cond.selects RX2 yX2_potential yX2_potential, Cond.code yX2_potential cX2_potential 2 (some .int), Cond.fieldLink RX2 101 "FlowProofs$Distances" "least" "[I", Cond.methodLink RL 53 yX3_potential, Cond.instanceMethod yX3_potential, Cond.selects RX3 yX3_potential yX3_potential, Cond.code yX3_potential cX3_potential 2 (some .int), Cond.methodLink RX3 109 yX3_findCosts]
def wsL_law_r14 : List Cond := [Cond.instanceMethod yX3_findCosts, Cond.selects RX3 yX3_findCosts yX3_findCosts, Cond.code yX3_findCosts cX3_findCosts 5 none, Cond.methodLink RL 54 yX2_inCut, Cond.instanceMethod yX2_inCut, Cond.selects RX2 yX2_inCut yX2_inCut, Cond.code yX2_inCut cX2_inCut 2 (some .boolean), Cond.methodLink RL 58 yX3_inCut, Cond.instanceMethod yX3_inCut, Cond.selects RX3 yX3_inCut yX3_inCut, Cond.code yX3_inCut cX3_inCut 2 (some .boolean), Cond.methodLink RL 59 yX2_check, Cond.instanceMethod yX2_check, Cond.selects RX2 yX2_check yX2_check, Cond.code yX2_check cX2_check 1 (some .boolean), Cond.methodLink RX2 107 yX2_flowsFit, Cond.instanceMethod yX2_flowsFit, Cond.selects RX2 yX2_flowsFit yX2_flowsFit, Cond.code yX2_flowsFit cX2_flowsFit 2 (some .boolean), Cond.fieldLink RX2 122 "FlowProofs$Net" "edges" "I", Cond.fieldLink RX2 166 "FlowProofs$Net" "capacity" "[I", Cond.methodLink RX2 110 yX2_nodesPassOn, Cond.instanceMethod yX2_nodesPassOn, Cond.selects RX2 yX2_nodesPassOn yX2_nodesPassOn]
def wsL_law_r15 : List Cond := [Cond.code yX2_nodesPassOn cX2_nodesPassOn 2 (some .boolean), Cond.fieldLink RX2 119 "FlowProofs$Net" "nodes" "I", Cond.methodLink RX2 169 yX1_surplus, Cond.instanceMethod yX1_surplus, Cond.selects RX1 yX1_surplus yX1_surplus, Cond.code yX1_surplus cX1_surplus 5 (some .long), Cond.methodLink RX2 113 yX2_cutIsTight, Cond.instanceMethod yX2_cutIsTight, Cond.selects RX2 yX2_cutIsTight yX2_cutIsTight, Cond.code yX2_cutIsTight cX2_cutIsTight 6 (some .boolean), Cond.fieldLink RX2 173 "FlowProofs$Net" "from" "[I", Cond.fieldLink RX2 176 "FlowProofs$Net" "to" "[I", Cond.methodLink RX2 116 yX2_potentialsHold, Cond.instanceMethod yX2_potentialsHold, Cond.selects RX2 yX2_potentialsHold yX2_potentialsHold, Cond.code yX2_potentialsHold cX2_potentialsHold 4 (some .boolean), Cond.methodLink RX2 179 yX1_arcs, Cond.methodLink RX2 182 yX1_begin, Cond.methodLink RX2 185 yX1_price, Cond.methodLink RL 63 yX3_check, Cond.instanceMethod yX3_check, Cond.selects RX3 yX3_check yX3_check, Cond.code yX3_check cX3_check 8 (some .boolean), Cond.methodLink RL 64 yX2_next]
def wsL_law_r16 : List Cond := [Cond.instanceMethod yX2_next, Cond.selects RX2 yX2_next yX2_next, Cond.code yX2_next cX2_next 1 (some .int), Cond.methodLink RL 67 yX3_next, Cond.instanceMethod yX3_next, Cond.selects RX3 yX3_next yX3_next, Cond.code yX3_next cX3_next 1 (some .int), Cond.methodLink RL 68 yX2_count, Cond.instanceMethod yX2_count, Cond.selects RX2 yX2_count yX2_count, Cond.code yX2_count cX2_count 2 (some .int), Cond.methodLink RL 71 yX3_count, Cond.instanceMethod yX3_count, Cond.selects RX3 yX3_count yX3_count, Cond.code yX3_count cX3_count 2 (some .int)]
def wsL_law : List Cond := (wsL_law_r1 ++ (wsL_law_r2 ++ (wsL_law_r3 ++ (wsL_law_r4 ++ (wsL_law_r5 ++ (wsL_law_r6 ++ (wsL_law_r7 ++ (wsL_law_r8 ++ (wsL_law_r9 ++ (wsL_law_r10 ++ (wsL_law_r11 ++ (wsL_law_r12 ++ (wsL_law_r13 ++ (wsL_law_r14 ++ (wsL_law_r15 ++ wsL_law_r16))))))))))))))) ++ wsX20 ++ wsX30 ++ wsX10 ++ wsX00 ++ ([] : List Cond)
abbrev vwCl : List vw_C := [(RX0, TX0, 3), (RX1, TX1, 7), (RX2, TX2, 11), (RX3, TX3, 19)]
end
section
theorem dX0_init_0 : decode cX0_init 0 = .ok (.aload_n 0, 1) := by decide +kernel
theorem dX0_init_1 : decode cX0_init 1 = .ok (.invokespecial 3, 3) := by decide +kernel
theorem dX0_init_4 : decode cX0_init 4 = .ok (.aload_n 0, 1) := by decide +kernel
theorem dX0_init_5 : decode cX0_init 5 = .ok (.aload_n 1, 1) := by decide +kernel
theorem dX0_init_6 : decode cX0_init 6 = .ok (.putfield 9, 3) := by decide +kernel
theorem dX0_init_9 : decode cX0_init 9 = .ok (.aload_n 0, 1) := by decide +kernel
theorem dX0_init_10 : decode cX0_init 10 = .ok (.aload_n 1, 1) := by decide +kernel
theorem dX0_init_11 : decode cX0_init 11 = .ok (.getfield 15, 3) := by decide +kernel
theorem dX0_init_14 : decode cX0_init 14 = .ok (.newarray .int, 2) := by decide +kernel
theorem dX0_init_16 : decode cX0_init 16 = .ok (.putfield 21, 3) := by decide +kernel
theorem dX0_init_19 : decode cX0_init 19 = .ok (.aload_n 0, 1) := by decide +kernel
theorem dX0_init_20 : decode cX0_init 20 = .ok (.aload_n 1, 1) := by decide +kernel
theorem dX0_init_21 : decode cX0_init 21 = .ok (.getfield 15, 3) := by decide +kernel
theorem dX0_init_24 : decode cX0_init 24 = .ok (.newarray .int, 2) := by decide +kernel
theorem dX0_init_26 : decode cX0_init 26 = .ok (.putfield 25, 3) := by decide +kernel
theorem dX0_init_29 : decode cX0_init 29 = .ok (.return_, 1) := by decide +kernel
theorem dX0_reaches_0 : decode cX0_reaches 0 = .ok (.aload_n 0, 1) := by decide +kernel
theorem dX0_reaches_1 : decode cX0_reaches 1 = .ok (.getfield 21, 3) := by decide +kernel
theorem dX0_reaches_4 : decode cX0_reaches 4 = .ok (.iload_n 1, 1) := by decide +kernel
theorem dX0_reaches_5 : decode cX0_reaches 5 = .ok (.iaload, 1) := by decide +kernel
theorem dX0_reaches_6 : decode cX0_reaches 6 = .ok (.ldc 28, 2) := by decide +kernel
theorem dX0_reaches_8 : decode cX0_reaches 8 = .ok (.if_icmp .eq 7, 3) := by decide +kernel
theorem dX0_reaches_11 : decode cX0_reaches 11 = .ok (.iconst 1, 1) := by decide +kernel
theorem dX0_reaches_12 : decode cX0_reaches 12 = .ok (.goto 4, 3) := by decide +kernel
theorem dX0_reaches_15 : decode cX0_reaches 15 = .ok (.iconst 0, 1) := by decide +kernel
theorem dX0_reaches_16 : decode cX0_reaches 16 = .ok (.ireturn, 1) := by decide +kernel
theorem dX0_measureFrom_0 : decode cX0_measureFrom 0 = .ok (.aload_n 0, 1) := by decide +kernel
theorem dX0_measureFrom_1 : decode cX0_measureFrom 1 = .ok (.iload_n 1, 1) := by decide +kernel
theorem dX0_measureFrom_2 : decode cX0_measureFrom 2 = .ok (.invokevirtual 29, 3) := by decide +kernel
theorem dX0_measureFrom_5 : decode cX0_measureFrom 5 = .ok (.aload_n 0, 1) := by decide +kernel
theorem dX0_measureFrom_6 : decode cX0_measureFrom 6 = .ok (.iconst 0, 1) := by decide +kernel
theorem dX0_measureFrom_7 : decode cX0_measureFrom 7 = .ok (.invokevirtual 33, 3) := by decide +kernel
theorem dX0_measureFrom_10 : decode cX0_measureFrom 10 = .ok (.pop, 1) := by decide +kernel
theorem dX0_measureFrom_11 : decode cX0_measureFrom 11 = .ok (.return_, 1) := by decide +kernel
theorem dX0_measureTo_0 : decode cX0_measureTo 0 = .ok (.aload_n 0, 1) := by decide +kernel
theorem dX0_measureTo_1 : decode cX0_measureTo 1 = .ok (.iload_n 1, 1) := by decide +kernel
theorem dX0_measureTo_2 : decode cX0_measureTo 2 = .ok (.invokevirtual 29, 3) := by decide +kernel
theorem dX0_measureTo_5 : decode cX0_measureTo 5 = .ok (.aload_n 0, 1) := by decide +kernel
theorem dX0_measureTo_6 : decode cX0_measureTo 6 = .ok (.iconst 1, 1) := by decide +kernel
theorem dX0_measureTo_7 : decode cX0_measureTo 7 = .ok (.invokevirtual 33, 3) := by decide +kernel
theorem dX0_measureTo_10 : decode cX0_measureTo 10 = .ok (.pop, 1) := by decide +kernel
theorem dX0_measureTo_11 : decode cX0_measureTo 11 = .ok (.return_, 1) := by decide +kernel
theorem dX0_settlesFromEverywhere_0 : decode cX0_settlesFromEverywhere 0 = .ok (.aload_n 0, 1) := by decide +kernel
theorem dX0_settlesFromEverywhere_1 : decode cX0_settlesFromEverywhere 1 = .ok (.getfield 21, 3) := by decide +kernel
theorem dX0_settlesFromEverywhere_4 : decode cX0_settlesFromEverywhere 4 = .ok (.iconst 0, 1) := by decide +kernel
theorem dX0_settlesFromEverywhere_5 : decode cX0_settlesFromEverywhere 5 = .ok (.invokestatic 37, 3) := by decide +kernel
theorem dX0_settlesFromEverywhere_8 : decode cX0_settlesFromEverywhere 8 = .ok (.aload_n 0, 1) := by decide +kernel
theorem dX0_settlesFromEverywhere_9 : decode cX0_settlesFromEverywhere 9 = .ok (.getfield 25, 3) := by decide +kernel
theorem dX0_settlesFromEverywhere_12 : decode cX0_settlesFromEverywhere 12 = .ok (.iconst 0, 1) := by decide +kernel
theorem dX0_settlesFromEverywhere_13 : decode cX0_settlesFromEverywhere 13 = .ok (.invokestatic 37, 3) := by decide +kernel
theorem dX0_settlesFromEverywhere_16 : decode cX0_settlesFromEverywhere 16 = .ok (.aload_n 0, 1) := by decide +kernel
theorem dX0_settlesFromEverywhere_17 : decode cX0_settlesFromEverywhere 17 = .ok (.iconst 0, 1) := by decide +kernel
theorem dX0_settlesFromEverywhere_18 : decode cX0_settlesFromEverywhere 18 = .ok (.invokevirtual 33, 3) := by decide +kernel
theorem dX0_settlesFromEverywhere_21 : decode cX0_settlesFromEverywhere 21 = .ok (.ireturn, 1) := by decide +kernel
theorem dX0_leastArcOnward_0 : decode cX0_leastArcOnward 0 = .ok (.iconst 0, 1) := by decide +kernel
theorem dX0_leastArcOnward_1 : decode cX0_leastArcOnward 1 = .ok (.istore_n 2, 1) := by decide +kernel
theorem dX0_leastArcOnward_2 : decode cX0_leastArcOnward 2 = .ok (.iload_n 2, 1) := by decide +kernel
theorem dX0_leastArcOnward_3 : decode cX0_leastArcOnward 3 = .ok (.aload_n 0, 1) := by decide +kernel
theorem dX0_leastArcOnward_4 : decode cX0_leastArcOnward 4 = .ok (.getfield 9, 3) := by decide +kernel
theorem dX0_leastArcOnward_7 : decode cX0_leastArcOnward 7 = .ok (.invokevirtual 43, 3) := by decide +kernel
theorem dX0_leastArcOnward_10 : decode cX0_leastArcOnward 10 = .ok (.if_icmp .ge 98, 3) := by decide +kernel
theorem dX0_leastArcOnward_13 : decode cX0_leastArcOnward 13 = .ok (.aload_n 0, 1) := by decide +kernel
theorem dX0_leastArcOnward_14 : decode cX0_leastArcOnward 14 = .ok (.getfield 9, 3) := by decide +kernel
theorem dX0_leastArcOnward_17 : decode cX0_leastArcOnward 17 = .ok (.iload_n 2, 1) := by decide +kernel
theorem dX0_leastArcOnward_18 : decode cX0_leastArcOnward 18 = .ok (.invokevirtual 47, 3) := by decide +kernel
theorem dX0_leastArcOnward_21 : decode cX0_leastArcOnward 21 = .ok (.iload_n 1, 1) := by decide +kernel
theorem dX0_leastArcOnward_22 : decode cX0_leastArcOnward 22 = .ok (.if_icmp .ne 80, 3) := by decide +kernel
theorem dX0_leastArcOnward_25 : decode cX0_leastArcOnward 25 = .ok (.aload_n 0, 1) := by decide +kernel
theorem dX0_leastArcOnward_26 : decode cX0_leastArcOnward 26 = .ok (.getfield 9, 3) := by decide +kernel
theorem dX0_leastArcOnward_29 : decode cX0_leastArcOnward 29 = .ok (.iload_n 2, 1) := by decide +kernel
theorem dX0_leastArcOnward_30 : decode cX0_leastArcOnward 30 = .ok (.invokevirtual 51, 3) := by decide +kernel
theorem dX0_leastArcOnward_33 : decode cX0_leastArcOnward 33 = .ok (.ifCond .gt 6, 3) := by decide +kernel
theorem dX0_leastArcOnward_36 : decode cX0_leastArcOnward 36 = .ok (.goto 66, 3) := by decide +kernel
theorem dX0_leastArcOnward_39 : decode cX0_leastArcOnward 39 = .ok (.aload_n 0, 1) := by decide +kernel
theorem dX0_leastArcOnward_40 : decode cX0_leastArcOnward 40 = .ok (.getfield 9, 3) := by decide +kernel
theorem dX0_leastArcOnward_43 : decode cX0_leastArcOnward 43 = .ok (.iload_n 2, 1) := by decide +kernel
theorem dX0_leastArcOnward_44 : decode cX0_leastArcOnward 44 = .ok (.invokevirtual 54, 3) := by decide +kernel
theorem dX0_leastArcOnward_47 : decode cX0_leastArcOnward 47 = .ok (.istore_n 3, 1) := by decide +kernel
theorem dX0_leastArcOnward_48 : decode cX0_leastArcOnward 48 = .ok (.aload_n 0, 1) := by decide +kernel
theorem dX0_leastArcOnward_49 : decode cX0_leastArcOnward 49 = .ok (.iload_n 3, 1) := by decide +kernel
theorem dX0_leastArcOnward_50 : decode cX0_leastArcOnward 50 = .ok (.invokevirtual 57, 3) := by decide +kernel
theorem dX0_leastArcOnward_53 : decode cX0_leastArcOnward 53 = .ok (.ifCond .ne 6, 3) := by decide +kernel
theorem dX0_leastArcOnward_56 : decode cX0_leastArcOnward 56 = .ok (.goto 46, 3) := by decide +kernel
theorem dX0_leastArcOnward_59 : decode cX0_leastArcOnward 59 = .ok (.aload_n 0, 1) := by decide +kernel
theorem dX0_leastArcOnward_60 : decode cX0_leastArcOnward 60 = .ok (.getfield 21, 3) := by decide +kernel
theorem dX0_leastArcOnward_63 : decode cX0_leastArcOnward 63 = .ok (.iload_n 3, 1) := by decide +kernel
theorem dX0_leastArcOnward_64 : decode cX0_leastArcOnward 64 = .ok (.iaload, 1) := by decide +kernel
theorem dX0_leastArcOnward_65 : decode cX0_leastArcOnward 65 = .ok (.aload_n 0, 1) := by decide +kernel
theorem dX0_leastArcOnward_66 : decode cX0_leastArcOnward 66 = .ok (.getfield 9, 3) := by decide +kernel
theorem dX0_leastArcOnward_69 : decode cX0_leastArcOnward 69 = .ok (.iload_n 2, 1) := by decide +kernel
theorem dX0_leastArcOnward_70 : decode cX0_leastArcOnward 70 = .ok (.invokevirtual 61, 3) := by decide +kernel
theorem dX0_leastArcOnward_73 : decode cX0_leastArcOnward 73 = .ok (.iadd, 1) := by decide +kernel
theorem dX0_leastArcOnward_74 : decode cX0_leastArcOnward 74 = .ok (.aload_n 0, 1) := by decide +kernel
theorem dX0_leastArcOnward_75 : decode cX0_leastArcOnward 75 = .ok (.getfield 21, 3) := by decide +kernel
theorem dX0_leastArcOnward_78 : decode cX0_leastArcOnward 78 = .ok (.iload_n 1, 1) := by decide +kernel
theorem dX0_leastArcOnward_79 : decode cX0_leastArcOnward 79 = .ok (.iaload, 1) := by decide +kernel
theorem dX0_leastArcOnward_80 : decode cX0_leastArcOnward 80 = .ok (.if_icmp .ne 22, 3) := by decide +kernel
theorem dX0_leastArcOnward_83 : decode cX0_leastArcOnward 83 = .ok (.aload_n 0, 1) := by decide +kernel
theorem dX0_leastArcOnward_84 : decode cX0_leastArcOnward 84 = .ok (.getfield 25, 3) := by decide +kernel
theorem dX0_leastArcOnward_87 : decode cX0_leastArcOnward 87 = .ok (.iload_n 3, 1) := by decide +kernel
theorem dX0_leastArcOnward_88 : decode cX0_leastArcOnward 88 = .ok (.iaload, 1) := by decide +kernel
theorem dX0_leastArcOnward_89 : decode cX0_leastArcOnward 89 = .ok (.iconst 1, 1) := by decide +kernel
theorem dX0_leastArcOnward_90 : decode cX0_leastArcOnward 90 = .ok (.iadd, 1) := by decide +kernel
theorem dX0_leastArcOnward_91 : decode cX0_leastArcOnward 91 = .ok (.aload_n 0, 1) := by decide +kernel
theorem dX0_leastArcOnward_92 : decode cX0_leastArcOnward 92 = .ok (.getfield 25, 3) := by decide +kernel
theorem dX0_leastArcOnward_95 : decode cX0_leastArcOnward 95 = .ok (.iload_n 1, 1) := by decide +kernel
theorem dX0_leastArcOnward_96 : decode cX0_leastArcOnward 96 = .ok (.iaload, 1) := by decide +kernel
theorem dX0_leastArcOnward_97 : decode cX0_leastArcOnward 97 = .ok (.if_icmp .ne 5, 3) := by decide +kernel
theorem dX0_leastArcOnward_100 : decode cX0_leastArcOnward 100 = .ok (.iload_n 2, 1) := by decide +kernel
theorem dX0_leastArcOnward_101 : decode cX0_leastArcOnward 101 = .ok (.ireturn, 1) := by decide +kernel
theorem dX0_leastArcOnward_102 : decode cX0_leastArcOnward 102 = .ok (.iinc 2 1, 3) := by decide +kernel
theorem dX0_leastArcOnward_105 : decode cX0_leastArcOnward 105 = .ok (.goto (-103), 3) := by decide +kernel
theorem dX0_leastArcOnward_108 : decode cX0_leastArcOnward 108 = .ok (.iconst (-1), 1) := by decide +kernel
theorem dX0_leastArcOnward_109 : decode cX0_leastArcOnward 109 = .ok (.ireturn, 1) := by decide +kernel
theorem dX0_beginAt_0 : decode cX0_beginAt 0 = .ok (.aload_n 0, 1) := by decide +kernel
theorem dX0_beginAt_1 : decode cX0_beginAt 1 = .ok (.getfield 21, 3) := by decide +kernel
theorem dX0_beginAt_4 : decode cX0_beginAt 4 = .ok (.ldc 28, 2) := by decide +kernel
theorem dX0_beginAt_6 : decode cX0_beginAt 6 = .ok (.invokestatic 37, 3) := by decide +kernel
theorem dX0_beginAt_9 : decode cX0_beginAt 9 = .ok (.aload_n 0, 1) := by decide +kernel
theorem dX0_beginAt_10 : decode cX0_beginAt 10 = .ok (.getfield 25, 3) := by decide +kernel
theorem dX0_beginAt_13 : decode cX0_beginAt 13 = .ok (.iconst 0, 1) := by decide +kernel
theorem dX0_beginAt_14 : decode cX0_beginAt 14 = .ok (.invokestatic 37, 3) := by decide +kernel
theorem dX0_beginAt_17 : decode cX0_beginAt 17 = .ok (.aload_n 0, 1) := by decide +kernel
theorem dX0_beginAt_18 : decode cX0_beginAt 18 = .ok (.getfield 21, 3) := by decide +kernel
theorem dX0_beginAt_21 : decode cX0_beginAt 21 = .ok (.iload_n 1, 1) := by decide +kernel
theorem dX0_beginAt_22 : decode cX0_beginAt 22 = .ok (.iconst 0, 1) := by decide +kernel
theorem dX0_beginAt_23 : decode cX0_beginAt 23 = .ok (.iastore, 1) := by decide +kernel
theorem dX0_beginAt_24 : decode cX0_beginAt 24 = .ok (.return_, 1) := by decide +kernel
theorem dX0_settle_0 : decode cX0_settle 0 = .ok (.iconst 0, 1) := by decide +kernel
theorem dX0_settle_1 : decode cX0_settle 1 = .ok (.istore_n 2, 1) := by decide +kernel
theorem dX0_settle_2 : decode cX0_settle 2 = .ok (.iload_n 2, 1) := by decide +kernel
theorem dX0_settle_3 : decode cX0_settle 3 = .ok (.aload_n 0, 1) := by decide +kernel
theorem dX0_settle_4 : decode cX0_settle 4 = .ok (.getfield 9, 3) := by decide +kernel
theorem dX0_settle_7 : decode cX0_settle 7 = .ok (.getfield 15, 3) := by decide +kernel
theorem dX0_settle_10 : decode cX0_settle 10 = .ok (.if_icmp .ge 19, 3) := by decide +kernel
theorem dX0_settle_13 : decode cX0_settle 13 = .ok (.aload_n 0, 1) := by decide +kernel
theorem dX0_settle_14 : decode cX0_settle 14 = .ok (.iload_n 1, 1) := by decide +kernel
theorem dX0_settle_15 : decode cX0_settle 15 = .ok (.invokevirtual 64, 3) := by decide +kernel
theorem dX0_settle_18 : decode cX0_settle 18 = .ok (.ifCond .ne 5, 3) := by decide +kernel
theorem dX0_settle_21 : decode cX0_settle 21 = .ok (.iconst 1, 1) := by decide +kernel
theorem dX0_settle_22 : decode cX0_settle 22 = .ok (.ireturn, 1) := by decide +kernel
theorem dX0_settle_23 : decode cX0_settle 23 = .ok (.iinc 2 1, 3) := by decide +kernel
theorem dX0_settle_26 : decode cX0_settle 26 = .ok (.goto (-24), 3) := by decide +kernel
theorem dX0_settle_29 : decode cX0_settle 29 = .ok (.iconst 0, 1) := by decide +kernel
theorem dX0_settle_30 : decode cX0_settle 30 = .ok (.ireturn, 1) := by decide +kernel
theorem dX0_passOverArcs_0 : decode cX0_passOverArcs 0 = .ok (.iconst 0, 1) := by decide +kernel
theorem dX0_passOverArcs_1 : decode cX0_passOverArcs 1 = .ok (.istore_n 2, 1) := by decide +kernel
theorem dX0_passOverArcs_2 : decode cX0_passOverArcs 2 = .ok (.iconst 0, 1) := by decide +kernel
theorem dX0_passOverArcs_3 : decode cX0_passOverArcs 3 = .ok (.istore_n 3, 1) := by decide +kernel
theorem dX0_passOverArcs_4 : decode cX0_passOverArcs 4 = .ok (.iload_n 3, 1) := by decide +kernel
theorem dX0_passOverArcs_5 : decode cX0_passOverArcs 5 = .ok (.aload_n 0, 1) := by decide +kernel
theorem dX0_passOverArcs_6 : decode cX0_passOverArcs 6 = .ok (.getfield 9, 3) := by decide +kernel
theorem dX0_passOverArcs_9 : decode cX0_passOverArcs 9 = .ok (.invokevirtual 43, 3) := by decide +kernel
theorem dX0_passOverArcs_12 : decode cX0_passOverArcs 12 = .ok (.if_icmp .ge 118, 3) := by decide +kernel
theorem dX0_passOverArcs_15 : decode cX0_passOverArcs 15 = .ok (.aload_n 0, 1) := by decide +kernel
theorem dX0_passOverArcs_16 : decode cX0_passOverArcs 16 = .ok (.getfield 9, 3) := by decide +kernel
theorem dX0_passOverArcs_19 : decode cX0_passOverArcs 19 = .ok (.iload_n 3, 1) := by decide +kernel
theorem dX0_passOverArcs_20 : decode cX0_passOverArcs 20 = .ok (.invokevirtual 51, 3) := by decide +kernel
theorem dX0_passOverArcs_23 : decode cX0_passOverArcs 23 = .ok (.ifCond .gt 6, 3) := by decide +kernel
theorem dX0_passOverArcs_26 : decode cX0_passOverArcs 26 = .ok (.goto 98, 3) := by decide +kernel
theorem dX0_passOverArcs_29 : decode cX0_passOverArcs 29 = .ok (.iload_n 1, 1) := by decide +kernel
theorem dX0_passOverArcs_30 : decode cX0_passOverArcs 30 = .ok (.ifCond .eq 14, 3) := by decide +kernel
theorem dX0_passOverArcs_33 : decode cX0_passOverArcs 33 = .ok (.aload_n 0, 1) := by decide +kernel
theorem dX0_passOverArcs_34 : decode cX0_passOverArcs 34 = .ok (.getfield 9, 3) := by decide +kernel
theorem dX0_passOverArcs_37 : decode cX0_passOverArcs 37 = .ok (.iload_n 3, 1) := by decide +kernel
theorem dX0_passOverArcs_38 : decode cX0_passOverArcs 38 = .ok (.invokevirtual 54, 3) := by decide +kernel
theorem dX0_passOverArcs_41 : decode cX0_passOverArcs 41 = .ok (.goto 11, 3) := by decide +kernel
theorem dX0_passOverArcs_44 : decode cX0_passOverArcs 44 = .ok (.aload_n 0, 1) := by decide +kernel
theorem dX0_passOverArcs_45 : decode cX0_passOverArcs 45 = .ok (.getfield 9, 3) := by decide +kernel
theorem dX0_passOverArcs_48 : decode cX0_passOverArcs 48 = .ok (.iload_n 3, 1) := by decide +kernel
theorem dX0_passOverArcs_49 : decode cX0_passOverArcs 49 = .ok (.invokevirtual 47, 3) := by decide +kernel
theorem dX0_passOverArcs_52 : decode cX0_passOverArcs 52 = .ok (.istore 4, 2) := by decide +kernel
theorem dX0_passOverArcs_54 : decode cX0_passOverArcs 54 = .ok (.iload_n 1, 1) := by decide +kernel
theorem dX0_passOverArcs_55 : decode cX0_passOverArcs 55 = .ok (.ifCond .eq 14, 3) := by decide +kernel
theorem dX0_passOverArcs_58 : decode cX0_passOverArcs 58 = .ok (.aload_n 0, 1) := by decide +kernel
theorem dX0_passOverArcs_59 : decode cX0_passOverArcs 59 = .ok (.getfield 9, 3) := by decide +kernel
theorem dX0_passOverArcs_62 : decode cX0_passOverArcs 62 = .ok (.iload_n 3, 1) := by decide +kernel
theorem dX0_passOverArcs_63 : decode cX0_passOverArcs 63 = .ok (.invokevirtual 47, 3) := by decide +kernel
theorem dX0_passOverArcs_66 : decode cX0_passOverArcs 66 = .ok (.goto 11, 3) := by decide +kernel
theorem dX0_passOverArcs_69 : decode cX0_passOverArcs 69 = .ok (.aload_n 0, 1) := by decide +kernel
theorem dX0_passOverArcs_70 : decode cX0_passOverArcs 70 = .ok (.getfield 9, 3) := by decide +kernel
theorem dX0_passOverArcs_73 : decode cX0_passOverArcs 73 = .ok (.iload_n 3, 1) := by decide +kernel
theorem dX0_passOverArcs_74 : decode cX0_passOverArcs 74 = .ok (.invokevirtual 54, 3) := by decide +kernel
theorem dX0_passOverArcs_77 : decode cX0_passOverArcs 77 = .ok (.istore 5, 2) := by decide +kernel
theorem dX0_passOverArcs_79 : decode cX0_passOverArcs 79 = .ok (.aload_n 0, 1) := by decide +kernel
theorem dX0_passOverArcs_80 : decode cX0_passOverArcs 80 = .ok (.iload 4, 2) := by decide +kernel
theorem dX0_passOverArcs_82 : decode cX0_passOverArcs 82 = .ok (.invokevirtual 57, 3) := by decide +kernel
theorem dX0_passOverArcs_85 : decode cX0_passOverArcs 85 = .ok (.ifCond .eq 39, 3) := by decide +kernel
theorem dX0_passOverArcs_88 : decode cX0_passOverArcs 88 = .ok (.aload_n 0, 1) := by decide +kernel
theorem dX0_passOverArcs_89 : decode cX0_passOverArcs 89 = .ok (.iload 5, 2) := by decide +kernel
theorem dX0_passOverArcs_91 : decode cX0_passOverArcs 91 = .ok (.aload_n 0, 1) := by decide +kernel
theorem dX0_passOverArcs_92 : decode cX0_passOverArcs 92 = .ok (.getfield 21, 3) := by decide +kernel
theorem dX0_passOverArcs_95 : decode cX0_passOverArcs 95 = .ok (.iload 4, 2) := by decide +kernel
theorem dX0_passOverArcs_97 : decode cX0_passOverArcs 97 = .ok (.iaload, 1) := by decide +kernel
theorem dX0_passOverArcs_98 : decode cX0_passOverArcs 98 = .ok (.aload_n 0, 1) := by decide +kernel
theorem dX0_passOverArcs_99 : decode cX0_passOverArcs 99 = .ok (.getfield 9, 3) := by decide +kernel
theorem dX0_passOverArcs_102 : decode cX0_passOverArcs 102 = .ok (.iload_n 3, 1) := by decide +kernel
theorem dX0_passOverArcs_103 : decode cX0_passOverArcs 103 = .ok (.invokevirtual 61, 3) := by decide +kernel
theorem dX0_passOverArcs_106 : decode cX0_passOverArcs 106 = .ok (.iadd, 1) := by decide +kernel
theorem dX0_passOverArcs_107 : decode cX0_passOverArcs 107 = .ok (.aload_n 0, 1) := by decide +kernel
theorem dX0_passOverArcs_108 : decode cX0_passOverArcs 108 = .ok (.getfield 25, 3) := by decide +kernel
theorem dX0_passOverArcs_111 : decode cX0_passOverArcs 111 = .ok (.iload 4, 2) := by decide +kernel
theorem dX0_passOverArcs_113 : decode cX0_passOverArcs 113 = .ok (.iaload, 1) := by decide +kernel
theorem dX0_passOverArcs_114 : decode cX0_passOverArcs 114 = .ok (.iconst 1, 1) := by decide +kernel
theorem dX0_passOverArcs_115 : decode cX0_passOverArcs 115 = .ok (.iadd, 1) := by decide +kernel
theorem dX0_passOverArcs_116 : decode cX0_passOverArcs 116 = .ok (.invokevirtual 67, 3) := by decide +kernel
theorem dX0_passOverArcs_119 : decode cX0_passOverArcs 119 = .ok (.ifCond .eq 5, 3) := by decide +kernel
theorem dX0_passOverArcs_122 : decode cX0_passOverArcs 122 = .ok (.iconst 1, 1) := by decide +kernel
theorem dX0_passOverArcs_123 : decode cX0_passOverArcs 123 = .ok (.istore_n 2, 1) := by decide +kernel
theorem dX0_passOverArcs_124 : decode cX0_passOverArcs 124 = .ok (.iinc 3 1, 3) := by decide +kernel
theorem dX0_passOverArcs_127 : decode cX0_passOverArcs 127 = .ok (.goto (-123), 3) := by decide +kernel
theorem dX0_passOverArcs_130 : decode cX0_passOverArcs 130 = .ok (.iload_n 2, 1) := by decide +kernel
theorem dX0_passOverArcs_131 : decode cX0_passOverArcs 131 = .ok (.ireturn, 1) := by decide +kernel
theorem dX0_shorten_0 : decode cX0_shorten 0 = .ok (.iload_n 2, 1) := by decide +kernel
theorem dX0_shorten_1 : decode cX0_shorten 1 = .ok (.aload_n 0, 1) := by decide +kernel
theorem dX0_shorten_2 : decode cX0_shorten 2 = .ok (.getfield 21, 3) := by decide +kernel
theorem dX0_shorten_5 : decode cX0_shorten 5 = .ok (.iload_n 1, 1) := by decide +kernel
theorem dX0_shorten_6 : decode cX0_shorten 6 = .ok (.iaload, 1) := by decide +kernel
theorem dX0_shorten_7 : decode cX0_shorten 7 = .ok (.if_icmp .gt 23, 3) := by decide +kernel
theorem dX0_shorten_10 : decode cX0_shorten 10 = .ok (.iload_n 2, 1) := by decide +kernel
theorem dX0_shorten_11 : decode cX0_shorten 11 = .ok (.aload_n 0, 1) := by decide +kernel
theorem dX0_shorten_12 : decode cX0_shorten 12 = .ok (.getfield 21, 3) := by decide +kernel
theorem dX0_shorten_15 : decode cX0_shorten 15 = .ok (.iload_n 1, 1) := by decide +kernel
theorem dX0_shorten_16 : decode cX0_shorten 16 = .ok (.iaload, 1) := by decide +kernel
theorem dX0_shorten_17 : decode cX0_shorten 17 = .ok (.if_icmp .ne 15, 3) := by decide +kernel
theorem dX0_shorten_20 : decode cX0_shorten 20 = .ok (.iload_n 3, 1) := by decide +kernel
theorem dX0_shorten_21 : decode cX0_shorten 21 = .ok (.aload_n 0, 1) := by decide +kernel
theorem dX0_shorten_22 : decode cX0_shorten 22 = .ok (.getfield 25, 3) := by decide +kernel
theorem dX0_shorten_25 : decode cX0_shorten 25 = .ok (.iload_n 1, 1) := by decide +kernel
theorem dX0_shorten_26 : decode cX0_shorten 26 = .ok (.iaload, 1) := by decide +kernel
theorem dX0_shorten_27 : decode cX0_shorten 27 = .ok (.if_icmp .lt 5, 3) := by decide +kernel
theorem dX0_shorten_30 : decode cX0_shorten 30 = .ok (.iconst 0, 1) := by decide +kernel
theorem dX0_shorten_31 : decode cX0_shorten 31 = .ok (.ireturn, 1) := by decide +kernel
theorem dX0_shorten_32 : decode cX0_shorten 32 = .ok (.aload_n 0, 1) := by decide +kernel
theorem dX0_shorten_33 : decode cX0_shorten 33 = .ok (.getfield 21, 3) := by decide +kernel
theorem dX0_shorten_36 : decode cX0_shorten 36 = .ok (.iload_n 1, 1) := by decide +kernel
theorem dX0_shorten_37 : decode cX0_shorten 37 = .ok (.iload_n 2, 1) := by decide +kernel
theorem dX0_shorten_38 : decode cX0_shorten 38 = .ok (.iastore, 1) := by decide +kernel
theorem dX0_shorten_39 : decode cX0_shorten 39 = .ok (.aload_n 0, 1) := by decide +kernel
theorem dX0_shorten_40 : decode cX0_shorten 40 = .ok (.getfield 25, 3) := by decide +kernel
theorem dX0_shorten_43 : decode cX0_shorten 43 = .ok (.iload_n 1, 1) := by decide +kernel
theorem dX0_shorten_44 : decode cX0_shorten 44 = .ok (.iload_n 3, 1) := by decide +kernel
theorem dX0_shorten_45 : decode cX0_shorten 45 = .ok (.iastore, 1) := by decide +kernel
theorem dX0_shorten_46 : decode cX0_shorten 46 = .ok (.iconst 1, 1) := by decide +kernel
theorem dX0_shorten_47 : decode cX0_shorten 47 = .ok (.ireturn, 1) := by decide +kernel
theorem dX1_init_0 : decode cX1_init 0 = .ok (.aload_n 0, 1) := by decide +kernel
theorem dX1_init_1 : decode cX1_init 1 = .ok (.invokespecial 1, 3) := by decide +kernel
theorem dX1_init_4 : decode cX1_init 4 = .ok (.aload_n 0, 1) := by decide +kernel
theorem dX1_init_5 : decode cX1_init 5 = .ok (.iload_n 1, 1) := by decide +kernel
theorem dX1_init_6 : decode cX1_init 6 = .ok (.putfield 7, 3) := by decide +kernel
theorem dX1_init_9 : decode cX1_init 9 = .ok (.aload_n 0, 1) := by decide +kernel
theorem dX1_init_10 : decode cX1_init 10 = .ok (.iload_n 2, 1) := by decide +kernel
theorem dX1_init_11 : decode cX1_init 11 = .ok (.newarray .int, 2) := by decide +kernel
theorem dX1_init_13 : decode cX1_init 13 = .ok (.putfield 13, 3) := by decide +kernel
theorem dX1_init_16 : decode cX1_init 16 = .ok (.aload_n 0, 1) := by decide +kernel
theorem dX1_init_17 : decode cX1_init 17 = .ok (.iload_n 2, 1) := by decide +kernel
theorem dX1_init_18 : decode cX1_init 18 = .ok (.newarray .int, 2) := by decide +kernel
theorem dX1_init_20 : decode cX1_init 20 = .ok (.putfield 17, 3) := by decide +kernel
theorem dX1_init_23 : decode cX1_init 23 = .ok (.aload_n 0, 1) := by decide +kernel
theorem dX1_init_24 : decode cX1_init 24 = .ok (.iload_n 2, 1) := by decide +kernel
theorem dX1_init_25 : decode cX1_init 25 = .ok (.newarray .int, 2) := by decide +kernel
theorem dX1_init_27 : decode cX1_init 27 = .ok (.putfield 20, 3) := by decide +kernel
theorem dX1_init_30 : decode cX1_init 30 = .ok (.aload_n 0, 1) := by decide +kernel
theorem dX1_init_31 : decode cX1_init 31 = .ok (.iload_n 2, 1) := by decide +kernel
theorem dX1_init_32 : decode cX1_init 32 = .ok (.newarray .int, 2) := by decide +kernel
theorem dX1_init_34 : decode cX1_init 34 = .ok (.putfield 23, 3) := by decide +kernel
theorem dX1_init_37 : decode cX1_init 37 = .ok (.aload_n 0, 1) := by decide +kernel
theorem dX1_init_38 : decode cX1_init 38 = .ok (.iload_n 2, 1) := by decide +kernel
theorem dX1_init_39 : decode cX1_init 39 = .ok (.newarray .int, 2) := by decide +kernel
theorem dX1_init_41 : decode cX1_init 41 = .ok (.putfield 26, 3) := by decide +kernel
theorem dX1_init_44 : decode cX1_init 44 = .ok (.return_, 1) := by decide +kernel
theorem dX1_hasNode_0 : decode cX1_hasNode 0 = .ok (.iload_n 1, 1) := by decide +kernel
theorem dX1_hasNode_1 : decode cX1_hasNode 1 = .ok (.ifCond .lt 15, 3) := by decide +kernel
theorem dX1_hasNode_4 : decode cX1_hasNode 4 = .ok (.iload_n 1, 1) := by decide +kernel
theorem dX1_hasNode_5 : decode cX1_hasNode 5 = .ok (.aload_n 0, 1) := by decide +kernel
theorem dX1_hasNode_6 : decode cX1_hasNode 6 = .ok (.getfield 7, 3) := by decide +kernel
theorem dX1_hasNode_9 : decode cX1_hasNode 9 = .ok (.if_icmp .ge 7, 3) := by decide +kernel
theorem dX1_hasNode_12 : decode cX1_hasNode 12 = .ok (.iconst 1, 1) := by decide +kernel
theorem dX1_hasNode_13 : decode cX1_hasNode 13 = .ok (.goto 4, 3) := by decide +kernel
theorem dX1_hasNode_16 : decode cX1_hasNode 16 = .ok (.iconst 0, 1) := by decide +kernel
theorem dX1_hasNode_17 : decode cX1_hasNode 17 = .ok (.ireturn, 1) := by decide +kernel
theorem dX1_hasEdge_0 : decode cX1_hasEdge 0 = .ok (.iload_n 1, 1) := by decide +kernel
theorem dX1_hasEdge_1 : decode cX1_hasEdge 1 = .ok (.ifCond .lt 15, 3) := by decide +kernel
theorem dX1_hasEdge_4 : decode cX1_hasEdge 4 = .ok (.iload_n 1, 1) := by decide +kernel
theorem dX1_hasEdge_5 : decode cX1_hasEdge 5 = .ok (.aload_n 0, 1) := by decide +kernel
theorem dX1_hasEdge_6 : decode cX1_hasEdge 6 = .ok (.getfield 29, 3) := by decide +kernel
theorem dX1_hasEdge_9 : decode cX1_hasEdge 9 = .ok (.if_icmp .ge 7, 3) := by decide +kernel
theorem dX1_hasEdge_12 : decode cX1_hasEdge 12 = .ok (.iconst 1, 1) := by decide +kernel
theorem dX1_hasEdge_13 : decode cX1_hasEdge 13 = .ok (.goto 4, 3) := by decide +kernel
theorem dX1_hasEdge_16 : decode cX1_hasEdge 16 = .ok (.iconst 0, 1) := by decide +kernel
theorem dX1_hasEdge_17 : decode cX1_hasEdge 17 = .ok (.ireturn, 1) := by decide +kernel
theorem dX1_isFull_0 : decode cX1_isFull 0 = .ok (.aload_n 0, 1) := by decide +kernel
theorem dX1_isFull_1 : decode cX1_isFull 1 = .ok (.getfield 29, 3) := by decide +kernel
theorem dX1_isFull_4 : decode cX1_isFull 4 = .ok (.aload_n 0, 1) := by decide +kernel
theorem dX1_isFull_5 : decode cX1_isFull 5 = .ok (.getfield 13, 3) := by decide +kernel
theorem dX1_isFull_8 : decode cX1_isFull 8 = .ok (.arraylength, 1) := by decide +kernel
theorem dX1_isFull_9 : decode cX1_isFull 9 = .ok (.if_icmp .lt 7, 3) := by decide +kernel
theorem dX1_isFull_12 : decode cX1_isFull 12 = .ok (.iconst 1, 1) := by decide +kernel
theorem dX1_isFull_13 : decode cX1_isFull 13 = .ok (.goto 4, 3) := by decide +kernel
theorem dX1_isFull_16 : decode cX1_isFull 16 = .ok (.iconst 0, 1) := by decide +kernel
theorem dX1_isFull_17 : decode cX1_isFull 17 = .ok (.ireturn, 1) := by decide +kernel
theorem dX1_capacityInAll_0 : decode cX1_capacityInAll 0 = .ok (.lconst 0, 1) := by decide +kernel
theorem dX1_capacityInAll_1 : decode cX1_capacityInAll 1 = .ok (.lstore_n 1, 1) := by decide +kernel
theorem dX1_capacityInAll_2 : decode cX1_capacityInAll 2 = .ok (.iconst 0, 1) := by decide +kernel
theorem dX1_capacityInAll_3 : decode cX1_capacityInAll 3 = .ok (.istore_n 3, 1) := by decide +kernel
theorem dX1_capacityInAll_4 : decode cX1_capacityInAll 4 = .ok (.iload_n 3, 1) := by decide +kernel
theorem dX1_capacityInAll_5 : decode cX1_capacityInAll 5 = .ok (.aload_n 0, 1) := by decide +kernel
theorem dX1_capacityInAll_6 : decode cX1_capacityInAll 6 = .ok (.getfield 29, 3) := by decide +kernel
theorem dX1_capacityInAll_9 : decode cX1_capacityInAll 9 = .ok (.if_icmp .ge 19, 3) := by decide +kernel
theorem dX1_capacityInAll_12 : decode cX1_capacityInAll 12 = .ok (.lload_n 1, 1) := by decide +kernel
theorem dX1_capacityInAll_13 : decode cX1_capacityInAll 13 = .ok (.aload_n 0, 1) := by decide +kernel
theorem dX1_capacityInAll_14 : decode cX1_capacityInAll 14 = .ok (.getfield 20, 3) := by decide +kernel
theorem dX1_capacityInAll_17 : decode cX1_capacityInAll 17 = .ok (.iload_n 3, 1) := by decide +kernel
theorem dX1_capacityInAll_18 : decode cX1_capacityInAll 18 = .ok (.iaload, 1) := by decide +kernel
theorem dX1_capacityInAll_19 : decode cX1_capacityInAll 19 = .ok (.i2l, 1) := by decide +kernel
theorem dX1_capacityInAll_20 : decode cX1_capacityInAll 20 = .ok (.ladd, 1) := by decide +kernel
theorem dX1_capacityInAll_21 : decode cX1_capacityInAll 21 = .ok (.lstore_n 1, 1) := by decide +kernel
theorem dX1_capacityInAll_22 : decode cX1_capacityInAll 22 = .ok (.iinc 3 1, 3) := by decide +kernel
theorem dX1_capacityInAll_25 : decode cX1_capacityInAll 25 = .ok (.goto (-21), 3) := by decide +kernel
theorem dX1_capacityInAll_28 : decode cX1_capacityInAll 28 = .ok (.lload_n 1, 1) := by decide +kernel
theorem dX1_capacityInAll_29 : decode cX1_capacityInAll 29 = .ok (.lreturn, 1) := by decide +kernel
theorem dX1_add_0 : decode cX1_add 0 = .ok (.aload_n 0, 1) := by decide +kernel
theorem dX1_add_1 : decode cX1_add 1 = .ok (.getfield 29, 3) := by decide +kernel
theorem dX1_add_4 : decode cX1_add 4 = .ok (.istore 5, 2) := by decide +kernel
theorem dX1_add_6 : decode cX1_add 6 = .ok (.aload_n 0, 1) := by decide +kernel
theorem dX1_add_7 : decode cX1_add 7 = .ok (.getfield 13, 3) := by decide +kernel
theorem dX1_add_10 : decode cX1_add 10 = .ok (.iload 5, 2) := by decide +kernel
theorem dX1_add_12 : decode cX1_add 12 = .ok (.iload_n 1, 1) := by decide +kernel
theorem dX1_add_13 : decode cX1_add 13 = .ok (.iastore, 1) := by decide +kernel
theorem dX1_add_14 : decode cX1_add 14 = .ok (.aload_n 0, 1) := by decide +kernel
theorem dX1_add_15 : decode cX1_add 15 = .ok (.getfield 17, 3) := by decide +kernel
theorem dX1_add_18 : decode cX1_add 18 = .ok (.iload 5, 2) := by decide +kernel
theorem dX1_add_20 : decode cX1_add 20 = .ok (.iload_n 2, 1) := by decide +kernel
theorem dX1_add_21 : decode cX1_add 21 = .ok (.iastore, 1) := by decide +kernel
theorem dX1_add_22 : decode cX1_add 22 = .ok (.aload_n 0, 1) := by decide +kernel
theorem dX1_add_23 : decode cX1_add 23 = .ok (.getfield 20, 3) := by decide +kernel
theorem dX1_add_26 : decode cX1_add 26 = .ok (.iload 5, 2) := by decide +kernel
theorem dX1_add_28 : decode cX1_add 28 = .ok (.iload_n 3, 1) := by decide +kernel
theorem dX1_add_29 : decode cX1_add 29 = .ok (.iastore, 1) := by decide +kernel
theorem dX1_add_30 : decode cX1_add 30 = .ok (.aload_n 0, 1) := by decide +kernel
theorem dX1_add_31 : decode cX1_add 31 = .ok (.getfield 23, 3) := by decide +kernel
theorem dX1_add_34 : decode cX1_add 34 = .ok (.iload 5, 2) := by decide +kernel
theorem dX1_add_36 : decode cX1_add 36 = .ok (.iload 4, 2) := by decide +kernel
theorem dX1_add_38 : decode cX1_add 38 = .ok (.iastore, 1) := by decide +kernel
theorem dX1_add_39 : decode cX1_add 39 = .ok (.aload_n 0, 1) := by decide +kernel
theorem dX1_add_40 : decode cX1_add 40 = .ok (.dup, 1) := by decide +kernel
theorem dX1_add_41 : decode cX1_add 41 = .ok (.getfield 29, 3) := by decide +kernel
theorem dX1_add_44 : decode cX1_add 44 = .ok (.iconst 1, 1) := by decide +kernel
theorem dX1_add_45 : decode cX1_add 45 = .ok (.iadd, 1) := by decide +kernel
theorem dX1_add_46 : decode cX1_add 46 = .ok (.putfield 29, 3) := by decide +kernel
theorem dX1_add_49 : decode cX1_add 49 = .ok (.iload 5, 2) := by decide +kernel
theorem dX1_add_51 : decode cX1_add 51 = .ok (.ireturn, 1) := by decide +kernel
theorem dX1_clearFlow_0 : decode cX1_clearFlow 0 = .ok (.aload_n 0, 1) := by decide +kernel
theorem dX1_clearFlow_1 : decode cX1_clearFlow 1 = .ok (.getfield 26, 3) := by decide +kernel
theorem dX1_clearFlow_4 : decode cX1_clearFlow 4 = .ok (.iconst 0, 1) := by decide +kernel
theorem dX1_clearFlow_5 : decode cX1_clearFlow 5 = .ok (.invokestatic 32, 3) := by decide +kernel
theorem dX1_clearFlow_8 : decode cX1_clearFlow 8 = .ok (.return_, 1) := by decide +kernel
theorem dX1_costOfFlow_0 : decode cX1_costOfFlow 0 = .ok (.lconst 0, 1) := by decide +kernel
theorem dX1_costOfFlow_1 : decode cX1_costOfFlow 1 = .ok (.lstore_n 1, 1) := by decide +kernel
theorem dX1_costOfFlow_2 : decode cX1_costOfFlow 2 = .ok (.iconst 0, 1) := by decide +kernel
theorem dX1_costOfFlow_3 : decode cX1_costOfFlow 3 = .ok (.istore_n 3, 1) := by decide +kernel
theorem dX1_costOfFlow_4 : decode cX1_costOfFlow 4 = .ok (.iload_n 3, 1) := by decide +kernel
theorem dX1_costOfFlow_5 : decode cX1_costOfFlow 5 = .ok (.aload_n 0, 1) := by decide +kernel
theorem dX1_costOfFlow_6 : decode cX1_costOfFlow 6 = .ok (.getfield 29, 3) := by decide +kernel
theorem dX1_costOfFlow_9 : decode cX1_costOfFlow 9 = .ok (.if_icmp .ge 27, 3) := by decide +kernel
theorem dX1_costOfFlow_12 : decode cX1_costOfFlow 12 = .ok (.lload_n 1, 1) := by decide +kernel
theorem dX1_costOfFlow_13 : decode cX1_costOfFlow 13 = .ok (.aload_n 0, 1) := by decide +kernel
theorem dX1_costOfFlow_14 : decode cX1_costOfFlow 14 = .ok (.getfield 26, 3) := by decide +kernel
theorem dX1_costOfFlow_17 : decode cX1_costOfFlow 17 = .ok (.iload_n 3, 1) := by decide +kernel
theorem dX1_costOfFlow_18 : decode cX1_costOfFlow 18 = .ok (.iaload, 1) := by decide +kernel
theorem dX1_costOfFlow_19 : decode cX1_costOfFlow 19 = .ok (.i2l, 1) := by decide +kernel
theorem dX1_costOfFlow_20 : decode cX1_costOfFlow 20 = .ok (.aload_n 0, 1) := by decide +kernel
theorem dX1_costOfFlow_21 : decode cX1_costOfFlow 21 = .ok (.getfield 23, 3) := by decide +kernel
theorem dX1_costOfFlow_24 : decode cX1_costOfFlow 24 = .ok (.iload_n 3, 1) := by decide +kernel
theorem dX1_costOfFlow_25 : decode cX1_costOfFlow 25 = .ok (.iaload, 1) := by decide +kernel
theorem dX1_costOfFlow_26 : decode cX1_costOfFlow 26 = .ok (.i2l, 1) := by decide +kernel
theorem dX1_costOfFlow_27 : decode cX1_costOfFlow 27 = .ok (.lmul, 1) := by decide +kernel
theorem dX1_costOfFlow_28 : decode cX1_costOfFlow 28 = .ok (.ladd, 1) := by decide +kernel
theorem dX1_costOfFlow_29 : decode cX1_costOfFlow 29 = .ok (.lstore_n 1, 1) := by decide +kernel
theorem dX1_costOfFlow_30 : decode cX1_costOfFlow 30 = .ok (.iinc 3 1, 3) := by decide +kernel
theorem dX1_costOfFlow_33 : decode cX1_costOfFlow 33 = .ok (.goto (-29), 3) := by decide +kernel
theorem dX1_costOfFlow_36 : decode cX1_costOfFlow 36 = .ok (.lload_n 1, 1) := by decide +kernel
theorem dX1_costOfFlow_37 : decode cX1_costOfFlow 37 = .ok (.lreturn, 1) := by decide +kernel
theorem dX1_surplus_0 : decode cX1_surplus 0 = .ok (.lconst 0, 1) := by decide +kernel
theorem dX1_surplus_1 : decode cX1_surplus 1 = .ok (.lstore_n 2, 1) := by decide +kernel
theorem dX1_surplus_2 : decode cX1_surplus 2 = .ok (.iconst 0, 1) := by decide +kernel
theorem dX1_surplus_3 : decode cX1_surplus 3 = .ok (.istore 4, 2) := by decide +kernel
theorem dX1_surplus_5 : decode cX1_surplus 5 = .ok (.iload 4, 2) := by decide +kernel
theorem dX1_surplus_7 : decode cX1_surplus 7 = .ok (.aload_n 0, 1) := by decide +kernel
theorem dX1_surplus_8 : decode cX1_surplus 8 = .ok (.getfield 29, 3) := by decide +kernel
theorem dX1_surplus_11 : decode cX1_surplus 11 = .ok (.if_icmp .ge 53, 3) := by decide +kernel
theorem dX1_surplus_14 : decode cX1_surplus 14 = .ok (.aload_n 0, 1) := by decide +kernel
theorem dX1_surplus_15 : decode cX1_surplus 15 = .ok (.getfield 17, 3) := by decide +kernel
theorem dX1_surplus_18 : decode cX1_surplus 18 = .ok (.iload 4, 2) := by decide +kernel
theorem dX1_surplus_20 : decode cX1_surplus 20 = .ok (.iaload, 1) := by decide +kernel
theorem dX1_surplus_21 : decode cX1_surplus 21 = .ok (.iload_n 1, 1) := by decide +kernel
theorem dX1_surplus_22 : decode cX1_surplus 22 = .ok (.if_icmp .ne 14, 3) := by decide +kernel
theorem dX1_surplus_25 : decode cX1_surplus 25 = .ok (.lload_n 2, 1) := by decide +kernel
theorem dX1_surplus_26 : decode cX1_surplus 26 = .ok (.aload_n 0, 1) := by decide +kernel
theorem dX1_surplus_27 : decode cX1_surplus 27 = .ok (.getfield 26, 3) := by decide +kernel
theorem dX1_surplus_30 : decode cX1_surplus 30 = .ok (.iload 4, 2) := by decide +kernel
theorem dX1_surplus_32 : decode cX1_surplus 32 = .ok (.iaload, 1) := by decide +kernel
theorem dX1_surplus_33 : decode cX1_surplus 33 = .ok (.i2l, 1) := by decide +kernel
theorem dX1_surplus_34 : decode cX1_surplus 34 = .ok (.ladd, 1) := by decide +kernel
theorem dX1_surplus_35 : decode cX1_surplus 35 = .ok (.lstore_n 2, 1) := by decide +kernel
theorem dX1_surplus_36 : decode cX1_surplus 36 = .ok (.aload_n 0, 1) := by decide +kernel
theorem dX1_surplus_37 : decode cX1_surplus 37 = .ok (.getfield 13, 3) := by decide +kernel
theorem dX1_surplus_40 : decode cX1_surplus 40 = .ok (.iload 4, 2) := by decide +kernel
theorem dX1_surplus_42 : decode cX1_surplus 42 = .ok (.iaload, 1) := by decide +kernel
theorem dX1_surplus_43 : decode cX1_surplus 43 = .ok (.iload_n 1, 1) := by decide +kernel
theorem dX1_surplus_44 : decode cX1_surplus 44 = .ok (.if_icmp .ne 14, 3) := by decide +kernel
theorem dX1_surplus_47 : decode cX1_surplus 47 = .ok (.lload_n 2, 1) := by decide +kernel
theorem dX1_surplus_48 : decode cX1_surplus 48 = .ok (.aload_n 0, 1) := by decide +kernel
theorem dX1_surplus_49 : decode cX1_surplus 49 = .ok (.getfield 26, 3) := by decide +kernel
theorem dX1_surplus_52 : decode cX1_surplus 52 = .ok (.iload 4, 2) := by decide +kernel
theorem dX1_surplus_54 : decode cX1_surplus 54 = .ok (.iaload, 1) := by decide +kernel
theorem dX1_surplus_55 : decode cX1_surplus 55 = .ok (.i2l, 1) := by decide +kernel
theorem dX1_surplus_56 : decode cX1_surplus 56 = .ok (.lsub, 1) := by decide +kernel
theorem dX1_surplus_57 : decode cX1_surplus 57 = .ok (.lstore_n 2, 1) := by decide +kernel
theorem dX1_surplus_58 : decode cX1_surplus 58 = .ok (.iinc 4 1, 3) := by decide +kernel
theorem dX1_surplus_61 : decode cX1_surplus 61 = .ok (.goto (-56), 3) := by decide +kernel
theorem dX1_surplus_64 : decode cX1_surplus 64 = .ok (.lload_n 2, 1) := by decide +kernel
theorem dX1_surplus_65 : decode cX1_surplus 65 = .ok (.lreturn, 1) := by decide +kernel
theorem dX1_arcs_0 : decode cX1_arcs 0 = .ok (.iconst 2, 1) := by decide +kernel
theorem dX1_arcs_1 : decode cX1_arcs 1 = .ok (.aload_n 0, 1) := by decide +kernel
theorem dX1_arcs_2 : decode cX1_arcs 2 = .ok (.getfield 29, 3) := by decide +kernel
theorem dX1_arcs_5 : decode cX1_arcs 5 = .ok (.imul, 1) := by decide +kernel
theorem dX1_arcs_6 : decode cX1_arcs 6 = .ok (.ireturn, 1) := by decide +kernel
theorem dX1_begin_0 : decode cX1_begin 0 = .ok (.iload_n 1, 1) := by decide +kernel
theorem dX1_begin_1 : decode cX1_begin 1 = .ok (.invokestatic 38, 3) := by decide +kernel
theorem dX1_begin_4 : decode cX1_begin 4 = .ok (.ifCond .eq 14, 3) := by decide +kernel
theorem dX1_begin_7 : decode cX1_begin 7 = .ok (.aload_n 0, 1) := by decide +kernel
theorem dX1_begin_8 : decode cX1_begin 8 = .ok (.getfield 17, 3) := by decide +kernel
theorem dX1_begin_11 : decode cX1_begin 11 = .ok (.iload_n 1, 1) := by decide +kernel
theorem dX1_begin_12 : decode cX1_begin 12 = .ok (.iconst 1, 1) := by decide +kernel
theorem dX1_begin_13 : decode cX1_begin 13 = .ok (.ishr, 1) := by decide +kernel
theorem dX1_begin_14 : decode cX1_begin 14 = .ok (.iaload, 1) := by decide +kernel
theorem dX1_begin_15 : decode cX1_begin 15 = .ok (.goto 11, 3) := by decide +kernel
theorem dX1_begin_18 : decode cX1_begin 18 = .ok (.aload_n 0, 1) := by decide +kernel
theorem dX1_begin_19 : decode cX1_begin 19 = .ok (.getfield 13, 3) := by decide +kernel
theorem dX1_begin_22 : decode cX1_begin 22 = .ok (.iload_n 1, 1) := by decide +kernel
theorem dX1_begin_23 : decode cX1_begin 23 = .ok (.iconst 1, 1) := by decide +kernel
theorem dX1_begin_24 : decode cX1_begin 24 = .ok (.ishr, 1) := by decide +kernel
theorem dX1_begin_25 : decode cX1_begin 25 = .ok (.iaload, 1) := by decide +kernel
theorem dX1_begin_26 : decode cX1_begin 26 = .ok (.ireturn, 1) := by decide +kernel
theorem dX1_end_0 : decode cX1_end 0 = .ok (.iload_n 1, 1) := by decide +kernel
theorem dX1_end_1 : decode cX1_end 1 = .ok (.invokestatic 38, 3) := by decide +kernel
theorem dX1_end_4 : decode cX1_end 4 = .ok (.ifCond .eq 14, 3) := by decide +kernel
theorem dX1_end_7 : decode cX1_end 7 = .ok (.aload_n 0, 1) := by decide +kernel
theorem dX1_end_8 : decode cX1_end 8 = .ok (.getfield 13, 3) := by decide +kernel
theorem dX1_end_11 : decode cX1_end 11 = .ok (.iload_n 1, 1) := by decide +kernel
theorem dX1_end_12 : decode cX1_end 12 = .ok (.iconst 1, 1) := by decide +kernel
theorem dX1_end_13 : decode cX1_end 13 = .ok (.ishr, 1) := by decide +kernel
theorem dX1_end_14 : decode cX1_end 14 = .ok (.iaload, 1) := by decide +kernel
theorem dX1_end_15 : decode cX1_end 15 = .ok (.goto 11, 3) := by decide +kernel
theorem dX1_end_18 : decode cX1_end 18 = .ok (.aload_n 0, 1) := by decide +kernel
theorem dX1_end_19 : decode cX1_end 19 = .ok (.getfield 17, 3) := by decide +kernel
theorem dX1_end_22 : decode cX1_end 22 = .ok (.iload_n 1, 1) := by decide +kernel
theorem dX1_end_23 : decode cX1_end 23 = .ok (.iconst 1, 1) := by decide +kernel
theorem dX1_end_24 : decode cX1_end 24 = .ok (.ishr, 1) := by decide +kernel
theorem dX1_end_25 : decode cX1_end 25 = .ok (.iaload, 1) := by decide +kernel
theorem dX1_end_26 : decode cX1_end 26 = .ok (.ireturn, 1) := by decide +kernel
theorem dX1_price_0 : decode cX1_price 0 = .ok (.iload_n 1, 1) := by decide +kernel
theorem dX1_price_1 : decode cX1_price 1 = .ok (.invokestatic 38, 3) := by decide +kernel
theorem dX1_price_4 : decode cX1_price 4 = .ok (.ifCond .eq 15, 3) := by decide +kernel
theorem dX1_price_7 : decode cX1_price 7 = .ok (.aload_n 0, 1) := by decide +kernel
theorem dX1_price_8 : decode cX1_price 8 = .ok (.getfield 23, 3) := by decide +kernel
theorem dX1_price_11 : decode cX1_price 11 = .ok (.iload_n 1, 1) := by decide +kernel
theorem dX1_price_12 : decode cX1_price 12 = .ok (.iconst 1, 1) := by decide +kernel
theorem dX1_price_13 : decode cX1_price 13 = .ok (.ishr, 1) := by decide +kernel
theorem dX1_price_14 : decode cX1_price 14 = .ok (.iaload, 1) := by decide +kernel
theorem dX1_price_15 : decode cX1_price 15 = .ok (.ineg, 1) := by decide +kernel
theorem dX1_price_16 : decode cX1_price 16 = .ok (.goto 11, 3) := by decide +kernel
theorem dX1_price_19 : decode cX1_price 19 = .ok (.aload_n 0, 1) := by decide +kernel
theorem dX1_price_20 : decode cX1_price 20 = .ok (.getfield 23, 3) := by decide +kernel
theorem dX1_price_23 : decode cX1_price 23 = .ok (.iload_n 1, 1) := by decide +kernel
theorem dX1_price_24 : decode cX1_price 24 = .ok (.iconst 1, 1) := by decide +kernel
theorem dX1_price_25 : decode cX1_price 25 = .ok (.ishr, 1) := by decide +kernel
theorem dX1_price_26 : decode cX1_price 26 = .ok (.iaload, 1) := by decide +kernel
theorem dX1_price_27 : decode cX1_price 27 = .ok (.ireturn, 1) := by decide +kernel
theorem dX1_left_0 : decode cX1_left 0 = .ok (.iload_n 1, 1) := by decide +kernel
theorem dX1_left_1 : decode cX1_left 1 = .ok (.iconst 1, 1) := by decide +kernel
theorem dX1_left_2 : decode cX1_left 2 = .ok (.ishr, 1) := by decide +kernel
theorem dX1_left_3 : decode cX1_left 3 = .ok (.istore_n 2, 1) := by decide +kernel
theorem dX1_left_4 : decode cX1_left 4 = .ok (.iload_n 1, 1) := by decide +kernel
theorem dX1_left_5 : decode cX1_left 5 = .ok (.invokestatic 38, 3) := by decide +kernel
theorem dX1_left_8 : decode cX1_left 8 = .ok (.ifCond .eq 12, 3) := by decide +kernel
theorem dX1_left_11 : decode cX1_left 11 = .ok (.aload_n 0, 1) := by decide +kernel
theorem dX1_left_12 : decode cX1_left 12 = .ok (.getfield 26, 3) := by decide +kernel
theorem dX1_left_15 : decode cX1_left 15 = .ok (.iload_n 2, 1) := by decide +kernel
theorem dX1_left_16 : decode cX1_left 16 = .ok (.iaload, 1) := by decide +kernel
theorem dX1_left_17 : decode cX1_left 17 = .ok (.goto 16, 3) := by decide +kernel
theorem dX1_left_20 : decode cX1_left 20 = .ok (.aload_n 0, 1) := by decide +kernel
theorem dX1_left_21 : decode cX1_left 21 = .ok (.getfield 20, 3) := by decide +kernel
theorem dX1_left_24 : decode cX1_left 24 = .ok (.iload_n 2, 1) := by decide +kernel
theorem dX1_left_25 : decode cX1_left 25 = .ok (.iaload, 1) := by decide +kernel
theorem dX1_left_26 : decode cX1_left 26 = .ok (.aload_n 0, 1) := by decide +kernel
theorem dX1_left_27 : decode cX1_left 27 = .ok (.getfield 26, 3) := by decide +kernel
theorem dX1_left_30 : decode cX1_left 30 = .ok (.iload_n 2, 1) := by decide +kernel
theorem dX1_left_31 : decode cX1_left 31 = .ok (.iaload, 1) := by decide +kernel
theorem dX1_left_32 : decode cX1_left 32 = .ok (.isub, 1) := by decide +kernel
theorem dX1_left_33 : decode cX1_left 33 = .ok (.ireturn, 1) := by decide +kernel
theorem dX1_send_0 : decode cX1_send 0 = .ok (.aload_n 0, 1) := by decide +kernel
theorem dX1_send_1 : decode cX1_send 1 = .ok (.getfield 26, 3) := by decide +kernel
theorem dX1_send_4 : decode cX1_send 4 = .ok (.iload_n 1, 1) := by decide +kernel
theorem dX1_send_5 : decode cX1_send 5 = .ok (.iconst 1, 1) := by decide +kernel
theorem dX1_send_6 : decode cX1_send 6 = .ok (.ishr, 1) := by decide +kernel
theorem dX1_send_7 : decode cX1_send 7 = .ok (.dup2, 1) := by decide +kernel
theorem dX1_send_8 : decode cX1_send 8 = .ok (.iaload, 1) := by decide +kernel
theorem dX1_send_9 : decode cX1_send 9 = .ok (.iload_n 1, 1) := by decide +kernel
theorem dX1_send_10 : decode cX1_send 10 = .ok (.invokestatic 38, 3) := by decide +kernel
theorem dX1_send_13 : decode cX1_send 13 = .ok (.ifCond .eq 8, 3) := by decide +kernel
theorem dX1_send_16 : decode cX1_send 16 = .ok (.iload_n 2, 1) := by decide +kernel
theorem dX1_send_17 : decode cX1_send 17 = .ok (.ineg, 1) := by decide +kernel
theorem dX1_send_18 : decode cX1_send 18 = .ok (.goto 4, 3) := by decide +kernel
theorem dX1_send_21 : decode cX1_send 21 = .ok (.iload_n 2, 1) := by decide +kernel
theorem dX1_send_22 : decode cX1_send 22 = .ok (.iadd, 1) := by decide +kernel
theorem dX1_send_23 : decode cX1_send 23 = .ok (.iastore, 1) := by decide +kernel
theorem dX1_send_24 : decode cX1_send 24 = .ok (.return_, 1) := by decide +kernel
theorem dX1_isBack_0 : decode cX1_isBack 0 = .ok (.iload_n 0, 1) := by decide +kernel
theorem dX1_isBack_1 : decode cX1_isBack 1 = .ok (.iconst 1, 1) := by decide +kernel
theorem dX1_isBack_2 : decode cX1_isBack 2 = .ok (.iand, 1) := by decide +kernel
theorem dX1_isBack_3 : decode cX1_isBack 3 = .ok (.ifCond .eq 7, 3) := by decide +kernel
theorem dX1_isBack_6 : decode cX1_isBack 6 = .ok (.iconst 1, 1) := by decide +kernel
theorem dX1_isBack_7 : decode cX1_isBack 7 = .ok (.goto 4, 3) := by decide +kernel
theorem dX1_isBack_10 : decode cX1_isBack 10 = .ok (.iconst 0, 1) := by decide +kernel
theorem dX1_isBack_11 : decode cX1_isBack 11 = .ok (.ireturn, 1) := by decide +kernel
theorem dX2_init_0 : decode cX2_init 0 = .ok (.aload_n 0, 1) := by decide +kernel
theorem dX2_init_1 : decode cX2_init 1 = .ok (.invokespecial 3, 3) := by decide +kernel
theorem dX2_init_4 : decode cX2_init 4 = .ok (.aload_n 0, 1) := by decide +kernel
theorem dX2_init_5 : decode cX2_init 5 = .ok (.iconst (-1), 1) := by decide +kernel
theorem dX2_init_6 : decode cX2_init 6 = .ok (.putfield 11, 3) := by decide +kernel
theorem dX2_init_9 : decode cX2_init 9 = .ok (.aload_n 0, 1) := by decide +kernel
theorem dX2_init_10 : decode cX2_init 10 = .ok (.iconst (-1), 1) := by decide +kernel
theorem dX2_init_11 : decode cX2_init 11 = .ok (.putfield 15, 3) := by decide +kernel
theorem dX2_init_14 : decode cX2_init 14 = .ok (.iload_n 1, 1) := by decide +kernel
theorem dX2_init_15 : decode cX2_init 15 = .ok (.iconst 2, 1) := by decide +kernel
theorem dX2_init_16 : decode cX2_init 16 = .ok (.bipush 12, 2) := by decide +kernel
theorem dX2_init_18 : decode cX2_init 18 = .ok (.invokestatic 18, 3) := by decide +kernel
theorem dX2_init_21 : decode cX2_init 21 = .ok (.istore_n 3, 1) := by decide +kernel
theorem dX2_init_22 : decode cX2_init 22 = .ok (.aload_n 0, 1) := by decide +kernel
theorem dX2_init_23 : decode cX2_init 23 = .ok (.new 22, 3) := by decide +kernel
theorem dX2_init_26 : decode cX2_init 26 = .ok (.dup, 1) := by decide +kernel
theorem dX2_init_27 : decode cX2_init 27 = .ok (.iload_n 3, 1) := by decide +kernel
theorem dX2_init_28 : decode cX2_init 28 = .ok (.iload_n 2, 1) := by decide +kernel
theorem dX2_init_29 : decode cX2_init 29 = .ok (.iconst 1, 1) := by decide +kernel
theorem dX2_init_30 : decode cX2_init 30 = .ok (.bipush 40, 2) := by decide +kernel
theorem dX2_init_32 : decode cX2_init 32 = .ok (.invokestatic 18, 3) := by decide +kernel
theorem dX2_init_35 : decode cX2_init 35 = .ok (.invokespecial 24, 3) := by decide +kernel
theorem dX2_init_38 : decode cX2_init 38 = .ok (.putfield 27, 3) := by decide +kernel
theorem dX2_init_41 : decode cX2_init 41 = .ok (.aload_n 0, 1) := by decide +kernel
theorem dX2_init_42 : decode cX2_init 42 = .ok (.new 31, 3) := by decide +kernel
theorem dX2_init_45 : decode cX2_init 45 = .ok (.dup, 1) := by decide +kernel
theorem dX2_init_46 : decode cX2_init 46 = .ok (.aload_n 0, 1) := by decide +kernel
theorem dX2_init_47 : decode cX2_init 47 = .ok (.getfield 27, 3) := by decide +kernel
theorem dX2_init_50 : decode cX2_init 50 = .ok (.invokespecial 33, 3) := by decide +kernel
theorem dX2_init_53 : decode cX2_init 53 = .ok (.putfield 36, 3) := by decide +kernel
theorem dX2_init_56 : decode cX2_init 56 = .ok (.aload_n 0, 1) := by decide +kernel
theorem dX2_init_57 : decode cX2_init 57 = .ok (.new 31, 3) := by decide +kernel
theorem dX2_init_60 : decode cX2_init 60 = .ok (.dup, 1) := by decide +kernel
theorem dX2_init_61 : decode cX2_init 61 = .ok (.aload_n 0, 1) := by decide +kernel
theorem dX2_init_62 : decode cX2_init 62 = .ok (.getfield 27, 3) := by decide +kernel
theorem dX2_init_65 : decode cX2_init 65 = .ok (.invokespecial 33, 3) := by decide +kernel
theorem dX2_init_68 : decode cX2_init 68 = .ok (.putfield 40, 3) := by decide +kernel
theorem dX2_init_71 : decode cX2_init 71 = .ok (.aload_n 0, 1) := by decide +kernel
theorem dX2_init_72 : decode cX2_init 72 = .ok (.iload_n 3, 1) := by decide +kernel
theorem dX2_init_73 : decode cX2_init 73 = .ok (.newarray .int, 2) := by decide +kernel
theorem dX2_init_75 : decode cX2_init 75 = .ok (.putfield 43, 3) := by decide +kernel
theorem dX2_init_78 : decode cX2_init 78 = .ok (.return_, 1) := by decide +kernel
theorem dX2_edge_0 : decode cX2_edge 0 = .ok (.aload_n 0, 1) := by decide +kernel
theorem dX2_edge_1 : decode cX2_edge 1 = .ok (.getfield 27, 3) := by decide +kernel
theorem dX2_edge_4 : decode cX2_edge 4 = .ok (.iload_n 1, 1) := by decide +kernel
theorem dX2_edge_5 : decode cX2_edge 5 = .ok (.invokevirtual 47, 3) := by decide +kernel
theorem dX2_edge_8 : decode cX2_edge 8 = .ok (.ifCond .eq 19, 3) := by decide +kernel
theorem dX2_edge_11 : decode cX2_edge 11 = .ok (.aload_n 0, 1) := by decide +kernel
theorem dX2_edge_12 : decode cX2_edge 12 = .ok (.getfield 27, 3) := by decide +kernel
theorem dX2_edge_15 : decode cX2_edge 15 = .ok (.iload_n 2, 1) := by decide +kernel
theorem dX2_edge_16 : decode cX2_edge 16 = .ok (.invokevirtual 47, 3) := by decide +kernel
theorem dX2_edge_19 : decode cX2_edge 19 = .ok (.ifCond .eq 8, 3) := by decide +kernel
theorem dX2_edge_22 : decode cX2_edge 22 = .ok (.iload_n 1, 1) := by decide +kernel
theorem dX2_edge_23 : decode cX2_edge 23 = .ok (.iload_n 2, 1) := by decide +kernel
theorem dX2_edge_24 : decode cX2_edge 24 = .ok (.if_icmp .ne 5, 3) := by decide +kernel
theorem dX2_edge_27 : decode cX2_edge 27 = .ok (.iconst (-1), 1) := by decide +kernel
theorem dX2_edge_28 : decode cX2_edge 28 = .ok (.ireturn, 1) := by decide +kernel
theorem dX2_edge_29 : decode cX2_edge 29 = .ok (.iload_n 3, 1) := by decide +kernel
theorem dX2_edge_30 : decode cX2_edge 30 = .ok (.ifCond .lt 9, 3) := by decide +kernel
theorem dX2_edge_33 : decode cX2_edge 33 = .ok (.iload_n 3, 1) := by decide +kernel
theorem dX2_edge_34 : decode cX2_edge 34 = .ok (.ldc 51, 2) := by decide +kernel
theorem dX2_edge_36 : decode cX2_edge 36 = .ok (.if_icmp .le 5, 3) := by decide +kernel
theorem dX2_edge_39 : decode cX2_edge 39 = .ok (.iconst (-1), 1) := by decide +kernel
theorem dX2_edge_40 : decode cX2_edge 40 = .ok (.ireturn, 1) := by decide +kernel
theorem dX2_edge_41 : decode cX2_edge 41 = .ok (.iload 4, 2) := by decide +kernel
theorem dX2_edge_43 : decode cX2_edge 43 = .ok (.sipush (-10000), 3) := by decide +kernel
theorem dX2_edge_46 : decode cX2_edge 46 = .ok (.if_icmp .lt 11, 3) := by decide +kernel
theorem dX2_edge_49 : decode cX2_edge 49 = .ok (.iload 4, 2) := by decide +kernel
theorem dX2_edge_51 : decode cX2_edge 51 = .ok (.sipush 10000, 3) := by decide +kernel
theorem dX2_edge_54 : decode cX2_edge 54 = .ok (.if_icmp .le 5, 3) := by decide +kernel
theorem dX2_edge_57 : decode cX2_edge 57 = .ok (.iconst (-1), 1) := by decide +kernel
theorem dX2_edge_58 : decode cX2_edge 58 = .ok (.ireturn, 1) := by decide +kernel
theorem dX2_edge_59 : decode cX2_edge 59 = .ok (.aload_n 0, 1) := by decide +kernel
theorem dX2_edge_60 : decode cX2_edge 60 = .ok (.getfield 27, 3) := by decide +kernel
theorem dX2_edge_63 : decode cX2_edge 63 = .ok (.invokevirtual 52, 3) := by decide +kernel
theorem dX2_edge_66 : decode cX2_edge 66 = .ok (.ifCond .ne 20, 3) := by decide +kernel
theorem dX2_edge_69 : decode cX2_edge 69 = .ok (.aload_n 0, 1) := by decide +kernel
theorem dX2_edge_70 : decode cX2_edge 70 = .ok (.getfield 27, 3) := by decide +kernel
theorem dX2_edge_73 : decode cX2_edge 73 = .ok (.invokevirtual 56, 3) := by decide +kernel
theorem dX2_edge_76 : decode cX2_edge 76 = .ok (.iload_n 3, 1) := by decide +kernel
theorem dX2_edge_77 : decode cX2_edge 77 = .ok (.i2l, 1) := by decide +kernel
theorem dX2_edge_78 : decode cX2_edge 78 = .ok (.ladd, 1) := by decide +kernel
theorem dX2_edge_79 : decode cX2_edge 79 = .ok (.ldc2_w 60, 3) := by decide +kernel
theorem dX2_edge_82 : decode cX2_edge 82 = .ok (.lcmp, 1) := by decide +kernel
theorem dX2_edge_83 : decode cX2_edge 83 = .ok (.ifCond .le 5, 3) := by decide +kernel
theorem dX2_edge_86 : decode cX2_edge 86 = .ok (.iconst (-1), 1) := by decide +kernel
theorem dX2_edge_87 : decode cX2_edge 87 = .ok (.ireturn, 1) := by decide +kernel
theorem dX2_edge_88 : decode cX2_edge 88 = .ok (.aload_n 0, 1) := by decide +kernel
theorem dX2_edge_89 : decode cX2_edge 89 = .ok (.invokevirtual 62, 3) := by decide +kernel
theorem dX2_edge_92 : decode cX2_edge 92 = .ok (.aload_n 0, 1) := by decide +kernel
theorem dX2_edge_93 : decode cX2_edge 93 = .ok (.getfield 27, 3) := by decide +kernel
theorem dX2_edge_96 : decode cX2_edge 96 = .ok (.iload_n 1, 1) := by decide +kernel
theorem dX2_edge_97 : decode cX2_edge 97 = .ok (.iload_n 2, 1) := by decide +kernel
theorem dX2_edge_98 : decode cX2_edge 98 = .ok (.iload_n 3, 1) := by decide +kernel
theorem dX2_edge_99 : decode cX2_edge 99 = .ok (.iload 4, 2) := by decide +kernel
theorem dX2_edge_101 : decode cX2_edge 101 = .ok (.invokevirtual 65, 3) := by decide +kernel
theorem dX2_edge_104 : decode cX2_edge 104 = .ok (.istore 5, 2) := by decide +kernel
theorem dX2_edge_106 : decode cX2_edge 106 = .ok (.aload_n 0, 1) := by decide +kernel
theorem dX2_edge_107 : decode cX2_edge 107 = .ok (.aload_n 0, 1) := by decide +kernel
theorem dX2_edge_108 : decode cX2_edge 108 = .ok (.getfield 36, 3) := by decide +kernel
theorem dX2_edge_111 : decode cX2_edge 111 = .ok (.invokevirtual 69, 3) := by decide +kernel
theorem dX2_edge_114 : decode cX2_edge 114 = .ok (.ifCond .ne 7, 3) := by decide +kernel
theorem dX2_edge_117 : decode cX2_edge 117 = .ok (.iconst 1, 1) := by decide +kernel
theorem dX2_edge_118 : decode cX2_edge 118 = .ok (.goto 4, 3) := by decide +kernel
theorem dX2_edge_121 : decode cX2_edge 121 = .ok (.iconst 0, 1) := by decide +kernel
theorem dX2_edge_122 : decode cX2_edge 122 = .ok (.putfield 72, 3) := by decide +kernel
theorem dX2_edge_125 : decode cX2_edge 125 = .ok (.iload 5, 2) := by decide +kernel
theorem dX2_edge_127 : decode cX2_edge 127 = .ok (.ireturn, 1) := by decide +kernel
theorem dX2_ends_0 : decode cX2_ends 0 = .ok (.aload_n 0, 1) := by decide +kernel
theorem dX2_ends_1 : decode cX2_ends 1 = .ok (.getfield 27, 3) := by decide +kernel
theorem dX2_ends_4 : decode cX2_ends 4 = .ok (.iload_n 1, 1) := by decide +kernel
theorem dX2_ends_5 : decode cX2_ends 5 = .ok (.invokevirtual 47, 3) := by decide +kernel
theorem dX2_ends_8 : decode cX2_ends 8 = .ok (.ifCond .eq 19, 3) := by decide +kernel
theorem dX2_ends_11 : decode cX2_ends 11 = .ok (.aload_n 0, 1) := by decide +kernel
theorem dX2_ends_12 : decode cX2_ends 12 = .ok (.getfield 27, 3) := by decide +kernel
theorem dX2_ends_15 : decode cX2_ends 15 = .ok (.iload_n 2, 1) := by decide +kernel
theorem dX2_ends_16 : decode cX2_ends 16 = .ok (.invokevirtual 47, 3) := by decide +kernel
theorem dX2_ends_19 : decode cX2_ends 19 = .ok (.ifCond .eq 8, 3) := by decide +kernel
theorem dX2_ends_22 : decode cX2_ends 22 = .ok (.iload_n 1, 1) := by decide +kernel
theorem dX2_ends_23 : decode cX2_ends 23 = .ok (.iload_n 2, 1) := by decide +kernel
theorem dX2_ends_24 : decode cX2_ends 24 = .ok (.if_icmp .ne 5, 3) := by decide +kernel
theorem dX2_ends_27 : decode cX2_ends 27 = .ok (.iconst 0, 1) := by decide +kernel
theorem dX2_ends_28 : decode cX2_ends 28 = .ok (.ireturn, 1) := by decide +kernel
theorem dX2_ends_29 : decode cX2_ends 29 = .ok (.aload_n 0, 1) := by decide +kernel
theorem dX2_ends_30 : decode cX2_ends 30 = .ok (.invokevirtual 62, 3) := by decide +kernel
theorem dX2_ends_33 : decode cX2_ends 33 = .ok (.aload_n 0, 1) := by decide +kernel
theorem dX2_ends_34 : decode cX2_ends 34 = .ok (.iload_n 1, 1) := by decide +kernel
theorem dX2_ends_35 : decode cX2_ends 35 = .ok (.putfield 11, 3) := by decide +kernel
theorem dX2_ends_38 : decode cX2_ends 38 = .ok (.aload_n 0, 1) := by decide +kernel
theorem dX2_ends_39 : decode cX2_ends 39 = .ok (.iload_n 2, 1) := by decide +kernel
theorem dX2_ends_40 : decode cX2_ends 40 = .ok (.putfield 15, 3) := by decide +kernel
theorem dX2_ends_43 : decode cX2_ends 43 = .ok (.iconst 1, 1) := by decide +kernel
theorem dX2_ends_44 : decode cX2_ends 44 = .ok (.ireturn, 1) := by decide +kernel
theorem dX2_run_0 : decode cX2_run 0 = .ok (.iload_n 1, 1) := by decide +kernel
theorem dX2_run_1 : decode cX2_run 1 = .ok (.ifCond .lt 10, 3) := by decide +kernel
theorem dX2_run_4 : decode cX2_run 4 = .ok (.iload_n 1, 1) := by decide +kernel
theorem dX2_run_5 : decode cX2_run 5 = .ok (.sipush 10000, 3) := by decide +kernel
theorem dX2_run_8 : decode cX2_run 8 = .ok (.if_icmp .le 5, 3) := by decide +kernel
theorem dX2_run_11 : decode cX2_run 11 = .ok (.iconst (-1), 1) := by decide +kernel
theorem dX2_run_12 : decode cX2_run 12 = .ok (.ireturn, 1) := by decide +kernel
theorem dX2_run_13 : decode cX2_run 13 = .ok (.aload_n 0, 1) := by decide +kernel
theorem dX2_run_14 : decode cX2_run 14 = .ok (.getfield 11, 3) := by decide +kernel
theorem dX2_run_17 : decode cX2_run 17 = .ok (.iconst (-1), 1) := by decide +kernel
theorem dX2_run_18 : decode cX2_run 18 = .ok (.if_icmp .ne 5, 3) := by decide +kernel
theorem dX2_run_21 : decode cX2_run 21 = .ok (.iconst 2, 1) := by decide +kernel
theorem dX2_run_22 : decode cX2_run 22 = .ok (.ireturn, 1) := by decide +kernel
theorem dX2_run_23 : decode cX2_run 23 = .ok (.aload_n 0, 1) := by decide +kernel
theorem dX2_run_24 : decode cX2_run 24 = .ok (.getfield 72, 3) := by decide +kernel
theorem dX2_run_27 : decode cX2_run 27 = .ok (.ifCond .eq 5, 3) := by decide +kernel
theorem dX2_run_30 : decode cX2_run 30 = .ok (.iconst 3, 1) := by decide +kernel
theorem dX2_run_31 : decode cX2_run 31 = .ok (.ireturn, 1) := by decide +kernel
theorem dX2_run_32 : decode cX2_run 32 = .ok (.aload_n 0, 1) := by decide +kernel
theorem dX2_run_33 : decode cX2_run 33 = .ok (.getfield 76, 3) := by decide +kernel
theorem dX2_run_36 : decode cX2_run 36 = .ok (.ifCond .eq 5, 3) := by decide +kernel
theorem dX2_run_39 : decode cX2_run 39 = .ok (.iconst 0, 1) := by decide +kernel
theorem dX2_run_40 : decode cX2_run 40 = .ok (.ireturn, 1) := by decide +kernel
theorem dX2_run_41 : decode cX2_run 41 = .ok (.aload_n 0, 1) := by decide +kernel
theorem dX2_run_42 : decode cX2_run 42 = .ok (.invokevirtual 79, 3) := by decide +kernel
theorem dX2_run_45 : decode cX2_run 45 = .ok (.istore_n 2, 1) := by decide +kernel
theorem dX2_run_46 : decode cX2_run 46 = .ok (.iconst 0, 1) := by decide +kernel
theorem dX2_run_47 : decode cX2_run 47 = .ok (.istore_n 3, 1) := by decide +kernel
theorem dX2_run_48 : decode cX2_run 48 = .ok (.iload_n 3, 1) := by decide +kernel
theorem dX2_run_49 : decode cX2_run 49 = .ok (.iload_n 1, 1) := by decide +kernel
theorem dX2_run_50 : decode cX2_run 50 = .ok (.if_icmp .ge 22, 3) := by decide +kernel
theorem dX2_run_53 : decode cX2_run 53 = .ok (.iload_n 2, 1) := by decide +kernel
theorem dX2_run_54 : decode cX2_run 54 = .ok (.ifCond .eq 18, 3) := by decide +kernel
theorem dX2_run_57 : decode cX2_run 57 = .ok (.aload_n 0, 1) := by decide +kernel
theorem dX2_run_58 : decode cX2_run 58 = .ok (.invokevirtual 82, 3) := by decide +kernel
theorem dX2_run_61 : decode cX2_run 61 = .ok (.aload_n 0, 1) := by decide +kernel
theorem dX2_run_62 : decode cX2_run 62 = .ok (.invokevirtual 79, 3) := by decide +kernel
theorem dX2_run_65 : decode cX2_run 65 = .ok (.istore_n 2, 1) := by decide +kernel
theorem dX2_run_66 : decode cX2_run 66 = .ok (.iinc 3 1, 3) := by decide +kernel
theorem dX2_run_69 : decode cX2_run 69 = .ok (.goto (-21), 3) := by decide +kernel
theorem dX2_run_72 : decode cX2_run 72 = .ok (.iload_n 2, 1) := by decide +kernel
theorem dX2_run_73 : decode cX2_run 73 = .ok (.ifCond .eq 5, 3) := by decide +kernel
theorem dX2_run_76 : decode cX2_run 76 = .ok (.iconst 1, 1) := by decide +kernel
theorem dX2_run_77 : decode cX2_run 77 = .ok (.ireturn, 1) := by decide +kernel
theorem dX2_run_78 : decode cX2_run 78 = .ok (.aload_n 0, 1) := by decide +kernel
theorem dX2_run_79 : decode cX2_run 79 = .ok (.iconst 1, 1) := by decide +kernel
theorem dX2_run_80 : decode cX2_run 80 = .ok (.putfield 76, 3) := by decide +kernel
theorem dX2_run_83 : decode cX2_run 83 = .ok (.aload_n 0, 1) := by decide +kernel
theorem dX2_run_84 : decode cX2_run 84 = .ok (.getfield 36, 3) := by decide +kernel
theorem dX2_run_87 : decode cX2_run 87 = .ok (.aload_n 0, 1) := by decide +kernel
theorem dX2_run_88 : decode cX2_run 88 = .ok (.getfield 11, 3) := by decide +kernel
theorem dX2_run_91 : decode cX2_run 91 = .ok (.invokevirtual 85, 3) := by decide +kernel
theorem dX2_run_94 : decode cX2_run 94 = .ok (.iconst 0, 1) := by decide +kernel
theorem dX2_run_95 : decode cX2_run 95 = .ok (.ireturn, 1) := by decide +kernel
theorem dX2_value_0 : decode cX2_value 0 = .ok (.aload_n 0, 1) := by decide +kernel
theorem dX2_value_1 : decode cX2_value 1 = .ok (.getfield 76, 3) := by decide +kernel
theorem dX2_value_4 : decode cX2_value 4 = .ok (.ifCond .eq 10, 3) := by decide +kernel
theorem dX2_value_7 : decode cX2_value 7 = .ok (.aload_n 0, 1) := by decide +kernel
theorem dX2_value_8 : decode cX2_value 8 = .ok (.getfield 89, 3) := by decide +kernel
theorem dX2_value_11 : decode cX2_value 11 = .ok (.goto 4, 3) := by decide +kernel
theorem dX2_value_14 : decode cX2_value 14 = .ok (.iconst (-1), 1) := by decide +kernel
theorem dX2_value_15 : decode cX2_value 15 = .ok (.ireturn, 1) := by decide +kernel
theorem dX2_cost_0 : decode cX2_cost 0 = .ok (.aload_n 0, 1) := by decide +kernel
theorem dX2_cost_1 : decode cX2_cost 1 = .ok (.getfield 76, 3) := by decide +kernel
theorem dX2_cost_4 : decode cX2_cost 4 = .ok (.ifCond .eq 13, 3) := by decide +kernel
theorem dX2_cost_7 : decode cX2_cost 7 = .ok (.aload_n 0, 1) := by decide +kernel
theorem dX2_cost_8 : decode cX2_cost 8 = .ok (.getfield 27, 3) := by decide +kernel
theorem dX2_cost_11 : decode cX2_cost 11 = .ok (.invokevirtual 92, 3) := by decide +kernel
theorem dX2_cost_14 : decode cX2_cost 14 = .ok (.goto 4, 3) := by decide +kernel
theorem dX2_cost_17 : decode cX2_cost 17 = .ok (.lconst 0, 1) := by decide +kernel
theorem dX2_cost_18 : decode cX2_cost 18 = .ok (.lreturn, 1) := by decide +kernel
theorem dX2_flow_0 : decode cX2_flow 0 = .ok (.aload_n 0, 1) := by decide +kernel
theorem dX2_flow_1 : decode cX2_flow 1 = .ok (.getfield 27, 3) := by decide +kernel
theorem dX2_flow_4 : decode cX2_flow 4 = .ok (.iload_n 1, 1) := by decide +kernel
theorem dX2_flow_5 : decode cX2_flow 5 = .ok (.invokevirtual 95, 3) := by decide +kernel
theorem dX2_flow_8 : decode cX2_flow 8 = .ok (.ifCond .eq 15, 3) := by decide +kernel
theorem dX2_flow_11 : decode cX2_flow 11 = .ok (.aload_n 0, 1) := by decide +kernel
theorem dX2_flow_12 : decode cX2_flow 12 = .ok (.getfield 27, 3) := by decide +kernel
theorem dX2_flow_15 : decode cX2_flow 15 = .ok (.getfield 98, 3) := by decide +kernel
theorem dX2_flow_18 : decode cX2_flow 18 = .ok (.iload_n 1, 1) := by decide +kernel
theorem dX2_flow_19 : decode cX2_flow 19 = .ok (.iaload, 1) := by decide +kernel
theorem dX2_flow_20 : decode cX2_flow 20 = .ok (.goto 4, 3) := by decide +kernel
theorem dX2_flow_23 : decode cX2_flow 23 = .ok (.iconst (-1), 1) := by decide +kernel
theorem dX2_flow_24 : decode cX2_flow 24 = .ok (.ireturn, 1) := by decide +kernel
theorem dX2_potential_0 : decode cX2_potential 0 = .ok (.aload_n 0, 1) := by decide +kernel
theorem dX2_potential_1 : decode cX2_potential 1 = .ok (.getfield 76, 3) := by decide +kernel
theorem dX2_potential_4 : decode cX2_potential 4 = .ok (.ifCond .eq 26, 3) := by decide +kernel
theorem dX2_potential_7 : decode cX2_potential 7 = .ok (.aload_n 0, 1) := by decide +kernel
theorem dX2_potential_8 : decode cX2_potential 8 = .ok (.getfield 27, 3) := by decide +kernel
theorem dX2_potential_11 : decode cX2_potential 11 = .ok (.iload_n 1, 1) := by decide +kernel
theorem dX2_potential_12 : decode cX2_potential 12 = .ok (.invokevirtual 47, 3) := by decide +kernel
theorem dX2_potential_15 : decode cX2_potential 15 = .ok (.ifCond .eq 15, 3) := by decide +kernel
theorem dX2_potential_18 : decode cX2_potential 18 = .ok (.aload_n 0, 1) := by decide +kernel
theorem dX2_potential_19 : decode cX2_potential 19 = .ok (.getfield 36, 3) := by decide +kernel
theorem dX2_potential_22 : decode cX2_potential 22 = .ok (.getfield 101, 3) := by decide +kernel
theorem dX2_potential_25 : decode cX2_potential 25 = .ok (.iload_n 1, 1) := by decide +kernel
theorem dX2_potential_26 : decode cX2_potential 26 = .ok (.iaload, 1) := by decide +kernel
theorem dX2_potential_27 : decode cX2_potential 27 = .ok (.goto 4, 3) := by decide +kernel
theorem dX2_potential_30 : decode cX2_potential 30 = .ok (.iconst (-1), 1) := by decide +kernel
theorem dX2_potential_31 : decode cX2_potential 31 = .ok (.ireturn, 1) := by decide +kernel
theorem dX2_inCut_0 : decode cX2_inCut 0 = .ok (.aload_n 0, 1) := by decide +kernel
theorem dX2_inCut_1 : decode cX2_inCut 1 = .ok (.getfield 76, 3) := by decide +kernel
theorem dX2_inCut_4 : decode cX2_inCut 4 = .ok (.ifCond .eq 29, 3) := by decide +kernel
theorem dX2_inCut_7 : decode cX2_inCut 7 = .ok (.aload_n 0, 1) := by decide +kernel
theorem dX2_inCut_8 : decode cX2_inCut 8 = .ok (.getfield 27, 3) := by decide +kernel
theorem dX2_inCut_11 : decode cX2_inCut 11 = .ok (.iload_n 1, 1) := by decide +kernel
theorem dX2_inCut_12 : decode cX2_inCut 12 = .ok (.invokevirtual 47, 3) := by decide +kernel
theorem dX2_inCut_15 : decode cX2_inCut 15 = .ok (.ifCond .eq 18, 3) := by decide +kernel
theorem dX2_inCut_18 : decode cX2_inCut 18 = .ok (.aload_n 0, 1) := by decide +kernel
theorem dX2_inCut_19 : decode cX2_inCut 19 = .ok (.getfield 36, 3) := by decide +kernel
theorem dX2_inCut_22 : decode cX2_inCut 22 = .ok (.iload_n 1, 1) := by decide +kernel
theorem dX2_inCut_23 : decode cX2_inCut 23 = .ok (.invokevirtual 104, 3) := by decide +kernel
theorem dX2_inCut_26 : decode cX2_inCut 26 = .ok (.ifCond .eq 7, 3) := by decide +kernel
theorem dX2_inCut_29 : decode cX2_inCut 29 = .ok (.iconst 1, 1) := by decide +kernel
theorem dX2_inCut_30 : decode cX2_inCut 30 = .ok (.goto 4, 3) := by decide +kernel
theorem dX2_inCut_33 : decode cX2_inCut 33 = .ok (.iconst 0, 1) := by decide +kernel
theorem dX2_inCut_34 : decode cX2_inCut 34 = .ok (.ireturn, 1) := by decide +kernel
theorem dX2_check_0 : decode cX2_check 0 = .ok (.aload_n 0, 1) := by decide +kernel
theorem dX2_check_1 : decode cX2_check 1 = .ok (.getfield 76, 3) := by decide +kernel
theorem dX2_check_4 : decode cX2_check 4 = .ok (.ifCond .eq 35, 3) := by decide +kernel
theorem dX2_check_7 : decode cX2_check 7 = .ok (.aload_n 0, 1) := by decide +kernel
theorem dX2_check_8 : decode cX2_check 8 = .ok (.invokevirtual 107, 3) := by decide +kernel
theorem dX2_check_11 : decode cX2_check 11 = .ok (.ifCond .eq 28, 3) := by decide +kernel
theorem dX2_check_14 : decode cX2_check 14 = .ok (.aload_n 0, 1) := by decide +kernel
theorem dX2_check_15 : decode cX2_check 15 = .ok (.invokevirtual 110, 3) := by decide +kernel
theorem dX2_check_18 : decode cX2_check 18 = .ok (.ifCond .eq 21, 3) := by decide +kernel
theorem dX2_check_21 : decode cX2_check 21 = .ok (.aload_n 0, 1) := by decide +kernel
theorem dX2_check_22 : decode cX2_check 22 = .ok (.invokevirtual 113, 3) := by decide +kernel
theorem dX2_check_25 : decode cX2_check 25 = .ok (.ifCond .eq 14, 3) := by decide +kernel
theorem dX2_check_28 : decode cX2_check 28 = .ok (.aload_n 0, 1) := by decide +kernel
theorem dX2_check_29 : decode cX2_check 29 = .ok (.invokevirtual 116, 3) := by decide +kernel
theorem dX2_check_32 : decode cX2_check 32 = .ok (.ifCond .eq 7, 3) := by decide +kernel
theorem dX2_check_35 : decode cX2_check 35 = .ok (.iconst 1, 1) := by decide +kernel
theorem dX2_check_36 : decode cX2_check 36 = .ok (.goto 4, 3) := by decide +kernel
theorem dX2_check_39 : decode cX2_check 39 = .ok (.iconst 0, 1) := by decide +kernel
theorem dX2_check_40 : decode cX2_check 40 = .ok (.ireturn, 1) := by decide +kernel
theorem dX2_next_0 : decode cX2_next 0 = .ok (.aload_n 0, 1) := by decide +kernel
theorem dX2_next_1 : decode cX2_next 1 = .ok (.getfield 11, 3) := by decide +kernel
theorem dX2_next_4 : decode cX2_next 4 = .ok (.iconst (-1), 1) := by decide +kernel
theorem dX2_next_5 : decode cX2_next 5 = .ok (.if_icmp .eq 17, 3) := by decide +kernel
theorem dX2_next_8 : decode cX2_next 8 = .ok (.aload_n 0, 1) := by decide +kernel
theorem dX2_next_9 : decode cX2_next 9 = .ok (.getfield 72, 3) := by decide +kernel
theorem dX2_next_12 : decode cX2_next 12 = .ok (.ifCond .ne 10, 3) := by decide +kernel
theorem dX2_next_15 : decode cX2_next 15 = .ok (.aload_n 0, 1) := by decide +kernel
theorem dX2_next_16 : decode cX2_next 16 = .ok (.getfield 76, 3) := by decide +kernel
theorem dX2_next_19 : decode cX2_next 19 = .ok (.ifCond .eq 5, 3) := by decide +kernel
theorem dX2_next_22 : decode cX2_next 22 = .ok (.iconst (-1), 1) := by decide +kernel
theorem dX2_next_23 : decode cX2_next 23 = .ok (.ireturn, 1) := by decide +kernel
theorem dX2_next_24 : decode cX2_next 24 = .ok (.aload_n 0, 1) := by decide +kernel
theorem dX2_next_25 : decode cX2_next 25 = .ok (.invokevirtual 79, 3) := by decide +kernel
theorem dX2_next_28 : decode cX2_next 28 = .ok (.ifCond .eq 18, 3) := by decide +kernel
theorem dX2_next_31 : decode cX2_next 31 = .ok (.aload_n 0, 1) := by decide +kernel
theorem dX2_next_32 : decode cX2_next 32 = .ok (.getfield 40, 3) := by decide +kernel
theorem dX2_next_35 : decode cX2_next 35 = .ok (.getfield 101, 3) := by decide +kernel
theorem dX2_next_38 : decode cX2_next 38 = .ok (.aload_n 0, 1) := by decide +kernel
theorem dX2_next_39 : decode cX2_next 39 = .ok (.getfield 11, 3) := by decide +kernel
theorem dX2_next_42 : decode cX2_next 42 = .ok (.iaload, 1) := by decide +kernel
theorem dX2_next_43 : decode cX2_next 43 = .ok (.goto 4, 3) := by decide +kernel
theorem dX2_next_46 : decode cX2_next 46 = .ok (.iconst (-1), 1) := by decide +kernel
theorem dX2_next_47 : decode cX2_next 47 = .ok (.ireturn, 1) := by decide +kernel
theorem dX2_count_0 : decode cX2_count 0 = .ok (.iload_n 1, 1) := by decide +kernel
theorem dX2_count_1 : decode cX2_count 1 = .ok (.tableswitch 57 0 3 #[31, 39, 47, 52], 31) := by decide +kernel
theorem dX2_count_32 : decode cX2_count 32 = .ok (.aload_n 0, 1) := by decide +kernel
theorem dX2_count_33 : decode cX2_count 33 = .ok (.getfield 27, 3) := by decide +kernel
theorem dX2_count_36 : decode cX2_count 36 = .ok (.getfield 119, 3) := by decide +kernel
theorem dX2_count_39 : decode cX2_count 39 = .ok (.ireturn, 1) := by decide +kernel
theorem dX2_count_40 : decode cX2_count 40 = .ok (.aload_n 0, 1) := by decide +kernel
theorem dX2_count_41 : decode cX2_count 41 = .ok (.getfield 27, 3) := by decide +kernel
theorem dX2_count_44 : decode cX2_count 44 = .ok (.getfield 122, 3) := by decide +kernel
theorem dX2_count_47 : decode cX2_count 47 = .ok (.ireturn, 1) := by decide +kernel
theorem dX2_count_48 : decode cX2_count 48 = .ok (.aload_n 0, 1) := by decide +kernel
theorem dX2_count_49 : decode cX2_count 49 = .ok (.getfield 125, 3) := by decide +kernel
theorem dX2_count_52 : decode cX2_count 52 = .ok (.ireturn, 1) := by decide +kernel
theorem dX2_count_53 : decode cX2_count 53 = .ok (.aload_n 0, 1) := by decide +kernel
theorem dX2_count_54 : decode cX2_count 54 = .ok (.getfield 89, 3) := by decide +kernel
theorem dX2_count_57 : decode cX2_count 57 = .ok (.ireturn, 1) := by decide +kernel
theorem dX2_count_58 : decode cX2_count 58 = .ok (.iconst (-1), 1) := by decide +kernel
theorem dX2_count_59 : decode cX2_count 59 = .ok (.ireturn, 1) := by decide +kernel
theorem dX2_within_0 : decode cX2_within 0 = .ok (.iload_n 1, 1) := by decide +kernel
theorem dX2_within_1 : decode cX2_within 1 = .ok (.iload_n 2, 1) := by decide +kernel
theorem dX2_within_2 : decode cX2_within 2 = .ok (.iload_n 0, 1) := by decide +kernel
theorem dX2_within_3 : decode cX2_within 3 = .ok (.invokestatic 128, 3) := by decide +kernel
theorem dX2_within_6 : decode cX2_within 6 = .ok (.invokestatic 134, 3) := by decide +kernel
theorem dX2_within_9 : decode cX2_within 9 = .ok (.ireturn, 1) := by decide +kernel
theorem dX2_forgetSolving_0 : decode cX2_forgetSolving 0 = .ok (.aload_n 0, 1) := by decide +kernel
theorem dX2_forgetSolving_1 : decode cX2_forgetSolving 1 = .ok (.getfield 27, 3) := by decide +kernel
theorem dX2_forgetSolving_4 : decode cX2_forgetSolving 4 = .ok (.invokevirtual 137, 3) := by decide +kernel
theorem dX2_forgetSolving_7 : decode cX2_forgetSolving 7 = .ok (.aload_n 0, 1) := by decide +kernel
theorem dX2_forgetSolving_8 : decode cX2_forgetSolving 8 = .ok (.iconst 0, 1) := by decide +kernel
theorem dX2_forgetSolving_9 : decode cX2_forgetSolving 9 = .ok (.putfield 76, 3) := by decide +kernel
theorem dX2_forgetSolving_12 : decode cX2_forgetSolving 12 = .ok (.aload_n 0, 1) := by decide +kernel
theorem dX2_forgetSolving_13 : decode cX2_forgetSolving 13 = .ok (.iconst 0, 1) := by decide +kernel
theorem dX2_forgetSolving_14 : decode cX2_forgetSolving 14 = .ok (.putfield 125, 3) := by decide +kernel
theorem dX2_forgetSolving_17 : decode cX2_forgetSolving 17 = .ok (.aload_n 0, 1) := by decide +kernel
theorem dX2_forgetSolving_18 : decode cX2_forgetSolving 18 = .ok (.iconst 0, 1) := by decide +kernel
theorem dX2_forgetSolving_19 : decode cX2_forgetSolving 19 = .ok (.putfield 89, 3) := by decide +kernel
theorem dX2_forgetSolving_22 : decode cX2_forgetSolving 22 = .ok (.return_, 1) := by decide +kernel
theorem dX2_findWay_0 : decode cX2_findWay 0 = .ok (.aload_n 0, 1) := by decide +kernel
theorem dX2_findWay_1 : decode cX2_findWay 1 = .ok (.getfield 40, 3) := by decide +kernel
theorem dX2_findWay_4 : decode cX2_findWay 4 = .ok (.aload_n 0, 1) := by decide +kernel
theorem dX2_findWay_5 : decode cX2_findWay 5 = .ok (.getfield 15, 3) := by decide +kernel
theorem dX2_findWay_8 : decode cX2_findWay 8 = .ok (.invokevirtual 140, 3) := by decide +kernel
theorem dX2_findWay_11 : decode cX2_findWay 11 = .ok (.aload_n 0, 1) := by decide +kernel
theorem dX2_findWay_12 : decode cX2_findWay 12 = .ok (.getfield 40, 3) := by decide +kernel
theorem dX2_findWay_15 : decode cX2_findWay 15 = .ok (.aload_n 0, 1) := by decide +kernel
theorem dX2_findWay_16 : decode cX2_findWay 16 = .ok (.getfield 11, 3) := by decide +kernel
theorem dX2_findWay_19 : decode cX2_findWay 19 = .ok (.invokevirtual 104, 3) := by decide +kernel
theorem dX2_findWay_22 : decode cX2_findWay 22 = .ok (.ireturn, 1) := by decide +kernel
theorem dX2_doRound_0 : decode cX2_doRound 0 = .ok (.aload_n 0, 1) := by decide +kernel
theorem dX2_doRound_1 : decode cX2_doRound 1 = .ok (.invokevirtual 143, 3) := by decide +kernel
theorem dX2_doRound_4 : decode cX2_doRound 4 = .ok (.aload_n 0, 1) := by decide +kernel
theorem dX2_doRound_5 : decode cX2_doRound 5 = .ok (.invokevirtual 146, 3) := by decide +kernel
theorem dX2_doRound_8 : decode cX2_doRound 8 = .ok (.istore_n 1, 1) := by decide +kernel
theorem dX2_doRound_9 : decode cX2_doRound 9 = .ok (.iconst 0, 1) := by decide +kernel
theorem dX2_doRound_10 : decode cX2_doRound 10 = .ok (.istore_n 2, 1) := by decide +kernel
theorem dX2_doRound_11 : decode cX2_doRound 11 = .ok (.iload_n 2, 1) := by decide +kernel
theorem dX2_doRound_12 : decode cX2_doRound 12 = .ok (.aload_n 0, 1) := by decide +kernel
theorem dX2_doRound_13 : decode cX2_doRound 13 = .ok (.getfield 150, 3) := by decide +kernel
theorem dX2_doRound_16 : decode cX2_doRound 16 = .ok (.if_icmp .ge 23, 3) := by decide +kernel
theorem dX2_doRound_19 : decode cX2_doRound 19 = .ok (.aload_n 0, 1) := by decide +kernel
theorem dX2_doRound_20 : decode cX2_doRound 20 = .ok (.getfield 27, 3) := by decide +kernel
theorem dX2_doRound_23 : decode cX2_doRound 23 = .ok (.aload_n 0, 1) := by decide +kernel
theorem dX2_doRound_24 : decode cX2_doRound 24 = .ok (.getfield 43, 3) := by decide +kernel
theorem dX2_doRound_27 : decode cX2_doRound 27 = .ok (.iload_n 2, 1) := by decide +kernel
theorem dX2_doRound_28 : decode cX2_doRound 28 = .ok (.iaload, 1) := by decide +kernel
theorem dX2_doRound_29 : decode cX2_doRound 29 = .ok (.iload_n 1, 1) := by decide +kernel
theorem dX2_doRound_30 : decode cX2_doRound 30 = .ok (.invokevirtual 153, 3) := by decide +kernel
theorem dX2_doRound_33 : decode cX2_doRound 33 = .ok (.iinc 2 1, 3) := by decide +kernel
theorem dX2_doRound_36 : decode cX2_doRound 36 = .ok (.goto (-25), 3) := by decide +kernel
theorem dX2_doRound_39 : decode cX2_doRound 39 = .ok (.aload_n 0, 1) := by decide +kernel
theorem dX2_doRound_40 : decode cX2_doRound 40 = .ok (.dup, 1) := by decide +kernel
theorem dX2_doRound_41 : decode cX2_doRound 41 = .ok (.getfield 89, 3) := by decide +kernel
theorem dX2_doRound_44 : decode cX2_doRound 44 = .ok (.iload_n 1, 1) := by decide +kernel
theorem dX2_doRound_45 : decode cX2_doRound 45 = .ok (.iadd, 1) := by decide +kernel
theorem dX2_doRound_46 : decode cX2_doRound 46 = .ok (.putfield 89, 3) := by decide +kernel
theorem dX2_doRound_49 : decode cX2_doRound 49 = .ok (.aload_n 0, 1) := by decide +kernel
theorem dX2_doRound_50 : decode cX2_doRound 50 = .ok (.dup, 1) := by decide +kernel
theorem dX2_doRound_51 : decode cX2_doRound 51 = .ok (.getfield 125, 3) := by decide +kernel
theorem dX2_doRound_54 : decode cX2_doRound 54 = .ok (.iconst 1, 1) := by decide +kernel
theorem dX2_doRound_55 : decode cX2_doRound 55 = .ok (.iadd, 1) := by decide +kernel
theorem dX2_doRound_56 : decode cX2_doRound 56 = .ok (.putfield 125, 3) := by decide +kernel
theorem dX2_doRound_59 : decode cX2_doRound 59 = .ok (.return_, 1) := by decide +kernel
theorem dX2_traceWay_0 : decode cX2_traceWay 0 = .ok (.aload_n 0, 1) := by decide +kernel
theorem dX2_traceWay_1 : decode cX2_traceWay 1 = .ok (.iconst 0, 1) := by decide +kernel
theorem dX2_traceWay_2 : decode cX2_traceWay 2 = .ok (.putfield 150, 3) := by decide +kernel
theorem dX2_traceWay_5 : decode cX2_traceWay 5 = .ok (.aload_n 0, 1) := by decide +kernel
theorem dX2_traceWay_6 : decode cX2_traceWay 6 = .ok (.getfield 11, 3) := by decide +kernel
theorem dX2_traceWay_9 : decode cX2_traceWay 9 = .ok (.istore_n 1, 1) := by decide +kernel
theorem dX2_traceWay_10 : decode cX2_traceWay 10 = .ok (.iload_n 1, 1) := by decide +kernel
theorem dX2_traceWay_11 : decode cX2_traceWay 11 = .ok (.aload_n 0, 1) := by decide +kernel
theorem dX2_traceWay_12 : decode cX2_traceWay 12 = .ok (.getfield 15, 3) := by decide +kernel
theorem dX2_traceWay_15 : decode cX2_traceWay 15 = .ok (.if_icmp .eq 62, 3) := by decide +kernel
theorem dX2_traceWay_18 : decode cX2_traceWay 18 = .ok (.aload_n 0, 1) := by decide +kernel
theorem dX2_traceWay_19 : decode cX2_traceWay 19 = .ok (.getfield 150, 3) := by decide +kernel
theorem dX2_traceWay_22 : decode cX2_traceWay 22 = .ok (.aload_n 0, 1) := by decide +kernel
theorem dX2_traceWay_23 : decode cX2_traceWay 23 = .ok (.getfield 43, 3) := by decide +kernel
theorem dX2_traceWay_26 : decode cX2_traceWay 26 = .ok (.arraylength, 1) := by decide +kernel
theorem dX2_traceWay_27 : decode cX2_traceWay 27 = .ok (.if_icmp .ge 50, 3) := by decide +kernel
theorem dX2_traceWay_30 : decode cX2_traceWay 30 = .ok (.aload_n 0, 1) := by decide +kernel
theorem dX2_traceWay_31 : decode cX2_traceWay 31 = .ok (.getfield 40, 3) := by decide +kernel
theorem dX2_traceWay_34 : decode cX2_traceWay 34 = .ok (.iload_n 1, 1) := by decide +kernel
theorem dX2_traceWay_35 : decode cX2_traceWay 35 = .ok (.invokevirtual 156, 3) := by decide +kernel
theorem dX2_traceWay_38 : decode cX2_traceWay 38 = .ok (.istore_n 2, 1) := by decide +kernel
theorem dX2_traceWay_39 : decode cX2_traceWay 39 = .ok (.iload_n 2, 1) := by decide +kernel
theorem dX2_traceWay_40 : decode cX2_traceWay 40 = .ok (.iconst (-1), 1) := by decide +kernel
theorem dX2_traceWay_41 : decode cX2_traceWay 41 = .ok (.if_icmp .ne 4, 3) := by decide +kernel
theorem dX2_traceWay_44 : decode cX2_traceWay 44 = .ok (.return_, 1) := by decide +kernel
theorem dX2_traceWay_45 : decode cX2_traceWay 45 = .ok (.aload_n 0, 1) := by decide +kernel
theorem dX2_traceWay_46 : decode cX2_traceWay 46 = .ok (.getfield 43, 3) := by decide +kernel
theorem dX2_traceWay_49 : decode cX2_traceWay 49 = .ok (.aload_n 0, 1) := by decide +kernel
theorem dX2_traceWay_50 : decode cX2_traceWay 50 = .ok (.getfield 150, 3) := by decide +kernel
theorem dX2_traceWay_53 : decode cX2_traceWay 53 = .ok (.iload_n 2, 1) := by decide +kernel
theorem dX2_traceWay_54 : decode cX2_traceWay 54 = .ok (.iastore, 1) := by decide +kernel
theorem dX2_traceWay_55 : decode cX2_traceWay 55 = .ok (.aload_n 0, 1) := by decide +kernel
theorem dX2_traceWay_56 : decode cX2_traceWay 56 = .ok (.dup, 1) := by decide +kernel
theorem dX2_traceWay_57 : decode cX2_traceWay 57 = .ok (.getfield 150, 3) := by decide +kernel
theorem dX2_traceWay_60 : decode cX2_traceWay 60 = .ok (.iconst 1, 1) := by decide +kernel
theorem dX2_traceWay_61 : decode cX2_traceWay 61 = .ok (.iadd, 1) := by decide +kernel
theorem dX2_traceWay_62 : decode cX2_traceWay 62 = .ok (.putfield 150, 3) := by decide +kernel
theorem dX2_traceWay_65 : decode cX2_traceWay 65 = .ok (.aload_n 0, 1) := by decide +kernel
theorem dX2_traceWay_66 : decode cX2_traceWay 66 = .ok (.getfield 27, 3) := by decide +kernel
theorem dX2_traceWay_69 : decode cX2_traceWay 69 = .ok (.iload_n 2, 1) := by decide +kernel
theorem dX2_traceWay_70 : decode cX2_traceWay 70 = .ok (.invokevirtual 160, 3) := by decide +kernel
theorem dX2_traceWay_73 : decode cX2_traceWay 73 = .ok (.istore_n 1, 1) := by decide +kernel
theorem dX2_traceWay_74 : decode cX2_traceWay 74 = .ok (.goto (-64), 3) := by decide +kernel
theorem dX2_traceWay_77 : decode cX2_traceWay 77 = .ok (.return_, 1) := by decide +kernel
theorem dX2_leastOnWay_0 : decode cX2_leastOnWay 0 = .ok (.aload_n 0, 1) := by decide +kernel
theorem dX2_leastOnWay_1 : decode cX2_leastOnWay 1 = .ok (.getfield 150, 3) := by decide +kernel
theorem dX2_leastOnWay_4 : decode cX2_leastOnWay 4 = .ok (.ifCond .ne 5, 3) := by decide +kernel
theorem dX2_leastOnWay_7 : decode cX2_leastOnWay 7 = .ok (.iconst 0, 1) := by decide +kernel
theorem dX2_leastOnWay_8 : decode cX2_leastOnWay 8 = .ok (.ireturn, 1) := by decide +kernel
theorem dX2_leastOnWay_9 : decode cX2_leastOnWay 9 = .ok (.aload_n 0, 1) := by decide +kernel
theorem dX2_leastOnWay_10 : decode cX2_leastOnWay 10 = .ok (.getfield 27, 3) := by decide +kernel
theorem dX2_leastOnWay_13 : decode cX2_leastOnWay 13 = .ok (.aload_n 0, 1) := by decide +kernel
theorem dX2_leastOnWay_14 : decode cX2_leastOnWay 14 = .ok (.getfield 43, 3) := by decide +kernel
theorem dX2_leastOnWay_17 : decode cX2_leastOnWay 17 = .ok (.iconst 0, 1) := by decide +kernel
theorem dX2_leastOnWay_18 : decode cX2_leastOnWay 18 = .ok (.iaload, 1) := by decide +kernel
theorem dX2_leastOnWay_19 : decode cX2_leastOnWay 19 = .ok (.invokevirtual 163, 3) := by decide +kernel
theorem dX2_leastOnWay_22 : decode cX2_leastOnWay 22 = .ok (.istore_n 1, 1) := by decide +kernel
theorem dX2_leastOnWay_23 : decode cX2_leastOnWay 23 = .ok (.iconst 1, 1) := by decide +kernel
theorem dX2_leastOnWay_24 : decode cX2_leastOnWay 24 = .ok (.istore_n 2, 1) := by decide +kernel
theorem dX2_leastOnWay_25 : decode cX2_leastOnWay 25 = .ok (.iload_n 2, 1) := by decide +kernel
theorem dX2_leastOnWay_26 : decode cX2_leastOnWay 26 = .ok (.aload_n 0, 1) := by decide +kernel
theorem dX2_leastOnWay_27 : decode cX2_leastOnWay 27 = .ok (.getfield 150, 3) := by decide +kernel
theorem dX2_leastOnWay_30 : decode cX2_leastOnWay 30 = .ok (.if_icmp .ge 27, 3) := by decide +kernel
theorem dX2_leastOnWay_33 : decode cX2_leastOnWay 33 = .ok (.iload_n 1, 1) := by decide +kernel
theorem dX2_leastOnWay_34 : decode cX2_leastOnWay 34 = .ok (.aload_n 0, 1) := by decide +kernel
theorem dX2_leastOnWay_35 : decode cX2_leastOnWay 35 = .ok (.getfield 27, 3) := by decide +kernel
theorem dX2_leastOnWay_38 : decode cX2_leastOnWay 38 = .ok (.aload_n 0, 1) := by decide +kernel
theorem dX2_leastOnWay_39 : decode cX2_leastOnWay 39 = .ok (.getfield 43, 3) := by decide +kernel
theorem dX2_leastOnWay_42 : decode cX2_leastOnWay 42 = .ok (.iload_n 2, 1) := by decide +kernel
theorem dX2_leastOnWay_43 : decode cX2_leastOnWay 43 = .ok (.iaload, 1) := by decide +kernel
theorem dX2_leastOnWay_44 : decode cX2_leastOnWay 44 = .ok (.invokevirtual 163, 3) := by decide +kernel
theorem dX2_leastOnWay_47 : decode cX2_leastOnWay 47 = .ok (.invokestatic 128, 3) := by decide +kernel
theorem dX2_leastOnWay_50 : decode cX2_leastOnWay 50 = .ok (.istore_n 1, 1) := by decide +kernel
theorem dX2_leastOnWay_51 : decode cX2_leastOnWay 51 = .ok (.iinc 2 1, 3) := by decide +kernel
theorem dX2_leastOnWay_54 : decode cX2_leastOnWay 54 = .ok (.goto (-29), 3) := by decide +kernel
theorem dX2_leastOnWay_57 : decode cX2_leastOnWay 57 = .ok (.iload_n 1, 1) := by decide +kernel
theorem dX2_leastOnWay_58 : decode cX2_leastOnWay 58 = .ok (.ireturn, 1) := by decide +kernel
theorem dX2_flowsFit_0 : decode cX2_flowsFit 0 = .ok (.iconst 0, 1) := by decide +kernel
theorem dX2_flowsFit_1 : decode cX2_flowsFit 1 = .ok (.istore_n 1, 1) := by decide +kernel
theorem dX2_flowsFit_2 : decode cX2_flowsFit 2 = .ok (.iload_n 1, 1) := by decide +kernel
theorem dX2_flowsFit_3 : decode cX2_flowsFit 3 = .ok (.aload_n 0, 1) := by decide +kernel
theorem dX2_flowsFit_4 : decode cX2_flowsFit 4 = .ok (.getfield 27, 3) := by decide +kernel
theorem dX2_flowsFit_7 : decode cX2_flowsFit 7 = .ok (.getfield 122, 3) := by decide +kernel
theorem dX2_flowsFit_10 : decode cX2_flowsFit 10 = .ok (.if_icmp .ge 44, 3) := by decide +kernel
theorem dX2_flowsFit_13 : decode cX2_flowsFit 13 = .ok (.aload_n 0, 1) := by decide +kernel
theorem dX2_flowsFit_14 : decode cX2_flowsFit 14 = .ok (.getfield 27, 3) := by decide +kernel
theorem dX2_flowsFit_17 : decode cX2_flowsFit 17 = .ok (.getfield 98, 3) := by decide +kernel
theorem dX2_flowsFit_20 : decode cX2_flowsFit 20 = .ok (.iload_n 1, 1) := by decide +kernel
theorem dX2_flowsFit_21 : decode cX2_flowsFit 21 = .ok (.iaload, 1) := by decide +kernel
theorem dX2_flowsFit_22 : decode cX2_flowsFit 22 = .ok (.ifCond .lt 24, 3) := by decide +kernel
theorem dX2_flowsFit_25 : decode cX2_flowsFit 25 = .ok (.aload_n 0, 1) := by decide +kernel
theorem dX2_flowsFit_26 : decode cX2_flowsFit 26 = .ok (.getfield 27, 3) := by decide +kernel
theorem dX2_flowsFit_29 : decode cX2_flowsFit 29 = .ok (.getfield 98, 3) := by decide +kernel
theorem dX2_flowsFit_32 : decode cX2_flowsFit 32 = .ok (.iload_n 1, 1) := by decide +kernel
theorem dX2_flowsFit_33 : decode cX2_flowsFit 33 = .ok (.iaload, 1) := by decide +kernel
theorem dX2_flowsFit_34 : decode cX2_flowsFit 34 = .ok (.aload_n 0, 1) := by decide +kernel
theorem dX2_flowsFit_35 : decode cX2_flowsFit 35 = .ok (.getfield 27, 3) := by decide +kernel
theorem dX2_flowsFit_38 : decode cX2_flowsFit 38 = .ok (.getfield 166, 3) := by decide +kernel
theorem dX2_flowsFit_41 : decode cX2_flowsFit 41 = .ok (.iload_n 1, 1) := by decide +kernel
theorem dX2_flowsFit_42 : decode cX2_flowsFit 42 = .ok (.iaload, 1) := by decide +kernel
theorem dX2_flowsFit_43 : decode cX2_flowsFit 43 = .ok (.if_icmp .le 5, 3) := by decide +kernel
theorem dX2_flowsFit_46 : decode cX2_flowsFit 46 = .ok (.iconst 0, 1) := by decide +kernel
theorem dX2_flowsFit_47 : decode cX2_flowsFit 47 = .ok (.ireturn, 1) := by decide +kernel
theorem dX2_flowsFit_48 : decode cX2_flowsFit 48 = .ok (.iinc 1 1, 3) := by decide +kernel
theorem dX2_flowsFit_51 : decode cX2_flowsFit 51 = .ok (.goto (-49), 3) := by decide +kernel
theorem dX2_flowsFit_54 : decode cX2_flowsFit 54 = .ok (.iconst 1, 1) := by decide +kernel
theorem dX2_flowsFit_55 : decode cX2_flowsFit 55 = .ok (.ireturn, 1) := by decide +kernel
theorem dX2_nodesPassOn_0 : decode cX2_nodesPassOn 0 = .ok (.iconst 0, 1) := by decide +kernel
theorem dX2_nodesPassOn_1 : decode cX2_nodesPassOn 1 = .ok (.istore_n 1, 1) := by decide +kernel
theorem dX2_nodesPassOn_2 : decode cX2_nodesPassOn 2 = .ok (.iload_n 1, 1) := by decide +kernel
theorem dX2_nodesPassOn_3 : decode cX2_nodesPassOn 3 = .ok (.aload_n 0, 1) := by decide +kernel
theorem dX2_nodesPassOn_4 : decode cX2_nodesPassOn 4 = .ok (.getfield 27, 3) := by decide +kernel
theorem dX2_nodesPassOn_7 : decode cX2_nodesPassOn 7 = .ok (.getfield 119, 3) := by decide +kernel
theorem dX2_nodesPassOn_10 : decode cX2_nodesPassOn 10 = .ok (.if_icmp .ge 40, 3) := by decide +kernel
theorem dX2_nodesPassOn_13 : decode cX2_nodesPassOn 13 = .ok (.iload_n 1, 1) := by decide +kernel
theorem dX2_nodesPassOn_14 : decode cX2_nodesPassOn 14 = .ok (.aload_n 0, 1) := by decide +kernel
theorem dX2_nodesPassOn_15 : decode cX2_nodesPassOn 15 = .ok (.getfield 11, 3) := by decide +kernel
theorem dX2_nodesPassOn_18 : decode cX2_nodesPassOn 18 = .ok (.if_icmp .eq 26, 3) := by decide +kernel
theorem dX2_nodesPassOn_21 : decode cX2_nodesPassOn 21 = .ok (.iload_n 1, 1) := by decide +kernel
theorem dX2_nodesPassOn_22 : decode cX2_nodesPassOn 22 = .ok (.aload_n 0, 1) := by decide +kernel
theorem dX2_nodesPassOn_23 : decode cX2_nodesPassOn 23 = .ok (.getfield 15, 3) := by decide +kernel
theorem dX2_nodesPassOn_26 : decode cX2_nodesPassOn 26 = .ok (.if_icmp .eq 18, 3) := by decide +kernel
theorem dX2_nodesPassOn_29 : decode cX2_nodesPassOn 29 = .ok (.aload_n 0, 1) := by decide +kernel
theorem dX2_nodesPassOn_30 : decode cX2_nodesPassOn 30 = .ok (.getfield 27, 3) := by decide +kernel
theorem dX2_nodesPassOn_33 : decode cX2_nodesPassOn 33 = .ok (.iload_n 1, 1) := by decide +kernel
theorem dX2_nodesPassOn_34 : decode cX2_nodesPassOn 34 = .ok (.invokevirtual 169, 3) := by decide +kernel
theorem dX2_nodesPassOn_37 : decode cX2_nodesPassOn 37 = .ok (.lconst 0, 1) := by decide +kernel
theorem dX2_nodesPassOn_38 : decode cX2_nodesPassOn 38 = .ok (.lcmp, 1) := by decide +kernel
theorem dX2_nodesPassOn_39 : decode cX2_nodesPassOn 39 = .ok (.ifCond .eq 5, 3) := by decide +kernel
theorem dX2_nodesPassOn_42 : decode cX2_nodesPassOn 42 = .ok (.iconst 0, 1) := by decide +kernel
theorem dX2_nodesPassOn_43 : decode cX2_nodesPassOn 43 = .ok (.ireturn, 1) := by decide +kernel
theorem dX2_nodesPassOn_44 : decode cX2_nodesPassOn 44 = .ok (.iinc 1 1, 3) := by decide +kernel
theorem dX2_nodesPassOn_47 : decode cX2_nodesPassOn 47 = .ok (.goto (-45), 3) := by decide +kernel
theorem dX2_nodesPassOn_50 : decode cX2_nodesPassOn 50 = .ok (.iconst 1, 1) := by decide +kernel
theorem dX2_nodesPassOn_51 : decode cX2_nodesPassOn 51 = .ok (.ireturn, 1) := by decide +kernel
theorem dX2_cutIsTight_0 : decode cX2_cutIsTight 0 = .ok (.lconst 0, 1) := by decide +kernel
theorem dX2_cutIsTight_1 : decode cX2_cutIsTight 1 = .ok (.lstore_n 1, 1) := by decide +kernel
theorem dX2_cutIsTight_2 : decode cX2_cutIsTight 2 = .ok (.iconst 0, 1) := by decide +kernel
theorem dX2_cutIsTight_3 : decode cX2_cutIsTight 3 = .ok (.istore_n 3, 1) := by decide +kernel
theorem dX2_cutIsTight_4 : decode cX2_cutIsTight 4 = .ok (.iload_n 3, 1) := by decide +kernel
theorem dX2_cutIsTight_5 : decode cX2_cutIsTight 5 = .ok (.aload_n 0, 1) := by decide +kernel
theorem dX2_cutIsTight_6 : decode cX2_cutIsTight 6 = .ok (.getfield 27, 3) := by decide +kernel
theorem dX2_cutIsTight_9 : decode cX2_cutIsTight 9 = .ok (.getfield 122, 3) := by decide +kernel
theorem dX2_cutIsTight_12 : decode cX2_cutIsTight 12 = .ok (.if_icmp .ge 115, 3) := by decide +kernel
theorem dX2_cutIsTight_15 : decode cX2_cutIsTight 15 = .ok (.aload_n 0, 1) := by decide +kernel
theorem dX2_cutIsTight_16 : decode cX2_cutIsTight 16 = .ok (.getfield 36, 3) := by decide +kernel
theorem dX2_cutIsTight_19 : decode cX2_cutIsTight 19 = .ok (.aload_n 0, 1) := by decide +kernel
theorem dX2_cutIsTight_20 : decode cX2_cutIsTight 20 = .ok (.getfield 27, 3) := by decide +kernel
theorem dX2_cutIsTight_23 : decode cX2_cutIsTight 23 = .ok (.getfield 173, 3) := by decide +kernel
theorem dX2_cutIsTight_26 : decode cX2_cutIsTight 26 = .ok (.iload_n 3, 1) := by decide +kernel
theorem dX2_cutIsTight_27 : decode cX2_cutIsTight 27 = .ok (.iaload, 1) := by decide +kernel
theorem dX2_cutIsTight_28 : decode cX2_cutIsTight 28 = .ok (.invokevirtual 104, 3) := by decide +kernel
theorem dX2_cutIsTight_31 : decode cX2_cutIsTight 31 = .ok (.istore 4, 2) := by decide +kernel
theorem dX2_cutIsTight_33 : decode cX2_cutIsTight 33 = .ok (.aload_n 0, 1) := by decide +kernel
theorem dX2_cutIsTight_34 : decode cX2_cutIsTight 34 = .ok (.getfield 36, 3) := by decide +kernel
theorem dX2_cutIsTight_37 : decode cX2_cutIsTight 37 = .ok (.aload_n 0, 1) := by decide +kernel
theorem dX2_cutIsTight_38 : decode cX2_cutIsTight 38 = .ok (.getfield 27, 3) := by decide +kernel
theorem dX2_cutIsTight_41 : decode cX2_cutIsTight 41 = .ok (.getfield 176, 3) := by decide +kernel
theorem dX2_cutIsTight_44 : decode cX2_cutIsTight 44 = .ok (.iload_n 3, 1) := by decide +kernel
theorem dX2_cutIsTight_45 : decode cX2_cutIsTight 45 = .ok (.iaload, 1) := by decide +kernel
theorem dX2_cutIsTight_46 : decode cX2_cutIsTight 46 = .ok (.invokevirtual 104, 3) := by decide +kernel
theorem dX2_cutIsTight_49 : decode cX2_cutIsTight 49 = .ok (.istore 5, 2) := by decide +kernel
theorem dX2_cutIsTight_51 : decode cX2_cutIsTight 51 = .ok (.iload 4, 2) := by decide +kernel
theorem dX2_cutIsTight_53 : decode cX2_cutIsTight 53 = .ok (.ifCond .eq 44, 3) := by decide +kernel
theorem dX2_cutIsTight_56 : decode cX2_cutIsTight 56 = .ok (.iload 5, 2) := by decide +kernel
theorem dX2_cutIsTight_58 : decode cX2_cutIsTight 58 = .ok (.ifCond .ne 39, 3) := by decide +kernel
theorem dX2_cutIsTight_61 : decode cX2_cutIsTight 61 = .ok (.aload_n 0, 1) := by decide +kernel
theorem dX2_cutIsTight_62 : decode cX2_cutIsTight 62 = .ok (.getfield 27, 3) := by decide +kernel
theorem dX2_cutIsTight_65 : decode cX2_cutIsTight 65 = .ok (.getfield 98, 3) := by decide +kernel
theorem dX2_cutIsTight_68 : decode cX2_cutIsTight 68 = .ok (.iload_n 3, 1) := by decide +kernel
theorem dX2_cutIsTight_69 : decode cX2_cutIsTight 69 = .ok (.iaload, 1) := by decide +kernel
theorem dX2_cutIsTight_70 : decode cX2_cutIsTight 70 = .ok (.aload_n 0, 1) := by decide +kernel
theorem dX2_cutIsTight_71 : decode cX2_cutIsTight 71 = .ok (.getfield 27, 3) := by decide +kernel
theorem dX2_cutIsTight_74 : decode cX2_cutIsTight 74 = .ok (.getfield 166, 3) := by decide +kernel
theorem dX2_cutIsTight_77 : decode cX2_cutIsTight 77 = .ok (.iload_n 3, 1) := by decide +kernel
theorem dX2_cutIsTight_78 : decode cX2_cutIsTight 78 = .ok (.iaload, 1) := by decide +kernel
theorem dX2_cutIsTight_79 : decode cX2_cutIsTight 79 = .ok (.if_icmp .eq 5, 3) := by decide +kernel
theorem dX2_cutIsTight_82 : decode cX2_cutIsTight 82 = .ok (.iconst 0, 1) := by decide +kernel
theorem dX2_cutIsTight_83 : decode cX2_cutIsTight 83 = .ok (.ireturn, 1) := by decide +kernel
theorem dX2_cutIsTight_84 : decode cX2_cutIsTight 84 = .ok (.lload_n 1, 1) := by decide +kernel
theorem dX2_cutIsTight_85 : decode cX2_cutIsTight 85 = .ok (.aload_n 0, 1) := by decide +kernel
theorem dX2_cutIsTight_86 : decode cX2_cutIsTight 86 = .ok (.getfield 27, 3) := by decide +kernel
theorem dX2_cutIsTight_89 : decode cX2_cutIsTight 89 = .ok (.getfield 166, 3) := by decide +kernel
theorem dX2_cutIsTight_92 : decode cX2_cutIsTight 92 = .ok (.iload_n 3, 1) := by decide +kernel
theorem dX2_cutIsTight_93 : decode cX2_cutIsTight 93 = .ok (.iaload, 1) := by decide +kernel
theorem dX2_cutIsTight_94 : decode cX2_cutIsTight 94 = .ok (.i2l, 1) := by decide +kernel
theorem dX2_cutIsTight_95 : decode cX2_cutIsTight 95 = .ok (.ladd, 1) := by decide +kernel
theorem dX2_cutIsTight_96 : decode cX2_cutIsTight 96 = .ok (.lstore_n 1, 1) := by decide +kernel
theorem dX2_cutIsTight_97 : decode cX2_cutIsTight 97 = .ok (.iload 4, 2) := by decide +kernel
theorem dX2_cutIsTight_99 : decode cX2_cutIsTight 99 = .ok (.ifCond .ne 22, 3) := by decide +kernel
theorem dX2_cutIsTight_102 : decode cX2_cutIsTight 102 = .ok (.iload 5, 2) := by decide +kernel
theorem dX2_cutIsTight_104 : decode cX2_cutIsTight 104 = .ok (.ifCond .eq 17, 3) := by decide +kernel
theorem dX2_cutIsTight_107 : decode cX2_cutIsTight 107 = .ok (.aload_n 0, 1) := by decide +kernel
theorem dX2_cutIsTight_108 : decode cX2_cutIsTight 108 = .ok (.getfield 27, 3) := by decide +kernel
theorem dX2_cutIsTight_111 : decode cX2_cutIsTight 111 = .ok (.getfield 98, 3) := by decide +kernel
theorem dX2_cutIsTight_114 : decode cX2_cutIsTight 114 = .ok (.iload_n 3, 1) := by decide +kernel
theorem dX2_cutIsTight_115 : decode cX2_cutIsTight 115 = .ok (.iaload, 1) := by decide +kernel
theorem dX2_cutIsTight_116 : decode cX2_cutIsTight 116 = .ok (.ifCond .eq 5, 3) := by decide +kernel
theorem dX2_cutIsTight_119 : decode cX2_cutIsTight 119 = .ok (.iconst 0, 1) := by decide +kernel
theorem dX2_cutIsTight_120 : decode cX2_cutIsTight 120 = .ok (.ireturn, 1) := by decide +kernel
theorem dX2_cutIsTight_121 : decode cX2_cutIsTight 121 = .ok (.iinc 3 1, 3) := by decide +kernel
theorem dX2_cutIsTight_124 : decode cX2_cutIsTight 124 = .ok (.goto (-120), 3) := by decide +kernel
theorem dX2_cutIsTight_127 : decode cX2_cutIsTight 127 = .ok (.lload_n 1, 1) := by decide +kernel
theorem dX2_cutIsTight_128 : decode cX2_cutIsTight 128 = .ok (.aload_n 0, 1) := by decide +kernel
theorem dX2_cutIsTight_129 : decode cX2_cutIsTight 129 = .ok (.getfield 89, 3) := by decide +kernel
theorem dX2_cutIsTight_132 : decode cX2_cutIsTight 132 = .ok (.i2l, 1) := by decide +kernel
theorem dX2_cutIsTight_133 : decode cX2_cutIsTight 133 = .ok (.lcmp, 1) := by decide +kernel
theorem dX2_cutIsTight_134 : decode cX2_cutIsTight 134 = .ok (.ifCond .ne 7, 3) := by decide +kernel
theorem dX2_cutIsTight_137 : decode cX2_cutIsTight 137 = .ok (.iconst 1, 1) := by decide +kernel
theorem dX2_cutIsTight_138 : decode cX2_cutIsTight 138 = .ok (.goto 4, 3) := by decide +kernel
theorem dX2_cutIsTight_141 : decode cX2_cutIsTight 141 = .ok (.iconst 0, 1) := by decide +kernel
theorem dX2_cutIsTight_142 : decode cX2_cutIsTight 142 = .ok (.ireturn, 1) := by decide +kernel
theorem dX2_potentialsHold_0 : decode cX2_potentialsHold 0 = .ok (.iconst 0, 1) := by decide +kernel
theorem dX2_potentialsHold_1 : decode cX2_potentialsHold 1 = .ok (.istore_n 1, 1) := by decide +kernel
theorem dX2_potentialsHold_2 : decode cX2_potentialsHold 2 = .ok (.iload_n 1, 1) := by decide +kernel
theorem dX2_potentialsHold_3 : decode cX2_potentialsHold 3 = .ok (.aload_n 0, 1) := by decide +kernel
theorem dX2_potentialsHold_4 : decode cX2_potentialsHold 4 = .ok (.getfield 27, 3) := by decide +kernel
theorem dX2_potentialsHold_7 : decode cX2_potentialsHold 7 = .ok (.invokevirtual 179, 3) := by decide +kernel
theorem dX2_potentialsHold_10 : decode cX2_potentialsHold 10 = .ok (.if_icmp .ge 95, 3) := by decide +kernel
theorem dX2_potentialsHold_13 : decode cX2_potentialsHold 13 = .ok (.aload_n 0, 1) := by decide +kernel
theorem dX2_potentialsHold_14 : decode cX2_potentialsHold 14 = .ok (.getfield 27, 3) := by decide +kernel
theorem dX2_potentialsHold_17 : decode cX2_potentialsHold 17 = .ok (.iload_n 1, 1) := by decide +kernel
theorem dX2_potentialsHold_18 : decode cX2_potentialsHold 18 = .ok (.invokevirtual 182, 3) := by decide +kernel
theorem dX2_potentialsHold_21 : decode cX2_potentialsHold 21 = .ok (.istore_n 2, 1) := by decide +kernel
theorem dX2_potentialsHold_22 : decode cX2_potentialsHold 22 = .ok (.aload_n 0, 1) := by decide +kernel
theorem dX2_potentialsHold_23 : decode cX2_potentialsHold 23 = .ok (.getfield 27, 3) := by decide +kernel
theorem dX2_potentialsHold_26 : decode cX2_potentialsHold 26 = .ok (.iload_n 1, 1) := by decide +kernel
theorem dX2_potentialsHold_27 : decode cX2_potentialsHold 27 = .ok (.invokevirtual 160, 3) := by decide +kernel
theorem dX2_potentialsHold_30 : decode cX2_potentialsHold 30 = .ok (.istore_n 3, 1) := by decide +kernel
theorem dX2_potentialsHold_31 : decode cX2_potentialsHold 31 = .ok (.aload_n 0, 1) := by decide +kernel
theorem dX2_potentialsHold_32 : decode cX2_potentialsHold 32 = .ok (.getfield 27, 3) := by decide +kernel
theorem dX2_potentialsHold_35 : decode cX2_potentialsHold 35 = .ok (.iload_n 1, 1) := by decide +kernel
theorem dX2_potentialsHold_36 : decode cX2_potentialsHold 36 = .ok (.invokevirtual 163, 3) := by decide +kernel
theorem dX2_potentialsHold_39 : decode cX2_potentialsHold 39 = .ok (.ifCond .le 60, 3) := by decide +kernel
theorem dX2_potentialsHold_42 : decode cX2_potentialsHold 42 = .ok (.aload_n 0, 1) := by decide +kernel
theorem dX2_potentialsHold_43 : decode cX2_potentialsHold 43 = .ok (.getfield 36, 3) := by decide +kernel
theorem dX2_potentialsHold_46 : decode cX2_potentialsHold 46 = .ok (.iload_n 2, 1) := by decide +kernel
theorem dX2_potentialsHold_47 : decode cX2_potentialsHold 47 = .ok (.invokevirtual 104, 3) := by decide +kernel
theorem dX2_potentialsHold_50 : decode cX2_potentialsHold 50 = .ok (.ifCond .eq 49, 3) := by decide +kernel
theorem dX2_potentialsHold_53 : decode cX2_potentialsHold 53 = .ok (.aload_n 0, 1) := by decide +kernel
theorem dX2_potentialsHold_54 : decode cX2_potentialsHold 54 = .ok (.getfield 36, 3) := by decide +kernel
theorem dX2_potentialsHold_57 : decode cX2_potentialsHold 57 = .ok (.iload_n 3, 1) := by decide +kernel
theorem dX2_potentialsHold_58 : decode cX2_potentialsHold 58 = .ok (.invokevirtual 104, 3) := by decide +kernel
theorem dX2_potentialsHold_61 : decode cX2_potentialsHold 61 = .ok (.ifCond .ne 6, 3) := by decide +kernel
theorem dX2_potentialsHold_64 : decode cX2_potentialsHold 64 = .ok (.goto 35, 3) := by decide +kernel
theorem dX2_potentialsHold_67 : decode cX2_potentialsHold 67 = .ok (.aload_n 0, 1) := by decide +kernel
theorem dX2_potentialsHold_68 : decode cX2_potentialsHold 68 = .ok (.getfield 36, 3) := by decide +kernel
theorem dX2_potentialsHold_71 : decode cX2_potentialsHold 71 = .ok (.getfield 101, 3) := by decide +kernel
theorem dX2_potentialsHold_74 : decode cX2_potentialsHold 74 = .ok (.iload_n 2, 1) := by decide +kernel
theorem dX2_potentialsHold_75 : decode cX2_potentialsHold 75 = .ok (.iaload, 1) := by decide +kernel
theorem dX2_potentialsHold_76 : decode cX2_potentialsHold 76 = .ok (.aload_n 0, 1) := by decide +kernel
theorem dX2_potentialsHold_77 : decode cX2_potentialsHold 77 = .ok (.getfield 27, 3) := by decide +kernel
theorem dX2_potentialsHold_80 : decode cX2_potentialsHold 80 = .ok (.iload_n 1, 1) := by decide +kernel
theorem dX2_potentialsHold_81 : decode cX2_potentialsHold 81 = .ok (.invokevirtual 185, 3) := by decide +kernel
theorem dX2_potentialsHold_84 : decode cX2_potentialsHold 84 = .ok (.iadd, 1) := by decide +kernel
theorem dX2_potentialsHold_85 : decode cX2_potentialsHold 85 = .ok (.aload_n 0, 1) := by decide +kernel
theorem dX2_potentialsHold_86 : decode cX2_potentialsHold 86 = .ok (.getfield 36, 3) := by decide +kernel
theorem dX2_potentialsHold_89 : decode cX2_potentialsHold 89 = .ok (.getfield 101, 3) := by decide +kernel
theorem dX2_potentialsHold_92 : decode cX2_potentialsHold 92 = .ok (.iload_n 3, 1) := by decide +kernel
theorem dX2_potentialsHold_93 : decode cX2_potentialsHold 93 = .ok (.iaload, 1) := by decide +kernel
theorem dX2_potentialsHold_94 : decode cX2_potentialsHold 94 = .ok (.if_icmp .ge 5, 3) := by decide +kernel
theorem dX2_potentialsHold_97 : decode cX2_potentialsHold 97 = .ok (.iconst 0, 1) := by decide +kernel
theorem dX2_potentialsHold_98 : decode cX2_potentialsHold 98 = .ok (.ireturn, 1) := by decide +kernel
theorem dX2_potentialsHold_99 : decode cX2_potentialsHold 99 = .ok (.iinc 1 1, 3) := by decide +kernel
theorem dX2_potentialsHold_102 : decode cX2_potentialsHold 102 = .ok (.goto (-100), 3) := by decide +kernel
theorem dX2_potentialsHold_105 : decode cX2_potentialsHold 105 = .ok (.iconst 1, 1) := by decide +kernel
theorem dX2_potentialsHold_106 : decode cX2_potentialsHold 106 = .ok (.ireturn, 1) := by decide +kernel
theorem dJ9_max_7cf53_0 : decode cJ9_max_7cf53 0 = .ok (.iload_n 0, 1) := by decide +kernel
theorem dJ9_max_7cf53_1 : decode cJ9_max_7cf53 1 = .ok (.iload_n 1, 1) := by decide +kernel
theorem dJ9_max_7cf53_2 : decode cJ9_max_7cf53 2 = .ok (.if_icmp .lt 7, 3) := by decide +kernel
theorem dJ9_max_7cf53_5 : decode cJ9_max_7cf53 5 = .ok (.iload_n 0, 1) := by decide +kernel
theorem dJ9_max_7cf53_6 : decode cJ9_max_7cf53 6 = .ok (.goto 4, 3) := by decide +kernel
theorem dJ9_max_7cf53_9 : decode cJ9_max_7cf53 9 = .ok (.iload_n 1, 1) := by decide +kernel
theorem dJ9_max_7cf53_10 : decode cJ9_max_7cf53 10 = .ok (.ireturn, 1) := by decide +kernel
theorem dJ9_min_7cf53_0 : decode cJ9_min_7cf53 0 = .ok (.iload_n 0, 1) := by decide +kernel
theorem dJ9_min_7cf53_1 : decode cJ9_min_7cf53 1 = .ok (.iload_n 1, 1) := by decide +kernel
theorem dJ9_min_7cf53_2 : decode cJ9_min_7cf53 2 = .ok (.if_icmp .gt 7, 3) := by decide +kernel
theorem dJ9_min_7cf53_5 : decode cJ9_min_7cf53 5 = .ok (.iload_n 0, 1) := by decide +kernel
theorem dJ9_min_7cf53_6 : decode cJ9_min_7cf53 6 = .ok (.goto 4, 3) := by decide +kernel
theorem dJ9_min_7cf53_9 : decode cJ9_min_7cf53 9 = .ok (.iload_n 1, 1) := by decide +kernel
theorem dJ9_min_7cf53_10 : decode cJ9_min_7cf53 10 = .ok (.ireturn, 1) := by decide +kernel
theorem dJ7_fill_53178_0 : decode cJ7_fill_53178 0 = .ok (.iconst 0, 1) := by decide +kernel
theorem dJ7_fill_53178_1 : decode cJ7_fill_53178 1 = .ok (.istore_n 2, 1) := by decide +kernel
theorem dJ7_fill_53178_2 : decode cJ7_fill_53178 2 = .ok (.aload_n 0, 1) := by decide +kernel
theorem dJ7_fill_53178_3 : decode cJ7_fill_53178 3 = .ok (.arraylength, 1) := by decide +kernel
theorem dJ7_fill_53178_4 : decode cJ7_fill_53178 4 = .ok (.istore_n 3, 1) := by decide +kernel
theorem dJ7_fill_53178_5 : decode cJ7_fill_53178 5 = .ok (.iload_n 2, 1) := by decide +kernel
theorem dJ7_fill_53178_6 : decode cJ7_fill_53178 6 = .ok (.iload_n 3, 1) := by decide +kernel
theorem dJ7_fill_53178_7 : decode cJ7_fill_53178 7 = .ok (.if_icmp .ge 13, 3) := by decide +kernel
theorem dJ7_fill_53178_10 : decode cJ7_fill_53178 10 = .ok (.aload_n 0, 1) := by decide +kernel
theorem dJ7_fill_53178_11 : decode cJ7_fill_53178 11 = .ok (.iload_n 2, 1) := by decide +kernel
theorem dJ7_fill_53178_12 : decode cJ7_fill_53178 12 = .ok (.iload_n 1, 1) := by decide +kernel
theorem dJ7_fill_53178_13 : decode cJ7_fill_53178 13 = .ok (.iastore, 1) := by decide +kernel
theorem dJ7_fill_53178_14 : decode cJ7_fill_53178 14 = .ok (.iinc 2 1, 3) := by decide +kernel
theorem dJ7_fill_53178_17 : decode cJ7_fill_53178 17 = .ok (.goto (-12), 3) := by decide +kernel
theorem dJ7_fill_53178_20 : decode cJ7_fill_53178 20 = .ok (.return_, 1) := by decide +kernel
end
section
theorem dX3_init_0 : decode cX3_init 0 = .ok (.aload_n 0, 1) := by decide +kernel
theorem dX3_init_1 : decode cX3_init 1 = .ok (.invokespecial 1, 3) := by decide +kernel
theorem dX3_init_4 : decode cX3_init 4 = .ok (.aload_n 0, 1) := by decide +kernel
theorem dX3_init_5 : decode cX3_init 5 = .ok (.bipush 40, 2) := by decide +kernel
theorem dX3_init_7 : decode cX3_init 7 = .ok (.newarray .int, 2) := by decide +kernel
theorem dX3_init_9 : decode cX3_init 9 = .ok (.putfield 7, 3) := by decide +kernel
theorem dX3_init_12 : decode cX3_init 12 = .ok (.aload_n 0, 1) := by decide +kernel
theorem dX3_init_13 : decode cX3_init 13 = .ok (.bipush 40, 2) := by decide +kernel
theorem dX3_init_15 : decode cX3_init 15 = .ok (.newarray .int, 2) := by decide +kernel
theorem dX3_init_17 : decode cX3_init 17 = .ok (.putfield 13, 3) := by decide +kernel
theorem dX3_init_20 : decode cX3_init 20 = .ok (.aload_n 0, 1) := by decide +kernel
theorem dX3_init_21 : decode cX3_init 21 = .ok (.bipush 40, 2) := by decide +kernel
theorem dX3_init_23 : decode cX3_init 23 = .ok (.newarray .int, 2) := by decide +kernel
theorem dX3_init_25 : decode cX3_init 25 = .ok (.putfield 16, 3) := by decide +kernel
theorem dX3_init_28 : decode cX3_init 28 = .ok (.aload_n 0, 1) := by decide +kernel
theorem dX3_init_29 : decode cX3_init 29 = .ok (.bipush 40, 2) := by decide +kernel
theorem dX3_init_31 : decode cX3_init 31 = .ok (.newarray .int, 2) := by decide +kernel
theorem dX3_init_33 : decode cX3_init 33 = .ok (.putfield 19, 3) := by decide +kernel
theorem dX3_init_36 : decode cX3_init 36 = .ok (.aload_n 0, 1) := by decide +kernel
theorem dX3_init_37 : decode cX3_init 37 = .ok (.bipush 40, 2) := by decide +kernel
theorem dX3_init_39 : decode cX3_init 39 = .ok (.newarray .int, 2) := by decide +kernel
theorem dX3_init_41 : decode cX3_init 41 = .ok (.putfield 22, 3) := by decide +kernel
theorem dX3_init_44 : decode cX3_init 44 = .ok (.aload_n 0, 1) := by decide +kernel
theorem dX3_init_45 : decode cX3_init 45 = .ok (.bipush 12, 2) := by decide +kernel
theorem dX3_init_47 : decode cX3_init 47 = .ok (.newarray .long, 2) := by decide +kernel
theorem dX3_init_49 : decode cX3_init 49 = .ok (.putfield 25, 3) := by decide +kernel
theorem dX3_init_52 : decode cX3_init 52 = .ok (.aload_n 0, 1) := by decide +kernel
theorem dX3_init_53 : decode cX3_init 53 = .ok (.bipush 12, 2) := by decide +kernel
theorem dX3_init_55 : decode cX3_init 55 = .ok (.newarray .int, 2) := by decide +kernel
theorem dX3_init_57 : decode cX3_init 57 = .ok (.putfield 29, 3) := by decide +kernel
theorem dX3_init_60 : decode cX3_init 60 = .ok (.aload_n 0, 1) := by decide +kernel
theorem dX3_init_61 : decode cX3_init 61 = .ok (.bipush 12, 2) := by decide +kernel
theorem dX3_init_63 : decode cX3_init 63 = .ok (.newarray .boolean, 2) := by decide +kernel
theorem dX3_init_65 : decode cX3_init 65 = .ok (.putfield 32, 3) := by decide +kernel
theorem dX3_init_68 : decode cX3_init 68 = .ok (.aload_n 0, 1) := by decide +kernel
theorem dX3_init_69 : decode cX3_init 69 = .ok (.bipush 12, 2) := by decide +kernel
theorem dX3_init_71 : decode cX3_init 71 = .ok (.newarray .int, 2) := by decide +kernel
theorem dX3_init_73 : decode cX3_init 73 = .ok (.putfield 36, 3) := by decide +kernel
theorem dX3_init_76 : decode cX3_init 76 = .ok (.aload_n 0, 1) := by decide +kernel
theorem dX3_init_77 : decode cX3_init 77 = .ok (.iload_n 1, 1) := by decide +kernel
theorem dX3_init_78 : decode cX3_init 78 = .ok (.iconst 2, 1) := by decide +kernel
theorem dX3_init_79 : decode cX3_init 79 = .ok (.if_icmp .ge 7, 3) := by decide +kernel
theorem dX3_init_82 : decode cX3_init 82 = .ok (.iconst 2, 1) := by decide +kernel
theorem dX3_init_83 : decode cX3_init 83 = .ok (.goto 15, 3) := by decide +kernel
theorem dX3_init_86 : decode cX3_init 86 = .ok (.iload_n 1, 1) := by decide +kernel
theorem dX3_init_87 : decode cX3_init 87 = .ok (.bipush 12, 2) := by decide +kernel
theorem dX3_init_89 : decode cX3_init 89 = .ok (.if_icmp .le 8, 3) := by decide +kernel
theorem dX3_init_92 : decode cX3_init 92 = .ok (.bipush 12, 2) := by decide +kernel
theorem dX3_init_94 : decode cX3_init 94 = .ok (.goto 4, 3) := by decide +kernel
theorem dX3_init_97 : decode cX3_init 97 = .ok (.iload_n 1, 1) := by decide +kernel
theorem dX3_init_98 : decode cX3_init 98 = .ok (.putfield 39, 3) := by decide +kernel
theorem dX3_init_101 : decode cX3_init 101 = .ok (.aload_n 0, 1) := by decide +kernel
theorem dX3_init_102 : decode cX3_init 102 = .ok (.iload_n 2, 1) := by decide +kernel
theorem dX3_init_103 : decode cX3_init 103 = .ok (.iconst 1, 1) := by decide +kernel
theorem dX3_init_104 : decode cX3_init 104 = .ok (.if_icmp .ge 7, 3) := by decide +kernel
theorem dX3_init_107 : decode cX3_init 107 = .ok (.iconst 1, 1) := by decide +kernel
theorem dX3_init_108 : decode cX3_init 108 = .ok (.goto 15, 3) := by decide +kernel
theorem dX3_init_111 : decode cX3_init 111 = .ok (.iload_n 2, 1) := by decide +kernel
theorem dX3_init_112 : decode cX3_init 112 = .ok (.bipush 40, 2) := by decide +kernel
theorem dX3_init_114 : decode cX3_init 114 = .ok (.if_icmp .le 8, 3) := by decide +kernel
theorem dX3_init_117 : decode cX3_init 117 = .ok (.bipush 40, 2) := by decide +kernel
theorem dX3_init_119 : decode cX3_init 119 = .ok (.goto 4, 3) := by decide +kernel
theorem dX3_init_122 : decode cX3_init 122 = .ok (.iload_n 2, 1) := by decide +kernel
theorem dX3_init_123 : decode cX3_init 123 = .ok (.putfield 43, 3) := by decide +kernel
theorem dX3_init_126 : decode cX3_init 126 = .ok (.return_, 1) := by decide +kernel
theorem dX3_isNode_0 : decode cX3_isNode 0 = .ok (.iload_n 1, 1) := by decide +kernel
theorem dX3_isNode_1 : decode cX3_isNode 1 = .ok (.ifCond .lt 15, 3) := by decide +kernel
theorem dX3_isNode_4 : decode cX3_isNode 4 = .ok (.iload_n 1, 1) := by decide +kernel
theorem dX3_isNode_5 : decode cX3_isNode 5 = .ok (.aload_n 0, 1) := by decide +kernel
theorem dX3_isNode_6 : decode cX3_isNode 6 = .ok (.getfield 39, 3) := by decide +kernel
theorem dX3_isNode_9 : decode cX3_isNode 9 = .ok (.if_icmp .ge 7, 3) := by decide +kernel
theorem dX3_isNode_12 : decode cX3_isNode 12 = .ok (.iconst 1, 1) := by decide +kernel
theorem dX3_isNode_13 : decode cX3_isNode 13 = .ok (.goto 4, 3) := by decide +kernel
theorem dX3_isNode_16 : decode cX3_isNode 16 = .ok (.iconst 0, 1) := by decide +kernel
theorem dX3_isNode_17 : decode cX3_isNode 17 = .ok (.ireturn, 1) := by decide +kernel
theorem dX3_gone_0 : decode cX3_gone 0 = .ok (.aload_n 0, 1) := by decide +kernel
theorem dX3_gone_1 : decode cX3_gone 1 = .ok (.iconst 0, 1) := by decide +kernel
theorem dX3_gone_2 : decode cX3_gone 2 = .ok (.putfield 46, 3) := by decide +kernel
theorem dX3_gone_5 : decode cX3_gone 5 = .ok (.aload_n 0, 1) := by decide +kernel
theorem dX3_gone_6 : decode cX3_gone 6 = .ok (.iconst 0, 1) := by decide +kernel
theorem dX3_gone_7 : decode cX3_gone 7 = .ok (.putfield 50, 3) := by decide +kernel
theorem dX3_gone_10 : decode cX3_gone 10 = .ok (.aload_n 0, 1) := by decide +kernel
theorem dX3_gone_11 : decode cX3_gone 11 = .ok (.iconst 0, 1) := by decide +kernel
theorem dX3_gone_12 : decode cX3_gone 12 = .ok (.putfield 53, 3) := by decide +kernel
theorem dX3_gone_15 : decode cX3_gone 15 = .ok (.iconst 0, 1) := by decide +kernel
theorem dX3_gone_16 : decode cX3_gone 16 = .ok (.istore_n 1, 1) := by decide +kernel
theorem dX3_gone_17 : decode cX3_gone 17 = .ok (.iload_n 1, 1) := by decide +kernel
theorem dX3_gone_18 : decode cX3_gone 18 = .ok (.aload_n 0, 1) := by decide +kernel
theorem dX3_gone_19 : decode cX3_gone 19 = .ok (.getfield 56, 3) := by decide +kernel
theorem dX3_gone_22 : decode cX3_gone 22 = .ok (.if_icmp .ge 16, 3) := by decide +kernel
theorem dX3_gone_25 : decode cX3_gone 25 = .ok (.aload_n 0, 1) := by decide +kernel
theorem dX3_gone_26 : decode cX3_gone 26 = .ok (.getfield 22, 3) := by decide +kernel
theorem dX3_gone_29 : decode cX3_gone 29 = .ok (.iload_n 1, 1) := by decide +kernel
theorem dX3_gone_30 : decode cX3_gone 30 = .ok (.iconst 0, 1) := by decide +kernel
theorem dX3_gone_31 : decode cX3_gone 31 = .ok (.iastore, 1) := by decide +kernel
theorem dX3_gone_32 : decode cX3_gone 32 = .ok (.iinc 1 1, 3) := by decide +kernel
theorem dX3_gone_35 : decode cX3_gone 35 = .ok (.goto (-18), 3) := by decide +kernel
theorem dX3_gone_38 : decode cX3_gone 38 = .ok (.return_, 1) := by decide +kernel
theorem dX3_edge_0 : decode cX3_edge 0 = .ok (.aload_n 0, 1) := by decide +kernel
theorem dX3_edge_1 : decode cX3_edge 1 = .ok (.iload_n 1, 1) := by decide +kernel
theorem dX3_edge_2 : decode cX3_edge 2 = .ok (.invokevirtual 59, 3) := by decide +kernel
theorem dX3_edge_5 : decode cX3_edge 5 = .ok (.ifCond .eq 46, 3) := by decide +kernel
theorem dX3_edge_8 : decode cX3_edge 8 = .ok (.aload_n 0, 1) := by decide +kernel
theorem dX3_edge_9 : decode cX3_edge 9 = .ok (.iload_n 2, 1) := by decide +kernel
theorem dX3_edge_10 : decode cX3_edge 10 = .ok (.invokevirtual 59, 3) := by decide +kernel
theorem dX3_edge_13 : decode cX3_edge 13 = .ok (.ifCond .eq 38, 3) := by decide +kernel
theorem dX3_edge_16 : decode cX3_edge 16 = .ok (.iload_n 1, 1) := by decide +kernel
theorem dX3_edge_17 : decode cX3_edge 17 = .ok (.iload_n 2, 1) := by decide +kernel
theorem dX3_edge_18 : decode cX3_edge 18 = .ok (.if_icmp .eq 33, 3) := by decide +kernel
theorem dX3_edge_21 : decode cX3_edge 21 = .ok (.iload_n 3, 1) := by decide +kernel
theorem dX3_edge_22 : decode cX3_edge 22 = .ok (.ifCond .lt 29, 3) := by decide +kernel
theorem dX3_edge_25 : decode cX3_edge 25 = .ok (.iload_n 3, 1) := by decide +kernel
theorem dX3_edge_26 : decode cX3_edge 26 = .ok (.ldc 63, 2) := by decide +kernel
theorem dX3_edge_28 : decode cX3_edge 28 = .ok (.if_icmp .gt 23, 3) := by decide +kernel
theorem dX3_edge_31 : decode cX3_edge 31 = .ok (.iload 4, 2) := by decide +kernel
theorem dX3_edge_33 : decode cX3_edge 33 = .ok (.sipush (-10000), 3) := by decide +kernel
theorem dX3_edge_36 : decode cX3_edge 36 = .ok (.if_icmp .lt 15, 3) := by decide +kernel
theorem dX3_edge_39 : decode cX3_edge 39 = .ok (.iload 4, 2) := by decide +kernel
theorem dX3_edge_41 : decode cX3_edge 41 = .ok (.sipush 10000, 3) := by decide +kernel
theorem dX3_edge_44 : decode cX3_edge 44 = .ok (.if_icmp .gt 7, 3) := by decide +kernel
theorem dX3_edge_47 : decode cX3_edge 47 = .ok (.iconst 1, 1) := by decide +kernel
theorem dX3_edge_48 : decode cX3_edge 48 = .ok (.goto 4, 3) := by decide +kernel
theorem dX3_edge_51 : decode cX3_edge 51 = .ok (.iconst 0, 1) := by decide +kernel
theorem dX3_edge_52 : decode cX3_edge 52 = .ok (.istore 5, 2) := by decide +kernel
theorem dX3_edge_54 : decode cX3_edge 54 = .ok (.iload 5, 2) := by decide +kernel
theorem dX3_edge_56 : decode cX3_edge 56 = .ok (.ifCond .eq 28, 3) := by decide +kernel
theorem dX3_edge_59 : decode cX3_edge 59 = .ok (.aload_n 0, 1) := by decide +kernel
theorem dX3_edge_60 : decode cX3_edge 60 = .ok (.getfield 56, 3) := by decide +kernel
theorem dX3_edge_63 : decode cX3_edge 63 = .ok (.aload_n 0, 1) := by decide +kernel
theorem dX3_edge_64 : decode cX3_edge 64 = .ok (.getfield 43, 3) := by decide +kernel
theorem dX3_edge_67 : decode cX3_edge 67 = .ok (.if_icmp .eq 17, 3) := by decide +kernel
theorem dX3_edge_70 : decode cX3_edge 70 = .ok (.aload_n 0, 1) := by decide +kernel
theorem dX3_edge_71 : decode cX3_edge 71 = .ok (.getfield 64, 3) := by decide +kernel
theorem dX3_edge_74 : decode cX3_edge 74 = .ok (.iload_n 3, 1) := by decide +kernel
theorem dX3_edge_75 : decode cX3_edge 75 = .ok (.i2l, 1) := by decide +kernel
theorem dX3_edge_76 : decode cX3_edge 76 = .ok (.ladd, 1) := by decide +kernel
theorem dX3_edge_77 : decode cX3_edge 77 = .ok (.ldc2_w 68, 3) := by decide +kernel
theorem dX3_edge_80 : decode cX3_edge 80 = .ok (.lcmp, 1) := by decide +kernel
theorem dX3_edge_81 : decode cX3_edge 81 = .ok (.ifCond .le 5, 3) := by decide +kernel
theorem dX3_edge_84 : decode cX3_edge 84 = .ok (.iconst (-1), 1) := by decide +kernel
theorem dX3_edge_85 : decode cX3_edge 85 = .ok (.ireturn, 1) := by decide +kernel
theorem dX3_edge_86 : decode cX3_edge 86 = .ok (.aload_n 0, 1) := by decide +kernel
theorem dX3_edge_87 : decode cX3_edge 87 = .ok (.getfield 7, 3) := by decide +kernel
theorem dX3_edge_90 : decode cX3_edge 90 = .ok (.aload_n 0, 1) := by decide +kernel
theorem dX3_edge_91 : decode cX3_edge 91 = .ok (.getfield 56, 3) := by decide +kernel
theorem dX3_edge_94 : decode cX3_edge 94 = .ok (.iload_n 1, 1) := by decide +kernel
theorem dX3_edge_95 : decode cX3_edge 95 = .ok (.iastore, 1) := by decide +kernel
theorem dX3_edge_96 : decode cX3_edge 96 = .ok (.aload_n 0, 1) := by decide +kernel
theorem dX3_edge_97 : decode cX3_edge 97 = .ok (.getfield 13, 3) := by decide +kernel
theorem dX3_edge_100 : decode cX3_edge 100 = .ok (.aload_n 0, 1) := by decide +kernel
theorem dX3_edge_101 : decode cX3_edge 101 = .ok (.getfield 56, 3) := by decide +kernel
theorem dX3_edge_104 : decode cX3_edge 104 = .ok (.iload_n 2, 1) := by decide +kernel
theorem dX3_edge_105 : decode cX3_edge 105 = .ok (.iastore, 1) := by decide +kernel
theorem dX3_edge_106 : decode cX3_edge 106 = .ok (.aload_n 0, 1) := by decide +kernel
theorem dX3_edge_107 : decode cX3_edge 107 = .ok (.getfield 16, 3) := by decide +kernel
theorem dX3_edge_110 : decode cX3_edge 110 = .ok (.aload_n 0, 1) := by decide +kernel
theorem dX3_edge_111 : decode cX3_edge 111 = .ok (.getfield 56, 3) := by decide +kernel
theorem dX3_edge_114 : decode cX3_edge 114 = .ok (.iload_n 3, 1) := by decide +kernel
theorem dX3_edge_115 : decode cX3_edge 115 = .ok (.iastore, 1) := by decide +kernel
theorem dX3_edge_116 : decode cX3_edge 116 = .ok (.aload_n 0, 1) := by decide +kernel
theorem dX3_edge_117 : decode cX3_edge 117 = .ok (.getfield 19, 3) := by decide +kernel
theorem dX3_edge_120 : decode cX3_edge 120 = .ok (.aload_n 0, 1) := by decide +kernel
theorem dX3_edge_121 : decode cX3_edge 121 = .ok (.getfield 56, 3) := by decide +kernel
theorem dX3_edge_124 : decode cX3_edge 124 = .ok (.iload 4, 2) := by decide +kernel
theorem dX3_edge_126 : decode cX3_edge 126 = .ok (.iastore, 1) := by decide +kernel
theorem dX3_edge_127 : decode cX3_edge 127 = .ok (.aload_n 0, 1) := by decide +kernel
theorem dX3_edge_128 : decode cX3_edge 128 = .ok (.dup, 1) := by decide +kernel
theorem dX3_edge_129 : decode cX3_edge 129 = .ok (.getfield 64, 3) := by decide +kernel
theorem dX3_edge_132 : decode cX3_edge 132 = .ok (.iload_n 3, 1) := by decide +kernel
theorem dX3_edge_133 : decode cX3_edge 133 = .ok (.i2l, 1) := by decide +kernel
theorem dX3_edge_134 : decode cX3_edge 134 = .ok (.ladd, 1) := by decide +kernel
theorem dX3_edge_135 : decode cX3_edge 135 = .ok (.putfield 64, 3) := by decide +kernel
theorem dX3_edge_138 : decode cX3_edge 138 = .ok (.aload_n 0, 1) := by decide +kernel
theorem dX3_edge_139 : decode cX3_edge 139 = .ok (.dup, 1) := by decide +kernel
theorem dX3_edge_140 : decode cX3_edge 140 = .ok (.getfield 56, 3) := by decide +kernel
theorem dX3_edge_143 : decode cX3_edge 143 = .ok (.iconst 1, 1) := by decide +kernel
theorem dX3_edge_144 : decode cX3_edge 144 = .ok (.iadd, 1) := by decide +kernel
theorem dX3_edge_145 : decode cX3_edge 145 = .ok (.putfield 56, 3) := by decide +kernel
theorem dX3_edge_148 : decode cX3_edge 148 = .ok (.aload_n 0, 1) := by decide +kernel
theorem dX3_edge_149 : decode cX3_edge 149 = .ok (.invokevirtual 70, 3) := by decide +kernel
theorem dX3_edge_152 : decode cX3_edge 152 = .ok (.aload_n 0, 1) := by decide +kernel
theorem dX3_edge_153 : decode cX3_edge 153 = .ok (.getfield 56, 3) := by decide +kernel
theorem dX3_edge_156 : decode cX3_edge 156 = .ok (.iconst 1, 1) := by decide +kernel
theorem dX3_edge_157 : decode cX3_edge 157 = .ok (.isub, 1) := by decide +kernel
theorem dX3_edge_158 : decode cX3_edge 158 = .ok (.ireturn, 1) := by decide +kernel
theorem dX3_ends_0 : decode cX3_ends 0 = .ok (.aload_n 0, 1) := by decide +kernel
theorem dX3_ends_1 : decode cX3_ends 1 = .ok (.iload_n 1, 1) := by decide +kernel
theorem dX3_ends_2 : decode cX3_ends 2 = .ok (.invokevirtual 59, 3) := by decide +kernel
theorem dX3_ends_5 : decode cX3_ends 5 = .ok (.ifCond .eq 16, 3) := by decide +kernel
theorem dX3_ends_8 : decode cX3_ends 8 = .ok (.aload_n 0, 1) := by decide +kernel
theorem dX3_ends_9 : decode cX3_ends 9 = .ok (.iload_n 2, 1) := by decide +kernel
theorem dX3_ends_10 : decode cX3_ends 10 = .ok (.invokevirtual 59, 3) := by decide +kernel
theorem dX3_ends_13 : decode cX3_ends 13 = .ok (.ifCond .eq 8, 3) := by decide +kernel
theorem dX3_ends_16 : decode cX3_ends 16 = .ok (.iload_n 1, 1) := by decide +kernel
theorem dX3_ends_17 : decode cX3_ends 17 = .ok (.iload_n 2, 1) := by decide +kernel
theorem dX3_ends_18 : decode cX3_ends 18 = .ok (.if_icmp .ne 5, 3) := by decide +kernel
theorem dX3_ends_21 : decode cX3_ends 21 = .ok (.iconst 0, 1) := by decide +kernel
theorem dX3_ends_22 : decode cX3_ends 22 = .ok (.ireturn, 1) := by decide +kernel
theorem dX3_ends_23 : decode cX3_ends 23 = .ok (.aload_n 0, 1) := by decide +kernel
theorem dX3_ends_24 : decode cX3_ends 24 = .ok (.iload_n 1, 1) := by decide +kernel
theorem dX3_ends_25 : decode cX3_ends 25 = .ok (.putfield 73, 3) := by decide +kernel
theorem dX3_ends_28 : decode cX3_ends 28 = .ok (.aload_n 0, 1) := by decide +kernel
theorem dX3_ends_29 : decode cX3_ends 29 = .ok (.iload_n 2, 1) := by decide +kernel
theorem dX3_ends_30 : decode cX3_ends 30 = .ok (.putfield 76, 3) := by decide +kernel
theorem dX3_ends_33 : decode cX3_ends 33 = .ok (.aload_n 0, 1) := by decide +kernel
theorem dX3_ends_34 : decode cX3_ends 34 = .ok (.iconst 1, 1) := by decide +kernel
theorem dX3_ends_35 : decode cX3_ends 35 = .ok (.putfield 79, 3) := by decide +kernel
theorem dX3_ends_38 : decode cX3_ends 38 = .ok (.aload_n 0, 1) := by decide +kernel
theorem dX3_ends_39 : decode cX3_ends 39 = .ok (.invokevirtual 70, 3) := by decide +kernel
theorem dX3_ends_42 : decode cX3_ends 42 = .ok (.iconst 1, 1) := by decide +kernel
theorem dX3_ends_43 : decode cX3_ends 43 = .ok (.ireturn, 1) := by decide +kernel
theorem dX3_left_0 : decode cX3_left 0 = .ok (.iload_n 1, 1) := by decide +kernel
theorem dX3_left_1 : decode cX3_left 1 = .ok (.iconst 2, 1) := by decide +kernel
theorem dX3_left_2 : decode cX3_left 2 = .ok (.idiv, 1) := by decide +kernel
theorem dX3_left_3 : decode cX3_left 3 = .ok (.istore_n 2, 1) := by decide +kernel
theorem dX3_left_4 : decode cX3_left 4 = .ok (.iload_n 1, 1) := by decide +kernel
theorem dX3_left_5 : decode cX3_left 5 = .ok (.iconst 2, 1) := by decide +kernel
theorem dX3_left_6 : decode cX3_left 6 = .ok (.irem, 1) := by decide +kernel
theorem dX3_left_7 : decode cX3_left 7 = .ok (.ifCond .ne 19, 3) := by decide +kernel
theorem dX3_left_10 : decode cX3_left 10 = .ok (.aload_n 0, 1) := by decide +kernel
theorem dX3_left_11 : decode cX3_left 11 = .ok (.getfield 16, 3) := by decide +kernel
theorem dX3_left_14 : decode cX3_left 14 = .ok (.iload_n 2, 1) := by decide +kernel
theorem dX3_left_15 : decode cX3_left 15 = .ok (.iaload, 1) := by decide +kernel
theorem dX3_left_16 : decode cX3_left 16 = .ok (.aload_n 0, 1) := by decide +kernel
theorem dX3_left_17 : decode cX3_left 17 = .ok (.getfield 22, 3) := by decide +kernel
theorem dX3_left_20 : decode cX3_left 20 = .ok (.iload_n 2, 1) := by decide +kernel
theorem dX3_left_21 : decode cX3_left 21 = .ok (.iaload, 1) := by decide +kernel
theorem dX3_left_22 : decode cX3_left 22 = .ok (.isub, 1) := by decide +kernel
theorem dX3_left_23 : decode cX3_left 23 = .ok (.goto 9, 3) := by decide +kernel
theorem dX3_left_26 : decode cX3_left 26 = .ok (.aload_n 0, 1) := by decide +kernel
theorem dX3_left_27 : decode cX3_left 27 = .ok (.getfield 22, 3) := by decide +kernel
theorem dX3_left_30 : decode cX3_left 30 = .ok (.iload_n 2, 1) := by decide +kernel
theorem dX3_left_31 : decode cX3_left 31 = .ok (.iaload, 1) := by decide +kernel
theorem dX3_left_32 : decode cX3_left 32 = .ok (.ireturn, 1) := by decide +kernel
theorem dX3_begin_0 : decode cX3_begin 0 = .ok (.iload_n 1, 1) := by decide +kernel
theorem dX3_begin_1 : decode cX3_begin 1 = .ok (.iconst 2, 1) := by decide +kernel
theorem dX3_begin_2 : decode cX3_begin 2 = .ok (.irem, 1) := by decide +kernel
theorem dX3_begin_3 : decode cX3_begin 3 = .ok (.ifCond .ne 14, 3) := by decide +kernel
theorem dX3_begin_6 : decode cX3_begin 6 = .ok (.aload_n 0, 1) := by decide +kernel
theorem dX3_begin_7 : decode cX3_begin 7 = .ok (.getfield 7, 3) := by decide +kernel
theorem dX3_begin_10 : decode cX3_begin 10 = .ok (.iload_n 1, 1) := by decide +kernel
theorem dX3_begin_11 : decode cX3_begin 11 = .ok (.iconst 2, 1) := by decide +kernel
theorem dX3_begin_12 : decode cX3_begin 12 = .ok (.idiv, 1) := by decide +kernel
theorem dX3_begin_13 : decode cX3_begin 13 = .ok (.iaload, 1) := by decide +kernel
theorem dX3_begin_14 : decode cX3_begin 14 = .ok (.goto 11, 3) := by decide +kernel
theorem dX3_begin_17 : decode cX3_begin 17 = .ok (.aload_n 0, 1) := by decide +kernel
theorem dX3_begin_18 : decode cX3_begin 18 = .ok (.getfield 13, 3) := by decide +kernel
theorem dX3_begin_21 : decode cX3_begin 21 = .ok (.iload_n 1, 1) := by decide +kernel
theorem dX3_begin_22 : decode cX3_begin 22 = .ok (.iconst 2, 1) := by decide +kernel
theorem dX3_begin_23 : decode cX3_begin 23 = .ok (.idiv, 1) := by decide +kernel
theorem dX3_begin_24 : decode cX3_begin 24 = .ok (.iaload, 1) := by decide +kernel
theorem dX3_begin_25 : decode cX3_begin 25 = .ok (.ireturn, 1) := by decide +kernel
theorem dX3_end_0 : decode cX3_end 0 = .ok (.iload_n 1, 1) := by decide +kernel
theorem dX3_end_1 : decode cX3_end 1 = .ok (.iconst 2, 1) := by decide +kernel
theorem dX3_end_2 : decode cX3_end 2 = .ok (.irem, 1) := by decide +kernel
theorem dX3_end_3 : decode cX3_end 3 = .ok (.ifCond .ne 14, 3) := by decide +kernel
theorem dX3_end_6 : decode cX3_end 6 = .ok (.aload_n 0, 1) := by decide +kernel
theorem dX3_end_7 : decode cX3_end 7 = .ok (.getfield 13, 3) := by decide +kernel
theorem dX3_end_10 : decode cX3_end 10 = .ok (.iload_n 1, 1) := by decide +kernel
theorem dX3_end_11 : decode cX3_end 11 = .ok (.iconst 2, 1) := by decide +kernel
theorem dX3_end_12 : decode cX3_end 12 = .ok (.idiv, 1) := by decide +kernel
theorem dX3_end_13 : decode cX3_end 13 = .ok (.iaload, 1) := by decide +kernel
theorem dX3_end_14 : decode cX3_end 14 = .ok (.goto 11, 3) := by decide +kernel
theorem dX3_end_17 : decode cX3_end 17 = .ok (.aload_n 0, 1) := by decide +kernel
theorem dX3_end_18 : decode cX3_end 18 = .ok (.getfield 7, 3) := by decide +kernel
theorem dX3_end_21 : decode cX3_end 21 = .ok (.iload_n 1, 1) := by decide +kernel
theorem dX3_end_22 : decode cX3_end 22 = .ok (.iconst 2, 1) := by decide +kernel
theorem dX3_end_23 : decode cX3_end 23 = .ok (.idiv, 1) := by decide +kernel
theorem dX3_end_24 : decode cX3_end 24 = .ok (.iaload, 1) := by decide +kernel
theorem dX3_end_25 : decode cX3_end 25 = .ok (.ireturn, 1) := by decide +kernel
theorem dX3_costOf_0 : decode cX3_costOf 0 = .ok (.iload_n 1, 1) := by decide +kernel
theorem dX3_costOf_1 : decode cX3_costOf 1 = .ok (.iconst 2, 1) := by decide +kernel
theorem dX3_costOf_2 : decode cX3_costOf 2 = .ok (.irem, 1) := by decide +kernel
theorem dX3_costOf_3 : decode cX3_costOf 3 = .ok (.ifCond .ne 14, 3) := by decide +kernel
theorem dX3_costOf_6 : decode cX3_costOf 6 = .ok (.aload_n 0, 1) := by decide +kernel
theorem dX3_costOf_7 : decode cX3_costOf 7 = .ok (.getfield 19, 3) := by decide +kernel
theorem dX3_costOf_10 : decode cX3_costOf 10 = .ok (.iload_n 1, 1) := by decide +kernel
theorem dX3_costOf_11 : decode cX3_costOf 11 = .ok (.iconst 2, 1) := by decide +kernel
theorem dX3_costOf_12 : decode cX3_costOf 12 = .ok (.idiv, 1) := by decide +kernel
theorem dX3_costOf_13 : decode cX3_costOf 13 = .ok (.iaload, 1) := by decide +kernel
theorem dX3_costOf_14 : decode cX3_costOf 14 = .ok (.goto 12, 3) := by decide +kernel
theorem dX3_costOf_17 : decode cX3_costOf 17 = .ok (.aload_n 0, 1) := by decide +kernel
theorem dX3_costOf_18 : decode cX3_costOf 18 = .ok (.getfield 19, 3) := by decide +kernel
theorem dX3_costOf_21 : decode cX3_costOf 21 = .ok (.iload_n 1, 1) := by decide +kernel
theorem dX3_costOf_22 : decode cX3_costOf 22 = .ok (.iconst 2, 1) := by decide +kernel
theorem dX3_costOf_23 : decode cX3_costOf 23 = .ok (.idiv, 1) := by decide +kernel
theorem dX3_costOf_24 : decode cX3_costOf 24 = .ok (.iaload, 1) := by decide +kernel
theorem dX3_costOf_25 : decode cX3_costOf 25 = .ok (.ineg, 1) := by decide +kernel
theorem dX3_costOf_26 : decode cX3_costOf 26 = .ok (.ireturn, 1) := by decide +kernel
theorem dX3_hasCircle_0 : decode cX3_hasCircle 0 = .ok (.iconst 0, 1) := by decide +kernel
theorem dX3_hasCircle_1 : decode cX3_hasCircle 1 = .ok (.istore_n 1, 1) := by decide +kernel
theorem dX3_hasCircle_2 : decode cX3_hasCircle 2 = .ok (.iload_n 1, 1) := by decide +kernel
theorem dX3_hasCircle_3 : decode cX3_hasCircle 3 = .ok (.aload_n 0, 1) := by decide +kernel
theorem dX3_hasCircle_4 : decode cX3_hasCircle 4 = .ok (.getfield 39, 3) := by decide +kernel
theorem dX3_hasCircle_7 : decode cX3_hasCircle 7 = .ok (.if_icmp .ge 16, 3) := by decide +kernel
theorem dX3_hasCircle_10 : decode cX3_hasCircle 10 = .ok (.aload_n 0, 1) := by decide +kernel
theorem dX3_hasCircle_11 : decode cX3_hasCircle 11 = .ok (.getfield 25, 3) := by decide +kernel
theorem dX3_hasCircle_14 : decode cX3_hasCircle 14 = .ok (.iload_n 1, 1) := by decide +kernel
theorem dX3_hasCircle_15 : decode cX3_hasCircle 15 = .ok (.lconst 0, 1) := by decide +kernel
theorem dX3_hasCircle_16 : decode cX3_hasCircle 16 = .ok (.lastore, 1) := by decide +kernel
theorem dX3_hasCircle_17 : decode cX3_hasCircle 17 = .ok (.iinc 1 1, 3) := by decide +kernel
theorem dX3_hasCircle_20 : decode cX3_hasCircle 20 = .ok (.goto (-18), 3) := by decide +kernel
theorem dX3_hasCircle_23 : decode cX3_hasCircle 23 = .ok (.iconst 1, 1) := by decide +kernel
theorem dX3_hasCircle_24 : decode cX3_hasCircle 24 = .ok (.istore_n 1, 1) := by decide +kernel
theorem dX3_hasCircle_25 : decode cX3_hasCircle 25 = .ok (.iconst 0, 1) := by decide +kernel
theorem dX3_hasCircle_26 : decode cX3_hasCircle 26 = .ok (.istore_n 2, 1) := by decide +kernel
theorem dX3_hasCircle_27 : decode cX3_hasCircle 27 = .ok (.iload_n 2, 1) := by decide +kernel
theorem dX3_hasCircle_28 : decode cX3_hasCircle 28 = .ok (.aload_n 0, 1) := by decide +kernel
theorem dX3_hasCircle_29 : decode cX3_hasCircle 29 = .ok (.getfield 39, 3) := by decide +kernel
theorem dX3_hasCircle_32 : decode cX3_hasCircle 32 = .ok (.if_icmp .gt 106, 3) := by decide +kernel
theorem dX3_hasCircle_35 : decode cX3_hasCircle 35 = .ok (.iload_n 1, 1) := by decide +kernel
theorem dX3_hasCircle_36 : decode cX3_hasCircle 36 = .ok (.ifCond .eq 102, 3) := by decide +kernel
theorem dX3_hasCircle_39 : decode cX3_hasCircle 39 = .ok (.iconst 0, 1) := by decide +kernel
theorem dX3_hasCircle_40 : decode cX3_hasCircle 40 = .ok (.istore_n 1, 1) := by decide +kernel
theorem dX3_hasCircle_41 : decode cX3_hasCircle 41 = .ok (.iconst 0, 1) := by decide +kernel
theorem dX3_hasCircle_42 : decode cX3_hasCircle 42 = .ok (.istore_n 3, 1) := by decide +kernel
theorem dX3_hasCircle_43 : decode cX3_hasCircle 43 = .ok (.iload_n 3, 1) := by decide +kernel
theorem dX3_hasCircle_44 : decode cX3_hasCircle 44 = .ok (.aload_n 0, 1) := by decide +kernel
theorem dX3_hasCircle_45 : decode cX3_hasCircle 45 = .ok (.getfield 56, 3) := by decide +kernel
theorem dX3_hasCircle_48 : decode cX3_hasCircle 48 = .ok (.if_icmp .ge 84, 3) := by decide +kernel
theorem dX3_hasCircle_51 : decode cX3_hasCircle 51 = .ok (.aload_n 0, 1) := by decide +kernel
theorem dX3_hasCircle_52 : decode cX3_hasCircle 52 = .ok (.getfield 16, 3) := by decide +kernel
theorem dX3_hasCircle_55 : decode cX3_hasCircle 55 = .ok (.iload_n 3, 1) := by decide +kernel
theorem dX3_hasCircle_56 : decode cX3_hasCircle 56 = .ok (.iaload, 1) := by decide +kernel
theorem dX3_hasCircle_57 : decode cX3_hasCircle 57 = .ok (.ifCond .le 69, 3) := by decide +kernel
theorem dX3_hasCircle_60 : decode cX3_hasCircle 60 = .ok (.aload_n 0, 1) := by decide +kernel
theorem dX3_hasCircle_61 : decode cX3_hasCircle 61 = .ok (.getfield 25, 3) := by decide +kernel
theorem dX3_hasCircle_64 : decode cX3_hasCircle 64 = .ok (.aload_n 0, 1) := by decide +kernel
theorem dX3_hasCircle_65 : decode cX3_hasCircle 65 = .ok (.getfield 7, 3) := by decide +kernel
theorem dX3_hasCircle_68 : decode cX3_hasCircle 68 = .ok (.iload_n 3, 1) := by decide +kernel
theorem dX3_hasCircle_69 : decode cX3_hasCircle 69 = .ok (.iaload, 1) := by decide +kernel
theorem dX3_hasCircle_70 : decode cX3_hasCircle 70 = .ok (.laload, 1) := by decide +kernel
theorem dX3_hasCircle_71 : decode cX3_hasCircle 71 = .ok (.aload_n 0, 1) := by decide +kernel
theorem dX3_hasCircle_72 : decode cX3_hasCircle 72 = .ok (.getfield 19, 3) := by decide +kernel
theorem dX3_hasCircle_75 : decode cX3_hasCircle 75 = .ok (.iload_n 3, 1) := by decide +kernel
theorem dX3_hasCircle_76 : decode cX3_hasCircle 76 = .ok (.iaload, 1) := by decide +kernel
theorem dX3_hasCircle_77 : decode cX3_hasCircle 77 = .ok (.i2l, 1) := by decide +kernel
theorem dX3_hasCircle_78 : decode cX3_hasCircle 78 = .ok (.ladd, 1) := by decide +kernel
theorem dX3_hasCircle_79 : decode cX3_hasCircle 79 = .ok (.aload_n 0, 1) := by decide +kernel
theorem dX3_hasCircle_80 : decode cX3_hasCircle 80 = .ok (.getfield 25, 3) := by decide +kernel
theorem dX3_hasCircle_83 : decode cX3_hasCircle 83 = .ok (.aload_n 0, 1) := by decide +kernel
theorem dX3_hasCircle_84 : decode cX3_hasCircle 84 = .ok (.getfield 13, 3) := by decide +kernel
theorem dX3_hasCircle_87 : decode cX3_hasCircle 87 = .ok (.iload_n 3, 1) := by decide +kernel
theorem dX3_hasCircle_88 : decode cX3_hasCircle 88 = .ok (.iaload, 1) := by decide +kernel
theorem dX3_hasCircle_89 : decode cX3_hasCircle 89 = .ok (.laload, 1) := by decide +kernel
theorem dX3_hasCircle_90 : decode cX3_hasCircle 90 = .ok (.lcmp, 1) := by decide +kernel
theorem dX3_hasCircle_91 : decode cX3_hasCircle 91 = .ok (.ifCond .ge 35, 3) := by decide +kernel
theorem dX3_hasCircle_94 : decode cX3_hasCircle 94 = .ok (.aload_n 0, 1) := by decide +kernel
theorem dX3_hasCircle_95 : decode cX3_hasCircle 95 = .ok (.getfield 25, 3) := by decide +kernel
theorem dX3_hasCircle_98 : decode cX3_hasCircle 98 = .ok (.aload_n 0, 1) := by decide +kernel
theorem dX3_hasCircle_99 : decode cX3_hasCircle 99 = .ok (.getfield 13, 3) := by decide +kernel
theorem dX3_hasCircle_102 : decode cX3_hasCircle 102 = .ok (.iload_n 3, 1) := by decide +kernel
theorem dX3_hasCircle_103 : decode cX3_hasCircle 103 = .ok (.iaload, 1) := by decide +kernel
theorem dX3_hasCircle_104 : decode cX3_hasCircle 104 = .ok (.aload_n 0, 1) := by decide +kernel
theorem dX3_hasCircle_105 : decode cX3_hasCircle 105 = .ok (.getfield 25, 3) := by decide +kernel
theorem dX3_hasCircle_108 : decode cX3_hasCircle 108 = .ok (.aload_n 0, 1) := by decide +kernel
theorem dX3_hasCircle_109 : decode cX3_hasCircle 109 = .ok (.getfield 7, 3) := by decide +kernel
theorem dX3_hasCircle_112 : decode cX3_hasCircle 112 = .ok (.iload_n 3, 1) := by decide +kernel
theorem dX3_hasCircle_113 : decode cX3_hasCircle 113 = .ok (.iaload, 1) := by decide +kernel
theorem dX3_hasCircle_114 : decode cX3_hasCircle 114 = .ok (.laload, 1) := by decide +kernel
theorem dX3_hasCircle_115 : decode cX3_hasCircle 115 = .ok (.aload_n 0, 1) := by decide +kernel
theorem dX3_hasCircle_116 : decode cX3_hasCircle 116 = .ok (.getfield 19, 3) := by decide +kernel
theorem dX3_hasCircle_119 : decode cX3_hasCircle 119 = .ok (.iload_n 3, 1) := by decide +kernel
theorem dX3_hasCircle_120 : decode cX3_hasCircle 120 = .ok (.iaload, 1) := by decide +kernel
theorem dX3_hasCircle_121 : decode cX3_hasCircle 121 = .ok (.i2l, 1) := by decide +kernel
theorem dX3_hasCircle_122 : decode cX3_hasCircle 122 = .ok (.ladd, 1) := by decide +kernel
theorem dX3_hasCircle_123 : decode cX3_hasCircle 123 = .ok (.lastore, 1) := by decide +kernel
theorem dX3_hasCircle_124 : decode cX3_hasCircle 124 = .ok (.iconst 1, 1) := by decide +kernel
theorem dX3_hasCircle_125 : decode cX3_hasCircle 125 = .ok (.istore_n 1, 1) := by decide +kernel
theorem dX3_hasCircle_126 : decode cX3_hasCircle 126 = .ok (.iinc 3 1, 3) := by decide +kernel
theorem dX3_hasCircle_129 : decode cX3_hasCircle 129 = .ok (.goto (-86), 3) := by decide +kernel
theorem dX3_hasCircle_132 : decode cX3_hasCircle 132 = .ok (.iinc 2 1, 3) := by decide +kernel
theorem dX3_hasCircle_135 : decode cX3_hasCircle 135 = .ok (.goto (-108), 3) := by decide +kernel
theorem dX3_hasCircle_138 : decode cX3_hasCircle 138 = .ok (.iload_n 1, 1) := by decide +kernel
theorem dX3_hasCircle_139 : decode cX3_hasCircle 139 = .ok (.ireturn, 1) := by decide +kernel
theorem dX3_findWays_0 : decode cX3_findWays 0 = .ok (.iconst 0, 1) := by decide +kernel
theorem dX3_findWays_1 : decode cX3_findWays 1 = .ok (.istore_n 1, 1) := by decide +kernel
theorem dX3_findWays_2 : decode cX3_findWays 2 = .ok (.iload_n 1, 1) := by decide +kernel
theorem dX3_findWays_3 : decode cX3_findWays 3 = .ok (.aload_n 0, 1) := by decide +kernel
theorem dX3_findWays_4 : decode cX3_findWays 4 = .ok (.getfield 39, 3) := by decide +kernel
theorem dX3_findWays_7 : decode cX3_findWays 7 = .ok (.if_icmp .ge 42, 3) := by decide +kernel
theorem dX3_findWays_10 : decode cX3_findWays 10 = .ok (.aload_n 0, 1) := by decide +kernel
theorem dX3_findWays_11 : decode cX3_findWays 11 = .ok (.getfield 32, 3) := by decide +kernel
theorem dX3_findWays_14 : decode cX3_findWays 14 = .ok (.iload_n 1, 1) := by decide +kernel
theorem dX3_findWays_15 : decode cX3_findWays 15 = .ok (.iload_n 1, 1) := by decide +kernel
theorem dX3_findWays_16 : decode cX3_findWays 16 = .ok (.aload_n 0, 1) := by decide +kernel
theorem dX3_findWays_17 : decode cX3_findWays 17 = .ok (.getfield 76, 3) := by decide +kernel
theorem dX3_findWays_20 : decode cX3_findWays 20 = .ok (.if_icmp .ne 7, 3) := by decide +kernel
theorem dX3_findWays_23 : decode cX3_findWays 23 = .ok (.iconst 1, 1) := by decide +kernel
theorem dX3_findWays_24 : decode cX3_findWays 24 = .ok (.goto 4, 3) := by decide +kernel
theorem dX3_findWays_27 : decode cX3_findWays 27 = .ok (.iconst 0, 1) := by decide +kernel
theorem dX3_findWays_28 : decode cX3_findWays 28 = .ok (.bastore, 1) := by decide +kernel
theorem dX3_findWays_29 : decode cX3_findWays 29 = .ok (.aload_n 0, 1) := by decide +kernel
theorem dX3_findWays_30 : decode cX3_findWays 30 = .ok (.getfield 25, 3) := by decide +kernel
theorem dX3_findWays_33 : decode cX3_findWays 33 = .ok (.iload_n 1, 1) := by decide +kernel
theorem dX3_findWays_34 : decode cX3_findWays 34 = .ok (.lconst 0, 1) := by decide +kernel
theorem dX3_findWays_35 : decode cX3_findWays 35 = .ok (.lastore, 1) := by decide +kernel
theorem dX3_findWays_36 : decode cX3_findWays 36 = .ok (.aload_n 0, 1) := by decide +kernel
theorem dX3_findWays_37 : decode cX3_findWays 37 = .ok (.getfield 29, 3) := by decide +kernel
theorem dX3_findWays_40 : decode cX3_findWays 40 = .ok (.iload_n 1, 1) := by decide +kernel
theorem dX3_findWays_41 : decode cX3_findWays 41 = .ok (.iconst 0, 1) := by decide +kernel
theorem dX3_findWays_42 : decode cX3_findWays 42 = .ok (.iastore, 1) := by decide +kernel
theorem dX3_findWays_43 : decode cX3_findWays 43 = .ok (.iinc 1 1, 3) := by decide +kernel
theorem dX3_findWays_46 : decode cX3_findWays 46 = .ok (.goto (-44), 3) := by decide +kernel
theorem dX3_findWays_49 : decode cX3_findWays 49 = .ok (.iconst 1, 1) := by decide +kernel
theorem dX3_findWays_50 : decode cX3_findWays 50 = .ok (.istore_n 1, 1) := by decide +kernel
theorem dX3_findWays_51 : decode cX3_findWays 51 = .ok (.iload_n 1, 1) := by decide +kernel
theorem dX3_findWays_52 : decode cX3_findWays 52 = .ok (.ifCond .eq 161, 3) := by decide +kernel
theorem dX3_findWays_55 : decode cX3_findWays 55 = .ok (.iconst 0, 1) := by decide +kernel
theorem dX3_findWays_56 : decode cX3_findWays 56 = .ok (.istore_n 1, 1) := by decide +kernel
theorem dX3_findWays_57 : decode cX3_findWays 57 = .ok (.iconst 0, 1) := by decide +kernel
theorem dX3_findWays_58 : decode cX3_findWays 58 = .ok (.istore_n 2, 1) := by decide +kernel
theorem dX3_findWays_59 : decode cX3_findWays 59 = .ok (.iload_n 2, 1) := by decide +kernel
theorem dX3_findWays_60 : decode cX3_findWays 60 = .ok (.iconst 2, 1) := by decide +kernel
theorem dX3_findWays_61 : decode cX3_findWays 61 = .ok (.aload_n 0, 1) := by decide +kernel
theorem dX3_findWays_62 : decode cX3_findWays 62 = .ok (.getfield 56, 3) := by decide +kernel
theorem dX3_findWays_65 : decode cX3_findWays 65 = .ok (.imul, 1) := by decide +kernel
theorem dX3_findWays_66 : decode cX3_findWays 66 = .ok (.if_icmp .ge 144, 3) := by decide +kernel
theorem dX3_findWays_69 : decode cX3_findWays 69 = .ok (.aload_n 0, 1) := by decide +kernel
theorem dX3_findWays_70 : decode cX3_findWays 70 = .ok (.iload_n 2, 1) := by decide +kernel
theorem dX3_findWays_71 : decode cX3_findWays 71 = .ok (.invokevirtual 82, 3) := by decide +kernel
theorem dX3_findWays_74 : decode cX3_findWays 74 = .ok (.istore_n 3, 1) := by decide +kernel
theorem dX3_findWays_75 : decode cX3_findWays 75 = .ok (.aload_n 0, 1) := by decide +kernel
theorem dX3_findWays_76 : decode cX3_findWays 76 = .ok (.iload_n 2, 1) := by decide +kernel
theorem dX3_findWays_77 : decode cX3_findWays 77 = .ok (.invokevirtual 86, 3) := by decide +kernel
theorem dX3_findWays_80 : decode cX3_findWays 80 = .ok (.istore 4, 2) := by decide +kernel
theorem dX3_findWays_82 : decode cX3_findWays 82 = .ok (.aload_n 0, 1) := by decide +kernel
theorem dX3_findWays_83 : decode cX3_findWays 83 = .ok (.iload_n 2, 1) := by decide +kernel
theorem dX3_findWays_84 : decode cX3_findWays 84 = .ok (.invokevirtual 89, 3) := by decide +kernel
theorem dX3_findWays_87 : decode cX3_findWays 87 = .ok (.ifCond .le 117, 3) := by decide +kernel
theorem dX3_findWays_90 : decode cX3_findWays 90 = .ok (.aload_n 0, 1) := by decide +kernel
theorem dX3_findWays_91 : decode cX3_findWays 91 = .ok (.getfield 32, 3) := by decide +kernel
theorem dX3_findWays_94 : decode cX3_findWays 94 = .ok (.iload 4, 2) := by decide +kernel
theorem dX3_findWays_96 : decode cX3_findWays 96 = .ok (.baload, 1) := by decide +kernel
theorem dX3_findWays_97 : decode cX3_findWays 97 = .ok (.ifCond .eq 107, 3) := by decide +kernel
theorem dX3_findWays_100 : decode cX3_findWays 100 = .ok (.iload_n 3, 1) := by decide +kernel
theorem dX3_findWays_101 : decode cX3_findWays 101 = .ok (.aload_n 0, 1) := by decide +kernel
theorem dX3_findWays_102 : decode cX3_findWays 102 = .ok (.getfield 76, 3) := by decide +kernel
theorem dX3_findWays_105 : decode cX3_findWays 105 = .ok (.if_icmp .eq 99, 3) := by decide +kernel
theorem dX3_findWays_108 : decode cX3_findWays 108 = .ok (.aload_n 0, 1) := by decide +kernel
theorem dX3_findWays_109 : decode cX3_findWays 109 = .ok (.getfield 25, 3) := by decide +kernel
theorem dX3_findWays_112 : decode cX3_findWays 112 = .ok (.iload 4, 2) := by decide +kernel
theorem dX3_findWays_114 : decode cX3_findWays 114 = .ok (.laload, 1) := by decide +kernel
theorem dX3_findWays_115 : decode cX3_findWays 115 = .ok (.aload_n 0, 1) := by decide +kernel
theorem dX3_findWays_116 : decode cX3_findWays 116 = .ok (.iload_n 2, 1) := by decide +kernel
theorem dX3_findWays_117 : decode cX3_findWays 117 = .ok (.invokevirtual 92, 3) := by decide +kernel
theorem dX3_findWays_120 : decode cX3_findWays 120 = .ok (.i2l, 1) := by decide +kernel
theorem dX3_findWays_121 : decode cX3_findWays 121 = .ok (.ladd, 1) := by decide +kernel
theorem dX3_findWays_122 : decode cX3_findWays 122 = .ok (.lstore 5, 2) := by decide +kernel
theorem dX3_findWays_124 : decode cX3_findWays 124 = .ok (.aload_n 0, 1) := by decide +kernel
theorem dX3_findWays_125 : decode cX3_findWays 125 = .ok (.getfield 29, 3) := by decide +kernel
theorem dX3_findWays_128 : decode cX3_findWays 128 = .ok (.iload 4, 2) := by decide +kernel
theorem dX3_findWays_130 : decode cX3_findWays 130 = .ok (.iaload, 1) := by decide +kernel
theorem dX3_findWays_131 : decode cX3_findWays 131 = .ok (.iconst 1, 1) := by decide +kernel
theorem dX3_findWays_132 : decode cX3_findWays 132 = .ok (.iadd, 1) := by decide +kernel
theorem dX3_findWays_133 : decode cX3_findWays 133 = .ok (.istore 7, 2) := by decide +kernel
theorem dX3_findWays_135 : decode cX3_findWays 135 = .ok (.aload_n 0, 1) := by decide +kernel
theorem dX3_findWays_136 : decode cX3_findWays 136 = .ok (.getfield 32, 3) := by decide +kernel
theorem dX3_findWays_139 : decode cX3_findWays 139 = .ok (.iload_n 3, 1) := by decide +kernel
theorem dX3_findWays_140 : decode cX3_findWays 140 = .ok (.baload, 1) := by decide +kernel
theorem dX3_findWays_141 : decode cX3_findWays 141 = .ok (.ifCond .eq 38, 3) := by decide +kernel
theorem dX3_findWays_144 : decode cX3_findWays 144 = .ok (.lload 5, 2) := by decide +kernel
theorem dX3_findWays_146 : decode cX3_findWays 146 = .ok (.aload_n 0, 1) := by decide +kernel
theorem dX3_findWays_147 : decode cX3_findWays 147 = .ok (.getfield 25, 3) := by decide +kernel
theorem dX3_findWays_150 : decode cX3_findWays 150 = .ok (.iload_n 3, 1) := by decide +kernel
theorem dX3_findWays_151 : decode cX3_findWays 151 = .ok (.laload, 1) := by decide +kernel
theorem dX3_findWays_152 : decode cX3_findWays 152 = .ok (.lcmp, 1) := by decide +kernel
theorem dX3_findWays_153 : decode cX3_findWays 153 = .ok (.ifCond .lt 26, 3) := by decide +kernel
theorem dX3_findWays_156 : decode cX3_findWays 156 = .ok (.lload 5, 2) := by decide +kernel
theorem dX3_findWays_158 : decode cX3_findWays 158 = .ok (.aload_n 0, 1) := by decide +kernel
theorem dX3_findWays_159 : decode cX3_findWays 159 = .ok (.getfield 25, 3) := by decide +kernel
theorem dX3_findWays_162 : decode cX3_findWays 162 = .ok (.iload_n 3, 1) := by decide +kernel
theorem dX3_findWays_163 : decode cX3_findWays 163 = .ok (.laload, 1) := by decide +kernel
theorem dX3_findWays_164 : decode cX3_findWays 164 = .ok (.lcmp, 1) := by decide +kernel
theorem dX3_findWays_165 : decode cX3_findWays 165 = .ok (.ifCond .ne 39, 3) := by decide +kernel
theorem dX3_findWays_168 : decode cX3_findWays 168 = .ok (.iload 7, 2) := by decide +kernel
theorem dX3_findWays_170 : decode cX3_findWays 170 = .ok (.aload_n 0, 1) := by decide +kernel
theorem dX3_findWays_171 : decode cX3_findWays 171 = .ok (.getfield 29, 3) := by decide +kernel
theorem dX3_findWays_174 : decode cX3_findWays 174 = .ok (.iload_n 3, 1) := by decide +kernel
theorem dX3_findWays_175 : decode cX3_findWays 175 = .ok (.iaload, 1) := by decide +kernel
theorem dX3_findWays_176 : decode cX3_findWays 176 = .ok (.if_icmp .ge 28, 3) := by decide +kernel
theorem dX3_findWays_179 : decode cX3_findWays 179 = .ok (.aload_n 0, 1) := by decide +kernel
theorem dX3_findWays_180 : decode cX3_findWays 180 = .ok (.getfield 32, 3) := by decide +kernel
theorem dX3_findWays_183 : decode cX3_findWays 183 = .ok (.iload_n 3, 1) := by decide +kernel
theorem dX3_findWays_184 : decode cX3_findWays 184 = .ok (.iconst 1, 1) := by decide +kernel
theorem dX3_findWays_185 : decode cX3_findWays 185 = .ok (.bastore, 1) := by decide +kernel
theorem dX3_findWays_186 : decode cX3_findWays 186 = .ok (.aload_n 0, 1) := by decide +kernel
theorem dX3_findWays_187 : decode cX3_findWays 187 = .ok (.getfield 25, 3) := by decide +kernel
theorem dX3_findWays_190 : decode cX3_findWays 190 = .ok (.iload_n 3, 1) := by decide +kernel
theorem dX3_findWays_191 : decode cX3_findWays 191 = .ok (.lload 5, 2) := by decide +kernel
theorem dX3_findWays_193 : decode cX3_findWays 193 = .ok (.lastore, 1) := by decide +kernel
theorem dX3_findWays_194 : decode cX3_findWays 194 = .ok (.aload_n 0, 1) := by decide +kernel
theorem dX3_findWays_195 : decode cX3_findWays 195 = .ok (.getfield 29, 3) := by decide +kernel
theorem dX3_findWays_198 : decode cX3_findWays 198 = .ok (.iload_n 3, 1) := by decide +kernel
theorem dX3_findWays_199 : decode cX3_findWays 199 = .ok (.iload 7, 2) := by decide +kernel
theorem dX3_findWays_201 : decode cX3_findWays 201 = .ok (.iastore, 1) := by decide +kernel
theorem dX3_findWays_202 : decode cX3_findWays 202 = .ok (.iconst 1, 1) := by decide +kernel
theorem dX3_findWays_203 : decode cX3_findWays 203 = .ok (.istore_n 1, 1) := by decide +kernel
theorem dX3_findWays_204 : decode cX3_findWays 204 = .ok (.iinc 2 1, 3) := by decide +kernel
theorem dX3_findWays_207 : decode cX3_findWays 207 = .ok (.goto (-148), 3) := by decide +kernel
theorem dX3_findWays_210 : decode cX3_findWays 210 = .ok (.goto (-159), 3) := by decide +kernel
theorem dX3_findWays_213 : decode cX3_findWays 213 = .ok (.aload_n 0, 1) := by decide +kernel
theorem dX3_findWays_214 : decode cX3_findWays 214 = .ok (.getfield 32, 3) := by decide +kernel
theorem dX3_findWays_217 : decode cX3_findWays 217 = .ok (.aload_n 0, 1) := by decide +kernel
theorem dX3_findWays_218 : decode cX3_findWays 218 = .ok (.getfield 73, 3) := by decide +kernel
theorem dX3_findWays_221 : decode cX3_findWays 221 = .ok (.baload, 1) := by decide +kernel
theorem dX3_findWays_222 : decode cX3_findWays 222 = .ok (.ireturn, 1) := by decide +kernel
theorem dX3_nextArc_0 : decode cX3_nextArc 0 = .ok (.iconst 0, 1) := by decide +kernel
theorem dX3_nextArc_1 : decode cX3_nextArc 1 = .ok (.istore_n 2, 1) := by decide +kernel
theorem dX3_nextArc_2 : decode cX3_nextArc 2 = .ok (.iload_n 2, 1) := by decide +kernel
theorem dX3_nextArc_3 : decode cX3_nextArc 3 = .ok (.iconst 2, 1) := by decide +kernel
theorem dX3_nextArc_4 : decode cX3_nextArc 4 = .ok (.aload_n 0, 1) := by decide +kernel
theorem dX3_nextArc_5 : decode cX3_nextArc 5 = .ok (.getfield 56, 3) := by decide +kernel
theorem dX3_nextArc_8 : decode cX3_nextArc 8 = .ok (.imul, 1) := by decide +kernel
theorem dX3_nextArc_9 : decode cX3_nextArc 9 = .ok (.if_icmp .ge 83, 3) := by decide +kernel
theorem dX3_nextArc_12 : decode cX3_nextArc 12 = .ok (.aload_n 0, 1) := by decide +kernel
theorem dX3_nextArc_13 : decode cX3_nextArc 13 = .ok (.iload_n 2, 1) := by decide +kernel
theorem dX3_nextArc_14 : decode cX3_nextArc 14 = .ok (.invokevirtual 86, 3) := by decide +kernel
theorem dX3_nextArc_17 : decode cX3_nextArc 17 = .ok (.istore_n 3, 1) := by decide +kernel
theorem dX3_nextArc_18 : decode cX3_nextArc 18 = .ok (.aload_n 0, 1) := by decide +kernel
theorem dX3_nextArc_19 : decode cX3_nextArc 19 = .ok (.iload_n 2, 1) := by decide +kernel
theorem dX3_nextArc_20 : decode cX3_nextArc 20 = .ok (.invokevirtual 82, 3) := by decide +kernel
theorem dX3_nextArc_23 : decode cX3_nextArc 23 = .ok (.iload_n 1, 1) := by decide +kernel
theorem dX3_nextArc_24 : decode cX3_nextArc 24 = .ok (.if_icmp .ne 62, 3) := by decide +kernel
theorem dX3_nextArc_27 : decode cX3_nextArc 27 = .ok (.aload_n 0, 1) := by decide +kernel
theorem dX3_nextArc_28 : decode cX3_nextArc 28 = .ok (.iload_n 2, 1) := by decide +kernel
theorem dX3_nextArc_29 : decode cX3_nextArc 29 = .ok (.invokevirtual 89, 3) := by decide +kernel
theorem dX3_nextArc_32 : decode cX3_nextArc 32 = .ok (.ifCond .le 54, 3) := by decide +kernel
theorem dX3_nextArc_35 : decode cX3_nextArc 35 = .ok (.aload_n 0, 1) := by decide +kernel
theorem dX3_nextArc_36 : decode cX3_nextArc 36 = .ok (.getfield 32, 3) := by decide +kernel
theorem dX3_nextArc_39 : decode cX3_nextArc 39 = .ok (.iload_n 3, 1) := by decide +kernel
theorem dX3_nextArc_40 : decode cX3_nextArc 40 = .ok (.baload, 1) := by decide +kernel
theorem dX3_nextArc_41 : decode cX3_nextArc 41 = .ok (.ifCond .eq 45, 3) := by decide +kernel
theorem dX3_nextArc_44 : decode cX3_nextArc 44 = .ok (.aload_n 0, 1) := by decide +kernel
theorem dX3_nextArc_45 : decode cX3_nextArc 45 = .ok (.getfield 25, 3) := by decide +kernel
theorem dX3_nextArc_48 : decode cX3_nextArc 48 = .ok (.iload_n 3, 1) := by decide +kernel
theorem dX3_nextArc_49 : decode cX3_nextArc 49 = .ok (.laload, 1) := by decide +kernel
theorem dX3_nextArc_50 : decode cX3_nextArc 50 = .ok (.aload_n 0, 1) := by decide +kernel
theorem dX3_nextArc_51 : decode cX3_nextArc 51 = .ok (.iload_n 2, 1) := by decide +kernel
theorem dX3_nextArc_52 : decode cX3_nextArc 52 = .ok (.invokevirtual 92, 3) := by decide +kernel
theorem dX3_nextArc_55 : decode cX3_nextArc 55 = .ok (.i2l, 1) := by decide +kernel
theorem dX3_nextArc_56 : decode cX3_nextArc 56 = .ok (.ladd, 1) := by decide +kernel
theorem dX3_nextArc_57 : decode cX3_nextArc 57 = .ok (.aload_n 0, 1) := by decide +kernel
theorem dX3_nextArc_58 : decode cX3_nextArc 58 = .ok (.getfield 25, 3) := by decide +kernel
theorem dX3_nextArc_61 : decode cX3_nextArc 61 = .ok (.iload_n 1, 1) := by decide +kernel
theorem dX3_nextArc_62 : decode cX3_nextArc 62 = .ok (.laload, 1) := by decide +kernel
theorem dX3_nextArc_63 : decode cX3_nextArc 63 = .ok (.lcmp, 1) := by decide +kernel
theorem dX3_nextArc_64 : decode cX3_nextArc 64 = .ok (.ifCond .ne 22, 3) := by decide +kernel
theorem dX3_nextArc_67 : decode cX3_nextArc 67 = .ok (.aload_n 0, 1) := by decide +kernel
theorem dX3_nextArc_68 : decode cX3_nextArc 68 = .ok (.getfield 29, 3) := by decide +kernel
theorem dX3_nextArc_71 : decode cX3_nextArc 71 = .ok (.iload_n 3, 1) := by decide +kernel
theorem dX3_nextArc_72 : decode cX3_nextArc 72 = .ok (.iaload, 1) := by decide +kernel
theorem dX3_nextArc_73 : decode cX3_nextArc 73 = .ok (.iconst 1, 1) := by decide +kernel
theorem dX3_nextArc_74 : decode cX3_nextArc 74 = .ok (.iadd, 1) := by decide +kernel
theorem dX3_nextArc_75 : decode cX3_nextArc 75 = .ok (.aload_n 0, 1) := by decide +kernel
theorem dX3_nextArc_76 : decode cX3_nextArc 76 = .ok (.getfield 29, 3) := by decide +kernel
theorem dX3_nextArc_79 : decode cX3_nextArc 79 = .ok (.iload_n 1, 1) := by decide +kernel
theorem dX3_nextArc_80 : decode cX3_nextArc 80 = .ok (.iaload, 1) := by decide +kernel
theorem dX3_nextArc_81 : decode cX3_nextArc 81 = .ok (.if_icmp .ne 5, 3) := by decide +kernel
theorem dX3_nextArc_84 : decode cX3_nextArc 84 = .ok (.iload_n 2, 1) := by decide +kernel
theorem dX3_nextArc_85 : decode cX3_nextArc 85 = .ok (.ireturn, 1) := by decide +kernel
theorem dX3_nextArc_86 : decode cX3_nextArc 86 = .ok (.iinc 2 1, 3) := by decide +kernel
theorem dX3_nextArc_89 : decode cX3_nextArc 89 = .ok (.goto (-87), 3) := by decide +kernel
theorem dX3_nextArc_92 : decode cX3_nextArc 92 = .ok (.iconst (-1), 1) := by decide +kernel
theorem dX3_nextArc_93 : decode cX3_nextArc 93 = .ok (.ireturn, 1) := by decide +kernel
theorem dX3_round_0 : decode cX3_round 0 = .ok (.ldc 95, 2) := by decide +kernel
theorem dX3_round_2 : decode cX3_round 2 = .ok (.istore_n 1, 1) := by decide +kernel
theorem dX3_round_3 : decode cX3_round 3 = .ok (.aload_n 0, 1) := by decide +kernel
theorem dX3_round_4 : decode cX3_round 4 = .ok (.getfield 73, 3) := by decide +kernel
theorem dX3_round_7 : decode cX3_round 7 = .ok (.istore_n 2, 1) := by decide +kernel
theorem dX3_round_8 : decode cX3_round 8 = .ok (.iload_n 2, 1) := by decide +kernel
theorem dX3_round_9 : decode cX3_round 9 = .ok (.aload_n 0, 1) := by decide +kernel
theorem dX3_round_10 : decode cX3_round 10 = .ok (.getfield 76, 3) := by decide +kernel
theorem dX3_round_13 : decode cX3_round 13 = .ok (.if_icmp .eq 37, 3) := by decide +kernel
theorem dX3_round_16 : decode cX3_round 16 = .ok (.aload_n 0, 1) := by decide +kernel
theorem dX3_round_17 : decode cX3_round 17 = .ok (.aload_n 0, 1) := by decide +kernel
theorem dX3_round_18 : decode cX3_round 18 = .ok (.iload_n 2, 1) := by decide +kernel
theorem dX3_round_19 : decode cX3_round 19 = .ok (.invokevirtual 96, 3) := by decide +kernel
theorem dX3_round_22 : decode cX3_round 22 = .ok (.invokevirtual 89, 3) := by decide +kernel
theorem dX3_round_25 : decode cX3_round 25 = .ok (.istore_n 3, 1) := by decide +kernel
theorem dX3_round_26 : decode cX3_round 26 = .ok (.iload_n 3, 1) := by decide +kernel
theorem dX3_round_27 : decode cX3_round 27 = .ok (.iload_n 1, 1) := by decide +kernel
theorem dX3_round_28 : decode cX3_round 28 = .ok (.if_icmp .ge 7, 3) := by decide +kernel
theorem dX3_round_31 : decode cX3_round 31 = .ok (.iload_n 3, 1) := by decide +kernel
theorem dX3_round_32 : decode cX3_round 32 = .ok (.goto 4, 3) := by decide +kernel
theorem dX3_round_35 : decode cX3_round 35 = .ok (.iload_n 1, 1) := by decide +kernel
theorem dX3_round_36 : decode cX3_round 36 = .ok (.istore_n 1, 1) := by decide +kernel
theorem dX3_round_37 : decode cX3_round 37 = .ok (.aload_n 0, 1) := by decide +kernel
theorem dX3_round_38 : decode cX3_round 38 = .ok (.aload_n 0, 1) := by decide +kernel
theorem dX3_round_39 : decode cX3_round 39 = .ok (.iload_n 2, 1) := by decide +kernel
theorem dX3_round_40 : decode cX3_round 40 = .ok (.invokevirtual 96, 3) := by decide +kernel
theorem dX3_round_43 : decode cX3_round 43 = .ok (.invokevirtual 86, 3) := by decide +kernel
theorem dX3_round_46 : decode cX3_round 46 = .ok (.istore_n 2, 1) := by decide +kernel
theorem dX3_round_47 : decode cX3_round 47 = .ok (.goto (-39), 3) := by decide +kernel
theorem dX3_round_50 : decode cX3_round 50 = .ok (.aload_n 0, 1) := by decide +kernel
theorem dX3_round_51 : decode cX3_round 51 = .ok (.getfield 73, 3) := by decide +kernel
theorem dX3_round_54 : decode cX3_round 54 = .ok (.istore_n 2, 1) := by decide +kernel
theorem dX3_round_55 : decode cX3_round 55 = .ok (.aload_n 0, 1) := by decide +kernel
theorem dX3_round_56 : decode cX3_round 56 = .ok (.getfield 29, 3) := by decide +kernel
theorem dX3_round_59 : decode cX3_round 59 = .ok (.aload_n 0, 1) := by decide +kernel
end
section
theorem dX3_round_60 : decode cX3_round 60 = .ok (.getfield 73, 3) := by decide +kernel
theorem dX3_round_63 : decode cX3_round 63 = .ok (.iaload, 1) := by decide +kernel
theorem dX3_round_64 : decode cX3_round 64 = .ok (.istore_n 3, 1) := by decide +kernel
theorem dX3_round_65 : decode cX3_round 65 = .ok (.iconst 0, 1) := by decide +kernel
theorem dX3_round_66 : decode cX3_round 66 = .ok (.istore 4, 2) := by decide +kernel
theorem dX3_round_68 : decode cX3_round 68 = .ok (.iload 4, 2) := by decide +kernel
theorem dX3_round_70 : decode cX3_round 70 = .ok (.iload_n 3, 1) := by decide +kernel
theorem dX3_round_71 : decode cX3_round 71 = .ok (.if_icmp .ge 33, 3) := by decide +kernel
theorem dX3_round_74 : decode cX3_round 74 = .ok (.aload_n 0, 1) := by decide +kernel
theorem dX3_round_75 : decode cX3_round 75 = .ok (.getfield 36, 3) := by decide +kernel
theorem dX3_round_78 : decode cX3_round 78 = .ok (.iload 4, 2) := by decide +kernel
theorem dX3_round_80 : decode cX3_round 80 = .ok (.aload_n 0, 1) := by decide +kernel
theorem dX3_round_81 : decode cX3_round 81 = .ok (.iload_n 2, 1) := by decide +kernel
theorem dX3_round_82 : decode cX3_round 82 = .ok (.invokevirtual 96, 3) := by decide +kernel
theorem dX3_round_85 : decode cX3_round 85 = .ok (.iastore, 1) := by decide +kernel
theorem dX3_round_86 : decode cX3_round 86 = .ok (.aload_n 0, 1) := by decide +kernel
theorem dX3_round_87 : decode cX3_round 87 = .ok (.aload_n 0, 1) := by decide +kernel
theorem dX3_round_88 : decode cX3_round 88 = .ok (.getfield 36, 3) := by decide +kernel
theorem dX3_round_91 : decode cX3_round 91 = .ok (.iload 4, 2) := by decide +kernel
theorem dX3_round_93 : decode cX3_round 93 = .ok (.iaload, 1) := by decide +kernel
theorem dX3_round_94 : decode cX3_round 94 = .ok (.invokevirtual 86, 3) := by decide +kernel
theorem dX3_round_97 : decode cX3_round 97 = .ok (.istore_n 2, 1) := by decide +kernel
theorem dX3_round_98 : decode cX3_round 98 = .ok (.iinc 4 1, 3) := by decide +kernel
theorem dX3_round_101 : decode cX3_round 101 = .ok (.goto (-33), 3) := by decide +kernel
theorem dX3_round_104 : decode cX3_round 104 = .ok (.iconst 0, 1) := by decide +kernel
theorem dX3_round_105 : decode cX3_round 105 = .ok (.istore 4, 2) := by decide +kernel
theorem dX3_round_107 : decode cX3_round 107 = .ok (.iload 4, 2) := by decide +kernel
theorem dX3_round_109 : decode cX3_round 109 = .ok (.iload_n 3, 1) := by decide +kernel
theorem dX3_round_110 : decode cX3_round 110 = .ok (.if_icmp .ge 44, 3) := by decide +kernel
theorem dX3_round_113 : decode cX3_round 113 = .ok (.aload_n 0, 1) := by decide +kernel
theorem dX3_round_114 : decode cX3_round 114 = .ok (.getfield 22, 3) := by decide +kernel
theorem dX3_round_117 : decode cX3_round 117 = .ok (.aload_n 0, 1) := by decide +kernel
theorem dX3_round_118 : decode cX3_round 118 = .ok (.getfield 36, 3) := by decide +kernel
theorem dX3_round_121 : decode cX3_round 121 = .ok (.iload 4, 2) := by decide +kernel
theorem dX3_round_123 : decode cX3_round 123 = .ok (.iaload, 1) := by decide +kernel
theorem dX3_round_124 : decode cX3_round 124 = .ok (.iconst 2, 1) := by decide +kernel
theorem dX3_round_125 : decode cX3_round 125 = .ok (.idiv, 1) := by decide +kernel
theorem dX3_round_126 : decode cX3_round 126 = .ok (.dup2, 1) := by decide +kernel
theorem dX3_round_127 : decode cX3_round 127 = .ok (.iaload, 1) := by decide +kernel
theorem dX3_round_128 : decode cX3_round 128 = .ok (.aload_n 0, 1) := by decide +kernel
theorem dX3_round_129 : decode cX3_round 129 = .ok (.getfield 36, 3) := by decide +kernel
theorem dX3_round_132 : decode cX3_round 132 = .ok (.iload 4, 2) := by decide +kernel
theorem dX3_round_134 : decode cX3_round 134 = .ok (.iaload, 1) := by decide +kernel
theorem dX3_round_135 : decode cX3_round 135 = .ok (.iconst 2, 1) := by decide +kernel
theorem dX3_round_136 : decode cX3_round 136 = .ok (.irem, 1) := by decide +kernel
theorem dX3_round_137 : decode cX3_round 137 = .ok (.ifCond .ne 7, 3) := by decide +kernel
theorem dX3_round_140 : decode cX3_round 140 = .ok (.iload_n 1, 1) := by decide +kernel
theorem dX3_round_141 : decode cX3_round 141 = .ok (.goto 5, 3) := by decide +kernel
theorem dX3_round_144 : decode cX3_round 144 = .ok (.iload_n 1, 1) := by decide +kernel
theorem dX3_round_145 : decode cX3_round 145 = .ok (.ineg, 1) := by decide +kernel
theorem dX3_round_146 : decode cX3_round 146 = .ok (.iadd, 1) := by decide +kernel
theorem dX3_round_147 : decode cX3_round 147 = .ok (.iastore, 1) := by decide +kernel
theorem dX3_round_148 : decode cX3_round 148 = .ok (.iinc 4 1, 3) := by decide +kernel
theorem dX3_round_151 : decode cX3_round 151 = .ok (.goto (-44), 3) := by decide +kernel
theorem dX3_round_154 : decode cX3_round 154 = .ok (.aload_n 0, 1) := by decide +kernel
theorem dX3_round_155 : decode cX3_round 155 = .ok (.dup, 1) := by decide +kernel
theorem dX3_round_156 : decode cX3_round 156 = .ok (.getfield 53, 3) := by decide +kernel
theorem dX3_round_159 : decode cX3_round 159 = .ok (.iload_n 1, 1) := by decide +kernel
theorem dX3_round_160 : decode cX3_round 160 = .ok (.iadd, 1) := by decide +kernel
theorem dX3_round_161 : decode cX3_round 161 = .ok (.putfield 53, 3) := by decide +kernel
theorem dX3_round_164 : decode cX3_round 164 = .ok (.aload_n 0, 1) := by decide +kernel
theorem dX3_round_165 : decode cX3_round 165 = .ok (.dup, 1) := by decide +kernel
theorem dX3_round_166 : decode cX3_round 166 = .ok (.getfield 50, 3) := by decide +kernel
theorem dX3_round_169 : decode cX3_round 169 = .ok (.iconst 1, 1) := by decide +kernel
theorem dX3_round_170 : decode cX3_round 170 = .ok (.iadd, 1) := by decide +kernel
theorem dX3_round_171 : decode cX3_round 171 = .ok (.putfield 50, 3) := by decide +kernel
theorem dX3_round_174 : decode cX3_round 174 = .ok (.return_, 1) := by decide +kernel
theorem dX3_run_0 : decode cX3_run 0 = .ok (.iload_n 1, 1) := by decide +kernel
theorem dX3_run_1 : decode cX3_run 1 = .ok (.ifCond .lt 10, 3) := by decide +kernel
theorem dX3_run_4 : decode cX3_run 4 = .ok (.iload_n 1, 1) := by decide +kernel
theorem dX3_run_5 : decode cX3_run 5 = .ok (.sipush 10000, 3) := by decide +kernel
theorem dX3_run_8 : decode cX3_run 8 = .ok (.if_icmp .le 5, 3) := by decide +kernel
theorem dX3_run_11 : decode cX3_run 11 = .ok (.iconst (-1), 1) := by decide +kernel
theorem dX3_run_12 : decode cX3_run 12 = .ok (.ireturn, 1) := by decide +kernel
theorem dX3_run_13 : decode cX3_run 13 = .ok (.aload_n 0, 1) := by decide +kernel
theorem dX3_run_14 : decode cX3_run 14 = .ok (.getfield 79, 3) := by decide +kernel
theorem dX3_run_17 : decode cX3_run 17 = .ok (.ifCond .ne 5, 3) := by decide +kernel
theorem dX3_run_20 : decode cX3_run 20 = .ok (.iconst 2, 1) := by decide +kernel
theorem dX3_run_21 : decode cX3_run 21 = .ok (.ireturn, 1) := by decide +kernel
theorem dX3_run_22 : decode cX3_run 22 = .ok (.aload_n 0, 1) := by decide +kernel
theorem dX3_run_23 : decode cX3_run 23 = .ok (.getfield 46, 3) := by decide +kernel
theorem dX3_run_26 : decode cX3_run 26 = .ok (.ifCond .eq 5, 3) := by decide +kernel
theorem dX3_run_29 : decode cX3_run 29 = .ok (.iconst 0, 1) := by decide +kernel
theorem dX3_run_30 : decode cX3_run 30 = .ok (.ireturn, 1) := by decide +kernel
theorem dX3_run_31 : decode cX3_run 31 = .ok (.aload_n 0, 1) := by decide +kernel
theorem dX3_run_32 : decode cX3_run 32 = .ok (.invokevirtual 99, 3) := by decide +kernel
theorem dX3_run_35 : decode cX3_run 35 = .ok (.ifCond .eq 5, 3) := by decide +kernel
theorem dX3_run_38 : decode cX3_run 38 = .ok (.iconst 3, 1) := by decide +kernel
theorem dX3_run_39 : decode cX3_run 39 = .ok (.ireturn, 1) := by decide +kernel
theorem dX3_run_40 : decode cX3_run 40 = .ok (.iconst 0, 1) := by decide +kernel
theorem dX3_run_41 : decode cX3_run 41 = .ok (.istore_n 2, 1) := by decide +kernel
theorem dX3_run_42 : decode cX3_run 42 = .ok (.aload_n 0, 1) := by decide +kernel
theorem dX3_run_43 : decode cX3_run 43 = .ok (.invokevirtual 103, 3) := by decide +kernel
theorem dX3_run_46 : decode cX3_run 46 = .ok (.istore_n 3, 1) := by decide +kernel
theorem dX3_run_47 : decode cX3_run 47 = .ok (.iload_n 3, 1) := by decide +kernel
theorem dX3_run_48 : decode cX3_run 48 = .ok (.ifCond .eq 23, 3) := by decide +kernel
theorem dX3_run_51 : decode cX3_run 51 = .ok (.iload_n 2, 1) := by decide +kernel
theorem dX3_run_52 : decode cX3_run 52 = .ok (.iload_n 1, 1) := by decide +kernel
theorem dX3_run_53 : decode cX3_run 53 = .ok (.if_icmp .ge 18, 3) := by decide +kernel
theorem dX3_run_56 : decode cX3_run 56 = .ok (.aload_n 0, 1) := by decide +kernel
theorem dX3_run_57 : decode cX3_run 57 = .ok (.invokevirtual 106, 3) := by decide +kernel
theorem dX3_run_60 : decode cX3_run 60 = .ok (.iinc 2 1, 3) := by decide +kernel
theorem dX3_run_63 : decode cX3_run 63 = .ok (.aload_n 0, 1) := by decide +kernel
theorem dX3_run_64 : decode cX3_run 64 = .ok (.invokevirtual 103, 3) := by decide +kernel
theorem dX3_run_67 : decode cX3_run 67 = .ok (.istore_n 3, 1) := by decide +kernel
theorem dX3_run_68 : decode cX3_run 68 = .ok (.goto (-21), 3) := by decide +kernel
theorem dX3_run_71 : decode cX3_run 71 = .ok (.aload_n 0, 1) := by decide +kernel
theorem dX3_run_72 : decode cX3_run 72 = .ok (.iload_n 3, 1) := by decide +kernel
theorem dX3_run_73 : decode cX3_run 73 = .ok (.ifCond .ne 7, 3) := by decide +kernel
theorem dX3_run_76 : decode cX3_run 76 = .ok (.iconst 1, 1) := by decide +kernel
theorem dX3_run_77 : decode cX3_run 77 = .ok (.goto 4, 3) := by decide +kernel
theorem dX3_run_80 : decode cX3_run 80 = .ok (.iconst 0, 1) := by decide +kernel
theorem dX3_run_81 : decode cX3_run 81 = .ok (.putfield 46, 3) := by decide +kernel
theorem dX3_run_84 : decode cX3_run 84 = .ok (.iload_n 3, 1) := by decide +kernel
theorem dX3_run_85 : decode cX3_run 85 = .ok (.ifCond .eq 7, 3) := by decide +kernel
theorem dX3_run_88 : decode cX3_run 88 = .ok (.iconst 1, 1) := by decide +kernel
theorem dX3_run_89 : decode cX3_run 89 = .ok (.goto 4, 3) := by decide +kernel
theorem dX3_run_92 : decode cX3_run 92 = .ok (.iconst 0, 1) := by decide +kernel
theorem dX3_run_93 : decode cX3_run 93 = .ok (.ireturn, 1) := by decide +kernel
theorem dX3_value_0 : decode cX3_value 0 = .ok (.aload_n 0, 1) := by decide +kernel
theorem dX3_value_1 : decode cX3_value 1 = .ok (.getfield 46, 3) := by decide +kernel
theorem dX3_value_4 : decode cX3_value 4 = .ok (.ifCond .eq 10, 3) := by decide +kernel
theorem dX3_value_7 : decode cX3_value 7 = .ok (.aload_n 0, 1) := by decide +kernel
theorem dX3_value_8 : decode cX3_value 8 = .ok (.getfield 53, 3) := by decide +kernel
theorem dX3_value_11 : decode cX3_value 11 = .ok (.goto 4, 3) := by decide +kernel
theorem dX3_value_14 : decode cX3_value 14 = .ok (.iconst (-1), 1) := by decide +kernel
theorem dX3_value_15 : decode cX3_value 15 = .ok (.ireturn, 1) := by decide +kernel
theorem dX3_cost_0 : decode cX3_cost 0 = .ok (.lconst 0, 1) := by decide +kernel
theorem dX3_cost_1 : decode cX3_cost 1 = .ok (.lstore_n 1, 1) := by decide +kernel
theorem dX3_cost_2 : decode cX3_cost 2 = .ok (.iconst 0, 1) := by decide +kernel
theorem dX3_cost_3 : decode cX3_cost 3 = .ok (.istore_n 3, 1) := by decide +kernel
theorem dX3_cost_4 : decode cX3_cost 4 = .ok (.iload_n 3, 1) := by decide +kernel
theorem dX3_cost_5 : decode cX3_cost 5 = .ok (.aload_n 0, 1) := by decide +kernel
theorem dX3_cost_6 : decode cX3_cost 6 = .ok (.getfield 56, 3) := by decide +kernel
theorem dX3_cost_9 : decode cX3_cost 9 = .ok (.if_icmp .ge 34, 3) := by decide +kernel
theorem dX3_cost_12 : decode cX3_cost 12 = .ok (.aload_n 0, 1) := by decide +kernel
theorem dX3_cost_13 : decode cX3_cost 13 = .ok (.getfield 46, 3) := by decide +kernel
theorem dX3_cost_16 : decode cX3_cost 16 = .ok (.ifCond .eq 27, 3) := by decide +kernel
theorem dX3_cost_19 : decode cX3_cost 19 = .ok (.lload_n 1, 1) := by decide +kernel
theorem dX3_cost_20 : decode cX3_cost 20 = .ok (.aload_n 0, 1) := by decide +kernel
theorem dX3_cost_21 : decode cX3_cost 21 = .ok (.getfield 22, 3) := by decide +kernel
theorem dX3_cost_24 : decode cX3_cost 24 = .ok (.iload_n 3, 1) := by decide +kernel
theorem dX3_cost_25 : decode cX3_cost 25 = .ok (.iaload, 1) := by decide +kernel
theorem dX3_cost_26 : decode cX3_cost 26 = .ok (.i2l, 1) := by decide +kernel
theorem dX3_cost_27 : decode cX3_cost 27 = .ok (.aload_n 0, 1) := by decide +kernel
theorem dX3_cost_28 : decode cX3_cost 28 = .ok (.getfield 19, 3) := by decide +kernel
theorem dX3_cost_31 : decode cX3_cost 31 = .ok (.iload_n 3, 1) := by decide +kernel
theorem dX3_cost_32 : decode cX3_cost 32 = .ok (.iaload, 1) := by decide +kernel
theorem dX3_cost_33 : decode cX3_cost 33 = .ok (.i2l, 1) := by decide +kernel
theorem dX3_cost_34 : decode cX3_cost 34 = .ok (.lmul, 1) := by decide +kernel
theorem dX3_cost_35 : decode cX3_cost 35 = .ok (.ladd, 1) := by decide +kernel
theorem dX3_cost_36 : decode cX3_cost 36 = .ok (.lstore_n 1, 1) := by decide +kernel
theorem dX3_cost_37 : decode cX3_cost 37 = .ok (.iinc 3 1, 3) := by decide +kernel
theorem dX3_cost_40 : decode cX3_cost 40 = .ok (.goto (-36), 3) := by decide +kernel
theorem dX3_cost_43 : decode cX3_cost 43 = .ok (.lload_n 1, 1) := by decide +kernel
theorem dX3_cost_44 : decode cX3_cost 44 = .ok (.lreturn, 1) := by decide +kernel
theorem dX3_flow_0 : decode cX3_flow 0 = .ok (.iload_n 1, 1) := by decide +kernel
theorem dX3_flow_1 : decode cX3_flow 1 = .ok (.ifCond .lt 20, 3) := by decide +kernel
theorem dX3_flow_4 : decode cX3_flow 4 = .ok (.iload_n 1, 1) := by decide +kernel
theorem dX3_flow_5 : decode cX3_flow 5 = .ok (.aload_n 0, 1) := by decide +kernel
theorem dX3_flow_6 : decode cX3_flow 6 = .ok (.getfield 56, 3) := by decide +kernel
theorem dX3_flow_9 : decode cX3_flow 9 = .ok (.if_icmp .ge 12, 3) := by decide +kernel
theorem dX3_flow_12 : decode cX3_flow 12 = .ok (.aload_n 0, 1) := by decide +kernel
theorem dX3_flow_13 : decode cX3_flow 13 = .ok (.getfield 22, 3) := by decide +kernel
theorem dX3_flow_16 : decode cX3_flow 16 = .ok (.iload_n 1, 1) := by decide +kernel
theorem dX3_flow_17 : decode cX3_flow 17 = .ok (.iaload, 1) := by decide +kernel
theorem dX3_flow_18 : decode cX3_flow 18 = .ok (.goto 4, 3) := by decide +kernel
theorem dX3_flow_21 : decode cX3_flow 21 = .ok (.iconst (-1), 1) := by decide +kernel
theorem dX3_flow_22 : decode cX3_flow 22 = .ok (.ireturn, 1) := by decide +kernel
theorem dX3_findCosts_0 : decode cX3_findCosts 0 = .ok (.iconst 0, 1) := by decide +kernel
theorem dX3_findCosts_1 : decode cX3_findCosts 1 = .ok (.istore_n 1, 1) := by decide +kernel
theorem dX3_findCosts_2 : decode cX3_findCosts 2 = .ok (.iload_n 1, 1) := by decide +kernel
theorem dX3_findCosts_3 : decode cX3_findCosts 3 = .ok (.aload_n 0, 1) := by decide +kernel
theorem dX3_findCosts_4 : decode cX3_findCosts 4 = .ok (.getfield 39, 3) := by decide +kernel
theorem dX3_findCosts_7 : decode cX3_findCosts 7 = .ok (.if_icmp .ge 35, 3) := by decide +kernel
theorem dX3_findCosts_10 : decode cX3_findCosts 10 = .ok (.aload_n 0, 1) := by decide +kernel
theorem dX3_findCosts_11 : decode cX3_findCosts 11 = .ok (.getfield 32, 3) := by decide +kernel
theorem dX3_findCosts_14 : decode cX3_findCosts 14 = .ok (.iload_n 1, 1) := by decide +kernel
theorem dX3_findCosts_15 : decode cX3_findCosts 15 = .ok (.iload_n 1, 1) := by decide +kernel
theorem dX3_findCosts_16 : decode cX3_findCosts 16 = .ok (.aload_n 0, 1) := by decide +kernel
theorem dX3_findCosts_17 : decode cX3_findCosts 17 = .ok (.getfield 73, 3) := by decide +kernel
theorem dX3_findCosts_20 : decode cX3_findCosts 20 = .ok (.if_icmp .ne 7, 3) := by decide +kernel
theorem dX3_findCosts_23 : decode cX3_findCosts 23 = .ok (.iconst 1, 1) := by decide +kernel
theorem dX3_findCosts_24 : decode cX3_findCosts 24 = .ok (.goto 4, 3) := by decide +kernel
theorem dX3_findCosts_27 : decode cX3_findCosts 27 = .ok (.iconst 0, 1) := by decide +kernel
theorem dX3_findCosts_28 : decode cX3_findCosts 28 = .ok (.bastore, 1) := by decide +kernel
theorem dX3_findCosts_29 : decode cX3_findCosts 29 = .ok (.aload_n 0, 1) := by decide +kernel
theorem dX3_findCosts_30 : decode cX3_findCosts 30 = .ok (.getfield 25, 3) := by decide +kernel
theorem dX3_findCosts_33 : decode cX3_findCosts 33 = .ok (.iload_n 1, 1) := by decide +kernel
theorem dX3_findCosts_34 : decode cX3_findCosts 34 = .ok (.lconst 0, 1) := by decide +kernel
theorem dX3_findCosts_35 : decode cX3_findCosts 35 = .ok (.lastore, 1) := by decide +kernel
theorem dX3_findCosts_36 : decode cX3_findCosts 36 = .ok (.iinc 1 1, 3) := by decide +kernel
theorem dX3_findCosts_39 : decode cX3_findCosts 39 = .ok (.goto (-37), 3) := by decide +kernel
theorem dX3_findCosts_42 : decode cX3_findCosts 42 = .ok (.iconst 1, 1) := by decide +kernel
theorem dX3_findCosts_43 : decode cX3_findCosts 43 = .ok (.istore_n 1, 1) := by decide +kernel
theorem dX3_findCosts_44 : decode cX3_findCosts 44 = .ok (.iload_n 1, 1) := by decide +kernel
theorem dX3_findCosts_45 : decode cX3_findCosts 45 = .ok (.ifCond .eq 129, 3) := by decide +kernel
theorem dX3_findCosts_48 : decode cX3_findCosts 48 = .ok (.iconst 0, 1) := by decide +kernel
theorem dX3_findCosts_49 : decode cX3_findCosts 49 = .ok (.istore_n 1, 1) := by decide +kernel
theorem dX3_findCosts_50 : decode cX3_findCosts 50 = .ok (.iconst 0, 1) := by decide +kernel
theorem dX3_findCosts_51 : decode cX3_findCosts 51 = .ok (.istore_n 2, 1) := by decide +kernel
theorem dX3_findCosts_52 : decode cX3_findCosts 52 = .ok (.iload_n 2, 1) := by decide +kernel
theorem dX3_findCosts_53 : decode cX3_findCosts 53 = .ok (.iconst 2, 1) := by decide +kernel
theorem dX3_findCosts_54 : decode cX3_findCosts 54 = .ok (.aload_n 0, 1) := by decide +kernel
theorem dX3_findCosts_55 : decode cX3_findCosts 55 = .ok (.getfield 56, 3) := by decide +kernel
theorem dX3_findCosts_58 : decode cX3_findCosts 58 = .ok (.imul, 1) := by decide +kernel
theorem dX3_findCosts_59 : decode cX3_findCosts 59 = .ok (.if_icmp .ge 112, 3) := by decide +kernel
theorem dX3_findCosts_62 : decode cX3_findCosts 62 = .ok (.aload_n 0, 1) := by decide +kernel
theorem dX3_findCosts_63 : decode cX3_findCosts 63 = .ok (.iload_n 2, 1) := by decide +kernel
theorem dX3_findCosts_64 : decode cX3_findCosts 64 = .ok (.invokevirtual 82, 3) := by decide +kernel
theorem dX3_findCosts_67 : decode cX3_findCosts 67 = .ok (.istore_n 3, 1) := by decide +kernel
theorem dX3_findCosts_68 : decode cX3_findCosts 68 = .ok (.aload_n 0, 1) := by decide +kernel
theorem dX3_findCosts_69 : decode cX3_findCosts 69 = .ok (.iload_n 2, 1) := by decide +kernel
theorem dX3_findCosts_70 : decode cX3_findCosts 70 = .ok (.invokevirtual 86, 3) := by decide +kernel
theorem dX3_findCosts_73 : decode cX3_findCosts 73 = .ok (.istore 4, 2) := by decide +kernel
theorem dX3_findCosts_75 : decode cX3_findCosts 75 = .ok (.aload_n 0, 1) := by decide +kernel
theorem dX3_findCosts_76 : decode cX3_findCosts 76 = .ok (.iload_n 2, 1) := by decide +kernel
theorem dX3_findCosts_77 : decode cX3_findCosts 77 = .ok (.invokevirtual 89, 3) := by decide +kernel
theorem dX3_findCosts_80 : decode cX3_findCosts 80 = .ok (.ifCond .le 85, 3) := by decide +kernel
theorem dX3_findCosts_83 : decode cX3_findCosts 83 = .ok (.aload_n 0, 1) := by decide +kernel
theorem dX3_findCosts_84 : decode cX3_findCosts 84 = .ok (.getfield 32, 3) := by decide +kernel
theorem dX3_findCosts_87 : decode cX3_findCosts 87 = .ok (.iload_n 3, 1) := by decide +kernel
theorem dX3_findCosts_88 : decode cX3_findCosts 88 = .ok (.baload, 1) := by decide +kernel
theorem dX3_findCosts_89 : decode cX3_findCosts 89 = .ok (.ifCond .eq 76, 3) := by decide +kernel
theorem dX3_findCosts_92 : decode cX3_findCosts 92 = .ok (.iload 4, 2) := by decide +kernel
theorem dX3_findCosts_94 : decode cX3_findCosts 94 = .ok (.aload_n 0, 1) := by decide +kernel
theorem dX3_findCosts_95 : decode cX3_findCosts 95 = .ok (.getfield 73, 3) := by decide +kernel
theorem dX3_findCosts_98 : decode cX3_findCosts 98 = .ok (.if_icmp .eq 67, 3) := by decide +kernel
theorem dX3_findCosts_101 : decode cX3_findCosts 101 = .ok (.aload_n 0, 1) := by decide +kernel
theorem dX3_findCosts_102 : decode cX3_findCosts 102 = .ok (.getfield 32, 3) := by decide +kernel
theorem dX3_findCosts_105 : decode cX3_findCosts 105 = .ok (.iload 4, 2) := by decide +kernel
theorem dX3_findCosts_107 : decode cX3_findCosts 107 = .ok (.baload, 1) := by decide +kernel
theorem dX3_findCosts_108 : decode cX3_findCosts 108 = .ok (.ifCond .eq 27, 3) := by decide +kernel
theorem dX3_findCosts_111 : decode cX3_findCosts 111 = .ok (.aload_n 0, 1) := by decide +kernel
theorem dX3_findCosts_112 : decode cX3_findCosts 112 = .ok (.getfield 25, 3) := by decide +kernel
theorem dX3_findCosts_115 : decode cX3_findCosts 115 = .ok (.iload_n 3, 1) := by decide +kernel
theorem dX3_findCosts_116 : decode cX3_findCosts 116 = .ok (.laload, 1) := by decide +kernel
theorem dX3_findCosts_117 : decode cX3_findCosts 117 = .ok (.aload_n 0, 1) := by decide +kernel
theorem dX3_findCosts_118 : decode cX3_findCosts 118 = .ok (.iload_n 2, 1) := by decide +kernel
theorem dX3_findCosts_119 : decode cX3_findCosts 119 = .ok (.invokevirtual 92, 3) := by decide +kernel
theorem dX3_findCosts_122 : decode cX3_findCosts 122 = .ok (.i2l, 1) := by decide +kernel
theorem dX3_findCosts_123 : decode cX3_findCosts 123 = .ok (.ladd, 1) := by decide +kernel
theorem dX3_findCosts_124 : decode cX3_findCosts 124 = .ok (.aload_n 0, 1) := by decide +kernel
theorem dX3_findCosts_125 : decode cX3_findCosts 125 = .ok (.getfield 25, 3) := by decide +kernel
theorem dX3_findCosts_128 : decode cX3_findCosts 128 = .ok (.iload 4, 2) := by decide +kernel
theorem dX3_findCosts_130 : decode cX3_findCosts 130 = .ok (.laload, 1) := by decide +kernel
theorem dX3_findCosts_131 : decode cX3_findCosts 131 = .ok (.lcmp, 1) := by decide +kernel
theorem dX3_findCosts_132 : decode cX3_findCosts 132 = .ok (.ifCond .ge 33, 3) := by decide +kernel
theorem dX3_findCosts_135 : decode cX3_findCosts 135 = .ok (.aload_n 0, 1) := by decide +kernel
theorem dX3_findCosts_136 : decode cX3_findCosts 136 = .ok (.getfield 32, 3) := by decide +kernel
theorem dX3_findCosts_139 : decode cX3_findCosts 139 = .ok (.iload 4, 2) := by decide +kernel
theorem dX3_findCosts_141 : decode cX3_findCosts 141 = .ok (.iconst 1, 1) := by decide +kernel
theorem dX3_findCosts_142 : decode cX3_findCosts 142 = .ok (.bastore, 1) := by decide +kernel
theorem dX3_findCosts_143 : decode cX3_findCosts 143 = .ok (.aload_n 0, 1) := by decide +kernel
theorem dX3_findCosts_144 : decode cX3_findCosts 144 = .ok (.getfield 25, 3) := by decide +kernel
theorem dX3_findCosts_147 : decode cX3_findCosts 147 = .ok (.iload 4, 2) := by decide +kernel
theorem dX3_findCosts_149 : decode cX3_findCosts 149 = .ok (.aload_n 0, 1) := by decide +kernel
theorem dX3_findCosts_150 : decode cX3_findCosts 150 = .ok (.getfield 25, 3) := by decide +kernel
theorem dX3_findCosts_153 : decode cX3_findCosts 153 = .ok (.iload_n 3, 1) := by decide +kernel
theorem dX3_findCosts_154 : decode cX3_findCosts 154 = .ok (.laload, 1) := by decide +kernel
theorem dX3_findCosts_155 : decode cX3_findCosts 155 = .ok (.aload_n 0, 1) := by decide +kernel
theorem dX3_findCosts_156 : decode cX3_findCosts 156 = .ok (.iload_n 2, 1) := by decide +kernel
theorem dX3_findCosts_157 : decode cX3_findCosts 157 = .ok (.invokevirtual 92, 3) := by decide +kernel
theorem dX3_findCosts_160 : decode cX3_findCosts 160 = .ok (.i2l, 1) := by decide +kernel
theorem dX3_findCosts_161 : decode cX3_findCosts 161 = .ok (.ladd, 1) := by decide +kernel
theorem dX3_findCosts_162 : decode cX3_findCosts 162 = .ok (.lastore, 1) := by decide +kernel
theorem dX3_findCosts_163 : decode cX3_findCosts 163 = .ok (.iconst 1, 1) := by decide +kernel
theorem dX3_findCosts_164 : decode cX3_findCosts 164 = .ok (.istore_n 1, 1) := by decide +kernel
theorem dX3_findCosts_165 : decode cX3_findCosts 165 = .ok (.iinc 2 1, 3) := by decide +kernel
theorem dX3_findCosts_168 : decode cX3_findCosts 168 = .ok (.goto (-116), 3) := by decide +kernel
theorem dX3_findCosts_171 : decode cX3_findCosts 171 = .ok (.goto (-127), 3) := by decide +kernel
theorem dX3_findCosts_174 : decode cX3_findCosts 174 = .ok (.return_, 1) := by decide +kernel
theorem dX3_potential_0 : decode cX3_potential 0 = .ok (.aload_n 0, 1) := by decide +kernel
theorem dX3_potential_1 : decode cX3_potential 1 = .ok (.getfield 46, 3) := by decide +kernel
theorem dX3_potential_4 : decode cX3_potential 4 = .ok (.ifCond .eq 11, 3) := by decide +kernel
theorem dX3_potential_7 : decode cX3_potential 7 = .ok (.aload_n 0, 1) := by decide +kernel
theorem dX3_potential_8 : decode cX3_potential 8 = .ok (.iload_n 1, 1) := by decide +kernel
theorem dX3_potential_9 : decode cX3_potential 9 = .ok (.invokevirtual 59, 3) := by decide +kernel
theorem dX3_potential_12 : decode cX3_potential 12 = .ok (.ifCond .ne 5, 3) := by decide +kernel
theorem dX3_potential_15 : decode cX3_potential 15 = .ok (.iconst (-1), 1) := by decide +kernel
theorem dX3_potential_16 : decode cX3_potential 16 = .ok (.ireturn, 1) := by decide +kernel
theorem dX3_potential_17 : decode cX3_potential 17 = .ok (.aload_n 0, 1) := by decide +kernel
theorem dX3_potential_18 : decode cX3_potential 18 = .ok (.invokevirtual 109, 3) := by decide +kernel
theorem dX3_potential_21 : decode cX3_potential 21 = .ok (.aload_n 0, 1) := by decide +kernel
theorem dX3_potential_22 : decode cX3_potential 22 = .ok (.getfield 32, 3) := by decide +kernel
theorem dX3_potential_25 : decode cX3_potential 25 = .ok (.iload_n 1, 1) := by decide +kernel
theorem dX3_potential_26 : decode cX3_potential 26 = .ok (.baload, 1) := by decide +kernel
theorem dX3_potential_27 : decode cX3_potential 27 = .ok (.ifCond .eq 13, 3) := by decide +kernel
theorem dX3_potential_30 : decode cX3_potential 30 = .ok (.aload_n 0, 1) := by decide +kernel
theorem dX3_potential_31 : decode cX3_potential 31 = .ok (.getfield 25, 3) := by decide +kernel
theorem dX3_potential_34 : decode cX3_potential 34 = .ok (.iload_n 1, 1) := by decide +kernel
theorem dX3_potential_35 : decode cX3_potential 35 = .ok (.laload, 1) := by decide +kernel
theorem dX3_potential_36 : decode cX3_potential 36 = .ok (.l2i, 1) := by decide +kernel
theorem dX3_potential_37 : decode cX3_potential 37 = .ok (.goto 5, 3) := by decide +kernel
theorem dX3_potential_40 : decode cX3_potential 40 = .ok (.ldc 95, 2) := by decide +kernel
theorem dX3_potential_42 : decode cX3_potential 42 = .ok (.ireturn, 1) := by decide +kernel
theorem dX3_inCut_0 : decode cX3_inCut 0 = .ok (.aload_n 0, 1) := by decide +kernel
theorem dX3_inCut_1 : decode cX3_inCut 1 = .ok (.getfield 46, 3) := by decide +kernel
theorem dX3_inCut_4 : decode cX3_inCut 4 = .ok (.ifCond .eq 11, 3) := by decide +kernel
theorem dX3_inCut_7 : decode cX3_inCut 7 = .ok (.aload_n 0, 1) := by decide +kernel
theorem dX3_inCut_8 : decode cX3_inCut 8 = .ok (.iload_n 1, 1) := by decide +kernel
theorem dX3_inCut_9 : decode cX3_inCut 9 = .ok (.invokevirtual 59, 3) := by decide +kernel
theorem dX3_inCut_12 : decode cX3_inCut 12 = .ok (.ifCond .ne 5, 3) := by decide +kernel
theorem dX3_inCut_15 : decode cX3_inCut 15 = .ok (.iconst 0, 1) := by decide +kernel
theorem dX3_inCut_16 : decode cX3_inCut 16 = .ok (.ireturn, 1) := by decide +kernel
theorem dX3_inCut_17 : decode cX3_inCut 17 = .ok (.aload_n 0, 1) := by decide +kernel
theorem dX3_inCut_18 : decode cX3_inCut 18 = .ok (.invokevirtual 109, 3) := by decide +kernel
theorem dX3_inCut_21 : decode cX3_inCut 21 = .ok (.aload_n 0, 1) := by decide +kernel
theorem dX3_inCut_22 : decode cX3_inCut 22 = .ok (.getfield 32, 3) := by decide +kernel
theorem dX3_inCut_25 : decode cX3_inCut 25 = .ok (.iload_n 1, 1) := by decide +kernel
theorem dX3_inCut_26 : decode cX3_inCut 26 = .ok (.baload, 1) := by decide +kernel
theorem dX3_inCut_27 : decode cX3_inCut 27 = .ok (.ireturn, 1) := by decide +kernel
theorem dX3_check_0 : decode cX3_check 0 = .ok (.aload_n 0, 1) := by decide +kernel
theorem dX3_check_1 : decode cX3_check 1 = .ok (.getfield 46, 3) := by decide +kernel
theorem dX3_check_4 : decode cX3_check 4 = .ok (.ifCond .ne 5, 3) := by decide +kernel
theorem dX3_check_7 : decode cX3_check 7 = .ok (.iconst 0, 1) := by decide +kernel
theorem dX3_check_8 : decode cX3_check 8 = .ok (.ireturn, 1) := by decide +kernel
theorem dX3_check_9 : decode cX3_check 9 = .ok (.aload_n 0, 1) := by decide +kernel
theorem dX3_check_10 : decode cX3_check 10 = .ok (.invokevirtual 109, 3) := by decide +kernel
theorem dX3_check_13 : decode cX3_check 13 = .ok (.iconst 1, 1) := by decide +kernel
theorem dX3_check_14 : decode cX3_check 14 = .ok (.istore_n 1, 1) := by decide +kernel
theorem dX3_check_15 : decode cX3_check 15 = .ok (.lconst 0, 1) := by decide +kernel
theorem dX3_check_16 : decode cX3_check 16 = .ok (.lstore_n 2, 1) := by decide +kernel
theorem dX3_check_17 : decode cX3_check 17 = .ok (.iconst 0, 1) := by decide +kernel
theorem dX3_check_18 : decode cX3_check 18 = .ok (.istore 4, 2) := by decide +kernel
theorem dX3_check_20 : decode cX3_check 20 = .ok (.iload 4, 2) := by decide +kernel
theorem dX3_check_22 : decode cX3_check 22 = .ok (.aload_n 0, 1) := by decide +kernel
theorem dX3_check_23 : decode cX3_check 23 = .ok (.getfield 56, 3) := by decide +kernel
theorem dX3_check_26 : decode cX3_check 26 = .ok (.if_icmp .ge 156, 3) := by decide +kernel
theorem dX3_check_29 : decode cX3_check 29 = .ok (.iload_n 1, 1) := by decide +kernel
theorem dX3_check_30 : decode cX3_check 30 = .ok (.ifCond .eq 34, 3) := by decide +kernel
theorem dX3_check_33 : decode cX3_check 33 = .ok (.aload_n 0, 1) := by decide +kernel
theorem dX3_check_34 : decode cX3_check 34 = .ok (.getfield 22, 3) := by decide +kernel
theorem dX3_check_37 : decode cX3_check 37 = .ok (.iload 4, 2) := by decide +kernel
theorem dX3_check_39 : decode cX3_check 39 = .ok (.iaload, 1) := by decide +kernel
theorem dX3_check_40 : decode cX3_check 40 = .ok (.ifCond .lt 24, 3) := by decide +kernel
theorem dX3_check_43 : decode cX3_check 43 = .ok (.aload_n 0, 1) := by decide +kernel
theorem dX3_check_44 : decode cX3_check 44 = .ok (.getfield 22, 3) := by decide +kernel
theorem dX3_check_47 : decode cX3_check 47 = .ok (.iload 4, 2) := by decide +kernel
theorem dX3_check_49 : decode cX3_check 49 = .ok (.iaload, 1) := by decide +kernel
theorem dX3_check_50 : decode cX3_check 50 = .ok (.aload_n 0, 1) := by decide +kernel
theorem dX3_check_51 : decode cX3_check 51 = .ok (.getfield 16, 3) := by decide +kernel
theorem dX3_check_54 : decode cX3_check 54 = .ok (.iload 4, 2) := by decide +kernel
theorem dX3_check_56 : decode cX3_check 56 = .ok (.iaload, 1) := by decide +kernel
theorem dX3_check_57 : decode cX3_check 57 = .ok (.if_icmp .gt 7, 3) := by decide +kernel
theorem dX3_check_60 : decode cX3_check 60 = .ok (.iconst 1, 1) := by decide +kernel
theorem dX3_check_61 : decode cX3_check 61 = .ok (.goto 4, 3) := by decide +kernel
theorem dX3_check_64 : decode cX3_check 64 = .ok (.iconst 0, 1) := by decide +kernel
theorem dX3_check_65 : decode cX3_check 65 = .ok (.istore_n 1, 1) := by decide +kernel
theorem dX3_check_66 : decode cX3_check 66 = .ok (.aload_n 0, 1) := by decide +kernel
theorem dX3_check_67 : decode cX3_check 67 = .ok (.getfield 32, 3) := by decide +kernel
theorem dX3_check_70 : decode cX3_check 70 = .ok (.aload_n 0, 1) := by decide +kernel
theorem dX3_check_71 : decode cX3_check 71 = .ok (.getfield 7, 3) := by decide +kernel
theorem dX3_check_74 : decode cX3_check 74 = .ok (.iload 4, 2) := by decide +kernel
theorem dX3_check_76 : decode cX3_check 76 = .ok (.iaload, 1) := by decide +kernel
theorem dX3_check_77 : decode cX3_check 77 = .ok (.baload, 1) := by decide +kernel
theorem dX3_check_78 : decode cX3_check 78 = .ok (.istore 5, 2) := by decide +kernel
theorem dX3_check_80 : decode cX3_check 80 = .ok (.aload_n 0, 1) := by decide +kernel
theorem dX3_check_81 : decode cX3_check 81 = .ok (.getfield 32, 3) := by decide +kernel
theorem dX3_check_84 : decode cX3_check 84 = .ok (.aload_n 0, 1) := by decide +kernel
theorem dX3_check_85 : decode cX3_check 85 = .ok (.getfield 13, 3) := by decide +kernel
theorem dX3_check_88 : decode cX3_check 88 = .ok (.iload 4, 2) := by decide +kernel
theorem dX3_check_90 : decode cX3_check 90 = .ok (.iaload, 1) := by decide +kernel
theorem dX3_check_91 : decode cX3_check 91 = .ok (.baload, 1) := by decide +kernel
theorem dX3_check_92 : decode cX3_check 92 = .ok (.istore 6, 2) := by decide +kernel
theorem dX3_check_94 : decode cX3_check 94 = .ok (.iload_n 1, 1) := by decide +kernel
theorem dX3_check_95 : decode cX3_check 95 = .ok (.ifCond .eq 54, 3) := by decide +kernel
theorem dX3_check_98 : decode cX3_check 98 = .ok (.iload 5, 2) := by decide +kernel
theorem dX3_check_100 : decode cX3_check 100 = .ok (.ifCond .eq 25, 3) := by decide +kernel
theorem dX3_check_103 : decode cX3_check 103 = .ok (.iload 6, 2) := by decide +kernel
theorem dX3_check_105 : decode cX3_check 105 = .ok (.ifCond .ne 20, 3) := by decide +kernel
theorem dX3_check_108 : decode cX3_check 108 = .ok (.aload_n 0, 1) := by decide +kernel
theorem dX3_check_109 : decode cX3_check 109 = .ok (.getfield 22, 3) := by decide +kernel
theorem dX3_check_112 : decode cX3_check 112 = .ok (.iload 4, 2) := by decide +kernel
theorem dX3_check_114 : decode cX3_check 114 = .ok (.iaload, 1) := by decide +kernel
theorem dX3_check_115 : decode cX3_check 115 = .ok (.aload_n 0, 1) := by decide +kernel
theorem dX3_check_116 : decode cX3_check 116 = .ok (.getfield 16, 3) := by decide +kernel
theorem dX3_check_119 : decode cX3_check 119 = .ok (.iload 4, 2) := by decide +kernel
theorem dX3_check_121 : decode cX3_check 121 = .ok (.iaload, 1) := by decide +kernel
theorem dX3_check_122 : decode cX3_check 122 = .ok (.if_icmp .ne 27, 3) := by decide +kernel
theorem dX3_check_125 : decode cX3_check 125 = .ok (.iload 5, 2) := by decide +kernel
theorem dX3_check_127 : decode cX3_check 127 = .ok (.ifCond .ne 18, 3) := by decide +kernel
theorem dX3_check_130 : decode cX3_check 130 = .ok (.iload 6, 2) := by decide +kernel
theorem dX3_check_132 : decode cX3_check 132 = .ok (.ifCond .eq 13, 3) := by decide +kernel
theorem dX3_check_135 : decode cX3_check 135 = .ok (.aload_n 0, 1) := by decide +kernel
theorem dX3_check_136 : decode cX3_check 136 = .ok (.getfield 22, 3) := by decide +kernel
theorem dX3_check_139 : decode cX3_check 139 = .ok (.iload 4, 2) := by decide +kernel
theorem dX3_check_141 : decode cX3_check 141 = .ok (.iaload, 1) := by decide +kernel
theorem dX3_check_142 : decode cX3_check 142 = .ok (.ifCond .ne 7, 3) := by decide +kernel
theorem dX3_check_145 : decode cX3_check 145 = .ok (.iconst 1, 1) := by decide +kernel
theorem dX3_check_146 : decode cX3_check 146 = .ok (.goto 4, 3) := by decide +kernel
theorem dX3_check_149 : decode cX3_check 149 = .ok (.iconst 0, 1) := by decide +kernel
theorem dX3_check_150 : decode cX3_check 150 = .ok (.istore_n 1, 1) := by decide +kernel
theorem dX3_check_151 : decode cX3_check 151 = .ok (.lload_n 2, 1) := by decide +kernel
theorem dX3_check_152 : decode cX3_check 152 = .ok (.iload 5, 2) := by decide +kernel
theorem dX3_check_154 : decode cX3_check 154 = .ok (.ifCond .eq 19, 3) := by decide +kernel
theorem dX3_check_157 : decode cX3_check 157 = .ok (.iload 6, 2) := by decide +kernel
theorem dX3_check_159 : decode cX3_check 159 = .ok (.ifCond .ne 14, 3) := by decide +kernel
theorem dX3_check_162 : decode cX3_check 162 = .ok (.aload_n 0, 1) := by decide +kernel
theorem dX3_check_163 : decode cX3_check 163 = .ok (.getfield 16, 3) := by decide +kernel
theorem dX3_check_166 : decode cX3_check 166 = .ok (.iload 4, 2) := by decide +kernel
theorem dX3_check_168 : decode cX3_check 168 = .ok (.iaload, 1) := by decide +kernel
theorem dX3_check_169 : decode cX3_check 169 = .ok (.i2l, 1) := by decide +kernel
theorem dX3_check_170 : decode cX3_check 170 = .ok (.goto 4, 3) := by decide +kernel
theorem dX3_check_173 : decode cX3_check 173 = .ok (.lconst 0, 1) := by decide +kernel
theorem dX3_check_174 : decode cX3_check 174 = .ok (.ladd, 1) := by decide +kernel
theorem dX3_check_175 : decode cX3_check 175 = .ok (.lstore_n 2, 1) := by decide +kernel
theorem dX3_check_176 : decode cX3_check 176 = .ok (.iinc 4 1, 3) := by decide +kernel
theorem dX3_check_179 : decode cX3_check 179 = .ok (.goto (-159), 3) := by decide +kernel
theorem dX3_check_182 : decode cX3_check 182 = .ok (.iconst 0, 1) := by decide +kernel
theorem dX3_check_183 : decode cX3_check 183 = .ok (.istore 4, 2) := by decide +kernel
theorem dX3_check_185 : decode cX3_check 185 = .ok (.iload 4, 2) := by decide +kernel
theorem dX3_check_187 : decode cX3_check 187 = .ok (.aload_n 0, 1) := by decide +kernel
theorem dX3_check_188 : decode cX3_check 188 = .ok (.getfield 39, 3) := by decide +kernel
theorem dX3_check_191 : decode cX3_check 191 = .ok (.if_icmp .ge 118, 3) := by decide +kernel
theorem dX3_check_194 : decode cX3_check 194 = .ok (.lconst 0, 1) := by decide +kernel
theorem dX3_check_195 : decode cX3_check 195 = .ok (.lstore 5, 2) := by decide +kernel
theorem dX3_check_197 : decode cX3_check 197 = .ok (.iconst 0, 1) := by decide +kernel
theorem dX3_check_198 : decode cX3_check 198 = .ok (.istore 7, 2) := by decide +kernel
theorem dX3_check_200 : decode cX3_check 200 = .ok (.iload 7, 2) := by decide +kernel
theorem dX3_check_202 : decode cX3_check 202 = .ok (.aload_n 0, 1) := by decide +kernel
theorem dX3_check_203 : decode cX3_check 203 = .ok (.getfield 56, 3) := by decide +kernel
theorem dX3_check_206 : decode cX3_check 206 = .ok (.if_icmp .ge 62, 3) := by decide +kernel
theorem dX3_check_209 : decode cX3_check 209 = .ok (.lload 5, 2) := by decide +kernel
theorem dX3_check_211 : decode cX3_check 211 = .ok (.aload_n 0, 1) := by decide +kernel
theorem dX3_check_212 : decode cX3_check 212 = .ok (.getfield 13, 3) := by decide +kernel
theorem dX3_check_215 : decode cX3_check 215 = .ok (.iload 7, 2) := by decide +kernel
theorem dX3_check_217 : decode cX3_check 217 = .ok (.iaload, 1) := by decide +kernel
theorem dX3_check_218 : decode cX3_check 218 = .ok (.iload 4, 2) := by decide +kernel
theorem dX3_check_220 : decode cX3_check 220 = .ok (.if_icmp .ne 14, 3) := by decide +kernel
theorem dX3_check_223 : decode cX3_check 223 = .ok (.aload_n 0, 1) := by decide +kernel
theorem dX3_check_224 : decode cX3_check 224 = .ok (.getfield 22, 3) := by decide +kernel
theorem dX3_check_227 : decode cX3_check 227 = .ok (.iload 7, 2) := by decide +kernel
theorem dX3_check_229 : decode cX3_check 229 = .ok (.iaload, 1) := by decide +kernel
theorem dX3_check_230 : decode cX3_check 230 = .ok (.i2l, 1) := by decide +kernel
theorem dX3_check_231 : decode cX3_check 231 = .ok (.goto 28, 3) := by decide +kernel
theorem dX3_check_234 : decode cX3_check 234 = .ok (.aload_n 0, 1) := by decide +kernel
theorem dX3_check_235 : decode cX3_check 235 = .ok (.getfield 7, 3) := by decide +kernel
theorem dX3_check_238 : decode cX3_check 238 = .ok (.iload 7, 2) := by decide +kernel
theorem dX3_check_240 : decode cX3_check 240 = .ok (.iaload, 1) := by decide +kernel
theorem dX3_check_241 : decode cX3_check 241 = .ok (.iload 4, 2) := by decide +kernel
theorem dX3_check_243 : decode cX3_check 243 = .ok (.if_icmp .ne 15, 3) := by decide +kernel
theorem dX3_check_246 : decode cX3_check 246 = .ok (.aload_n 0, 1) := by decide +kernel
theorem dX3_check_247 : decode cX3_check 247 = .ok (.getfield 22, 3) := by decide +kernel
theorem dX3_check_250 : decode cX3_check 250 = .ok (.iload 7, 2) := by decide +kernel
theorem dX3_check_252 : decode cX3_check 252 = .ok (.iaload, 1) := by decide +kernel
theorem dX3_check_253 : decode cX3_check 253 = .ok (.ineg, 1) := by decide +kernel
theorem dX3_check_254 : decode cX3_check 254 = .ok (.i2l, 1) := by decide +kernel
theorem dX3_check_255 : decode cX3_check 255 = .ok (.goto 4, 3) := by decide +kernel
theorem dX3_check_258 : decode cX3_check 258 = .ok (.lconst 0, 1) := by decide +kernel
theorem dX3_check_259 : decode cX3_check 259 = .ok (.ladd, 1) := by decide +kernel
theorem dX3_check_260 : decode cX3_check 260 = .ok (.lstore 5, 2) := by decide +kernel
theorem dX3_check_262 : decode cX3_check 262 = .ok (.iinc 7 1, 3) := by decide +kernel
theorem dX3_check_265 : decode cX3_check 265 = .ok (.goto (-65), 3) := by decide +kernel
theorem dX3_check_268 : decode cX3_check 268 = .ok (.iload_n 1, 1) := by decide +kernel
theorem dX3_check_269 : decode cX3_check 269 = .ok (.ifCond .eq 32, 3) := by decide +kernel
theorem dX3_check_272 : decode cX3_check 272 = .ok (.iload 4, 2) := by decide +kernel
theorem dX3_check_274 : decode cX3_check 274 = .ok (.aload_n 0, 1) := by decide +kernel
theorem dX3_check_275 : decode cX3_check 275 = .ok (.getfield 73, 3) := by decide +kernel
theorem dX3_check_278 : decode cX3_check 278 = .ok (.if_icmp .eq 19, 3) := by decide +kernel
theorem dX3_check_281 : decode cX3_check 281 = .ok (.iload 4, 2) := by decide +kernel
theorem dX3_check_283 : decode cX3_check 283 = .ok (.aload_n 0, 1) := by decide +kernel
theorem dX3_check_284 : decode cX3_check 284 = .ok (.getfield 76, 3) := by decide +kernel
theorem dX3_check_287 : decode cX3_check 287 = .ok (.if_icmp .eq 10, 3) := by decide +kernel
theorem dX3_check_290 : decode cX3_check 290 = .ok (.lload 5, 2) := by decide +kernel
theorem dX3_check_292 : decode cX3_check 292 = .ok (.lconst 0, 1) := by decide +kernel
theorem dX3_check_293 : decode cX3_check 293 = .ok (.lcmp, 1) := by decide +kernel
theorem dX3_check_294 : decode cX3_check 294 = .ok (.ifCond .ne 7, 3) := by decide +kernel
theorem dX3_check_297 : decode cX3_check 297 = .ok (.iconst 1, 1) := by decide +kernel
theorem dX3_check_298 : decode cX3_check 298 = .ok (.goto 4, 3) := by decide +kernel
theorem dX3_check_301 : decode cX3_check 301 = .ok (.iconst 0, 1) := by decide +kernel
theorem dX3_check_302 : decode cX3_check 302 = .ok (.istore_n 1, 1) := by decide +kernel
theorem dX3_check_303 : decode cX3_check 303 = .ok (.iinc 4 1, 3) := by decide +kernel
theorem dX3_check_306 : decode cX3_check 306 = .ok (.goto (-121), 3) := by decide +kernel
theorem dX3_check_309 : decode cX3_check 309 = .ok (.iconst 0, 1) := by decide +kernel
theorem dX3_check_310 : decode cX3_check 310 = .ok (.istore 4, 2) := by decide +kernel
theorem dX3_check_312 : decode cX3_check 312 = .ok (.iload 4, 2) := by decide +kernel
theorem dX3_check_314 : decode cX3_check 314 = .ok (.iconst 2, 1) := by decide +kernel
theorem dX3_check_315 : decode cX3_check 315 = .ok (.aload_n 0, 1) := by decide +kernel
theorem dX3_check_316 : decode cX3_check 316 = .ok (.getfield 56, 3) := by decide +kernel
theorem dX3_check_319 : decode cX3_check 319 = .ok (.imul, 1) := by decide +kernel
theorem dX3_check_320 : decode cX3_check 320 = .ok (.if_icmp .ge 102, 3) := by decide +kernel
theorem dX3_check_323 : decode cX3_check 323 = .ok (.aload_n 0, 1) := by decide +kernel
theorem dX3_check_324 : decode cX3_check 324 = .ok (.iload 4, 2) := by decide +kernel
theorem dX3_check_326 : decode cX3_check 326 = .ok (.invokevirtual 89, 3) := by decide +kernel
theorem dX3_check_329 : decode cX3_check 329 = .ok (.ifCond .le 35, 3) := by decide +kernel
theorem dX3_check_332 : decode cX3_check 332 = .ok (.aload_n 0, 1) := by decide +kernel
theorem dX3_check_333 : decode cX3_check 333 = .ok (.getfield 32, 3) := by decide +kernel
theorem dX3_check_336 : decode cX3_check 336 = .ok (.aload_n 0, 1) := by decide +kernel
theorem dX3_check_337 : decode cX3_check 337 = .ok (.iload 4, 2) := by decide +kernel
theorem dX3_check_339 : decode cX3_check 339 = .ok (.invokevirtual 82, 3) := by decide +kernel
theorem dX3_check_342 : decode cX3_check 342 = .ok (.baload, 1) := by decide +kernel
theorem dX3_check_343 : decode cX3_check 343 = .ok (.ifCond .eq 21, 3) := by decide +kernel
theorem dX3_check_346 : decode cX3_check 346 = .ok (.aload_n 0, 1) := by decide +kernel
theorem dX3_check_347 : decode cX3_check 347 = .ok (.getfield 32, 3) := by decide +kernel
theorem dX3_check_350 : decode cX3_check 350 = .ok (.aload_n 0, 1) := by decide +kernel
theorem dX3_check_351 : decode cX3_check 351 = .ok (.iload 4, 2) := by decide +kernel
theorem dX3_check_353 : decode cX3_check 353 = .ok (.invokevirtual 86, 3) := by decide +kernel
theorem dX3_check_356 : decode cX3_check 356 = .ok (.baload, 1) := by decide +kernel
theorem dX3_check_357 : decode cX3_check 357 = .ok (.ifCond .eq 7, 3) := by decide +kernel
theorem dX3_check_360 : decode cX3_check 360 = .ok (.iconst 1, 1) := by decide +kernel
theorem dX3_check_361 : decode cX3_check 361 = .ok (.goto 4, 3) := by decide +kernel
theorem dX3_check_364 : decode cX3_check 364 = .ok (.iconst 0, 1) := by decide +kernel
theorem dX3_check_365 : decode cX3_check 365 = .ok (.istore 5, 2) := by decide +kernel
theorem dX3_check_367 : decode cX3_check 367 = .ok (.iload_n 1, 1) := by decide +kernel
theorem dX3_check_368 : decode cX3_check 368 = .ok (.ifCond .eq 46, 3) := by decide +kernel
theorem dX3_check_371 : decode cX3_check 371 = .ok (.iload 5, 2) := by decide +kernel
theorem dX3_check_373 : decode cX3_check 373 = .ok (.ifCond .eq 37, 3) := by decide +kernel
theorem dX3_check_376 : decode cX3_check 376 = .ok (.aload_n 0, 1) := by decide +kernel
theorem dX3_check_377 : decode cX3_check 377 = .ok (.getfield 25, 3) := by decide +kernel
theorem dX3_check_380 : decode cX3_check 380 = .ok (.aload_n 0, 1) := by decide +kernel
theorem dX3_check_381 : decode cX3_check 381 = .ok (.iload 4, 2) := by decide +kernel
theorem dX3_check_383 : decode cX3_check 383 = .ok (.invokevirtual 82, 3) := by decide +kernel
theorem dX3_check_386 : decode cX3_check 386 = .ok (.laload, 1) := by decide +kernel
theorem dX3_check_387 : decode cX3_check 387 = .ok (.aload_n 0, 1) := by decide +kernel
theorem dX3_check_388 : decode cX3_check 388 = .ok (.iload 4, 2) := by decide +kernel
theorem dX3_check_390 : decode cX3_check 390 = .ok (.invokevirtual 92, 3) := by decide +kernel
theorem dX3_check_393 : decode cX3_check 393 = .ok (.i2l, 1) := by decide +kernel
theorem dX3_check_394 : decode cX3_check 394 = .ok (.ladd, 1) := by decide +kernel
theorem dX3_check_395 : decode cX3_check 395 = .ok (.aload_n 0, 1) := by decide +kernel
theorem dX3_check_396 : decode cX3_check 396 = .ok (.getfield 25, 3) := by decide +kernel
theorem dX3_check_399 : decode cX3_check 399 = .ok (.aload_n 0, 1) := by decide +kernel
theorem dX3_check_400 : decode cX3_check 400 = .ok (.iload 4, 2) := by decide +kernel
theorem dX3_check_402 : decode cX3_check 402 = .ok (.invokevirtual 86, 3) := by decide +kernel
theorem dX3_check_405 : decode cX3_check 405 = .ok (.laload, 1) := by decide +kernel
theorem dX3_check_406 : decode cX3_check 406 = .ok (.lcmp, 1) := by decide +kernel
theorem dX3_check_407 : decode cX3_check 407 = .ok (.ifCond .lt 7, 3) := by decide +kernel
theorem dX3_check_410 : decode cX3_check 410 = .ok (.iconst 1, 1) := by decide +kernel
theorem dX3_check_411 : decode cX3_check 411 = .ok (.goto 4, 3) := by decide +kernel
theorem dX3_check_414 : decode cX3_check 414 = .ok (.iconst 0, 1) := by decide +kernel
theorem dX3_check_415 : decode cX3_check 415 = .ok (.istore_n 1, 1) := by decide +kernel
theorem dX3_check_416 : decode cX3_check 416 = .ok (.iinc 4 1, 3) := by decide +kernel
theorem dX3_check_419 : decode cX3_check 419 = .ok (.goto (-107), 3) := by decide +kernel
theorem dX3_check_422 : decode cX3_check 422 = .ok (.iload_n 1, 1) := by decide +kernel
theorem dX3_check_423 : decode cX3_check 423 = .ok (.ifCond .eq 17, 3) := by decide +kernel
theorem dX3_check_426 : decode cX3_check 426 = .ok (.lload_n 2, 1) := by decide +kernel
theorem dX3_check_427 : decode cX3_check 427 = .ok (.aload_n 0, 1) := by decide +kernel
theorem dX3_check_428 : decode cX3_check 428 = .ok (.getfield 53, 3) := by decide +kernel
theorem dX3_check_431 : decode cX3_check 431 = .ok (.i2l, 1) := by decide +kernel
theorem dX3_check_432 : decode cX3_check 432 = .ok (.lcmp, 1) := by decide +kernel
theorem dX3_check_433 : decode cX3_check 433 = .ok (.ifCond .ne 7, 3) := by decide +kernel
theorem dX3_check_436 : decode cX3_check 436 = .ok (.iconst 1, 1) := by decide +kernel
theorem dX3_check_437 : decode cX3_check 437 = .ok (.goto 4, 3) := by decide +kernel
theorem dX3_check_440 : decode cX3_check 440 = .ok (.iconst 0, 1) := by decide +kernel
theorem dX3_check_441 : decode cX3_check 441 = .ok (.ireturn, 1) := by decide +kernel
theorem dX3_next_0 : decode cX3_next 0 = .ok (.aload_n 0, 1) := by decide +kernel
theorem dX3_next_1 : decode cX3_next 1 = .ok (.getfield 79, 3) := by decide +kernel
theorem dX3_next_4 : decode cX3_next 4 = .ok (.ifCond .eq 24, 3) := by decide +kernel
theorem dX3_next_7 : decode cX3_next 7 = .ok (.aload_n 0, 1) := by decide +kernel
theorem dX3_next_8 : decode cX3_next 8 = .ok (.getfield 46, 3) := by decide +kernel
theorem dX3_next_11 : decode cX3_next 11 = .ok (.ifCond .ne 17, 3) := by decide +kernel
theorem dX3_next_14 : decode cX3_next 14 = .ok (.aload_n 0, 1) := by decide +kernel
theorem dX3_next_15 : decode cX3_next 15 = .ok (.invokevirtual 99, 3) := by decide +kernel
theorem dX3_next_18 : decode cX3_next 18 = .ok (.ifCond .ne 10, 3) := by decide +kernel
theorem dX3_next_21 : decode cX3_next 21 = .ok (.aload_n 0, 1) := by decide +kernel
theorem dX3_next_22 : decode cX3_next 22 = .ok (.invokevirtual 103, 3) := by decide +kernel
theorem dX3_next_25 : decode cX3_next 25 = .ok (.ifCond .ne 5, 3) := by decide +kernel
theorem dX3_next_28 : decode cX3_next 28 = .ok (.iconst (-1), 1) := by decide +kernel
theorem dX3_next_29 : decode cX3_next 29 = .ok (.ireturn, 1) := by decide +kernel
theorem dX3_next_30 : decode cX3_next 30 = .ok (.aload_n 0, 1) := by decide +kernel
theorem dX3_next_31 : decode cX3_next 31 = .ok (.getfield 25, 3) := by decide +kernel
theorem dX3_next_34 : decode cX3_next 34 = .ok (.aload_n 0, 1) := by decide +kernel
theorem dX3_next_35 : decode cX3_next 35 = .ok (.getfield 73, 3) := by decide +kernel
theorem dX3_next_38 : decode cX3_next 38 = .ok (.laload, 1) := by decide +kernel
theorem dX3_next_39 : decode cX3_next 39 = .ok (.l2i, 1) := by decide +kernel
theorem dX3_next_40 : decode cX3_next 40 = .ok (.ireturn, 1) := by decide +kernel
theorem dX3_count_0 : decode cX3_count 0 = .ok (.iload_n 1, 1) := by decide +kernel
theorem dX3_count_1 : decode cX3_count 1 = .ok (.ifCond .ne 10, 3) := by decide +kernel
theorem dX3_count_4 : decode cX3_count 4 = .ok (.aload_n 0, 1) := by decide +kernel
theorem dX3_count_5 : decode cX3_count 5 = .ok (.getfield 39, 3) := by decide +kernel
theorem dX3_count_8 : decode cX3_count 8 = .ok (.goto 40, 3) := by decide +kernel
theorem dX3_count_11 : decode cX3_count 11 = .ok (.iload_n 1, 1) := by decide +kernel
theorem dX3_count_12 : decode cX3_count 12 = .ok (.iconst 1, 1) := by decide +kernel
theorem dX3_count_13 : decode cX3_count 13 = .ok (.if_icmp .ne 10, 3) := by decide +kernel
theorem dX3_count_16 : decode cX3_count 16 = .ok (.aload_n 0, 1) := by decide +kernel
theorem dX3_count_17 : decode cX3_count 17 = .ok (.getfield 56, 3) := by decide +kernel
theorem dX3_count_20 : decode cX3_count 20 = .ok (.goto 28, 3) := by decide +kernel
theorem dX3_count_23 : decode cX3_count 23 = .ok (.iload_n 1, 1) := by decide +kernel
theorem dX3_count_24 : decode cX3_count 24 = .ok (.iconst 2, 1) := by decide +kernel
theorem dX3_count_25 : decode cX3_count 25 = .ok (.if_icmp .ne 10, 3) := by decide +kernel
theorem dX3_count_28 : decode cX3_count 28 = .ok (.aload_n 0, 1) := by decide +kernel
theorem dX3_count_29 : decode cX3_count 29 = .ok (.getfield 50, 3) := by decide +kernel
theorem dX3_count_32 : decode cX3_count 32 = .ok (.goto 16, 3) := by decide +kernel
theorem dX3_count_35 : decode cX3_count 35 = .ok (.iload_n 1, 1) := by decide +kernel
theorem dX3_count_36 : decode cX3_count 36 = .ok (.iconst 3, 1) := by decide +kernel
theorem dX3_count_37 : decode cX3_count 37 = .ok (.if_icmp .ne 10, 3) := by decide +kernel
theorem dX3_count_40 : decode cX3_count 40 = .ok (.aload_n 0, 1) := by decide +kernel
theorem dX3_count_41 : decode cX3_count 41 = .ok (.getfield 53, 3) := by decide +kernel
theorem dX3_count_44 : decode cX3_count 44 = .ok (.goto 4, 3) := by decide +kernel
theorem dX3_count_47 : decode cX3_count 47 = .ok (.iconst (-1), 1) := by decide +kernel
theorem dX3_count_48 : decode cX3_count 48 = .ok (.ireturn, 1) := by decide +kernel
end
section
set_option maxRecDepth 20000 in
theorem ggX0_measureFrom_X0_beginAt : GoodIn wsX0_measureFrom wsX0_beginAt := goodIn_r _ [5, 6, 7, 8, 9, 10, 11, 12, 61, 62, 63] (by decide +kernel) (by decide +kernel)
set_option maxRecDepth 20000 in
theorem gX0_measureFrom_X0_beginAt : GoodIn wsX0_measureFrom (wsV RX0 29 RX0 yX0_beginAt wsX0_beginAt) := goodIn_app (goodIn_of _ (by decide +kernel)) ggX0_measureFrom_X0_beginAt
set_option maxRecDepth 20000 in
theorem ggX0_measureFrom_X0_settle : GoodIn wsX0_measureFrom wsX0_settle := goodIn_r _ [16, 17, 18, 19, 20, 21, 4, 22, 6, 8, 23, 24, 25, 26, 27, 28, 29, 30, 31, 32, 33, 34, 35, 36, 37, 38, 39, 40, 41, 42, 43, 44, 45, 46, 47, 48, 49, 50, 51, 7, 52, 53, 54, 55, 56, 57, 58, 59, 60, 61, 62, 63, 64, 65, 66, 67, 68, 69, 70] (by decide +kernel) (by decide +kernel)
set_option maxRecDepth 20000 in
theorem gX0_measureFrom_X0_settle : GoodIn wsX0_measureFrom (wsV RX0 33 RX0 yX0_settle wsX0_settle) := goodIn_app (goodIn_of _ (by decide +kernel)) ggX0_measureFrom_X0_settle
set_option maxRecDepth 20000 in
theorem ggX0_measureTo_X0_beginAt : GoodIn wsX0_measureTo wsX0_beginAt := goodIn_r _ [5, 6, 7, 8, 9, 10, 11, 12, 61, 62, 63] (by decide +kernel) (by decide +kernel)
set_option maxRecDepth 20000 in
theorem gX0_measureTo_X0_beginAt : GoodIn wsX0_measureTo (wsV RX0 29 RX0 yX0_beginAt wsX0_beginAt) := goodIn_app (goodIn_of _ (by decide +kernel)) ggX0_measureTo_X0_beginAt
set_option maxRecDepth 20000 in
theorem ggX0_measureTo_X0_settle : GoodIn wsX0_measureTo wsX0_settle := goodIn_r _ [16, 17, 18, 19, 20, 21, 4, 22, 6, 8, 23, 24, 25, 26, 27, 28, 29, 30, 31, 32, 33, 34, 35, 36, 37, 38, 39, 40, 41, 42, 43, 44, 45, 46, 47, 48, 49, 50, 51, 7, 52, 53, 54, 55, 56, 57, 58, 59, 60, 61, 62, 63, 64, 65, 66, 67, 68, 69, 70] (by decide +kernel) (by decide +kernel)
set_option maxRecDepth 20000 in
theorem gX0_measureTo_X0_settle : GoodIn wsX0_measureTo (wsV RX0 33 RX0 yX0_settle wsX0_settle) := goodIn_app (goodIn_of _ (by decide +kernel)) ggX0_measureTo_X0_settle
set_option maxRecDepth 20000 in
theorem ggX0_settlesFromEverywhere_J7_fill_53178 : GoodIn wsX0_settlesFromEverywhere wsJ7_fill_53178 := goodIn_r _ [6] (by decide +kernel) (by decide +kernel)
set_option maxRecDepth 20000 in
theorem gX0_settlesFromEverywhere_J7_fill_53178 : GoodIn wsX0_settlesFromEverywhere (va_wsS RX0 37 yJ7_fill_53178 wsJ7_fill_53178) := goodIn_app (goodIn_of _ (by decide +kernel)) ggX0_settlesFromEverywhere_J7_fill_53178
set_option maxRecDepth 20000 in
theorem ggX0_settlesFromEverywhere_X0_settle : GoodIn wsX0_settlesFromEverywhere wsX0_settle := goodIn_r _ [11, 12, 13, 14, 15, 16, 10, 17, 1, 2, 18, 19, 20, 21, 22, 23, 24, 25, 26, 27, 28, 29, 30, 31, 32, 33, 34, 35, 36, 37, 38, 39, 40, 41, 42, 43, 44, 45, 46, 47, 48, 49, 50, 51, 52, 53, 54, 55, 56, 57, 58, 59, 60, 61, 62, 63, 64, 65, 66] (by decide +kernel) (by decide +kernel)
set_option maxRecDepth 20000 in
theorem gX0_settlesFromEverywhere_X0_settle : GoodIn wsX0_settlesFromEverywhere (wsV RX0 33 RX0 yX0_settle wsX0_settle) := goodIn_app (goodIn_of _ (by decide +kernel)) ggX0_settlesFromEverywhere_X0_settle
set_option maxRecDepth 20000 in
theorem ggX0_leastArcOnward_X1_arcs : GoodIn wsX0_leastArcOnward wsX1_arcs := goodIn_r _ [8, 9, 43, 44, 45, 46, 47, 48, 49] (by decide +kernel) (by decide +kernel)
set_option maxRecDepth 20000 in
theorem gX0_leastArcOnward_X1_arcs : GoodIn wsX0_leastArcOnward (wsV RX0 43 RX1 yX1_arcs wsX1_arcs) := goodIn_app (goodIn_of _ (by decide +kernel)) ggX0_leastArcOnward_X1_arcs
set_option maxRecDepth 20000 in
theorem ggX0_leastArcOnward_X1_begin : GoodIn wsX0_leastArcOnward wsX1_begin := goodIn_r _ [13, 14, 15, 16, 17, 7, 18, 43, 44, 45, 46, 47, 48, 49] (by decide +kernel) (by decide +kernel)
set_option maxRecDepth 20000 in
theorem gX0_leastArcOnward_X1_begin : GoodIn wsX0_leastArcOnward (wsV RX0 47 RX1 yX1_begin wsX1_begin) := goodIn_app (goodIn_of _ (by decide +kernel)) ggX0_leastArcOnward_X1_begin
set_option maxRecDepth 20000 in
theorem ggX0_leastArcOnward_X1_left : GoodIn wsX0_leastArcOnward wsX1_left := goodIn_r _ [22, 23, 24, 16, 17, 7, 18, 43, 44, 45, 46, 47, 48, 49] (by decide +kernel) (by decide +kernel)
set_option maxRecDepth 20000 in
theorem gX0_leastArcOnward_X1_left : GoodIn wsX0_leastArcOnward (wsV RX0 51 RX1 yX1_left wsX1_left) := goodIn_app (goodIn_of _ (by decide +kernel)) ggX0_leastArcOnward_X1_left
set_option maxRecDepth 20000 in
theorem ggX0_leastArcOnward_X1_end : GoodIn wsX0_leastArcOnward wsX1_end := goodIn_r _ [28, 15, 14, 16, 17, 7, 18, 43, 44, 45, 46, 47, 48, 49] (by decide +kernel) (by decide +kernel)
set_option maxRecDepth 20000 in
theorem gX0_leastArcOnward_X1_end : GoodIn wsX0_leastArcOnward (wsV RX0 54 RX1 yX1_end wsX1_end) := goodIn_app (goodIn_of _ (by decide +kernel)) ggX0_leastArcOnward_X1_end
set_option maxRecDepth 20000 in
theorem ggX0_leastArcOnward_X0_reaches : GoodIn wsX0_leastArcOnward wsX0_reaches := goodIn_r _ [33, 2, 34, 40, 41, 42] (by decide +kernel) (by decide +kernel)
set_option maxRecDepth 20000 in
theorem gX0_leastArcOnward_X0_reaches : GoodIn wsX0_leastArcOnward (wsV RX0 57 RX0 yX0_reaches wsX0_reaches) := goodIn_app (goodIn_of _ (by decide +kernel)) ggX0_leastArcOnward_X0_reaches
set_option maxRecDepth 20000 in
theorem ggX0_leastArcOnward_X1_price : GoodIn wsX0_leastArcOnward wsX1_price := goodIn_r _ [38, 39, 16, 17, 7, 18, 43, 44, 45, 46, 47, 48, 49] (by decide +kernel) (by decide +kernel)
set_option maxRecDepth 20000 in
theorem gX0_leastArcOnward_X1_price : GoodIn wsX0_leastArcOnward (wsV RX0 61 RX1 yX1_price wsX1_price) := goodIn_app (goodIn_of _ (by decide +kernel)) ggX0_leastArcOnward_X1_price
set_option maxRecDepth 20000 in
theorem ggX0_beginAt_J7_fill_53178 : GoodIn wsX0_beginAt wsJ7_fill_53178 := goodIn_r _ [7] (by decide +kernel) (by decide +kernel)
set_option maxRecDepth 20000 in
theorem gX0_beginAt_J7_fill_53178 : GoodIn wsX0_beginAt (va_wsS RX0 37 yJ7_fill_53178 wsJ7_fill_53178) := goodIn_app (goodIn_of _ (by decide +kernel)) ggX0_beginAt_J7_fill_53178
set_option maxRecDepth 20000 in
theorem ggX0_settle_X0_passOverArcs : GoodIn wsX0_settle wsX0_passOverArcs := goodIn_r _ [7, 1, 8, 9, 10, 11, 12, 13, 14, 15, 16, 17, 18, 19, 20, 21, 22, 23, 24, 25, 26, 27, 28, 29, 30, 31, 32, 33, 34, 35, 36, 37, 6, 38, 39, 40, 41, 42, 43, 44, 45, 46, 47, 48, 49, 50, 51, 52, 53, 54, 55, 56, 57, 58] (by decide +kernel) (by decide +kernel)
set_option maxRecDepth 20000 in
theorem gX0_settle_X0_passOverArcs : GoodIn wsX0_settle (wsV RX0 64 RX0 yX0_passOverArcs wsX0_passOverArcs) := goodIn_app (goodIn_of _ (by decide +kernel)) ggX0_settle_X0_passOverArcs
set_option maxRecDepth 20000 in
theorem ggX0_passOverArcs_X1_arcs : GoodIn wsX0_passOverArcs wsX1_arcs := goodIn_r _ [8, 9, 47, 48, 49, 50, 51, 52, 53] (by decide +kernel) (by decide +kernel)
set_option maxRecDepth 20000 in
theorem gX0_passOverArcs_X1_arcs : GoodIn wsX0_passOverArcs (wsV RX0 43 RX1 yX1_arcs wsX1_arcs) := goodIn_app (goodIn_of _ (by decide +kernel)) ggX0_passOverArcs_X1_arcs
set_option maxRecDepth 20000 in
theorem ggX0_passOverArcs_X1_left : GoodIn wsX0_passOverArcs wsX1_left := goodIn_r _ [13, 14, 15, 16, 17, 7, 18, 47, 48, 49, 50, 51, 52, 53] (by decide +kernel) (by decide +kernel)
set_option maxRecDepth 20000 in
theorem gX0_passOverArcs_X1_left : GoodIn wsX0_passOverArcs (wsV RX0 51 RX1 yX1_left wsX1_left) := goodIn_app (goodIn_of _ (by decide +kernel)) ggX0_passOverArcs_X1_left
set_option maxRecDepth 20000 in
theorem ggX0_passOverArcs_X1_end : GoodIn wsX0_passOverArcs wsX1_end := goodIn_r _ [22, 23, 24, 16, 17, 7, 18, 47, 48, 49, 50, 51, 52, 53] (by decide +kernel) (by decide +kernel)
set_option maxRecDepth 20000 in
theorem gX0_passOverArcs_X1_end : GoodIn wsX0_passOverArcs (wsV RX0 54 RX1 yX1_end wsX1_end) := goodIn_app (goodIn_of _ (by decide +kernel)) ggX0_passOverArcs_X1_end
set_option maxRecDepth 20000 in
theorem ggX0_passOverArcs_X1_begin : GoodIn wsX0_passOverArcs wsX1_begin := goodIn_r _ [28, 24, 23, 16, 17, 7, 18, 47, 48, 49, 50, 51, 52, 53] (by decide +kernel) (by decide +kernel)
set_option maxRecDepth 20000 in
theorem gX0_passOverArcs_X1_begin : GoodIn wsX0_passOverArcs (wsV RX0 47 RX1 yX1_begin wsX1_begin) := goodIn_app (goodIn_of _ (by decide +kernel)) ggX0_passOverArcs_X1_begin
set_option maxRecDepth 20000 in
theorem ggX0_passOverArcs_X0_reaches : GoodIn wsX0_passOverArcs wsX0_reaches := goodIn_r _ [33, 2, 34, 44, 45, 46] (by decide +kernel) (by decide +kernel)
set_option maxRecDepth 20000 in
theorem gX0_passOverArcs_X0_reaches : GoodIn wsX0_passOverArcs (wsV RX0 57 RX0 yX0_reaches wsX0_reaches) := goodIn_app (goodIn_of _ (by decide +kernel)) ggX0_passOverArcs_X0_reaches
set_option maxRecDepth 20000 in
theorem ggX0_passOverArcs_X1_price : GoodIn wsX0_passOverArcs wsX1_price := goodIn_r _ [38, 39, 16, 17, 7, 18, 47, 48, 49, 50, 51, 52, 53] (by decide +kernel) (by decide +kernel)
set_option maxRecDepth 20000 in
theorem gX0_passOverArcs_X1_price : GoodIn wsX0_passOverArcs (wsV RX0 61 RX1 yX1_price wsX1_price) := goodIn_app (goodIn_of _ (by decide +kernel)) ggX0_passOverArcs_X1_price
set_option maxRecDepth 20000 in
theorem ggX0_passOverArcs_X0_shorten : GoodIn wsX0_passOverArcs wsX0_shorten := goodIn_r _ [43, 2, 3, 44, 45, 46] (by decide +kernel) (by decide +kernel)
set_option maxRecDepth 20000 in
theorem gX0_passOverArcs_X0_shorten : GoodIn wsX0_passOverArcs (wsV RX0 67 RX0 yX0_shorten wsX0_shorten) := goodIn_app (goodIn_of _ (by decide +kernel)) ggX0_passOverArcs_X0_shorten
set_option maxRecDepth 20000 in
theorem ggX1_clearFlow_J7_fill_53178 : GoodIn wsX1_clearFlow wsJ7_fill_53178 := goodIn_r _ [5] (by decide +kernel) (by decide +kernel)
set_option maxRecDepth 20000 in
theorem gX1_clearFlow_J7_fill_53178 : GoodIn wsX1_clearFlow (va_wsS RX1 32 yJ7_fill_53178 wsJ7_fill_53178) := goodIn_app (goodIn_of _ (by decide +kernel)) ggX1_clearFlow_J7_fill_53178
set_option maxRecDepth 20000 in
theorem ggX1_begin_X1_isBack : GoodIn wsX1_begin wsX1_isBack := goodIn_r _ [6] (by decide +kernel) (by decide +kernel)
set_option maxRecDepth 20000 in
theorem gX1_begin_X1_isBack : GoodIn wsX1_begin (va_wsS RX1 38 yX1_isBack wsX1_isBack) := goodIn_app (goodIn_of _ (by decide +kernel)) ggX1_begin_X1_isBack
set_option maxRecDepth 20000 in
theorem ggX1_end_X1_isBack : GoodIn wsX1_end wsX1_isBack := goodIn_r _ [6] (by decide +kernel) (by decide +kernel)
set_option maxRecDepth 20000 in
theorem gX1_end_X1_isBack : GoodIn wsX1_end (va_wsS RX1 38 yX1_isBack wsX1_isBack) := goodIn_app (goodIn_of _ (by decide +kernel)) ggX1_end_X1_isBack
set_option maxRecDepth 20000 in
theorem ggX1_price_X1_isBack : GoodIn wsX1_price wsX1_isBack := goodIn_r _ [5] (by decide +kernel) (by decide +kernel)
set_option maxRecDepth 20000 in
theorem gX1_price_X1_isBack : GoodIn wsX1_price (va_wsS RX1 38 yX1_isBack wsX1_isBack) := goodIn_app (goodIn_of _ (by decide +kernel)) ggX1_price_X1_isBack
set_option maxRecDepth 20000 in
theorem ggX1_left_X1_isBack : GoodIn wsX1_left wsX1_isBack := goodIn_r _ [6] (by decide +kernel) (by decide +kernel)
set_option maxRecDepth 20000 in
theorem gX1_left_X1_isBack : GoodIn wsX1_left (va_wsS RX1 38 yX1_isBack wsX1_isBack) := goodIn_app (goodIn_of _ (by decide +kernel)) ggX1_left_X1_isBack
set_option maxRecDepth 20000 in
theorem ggX1_send_X1_isBack : GoodIn wsX1_send wsX1_isBack := goodIn_r _ [5] (by decide +kernel) (by decide +kernel)
set_option maxRecDepth 20000 in
theorem gX1_send_X1_isBack : GoodIn wsX1_send (va_wsS RX1 38 yX1_isBack wsX1_isBack) := goodIn_app (goodIn_of _ (by decide +kernel)) ggX1_send_X1_isBack
set_option maxRecDepth 20000 in
theorem ggX2_init_X2_within : GoodIn wsX2_init wsX2_within := goodIn_r _ [20, 21, 22, 23, 24, 25, 26, 27] (by decide +kernel) (by decide +kernel)
set_option maxRecDepth 20000 in
theorem gX2_init_X2_within : GoodIn wsX2_init (va_wsS RX2 18 yX2_within wsX2_within) := goodIn_app (goodIn_of _ (by decide +kernel)) ggX2_init_X2_within
set_option maxRecDepth 20000 in
theorem ggX2_init_X1_init : GoodIn wsX2_init wsX1_init := goodIn_r _ [30, 31, 2, 3, 32, 15, 33, 34, 35, 36, 37, 57, 58, 59, 60, 61, 62, 63] (by decide +kernel) (by decide +kernel)
set_option maxRecDepth 20000 in
theorem gX2_init_X1_init : GoodIn wsX2_init (wsX1_init) := ggX2_init_X1_init
set_option maxRecDepth 20000 in
theorem ggX2_init_X0_init : GoodIn wsX2_init wsX0_init := goodIn_r _ [40, 41, 2, 3, 42, 43, 15, 44, 45, 64, 65, 66, 57, 58, 59, 60, 61, 62, 63] (by decide +kernel) (by decide +kernel)
set_option maxRecDepth 20000 in
theorem gX2_init_X0_init : GoodIn wsX2_init (wsX0_init) := ggX2_init_X0_init
set_option maxRecDepth 20000 in
theorem ggX2_edge_X1_hasNode : GoodIn wsX2_edge wsX1_hasNode := goodIn_r _ [10, 11, 107, 108, 109, 110, 111, 112, 113] (by decide +kernel) (by decide +kernel)
set_option maxRecDepth 20000 in
theorem gX2_edge_X1_hasNode : GoodIn wsX2_edge (wsV RX2 47 RX1 yX1_hasNode wsX1_hasNode) := goodIn_app (goodIn_of _ (by decide +kernel)) ggX2_edge_X1_hasNode
set_option maxRecDepth 20000 in
theorem ggX2_edge_X1_isFull : GoodIn wsX2_edge wsX1_isFull := goodIn_r _ [15, 16, 17, 107, 108, 109, 110, 111, 112, 113] (by decide +kernel) (by decide +kernel)
set_option maxRecDepth 20000 in
theorem gX2_edge_X1_isFull : GoodIn wsX2_edge (wsV RX2 52 RX1 yX1_isFull wsX1_isFull) := goodIn_app (goodIn_of _ (by decide +kernel)) ggX2_edge_X1_isFull
set_option maxRecDepth 20000 in
theorem ggX2_edge_X1_capacityInAll : GoodIn wsX2_edge wsX1_capacityInAll := goodIn_r _ [21, 16, 22, 107, 108, 109, 110, 111, 112, 113] (by decide +kernel) (by decide +kernel)
set_option maxRecDepth 20000 in
theorem gX2_edge_X1_capacityInAll : GoodIn wsX2_edge (wsV RX2 56 RX1 yX1_capacityInAll wsX1_capacityInAll) := goodIn_app (goodIn_of _ (by decide +kernel)) ggX2_edge_X1_capacityInAll
set_option maxRecDepth 20000 in
theorem ggX2_edge_X2_forgetSolving : GoodIn wsX2_edge wsX2_forgetSolving := goodIn_r _ [27, 1, 28, 29, 30, 31, 32, 33, 9, 34, 35, 36, 37, 38, 39, 96, 97, 98, 99, 100, 101, 102, 103, 104, 105, 106, 107, 108, 109, 110, 111, 112, 113] (by decide +kernel) (by decide +kernel)
set_option maxRecDepth 20000 in
theorem gX2_edge_X2_forgetSolving : GoodIn wsX2_edge (wsV RX2 62 RX2 yX2_forgetSolving wsX2_forgetSolving) := goodIn_app (goodIn_of _ (by decide +kernel)) ggX2_edge_X2_forgetSolving
set_option maxRecDepth 20000 in
theorem ggX2_edge_X1_add : GoodIn wsX2_edge wsX1_add := goodIn_r _ [43, 16, 17, 44, 22, 45, 107, 108, 109, 110, 111, 112, 113] (by decide +kernel) (by decide +kernel)
set_option maxRecDepth 20000 in
theorem gX2_edge_X1_add : GoodIn wsX2_edge (wsV RX2 65 RX1 yX1_add wsX1_add) := goodIn_app (goodIn_of _ (by decide +kernel)) ggX2_edge_X1_add
set_option maxRecDepth 20000 in
theorem ggX2_edge_X0_settlesFromEverywhere : GoodIn wsX2_edge wsX0_settlesFromEverywhere := goodIn_r _ [50, 51, 52, 53, 37, 38, 39, 54, 55, 56, 49, 57, 58, 59, 60, 61, 62, 63, 64, 65, 66, 9, 67, 16, 68, 69, 70, 71, 35, 22, 72, 73, 74, 75, 76, 77, 78, 17, 44, 79, 80, 81, 82, 83, 84, 85, 86, 87, 88, 89, 90, 91, 45, 92, 93, 94, 95, 114, 115, 116, 107, 108, 109, 110, 111, 112, 113] (by decide +kernel) (by decide +kernel)
set_option maxRecDepth 20000 in
theorem gX2_edge_X0_settlesFromEverywhere : GoodIn wsX2_edge (wsV RX2 69 RX0 yX0_settlesFromEverywhere wsX0_settlesFromEverywhere) := goodIn_app (goodIn_of _ (by decide +kernel)) ggX2_edge_X0_settlesFromEverywhere
set_option maxRecDepth 20000 in
theorem ggX2_ends_X1_hasNode : GoodIn wsX2_ends wsX1_hasNode := goodIn_r _ [8, 9, 38, 39, 40, 41, 42, 43, 44] (by decide +kernel) (by decide +kernel)
set_option maxRecDepth 20000 in
theorem gX2_ends_X1_hasNode : GoodIn wsX2_ends (wsV RX2 47 RX1 yX1_hasNode wsX1_hasNode) := goodIn_app (goodIn_of _ (by decide +kernel)) ggX2_ends_X1_hasNode
set_option maxRecDepth 20000 in
theorem ggX2_ends_X2_forgetSolving : GoodIn wsX2_ends wsX2_forgetSolving := goodIn_r _ [14, 1, 15, 16, 17, 18, 19, 20, 7, 21, 22, 23, 24, 25, 26, 27, 28, 29, 30, 31, 32, 33, 34, 35, 36, 37, 38, 39, 40, 41, 42, 43, 44] (by decide +kernel) (by decide +kernel)
set_option maxRecDepth 20000 in
theorem gX2_ends_X2_forgetSolving : GoodIn wsX2_ends (wsV RX2 62 RX2 yX2_forgetSolving wsX2_forgetSolving) := goodIn_app (goodIn_of _ (by decide +kernel)) ggX2_ends_X2_forgetSolving
set_option maxRecDepth 20000 in
theorem ggX2_run_X2_findWay : GoodIn wsX2_run wsX2_findWay := goodIn_r _ [9, 10, 11, 1, 12, 13, 14, 15, 16, 17, 18, 19, 20, 21, 22, 23, 24, 25, 26, 27, 28, 29, 30, 31, 32, 33, 34, 35, 36, 37, 38, 39, 40, 41, 42, 43, 44, 45, 46, 47, 48, 49, 50, 51, 52, 53, 54, 55, 56, 57, 58, 59, 60, 61, 62, 63, 64, 65, 66, 67, 68, 69, 70, 71, 72, 73, 74, 75, 76, 112, 113, 114, 115, 116, 117, 118, 119, 120, 121, 122, 123, 124, 125, 126, 127, 128, 129, 130, 131, 132] (by decide +kernel) (by decide +kernel)
set_option maxRecDepth 20000 in
theorem gX2_run_X2_findWay : GoodIn wsX2_run (wsV RX2 79 RX2 yX2_findWay wsX2_findWay) := goodIn_app (goodIn_of _ (by decide +kernel)) ggX2_run_X2_findWay
set_option maxRecDepth 20000 in
theorem ggX2_run_X2_doRound : GoodIn wsX2_run wsX2_doRound := goodIn_r _ [80, 81, 82, 83, 84, 85, 86, 87, 88, 8, 89, 1, 11, 10, 90, 91, 92, 15, 93, 32, 21, 23, 38, 39, 40, 41, 42, 43, 59, 60, 61, 62, 58, 57, 50, 51, 52, 44, 45, 46, 47, 48, 49, 53, 54, 55, 56, 63, 64, 65, 66, 22, 67, 68, 69, 70, 71, 94, 95, 96, 97, 98, 99, 100, 101, 102, 103, 104, 105, 106, 107, 112, 113, 114, 115, 116, 117, 118, 119, 120, 121, 122, 123, 124, 125, 126, 127, 128, 129, 130, 131, 132] (by decide +kernel) (by decide +kernel)
set_option maxRecDepth 20000 in
theorem gX2_run_X2_doRound : GoodIn wsX2_run (wsV RX2 82 RX2 yX2_doRound wsX2_doRound) := goodIn_app (goodIn_of _ (by decide +kernel)) ggX2_run_X2_doRound
set_option maxRecDepth 20000 in
theorem ggX2_run_X0_measureFrom : GoodIn wsX2_run wsX0_measureFrom := goodIn_r _ [111, 17, 18, 19, 15, 20, 21, 22, 23, 24, 25, 26, 27, 28, 29, 30, 31, 32, 33, 34, 35, 36, 37, 38, 39, 40, 41, 42, 43, 44, 45, 46, 47, 48, 49, 50, 51, 52, 53, 54, 55, 56, 57, 58, 59, 60, 61, 62, 63, 64, 65, 66, 67, 68, 69, 70, 71, 72, 73, 74, 75, 123, 124, 125, 126, 127, 128, 129, 130, 131, 132] (by decide +kernel) (by decide +kernel)
set_option maxRecDepth 20000 in
theorem gX2_run_X0_measureFrom : GoodIn wsX2_run (wsV RX2 85 RX0 yX0_measureFrom wsX0_measureFrom) := goodIn_app (goodIn_of _ (by decide +kernel)) ggX2_run_X0_measureFrom
set_option maxRecDepth 20000 in
theorem ggX2_cost_X1_costOfFlow : GoodIn wsX2_cost wsX1_costOfFlow := goodIn_r _ [7, 8, 9, 10, 22, 23, 24, 25, 26, 27, 28] (by decide +kernel) (by decide +kernel)
set_option maxRecDepth 20000 in
theorem gX2_cost_X1_costOfFlow : GoodIn wsX2_cost (wsV RX2 92 RX1 yX1_costOfFlow wsX1_costOfFlow) := goodIn_app (goodIn_of _ (by decide +kernel)) ggX2_cost_X1_costOfFlow
set_option maxRecDepth 20000 in
theorem ggX2_flow_X1_hasEdge : GoodIn wsX2_flow wsX1_hasEdge := goodIn_r _ [7, 8, 20, 21, 22, 23, 24, 25, 26] (by decide +kernel) (by decide +kernel)
set_option maxRecDepth 20000 in
theorem gX2_flow_X1_hasEdge : GoodIn wsX2_flow (wsV RX2 95 RX1 yX1_hasEdge wsX1_hasEdge) := goodIn_app (goodIn_of _ (by decide +kernel)) ggX2_flow_X1_hasEdge
set_option maxRecDepth 20000 in
theorem ggX2_potential_X1_hasNode : GoodIn wsX2_potential wsX1_hasNode := goodIn_r _ [9, 10, 25, 26, 27, 28, 29, 30, 31] (by decide +kernel) (by decide +kernel)
set_option maxRecDepth 20000 in
theorem gX2_potential_X1_hasNode : GoodIn wsX2_potential (wsV RX2 47 RX1 yX1_hasNode wsX1_hasNode) := goodIn_app (goodIn_of _ (by decide +kernel)) ggX2_potential_X1_hasNode
set_option maxRecDepth 20000 in
theorem ggX2_inCut_X1_hasNode : GoodIn wsX2_inCut wsX1_hasNode := goodIn_r _ [8, 9, 28, 29, 30, 31, 32, 33, 34] (by decide +kernel) (by decide +kernel)
set_option maxRecDepth 20000 in
theorem gX2_inCut_X1_hasNode : GoodIn wsX2_inCut (wsV RX2 47 RX1 yX1_hasNode wsX1_hasNode) := goodIn_app (goodIn_of _ (by decide +kernel)) ggX2_inCut_X1_hasNode
set_option maxRecDepth 20000 in
theorem ggX2_inCut_X0_reaches : GoodIn wsX2_inCut wsX0_reaches := goodIn_r _ [14, 15, 16, 35, 36, 37] (by decide +kernel) (by decide +kernel)
set_option maxRecDepth 20000 in
theorem gX2_inCut_X0_reaches : GoodIn wsX2_inCut (wsV RX2 104 RX0 yX0_reaches wsX0_reaches) := goodIn_app (goodIn_of _ (by decide +kernel)) ggX2_inCut_X0_reaches
set_option maxRecDepth 20000 in
theorem ggX2_check_X2_flowsFit : GoodIn wsX2_check wsX2_flowsFit := goodIn_r _ [6, 7, 8, 9, 10, 72, 73, 74, 75, 76, 77, 78, 79, 80, 81, 82, 83, 84, 85, 86, 87, 88, 89] (by decide +kernel) (by decide +kernel)
set_option maxRecDepth 20000 in
theorem gX2_check_X2_flowsFit : GoodIn wsX2_check (wsV RX2 107 RX2 yX2_flowsFit wsX2_flowsFit) := goodIn_app (goodIn_of _ (by decide +kernel)) ggX2_check_X2_flowsFit
set_option maxRecDepth 20000 in
theorem ggX2_check_X2_nodesPassOn : GoodIn wsX2_check wsX2_nodesPassOn := goodIn_r _ [14, 7, 15, 16, 17, 18, 19, 20, 21, 22, 23, 24, 25, 26, 72, 73, 74, 75, 76, 77, 78, 79, 80, 81, 82, 83, 84, 85, 86, 87, 88, 89] (by decide +kernel) (by decide +kernel)
set_option maxRecDepth 20000 in
theorem gX2_check_X2_nodesPassOn : GoodIn wsX2_check (wsV RX2 110 RX2 yX2_nodesPassOn wsX2_nodesPassOn) := goodIn_app (goodIn_of _ (by decide +kernel)) ggX2_check_X2_nodesPassOn
set_option maxRecDepth 20000 in
theorem ggX2_check_X2_cutIsTight : GoodIn wsX2_check wsX2_cutIsTight := goodIn_r _ [30, 7, 8, 31, 32, 33, 9, 10, 34, 35, 36, 37, 38, 39, 40, 41, 72, 73, 74, 75, 76, 77, 78, 79, 80, 81, 82, 83, 84, 85, 86, 87, 88, 89, 90, 91, 92] (by decide +kernel) (by decide +kernel)
set_option maxRecDepth 20000 in
theorem gX2_check_X2_cutIsTight : GoodIn wsX2_check (wsV RX2 113 RX2 yX2_cutIsTight wsX2_cutIsTight) := goodIn_app (goodIn_of _ (by decide +kernel)) ggX2_check_X2_cutIsTight
set_option maxRecDepth 20000 in
theorem ggX2_check_X2_potentialsHold : GoodIn wsX2_check wsX2_potentialsHold := goodIn_r _ [45, 7, 31, 46, 47, 48, 49, 21, 50, 23, 51, 52, 53, 54, 24, 26, 55, 56, 57, 58, 59, 60, 61, 62, 63, 64, 65, 25, 66, 35, 36, 37, 38, 39, 40, 41, 67, 68, 69, 70, 71, 72, 73, 74, 75, 76, 77, 78, 79, 80, 81, 82, 90, 91, 92, 83, 84, 85, 86, 87, 88, 89] (by decide +kernel) (by decide +kernel)
set_option maxRecDepth 20000 in
theorem gX2_check_X2_potentialsHold : GoodIn wsX2_check (wsV RX2 116 RX2 yX2_potentialsHold wsX2_potentialsHold) := goodIn_app (goodIn_of _ (by decide +kernel)) ggX2_check_X2_potentialsHold
set_option maxRecDepth 20000 in
theorem ggX2_next_X2_findWay : GoodIn wsX2_next wsX2_findWay := goodIn_r _ [10, 4, 11, 1, 12, 13, 14, 15, 16, 17, 18, 19, 20, 21, 22, 23, 24, 25, 26, 27, 28, 29, 30, 31, 32, 33, 34, 35, 36, 37, 38, 39, 40, 41, 42, 43, 44, 45, 46, 47, 48, 49, 50, 51, 52, 53, 54, 55, 56, 57, 58, 59, 60, 61, 62, 63, 64, 65, 66, 67, 68, 69, 70, 71, 72, 73, 74, 75, 76, 77, 78, 79, 80, 81, 82, 83, 84, 85, 86, 87, 88, 89, 90, 91, 92, 93, 94, 95, 96, 97] (by decide +kernel) (by decide +kernel)
set_option maxRecDepth 20000 in
theorem gX2_next_X2_findWay : GoodIn wsX2_next (wsV RX2 79 RX2 yX2_findWay wsX2_findWay) := goodIn_app (goodIn_of _ (by decide +kernel)) ggX2_next_X2_findWay
set_option maxRecDepth 20000 in
theorem ggX2_forgetSolving_X1_clearFlow : GoodIn wsX2_forgetSolving wsX1_clearFlow := goodIn_r _ [9, 10, 11, 12, 13, 14, 26, 27, 28, 29, 30, 31, 32] (by decide +kernel) (by decide +kernel)
set_option maxRecDepth 20000 in
theorem gX2_forgetSolving_X1_clearFlow : GoodIn wsX2_forgetSolving (wsV RX2 137 RX1 yX1_clearFlow wsX1_clearFlow) := goodIn_app (goodIn_of _ (by decide +kernel)) ggX2_forgetSolving_X1_clearFlow
set_option maxRecDepth 20000 in
theorem ggX2_findWay_X0_measureTo : GoodIn wsX2_findWay wsX0_measureTo := goodIn_r _ [8, 9, 10, 11, 7, 12, 13, 14, 15, 16, 17, 18, 19, 20, 21, 22, 23, 24, 25, 26, 27, 28, 29, 30, 31, 32, 33, 34, 35, 36, 37, 38, 39, 40, 41, 42, 43, 44, 45, 46, 47, 48, 49, 50, 51, 52, 53, 54, 55, 56, 57, 58, 59, 60, 61, 62, 63, 64, 65, 66, 67, 80, 81, 82, 83, 84, 85, 86, 87, 88, 89] (by decide +kernel) (by decide +kernel)
set_option maxRecDepth 20000 in
theorem gX2_findWay_X0_measureTo : GoodIn wsX2_findWay (wsV RX2 140 RX0 yX0_measureTo wsX0_measureTo) := goodIn_app (goodIn_of _ (by decide +kernel)) ggX2_findWay_X0_measureTo
set_option maxRecDepth 20000 in
theorem ggX2_findWay_X0_reaches : GoodIn wsX2_findWay wsX0_reaches := goodIn_r _ [58, 13, 14, 80, 81, 82] (by decide +kernel) (by decide +kernel)
set_option maxRecDepth 20000 in
theorem gX2_findWay_X0_reaches : GoodIn wsX2_findWay (wsV RX2 104 RX0 yX0_reaches wsX0_reaches) := goodIn_app (goodIn_of _ (by decide +kernel)) ggX2_findWay_X0_reaches
set_option maxRecDepth 20000 in
theorem ggX2_doRound_X2_traceWay : GoodIn wsX2_doRound wsX2_traceWay := goodIn_r _ [10, 1, 11, 12, 3, 13, 2, 14, 15, 16, 17, 18, 19, 20, 21, 22, 23, 24, 25, 26, 27, 28, 29, 30, 31, 32, 33, 34, 35, 36, 37, 38, 39, 40, 41, 42, 43, 44, 45, 46, 47, 48, 49, 50, 51, 52, 53, 54, 55, 56, 57, 71, 72, 73, 74, 75, 76, 77, 78, 79, 80, 81, 82, 83, 84, 85, 86, 87, 88, 89, 90, 91] (by decide +kernel) (by decide +kernel)
set_option maxRecDepth 20000 in
theorem gX2_doRound_X2_traceWay : GoodIn wsX2_doRound (wsV RX2 143 RX2 yX2_traceWay wsX2_traceWay) := goodIn_app (goodIn_of _ (by decide +kernel)) ggX2_doRound_X2_traceWay
set_option maxRecDepth 20000 in
theorem ggX2_doRound_X2_leastOnWay : GoodIn wsX2_doRound wsX2_leastOnWay := goodIn_r _ [61, 1, 2, 3, 62, 63, 64, 65, 66, 38, 39, 25, 40, 41, 42, 34, 35, 36, 71, 72, 73, 74, 75, 76, 77, 78, 79, 80, 81, 85, 86, 87, 88, 89, 90, 91] (by decide +kernel) (by decide +kernel)
set_option maxRecDepth 20000 in
theorem gX2_doRound_X2_leastOnWay : GoodIn wsX2_doRound (wsV RX2 146 RX2 yX2_leastOnWay wsX2_leastOnWay) := goodIn_app (goodIn_of _ (by decide +kernel)) ggX2_doRound_X2_leastOnWay
set_option maxRecDepth 20000 in
theorem ggX2_doRound_X1_send : GoodIn wsX2_doRound wsX1_send := goodIn_r _ [70, 41, 34, 35, 25, 36, 85, 86, 87, 88, 89, 90, 91] (by decide +kernel) (by decide +kernel)
set_option maxRecDepth 20000 in
theorem gX2_doRound_X1_send : GoodIn wsX2_doRound (wsV RX2 153 RX1 yX1_send wsX1_send) := goodIn_app (goodIn_of _ (by decide +kernel)) ggX2_doRound_X1_send
set_option maxRecDepth 20000 in
theorem ggX2_traceWay_X0_leastArcOnward : GoodIn wsX2_traceWay wsX0_leastArcOnward := goodIn_r _ [11, 12, 13, 14, 15, 16, 17, 18, 19, 20, 21, 22, 23, 24, 25, 26, 27, 28, 29, 30, 31, 32, 33, 34, 35, 36, 37, 38, 39, 40, 41, 42, 10, 43, 44, 45, 46, 47, 48, 49, 62, 63, 64, 65, 66, 67, 68, 69, 70, 71] (by decide +kernel) (by decide +kernel)
set_option maxRecDepth 20000 in
theorem gX2_traceWay_X0_leastArcOnward : GoodIn wsX2_traceWay (wsV RX2 156 RX0 yX0_leastArcOnward wsX0_leastArcOnward) := goodIn_app (goodIn_of _ (by decide +kernel)) ggX2_traceWay_X0_leastArcOnward
set_option maxRecDepth 20000 in
theorem ggX2_traceWay_X1_end : GoodIn wsX2_traceWay wsX1_end := goodIn_r _ [39, 26, 25, 27, 28, 18, 29, 65, 66, 67, 68, 69, 70, 71] (by decide +kernel) (by decide +kernel)
set_option maxRecDepth 20000 in
theorem gX2_traceWay_X1_end : GoodIn wsX2_traceWay (wsV RX2 160 RX1 yX1_end wsX1_end) := goodIn_app (goodIn_of _ (by decide +kernel)) ggX2_traceWay_X1_end
set_option maxRecDepth 20000 in
theorem ggX2_leastOnWay_X1_left : GoodIn wsX2_leastOnWay wsX1_left := goodIn_r _ [12, 13, 14, 15, 16, 11, 17, 29, 30, 31, 32, 33, 34, 35] (by decide +kernel) (by decide +kernel)
set_option maxRecDepth 20000 in
theorem gX2_leastOnWay_X1_left : GoodIn wsX2_leastOnWay (wsV RX2 163 RX1 yX1_left wsX1_left) := goodIn_app (goodIn_of _ (by decide +kernel)) ggX2_leastOnWay_X1_left
set_option maxRecDepth 20000 in
theorem ggX2_nodesPassOn_X1_surplus : GoodIn wsX2_nodesPassOn wsX1_surplus := goodIn_r _ [9, 10, 11, 12, 13, 25, 26, 27, 28, 29, 30, 31] (by decide +kernel) (by decide +kernel)
set_option maxRecDepth 20000 in
theorem gX2_nodesPassOn_X1_surplus : GoodIn wsX2_nodesPassOn (wsV RX2 169 RX1 yX1_surplus wsX1_surplus) := goodIn_app (goodIn_of _ (by decide +kernel)) ggX2_nodesPassOn_X1_surplus
set_option maxRecDepth 20000 in
theorem ggX2_cutIsTight_X0_reaches : GoodIn wsX2_cutIsTight wsX0_reaches := goodIn_r _ [13, 14, 15, 34, 35, 36] (by decide +kernel) (by decide +kernel)
set_option maxRecDepth 20000 in
theorem gX2_cutIsTight_X0_reaches : GoodIn wsX2_cutIsTight (wsV RX2 104 RX0 yX0_reaches wsX0_reaches) := goodIn_app (goodIn_of _ (by decide +kernel)) ggX2_cutIsTight_X0_reaches
set_option maxRecDepth 20000 in
theorem ggX2_potentialsHold_X1_arcs : GoodIn wsX2_potentialsHold wsX1_arcs := goodIn_r _ [8, 9, 55, 56, 57, 58, 59, 60, 61] (by decide +kernel) (by decide +kernel)
set_option maxRecDepth 20000 in
theorem gX2_potentialsHold_X1_arcs : GoodIn wsX2_potentialsHold (wsV RX2 179 RX1 yX1_arcs wsX1_arcs) := goodIn_app (goodIn_of _ (by decide +kernel)) ggX2_potentialsHold_X1_arcs
set_option maxRecDepth 20000 in
theorem ggX2_potentialsHold_X1_begin : GoodIn wsX2_potentialsHold wsX1_begin := goodIn_r _ [13, 14, 15, 16, 17, 7, 18, 55, 56, 57, 58, 59, 60, 61] (by decide +kernel) (by decide +kernel)
set_option maxRecDepth 20000 in
theorem gX2_potentialsHold_X1_begin : GoodIn wsX2_potentialsHold (wsV RX2 182 RX1 yX1_begin wsX1_begin) := goodIn_app (goodIn_of _ (by decide +kernel)) ggX2_potentialsHold_X1_begin
set_option maxRecDepth 20000 in
theorem ggX2_potentialsHold_X1_end : GoodIn wsX2_potentialsHold wsX1_end := goodIn_r _ [22, 15, 14, 16, 17, 7, 18, 55, 56, 57, 58, 59, 60, 61] (by decide +kernel) (by decide +kernel)
set_option maxRecDepth 20000 in
theorem gX2_potentialsHold_X1_end : GoodIn wsX2_potentialsHold (wsV RX2 160 RX1 yX1_end wsX1_end) := goodIn_app (goodIn_of _ (by decide +kernel)) ggX2_potentialsHold_X1_end
set_option maxRecDepth 20000 in
theorem ggX2_potentialsHold_X1_left : GoodIn wsX2_potentialsHold wsX1_left := goodIn_r _ [26, 27, 28, 16, 17, 7, 18, 55, 56, 57, 58, 59, 60, 61] (by decide +kernel) (by decide +kernel)
set_option maxRecDepth 20000 in
theorem gX2_potentialsHold_X1_left : GoodIn wsX2_potentialsHold (wsV RX2 163 RX1 yX1_left wsX1_left) := goodIn_app (goodIn_of _ (by decide +kernel)) ggX2_potentialsHold_X1_left
set_option maxRecDepth 20000 in
theorem ggX2_potentialsHold_X0_reaches : GoodIn wsX2_potentialsHold wsX0_reaches := goodIn_r _ [33, 34, 35, 52, 53, 54] (by decide +kernel) (by decide +kernel)
set_option maxRecDepth 20000 in
theorem gX2_potentialsHold_X0_reaches : GoodIn wsX2_potentialsHold (wsV RX2 104 RX0 yX0_reaches wsX0_reaches) := goodIn_app (goodIn_of _ (by decide +kernel)) ggX2_potentialsHold_X0_reaches
set_option maxRecDepth 20000 in
theorem ggX2_potentialsHold_X1_price : GoodIn wsX2_potentialsHold wsX1_price := goodIn_r _ [39, 40, 16, 17, 7, 18, 55, 56, 57, 58, 59, 60, 61] (by decide +kernel) (by decide +kernel)
set_option maxRecDepth 20000 in
theorem gX2_potentialsHold_X1_price : GoodIn wsX2_potentialsHold (wsV RX2 185 RX1 yX1_price wsX1_price) := goodIn_app (goodIn_of _ (by decide +kernel)) ggX2_potentialsHold_X1_price
set_option maxRecDepth 20000 in
theorem ggX3_edge_X3_isNode : GoodIn wsX3_edge wsX3_isNode := goodIn_r _ [14, 15, 24, 25, 26, 27, 28, 29, 30, 31, 32, 33, 34, 35, 36, 37, 38, 39, 40, 41, 42] (by decide +kernel) (by decide +kernel)
set_option maxRecDepth 20000 in
theorem gX3_edge_X3_isNode : GoodIn wsX3_edge (wsV RX3 59 RX3 yX3_isNode wsX3_isNode) := goodIn_app (goodIn_of _ (by decide +kernel)) ggX3_edge_X3_isNode
set_option maxRecDepth 20000 in
theorem ggX3_edge_X3_gone : GoodIn wsX3_edge wsX3_gone := goodIn_r _ [19, 20, 21, 22, 2, 23, 24, 25, 26, 27, 28, 29, 30, 31, 32, 33, 34, 35, 36, 37, 38, 39, 40, 41, 42] (by decide +kernel) (by decide +kernel)
set_option maxRecDepth 20000 in
theorem gX3_edge_X3_gone : GoodIn wsX3_edge (wsV RX3 70 RX3 yX3_gone wsX3_gone) := goodIn_app (goodIn_of _ (by decide +kernel)) ggX3_edge_X3_gone
set_option maxRecDepth 20000 in
theorem ggX3_ends_X3_isNode : GoodIn wsX3_ends wsX3_isNode := goodIn_r _ [8, 9, 19, 20, 21, 22, 23, 24, 25, 26, 27, 28, 29, 30, 31, 32, 33, 34, 35, 36, 37] (by decide +kernel) (by decide +kernel)
set_option maxRecDepth 20000 in
theorem gX3_ends_X3_isNode : GoodIn wsX3_ends (wsV RX3 59 RX3 yX3_isNode wsX3_isNode) := goodIn_app (goodIn_of _ (by decide +kernel)) ggX3_ends_X3_isNode
set_option maxRecDepth 20000 in
theorem ggX3_ends_X3_gone : GoodIn wsX3_ends wsX3_gone := goodIn_r _ [13, 14, 15, 16, 17, 18, 19, 20, 21, 22, 23, 24, 25, 26, 27, 28, 29, 30, 31, 32, 33, 34, 35, 36, 37] (by decide +kernel) (by decide +kernel)
set_option maxRecDepth 20000 in
theorem gX3_ends_X3_gone : GoodIn wsX3_ends (wsV RX3 70 RX3 yX3_gone wsX3_gone) := goodIn_app (goodIn_of _ (by decide +kernel)) ggX3_ends_X3_gone
set_option maxRecDepth 20000 in
theorem ggX3_findWays_X3_begin : GoodIn wsX3_findWays wsX3_begin := goodIn_r _ [12, 13, 14, 30, 31, 32, 33, 34, 35, 36, 37, 38, 39, 40, 41, 42, 43, 44, 45, 46, 47, 48] (by decide +kernel) (by decide +kernel)
set_option maxRecDepth 20000 in
theorem gX3_findWays_X3_begin : GoodIn wsX3_findWays (wsV RX3 82 RX3 yX3_begin wsX3_begin) := goodIn_app (goodIn_of _ (by decide +kernel)) ggX3_findWays_X3_begin
set_option maxRecDepth 20000 in
theorem ggX3_findWays_X3_end : GoodIn wsX3_findWays wsX3_end := goodIn_r _ [18, 14, 13, 30, 31, 32, 33, 34, 35, 36, 37, 38, 39, 40, 41, 42, 43, 44, 45, 46, 47, 48] (by decide +kernel) (by decide +kernel)
set_option maxRecDepth 20000 in
theorem gX3_findWays_X3_end : GoodIn wsX3_findWays (wsV RX3 86 RX3 yX3_end wsX3_end) := goodIn_app (goodIn_of _ (by decide +kernel)) ggX3_findWays_X3_end
set_option maxRecDepth 20000 in
theorem ggX3_findWays_X3_left : GoodIn wsX3_findWays wsX3_left := goodIn_r _ [22, 23, 24, 30, 31, 32, 33, 34, 35, 36, 37, 38, 39, 40, 41, 42, 43, 44, 45, 46, 47, 48] (by decide +kernel) (by decide +kernel)
set_option maxRecDepth 20000 in
theorem gX3_findWays_X3_left : GoodIn wsX3_findWays (wsV RX3 89 RX3 yX3_left wsX3_left) := goodIn_app (goodIn_of _ (by decide +kernel)) ggX3_findWays_X3_left
set_option maxRecDepth 20000 in
theorem ggX3_findWays_X3_costOf : GoodIn wsX3_findWays wsX3_costOf := goodIn_r _ [28, 29, 30, 31, 32, 33, 34, 35, 36, 37, 38, 39, 40, 41, 42, 43, 44, 45, 46, 47, 48] (by decide +kernel) (by decide +kernel)
set_option maxRecDepth 20000 in
theorem gX3_findWays_X3_costOf : GoodIn wsX3_findWays (wsV RX3 92 RX3 yX3_costOf wsX3_costOf) := goodIn_app (goodIn_of _ (by decide +kernel)) ggX3_findWays_X3_costOf
set_option maxRecDepth 20000 in
theorem ggX3_nextArc_X3_end : GoodIn wsX3_nextArc wsX3_end := goodIn_r _ [9, 10, 11, 27, 28, 29, 30, 31, 32, 33, 34, 35, 36, 37, 38, 39, 40, 41, 42, 43, 44, 45] (by decide +kernel) (by decide +kernel)
set_option maxRecDepth 20000 in
theorem gX3_nextArc_X3_end : GoodIn wsX3_nextArc (wsV RX3 86 RX3 yX3_end wsX3_end) := goodIn_app (goodIn_of _ (by decide +kernel)) ggX3_nextArc_X3_end
set_option maxRecDepth 20000 in
theorem ggX3_nextArc_X3_begin : GoodIn wsX3_nextArc wsX3_begin := goodIn_r _ [15, 11, 10, 27, 28, 29, 30, 31, 32, 33, 34, 35, 36, 37, 38, 39, 40, 41, 42, 43, 44, 45] (by decide +kernel) (by decide +kernel)
set_option maxRecDepth 20000 in
theorem gX3_nextArc_X3_begin : GoodIn wsX3_nextArc (wsV RX3 82 RX3 yX3_begin wsX3_begin) := goodIn_app (goodIn_of _ (by decide +kernel)) ggX3_nextArc_X3_begin
set_option maxRecDepth 20000 in
theorem ggX3_nextArc_X3_left : GoodIn wsX3_nextArc wsX3_left := goodIn_r _ [19, 20, 21, 27, 28, 29, 30, 31, 32, 33, 34, 35, 36, 37, 38, 39, 40, 41, 42, 43, 44, 45] (by decide +kernel) (by decide +kernel)
set_option maxRecDepth 20000 in
theorem gX3_nextArc_X3_left : GoodIn wsX3_nextArc (wsV RX3 89 RX3 yX3_left wsX3_left) := goodIn_app (goodIn_of _ (by decide +kernel)) ggX3_nextArc_X3_left
set_option maxRecDepth 20000 in
theorem ggX3_nextArc_X3_costOf : GoodIn wsX3_nextArc wsX3_costOf := goodIn_r _ [25, 26, 27, 28, 29, 30, 31, 32, 33, 34, 35, 36, 37, 38, 39, 40, 41, 42, 43, 44, 45] (by decide +kernel) (by decide +kernel)
set_option maxRecDepth 20000 in
theorem gX3_nextArc_X3_costOf : GoodIn wsX3_nextArc (wsV RX3 92 RX3 yX3_costOf wsX3_costOf) := goodIn_app (goodIn_of _ (by decide +kernel)) ggX3_nextArc_X3_costOf
set_option maxRecDepth 20000 in
theorem ggX3_round_X3_nextArc : GoodIn wsX3_round wsX3_nextArc := goodIn_r _ [13, 14, 15, 16, 4, 17, 18, 19, 12, 20, 21, 22, 23, 24, 25, 26, 27, 28, 29, 30, 31, 6, 32, 33, 34, 35, 36, 37, 38, 39, 40, 41, 42, 43, 44, 45, 46, 47, 48, 49, 50, 51, 52, 53, 54, 55] (by decide +kernel) (by decide +kernel)
set_option maxRecDepth 20000 in
theorem gX3_round_X3_nextArc : GoodIn wsX3_round (wsV RX3 96 RX3 yX3_nextArc wsX3_nextArc) := goodIn_app (goodIn_of _ (by decide +kernel)) ggX3_round_X3_nextArc
set_option maxRecDepth 20000 in
theorem ggX3_round_X3_left : GoodIn wsX3_round wsX3_left := goodIn_r _ [30, 31, 6, 37, 38, 39, 40, 41, 42, 43, 44, 45, 46, 47, 48, 49, 50, 51, 52, 53, 54, 55] (by decide +kernel) (by decide +kernel)
set_option maxRecDepth 20000 in
theorem gX3_round_X3_left : GoodIn wsX3_round (wsV RX3 89 RX3 yX3_left wsX3_left) := goodIn_app (goodIn_of _ (by decide +kernel)) ggX3_round_X3_left
set_option maxRecDepth 20000 in
theorem ggX3_round_X3_end : GoodIn wsX3_round wsX3_end := goodIn_r _ [20, 21, 22, 37, 38, 39, 40, 41, 42, 43, 44, 45, 46, 47, 48, 49, 50, 51, 52, 53, 54, 55] (by decide +kernel) (by decide +kernel)
set_option maxRecDepth 20000 in
theorem gX3_round_X3_end : GoodIn wsX3_round (wsV RX3 86 RX3 yX3_end wsX3_end) := goodIn_app (goodIn_of _ (by decide +kernel)) ggX3_round_X3_end
set_option maxRecDepth 20000 in
theorem ggX3_run_X3_hasCircle : GoodIn wsX3_run wsX3_hasCircle := goodIn_r _ [7, 8, 9, 10, 11, 12, 13, 14, 52, 53, 54, 55, 56, 57, 58, 59, 60, 61, 62, 63, 64, 65, 66, 67, 68, 69, 70] (by decide +kernel) (by decide +kernel)
set_option maxRecDepth 20000 in
theorem gX3_run_X3_hasCircle : GoodIn wsX3_run (wsV RX3 99 RX3 yX3_hasCircle wsX3_hasCircle) := goodIn_app (goodIn_of _ (by decide +kernel)) ggX3_run_X3_hasCircle
set_option maxRecDepth 20000 in
theorem ggX3_run_X3_findWays : GoodIn wsX3_run wsX3_findWays := goodIn_r _ [18, 8, 19, 20, 9, 21, 10, 22, 23, 24, 25, 6, 26, 12, 14, 27, 28, 29, 30, 31, 32, 33, 34, 11, 35, 36, 37, 38, 39, 13, 52, 53, 54, 55, 56, 57, 58, 59, 60, 61, 62, 63, 64, 65, 66, 67, 68, 69, 70] (by decide +kernel) (by decide +kernel)
set_option maxRecDepth 20000 in
theorem gX3_run_X3_findWays : GoodIn wsX3_run (wsV RX3 103 RX3 yX3_findWays wsX3_findWays) := goodIn_app (goodIn_of _ (by decide +kernel)) ggX3_run_X3_findWays
set_option maxRecDepth 20000 in
theorem ggX3_run_X3_round : GoodIn wsX3_run wsX3_round := goodIn_r _ [43, 44, 22, 20, 21, 45, 35, 46, 47, 48, 49, 50, 6, 51, 10, 19, 9, 27, 28, 29, 30, 14, 12, 23, 24, 25, 26, 31, 32, 33, 34, 11, 36, 37, 38, 39, 13, 52, 53, 54, 55, 56, 57, 58, 59, 60, 61, 62, 63, 64, 65, 66, 67, 68, 69, 70] (by decide +kernel) (by decide +kernel)
set_option maxRecDepth 20000 in
theorem gX3_run_X3_round : GoodIn wsX3_run (wsV RX3 106 RX3 yX3_round wsX3_round) := goodIn_app (goodIn_of _ (by decide +kernel)) ggX3_run_X3_round
set_option maxRecDepth 20000 in
theorem ggX3_findCosts_X3_begin : GoodIn wsX3_findCosts wsX3_begin := goodIn_r _ [10, 11, 12, 28, 29, 30, 31, 32, 33, 34, 35, 36, 37, 38, 39, 40, 41, 42, 43, 44, 45, 46] (by decide +kernel) (by decide +kernel)
set_option maxRecDepth 20000 in
theorem gX3_findCosts_X3_begin : GoodIn wsX3_findCosts (wsV RX3 82 RX3 yX3_begin wsX3_begin) := goodIn_app (goodIn_of _ (by decide +kernel)) ggX3_findCosts_X3_begin
set_option maxRecDepth 20000 in
theorem ggX3_findCosts_X3_end : GoodIn wsX3_findCosts wsX3_end := goodIn_r _ [16, 12, 11, 28, 29, 30, 31, 32, 33, 34, 35, 36, 37, 38, 39, 40, 41, 42, 43, 44, 45, 46] (by decide +kernel) (by decide +kernel)
set_option maxRecDepth 20000 in
theorem gX3_findCosts_X3_end : GoodIn wsX3_findCosts (wsV RX3 86 RX3 yX3_end wsX3_end) := goodIn_app (goodIn_of _ (by decide +kernel)) ggX3_findCosts_X3_end
set_option maxRecDepth 20000 in
theorem ggX3_findCosts_X3_left : GoodIn wsX3_findCosts wsX3_left := goodIn_r _ [20, 21, 22, 28, 29, 30, 31, 32, 33, 34, 35, 36, 37, 38, 39, 40, 41, 42, 43, 44, 45, 46] (by decide +kernel) (by decide +kernel)
set_option maxRecDepth 20000 in
theorem gX3_findCosts_X3_left : GoodIn wsX3_findCosts (wsV RX3 89 RX3 yX3_left wsX3_left) := goodIn_app (goodIn_of _ (by decide +kernel)) ggX3_findCosts_X3_left
set_option maxRecDepth 20000 in
theorem ggX3_findCosts_X3_costOf : GoodIn wsX3_findCosts wsX3_costOf := goodIn_r _ [26, 27, 28, 29, 30, 31, 32, 33, 34, 35, 36, 37, 38, 39, 40, 41, 42, 43, 44, 45, 46] (by decide +kernel) (by decide +kernel)
set_option maxRecDepth 20000 in
theorem gX3_findCosts_X3_costOf : GoodIn wsX3_findCosts (wsV RX3 92 RX3 yX3_costOf wsX3_costOf) := goodIn_app (goodIn_of _ (by decide +kernel)) ggX3_findCosts_X3_costOf
set_option maxRecDepth 20000 in
theorem ggX3_potential_X3_isNode : GoodIn wsX3_potential wsX3_isNode := goodIn_r _ [9, 10, 38, 39, 40, 41, 42, 43, 44, 45, 46, 47, 48, 49, 50, 51, 52, 53, 54, 55, 56] (by decide +kernel) (by decide +kernel)
set_option maxRecDepth 20000 in
theorem gX3_potential_X3_isNode : GoodIn wsX3_potential (wsV RX3 59 RX3 yX3_isNode wsX3_isNode) := goodIn_app (goodIn_of _ (by decide +kernel)) ggX3_potential_X3_isNode
set_option maxRecDepth 20000 in
theorem ggX3_potential_X3_findCosts : GoodIn wsX3_potential wsX3_findCosts := goodIn_r _ [14, 10, 2, 15, 3, 16, 17, 18, 19, 8, 20, 21, 22, 23, 24, 25, 26, 27, 28, 29, 30, 31, 32, 33, 34, 35, 36, 37, 38, 39, 40, 41, 42, 43, 44, 45, 46, 47, 48, 49, 50, 51, 52, 53, 54, 55, 56] (by decide +kernel) (by decide +kernel)
set_option maxRecDepth 20000 in
theorem gX3_potential_X3_findCosts : GoodIn wsX3_potential (wsV RX3 109 RX3 yX3_findCosts wsX3_findCosts) := goodIn_app (goodIn_of _ (by decide +kernel)) ggX3_potential_X3_findCosts
set_option maxRecDepth 20000 in
theorem ggX3_inCut_X3_isNode : GoodIn wsX3_inCut wsX3_isNode := goodIn_r _ [7, 8, 37, 38, 39, 40, 41, 42, 43, 44, 45, 46, 47, 48, 49, 50, 51, 52, 53, 54, 55] (by decide +kernel) (by decide +kernel)
set_option maxRecDepth 20000 in
theorem gX3_inCut_X3_isNode : GoodIn wsX3_inCut (wsV RX3 59 RX3 yX3_isNode wsX3_isNode) := goodIn_app (goodIn_of _ (by decide +kernel)) ggX3_inCut_X3_isNode
set_option maxRecDepth 20000 in
theorem ggX3_inCut_X3_findCosts : GoodIn wsX3_inCut wsX3_findCosts := goodIn_r _ [12, 8, 2, 13, 14, 15, 16, 17, 18, 6, 19, 20, 21, 22, 23, 24, 25, 26, 27, 28, 29, 30, 31, 32, 33, 34, 35, 36, 37, 38, 39, 40, 41, 42, 43, 44, 45, 46, 47, 48, 49, 50, 51, 52, 53, 54, 55] (by decide +kernel) (by decide +kernel)
set_option maxRecDepth 20000 in
theorem gX3_inCut_X3_findCosts : GoodIn wsX3_inCut (wsV RX3 109 RX3 yX3_findCosts wsX3_findCosts) := goodIn_app (goodIn_of _ (by decide +kernel)) ggX3_inCut_X3_findCosts
set_option maxRecDepth 20000 in
theorem ggX3_check_X3_findCosts : GoodIn wsX3_check wsX3_findCosts := goodIn_r _ [17, 8, 5, 9, 11, 2, 18, 19, 20, 16, 21, 6, 7, 22, 23, 24, 25, 26, 27, 28, 29, 4, 3, 30, 31, 32, 33, 34, 35, 36, 37, 38, 39, 40, 41, 42, 43, 44, 45, 46, 47, 48, 49, 50, 51, 52, 53] (by decide +kernel) (by decide +kernel)
set_option maxRecDepth 20000 in
theorem gX3_check_X3_findCosts : GoodIn wsX3_check (wsV RX3 109 RX3 yX3_findCosts wsX3_findCosts) := goodIn_app (goodIn_of _ (by decide +kernel)) ggX3_check_X3_findCosts
set_option maxRecDepth 20000 in
theorem ggX3_check_X3_left : GoodIn wsX3_check wsX3_left := goodIn_r _ [29, 4, 3, 35, 36, 37, 38, 39, 40, 41, 42, 43, 44, 45, 46, 47, 48, 49, 50, 51, 52, 53] (by decide +kernel) (by decide +kernel)
set_option maxRecDepth 20000 in
theorem gX3_check_X3_left : GoodIn wsX3_check (wsV RX3 89 RX3 yX3_left wsX3_left) := goodIn_app (goodIn_of _ (by decide +kernel)) ggX3_check_X3_left
set_option maxRecDepth 20000 in
theorem ggX3_check_X3_begin : GoodIn wsX3_check wsX3_begin := goodIn_r _ [21, 6, 7, 35, 36, 37, 38, 39, 40, 41, 42, 43, 44, 45, 46, 47, 48, 49, 50, 51, 52, 53] (by decide +kernel) (by decide +kernel)
set_option maxRecDepth 20000 in
theorem gX3_check_X3_begin : GoodIn wsX3_check (wsV RX3 82 RX3 yX3_begin wsX3_begin) := goodIn_app (goodIn_of _ (by decide +kernel)) ggX3_check_X3_begin
set_option maxRecDepth 20000 in
theorem ggX3_check_X3_end : GoodIn wsX3_check wsX3_end := goodIn_r _ [25, 7, 6, 35, 36, 37, 38, 39, 40, 41, 42, 43, 44, 45, 46, 47, 48, 49, 50, 51, 52, 53] (by decide +kernel) (by decide +kernel)
set_option maxRecDepth 20000 in
theorem gX3_check_X3_end : GoodIn wsX3_check (wsV RX3 86 RX3 yX3_end wsX3_end) := goodIn_app (goodIn_of _ (by decide +kernel)) ggX3_check_X3_end
set_option maxRecDepth 20000 in
theorem ggX3_check_X3_costOf : GoodIn wsX3_check wsX3_costOf := goodIn_r _ [33, 34, 35, 36, 37, 38, 39, 40, 41, 42, 43, 44, 45, 46, 47, 48, 49, 50, 51, 52, 53] (by decide +kernel) (by decide +kernel)
set_option maxRecDepth 20000 in
theorem gX3_check_X3_costOf : GoodIn wsX3_check (wsV RX3 92 RX3 yX3_costOf wsX3_costOf) := goodIn_app (goodIn_of _ (by decide +kernel)) ggX3_check_X3_costOf
set_option maxRecDepth 20000 in
theorem ggX3_next_X3_hasCircle : GoodIn wsX3_next wsX3_hasCircle := goodIn_r _ [9, 10, 3, 11, 12, 13, 14, 15, 40, 41, 42, 43, 44, 45, 46, 47, 48, 49, 50, 51, 52, 53, 54, 55, 56, 57, 58] (by decide +kernel) (by decide +kernel)
set_option maxRecDepth 20000 in
theorem gX3_next_X3_hasCircle : GoodIn wsX3_next (wsV RX3 99 RX3 yX3_hasCircle wsX3_hasCircle) := goodIn_app (goodIn_of _ (by decide +kernel)) ggX3_next_X3_hasCircle
set_option maxRecDepth 20000 in
theorem ggX3_next_X3_findWays : GoodIn wsX3_next wsX3_findWays := goodIn_r _ [19, 10, 20, 21, 3, 22, 11, 4, 23, 24, 25, 8, 26, 13, 15, 27, 28, 29, 30, 31, 32, 33, 34, 12, 35, 36, 37, 38, 39, 14, 40, 41, 42, 43, 44, 45, 46, 47, 48, 49, 50, 51, 52, 53, 54, 55, 56, 57, 58] (by decide +kernel) (by decide +kernel)
set_option maxRecDepth 20000 in
theorem gX3_next_X3_findWays : GoodIn wsX3_next (wsV RX3 103 RX3 yX3_findWays wsX3_findWays) := goodIn_app (goodIn_of _ (by decide +kernel)) ggX3_next_X3_findWays
end
section
section
variable {p : Program} {l : Launch} {e : Env} {R : Room} {s : State} {m : MethodId} {args : Array Value} {below : List Frame} {meth : Method} {c : Code} {H : Heap} {locs : List Loc} {cells slots : Nat} {Q : State → Prop} {pc : Nat} {ls : Array Slot} {rest : List Value}
theorem tp_i {x y : Int32} (h : x = y) (k : W p l e R s m args below meth c H locs cells slots Q (F0 m pc ls (.int y :: rest))) : W p l e R s m args below meth c H locs cells slots Q (F0 m pc ls (.int x :: rest)) := h ▸ k
theorem tp_l {x y : Int64} (h : x = y) (k : W p l e R s m args below meth c H locs cells slots Q (F0 m pc ls (.long y :: rest))) : W p l e R s m args below meth c H locs cells slots Q (F0 m pc ls (.long x :: rest)) := h ▸ k
end
def fp_bg (fr to : Nat → Int32) (a : Nat) : Int32 := if a % 2 = 0 then fr (a / 2) else to (a / 2)
def fp_en (fr to : Nat → Int32) (a : Nat) : Int32 := if a % 2 = 0 then to (a / 2) else fr (a / 2)
def fp_lf (cap fl : Nat → Int32) (a : Nat) : Int32 := if a % 2 = 0 then cap (a / 2) - fl (a / 2) else fl (a / 2)
def fp_pr (uc : Nat → Int32) (a : Nat) : Int32 := if a % 2 = 0 then uc (a / 2) else -uc (a / 2)
theorem sh1 {a : Nat} (h : a < 2 ^ 31) : nI a >>> ((1 : Int32) &&& 31) = nI (a / 2) := pk_shrN h _ 1 (by decide)
theorem and1 {a : Nat} (h : a < 2 ^ 31) : nI a &&& 1 = nI (a % 2) := pk_andN (m := 1) (by omega) 1 (by decide)
theorem nI_par0 (a : Nat) : nI (a % 2) = 0 ↔ a % 2 = 0 := by
  rw [← nI_0, nI_eq (by omega) (by omega)]
theorem isb0 (a : Nat) : (if a % 2 = 0 then (0 : Int32) else 1) = 0 ↔ a % 2 = 0 := by
  by_cases h : a % 2 = 0 <;> simp [h]
/-- an array's cell depends on its contents within its length alone -/
theorem arrV_congr (cA : ClassId) (n : Nat) {f g : Nat → Value} (h : ∀ j, j < n → f j = g j) : arrV cA n f = arrV cA n g := by
  unfold arrV
  congr 2
  funext j
  exact h j.val j.isLt
theorem va_P_conI {D : va_G} {cl : List vw_C} {ws : va_W} {H : Heap} (h : va_P D cl ws H) (k : Nat) {a : Nat} {cA : ClassId} {n : Nat} {f g : Nat → Int32} (hk : ws[k]? = some (a, .inl (cA, n, .inl f))) (hfg : ∀ j, j < n → f j = g j) : va_P D cl (ws.set k (a, .inl (cA, n, .inl g))) H := by
  intro i x hx
  by_cases hi : i = k
  · subst hi
    have hl : i < ws.length := (List.getElem?_eq_some_iff.mp hk).1
    rw [List.getElem?_set_self hl] at hx
    cases hx
    have := h i _ hk
    show H[a]? = some (vp_cell cA (n, .inl g))
    have h2 : H[a]? = some (vp_cell cA (n, .inl f)) := this
    rw [h2, vp_cell_i, vp_cell_i, arrV_congr cA n (fun j hj => by rw [hfg j hj])]
  · rw [List.getElem?_set_ne (fun q => hi q.symm)] at hx
    exact h i x hx
theorem va_D_con {A : Nat → Prop} {ws : va_W} (h : va_D A ws) (k : Nat) {a : Nat} {e0 e1 : va_E} (hk : ws[k]? = some (a, e0)) : va_D A (ws.set k (a, e1)) := h.set hk
theorem ix_lt {i E : Nat} (hi : i < 2 ^ 31) (hE : E < 2 ^ 31) (c : ¬ nI E ≤ nI i) : i < E := by
  rw [nI_leI hE hi] at c
  exact Nat.lt_of_not_le c
theorem ix_ge {i E : Nat} (hi : i < 2 ^ 31) (hE : E < 2 ^ 31) (c : nI E ≤ nI i) : E ≤ i := (nI_leI hE hi).mp c
def fp_sum (f : Nat → Int64) : Nat → Int64
  | 0 => 0
  | n + 1 => fp_sum f n + f n
def fp_sur (fr to fl : Nat → Int32) (x : Int32) : Nat → Int64
  | 0 => 0
  | e + 1 => if fr e = x then (if to e = x then fp_sur fr to fl x e + (fl e).toInt64 else fp_sur fr to fl x e) - (fl e).toInt64 else (if to e = x then fp_sur fr to fl x e + (fl e).toInt64 else fp_sur fr to fl x e)
def fp_send (fl : Nat → Int32) (a : Nat) (x : Int32) : Nat → Int32 := upd fl (a / 2) (fl (a / 2) + (if a % 2 = 0 then x else -x))
theorem fp_send_0 {fl : Nat → Int32} {a : Nat} {x : Int32} (h : a % 2 = 0) : upd fl (a / 2) (fl (a / 2) + x) = fp_send fl a x := by unfold fp_send; rw [if_pos h]
theorem fp_send_1 {fl : Nat → Int32} {a : Nat} {x : Int32} (h : ¬ a % 2 = 0) : upd fl (a / 2) (fl (a / 2) + -x) = fp_send fl a x := by unfold fp_send; rw [if_neg h]
end
section
set_option maxHeartbeats 4000000 in
set_option maxRecDepth 100000 in
theorem k_isBack (l : Launch) (dC : Nat → ClassId) (dI : Nat → Nat → Nat) (cI cJ cZ : ClassId) (a : Nat) (ha : a < 2 ^ 31) : Met l yX1_isBack wsX1_isBack ({ frames := 0, cells := 0, slots := 0, locals := 0 }) (va_Pc [.int (nI a)] (fun U => va_P (dC, dI) vwCl [] U.heap ∧ va_K (dC, dI) vwCl [(cI, .int), (cJ, .long), (cZ, .boolean)] U)) (vp_Si (fun r => r = (if a % 2 = 0 then (0 : Int32) else 1))) 0 0 (fun _ => False) := by
  refine Met.ofW (cc := cX1_isBack) (maxL := 1) (ret := (some .boolean)) (by decide) rfl ?_
  intro p e s m args below meth c s₁ B hml hv
  obtain ⟨rfl, hP, hK⟩ := hv
  have hx := B.exec
  have hb := B.bytes
  have hr := B.returns
  have hts := atoms_spec (ws := wsX1_isBack) B.pre
  have hown : s.vm.findClass RX1 = some m.cls := findClass_of_methodNamed B.named
  have hlocks := B.notSynchronized
  have hP : va_P (dC, dI) vwCl [] s.heap := hP
  have hl := lv_entry ([.int (nI a)]) (n := 1) (Nat.le_of_ble_eq_true rfl)
  rw [lg_entry_eq]
  generalize (lg_sl ([.int (nI a)]) ++ List.replicate (1 - (lg_sl ([.int (nI a)])).length) Slot.unset).toArray = ls at hl ⊢
  have hl : lv_has ls 1 [(0, .int (nI a))] := hl
  refine lv_iload_n hx hb dX1_isBack_0 rfl (lv_at hl 0 rfl) ?_
  refine lv_iconst (v := 1) hx hb dX1_isBack_1 (by decide) ?_
  refine lv_iand hx hb dX1_isBack_2 ?_
  refine tp_i (y := nI (a % 2)) (and1 ha) ?_
  refine lv_if_eq (tgt := 10) hx hb dX1_isBack_3 (by decide) (fun c_3 => ?_) (fun c_3 => ?_)
  · refine lv_iconst (v := 0) hx hb dX1_isBack_10 (by decide) ?_
    exact W.zret (v := 0) hx hb hr rfl (fun t ht _ => ⟨0, rfl, (by rw [if_pos ((nI_par0 a).mp c_3)]), ht⟩) (fun _ h => by cases h) dX1_isBack_11
  · refine lv_iconst (v := 1) hx hb dX1_isBack_6 (by decide) ?_
    refine lv_goto (tgt := 11) hx hb dX1_isBack_7 (by decide) ?_
    exact W.zret (v := 1) hx hb hr rfl (fun t ht _ => ⟨1, rfl, (by rw [if_neg (fun h => c_3 ((nI_par0 a).mpr h))]), ht⟩) (fun _ h => by cases h) dX1_isBack_11

theorem fa_begin_0 : ∀ w ∈ wsX10, w ∈ wsX1_begin := by decide +kernel
theorem fa_begin_1 : Cond.fieldLink RX1 13 "FlowProofs$Net" "from" "[I" ∈ wsX1_begin := by decide +kernel
theorem fa_begin_2 : Cond.fieldLink RX1 17 "FlowProofs$Net" "to" "[I" ∈ wsX1_begin := by decide +kernel
set_option maxHeartbeats 4000000 in
set_option maxRecDepth 100000 in
theorem k_begin (l : Launch) (dC : Nat → ClassId) (dI : Nat → Nat → Nat) (cI cJ cZ : ClassId) (q : Nat → Nat) (N M E : Nat) (fr to cap uc fl : Nat → Int32) (a : Nat) (ha : a / 2 < M) (hM : M < 1000) : Met l yX1_begin wsX1_begin ({ frames := 1, cells := 0, slots := 0, locals := 20 }) (va_Pc [.ref (q 1), .int (nI a)] (fun U => va_P (dC, dI) vwCl [(q 1, .inr (1, [.int (nI N), .ref (q 2), .ref (q 3), .ref (q 4), .ref (q 5), .ref (q 6), .int (nI E)])), (q 2, .inl (cI, M, .inl fr)), (q 3, .inl (cI, M, .inl to)), (q 4, .inl (cI, M, .inl cap)), (q 5, .inl (cI, M, .inl uc)), (q 6, .inl (cI, M, .inl fl))] U.heap ∧ va_K (dC, dI) vwCl [(cI, .int), (cJ, .long), (cZ, .boolean)] U)) (vp_Si (fun r => r = fp_bg fr to a)) 0 0 (fun _ => False) := by
  refine Met.ofW (cc := cX1_begin) (maxL := 2) (ret := (some .int)) (by decide) rfl ?_
  intro p e s m args below meth c s₁ B hml hv
  obtain ⟨rfl, hP, hK⟩ := hv
  have hx := B.exec
  have hb := B.bytes
  have hr := B.returns
  have hts := atoms_spec (ws := wsX1_begin) B.pre
  have hown : s.vm.findClass RX1 = some m.cls := findClass_of_methodNamed B.named
  have hlocks := B.notSynchronized
  have hP : va_P (dC, dI) vwCl [(q 1, .inr (1, [.int (nI N), .ref (q 2), .ref (q 3), .ref (q 4), .ref (q 5), .ref (q 6), .int (nI E)])), (q 2, .inl (cI, M, .inl fr)), (q 3, .inl (cI, M, .inl to)), (q 4, .inl (cI, M, .inl cap)), (q 5, .inl (cI, M, .inl uc)), (q 6, .inl (cI, M, .inl fl))] s.heap := hP
  have hl := lv_entry ([.ref (q 1), .int (nI a)]) (n := 2) (Nat.le_of_ble_eq_true rfl)
  rw [lg_entry_eq]
  generalize (lg_sl ([.ref (q 1), .int (nI a)]) ++ List.replicate (2 - (lg_sl ([.ref (q 1), .int (nI a)])).length) Slot.unset).toArray = ls at hl ⊢
  have hl : lv_has ls 2 [(0, .ref (q 1)), (1, .int (nI a))] := hl
  refine lv_iload_n hx hb dX1_begin_0 rfl (lv_at hl 1 rfl) ?_
  have hPc := hP.sub (ws' := []) [] rfl
  refine vp_callSi (W.runS (As := [.int (nI a)]) (rest := []) ⟨hx, hb, hml, hown, hts⟩ (k_isBack l dC dI cI cJ cZ a (by omega)) (va_cwS 1 hts gX1_begin_X1_isBack rfl rfl rfl (by decide +kernel) ⟨Nat.le_of_ble_eq_true rfl, Nat.le_of_ble_eq_true rfl⟩) ⟨fun a U g mk q => by obtain ⟨q0, qP, qK⟩ := q; exact ⟨q0, qP, va_K.moved (u := U) (U := U.calling g mk a) (Vm.Alike.refl U.vm) qK⟩, fun U hU hW => ⟨rfl, by rw [hU]; exact hPc, va_K.moved hW.alike hK⟩⟩ rfl rfl hl.1 rfl (lv_room (Nat.le_of_ble_eq_true rfl)) dX1_begin_1 ⟨Nat.le_of_ble_eq_true rfl, Nat.le_of_ble_eq_true rfl⟩) (fun r_1 hw_1 => ?_)
  subst hw_1
  refine lv_if_eq (tgt := 18) hx hb dX1_begin_4 (by decide) (fun c_4 => ?_) (fun c_4 => ?_)
  · refine lv_aload_n hx hb dX1_begin_18 rfl (lv_at hl 0 rfl) ?_
    refine va_get (D := (dC, dI)) (ci := 1) (v := .ref (q 2)) (C := RX1) (T := TX1) (N := 7) hx hb hts fa_begin_0 hown hK hP 0 rfl rfl 1 (by decide) (hts _ fa_begin_1) (fun _ h9 => h9) rfl dX1_begin_19 ?_
    refine lv_iload_n hx hb dX1_begin_22 rfl (lv_at hl 1 rfl) ?_
    refine lv_iconst (v := 1) hx hb dX1_begin_23 (by decide) ?_
    refine lv_ishr hx hb dX1_begin_24 ?_
    refine tp_i (y := nI (a / 2)) (sh1 (by omega)) ?_
    refine va_iald (D := (dC, dI)) hx hb hK hP 1 0 rfl rfl (by first | assumption | exact vp_in_nI (by omega) (by omega)) dX1_begin_25 ?_
    refine tp_i (y := fr (a / 2)) (by rw [nI_clamp (n := a / 2) (by omega)]) ?_
    exact W.iret (v := (fr (a / 2))) hx hb hr (fun t ht _ => ⟨(fr (a / 2)), rfl, (by unfold fp_bg; first | rw [if_pos ((isb0 a).mp c_4)] | rw [if_neg (fun h => c_4 ((isb0 a).mpr h))]), ht⟩) (fun _ h => by cases h) dX1_begin_26
  · refine lv_aload_n hx hb dX1_begin_7 rfl (lv_at hl 0 rfl) ?_
    refine va_get (D := (dC, dI)) (ci := 1) (v := .ref (q 3)) (C := RX1) (T := TX1) (N := 7) hx hb hts fa_begin_0 hown hK hP 0 rfl rfl 2 (by decide) (hts _ fa_begin_2) (fun _ h9 => h9) rfl dX1_begin_8 ?_
    refine lv_iload_n hx hb dX1_begin_11 rfl (lv_at hl 1 rfl) ?_
    refine lv_iconst (v := 1) hx hb dX1_begin_12 (by decide) ?_
    refine lv_ishr hx hb dX1_begin_13 ?_
    refine tp_i (y := nI (a / 2)) (sh1 (by omega)) ?_
    refine va_iald (D := (dC, dI)) hx hb hK hP 2 0 rfl rfl (by first | assumption | exact vp_in_nI (by omega) (by omega)) dX1_begin_14 ?_
    refine tp_i (y := to (a / 2)) (by rw [nI_clamp (n := a / 2) (by omega)]) ?_
    refine lv_goto (tgt := 26) hx hb dX1_begin_15 (by decide) ?_
    exact W.iret (v := (to (a / 2))) hx hb hr (fun t ht _ => ⟨(to (a / 2)), rfl, (by unfold fp_bg; first | rw [if_pos ((isb0 a).mp c_4)] | rw [if_neg (fun h => c_4 ((isb0 a).mpr h))]), ht⟩) (fun _ h => by cases h) dX1_begin_26

theorem fa_end_0 : ∀ w ∈ wsX10, w ∈ wsX1_end := by decide +kernel
theorem fa_end_1 : Cond.fieldLink RX1 17 "FlowProofs$Net" "to" "[I" ∈ wsX1_end := by decide +kernel
theorem fa_end_2 : Cond.fieldLink RX1 13 "FlowProofs$Net" "from" "[I" ∈ wsX1_end := by decide +kernel
set_option maxHeartbeats 4000000 in
set_option maxRecDepth 100000 in
theorem k_end (l : Launch) (dC : Nat → ClassId) (dI : Nat → Nat → Nat) (cI cJ cZ : ClassId) (q : Nat → Nat) (N M E : Nat) (fr to cap uc fl : Nat → Int32) (a : Nat) (ha : a / 2 < M) (hM : M < 1000) : Met l yX1_end wsX1_end ({ frames := 1, cells := 0, slots := 0, locals := 20 }) (va_Pc [.ref (q 1), .int (nI a)] (fun U => va_P (dC, dI) vwCl [(q 1, .inr (1, [.int (nI N), .ref (q 2), .ref (q 3), .ref (q 4), .ref (q 5), .ref (q 6), .int (nI E)])), (q 2, .inl (cI, M, .inl fr)), (q 3, .inl (cI, M, .inl to)), (q 4, .inl (cI, M, .inl cap)), (q 5, .inl (cI, M, .inl uc)), (q 6, .inl (cI, M, .inl fl))] U.heap ∧ va_K (dC, dI) vwCl [(cI, .int), (cJ, .long), (cZ, .boolean)] U)) (vp_Si (fun r => r = fp_en fr to a)) 0 0 (fun _ => False) := by
  refine Met.ofW (cc := cX1_end) (maxL := 2) (ret := (some .int)) (by decide) rfl ?_
  intro p e s m args below meth c s₁ B hml hv
  obtain ⟨rfl, hP, hK⟩ := hv
  have hx := B.exec
  have hb := B.bytes
  have hr := B.returns
  have hts := atoms_spec (ws := wsX1_end) B.pre
  have hown : s.vm.findClass RX1 = some m.cls := findClass_of_methodNamed B.named
  have hlocks := B.notSynchronized
  have hP : va_P (dC, dI) vwCl [(q 1, .inr (1, [.int (nI N), .ref (q 2), .ref (q 3), .ref (q 4), .ref (q 5), .ref (q 6), .int (nI E)])), (q 2, .inl (cI, M, .inl fr)), (q 3, .inl (cI, M, .inl to)), (q 4, .inl (cI, M, .inl cap)), (q 5, .inl (cI, M, .inl uc)), (q 6, .inl (cI, M, .inl fl))] s.heap := hP
  have hl := lv_entry ([.ref (q 1), .int (nI a)]) (n := 2) (Nat.le_of_ble_eq_true rfl)
  rw [lg_entry_eq]
  generalize (lg_sl ([.ref (q 1), .int (nI a)]) ++ List.replicate (2 - (lg_sl ([.ref (q 1), .int (nI a)])).length) Slot.unset).toArray = ls at hl ⊢
  have hl : lv_has ls 2 [(0, .ref (q 1)), (1, .int (nI a))] := hl
  refine lv_iload_n hx hb dX1_end_0 rfl (lv_at hl 1 rfl) ?_
  have hPc := hP.sub (ws' := []) [] rfl
  refine vp_callSi (W.runS (As := [.int (nI a)]) (rest := []) ⟨hx, hb, hml, hown, hts⟩ (k_isBack l dC dI cI cJ cZ a (by omega)) (va_cwS 1 hts gX1_end_X1_isBack rfl rfl rfl (by decide +kernel) ⟨Nat.le_of_ble_eq_true rfl, Nat.le_of_ble_eq_true rfl⟩) ⟨fun a U g mk q => by obtain ⟨q0, qP, qK⟩ := q; exact ⟨q0, qP, va_K.moved (u := U) (U := U.calling g mk a) (Vm.Alike.refl U.vm) qK⟩, fun U hU hW => ⟨rfl, by rw [hU]; exact hPc, va_K.moved hW.alike hK⟩⟩ rfl rfl hl.1 rfl (lv_room (Nat.le_of_ble_eq_true rfl)) dX1_end_1 ⟨Nat.le_of_ble_eq_true rfl, Nat.le_of_ble_eq_true rfl⟩) (fun r_1 hw_1 => ?_)
  subst hw_1
  refine lv_if_eq (tgt := 18) hx hb dX1_end_4 (by decide) (fun c_4 => ?_) (fun c_4 => ?_)
  · refine lv_aload_n hx hb dX1_end_18 rfl (lv_at hl 0 rfl) ?_
    refine va_get (D := (dC, dI)) (ci := 1) (v := .ref (q 3)) (C := RX1) (T := TX1) (N := 7) hx hb hts fa_end_0 hown hK hP 0 rfl rfl 2 (by decide) (hts _ fa_end_1) (fun _ h9 => h9) rfl dX1_end_19 ?_
    refine lv_iload_n hx hb dX1_end_22 rfl (lv_at hl 1 rfl) ?_
    refine lv_iconst (v := 1) hx hb dX1_end_23 (by decide) ?_
    refine lv_ishr hx hb dX1_end_24 ?_
    refine tp_i (y := nI (a / 2)) (sh1 (by omega)) ?_
    refine va_iald (D := (dC, dI)) hx hb hK hP 2 0 rfl rfl (by first | assumption | exact vp_in_nI (by omega) (by omega)) dX1_end_25 ?_
    refine tp_i (y := to (a / 2)) (by rw [nI_clamp (n := a / 2) (by omega)]) ?_
    exact W.iret (v := (to (a / 2))) hx hb hr (fun t ht _ => ⟨(to (a / 2)), rfl, (by unfold fp_en; first | rw [if_pos ((isb0 a).mp c_4)] | rw [if_neg (fun h => c_4 ((isb0 a).mpr h))]), ht⟩) (fun _ h => by cases h) dX1_end_26
  · refine lv_aload_n hx hb dX1_end_7 rfl (lv_at hl 0 rfl) ?_
    refine va_get (D := (dC, dI)) (ci := 1) (v := .ref (q 2)) (C := RX1) (T := TX1) (N := 7) hx hb hts fa_end_0 hown hK hP 0 rfl rfl 1 (by decide) (hts _ fa_end_2) (fun _ h9 => h9) rfl dX1_end_8 ?_
    refine lv_iload_n hx hb dX1_end_11 rfl (lv_at hl 1 rfl) ?_
    refine lv_iconst (v := 1) hx hb dX1_end_12 (by decide) ?_
    refine lv_ishr hx hb dX1_end_13 ?_
    refine tp_i (y := nI (a / 2)) (sh1 (by omega)) ?_
    refine va_iald (D := (dC, dI)) hx hb hK hP 1 0 rfl rfl (by first | assumption | exact vp_in_nI (by omega) (by omega)) dX1_end_14 ?_
    refine tp_i (y := fr (a / 2)) (by rw [nI_clamp (n := a / 2) (by omega)]) ?_
    refine lv_goto (tgt := 26) hx hb dX1_end_15 (by decide) ?_
    exact W.iret (v := (fr (a / 2))) hx hb hr (fun t ht _ => ⟨(fr (a / 2)), rfl, (by unfold fp_en; first | rw [if_pos ((isb0 a).mp c_4)] | rw [if_neg (fun h => c_4 ((isb0 a).mpr h))]), ht⟩) (fun _ h => by cases h) dX1_end_26

theorem fa_price_0 : ∀ w ∈ wsX10, w ∈ wsX1_price := by decide +kernel
theorem fa_price_1 : Cond.fieldLink RX1 23 "FlowProofs$Net" "unitCost" "[I" ∈ wsX1_price := by decide +kernel
set_option maxHeartbeats 4000000 in
set_option maxRecDepth 100000 in
theorem k_price (l : Launch) (dC : Nat → ClassId) (dI : Nat → Nat → Nat) (cI cJ cZ : ClassId) (q : Nat → Nat) (N M E : Nat) (fr to cap uc fl : Nat → Int32) (a : Nat) (ha : a / 2 < M) (hM : M < 1000) : Met l yX1_price wsX1_price ({ frames := 1, cells := 0, slots := 0, locals := 20 }) (va_Pc [.ref (q 1), .int (nI a)] (fun U => va_P (dC, dI) vwCl [(q 1, .inr (1, [.int (nI N), .ref (q 2), .ref (q 3), .ref (q 4), .ref (q 5), .ref (q 6), .int (nI E)])), (q 2, .inl (cI, M, .inl fr)), (q 3, .inl (cI, M, .inl to)), (q 4, .inl (cI, M, .inl cap)), (q 5, .inl (cI, M, .inl uc)), (q 6, .inl (cI, M, .inl fl))] U.heap ∧ va_K (dC, dI) vwCl [(cI, .int), (cJ, .long), (cZ, .boolean)] U)) (vp_Si (fun r => r = fp_pr uc a)) 0 0 (fun _ => False) := by
  refine Met.ofW (cc := cX1_price) (maxL := 2) (ret := (some .int)) (by decide) rfl ?_
  intro p e s m args below meth c s₁ B hml hv
  obtain ⟨rfl, hP, hK⟩ := hv
  have hx := B.exec
  have hb := B.bytes
  have hr := B.returns
  have hts := atoms_spec (ws := wsX1_price) B.pre
  have hown : s.vm.findClass RX1 = some m.cls := findClass_of_methodNamed B.named
  have hlocks := B.notSynchronized
  have hP : va_P (dC, dI) vwCl [(q 1, .inr (1, [.int (nI N), .ref (q 2), .ref (q 3), .ref (q 4), .ref (q 5), .ref (q 6), .int (nI E)])), (q 2, .inl (cI, M, .inl fr)), (q 3, .inl (cI, M, .inl to)), (q 4, .inl (cI, M, .inl cap)), (q 5, .inl (cI, M, .inl uc)), (q 6, .inl (cI, M, .inl fl))] s.heap := hP
  have hl := lv_entry ([.ref (q 1), .int (nI a)]) (n := 2) (Nat.le_of_ble_eq_true rfl)
  rw [lg_entry_eq]
  generalize (lg_sl ([.ref (q 1), .int (nI a)]) ++ List.replicate (2 - (lg_sl ([.ref (q 1), .int (nI a)])).length) Slot.unset).toArray = ls at hl ⊢
  have hl : lv_has ls 2 [(0, .ref (q 1)), (1, .int (nI a))] := hl
  refine lv_iload_n hx hb dX1_price_0 rfl (lv_at hl 1 rfl) ?_
  have hPc := hP.sub (ws' := []) [] rfl
  refine vp_callSi (W.runS (As := [.int (nI a)]) (rest := []) ⟨hx, hb, hml, hown, hts⟩ (k_isBack l dC dI cI cJ cZ a (by omega)) (va_cwS 1 hts gX1_price_X1_isBack rfl rfl rfl (by decide +kernel) ⟨Nat.le_of_ble_eq_true rfl, Nat.le_of_ble_eq_true rfl⟩) ⟨fun a U g mk q => by obtain ⟨q0, qP, qK⟩ := q; exact ⟨q0, qP, va_K.moved (u := U) (U := U.calling g mk a) (Vm.Alike.refl U.vm) qK⟩, fun U hU hW => ⟨rfl, by rw [hU]; exact hPc, va_K.moved hW.alike hK⟩⟩ rfl rfl hl.1 rfl (lv_room (Nat.le_of_ble_eq_true rfl)) dX1_price_1 ⟨Nat.le_of_ble_eq_true rfl, Nat.le_of_ble_eq_true rfl⟩) (fun r_1 hw_1 => ?_)
  subst hw_1
  refine lv_if_eq (tgt := 19) hx hb dX1_price_4 (by decide) (fun c_4 => ?_) (fun c_4 => ?_)
  · refine lv_aload_n hx hb dX1_price_19 rfl (lv_at hl 0 rfl) ?_
    refine va_get (D := (dC, dI)) (ci := 1) (v := .ref (q 5)) (C := RX1) (T := TX1) (N := 7) hx hb hts fa_price_0 hown hK hP 0 rfl rfl 4 (by decide) (hts _ fa_price_1) (fun _ h9 => h9) rfl dX1_price_20 ?_
    refine lv_iload_n hx hb dX1_price_23 rfl (lv_at hl 1 rfl) ?_
    refine lv_iconst (v := 1) hx hb dX1_price_24 (by decide) ?_
    refine lv_ishr hx hb dX1_price_25 ?_
    refine tp_i (y := nI (a / 2)) (sh1 (by omega)) ?_
    refine va_iald (D := (dC, dI)) hx hb hK hP 4 0 rfl rfl (by first | assumption | exact vp_in_nI (by omega) (by omega)) dX1_price_26 ?_
    refine tp_i (y := uc (a / 2)) (by rw [nI_clamp (n := a / 2) (by omega)]) ?_
    exact W.iret (v := (uc (a / 2))) hx hb hr (fun t ht _ => ⟨(uc (a / 2)), rfl, (by unfold fp_pr; first | rw [if_pos ((isb0 a).mp c_4)] | rw [if_neg (fun h => c_4 ((isb0 a).mpr h))]), ht⟩) (fun _ h => by cases h) dX1_price_27
  · refine lv_aload_n hx hb dX1_price_7 rfl (lv_at hl 0 rfl) ?_
    refine va_get (D := (dC, dI)) (ci := 1) (v := .ref (q 5)) (C := RX1) (T := TX1) (N := 7) hx hb hts fa_price_0 hown hK hP 0 rfl rfl 4 (by decide) (hts _ fa_price_1) (fun _ h9 => h9) rfl dX1_price_8 ?_
    refine lv_iload_n hx hb dX1_price_11 rfl (lv_at hl 1 rfl) ?_
    refine lv_iconst (v := 1) hx hb dX1_price_12 (by decide) ?_
    refine lv_ishr hx hb dX1_price_13 ?_
    refine tp_i (y := nI (a / 2)) (sh1 (by omega)) ?_
    refine va_iald (D := (dC, dI)) hx hb hK hP 4 0 rfl rfl (by first | assumption | exact vp_in_nI (by omega) (by omega)) dX1_price_14 ?_
    refine tp_i (y := uc (a / 2)) (by rw [nI_clamp (n := a / 2) (by omega)]) ?_
    refine lv_ineg hx hb dX1_price_15 ?_
    refine lv_goto (tgt := 27) hx hb dX1_price_16 (by decide) ?_
    exact W.iret (v := (-(uc (a / 2)))) hx hb hr (fun t ht _ => ⟨(-(uc (a / 2))), rfl, (by unfold fp_pr; first | rw [if_pos ((isb0 a).mp c_4)] | rw [if_neg (fun h => c_4 ((isb0 a).mpr h))]), ht⟩) (fun _ h => by cases h) dX1_price_27

theorem fa_left_0 : ∀ w ∈ wsX10, w ∈ wsX1_left := by decide +kernel
theorem fa_left_1 : Cond.fieldLink RX1 20 "FlowProofs$Net" "capacity" "[I" ∈ wsX1_left := by decide +kernel
theorem fa_left_2 : Cond.fieldLink RX1 26 "FlowProofs$Net" "flow" "[I" ∈ wsX1_left := by decide +kernel
set_option maxHeartbeats 4000000 in
set_option maxRecDepth 100000 in
theorem k_left (l : Launch) (dC : Nat → ClassId) (dI : Nat → Nat → Nat) (cI cJ cZ : ClassId) (q : Nat → Nat) (N M E : Nat) (fr to cap uc fl : Nat → Int32) (a : Nat) (ha : a / 2 < M) (hM : M < 1000) : Met l yX1_left wsX1_left ({ frames := 1, cells := 0, slots := 0, locals := 20 }) (va_Pc [.ref (q 1), .int (nI a)] (fun U => va_P (dC, dI) vwCl [(q 1, .inr (1, [.int (nI N), .ref (q 2), .ref (q 3), .ref (q 4), .ref (q 5), .ref (q 6), .int (nI E)])), (q 2, .inl (cI, M, .inl fr)), (q 3, .inl (cI, M, .inl to)), (q 4, .inl (cI, M, .inl cap)), (q 5, .inl (cI, M, .inl uc)), (q 6, .inl (cI, M, .inl fl))] U.heap ∧ va_K (dC, dI) vwCl [(cI, .int), (cJ, .long), (cZ, .boolean)] U)) (vp_Si (fun r => r = fp_lf cap fl a)) 0 0 (fun _ => False) := by
  refine Met.ofW (cc := cX1_left) (maxL := 3) (ret := (some .int)) (by decide) rfl ?_
  intro p e s m args below meth c s₁ B hml hv
  obtain ⟨rfl, hP, hK⟩ := hv
  have hx := B.exec
  have hb := B.bytes
  have hr := B.returns
  have hts := atoms_spec (ws := wsX1_left) B.pre
  have hown : s.vm.findClass RX1 = some m.cls := findClass_of_methodNamed B.named
  have hlocks := B.notSynchronized
  have hP : va_P (dC, dI) vwCl [(q 1, .inr (1, [.int (nI N), .ref (q 2), .ref (q 3), .ref (q 4), .ref (q 5), .ref (q 6), .int (nI E)])), (q 2, .inl (cI, M, .inl fr)), (q 3, .inl (cI, M, .inl to)), (q 4, .inl (cI, M, .inl cap)), (q 5, .inl (cI, M, .inl uc)), (q 6, .inl (cI, M, .inl fl))] s.heap := hP
  have hl := lv_entry ([.ref (q 1), .int (nI a)]) (n := 3) (Nat.le_of_ble_eq_true rfl)
  rw [lg_entry_eq]
  generalize (lg_sl ([.ref (q 1), .int (nI a)]) ++ List.replicate (3 - (lg_sl ([.ref (q 1), .int (nI a)])).length) Slot.unset).toArray = ls at hl ⊢
  have hl : lv_has ls 3 [(0, .ref (q 1)), (1, .int (nI a))] := hl
  refine lv_iload_n hx hb dX1_left_0 rfl (lv_at hl 1 rfl) ?_
  refine lv_iconst (v := 1) hx hb dX1_left_1 (by decide) ?_
  refine lv_ishr hx hb dX1_left_2 ?_
  refine tp_i (y := nI (a / 2)) (sh1 (by omega)) ?_
  refine lv_istore_n (lv' := [(2, .int (nI (a / 2))), (0, .ref (q 1)), (1, .int (nI a))]) hx hb dX1_left_3 rfl hl (by decide) rfl (fun ls hl => ?_)
  refine lv_iload_n hx hb dX1_left_4 rfl (lv_at hl 2 rfl) ?_
  have hPc := hP.sub (ws' := []) [] rfl
  refine vp_callSi (W.runS (As := [.int (nI a)]) (rest := []) ⟨hx, hb, hml, hown, hts⟩ (k_isBack l dC dI cI cJ cZ a (by omega)) (va_cwS 1 hts gX1_left_X1_isBack rfl rfl rfl (by decide +kernel) ⟨Nat.le_of_ble_eq_true rfl, Nat.le_of_ble_eq_true rfl⟩) ⟨fun a U g mk q => by obtain ⟨q0, qP, qK⟩ := q; exact ⟨q0, qP, va_K.moved (u := U) (U := U.calling g mk a) (Vm.Alike.refl U.vm) qK⟩, fun U hU hW => ⟨rfl, by rw [hU]; exact hPc, va_K.moved hW.alike hK⟩⟩ rfl rfl hl.1 rfl (lv_room (Nat.le_of_ble_eq_true rfl)) dX1_left_5 ⟨Nat.le_of_ble_eq_true rfl, Nat.le_of_ble_eq_true rfl⟩) (fun r_5 hw_5 => ?_)
  subst hw_5
  refine lv_if_eq (tgt := 20) hx hb dX1_left_8 (by decide) (fun c_8 => ?_) (fun c_8 => ?_)
  · refine lv_aload_n hx hb dX1_left_20 rfl (lv_at hl 1 rfl) ?_
    refine va_get (D := (dC, dI)) (ci := 1) (v := .ref (q 4)) (C := RX1) (T := TX1) (N := 7) hx hb hts fa_left_0 hown hK hP 0 rfl rfl 3 (by decide) (hts _ fa_left_1) (fun _ h9 => h9) rfl dX1_left_21 ?_
    refine lv_iload_n hx hb dX1_left_24 rfl (lv_at hl 0 rfl) ?_
    refine va_iald (D := (dC, dI)) hx hb hK hP 3 0 rfl rfl (by first | assumption | exact vp_in_nI (by omega) (by omega)) dX1_left_25 ?_
    refine tp_i (y := cap (a / 2)) (by rw [nI_clamp (n := a / 2) (by omega)]) ?_
    refine lv_aload_n hx hb dX1_left_26 rfl (lv_at hl 1 rfl) ?_
    refine va_get (D := (dC, dI)) (ci := 1) (v := .ref (q 6)) (C := RX1) (T := TX1) (N := 7) hx hb hts fa_left_0 hown hK hP 0 rfl rfl 5 (by decide) (hts _ fa_left_2) (fun _ h9 => h9) rfl dX1_left_27 ?_
    refine lv_iload_n hx hb dX1_left_30 rfl (lv_at hl 0 rfl) ?_
    refine va_iald (D := (dC, dI)) hx hb hK hP 5 0 rfl rfl (by first | assumption | exact vp_in_nI (by omega) (by omega)) dX1_left_31 ?_
    refine tp_i (y := fl (a / 2)) (by rw [nI_clamp (n := a / 2) (by omega)]) ?_
    refine lv_isub hx hb dX1_left_32 ?_
    exact W.iret (v := ((cap (a / 2)) - (fl (a / 2)))) hx hb hr (fun t ht _ => ⟨((cap (a / 2)) - (fl (a / 2))), rfl, (by unfold fp_lf; first | rw [if_pos ((isb0 a).mp c_8)] | rw [if_neg (fun h => c_8 ((isb0 a).mpr h))]), ht⟩) (fun _ h => by cases h) dX1_left_33
  · refine lv_aload_n hx hb dX1_left_11 rfl (lv_at hl 1 rfl) ?_
    refine va_get (D := (dC, dI)) (ci := 1) (v := .ref (q 6)) (C := RX1) (T := TX1) (N := 7) hx hb hts fa_left_0 hown hK hP 0 rfl rfl 5 (by decide) (hts _ fa_left_2) (fun _ h9 => h9) rfl dX1_left_12 ?_
    refine lv_iload_n hx hb dX1_left_15 rfl (lv_at hl 0 rfl) ?_
    refine va_iald (D := (dC, dI)) hx hb hK hP 5 0 rfl rfl (by first | assumption | exact vp_in_nI (by omega) (by omega)) dX1_left_16 ?_
    refine tp_i (y := fl (a / 2)) (by rw [nI_clamp (n := a / 2) (by omega)]) ?_
    refine lv_goto (tgt := 33) hx hb dX1_left_17 (by decide) ?_
    exact W.iret (v := (fl (a / 2))) hx hb hr (fun t ht _ => ⟨(fl (a / 2)), rfl, (by unfold fp_lf; first | rw [if_pos ((isb0 a).mp c_8)] | rw [if_neg (fun h => c_8 ((isb0 a).mpr h))]), ht⟩) (fun _ h => by cases h) dX1_left_33

theorem fa_hasNode_0 : ∀ w ∈ wsX10, w ∈ wsX1_hasNode := by decide +kernel
theorem fa_hasNode_1 : Cond.fieldLink RX1 7 "FlowProofs$Net" "nodes" "I" ∈ wsX1_hasNode := by decide +kernel
set_option maxHeartbeats 4000000 in
set_option maxRecDepth 100000 in
theorem k_hasNode (l : Launch) (dC : Nat → ClassId) (dI : Nat → Nat → Nat) (cI cJ cZ : ClassId) (q : Nat → Nat) (N M E : Nat) (fr to cap uc fl : Nat → Int32) (x : Int32)  : Met l yX1_hasNode wsX1_hasNode ({ frames := 0, cells := 0, slots := 0, locals := 0 }) (va_Pc [.ref (q 1), .int x] (fun U => va_P (dC, dI) vwCl [(q 1, .inr (1, [.int (nI N), .ref (q 2), .ref (q 3), .ref (q 4), .ref (q 5), .ref (q 6), .int (nI E)])), (q 2, .inl (cI, M, .inl fr)), (q 3, .inl (cI, M, .inl to)), (q 4, .inl (cI, M, .inl cap)), (q 5, .inl (cI, M, .inl uc)), (q 6, .inl (cI, M, .inl fl))] U.heap ∧ va_K (dC, dI) vwCl [(cI, .int), (cJ, .long), (cZ, .boolean)] U)) (vp_Si (fun r => r = (if ¬ x < 0 ∧ x < nI N then (1 : Int32) else 0))) 0 0 (fun _ => False) := by
  refine Met.ofW (cc := cX1_hasNode) (maxL := 2) (ret := (some .boolean)) (by decide) rfl ?_
  intro p e s m args below meth c s₁ B hml hv
  obtain ⟨rfl, hP, hK⟩ := hv
  have hx := B.exec
  have hb := B.bytes
  have hr := B.returns
  have hts := atoms_spec (ws := wsX1_hasNode) B.pre
  have hown : s.vm.findClass RX1 = some m.cls := findClass_of_methodNamed B.named
  have hlocks := B.notSynchronized
  have hP : va_P (dC, dI) vwCl [(q 1, .inr (1, [.int (nI N), .ref (q 2), .ref (q 3), .ref (q 4), .ref (q 5), .ref (q 6), .int (nI E)])), (q 2, .inl (cI, M, .inl fr)), (q 3, .inl (cI, M, .inl to)), (q 4, .inl (cI, M, .inl cap)), (q 5, .inl (cI, M, .inl uc)), (q 6, .inl (cI, M, .inl fl))] s.heap := hP
  have hl := lv_entry ([.ref (q 1), .int x]) (n := 2) (Nat.le_of_ble_eq_true rfl)
  rw [lg_entry_eq]
  generalize (lg_sl ([.ref (q 1), .int x]) ++ List.replicate (2 - (lg_sl ([.ref (q 1), .int x])).length) Slot.unset).toArray = ls at hl ⊢
  have hl : lv_has ls 2 [(0, .ref (q 1)), (1, .int x)] := hl
  refine lv_iload_n hx hb dX1_hasNode_0 rfl (lv_at hl 1 rfl) ?_
  refine lv_if_lt (tgt := 16) hx hb dX1_hasNode_1 (by decide) (fun c_1 => ?_) (fun c_1 => ?_)
  · refine lv_iconst (v := 0) hx hb dX1_hasNode_16 (by decide) ?_
    exact W.zret (v := 0) hx hb hr rfl (fun t ht _ => ⟨0, rfl, (by first | rw [if_pos ⟨by assumption, Int32.not_le.mp (by assumption)⟩] | rw [if_neg (fun h => absurd h.2 (Int32.not_lt.mpr (by assumption)))] | rw [if_neg (fun h => h.1 (by assumption))]), ht⟩) (fun _ h => by cases h) dX1_hasNode_17
  · refine lv_iload_n hx hb dX1_hasNode_4 rfl (lv_at hl 1 rfl) ?_
    refine lv_aload_n hx hb dX1_hasNode_5 rfl (lv_at hl 0 rfl) ?_
    refine va_get (D := (dC, dI)) (ci := 1) (v := .int (nI N)) (C := RX1) (T := TX1) (N := 7) hx hb hts fa_hasNode_0 hown hK hP 0 rfl rfl 0 (by decide) (hts _ fa_hasNode_1) (fun _ h9 => h9) rfl dX1_hasNode_6 ?_
    refine lv_icmp_ge (tgt := 16) hx hb dX1_hasNode_9 (by decide) (fun c_9 => ?_) (fun c_9 => ?_)
    · refine lv_iconst (v := 0) hx hb dX1_hasNode_16 (by decide) ?_
      exact W.zret (v := 0) hx hb hr rfl (fun t ht _ => ⟨0, rfl, (by first | rw [if_pos ⟨by assumption, Int32.not_le.mp (by assumption)⟩] | rw [if_neg (fun h => absurd h.2 (Int32.not_lt.mpr (by assumption)))] | rw [if_neg (fun h => h.1 (by assumption))]), ht⟩) (fun _ h => by cases h) dX1_hasNode_17
    · refine lv_iconst (v := 1) hx hb dX1_hasNode_12 (by decide) ?_
      refine lv_goto (tgt := 17) hx hb dX1_hasNode_13 (by decide) ?_
      exact W.zret (v := 1) hx hb hr rfl (fun t ht _ => ⟨1, rfl, (by first | rw [if_pos ⟨by assumption, Int32.not_le.mp (by assumption)⟩] | rw [if_neg (fun h => absurd h.2 (Int32.not_lt.mpr (by assumption)))] | rw [if_neg (fun h => h.1 (by assumption))]), ht⟩) (fun _ h => by cases h) dX1_hasNode_17

theorem fa_hasEdge_0 : ∀ w ∈ wsX10, w ∈ wsX1_hasEdge := by decide +kernel
theorem fa_hasEdge_1 : Cond.fieldLink RX1 29 "FlowProofs$Net" "edges" "I" ∈ wsX1_hasEdge := by decide +kernel
set_option maxHeartbeats 4000000 in
set_option maxRecDepth 100000 in
theorem k_hasEdge (l : Launch) (dC : Nat → ClassId) (dI : Nat → Nat → Nat) (cI cJ cZ : ClassId) (q : Nat → Nat) (N M E : Nat) (fr to cap uc fl : Nat → Int32) (x : Int32)  : Met l yX1_hasEdge wsX1_hasEdge ({ frames := 0, cells := 0, slots := 0, locals := 0 }) (va_Pc [.ref (q 1), .int x] (fun U => va_P (dC, dI) vwCl [(q 1, .inr (1, [.int (nI N), .ref (q 2), .ref (q 3), .ref (q 4), .ref (q 5), .ref (q 6), .int (nI E)])), (q 2, .inl (cI, M, .inl fr)), (q 3, .inl (cI, M, .inl to)), (q 4, .inl (cI, M, .inl cap)), (q 5, .inl (cI, M, .inl uc)), (q 6, .inl (cI, M, .inl fl))] U.heap ∧ va_K (dC, dI) vwCl [(cI, .int), (cJ, .long), (cZ, .boolean)] U)) (vp_Si (fun r => r = (if ¬ x < 0 ∧ x < nI E then (1 : Int32) else 0))) 0 0 (fun _ => False) := by
  refine Met.ofW (cc := cX1_hasEdge) (maxL := 2) (ret := (some .boolean)) (by decide) rfl ?_
  intro p e s m args below meth c s₁ B hml hv
  obtain ⟨rfl, hP, hK⟩ := hv
  have hx := B.exec
  have hb := B.bytes
  have hr := B.returns
  have hts := atoms_spec (ws := wsX1_hasEdge) B.pre
  have hown : s.vm.findClass RX1 = some m.cls := findClass_of_methodNamed B.named
  have hlocks := B.notSynchronized
  have hP : va_P (dC, dI) vwCl [(q 1, .inr (1, [.int (nI N), .ref (q 2), .ref (q 3), .ref (q 4), .ref (q 5), .ref (q 6), .int (nI E)])), (q 2, .inl (cI, M, .inl fr)), (q 3, .inl (cI, M, .inl to)), (q 4, .inl (cI, M, .inl cap)), (q 5, .inl (cI, M, .inl uc)), (q 6, .inl (cI, M, .inl fl))] s.heap := hP
  have hl := lv_entry ([.ref (q 1), .int x]) (n := 2) (Nat.le_of_ble_eq_true rfl)
  rw [lg_entry_eq]
  generalize (lg_sl ([.ref (q 1), .int x]) ++ List.replicate (2 - (lg_sl ([.ref (q 1), .int x])).length) Slot.unset).toArray = ls at hl ⊢
  have hl : lv_has ls 2 [(0, .ref (q 1)), (1, .int x)] := hl
  refine lv_iload_n hx hb dX1_hasEdge_0 rfl (lv_at hl 1 rfl) ?_
  refine lv_if_lt (tgt := 16) hx hb dX1_hasEdge_1 (by decide) (fun c_1 => ?_) (fun c_1 => ?_)
  · refine lv_iconst (v := 0) hx hb dX1_hasEdge_16 (by decide) ?_
    exact W.zret (v := 0) hx hb hr rfl (fun t ht _ => ⟨0, rfl, (by first | rw [if_pos ⟨by assumption, Int32.not_le.mp (by assumption)⟩] | rw [if_neg (fun h => absurd h.2 (Int32.not_lt.mpr (by assumption)))] | rw [if_neg (fun h => h.1 (by assumption))]), ht⟩) (fun _ h => by cases h) dX1_hasEdge_17
  · refine lv_iload_n hx hb dX1_hasEdge_4 rfl (lv_at hl 1 rfl) ?_
    refine lv_aload_n hx hb dX1_hasEdge_5 rfl (lv_at hl 0 rfl) ?_
    refine va_get (D := (dC, dI)) (ci := 1) (v := .int (nI E)) (C := RX1) (T := TX1) (N := 7) hx hb hts fa_hasEdge_0 hown hK hP 0 rfl rfl 6 (by decide) (hts _ fa_hasEdge_1) (fun _ h9 => h9) rfl dX1_hasEdge_6 ?_
    refine lv_icmp_ge (tgt := 16) hx hb dX1_hasEdge_9 (by decide) (fun c_9 => ?_) (fun c_9 => ?_)
    · refine lv_iconst (v := 0) hx hb dX1_hasEdge_16 (by decide) ?_
      exact W.zret (v := 0) hx hb hr rfl (fun t ht _ => ⟨0, rfl, (by first | rw [if_pos ⟨by assumption, Int32.not_le.mp (by assumption)⟩] | rw [if_neg (fun h => absurd h.2 (Int32.not_lt.mpr (by assumption)))] | rw [if_neg (fun h => h.1 (by assumption))]), ht⟩) (fun _ h => by cases h) dX1_hasEdge_17
    · refine lv_iconst (v := 1) hx hb dX1_hasEdge_12 (by decide) ?_
      refine lv_goto (tgt := 17) hx hb dX1_hasEdge_13 (by decide) ?_
      exact W.zret (v := 1) hx hb hr rfl (fun t ht _ => ⟨1, rfl, (by first | rw [if_pos ⟨by assumption, Int32.not_le.mp (by assumption)⟩] | rw [if_neg (fun h => absurd h.2 (Int32.not_lt.mpr (by assumption)))] | rw [if_neg (fun h => h.1 (by assumption))]), ht⟩) (fun _ h => by cases h) dX1_hasEdge_17

theorem fa_isFull_0 : ∀ w ∈ wsX10, w ∈ wsX1_isFull := by decide +kernel
theorem fa_isFull_1 : Cond.fieldLink RX1 29 "FlowProofs$Net" "edges" "I" ∈ wsX1_isFull := by decide +kernel
theorem fa_isFull_2 : Cond.fieldLink RX1 13 "FlowProofs$Net" "from" "[I" ∈ wsX1_isFull := by decide +kernel
set_option maxHeartbeats 4000000 in
set_option maxRecDepth 100000 in
theorem k_isFull (l : Launch) (dC : Nat → ClassId) (dI : Nat → Nat → Nat) (cI cJ cZ : ClassId) (q : Nat → Nat) (N M E : Nat) (fr to cap uc fl : Nat → Int32) (hE : E < 1000) (hM : M < 1000) : Met l yX1_isFull wsX1_isFull ({ frames := 0, cells := 0, slots := 0, locals := 0 }) (va_Pc [.ref (q 1)] (fun U => va_P (dC, dI) vwCl [(q 1, .inr (1, [.int (nI N), .ref (q 2), .ref (q 3), .ref (q 4), .ref (q 5), .ref (q 6), .int (nI E)])), (q 2, .inl (cI, M, .inl fr)), (q 3, .inl (cI, M, .inl to)), (q 4, .inl (cI, M, .inl cap)), (q 5, .inl (cI, M, .inl uc)), (q 6, .inl (cI, M, .inl fl))] U.heap ∧ va_K (dC, dI) vwCl [(cI, .int), (cJ, .long), (cZ, .boolean)] U)) (vp_Si (fun r => r = (if M ≤ E then (1 : Int32) else 0))) 0 0 (fun _ => False) := by
  refine Met.ofW (cc := cX1_isFull) (maxL := 1) (ret := (some .boolean)) (by decide) rfl ?_
  intro p e s m args below meth c s₁ B hml hv
  obtain ⟨rfl, hP, hK⟩ := hv
  have hx := B.exec
  have hb := B.bytes
  have hr := B.returns
  have hts := atoms_spec (ws := wsX1_isFull) B.pre
  have hown : s.vm.findClass RX1 = some m.cls := findClass_of_methodNamed B.named
  have hlocks := B.notSynchronized
  have hP : va_P (dC, dI) vwCl [(q 1, .inr (1, [.int (nI N), .ref (q 2), .ref (q 3), .ref (q 4), .ref (q 5), .ref (q 6), .int (nI E)])), (q 2, .inl (cI, M, .inl fr)), (q 3, .inl (cI, M, .inl to)), (q 4, .inl (cI, M, .inl cap)), (q 5, .inl (cI, M, .inl uc)), (q 6, .inl (cI, M, .inl fl))] s.heap := hP
  have hl := lv_entry ([.ref (q 1)]) (n := 1) (Nat.le_of_ble_eq_true rfl)
  rw [lg_entry_eq]
  generalize (lg_sl ([.ref (q 1)]) ++ List.replicate (1 - (lg_sl ([.ref (q 1)])).length) Slot.unset).toArray = ls at hl ⊢
  have hl : lv_has ls 1 [(0, .ref (q 1))] := hl
  refine lv_aload_n hx hb dX1_isFull_0 rfl (lv_at hl 0 rfl) ?_
  refine va_get (D := (dC, dI)) (ci := 1) (v := .int (nI E)) (C := RX1) (T := TX1) (N := 7) hx hb hts fa_isFull_0 hown hK hP 0 rfl rfl 6 (by decide) (hts _ fa_isFull_1) (fun _ h9 => h9) rfl dX1_isFull_1 ?_
  refine lv_aload_n hx hb dX1_isFull_4 rfl (lv_at hl 0 rfl) ?_
  refine va_get (D := (dC, dI)) (ci := 1) (v := .ref (q 2)) (C := RX1) (T := TX1) (N := 7) hx hb hts fa_isFull_0 hown hK hP 0 rfl rfl 1 (by decide) (hts _ fa_isFull_2) (fun _ h9 => h9) rfl dX1_isFull_5 ?_
  refine va_alen (D := (dC, dI)) (v := nI M) hx hb hK hP 1 0 rfl rfl rfl dX1_isFull_8 ?_
  refine lv_icmp_lt (tgt := 16) hx hb dX1_isFull_9 (by decide) (fun c_9 => ?_) (fun c_9 => ?_)
  · refine lv_iconst (v := 0) hx hb dX1_isFull_16 (by decide) ?_
    exact W.zret (v := 0) hx hb hr rfl (fun t ht _ => ⟨0, rfl, (by first | rw [if_pos (by rw [← nI_leI (by omega) (by omega)]; first | assumption | exact Int32.not_lt.mp (by assumption))] | rw [if_neg (fun h => by rw [← nI_leI (by omega) (by omega)] at h; first | contradiction | exact absurd h (Int32.not_le.mpr (by assumption)))]), ht⟩) (fun _ h => by cases h) dX1_isFull_17
  · refine lv_iconst (v := 1) hx hb dX1_isFull_12 (by decide) ?_
    refine lv_goto (tgt := 17) hx hb dX1_isFull_13 (by decide) ?_
    exact W.zret (v := 1) hx hb hr rfl (fun t ht _ => ⟨1, rfl, (by first | rw [if_pos (by rw [← nI_leI (by omega) (by omega)]; first | assumption | exact Int32.not_lt.mp (by assumption))] | rw [if_neg (fun h => by rw [← nI_leI (by omega) (by omega)] at h; first | contradiction | exact absurd h (Int32.not_le.mpr (by assumption)))]), ht⟩) (fun _ h => by cases h) dX1_isFull_17

theorem fa_arcs_0 : ∀ w ∈ wsX10, w ∈ wsX1_arcs := by decide +kernel
theorem fa_arcs_1 : Cond.fieldLink RX1 29 "FlowProofs$Net" "edges" "I" ∈ wsX1_arcs := by decide +kernel
set_option maxHeartbeats 4000000 in
set_option maxRecDepth 100000 in
theorem k_arcs (l : Launch) (dC : Nat → ClassId) (dI : Nat → Nat → Nat) (cI cJ cZ : ClassId) (q : Nat → Nat) (N M E : Nat) (fr to cap uc fl : Nat → Int32)  : Met l yX1_arcs wsX1_arcs ({ frames := 0, cells := 0, slots := 0, locals := 0 }) (va_Pc [.ref (q 1)] (fun U => va_P (dC, dI) vwCl [(q 1, .inr (1, [.int (nI N), .ref (q 2), .ref (q 3), .ref (q 4), .ref (q 5), .ref (q 6), .int (nI E)])), (q 2, .inl (cI, M, .inl fr)), (q 3, .inl (cI, M, .inl to)), (q 4, .inl (cI, M, .inl cap)), (q 5, .inl (cI, M, .inl uc)), (q 6, .inl (cI, M, .inl fl))] U.heap ∧ va_K (dC, dI) vwCl [(cI, .int), (cJ, .long), (cZ, .boolean)] U)) (vp_Si (fun r => r = nI (2 * E))) 0 0 (fun _ => False) := by
  refine Met.ofW (cc := cX1_arcs) (maxL := 1) (ret := (some .int)) (by decide) rfl ?_
  intro p e s m args below meth c s₁ B hml hv
  obtain ⟨rfl, hP, hK⟩ := hv
  have hx := B.exec
  have hb := B.bytes
  have hr := B.returns
  have hts := atoms_spec (ws := wsX1_arcs) B.pre
  have hown : s.vm.findClass RX1 = some m.cls := findClass_of_methodNamed B.named
  have hlocks := B.notSynchronized
  have hP : va_P (dC, dI) vwCl [(q 1, .inr (1, [.int (nI N), .ref (q 2), .ref (q 3), .ref (q 4), .ref (q 5), .ref (q 6), .int (nI E)])), (q 2, .inl (cI, M, .inl fr)), (q 3, .inl (cI, M, .inl to)), (q 4, .inl (cI, M, .inl cap)), (q 5, .inl (cI, M, .inl uc)), (q 6, .inl (cI, M, .inl fl))] s.heap := hP
  have hl := lv_entry ([.ref (q 1)]) (n := 1) (Nat.le_of_ble_eq_true rfl)
  rw [lg_entry_eq]
  generalize (lg_sl ([.ref (q 1)]) ++ List.replicate (1 - (lg_sl ([.ref (q 1)])).length) Slot.unset).toArray = ls at hl ⊢
  have hl : lv_has ls 1 [(0, .ref (q 1))] := hl
  refine lv_iconst (v := 2) hx hb dX1_arcs_0 (by decide) ?_
  refine lv_aload_n hx hb dX1_arcs_1 rfl (lv_at hl 0 rfl) ?_
  refine va_get (D := (dC, dI)) (ci := 1) (v := .int (nI E)) (C := RX1) (T := TX1) (N := 7) hx hb hts fa_arcs_0 hown hK hP 0 rfl rfl 6 (by decide) (hts _ fa_arcs_1) (fun _ h9 => h9) rfl dX1_arcs_2 ?_
  refine lv_imul hx hb dX1_arcs_5 ?_
  exact W.iret (v := (2 * (nI E))) hx hb hr (fun t ht _ => ⟨(2 * (nI E)), rfl, (pk_mul 2 E), ht⟩) (fun _ h => by cases h) dX1_arcs_6

theorem fa_capacityInAll_0 : ∀ w ∈ wsX10, w ∈ wsX1_capacityInAll := by decide +kernel
theorem fa_capacityInAll_1 : Cond.fieldLink RX1 29 "FlowProofs$Net" "edges" "I" ∈ wsX1_capacityInAll := by decide +kernel
theorem fa_capacityInAll_2 : Cond.fieldLink RX1 20 "FlowProofs$Net" "capacity" "[I" ∈ wsX1_capacityInAll := by decide +kernel
set_option maxHeartbeats 4000000 in
set_option maxRecDepth 100000 in
theorem k_capacityInAll (l : Launch) (dC : Nat → ClassId) (dI : Nat → Nat → Nat) (cI cJ cZ : ClassId) (q : Nat → Nat) (N M E : Nat) (fr to cap uc fl : Nat → Int32) (hE : E ≤ M) (hM : M < 1000) : Met l yX1_capacityInAll wsX1_capacityInAll ({ frames := 0, cells := 0, slots := 0, locals := 0 }) (va_Pc [.ref (q 1)] (fun U => va_P (dC, dI) vwCl [(q 1, .inr (1, [.int (nI N), .ref (q 2), .ref (q 3), .ref (q 4), .ref (q 5), .ref (q 6), .int (nI E)])), (q 2, .inl (cI, M, .inl fr)), (q 3, .inl (cI, M, .inl to)), (q 4, .inl (cI, M, .inl cap)), (q 5, .inl (cI, M, .inl uc)), (q 6, .inl (cI, M, .inl fl))] U.heap ∧ va_K (dC, dI) vwCl [(cI, .int), (cJ, .long), (cZ, .boolean)] U)) (vp_Sl (fun r => r = fp_sum (fun e => (cap e).toInt64) E)) 0 0 (fun _ => False) := by
  refine Met.ofW (cc := cX1_capacityInAll) (maxL := 4) (ret := (some .long)) (by decide) rfl ?_
  intro p e s m args below meth c s₁ B hml hv
  obtain ⟨rfl, hP, hK⟩ := hv
  have hx := B.exec
  have hb := B.bytes
  have hr := B.returns
  have hts := atoms_spec (ws := wsX1_capacityInAll) B.pre
  have hown : s.vm.findClass RX1 = some m.cls := findClass_of_methodNamed B.named
  have hlocks := B.notSynchronized
  have hP : va_P (dC, dI) vwCl [(q 1, .inr (1, [.int (nI N), .ref (q 2), .ref (q 3), .ref (q 4), .ref (q 5), .ref (q 6), .int (nI E)])), (q 2, .inl (cI, M, .inl fr)), (q 3, .inl (cI, M, .inl to)), (q 4, .inl (cI, M, .inl cap)), (q 5, .inl (cI, M, .inl uc)), (q 6, .inl (cI, M, .inl fl))] s.heap := hP
  have hl := lv_entry ([.ref (q 1)]) (n := 4) (Nat.le_of_ble_eq_true rfl)
  rw [lg_entry_eq]
  generalize (lg_sl ([.ref (q 1)]) ++ List.replicate (4 - (lg_sl ([.ref (q 1)])).length) Slot.unset).toArray = ls at hl ⊢
  have hl : lv_has ls 4 [(0, .ref (q 1))] := hl
  refine lv_lconst (v := 0) hx hb dX1_capacityInAll_0 (by decide) ?_
  refine lv_lstore_n (lv' := [(1, .long 0), (0, .ref (q 1))]) hx hb dX1_capacityInAll_1 rfl hl (by decide) rfl (fun ls hl => ?_)
  refine lv_iconst (v := 0) hx hb dX1_capacityInAll_2 (by decide) ?_
  refine tp_i (y := nI 0) nI_0.symm ?_
  refine lv_istore_n (lv' := [(3, .int (nI 0)), (1, .long 0), (0, .ref (q 1))]) hx hb dX1_capacityInAll_3 rfl hl (by decide) rfl (fun ls hl => ?_)
  have lo_a : ∀ (nf : Nat) (i : Nat) (sm : Int64) (hi : i ≤ E) (hsm : sm = fp_sum (fun e => (cap e).toInt64) i) (hfu : E - i < nf) (ls : Array Slot) (hl : lv_has ls 4 [(0, .ref (q 1)), (1, .long sm), (3, .int (nI i))]), W p l e (headSpec wsX1_capacityInAll ({ frames := 0, cells := 0, slots := 0, locals := 0 })).room s m ([.ref (q 1)] : List Value).toArray below meth c s.heap [] 0 0 (MQ below (vp_Sl (fun r => r = fp_sum (fun e => (cap e).toInt64) E)) ([.ref (q 1)] : List Value).toArray s 0 0 (fun _ => False)) (F0 m 4 ls [])
    := by
    intro nf
    induction nf with
    | zero => intro i sm hi hsm hfu ls hl; exact absurd hfu (Nat.not_lt_zero _)
    | succ nf ih_a =>
      intro i sm hi hsm hfu ls hl
      refine lv_iload_n hx hb dX1_capacityInAll_4 rfl (lv_at hl 2 rfl) ?_
      refine lv_aload_n hx hb dX1_capacityInAll_5 rfl (lv_at hl 0 rfl) ?_
      refine va_get (D := (dC, dI)) (ci := 1) (v := .int (nI E)) (C := RX1) (T := TX1) (N := 7) hx hb hts fa_capacityInAll_0 hown hK hP 0 rfl rfl 6 (by decide) (hts _ fa_capacityInAll_1) (fun _ h9 => h9) rfl dX1_capacityInAll_6 ?_
      refine lv_icmp_ge (tgt := 28) hx hb dX1_capacityInAll_9 (by decide) (fun c_9 => ?_) (fun c_9 => ?_)
      · have hge := ix_ge (by omega) (by omega) c_9
        obtain rfl : i = E := by omega
        refine lv_lload_n hx hb dX1_capacityInAll_28 rfl (lv_at hl 1 rfl) ?_
        exact W.lret (v := sm) hx hb hr (fun t ht _ => ⟨sm, rfl, hsm, ht⟩) (fun _ h => by cases h) dX1_capacityInAll_29
      · have hlt := ix_lt (by omega) (by omega) c_9
        refine lv_lload_n hx hb dX1_capacityInAll_12 rfl (lv_at hl 1 rfl) ?_
        refine lv_aload_n hx hb dX1_capacityInAll_13 rfl (lv_at hl 0 rfl) ?_
        refine va_get (D := (dC, dI)) (ci := 1) (v := .ref (q 4)) (C := RX1) (T := TX1) (N := 7) hx hb hts fa_capacityInAll_0 hown hK hP 0 rfl rfl 3 (by decide) (hts _ fa_capacityInAll_2) (fun _ h9 => h9) rfl dX1_capacityInAll_14 ?_
        refine lv_iload_n hx hb dX1_capacityInAll_17 rfl (lv_at hl 2 rfl) ?_
        refine va_iald (D := (dC, dI)) hx hb hK hP 3 0 rfl rfl (by first | assumption | exact vp_in_nI (by omega) (by omega)) dX1_capacityInAll_18 ?_
        refine tp_i (y := cap i) (by rw [nI_clamp (n := i) (by omega)]) ?_
        refine lv_i2l hx hb dX1_capacityInAll_19 rfl ?_
        refine lv_ladd hx hb dX1_capacityInAll_20 ?_
        refine lv_lstore_n (lv' := [(1, .long (sm + ((cap i).toInt64))), (0, .ref (q 1)), (3, .int (nI i))]) hx hb dX1_capacityInAll_21 rfl hl (by decide) rfl (fun ls hl => ?_)
        refine lv_iinc (v := nI (i + 1)) (lv' := [(3, .int (nI (i + 1))), (1, .long (sm + ((cap i).toInt64))), (0, .ref (q 1))]) hx hb dX1_capacityInAll_22 hl (k := 2) rfl (by first | exact nI_1 _ | exact nI_add _ _) (by decide) rfl (fun ls hl => ?_)
        refine lv_goto (tgt := 4) hx hb dX1_capacityInAll_25 (by decide) ?_
        exact ih_a (i + 1) (sm + ((cap i).toInt64)) (by first | assumption | omega | rfl) (by first | rfl | (rw [hsm]; rfl)) (by omega) _ (lv_sub hl [2, 1, 0] rfl)
  exact lo_a (E - 0 + 1) 0 0 (by first | assumption | omega | rfl) rfl (by omega) _ (lv_sub hl [2, 1, 0] rfl)

theorem fa_costOfFlow_0 : ∀ w ∈ wsX10, w ∈ wsX1_costOfFlow := by decide +kernel
theorem fa_costOfFlow_1 : Cond.fieldLink RX1 29 "FlowProofs$Net" "edges" "I" ∈ wsX1_costOfFlow := by decide +kernel
theorem fa_costOfFlow_2 : Cond.fieldLink RX1 26 "FlowProofs$Net" "flow" "[I" ∈ wsX1_costOfFlow := by decide +kernel
theorem fa_costOfFlow_3 : Cond.fieldLink RX1 23 "FlowProofs$Net" "unitCost" "[I" ∈ wsX1_costOfFlow := by decide +kernel
set_option maxHeartbeats 4000000 in
set_option maxRecDepth 100000 in
theorem k_costOfFlow (l : Launch) (dC : Nat → ClassId) (dI : Nat → Nat → Nat) (cI cJ cZ : ClassId) (q : Nat → Nat) (N M E : Nat) (fr to cap uc fl : Nat → Int32) (hE : E ≤ M) (hM : M < 1000) : Met l yX1_costOfFlow wsX1_costOfFlow ({ frames := 0, cells := 0, slots := 0, locals := 0 }) (va_Pc [.ref (q 1)] (fun U => va_P (dC, dI) vwCl [(q 1, .inr (1, [.int (nI N), .ref (q 2), .ref (q 3), .ref (q 4), .ref (q 5), .ref (q 6), .int (nI E)])), (q 2, .inl (cI, M, .inl fr)), (q 3, .inl (cI, M, .inl to)), (q 4, .inl (cI, M, .inl cap)), (q 5, .inl (cI, M, .inl uc)), (q 6, .inl (cI, M, .inl fl))] U.heap ∧ va_K (dC, dI) vwCl [(cI, .int), (cJ, .long), (cZ, .boolean)] U)) (vp_Sl (fun r => r = fp_sum (fun e => (fl e).toInt64 * (uc e).toInt64) E)) 0 0 (fun _ => False) := by
  refine Met.ofW (cc := cX1_costOfFlow) (maxL := 4) (ret := (some .long)) (by decide) rfl ?_
  intro p e s m args below meth c s₁ B hml hv
  obtain ⟨rfl, hP, hK⟩ := hv
  have hx := B.exec
  have hb := B.bytes
  have hr := B.returns
  have hts := atoms_spec (ws := wsX1_costOfFlow) B.pre
  have hown : s.vm.findClass RX1 = some m.cls := findClass_of_methodNamed B.named
  have hlocks := B.notSynchronized
  have hP : va_P (dC, dI) vwCl [(q 1, .inr (1, [.int (nI N), .ref (q 2), .ref (q 3), .ref (q 4), .ref (q 5), .ref (q 6), .int (nI E)])), (q 2, .inl (cI, M, .inl fr)), (q 3, .inl (cI, M, .inl to)), (q 4, .inl (cI, M, .inl cap)), (q 5, .inl (cI, M, .inl uc)), (q 6, .inl (cI, M, .inl fl))] s.heap := hP
  have hl := lv_entry ([.ref (q 1)]) (n := 4) (Nat.le_of_ble_eq_true rfl)
  rw [lg_entry_eq]
  generalize (lg_sl ([.ref (q 1)]) ++ List.replicate (4 - (lg_sl ([.ref (q 1)])).length) Slot.unset).toArray = ls at hl ⊢
  have hl : lv_has ls 4 [(0, .ref (q 1))] := hl
  refine lv_lconst (v := 0) hx hb dX1_costOfFlow_0 (by decide) ?_
  refine lv_lstore_n (lv' := [(1, .long 0), (0, .ref (q 1))]) hx hb dX1_costOfFlow_1 rfl hl (by decide) rfl (fun ls hl => ?_)
  refine lv_iconst (v := 0) hx hb dX1_costOfFlow_2 (by decide) ?_
  refine tp_i (y := nI 0) nI_0.symm ?_
  refine lv_istore_n (lv' := [(3, .int (nI 0)), (1, .long 0), (0, .ref (q 1))]) hx hb dX1_costOfFlow_3 rfl hl (by decide) rfl (fun ls hl => ?_)
  have lo_a : ∀ (nf : Nat) (i : Nat) (sm : Int64) (hi : i ≤ E) (hsm : sm = fp_sum (fun e => (fl e).toInt64 * (uc e).toInt64) i) (hfu : E - i < nf) (ls : Array Slot) (hl : lv_has ls 4 [(0, .ref (q 1)), (1, .long sm), (3, .int (nI i))]), W p l e (headSpec wsX1_costOfFlow ({ frames := 0, cells := 0, slots := 0, locals := 0 })).room s m ([.ref (q 1)] : List Value).toArray below meth c s.heap [] 0 0 (MQ below (vp_Sl (fun r => r = fp_sum (fun e => (fl e).toInt64 * (uc e).toInt64) E)) ([.ref (q 1)] : List Value).toArray s 0 0 (fun _ => False)) (F0 m 4 ls [])
    := by
    intro nf
    induction nf with
    | zero => intro i sm hi hsm hfu ls hl; exact absurd hfu (Nat.not_lt_zero _)
    | succ nf ih_a =>
      intro i sm hi hsm hfu ls hl
      refine lv_iload_n hx hb dX1_costOfFlow_4 rfl (lv_at hl 2 rfl) ?_
      refine lv_aload_n hx hb dX1_costOfFlow_5 rfl (lv_at hl 0 rfl) ?_
      refine va_get (D := (dC, dI)) (ci := 1) (v := .int (nI E)) (C := RX1) (T := TX1) (N := 7) hx hb hts fa_costOfFlow_0 hown hK hP 0 rfl rfl 6 (by decide) (hts _ fa_costOfFlow_1) (fun _ h9 => h9) rfl dX1_costOfFlow_6 ?_
      refine lv_icmp_ge (tgt := 36) hx hb dX1_costOfFlow_9 (by decide) (fun c_9 => ?_) (fun c_9 => ?_)
      · have hge := ix_ge (by omega) (by omega) c_9
        obtain rfl : i = E := by omega
        refine lv_lload_n hx hb dX1_costOfFlow_36 rfl (lv_at hl 1 rfl) ?_
        exact W.lret (v := sm) hx hb hr (fun t ht _ => ⟨sm, rfl, hsm, ht⟩) (fun _ h => by cases h) dX1_costOfFlow_37
      · have hlt := ix_lt (by omega) (by omega) c_9
        refine lv_lload_n hx hb dX1_costOfFlow_12 rfl (lv_at hl 1 rfl) ?_
        refine lv_aload_n hx hb dX1_costOfFlow_13 rfl (lv_at hl 0 rfl) ?_
        refine va_get (D := (dC, dI)) (ci := 1) (v := .ref (q 6)) (C := RX1) (T := TX1) (N := 7) hx hb hts fa_costOfFlow_0 hown hK hP 0 rfl rfl 5 (by decide) (hts _ fa_costOfFlow_2) (fun _ h9 => h9) rfl dX1_costOfFlow_14 ?_
        refine lv_iload_n hx hb dX1_costOfFlow_17 rfl (lv_at hl 2 rfl) ?_
        refine va_iald (D := (dC, dI)) hx hb hK hP 5 0 rfl rfl (by first | assumption | exact vp_in_nI (by omega) (by omega)) dX1_costOfFlow_18 ?_
        refine tp_i (y := fl i) (by rw [nI_clamp (n := i) (by omega)]) ?_
        refine lv_i2l hx hb dX1_costOfFlow_19 rfl ?_
        refine lv_aload_n hx hb dX1_costOfFlow_20 rfl (lv_at hl 0 rfl) ?_
        refine va_get (D := (dC, dI)) (ci := 1) (v := .ref (q 5)) (C := RX1) (T := TX1) (N := 7) hx hb hts fa_costOfFlow_0 hown hK hP 0 rfl rfl 4 (by decide) (hts _ fa_costOfFlow_3) (fun _ h9 => h9) rfl dX1_costOfFlow_21 ?_
        refine lv_iload_n hx hb dX1_costOfFlow_24 rfl (lv_at hl 2 rfl) ?_
        refine va_iald (D := (dC, dI)) hx hb hK hP 4 0 rfl rfl (by first | assumption | exact vp_in_nI (by omega) (by omega)) dX1_costOfFlow_25 ?_
        refine tp_i (y := uc i) (by rw [nI_clamp (n := i) (by omega)]) ?_
        refine lv_i2l hx hb dX1_costOfFlow_26 rfl ?_
        refine lv_lmul hx hb dX1_costOfFlow_27 ?_
        refine lv_ladd hx hb dX1_costOfFlow_28 ?_
        refine lv_lstore_n (lv' := [(1, .long (sm + (((fl i).toInt64) * ((uc i).toInt64)))), (0, .ref (q 1)), (3, .int (nI i))]) hx hb dX1_costOfFlow_29 rfl hl (by decide) rfl (fun ls hl => ?_)
        refine lv_iinc (v := nI (i + 1)) (lv' := [(3, .int (nI (i + 1))), (1, .long (sm + (((fl i).toInt64) * ((uc i).toInt64)))), (0, .ref (q 1))]) hx hb dX1_costOfFlow_30 hl (k := 2) rfl (by first | exact nI_1 _ | exact nI_add _ _) (by decide) rfl (fun ls hl => ?_)
        refine lv_goto (tgt := 4) hx hb dX1_costOfFlow_33 (by decide) ?_
        exact ih_a (i + 1) (sm + (((fl i).toInt64) * ((uc i).toInt64))) (by first | assumption | omega | rfl) (by first | rfl | (rw [hsm]; rfl)) (by omega) _ (lv_sub hl [2, 1, 0] rfl)
  exact lo_a (E - 0 + 1) 0 0 (by first | assumption | omega | rfl) rfl (by omega) _ (lv_sub hl [2, 1, 0] rfl)

theorem fa_surplus_0 : ∀ w ∈ wsX10, w ∈ wsX1_surplus := by decide +kernel
theorem fa_surplus_1 : Cond.fieldLink RX1 29 "FlowProofs$Net" "edges" "I" ∈ wsX1_surplus := by decide +kernel
theorem fa_surplus_2 : Cond.fieldLink RX1 17 "FlowProofs$Net" "to" "[I" ∈ wsX1_surplus := by decide +kernel
theorem fa_surplus_3 : Cond.fieldLink RX1 13 "FlowProofs$Net" "from" "[I" ∈ wsX1_surplus := by decide +kernel
theorem fa_surplus_4 : Cond.fieldLink RX1 26 "FlowProofs$Net" "flow" "[I" ∈ wsX1_surplus := by decide +kernel
set_option maxHeartbeats 4000000 in
set_option maxRecDepth 100000 in
theorem k_surplus (l : Launch) (dC : Nat → ClassId) (dI : Nat → Nat → Nat) (cI cJ cZ : ClassId) (q : Nat → Nat) (N M E : Nat) (fr to cap uc fl : Nat → Int32) (x : Int32) (hE : E ≤ M) (hM : M < 1000) : Met l yX1_surplus wsX1_surplus ({ frames := 0, cells := 0, slots := 0, locals := 0 }) (va_Pc [.ref (q 1), .int x] (fun U => va_P (dC, dI) vwCl [(q 1, .inr (1, [.int (nI N), .ref (q 2), .ref (q 3), .ref (q 4), .ref (q 5), .ref (q 6), .int (nI E)])), (q 2, .inl (cI, M, .inl fr)), (q 3, .inl (cI, M, .inl to)), (q 4, .inl (cI, M, .inl cap)), (q 5, .inl (cI, M, .inl uc)), (q 6, .inl (cI, M, .inl fl))] U.heap ∧ va_K (dC, dI) vwCl [(cI, .int), (cJ, .long), (cZ, .boolean)] U)) (vp_Sl (fun r => r = fp_sur fr to fl x E)) 0 0 (fun _ => False) := by
  refine Met.ofW (cc := cX1_surplus) (maxL := 5) (ret := (some .long)) (by decide) rfl ?_
  intro p e s m args below meth c s₁ B hml hv
  obtain ⟨rfl, hP, hK⟩ := hv
  have hx := B.exec
  have hb := B.bytes
  have hr := B.returns
  have hts := atoms_spec (ws := wsX1_surplus) B.pre
  have hown : s.vm.findClass RX1 = some m.cls := findClass_of_methodNamed B.named
  have hlocks := B.notSynchronized
  have hP : va_P (dC, dI) vwCl [(q 1, .inr (1, [.int (nI N), .ref (q 2), .ref (q 3), .ref (q 4), .ref (q 5), .ref (q 6), .int (nI E)])), (q 2, .inl (cI, M, .inl fr)), (q 3, .inl (cI, M, .inl to)), (q 4, .inl (cI, M, .inl cap)), (q 5, .inl (cI, M, .inl uc)), (q 6, .inl (cI, M, .inl fl))] s.heap := hP
  have hl := lv_entry ([.ref (q 1), .int x]) (n := 5) (Nat.le_of_ble_eq_true rfl)
  rw [lg_entry_eq]
  generalize (lg_sl ([.ref (q 1), .int x]) ++ List.replicate (5 - (lg_sl ([.ref (q 1), .int x])).length) Slot.unset).toArray = ls at hl ⊢
  have hl : lv_has ls 5 [(0, .ref (q 1)), (1, .int x)] := hl
  refine lv_lconst (v := 0) hx hb dX1_surplus_0 (by decide) ?_
  refine lv_lstore_n (lv' := [(2, .long 0), (0, .ref (q 1)), (1, .int x)]) hx hb dX1_surplus_1 rfl hl (by decide) rfl (fun ls hl => ?_)
  refine lv_iconst (v := 0) hx hb dX1_surplus_2 (by decide) ?_
  refine tp_i (y := nI 0) nI_0.symm ?_
  refine lv_istore (lv' := [(4, .int (nI 0)), (2, .long 0), (0, .ref (q 1)), (1, .int x)]) hx hb dX1_surplus_3 hl (by decide) rfl (fun ls hl => ?_)
  have lo_a : ∀ (nf : Nat) (i : Nat) (sm : Int64) (hi : i ≤ E) (hsm : sm = fp_sur fr to fl x i) (hfu : E - i < nf) (ls : Array Slot) (hl : lv_has ls 5 [(0, .ref (q 1)), (1, .int x), (2, .long sm), (4, .int (nI i))]), W p l e (headSpec wsX1_surplus ({ frames := 0, cells := 0, slots := 0, locals := 0 })).room s m ([.ref (q 1), .int x] : List Value).toArray below meth c s.heap [] 0 0 (MQ below (vp_Sl (fun r => r = fp_sur fr to fl x E)) ([.ref (q 1), .int x] : List Value).toArray s 0 0 (fun _ => False)) (F0 m 5 ls [])
    := by
    intro nf
    induction nf with
    | zero => intro i sm hi hsm hfu ls hl; exact absurd hfu (Nat.not_lt_zero _)
    | succ nf ih_a =>
      intro i sm hi hsm hfu ls hl
      refine lv_iload hx hb dX1_surplus_5 (lv_at hl 3 rfl) ?_
      refine lv_aload_n hx hb dX1_surplus_7 rfl (lv_at hl 0 rfl) ?_
      refine va_get (D := (dC, dI)) (ci := 1) (v := .int (nI E)) (C := RX1) (T := TX1) (N := 7) hx hb hts fa_surplus_0 hown hK hP 0 rfl rfl 6 (by decide) (hts _ fa_surplus_1) (fun _ h9 => h9) rfl dX1_surplus_8 ?_
      refine lv_icmp_ge (tgt := 64) hx hb dX1_surplus_11 (by decide) (fun c_11 => ?_) (fun c_11 => ?_)
      · have hge := ix_ge (by omega) (by omega) c_11
        obtain rfl : i = E := by omega
        refine lv_lload_n hx hb dX1_surplus_64 rfl (lv_at hl 2 rfl) ?_
        exact W.lret (v := sm) hx hb hr (fun t ht _ => ⟨sm, rfl, hsm, ht⟩) (fun _ h => by cases h) dX1_surplus_65
      · have hlt := ix_lt (by omega) (by omega) c_11
        refine lv_aload_n hx hb dX1_surplus_14 rfl (lv_at hl 0 rfl) ?_
        refine va_get (D := (dC, dI)) (ci := 1) (v := .ref (q 3)) (C := RX1) (T := TX1) (N := 7) hx hb hts fa_surplus_0 hown hK hP 0 rfl rfl 2 (by decide) (hts _ fa_surplus_2) (fun _ h9 => h9) rfl dX1_surplus_15 ?_
        refine lv_iload hx hb dX1_surplus_18 (lv_at hl 3 rfl) ?_
        refine va_iald (D := (dC, dI)) hx hb hK hP 2 0 rfl rfl (by first | assumption | exact vp_in_nI (by omega) (by omega)) dX1_surplus_20 ?_
        refine tp_i (y := to i) (by rw [nI_clamp (n := i) (by omega)]) ?_
        refine lv_iload_n hx hb dX1_surplus_21 rfl (lv_at hl 1 rfl) ?_
        refine lv_icmp_ne (tgt := 36) hx hb dX1_surplus_22 (by decide) (fun c_22 => ?_) (fun c_22 => ?_)
        · refine lv_aload_n hx hb dX1_surplus_36 rfl (lv_at hl 0 rfl) ?_
          refine va_get (D := (dC, dI)) (ci := 1) (v := .ref (q 2)) (C := RX1) (T := TX1) (N := 7) hx hb hts fa_surplus_0 hown hK hP 0 rfl rfl 1 (by decide) (hts _ fa_surplus_3) (fun _ h9 => h9) rfl dX1_surplus_37 ?_
          refine lv_iload hx hb dX1_surplus_40 (lv_at hl 3 rfl) ?_
          refine va_iald (D := (dC, dI)) hx hb hK hP 1 0 rfl rfl (by first | assumption | exact vp_in_nI (by omega) (by omega)) dX1_surplus_42 ?_
          refine tp_i (y := fr i) (by rw [nI_clamp (n := i) (by omega)]) ?_
          refine lv_iload_n hx hb dX1_surplus_43 rfl (lv_at hl 1 rfl) ?_
          refine lv_icmp_ne (tgt := 58) hx hb dX1_surplus_44 (by decide) (fun c_44 => ?_) (fun c_44 => ?_)
          · refine lv_iinc (v := nI (i + 1)) (lv' := [(4, .int (nI (i + 1))), (0, .ref (q 1)), (1, .int x), (2, .long sm)]) hx hb dX1_surplus_58 hl (k := 3) rfl (by first | exact nI_1 _ | exact nI_add _ _) (by decide) rfl (fun ls hl => ?_)
            refine lv_goto (tgt := 5) hx hb dX1_surplus_61 (by decide) ?_
            exact ih_a (i + 1) sm (by first | assumption | omega | rfl) (by rw [hsm]; simp only [fp_sur, *, if_true, if_false, ite_true, ite_false]) (by omega) _ (lv_sub hl [1, 2, 3, 0] rfl)
          · refine lv_lload_n hx hb dX1_surplus_47 rfl (lv_at hl 2 rfl) ?_
            refine lv_aload_n hx hb dX1_surplus_48 rfl (lv_at hl 0 rfl) ?_
            refine va_get (D := (dC, dI)) (ci := 1) (v := .ref (q 6)) (C := RX1) (T := TX1) (N := 7) hx hb hts fa_surplus_0 hown hK hP 0 rfl rfl 5 (by decide) (hts _ fa_surplus_4) (fun _ h9 => h9) rfl dX1_surplus_49 ?_
            refine lv_iload hx hb dX1_surplus_52 (lv_at hl 3 rfl) ?_
            refine va_iald (D := (dC, dI)) hx hb hK hP 5 0 rfl rfl (by first | assumption | exact vp_in_nI (by omega) (by omega)) dX1_surplus_54 ?_
            refine tp_i (y := fl i) (by rw [nI_clamp (n := i) (by omega)]) ?_
            refine lv_i2l hx hb dX1_surplus_55 rfl ?_
            refine lv_lsub hx hb dX1_surplus_56 ?_
            refine lv_lstore_n (lv' := [(2, .long (sm - ((fl i).toInt64))), (0, .ref (q 1)), (1, .int x), (4, .int (nI i))]) hx hb dX1_surplus_57 rfl hl (by decide) rfl (fun ls hl => ?_)
            refine lv_iinc (v := nI (i + 1)) (lv' := [(4, .int (nI (i + 1))), (2, .long (sm - ((fl i).toInt64))), (0, .ref (q 1)), (1, .int x)]) hx hb dX1_surplus_58 hl (k := 3) rfl (by first | exact nI_1 _ | exact nI_add _ _) (by decide) rfl (fun ls hl => ?_)
            refine lv_goto (tgt := 5) hx hb dX1_surplus_61 (by decide) ?_
            exact ih_a (i + 1) (sm - ((fl i).toInt64)) (by first | assumption | omega | rfl) (by rw [hsm]; simp only [fp_sur, *, if_true, if_false, ite_true, ite_false]) (by omega) _ (lv_sub hl [2, 3, 1, 0] rfl)
        · refine lv_lload_n hx hb dX1_surplus_25 rfl (lv_at hl 2 rfl) ?_
          refine lv_aload_n hx hb dX1_surplus_26 rfl (lv_at hl 0 rfl) ?_
          refine va_get (D := (dC, dI)) (ci := 1) (v := .ref (q 6)) (C := RX1) (T := TX1) (N := 7) hx hb hts fa_surplus_0 hown hK hP 0 rfl rfl 5 (by decide) (hts _ fa_surplus_4) (fun _ h9 => h9) rfl dX1_surplus_27 ?_
          refine lv_iload hx hb dX1_surplus_30 (lv_at hl 3 rfl) ?_
          refine va_iald (D := (dC, dI)) hx hb hK hP 5 0 rfl rfl (by first | assumption | exact vp_in_nI (by omega) (by omega)) dX1_surplus_32 ?_
          refine tp_i (y := fl i) (by rw [nI_clamp (n := i) (by omega)]) ?_
          refine lv_i2l hx hb dX1_surplus_33 rfl ?_
          refine lv_ladd hx hb dX1_surplus_34 ?_
          refine lv_lstore_n (lv' := [(2, .long (sm + ((fl i).toInt64))), (0, .ref (q 1)), (1, .int x), (4, .int (nI i))]) hx hb dX1_surplus_35 rfl hl (by decide) rfl (fun ls hl => ?_)
          refine lv_aload_n hx hb dX1_surplus_36 rfl (lv_at hl 1 rfl) ?_
          refine va_get (D := (dC, dI)) (ci := 1) (v := .ref (q 2)) (C := RX1) (T := TX1) (N := 7) hx hb hts fa_surplus_0 hown hK hP 0 rfl rfl 1 (by decide) (hts _ fa_surplus_3) (fun _ h9 => h9) rfl dX1_surplus_37 ?_
          refine lv_iload hx hb dX1_surplus_40 (lv_at hl 3 rfl) ?_
          refine va_iald (D := (dC, dI)) hx hb hK hP 1 0 rfl rfl (by first | assumption | exact vp_in_nI (by omega) (by omega)) dX1_surplus_42 ?_
          refine tp_i (y := fr i) (by rw [nI_clamp (n := i) (by omega)]) ?_
          refine lv_iload_n hx hb dX1_surplus_43 rfl (lv_at hl 2 rfl) ?_
          refine lv_icmp_ne (tgt := 58) hx hb dX1_surplus_44 (by decide) (fun c_44 => ?_) (fun c_44 => ?_)
          · refine lv_iinc (v := nI (i + 1)) (lv' := [(4, .int (nI (i + 1))), (2, .long (sm + ((fl i).toInt64))), (0, .ref (q 1)), (1, .int x)]) hx hb dX1_surplus_58 hl (k := 3) rfl (by first | exact nI_1 _ | exact nI_add _ _) (by decide) rfl (fun ls hl => ?_)
            refine lv_goto (tgt := 5) hx hb dX1_surplus_61 (by decide) ?_
            exact ih_a (i + 1) (sm + ((fl i).toInt64)) (by first | assumption | omega | rfl) (by rw [hsm]; simp only [fp_sur, *, if_true, if_false, ite_true, ite_false]) (by omega) _ (lv_sub hl [2, 3, 1, 0] rfl)
          · refine lv_lload_n hx hb dX1_surplus_47 rfl (lv_at hl 0 rfl) ?_
            refine lv_aload_n hx hb dX1_surplus_48 rfl (lv_at hl 1 rfl) ?_
            refine va_get (D := (dC, dI)) (ci := 1) (v := .ref (q 6)) (C := RX1) (T := TX1) (N := 7) hx hb hts fa_surplus_0 hown hK hP 0 rfl rfl 5 (by decide) (hts _ fa_surplus_4) (fun _ h9 => h9) rfl dX1_surplus_49 ?_
            refine lv_iload hx hb dX1_surplus_52 (lv_at hl 3 rfl) ?_
            refine va_iald (D := (dC, dI)) hx hb hK hP 5 0 rfl rfl (by first | assumption | exact vp_in_nI (by omega) (by omega)) dX1_surplus_54 ?_
            refine tp_i (y := fl i) (by rw [nI_clamp (n := i) (by omega)]) ?_
            refine lv_i2l hx hb dX1_surplus_55 rfl ?_
            refine lv_lsub hx hb dX1_surplus_56 ?_
            refine lv_lstore_n (lv' := [(2, .long ((sm + ((fl i).toInt64)) - ((fl i).toInt64))), (0, .ref (q 1)), (1, .int x), (4, .int (nI i))]) hx hb dX1_surplus_57 rfl hl (by decide) rfl (fun ls hl => ?_)
            refine lv_iinc (v := nI (i + 1)) (lv' := [(4, .int (nI (i + 1))), (2, .long ((sm + ((fl i).toInt64)) - ((fl i).toInt64))), (0, .ref (q 1)), (1, .int x)]) hx hb dX1_surplus_58 hl (k := 3) rfl (by first | exact nI_1 _ | exact nI_add _ _) (by decide) rfl (fun ls hl => ?_)
            refine lv_goto (tgt := 5) hx hb dX1_surplus_61 (by decide) ?_
            exact ih_a (i + 1) ((sm + ((fl i).toInt64)) - ((fl i).toInt64)) (by first | assumption | omega | rfl) (by rw [hsm]; simp only [fp_sur, *, if_true, if_false, ite_true, ite_false]) (by omega) _ (lv_sub hl [2, 3, 1, 0] rfl)
  exact lo_a (E - 0 + 1) 0 0 (by first | assumption | omega | rfl) rfl (by omega) _ (lv_sub hl [2, 3, 1, 0] rfl)

set_option maxHeartbeats 4000000 in
set_option maxRecDepth 100000 in
theorem k_fill (l : Launch) (dC : Nat → ClassId) (dI : Nat → Nat → Nat) (cI cJ cZ : ClassId) (b n : Nat) (f : Nat → Int32) (v : Int32) (sz : Nat) (hn : n < 1000) : Met l yJ7_fill_53178 wsJ7_fill_53178 ({ frames := 0, cells := 0, slots := 0, locals := 0 }) (va_Pc [.ref b, .int v] (fun U => U.heap.size = sz ∧ va_P (dC, dI) vwCl [(b, .inl (cI, n, .inl f))] U.heap ∧ va_K (dC, dI) vwCl [(cI, .int), (cJ, .long), (cZ, .boolean)] U ∧ va_D (fun _ => True) [(b, .inl (cI, n, .inl f))])) (va_Qv (fun (u_ : Unit) => True) (fun (u_ : Unit) (t : State) => va_P (dC, dI) vwCl [(b, .inl (cI, n, .inl (fun _ => v)))] t.heap ∧ va_K (dC, dI) vwCl [(cI, .int), (cJ, .long), (cZ, .boolean)] t ∧ va_D (va_A [(b, .inl (cI, n, .inl f))] sz) [(b, .inl (cI, n, .inl (fun _ => v)))]) (va_A [(b, .inl (cI, n, .inl f))] sz)) 0 0 (va_A [(b, .inl (cI, n, .inl f))] sz) := by
  refine Met.ofW (cc := cJ7_fill_53178) (maxL := 4) (ret := none) (by decide) rfl ?_
  intro p e s m args below meth c s₁ B hml hv
  obtain ⟨rfl, hsz, hP, hK, hD0⟩ := hv
  have hx := B.exec
  have hb := B.bytes
  have hr := B.returns
  have hts := atoms_spec (ws := wsJ7_fill_53178) B.pre
  have hown : s.vm.findClass RJ7 = some m.cls := findClass_of_methodNamed B.named
  have hlocks := B.notSynchronized
  subst hsz
  have hD := hD0.self (sz := s.heap.size)
  generalize hAe : va_A [(b, .inl (cI, n, .inl f))] s.heap.size = A at hD ⊢
  have hA : ∀ q : Nat, s.heap.size ≤ q → A q := fun q h => by rw [← hAe]; exact Or.inr h
  have hS : va_S A s.heap s.heap [] := va_S.rf
  have hP : va_P (dC, dI) vwCl [(b, .inl (cI, n, .inl f))] s.heap := hP
  have hl := lv_entry ([.ref b, .int v]) (n := 4) (Nat.le_of_ble_eq_true rfl)
  rw [lg_entry_eq]
  generalize (lg_sl ([.ref b, .int v]) ++ List.replicate (4 - (lg_sl ([.ref b, .int v])).length) Slot.unset).toArray = ls at hl ⊢
  have hl : lv_has ls 4 [(0, .ref b), (1, .int v)] := hl
  refine lv_iconst (v := 0) hx hb dJ7_fill_53178_0 (by decide) ?_
  refine tp_i (y := nI 0) nI_0.symm ?_
  refine lv_istore_n (lv' := [(2, .int (nI 0)), (0, .ref b), (1, .int v)]) hx hb dJ7_fill_53178_1 rfl hl (by decide) rfl (fun ls hl => ?_)
  refine lv_aload_n hx hb dJ7_fill_53178_2 rfl (lv_at hl 1 rfl) ?_
  refine va_alen (D := (dC, dI)) (v := nI n) hx hb hK hP 0 0 rfl rfl rfl dJ7_fill_53178_3 ?_
  refine lv_istore_n (lv' := [(3, .int (nI n)), (2, .int (nI 0)), (0, .ref b), (1, .int v)]) hx hb dJ7_fill_53178_4 rfl hl (by decide) rfl (fun ls hl => ?_)
  have lo_a : ∀ (nf : Nat) (i : Nat) (g : Nat → Int32) (hi : i ≤ n) (hg : ∀ j, j < i → g j = v) (hfu : n - i < nf) (H : Heap) (locs : List Loc) (hP : va_P (dC, dI) vwCl [(b, .inl (cI, n, .inl g))] H) (hD : va_D A [(b, .inl (cI, n, .inl g))]) (hS : va_S A s.heap H locs) (ls : Array Slot) (hl : lv_has ls 4 [(0, .ref b), (1, .int v), (2, .int (nI i)), (3, .int (nI n))]), W p l e (headSpec wsJ7_fill_53178 ({ frames := 0, cells := 0, slots := 0, locals := 0 })).room s m ([.ref b, .int v] : List Value).toArray below meth c H locs 0 0 (MQ below (va_Qv (fun (u_ : Unit) => True) (fun (u_ : Unit) (t : State) => va_P (dC, dI) vwCl [(b, .inl (cI, n, .inl (fun _ => v)))] t.heap ∧ va_K (dC, dI) vwCl [(cI, .int), (cJ, .long), (cZ, .boolean)] t ∧ va_D A [(b, .inl (cI, n, .inl (fun _ => v)))]) A) ([.ref b, .int v] : List Value).toArray s 0 0 A) (F0 m 5 ls [])
    := by
    intro nf
    induction nf with
    | zero => intro i g hi hg hfu H locs hP hD hS ls hl; exact absurd hfu (Nat.not_lt_zero _)
    | succ nf ih_a =>
      intro i g hi hg hfu H locs hP hD hS ls hl
      refine lv_iload_n hx hb dJ7_fill_53178_5 rfl (lv_at hl 2 rfl) ?_
      refine lv_iload_n hx hb dJ7_fill_53178_6 rfl (lv_at hl 3 rfl) ?_
      refine lv_icmp_ge (tgt := 20) hx hb dJ7_fill_53178_7 (by decide) (fun c_7 => ?_) (fun c_7 => ?_)
      · have hge := ix_ge (by omega) (by omega) c_7
        have hP := va_P_conI hP 0 (g := fun _ => v) rfl (fun j hj => hg j (by omega))
        have hD := va_D_con hD 0 (e1 := .inl (cI, n, .inl (fun _ => v))) rfl
        have hP9 := hP.sub (ws' := [(b, .inl (cI, n, .inl (fun _ => v)))]) [0] rfl
        have hD9 := hD.sub (ws' := [(b, .inl (cI, n, .inl (fun _ => v)))]) [0] (by decide) rfl
        exact W.vret hx hb hr (fun t ht hW => ⟨⟨(), rfl, trivial, by rw [ht]; exact hP9, va_K.moved hW.alike hK, hD9⟩, hS.F ht⟩) hS.2.2 dJ7_fill_53178_20
      · have hlt := ix_lt (by omega) (by omega) c_7
        refine lv_aload_n hx hb dJ7_fill_53178_10 rfl (lv_at hl 0 rfl) ?_
        refine lv_iload_n hx hb dJ7_fill_53178_11 rfl (lv_at hl 2 rfl) ?_
        refine lv_iload_n hx hb dJ7_fill_53178_12 rfl (lv_at hl 1 rfl) ?_
        refine va_iast (D := (dC, dI)) hx hb hK hP hD hS 0 0 rfl rfl (by first | assumption | exact vp_in_nI (by omega) (by omega)) dJ7_fill_53178_13 (fun H locs hP hD hS => ?_)
        have hP : va_P (dC, dI) vwCl [(b, .inl (cI, n, .inl (upd g ((nI i).toNatClampNeg) v)))] H := hP
        have hD : va_D A [(b, .inl (cI, n, .inl (upd g ((nI i).toNatClampNeg) v)))] := hD
        rw [nI_clamp (n := i) (by omega)] at hP hD
        have hP : va_P (dC, dI) vwCl [(b, .inl (cI, n, .inl (upd g i v)))] H := hP
        have hD : va_D A [(b, .inl (cI, n, .inl (upd g i v)))] := hD
        refine lv_iinc (v := nI (i + 1)) (lv' := [(2, .int (nI (i + 1))), (0, .ref b), (1, .int v), (3, .int (nI n))]) hx hb dJ7_fill_53178_14 hl (k := 2) rfl (by first | exact nI_1 _ | exact nI_add _ _) (by decide) rfl (fun ls hl => ?_)
        refine lv_goto (tgt := 5) hx hb dJ7_fill_53178_17 (by decide) ?_
        exact ih_a (i + 1) (upd g i v) (by first | assumption | omega | rfl) (fun j hj => by unfold upd; split <;> first | rfl | exact hg j (by omega)) (by omega) _ _ hP hD hS _ (lv_sub hl [1, 2, 0, 3] rfl)
  exact lo_a (n - 0 + 1) 0 f (by first | assumption | omega | rfl) (fun j hj => absurd hj (Nat.not_lt_zero _)) (by omega) _ _ hP hD hS _ (lv_sub hl [2, 3, 1, 0] rfl)

theorem fa_clearFlow_0 : ∀ w ∈ wsX10, w ∈ wsX1_clearFlow := by decide +kernel
theorem fa_clearFlow_1 : Cond.fieldLink RX1 26 "FlowProofs$Net" "flow" "[I" ∈ wsX1_clearFlow := by decide +kernel
set_option maxHeartbeats 4000000 in
set_option maxRecDepth 100000 in
theorem k_clearFlow (l : Launch) (dC : Nat → ClassId) (dI : Nat → Nat → Nat) (cI cJ cZ : ClassId) (q : Nat → Nat) (N M E : Nat) (fr to cap uc fl : Nat → Int32) (sz : Nat) (hM : M < 1000) : Met l yX1_clearFlow wsX1_clearFlow ({ frames := 1, cells := 0, slots := 0, locals := 23 }) (va_Pc [.ref (q 1)] (fun U => U.heap.size = sz ∧ va_P (dC, dI) vwCl [(q 1, .inr (1, [.int (nI N), .ref (q 2), .ref (q 3), .ref (q 4), .ref (q 5), .ref (q 6), .int (nI E)])), (q 2, .inl (cI, M, .inl fr)), (q 3, .inl (cI, M, .inl to)), (q 4, .inl (cI, M, .inl cap)), (q 5, .inl (cI, M, .inl uc)), (q 6, .inl (cI, M, .inl fl))] U.heap ∧ va_K (dC, dI) vwCl [(cI, .int), (cJ, .long), (cZ, .boolean)] U ∧ va_D (fun _ => True) [(q 1, .inr (1, [.int (nI N), .ref (q 2), .ref (q 3), .ref (q 4), .ref (q 5), .ref (q 6), .int (nI E)])), (q 2, .inl (cI, M, .inl fr)), (q 3, .inl (cI, M, .inl to)), (q 4, .inl (cI, M, .inl cap)), (q 5, .inl (cI, M, .inl uc)), (q 6, .inl (cI, M, .inl fl))])) (va_Qv (fun (u_ : Unit) => True) (fun (u_ : Unit) (t : State) => va_P (dC, dI) vwCl [(q 1, .inr (1, [.int (nI N), .ref (q 2), .ref (q 3), .ref (q 4), .ref (q 5), .ref (q 6), .int (nI E)])), (q 2, .inl (cI, M, .inl fr)), (q 3, .inl (cI, M, .inl to)), (q 4, .inl (cI, M, .inl cap)), (q 5, .inl (cI, M, .inl uc)), (q 6, .inl (cI, M, .inl (fun _ => 0)))] t.heap ∧ va_K (dC, dI) vwCl [(cI, .int), (cJ, .long), (cZ, .boolean)] t ∧ va_D (va_A [(q 1, .inr (1, [.int (nI N), .ref (q 2), .ref (q 3), .ref (q 4), .ref (q 5), .ref (q 6), .int (nI E)])), (q 2, .inl (cI, M, .inl fr)), (q 3, .inl (cI, M, .inl to)), (q 4, .inl (cI, M, .inl cap)), (q 5, .inl (cI, M, .inl uc)), (q 6, .inl (cI, M, .inl fl))] sz) [(q 1, .inr (1, [.int (nI N), .ref (q 2), .ref (q 3), .ref (q 4), .ref (q 5), .ref (q 6), .int (nI E)])), (q 2, .inl (cI, M, .inl fr)), (q 3, .inl (cI, M, .inl to)), (q 4, .inl (cI, M, .inl cap)), (q 5, .inl (cI, M, .inl uc)), (q 6, .inl (cI, M, .inl (fun _ => 0)))]) (va_A [(q 1, .inr (1, [.int (nI N), .ref (q 2), .ref (q 3), .ref (q 4), .ref (q 5), .ref (q 6), .int (nI E)])), (q 2, .inl (cI, M, .inl fr)), (q 3, .inl (cI, M, .inl to)), (q 4, .inl (cI, M, .inl cap)), (q 5, .inl (cI, M, .inl uc)), (q 6, .inl (cI, M, .inl fl))] sz)) 0 0 (va_A [(q 1, .inr (1, [.int (nI N), .ref (q 2), .ref (q 3), .ref (q 4), .ref (q 5), .ref (q 6), .int (nI E)])), (q 2, .inl (cI, M, .inl fr)), (q 3, .inl (cI, M, .inl to)), (q 4, .inl (cI, M, .inl cap)), (q 5, .inl (cI, M, .inl uc)), (q 6, .inl (cI, M, .inl fl))] sz) := by
  refine Met.ofW (cc := cX1_clearFlow) (maxL := 1) (ret := none) (by decide) rfl ?_
  intro p e s m args below meth c s₁ B hml hv
  obtain ⟨rfl, hsz, hP, hK, hD0⟩ := hv
  have hx := B.exec
  have hb := B.bytes
  have hr := B.returns
  have hts := atoms_spec (ws := wsX1_clearFlow) B.pre
  have hown : s.vm.findClass RX1 = some m.cls := findClass_of_methodNamed B.named
  have hlocks := B.notSynchronized
  subst hsz
  have hD := hD0.self (sz := s.heap.size)
  generalize hAe : va_A [(q 1, .inr (1, [.int (nI N), .ref (q 2), .ref (q 3), .ref (q 4), .ref (q 5), .ref (q 6), .int (nI E)])), (q 2, .inl (cI, M, .inl fr)), (q 3, .inl (cI, M, .inl to)), (q 4, .inl (cI, M, .inl cap)), (q 5, .inl (cI, M, .inl uc)), (q 6, .inl (cI, M, .inl fl))] s.heap.size = A at hD ⊢
  have hA : ∀ q : Nat, s.heap.size ≤ q → A q := fun q h => by rw [← hAe]; exact Or.inr h
  have hS : va_S A s.heap s.heap [] := va_S.rf
  have hP : va_P (dC, dI) vwCl [(q 1, .inr (1, [.int (nI N), .ref (q 2), .ref (q 3), .ref (q 4), .ref (q 5), .ref (q 6), .int (nI E)])), (q 2, .inl (cI, M, .inl fr)), (q 3, .inl (cI, M, .inl to)), (q 4, .inl (cI, M, .inl cap)), (q 5, .inl (cI, M, .inl uc)), (q 6, .inl (cI, M, .inl fl))] s.heap := hP
  have hl := lv_entry ([.ref (q 1)]) (n := 1) (Nat.le_of_ble_eq_true rfl)
  rw [lg_entry_eq]
  generalize (lg_sl ([.ref (q 1)]) ++ List.replicate (1 - (lg_sl ([.ref (q 1)])).length) Slot.unset).toArray = ls at hl ⊢
  have hl : lv_has ls 1 [(0, .ref (q 1))] := hl
  refine lv_aload_n hx hb dX1_clearFlow_0 rfl (lv_at hl 0 rfl) ?_
  refine va_get (D := (dC, dI)) (ci := 1) (v := .ref (q 6)) (C := RX1) (T := TX1) (N := 7) hx hb hts fa_clearFlow_0 hown hK hP 0 rfl rfl 5 (by decide) (hts _ fa_clearFlow_1) (fun _ h9 => h9) rfl dX1_clearFlow_1 ?_
  refine lv_iconst (v := 0) hx hb dX1_clearFlow_4 (by decide) ?_
  have hPc := hP.sub (ws' := [(q 6, .inl (cI, M, .inl fl))]) [5] rfl
  have hDc := hD.sub (ws' := [(q 6, .inl (cI, M, .inl fl))]) [5] (by decide) rfl
  have hFc := va_free (wc := [(q 6, .inl (cI, M, .inl fl))]) hD hS hA [5] rfl
  refine va_callv (va_runS (As := [.ref (q 6), .int 0]) (rest := []) ⟨hx, hb, hml, hown, hts⟩ (k_fill l dC dI cI cJ cZ (q 6) M fl 0 s.heap.size (by omega)) (va_cwS 2 hts gX1_clearFlow_J7_fill_53178 rfl rfl rfl (by decide +kernel) ⟨Nat.le_of_ble_eq_true rfl, Nat.le_of_ble_eq_true rfl⟩) ⟨fun a U g mk q => by obtain ⟨q0, q1, qP, qK, qD⟩ := q; exact ⟨q0, q1, qP, va_K.moved (u := U) (U := U.calling g mk a) (Vm.Alike.refl U.vm) qK, qD⟩, fun U hU hW => ⟨rfl, by rw [hU], by rw [hU]; exact hPc, va_K.moved hW.alike hK, hDc.weaken (fun _ _ _ _ => trivial)⟩⟩ rfl rfl hl.1 rfl (lv_room (Nat.le_of_ble_eq_true rfl)) dX1_clearFlow_5 ⟨Nat.le_of_ble_eq_true rfl, Nat.le_of_ble_eq_true rfl⟩) hS (fun q _ h => hFc q h) hFc (fun u t H1 locs ht hvm hw_5 hB hz1 hk1 hS => ?_)
  obtain ⟨hP1, hK1, hD1⟩ := hB
  rw [ht] at hP1
  obtain ⟨hP, hD⟩ := va_join (wr := [(q 1, .inr (1, [.int (nI N), .ref (q 2), .ref (q 3), .ref (q 4), .ref (q 5), .ref (q 6), .int (nI E)])), (q 2, .inl (cI, M, .inl fr)), (q 3, .inl (cI, M, .inl to)), (q 4, .inl (cI, M, .inl cap)), (q 5, .inl (cI, M, .inl uc))]) (w1 := [(q 6, .inl (cI, M, .inl (fun _ => 0)))]) hP hD [5] [0, 1, 2, 3, 4] rfl rfl (by decide) (by decide) hk1 hFc hP1 hD1
  generalize H1 = H at hP hS ⊢
  have hP := hP.sub (ws' := [(q 1, .inr (1, [.int (nI N), .ref (q 2), .ref (q 3), .ref (q 4), .ref (q 5), .ref (q 6), .int (nI E)])), (q 2, .inl (cI, M, .inl fr)), (q 3, .inl (cI, M, .inl to)), (q 4, .inl (cI, M, .inl cap)), (q 5, .inl (cI, M, .inl uc)), (q 6, .inl (cI, M, .inl (fun _ => 0)))]) [0, 1, 2, 3, 4, 5] rfl
  have hD := hD.sub (ws' := [(q 1, .inr (1, [.int (nI N), .ref (q 2), .ref (q 3), .ref (q 4), .ref (q 5), .ref (q 6), .int (nI E)])), (q 2, .inl (cI, M, .inl fr)), (q 3, .inl (cI, M, .inl to)), (q 4, .inl (cI, M, .inl cap)), (q 5, .inl (cI, M, .inl uc)), (q 6, .inl (cI, M, .inl (fun _ => 0)))]) [0, 1, 2, 3, 4, 5] (by decide) rfl
  have hP9 := hP.sub (ws' := [(q 1, .inr (1, [.int (nI N), .ref (q 2), .ref (q 3), .ref (q 4), .ref (q 5), .ref (q 6), .int (nI E)])), (q 2, .inl (cI, M, .inl fr)), (q 3, .inl (cI, M, .inl to)), (q 4, .inl (cI, M, .inl cap)), (q 5, .inl (cI, M, .inl uc)), (q 6, .inl (cI, M, .inl (fun _ => 0)))]) [0, 1, 2, 3, 4, 5] rfl
  have hD9 := hD.sub (ws' := [(q 1, .inr (1, [.int (nI N), .ref (q 2), .ref (q 3), .ref (q 4), .ref (q 5), .ref (q 6), .int (nI E)])), (q 2, .inl (cI, M, .inl fr)), (q 3, .inl (cI, M, .inl to)), (q 4, .inl (cI, M, .inl cap)), (q 5, .inl (cI, M, .inl uc)), (q 6, .inl (cI, M, .inl (fun _ => 0)))]) [0, 1, 2, 3, 4, 5] (by decide) rfl
  exact W.vret hx hb hr (fun t ht hW => ⟨⟨(), rfl, trivial, by rw [ht]; exact hP9, va_K.moved hW.alike hK, hD9⟩, hS.F ht⟩) hS.2.2 dX1_clearFlow_8

theorem fa_add_0 : ∀ w ∈ wsX10, w ∈ wsX1_add := by decide +kernel
theorem fa_add_1 : Cond.fieldLink RX1 29 "FlowProofs$Net" "edges" "I" ∈ wsX1_add := by decide +kernel
theorem fa_add_2 : Cond.fieldLink RX1 13 "FlowProofs$Net" "from" "[I" ∈ wsX1_add := by decide +kernel
theorem fa_add_3 : Cond.fieldLink RX1 17 "FlowProofs$Net" "to" "[I" ∈ wsX1_add := by decide +kernel
theorem fa_add_4 : Cond.fieldLink RX1 20 "FlowProofs$Net" "capacity" "[I" ∈ wsX1_add := by decide +kernel
theorem fa_add_5 : Cond.fieldLink RX1 23 "FlowProofs$Net" "unitCost" "[I" ∈ wsX1_add := by decide +kernel
set_option maxHeartbeats 4000000 in
set_option maxRecDepth 100000 in
theorem k_add (l : Launch) (dC : Nat → ClassId) (dI : Nat → Nat → Nat) (cI cJ cZ : ClassId) (q : Nat → Nat) (N M E : Nat) (fr to cap uc fl : Nat → Int32) (u v cp cs : Int32) (sz : Nat) (hE : E < M) (hM : M < 1000) : Met l yX1_add wsX1_add ({ frames := 0, cells := 0, slots := 0, locals := 0 }) (va_Pc [.ref (q 1), .int u, .int v, .int cp, .int cs] (fun U => U.heap.size = sz ∧ va_P (dC, dI) vwCl [(q 1, .inr (1, [.int (nI N), .ref (q 2), .ref (q 3), .ref (q 4), .ref (q 5), .ref (q 6), .int (nI E)])), (q 2, .inl (cI, M, .inl fr)), (q 3, .inl (cI, M, .inl to)), (q 4, .inl (cI, M, .inl cap)), (q 5, .inl (cI, M, .inl uc)), (q 6, .inl (cI, M, .inl fl))] U.heap ∧ va_K (dC, dI) vwCl [(cI, .int), (cJ, .long), (cZ, .boolean)] U ∧ va_D (fun _ => True) [(q 1, .inr (1, [.int (nI N), .ref (q 2), .ref (q 3), .ref (q 4), .ref (q 5), .ref (q 6), .int (nI E)])), (q 2, .inl (cI, M, .inl fr)), (q 3, .inl (cI, M, .inl to)), (q 4, .inl (cI, M, .inl cap)), (q 5, .inl (cI, M, .inl uc)), (q 6, .inl (cI, M, .inl fl))])) (va_Qi (fun (r : Int32) (u_ : Unit) => r = nI E) (fun (u_ : Unit) (t : State) => va_P (dC, dI) vwCl [(q 1, .inr (1, [.int (nI N), .ref (q 2), .ref (q 3), .ref (q 4), .ref (q 5), .ref (q 6), .int (nI (E + 1))])), (q 2, .inl (cI, M, .inl (upd fr E u))), (q 3, .inl (cI, M, .inl (upd to E v))), (q 4, .inl (cI, M, .inl (upd cap E cp))), (q 5, .inl (cI, M, .inl (upd uc E cs))), (q 6, .inl (cI, M, .inl fl))] t.heap ∧ va_K (dC, dI) vwCl [(cI, .int), (cJ, .long), (cZ, .boolean)] t ∧ va_D (va_A [(q 1, .inr (1, [.int (nI N), .ref (q 2), .ref (q 3), .ref (q 4), .ref (q 5), .ref (q 6), .int (nI E)])), (q 2, .inl (cI, M, .inl fr)), (q 3, .inl (cI, M, .inl to)), (q 4, .inl (cI, M, .inl cap)), (q 5, .inl (cI, M, .inl uc)), (q 6, .inl (cI, M, .inl fl))] sz) [(q 1, .inr (1, [.int (nI N), .ref (q 2), .ref (q 3), .ref (q 4), .ref (q 5), .ref (q 6), .int (nI (E + 1))])), (q 2, .inl (cI, M, .inl (upd fr E u))), (q 3, .inl (cI, M, .inl (upd to E v))), (q 4, .inl (cI, M, .inl (upd cap E cp))), (q 5, .inl (cI, M, .inl (upd uc E cs))), (q 6, .inl (cI, M, .inl fl))]) (va_A [(q 1, .inr (1, [.int (nI N), .ref (q 2), .ref (q 3), .ref (q 4), .ref (q 5), .ref (q 6), .int (nI E)])), (q 2, .inl (cI, M, .inl fr)), (q 3, .inl (cI, M, .inl to)), (q 4, .inl (cI, M, .inl cap)), (q 5, .inl (cI, M, .inl uc)), (q 6, .inl (cI, M, .inl fl))] sz)) 0 0 (va_A [(q 1, .inr (1, [.int (nI N), .ref (q 2), .ref (q 3), .ref (q 4), .ref (q 5), .ref (q 6), .int (nI E)])), (q 2, .inl (cI, M, .inl fr)), (q 3, .inl (cI, M, .inl to)), (q 4, .inl (cI, M, .inl cap)), (q 5, .inl (cI, M, .inl uc)), (q 6, .inl (cI, M, .inl fl))] sz) := by
  refine Met.ofW (cc := cX1_add) (maxL := 6) (ret := (some .int)) (by decide) rfl ?_
  intro p e s m args below meth c s₁ B hml hv
  obtain ⟨rfl, hsz, hP, hK, hD0⟩ := hv
  have hx := B.exec
  have hb := B.bytes
  have hr := B.returns
  have hts := atoms_spec (ws := wsX1_add) B.pre
  have hown : s.vm.findClass RX1 = some m.cls := findClass_of_methodNamed B.named
  have hlocks := B.notSynchronized
  subst hsz
  have hD := hD0.self (sz := s.heap.size)
  generalize hAe : va_A [(q 1, .inr (1, [.int (nI N), .ref (q 2), .ref (q 3), .ref (q 4), .ref (q 5), .ref (q 6), .int (nI E)])), (q 2, .inl (cI, M, .inl fr)), (q 3, .inl (cI, M, .inl to)), (q 4, .inl (cI, M, .inl cap)), (q 5, .inl (cI, M, .inl uc)), (q 6, .inl (cI, M, .inl fl))] s.heap.size = A at hD ⊢
  have hA : ∀ q : Nat, s.heap.size ≤ q → A q := fun q h => by rw [← hAe]; exact Or.inr h
  have hS : va_S A s.heap s.heap [] := va_S.rf
  have hP : va_P (dC, dI) vwCl [(q 1, .inr (1, [.int (nI N), .ref (q 2), .ref (q 3), .ref (q 4), .ref (q 5), .ref (q 6), .int (nI E)])), (q 2, .inl (cI, M, .inl fr)), (q 3, .inl (cI, M, .inl to)), (q 4, .inl (cI, M, .inl cap)), (q 5, .inl (cI, M, .inl uc)), (q 6, .inl (cI, M, .inl fl))] s.heap := hP
  have hl := lv_entry ([.ref (q 1), .int u, .int v, .int cp, .int cs]) (n := 6) (Nat.le_of_ble_eq_true rfl)
  rw [lg_entry_eq]
  generalize (lg_sl ([.ref (q 1), .int u, .int v, .int cp, .int cs]) ++ List.replicate (6 - (lg_sl ([.ref (q 1), .int u, .int v, .int cp, .int cs])).length) Slot.unset).toArray = ls at hl ⊢
  have hl : lv_has ls 6 [(0, .ref (q 1)), (1, .int u), (2, .int v), (3, .int cp), (4, .int cs)] := hl
  refine lv_aload_n hx hb dX1_add_0 rfl (lv_at hl 0 rfl) ?_
  refine va_get (D := (dC, dI)) (ci := 1) (v := .int (nI E)) (C := RX1) (T := TX1) (N := 7) hx hb hts fa_add_0 hown hK hP 0 rfl rfl 6 (by decide) (hts _ fa_add_1) (fun _ h9 => h9) rfl dX1_add_1 ?_
  refine lv_istore (lv' := [(5, .int (nI E)), (0, .ref (q 1)), (1, .int u), (2, .int v), (3, .int cp), (4, .int cs)]) hx hb dX1_add_4 hl (by decide) rfl (fun ls hl => ?_)
  refine lv_aload_n hx hb dX1_add_6 rfl (lv_at hl 1 rfl) ?_
  refine va_get (D := (dC, dI)) (ci := 1) (v := .ref (q 2)) (C := RX1) (T := TX1) (N := 7) hx hb hts fa_add_0 hown hK hP 0 rfl rfl 1 (by decide) (hts _ fa_add_2) (fun _ h9 => h9) rfl dX1_add_7 ?_
  refine lv_iload hx hb dX1_add_10 (lv_at hl 0 rfl) ?_
  refine lv_iload_n hx hb dX1_add_12 rfl (lv_at hl 2 rfl) ?_
  refine va_iast (D := (dC, dI)) hx hb hK hP hD hS 1 0 rfl rfl (by first | assumption | exact vp_in_nI (by omega) (by omega)) dX1_add_13 (fun H locs hP hD hS => ?_)
  have hP : va_P (dC, dI) vwCl [(q 1, .inr (1, [.int (nI N), .ref (q 2), .ref (q 3), .ref (q 4), .ref (q 5), .ref (q 6), .int (nI E)])), (q 2, .inl (cI, M, .inl (upd fr ((nI E).toNatClampNeg) u))), (q 3, .inl (cI, M, .inl to)), (q 4, .inl (cI, M, .inl cap)), (q 5, .inl (cI, M, .inl uc)), (q 6, .inl (cI, M, .inl fl))] H := hP
  have hD : va_D A [(q 1, .inr (1, [.int (nI N), .ref (q 2), .ref (q 3), .ref (q 4), .ref (q 5), .ref (q 6), .int (nI E)])), (q 2, .inl (cI, M, .inl (upd fr ((nI E).toNatClampNeg) u))), (q 3, .inl (cI, M, .inl to)), (q 4, .inl (cI, M, .inl cap)), (q 5, .inl (cI, M, .inl uc)), (q 6, .inl (cI, M, .inl fl))] := hD
  rw [nI_clamp (n := E) (by omega)] at hP hD
  have hP : va_P (dC, dI) vwCl [(q 1, .inr (1, [.int (nI N), .ref (q 2), .ref (q 3), .ref (q 4), .ref (q 5), .ref (q 6), .int (nI E)])), (q 2, .inl (cI, M, .inl (upd fr E u))), (q 3, .inl (cI, M, .inl to)), (q 4, .inl (cI, M, .inl cap)), (q 5, .inl (cI, M, .inl uc)), (q 6, .inl (cI, M, .inl fl))] H := hP
  have hD : va_D A [(q 1, .inr (1, [.int (nI N), .ref (q 2), .ref (q 3), .ref (q 4), .ref (q 5), .ref (q 6), .int (nI E)])), (q 2, .inl (cI, M, .inl (upd fr E u))), (q 3, .inl (cI, M, .inl to)), (q 4, .inl (cI, M, .inl cap)), (q 5, .inl (cI, M, .inl uc)), (q 6, .inl (cI, M, .inl fl))] := hD
  refine lv_aload_n hx hb dX1_add_14 rfl (lv_at hl 1 rfl) ?_
  refine va_get (D := (dC, dI)) (ci := 1) (v := .ref (q 3)) (C := RX1) (T := TX1) (N := 7) hx hb hts fa_add_0 hown hK hP 0 rfl rfl 2 (by decide) (hts _ fa_add_3) (fun _ h9 => h9) rfl dX1_add_15 ?_
  refine lv_iload hx hb dX1_add_18 (lv_at hl 0 rfl) ?_
  refine lv_iload_n hx hb dX1_add_20 rfl (lv_at hl 3 rfl) ?_
  refine va_iast (D := (dC, dI)) hx hb hK hP hD hS 2 0 rfl rfl (by first | assumption | exact vp_in_nI (by omega) (by omega)) dX1_add_21 (fun H locs hP hD hS => ?_)
  have hP : va_P (dC, dI) vwCl [(q 1, .inr (1, [.int (nI N), .ref (q 2), .ref (q 3), .ref (q 4), .ref (q 5), .ref (q 6), .int (nI E)])), (q 2, .inl (cI, M, .inl (upd fr E u))), (q 3, .inl (cI, M, .inl (upd to ((nI E).toNatClampNeg) v))), (q 4, .inl (cI, M, .inl cap)), (q 5, .inl (cI, M, .inl uc)), (q 6, .inl (cI, M, .inl fl))] H := hP
  have hD : va_D A [(q 1, .inr (1, [.int (nI N), .ref (q 2), .ref (q 3), .ref (q 4), .ref (q 5), .ref (q 6), .int (nI E)])), (q 2, .inl (cI, M, .inl (upd fr E u))), (q 3, .inl (cI, M, .inl (upd to ((nI E).toNatClampNeg) v))), (q 4, .inl (cI, M, .inl cap)), (q 5, .inl (cI, M, .inl uc)), (q 6, .inl (cI, M, .inl fl))] := hD
  rw [nI_clamp (n := E) (by omega)] at hP hD
  have hP : va_P (dC, dI) vwCl [(q 1, .inr (1, [.int (nI N), .ref (q 2), .ref (q 3), .ref (q 4), .ref (q 5), .ref (q 6), .int (nI E)])), (q 2, .inl (cI, M, .inl (upd fr E u))), (q 3, .inl (cI, M, .inl (upd to E v))), (q 4, .inl (cI, M, .inl cap)), (q 5, .inl (cI, M, .inl uc)), (q 6, .inl (cI, M, .inl fl))] H := hP
  have hD : va_D A [(q 1, .inr (1, [.int (nI N), .ref (q 2), .ref (q 3), .ref (q 4), .ref (q 5), .ref (q 6), .int (nI E)])), (q 2, .inl (cI, M, .inl (upd fr E u))), (q 3, .inl (cI, M, .inl (upd to E v))), (q 4, .inl (cI, M, .inl cap)), (q 5, .inl (cI, M, .inl uc)), (q 6, .inl (cI, M, .inl fl))] := hD
  refine lv_aload_n hx hb dX1_add_22 rfl (lv_at hl 1 rfl) ?_
  refine va_get (D := (dC, dI)) (ci := 1) (v := .ref (q 4)) (C := RX1) (T := TX1) (N := 7) hx hb hts fa_add_0 hown hK hP 0 rfl rfl 3 (by decide) (hts _ fa_add_4) (fun _ h9 => h9) rfl dX1_add_23 ?_
  refine lv_iload hx hb dX1_add_26 (lv_at hl 0 rfl) ?_
  refine lv_iload_n hx hb dX1_add_28 rfl (lv_at hl 4 rfl) ?_
  refine va_iast (D := (dC, dI)) hx hb hK hP hD hS 3 0 rfl rfl (by first | assumption | exact vp_in_nI (by omega) (by omega)) dX1_add_29 (fun H locs hP hD hS => ?_)
  have hP : va_P (dC, dI) vwCl [(q 1, .inr (1, [.int (nI N), .ref (q 2), .ref (q 3), .ref (q 4), .ref (q 5), .ref (q 6), .int (nI E)])), (q 2, .inl (cI, M, .inl (upd fr E u))), (q 3, .inl (cI, M, .inl (upd to E v))), (q 4, .inl (cI, M, .inl (upd cap ((nI E).toNatClampNeg) cp))), (q 5, .inl (cI, M, .inl uc)), (q 6, .inl (cI, M, .inl fl))] H := hP
  have hD : va_D A [(q 1, .inr (1, [.int (nI N), .ref (q 2), .ref (q 3), .ref (q 4), .ref (q 5), .ref (q 6), .int (nI E)])), (q 2, .inl (cI, M, .inl (upd fr E u))), (q 3, .inl (cI, M, .inl (upd to E v))), (q 4, .inl (cI, M, .inl (upd cap ((nI E).toNatClampNeg) cp))), (q 5, .inl (cI, M, .inl uc)), (q 6, .inl (cI, M, .inl fl))] := hD
  rw [nI_clamp (n := E) (by omega)] at hP hD
  have hP : va_P (dC, dI) vwCl [(q 1, .inr (1, [.int (nI N), .ref (q 2), .ref (q 3), .ref (q 4), .ref (q 5), .ref (q 6), .int (nI E)])), (q 2, .inl (cI, M, .inl (upd fr E u))), (q 3, .inl (cI, M, .inl (upd to E v))), (q 4, .inl (cI, M, .inl (upd cap E cp))), (q 5, .inl (cI, M, .inl uc)), (q 6, .inl (cI, M, .inl fl))] H := hP
  have hD : va_D A [(q 1, .inr (1, [.int (nI N), .ref (q 2), .ref (q 3), .ref (q 4), .ref (q 5), .ref (q 6), .int (nI E)])), (q 2, .inl (cI, M, .inl (upd fr E u))), (q 3, .inl (cI, M, .inl (upd to E v))), (q 4, .inl (cI, M, .inl (upd cap E cp))), (q 5, .inl (cI, M, .inl uc)), (q 6, .inl (cI, M, .inl fl))] := hD
  refine lv_aload_n hx hb dX1_add_30 rfl (lv_at hl 1 rfl) ?_
  refine va_get (D := (dC, dI)) (ci := 1) (v := .ref (q 5)) (C := RX1) (T := TX1) (N := 7) hx hb hts fa_add_0 hown hK hP 0 rfl rfl 4 (by decide) (hts _ fa_add_5) (fun _ h9 => h9) rfl dX1_add_31 ?_
  refine lv_iload hx hb dX1_add_34 (lv_at hl 0 rfl) ?_
  refine lv_iload hx hb dX1_add_36 (lv_at hl 5 rfl) ?_
  refine va_iast (D := (dC, dI)) hx hb hK hP hD hS 4 0 rfl rfl (by first | assumption | exact vp_in_nI (by omega) (by omega)) dX1_add_38 (fun H locs hP hD hS => ?_)
  have hP : va_P (dC, dI) vwCl [(q 1, .inr (1, [.int (nI N), .ref (q 2), .ref (q 3), .ref (q 4), .ref (q 5), .ref (q 6), .int (nI E)])), (q 2, .inl (cI, M, .inl (upd fr E u))), (q 3, .inl (cI, M, .inl (upd to E v))), (q 4, .inl (cI, M, .inl (upd cap E cp))), (q 5, .inl (cI, M, .inl (upd uc ((nI E).toNatClampNeg) cs))), (q 6, .inl (cI, M, .inl fl))] H := hP
  have hD : va_D A [(q 1, .inr (1, [.int (nI N), .ref (q 2), .ref (q 3), .ref (q 4), .ref (q 5), .ref (q 6), .int (nI E)])), (q 2, .inl (cI, M, .inl (upd fr E u))), (q 3, .inl (cI, M, .inl (upd to E v))), (q 4, .inl (cI, M, .inl (upd cap E cp))), (q 5, .inl (cI, M, .inl (upd uc ((nI E).toNatClampNeg) cs))), (q 6, .inl (cI, M, .inl fl))] := hD
  rw [nI_clamp (n := E) (by omega)] at hP hD
  have hP : va_P (dC, dI) vwCl [(q 1, .inr (1, [.int (nI N), .ref (q 2), .ref (q 3), .ref (q 4), .ref (q 5), .ref (q 6), .int (nI E)])), (q 2, .inl (cI, M, .inl (upd fr E u))), (q 3, .inl (cI, M, .inl (upd to E v))), (q 4, .inl (cI, M, .inl (upd cap E cp))), (q 5, .inl (cI, M, .inl (upd uc E cs))), (q 6, .inl (cI, M, .inl fl))] H := hP
  have hD : va_D A [(q 1, .inr (1, [.int (nI N), .ref (q 2), .ref (q 3), .ref (q 4), .ref (q 5), .ref (q 6), .int (nI E)])), (q 2, .inl (cI, M, .inl (upd fr E u))), (q 3, .inl (cI, M, .inl (upd to E v))), (q 4, .inl (cI, M, .inl (upd cap E cp))), (q 5, .inl (cI, M, .inl (upd uc E cs))), (q 6, .inl (cI, M, .inl fl))] := hD
  refine lv_aload_n hx hb dX1_add_39 rfl (lv_at hl 1 rfl) ?_
  refine lv_dup hx hb dX1_add_40 rfl ?_
  refine va_get (D := (dC, dI)) (ci := 1) (v := .int (nI E)) (C := RX1) (T := TX1) (N := 7) hx hb hts fa_add_0 hown hK hP 0 rfl rfl 6 (by decide) (hts _ fa_add_1) (fun _ h9 => h9) rfl dX1_add_41 ?_
  refine lv_iconst (v := 1) hx hb dX1_add_44 (by decide) ?_
  refine lv_iadd hx hb dX1_add_45 ?_
  refine tp_i (y := nI (E + 1)) (nI_1 E) ?_
  refine va_put (D := (dC, dI)) (ci := 1) (v := .int (nI (E + 1))) (ty := .int) (C := RX1) (T := TX1) (N := 7) hx hb hts fa_add_0 tyX1 tyX1_ok nmX1 hown hK hP hD hS 0 rfl rfl 6 (by decide) (hts _ fa_add_1) (fun _ h9 => h9) rfl (by decide +kernel) rfl rfl (Nat.le_of_ble_eq_true rfl) dX1_add_46 (fun H locs hP hD hS => ?_)
  have hP : va_P (dC, dI) vwCl [(q 1, .inr (1, [.int (nI N), .ref (q 2), .ref (q 3), .ref (q 4), .ref (q 5), .ref (q 6), .int (nI (E + 1))])), (q 2, .inl (cI, M, .inl (upd fr E u))), (q 3, .inl (cI, M, .inl (upd to E v))), (q 4, .inl (cI, M, .inl (upd cap E cp))), (q 5, .inl (cI, M, .inl (upd uc E cs))), (q 6, .inl (cI, M, .inl fl))] H := hP
  have hD : va_D A [(q 1, .inr (1, [.int (nI N), .ref (q 2), .ref (q 3), .ref (q 4), .ref (q 5), .ref (q 6), .int (nI (E + 1))])), (q 2, .inl (cI, M, .inl (upd fr E u))), (q 3, .inl (cI, M, .inl (upd to E v))), (q 4, .inl (cI, M, .inl (upd cap E cp))), (q 5, .inl (cI, M, .inl (upd uc E cs))), (q 6, .inl (cI, M, .inl fl))] := hD
  refine lv_iload hx hb dX1_add_49 (lv_at hl 0 rfl) ?_
  have hP9 := hP.sub (ws' := [(q 1, .inr (1, [.int (nI N), .ref (q 2), .ref (q 3), .ref (q 4), .ref (q 5), .ref (q 6), .int (nI (E + 1))])), (q 2, .inl (cI, M, .inl (upd fr E u))), (q 3, .inl (cI, M, .inl (upd to E v))), (q 4, .inl (cI, M, .inl (upd cap E cp))), (q 5, .inl (cI, M, .inl (upd uc E cs))), (q 6, .inl (cI, M, .inl fl))]) [0, 1, 2, 3, 4, 5] rfl
  have hD9 := hD.sub (ws' := [(q 1, .inr (1, [.int (nI N), .ref (q 2), .ref (q 3), .ref (q 4), .ref (q 5), .ref (q 6), .int (nI (E + 1))])), (q 2, .inl (cI, M, .inl (upd fr E u))), (q 3, .inl (cI, M, .inl (upd to E v))), (q 4, .inl (cI, M, .inl (upd cap E cp))), (q 5, .inl (cI, M, .inl (upd uc E cs))), (q 6, .inl (cI, M, .inl fl))]) [0, 1, 2, 3, 4, 5] (by decide) rfl
  exact W.iret (v := (nI E)) hx hb hr (fun t ht hW => ⟨⟨(nI E), (), rfl, rfl, by rw [ht]; exact hP9, va_K.moved hW.alike hK, hD9⟩, hS.F ht⟩) hS.2.2 dX1_add_51

theorem fa_send_0 : ∀ w ∈ wsX10, w ∈ wsX1_send := by decide +kernel
theorem fa_send_1 : Cond.fieldLink RX1 26 "FlowProofs$Net" "flow" "[I" ∈ wsX1_send := by decide +kernel
set_option maxHeartbeats 4000000 in
set_option maxRecDepth 100000 in
theorem k_send (l : Launch) (dC : Nat → ClassId) (dI : Nat → Nat → Nat) (cI cJ cZ : ClassId) (q : Nat → Nat) (N M E : Nat) (fr to cap uc fl : Nat → Int32) (a : Nat) (x : Int32) (sz : Nat) (ha : a / 2 < M) (hM : M < 1000) : Met l yX1_send wsX1_send ({ frames := 1, cells := 0, slots := 0, locals := 20 }) (va_Pc [.ref (q 1), .int (nI a), .int x] (fun U => U.heap.size = sz ∧ va_P (dC, dI) vwCl [(q 1, .inr (1, [.int (nI N), .ref (q 2), .ref (q 3), .ref (q 4), .ref (q 5), .ref (q 6), .int (nI E)])), (q 2, .inl (cI, M, .inl fr)), (q 3, .inl (cI, M, .inl to)), (q 4, .inl (cI, M, .inl cap)), (q 5, .inl (cI, M, .inl uc)), (q 6, .inl (cI, M, .inl fl))] U.heap ∧ va_K (dC, dI) vwCl [(cI, .int), (cJ, .long), (cZ, .boolean)] U ∧ va_D (fun _ => True) [(q 1, .inr (1, [.int (nI N), .ref (q 2), .ref (q 3), .ref (q 4), .ref (q 5), .ref (q 6), .int (nI E)])), (q 2, .inl (cI, M, .inl fr)), (q 3, .inl (cI, M, .inl to)), (q 4, .inl (cI, M, .inl cap)), (q 5, .inl (cI, M, .inl uc)), (q 6, .inl (cI, M, .inl fl))])) (va_Qv (fun (u_ : Unit) => True) (fun (u_ : Unit) (t : State) => va_P (dC, dI) vwCl [(q 1, .inr (1, [.int (nI N), .ref (q 2), .ref (q 3), .ref (q 4), .ref (q 5), .ref (q 6), .int (nI E)])), (q 2, .inl (cI, M, .inl fr)), (q 3, .inl (cI, M, .inl to)), (q 4, .inl (cI, M, .inl cap)), (q 5, .inl (cI, M, .inl uc)), (q 6, .inl (cI, M, .inl (fp_send fl a x)))] t.heap ∧ va_K (dC, dI) vwCl [(cI, .int), (cJ, .long), (cZ, .boolean)] t ∧ va_D (va_A [(q 1, .inr (1, [.int (nI N), .ref (q 2), .ref (q 3), .ref (q 4), .ref (q 5), .ref (q 6), .int (nI E)])), (q 2, .inl (cI, M, .inl fr)), (q 3, .inl (cI, M, .inl to)), (q 4, .inl (cI, M, .inl cap)), (q 5, .inl (cI, M, .inl uc)), (q 6, .inl (cI, M, .inl fl))] sz) [(q 1, .inr (1, [.int (nI N), .ref (q 2), .ref (q 3), .ref (q 4), .ref (q 5), .ref (q 6), .int (nI E)])), (q 2, .inl (cI, M, .inl fr)), (q 3, .inl (cI, M, .inl to)), (q 4, .inl (cI, M, .inl cap)), (q 5, .inl (cI, M, .inl uc)), (q 6, .inl (cI, M, .inl (fp_send fl a x)))]) (va_A [(q 1, .inr (1, [.int (nI N), .ref (q 2), .ref (q 3), .ref (q 4), .ref (q 5), .ref (q 6), .int (nI E)])), (q 2, .inl (cI, M, .inl fr)), (q 3, .inl (cI, M, .inl to)), (q 4, .inl (cI, M, .inl cap)), (q 5, .inl (cI, M, .inl uc)), (q 6, .inl (cI, M, .inl fl))] sz)) 0 0 (va_A [(q 1, .inr (1, [.int (nI N), .ref (q 2), .ref (q 3), .ref (q 4), .ref (q 5), .ref (q 6), .int (nI E)])), (q 2, .inl (cI, M, .inl fr)), (q 3, .inl (cI, M, .inl to)), (q 4, .inl (cI, M, .inl cap)), (q 5, .inl (cI, M, .inl uc)), (q 6, .inl (cI, M, .inl fl))] sz) := by
  refine Met.ofW (cc := cX1_send) (maxL := 3) (ret := none) (by decide) rfl ?_
  intro p e s m args below meth c s₁ B hml hv
  obtain ⟨rfl, hsz, hP, hK, hD0⟩ := hv
  have hx := B.exec
  have hb := B.bytes
  have hr := B.returns
  have hts := atoms_spec (ws := wsX1_send) B.pre
  have hown : s.vm.findClass RX1 = some m.cls := findClass_of_methodNamed B.named
  have hlocks := B.notSynchronized
  subst hsz
  have hD := hD0.self (sz := s.heap.size)
  generalize hAe : va_A [(q 1, .inr (1, [.int (nI N), .ref (q 2), .ref (q 3), .ref (q 4), .ref (q 5), .ref (q 6), .int (nI E)])), (q 2, .inl (cI, M, .inl fr)), (q 3, .inl (cI, M, .inl to)), (q 4, .inl (cI, M, .inl cap)), (q 5, .inl (cI, M, .inl uc)), (q 6, .inl (cI, M, .inl fl))] s.heap.size = A at hD ⊢
  have hA : ∀ q : Nat, s.heap.size ≤ q → A q := fun q h => by rw [← hAe]; exact Or.inr h
  have hS : va_S A s.heap s.heap [] := va_S.rf
  have hP : va_P (dC, dI) vwCl [(q 1, .inr (1, [.int (nI N), .ref (q 2), .ref (q 3), .ref (q 4), .ref (q 5), .ref (q 6), .int (nI E)])), (q 2, .inl (cI, M, .inl fr)), (q 3, .inl (cI, M, .inl to)), (q 4, .inl (cI, M, .inl cap)), (q 5, .inl (cI, M, .inl uc)), (q 6, .inl (cI, M, .inl fl))] s.heap := hP
  have hl := lv_entry ([.ref (q 1), .int (nI a), .int x]) (n := 3) (Nat.le_of_ble_eq_true rfl)
  rw [lg_entry_eq]
  generalize (lg_sl ([.ref (q 1), .int (nI a), .int x]) ++ List.replicate (3 - (lg_sl ([.ref (q 1), .int (nI a), .int x])).length) Slot.unset).toArray = ls at hl ⊢
  have hl : lv_has ls 3 [(0, .ref (q 1)), (1, .int (nI a)), (2, .int x)] := hl
  refine lv_aload_n hx hb dX1_send_0 rfl (lv_at hl 0 rfl) ?_
  refine va_get (D := (dC, dI)) (ci := 1) (v := .ref (q 6)) (C := RX1) (T := TX1) (N := 7) hx hb hts fa_send_0 hown hK hP 0 rfl rfl 5 (by decide) (hts _ fa_send_1) (fun _ h9 => h9) rfl dX1_send_1 ?_
  refine lv_iload_n hx hb dX1_send_4 rfl (lv_at hl 1 rfl) ?_
  refine lv_iconst (v := 1) hx hb dX1_send_5 (by decide) ?_
  refine lv_ishr hx hb dX1_send_6 ?_
  refine tp_i (y := nI (a / 2)) (sh1 (by omega)) ?_
  refine lv_dup2_11 hx hb dX1_send_7 rfl rfl ?_
  refine va_iald (D := (dC, dI)) hx hb hK hP 5 0 rfl rfl (by first | assumption | exact vp_in_nI (by omega) (by omega)) dX1_send_8 ?_
  refine tp_i (y := fl (a / 2)) (by rw [nI_clamp (n := a / 2) (by omega)]) ?_
  refine lv_iload_n hx hb dX1_send_9 rfl (lv_at hl 1 rfl) ?_
  have hPc := hP.sub (ws' := []) [] rfl
  refine vp_callSi (W.runS (As := [.int (nI a)]) (rest := [.int (fl (a / 2)), .int (nI (a / 2)), .ref (q 6)]) ⟨hx, hb, hml, hown, hts⟩ (k_isBack l dC dI cI cJ cZ a (by omega)) (va_cwS 1 hts gX1_send_X1_isBack rfl rfl rfl (by decide +kernel) ⟨Nat.le_of_ble_eq_true rfl, Nat.le_of_ble_eq_true rfl⟩) ⟨fun a U g mk q => by obtain ⟨q0, qP, qK⟩ := q; exact ⟨q0, qP, va_K.moved (u := U) (U := U.calling g mk a) (Vm.Alike.refl U.vm) qK⟩, fun U hU hW => ⟨rfl, by rw [hU]; exact hPc, va_K.moved hW.alike hK⟩⟩ rfl rfl hl.1 rfl (lv_room (Nat.le_of_ble_eq_true rfl)) dX1_send_10 ⟨Nat.le_of_ble_eq_true rfl, Nat.le_of_ble_eq_true rfl⟩) (fun r_10 hw_10 => ?_)
  subst hw_10
  refine lv_if_eq (tgt := 21) hx hb dX1_send_13 (by decide) (fun c_13 => ?_) (fun c_13 => ?_)
  · refine lv_iload_n hx hb dX1_send_21 rfl (lv_at hl 2 rfl) ?_
    refine lv_iadd hx hb dX1_send_22 ?_
    refine va_iast (D := (dC, dI)) hx hb hK hP hD hS 5 0 rfl rfl (by first | assumption | exact vp_in_nI (by omega) (by omega)) dX1_send_23 (fun H locs hP hD hS => ?_)
    have hP : va_P (dC, dI) vwCl [(q 1, .inr (1, [.int (nI N), .ref (q 2), .ref (q 3), .ref (q 4), .ref (q 5), .ref (q 6), .int (nI E)])), (q 2, .inl (cI, M, .inl fr)), (q 3, .inl (cI, M, .inl to)), (q 4, .inl (cI, M, .inl cap)), (q 5, .inl (cI, M, .inl uc)), (q 6, .inl (cI, M, .inl (upd fl ((nI (a / 2)).toNatClampNeg) ((fl (a / 2)) + x))))] H := hP
    have hD : va_D A [(q 1, .inr (1, [.int (nI N), .ref (q 2), .ref (q 3), .ref (q 4), .ref (q 5), .ref (q 6), .int (nI E)])), (q 2, .inl (cI, M, .inl fr)), (q 3, .inl (cI, M, .inl to)), (q 4, .inl (cI, M, .inl cap)), (q 5, .inl (cI, M, .inl uc)), (q 6, .inl (cI, M, .inl (upd fl ((nI (a / 2)).toNatClampNeg) ((fl (a / 2)) + x))))] := hD
    rw [nI_clamp (n := a / 2) (by omega)] at hP hD
    have hP : va_P (dC, dI) vwCl [(q 1, .inr (1, [.int (nI N), .ref (q 2), .ref (q 3), .ref (q 4), .ref (q 5), .ref (q 6), .int (nI E)])), (q 2, .inl (cI, M, .inl fr)), (q 3, .inl (cI, M, .inl to)), (q 4, .inl (cI, M, .inl cap)), (q 5, .inl (cI, M, .inl uc)), (q 6, .inl (cI, M, .inl (upd fl (a / 2) ((fl (a / 2)) + x))))] H := hP
    have hD : va_D A [(q 1, .inr (1, [.int (nI N), .ref (q 2), .ref (q 3), .ref (q 4), .ref (q 5), .ref (q 6), .int (nI E)])), (q 2, .inl (cI, M, .inl fr)), (q 3, .inl (cI, M, .inl to)), (q 4, .inl (cI, M, .inl cap)), (q 5, .inl (cI, M, .inl uc)), (q 6, .inl (cI, M, .inl (upd fl (a / 2) ((fl (a / 2)) + x))))] := hD
    rw [fp_send_0 ((isb0 a).mp c_13)] at hP hD
    have hP9 := hP.sub (ws' := [(q 1, .inr (1, [.int (nI N), .ref (q 2), .ref (q 3), .ref (q 4), .ref (q 5), .ref (q 6), .int (nI E)])), (q 2, .inl (cI, M, .inl fr)), (q 3, .inl (cI, M, .inl to)), (q 4, .inl (cI, M, .inl cap)), (q 5, .inl (cI, M, .inl uc)), (q 6, .inl (cI, M, .inl (fp_send fl a x)))]) [0, 1, 2, 3, 4, 5] rfl
    have hD9 := hD.sub (ws' := [(q 1, .inr (1, [.int (nI N), .ref (q 2), .ref (q 3), .ref (q 4), .ref (q 5), .ref (q 6), .int (nI E)])), (q 2, .inl (cI, M, .inl fr)), (q 3, .inl (cI, M, .inl to)), (q 4, .inl (cI, M, .inl cap)), (q 5, .inl (cI, M, .inl uc)), (q 6, .inl (cI, M, .inl (fp_send fl a x)))]) [0, 1, 2, 3, 4, 5] (by decide) rfl
    exact W.vret hx hb hr (fun t ht hW => ⟨⟨(), rfl, trivial, by rw [ht]; exact hP9, va_K.moved hW.alike hK, hD9⟩, hS.F ht⟩) hS.2.2 dX1_send_24
  · refine lv_iload_n hx hb dX1_send_16 rfl (lv_at hl 2 rfl) ?_
    refine lv_ineg hx hb dX1_send_17 ?_
    refine lv_goto (tgt := 22) hx hb dX1_send_18 (by decide) ?_
    refine lv_iadd hx hb dX1_send_22 ?_
    refine va_iast (D := (dC, dI)) hx hb hK hP hD hS 5 0 rfl rfl (by first | assumption | exact vp_in_nI (by omega) (by omega)) dX1_send_23 (fun H locs hP hD hS => ?_)
    have hP : va_P (dC, dI) vwCl [(q 1, .inr (1, [.int (nI N), .ref (q 2), .ref (q 3), .ref (q 4), .ref (q 5), .ref (q 6), .int (nI E)])), (q 2, .inl (cI, M, .inl fr)), (q 3, .inl (cI, M, .inl to)), (q 4, .inl (cI, M, .inl cap)), (q 5, .inl (cI, M, .inl uc)), (q 6, .inl (cI, M, .inl (upd fl ((nI (a / 2)).toNatClampNeg) ((fl (a / 2)) + (-x)))))] H := hP
    have hD : va_D A [(q 1, .inr (1, [.int (nI N), .ref (q 2), .ref (q 3), .ref (q 4), .ref (q 5), .ref (q 6), .int (nI E)])), (q 2, .inl (cI, M, .inl fr)), (q 3, .inl (cI, M, .inl to)), (q 4, .inl (cI, M, .inl cap)), (q 5, .inl (cI, M, .inl uc)), (q 6, .inl (cI, M, .inl (upd fl ((nI (a / 2)).toNatClampNeg) ((fl (a / 2)) + (-x)))))] := hD
    rw [nI_clamp (n := a / 2) (by omega)] at hP hD
    have hP : va_P (dC, dI) vwCl [(q 1, .inr (1, [.int (nI N), .ref (q 2), .ref (q 3), .ref (q 4), .ref (q 5), .ref (q 6), .int (nI E)])), (q 2, .inl (cI, M, .inl fr)), (q 3, .inl (cI, M, .inl to)), (q 4, .inl (cI, M, .inl cap)), (q 5, .inl (cI, M, .inl uc)), (q 6, .inl (cI, M, .inl (upd fl (a / 2) ((fl (a / 2)) + (-x)))))] H := hP
    have hD : va_D A [(q 1, .inr (1, [.int (nI N), .ref (q 2), .ref (q 3), .ref (q 4), .ref (q 5), .ref (q 6), .int (nI E)])), (q 2, .inl (cI, M, .inl fr)), (q 3, .inl (cI, M, .inl to)), (q 4, .inl (cI, M, .inl cap)), (q 5, .inl (cI, M, .inl uc)), (q 6, .inl (cI, M, .inl (upd fl (a / 2) ((fl (a / 2)) + (-x)))))] := hD
    rw [fp_send_1 (fun h => c_13 ((isb0 a).mpr h))] at hP hD
    have hP9 := hP.sub (ws' := [(q 1, .inr (1, [.int (nI N), .ref (q 2), .ref (q 3), .ref (q 4), .ref (q 5), .ref (q 6), .int (nI E)])), (q 2, .inl (cI, M, .inl fr)), (q 3, .inl (cI, M, .inl to)), (q 4, .inl (cI, M, .inl cap)), (q 5, .inl (cI, M, .inl uc)), (q 6, .inl (cI, M, .inl (fp_send fl a x)))]) [0, 1, 2, 3, 4, 5] rfl
    have hD9 := hD.sub (ws' := [(q 1, .inr (1, [.int (nI N), .ref (q 2), .ref (q 3), .ref (q 4), .ref (q 5), .ref (q 6), .int (nI E)])), (q 2, .inl (cI, M, .inl fr)), (q 3, .inl (cI, M, .inl to)), (q 4, .inl (cI, M, .inl cap)), (q 5, .inl (cI, M, .inl uc)), (q 6, .inl (cI, M, .inl (fp_send fl a x)))]) [0, 1, 2, 3, 4, 5] (by decide) rfl
    exact W.vret hx hb hr (fun t ht hW => ⟨⟨(), rfl, trivial, by rw [ht]; exact hP9, va_K.moved hW.alike hK, hD9⟩, hS.F ht⟩) hS.2.2 dX1_send_24
end
section
theorem bg_in {fr to : Nat → Int32} {N E : Nat} (hfr : ∀ e, e < E → vp_in (fr e) N) (hto : ∀ e, e < E → vp_in (to e) N) {a : Nat} (ha : a < 2 * E) : vp_in (fp_bg fr to a) N := by
  unfold fp_bg; split
  · exact hfr _ (by omega)
  · exact hto _ (by omega)
theorem en_in {fr to : Nat → Int32} {N E : Nat} (hfr : ∀ e, e < E → vp_in (fr e) N) (hto : ∀ e, e < E → vp_in (to e) N) {a : Nat} (ha : a < 2 * E) : vp_in (fp_en fr to a) N := by
  unfold fp_en; split
  · exact hto _ (by omega)
  · exact hfr _ (by omega)
/-- no shortening: a label stays -/
def fp_no (le fe : Nat → Int32) (x : Nat) (y z : Int32) : Bool := decide (le x < y) || (decide (y = le x) && !decide (z < fe x))
def fp_sle (le fe : Nat → Int32) (x : Nat) (y z : Int32) : Nat → Int32 := if fp_no le fe x y z = true then le else upd le x y
def fp_sfe (le fe : Nat → Int32) (x : Nat) (y z : Int32) : Nat → Int32 := if fp_no le fe x y z = true then fe else upd fe x z
def fp_sch (le fe : Nat → Int32) (x : Nat) (y z : Int32) : Int32 := if fp_no le fe x y z = true then 0 else 1
theorem sle_t {le fe : Nat → Int32} {x : Nat} {y z : Int32} (h : fp_no le fe x y z = true) : fp_sle le fe x y z = le := by simp [fp_sle, h]
theorem sfe_t {le fe : Nat → Int32} {x : Nat} {y z : Int32} (h : fp_no le fe x y z = true) : fp_sfe le fe x y z = fe := by simp [fp_sfe, h]
theorem sch_t {le fe : Nat → Int32} {x : Nat} {y z : Int32} (h : fp_no le fe x y z = true) : fp_sch le fe x y z = 0 := by simp [fp_sch, h]
theorem sle_f {le fe : Nat → Int32} {x : Nat} {y z : Int32} (h : fp_no le fe x y z = false) : fp_sle le fe x y z = upd le x y := by simp [fp_sle, h]
theorem sfe_f {le fe : Nat → Int32} {x : Nat} {y z : Int32} (h : fp_no le fe x y z = false) : fp_sfe le fe x y z = upd fe x z := by simp [fp_sfe, h]
theorem sch_f {le fe : Nat → Int32} {x : Nat} {y z : Int32} (h : fp_no le fe x y z = false) : fp_sch le fe x y z = 1 := by simp [fp_sch, h]
theorem no_1 {le fe : Nat → Int32} {x : Nat} {y z : Int32} (h : le x < y) : fp_no le fe x y z = true := by simp [fp_no, h]
theorem no_2 {le fe : Nat → Int32} {x : Nat} {y z : Int32} (h2 : y = le x) (h3 : ¬ z < fe x) : fp_no le fe x y z = true := by simp [fp_no, h2, h3]
theorem no_3 {le fe : Nat → Int32} {x : Nat} {y z : Int32} (h1 : ¬ le x < y) (h2 : ¬ y = le x) : fp_no le fe x y z = false := by simp [fp_no, h1, h2]
theorem no_4 {le fe : Nat → Int32} {x : Nat} {y z : Int32} (h1 : ¬ le x < y) (h3 : z < fe x) : fp_no le fe x y z = false := by simp [fp_no, h1, h3]
def fp_nr (bw : Bool) (fr to : Nat → Int32) (a : Nat) : Int32 := match bw with
  | true => fp_en fr to a
  | false => fp_bg fr to a
/-- one arc of a pass -/
def fp_rx (bw : Bool) (fr to cap uc fl : Nat → Int32) (a : Nat) (st : (Nat → Int32) × (Nat → Int32) × Int32) : (Nat → Int32) × (Nat → Int32) × Int32 :=
  if ¬ 0 < fp_lf cap fl a then st else if st.1 (fp_nr bw fr to a).toNatClampNeg = 2147483647 then st else
  (fp_sle st.1 st.2.1 (fp_nr (!bw) fr to a).toNatClampNeg (st.1 (fp_nr bw fr to a).toNatClampNeg + fp_pr uc a) (st.2.1 (fp_nr bw fr to a).toNatClampNeg + 1),
   fp_sfe st.1 st.2.1 (fp_nr (!bw) fr to a).toNatClampNeg (st.1 (fp_nr bw fr to a).toNatClampNeg + fp_pr uc a) (st.2.1 (fp_nr bw fr to a).toNatClampNeg + 1),
   if fp_sch st.1 st.2.1 (fp_nr (!bw) fr to a).toNatClampNeg (st.1 (fp_nr bw fr to a).toNatClampNeg + fp_pr uc a) (st.2.1 (fp_nr bw fr to a).toNatClampNeg + 1) = 0 then st.2.2 else 1)
def fp_ps (bw : Bool) (fr to cap uc fl le fe : Nat → Int32) : Nat → (Nat → Int32) × (Nat → Int32) × Int32
  | 0 => (le, fe, 0)
  | a + 1 => fp_rx bw fr to cap uc fl a (fp_ps bw fr to cap uc fl le fe a)
theorem rx_a {bw : Bool} {fr to cap uc fl : Nat → Int32} {a : Nat} {st : (Nat → Int32) × (Nat → Int32) × Int32} (h : ¬ 0 < fp_lf cap fl a) : fp_rx bw fr to cap uc fl a st = st := by unfold fp_rx; rw [if_pos h]
theorem rx_b {bw : Bool} {fr to cap uc fl : Nat → Int32} {a : Nat} {g h : Nat → Int32} {ch : Int32} (h1 : 0 < fp_lf cap fl a) (h2 : g (fp_nr bw fr to a).toNatClampNeg = 2147483647) : fp_rx bw fr to cap uc fl a (g, h, ch) = (g, h, ch) := by unfold fp_rx; rw [if_neg (fun q => q h1), if_pos h2]
theorem rx_c0 {bw : Bool} {fr to cap uc fl : Nat → Int32} {a : Nat} {g h : Nat → Int32} {ch : Int32} (h1 : 0 < fp_lf cap fl a) (h2 : ¬ g (fp_nr bw fr to a).toNatClampNeg = 2147483647)
    (h3 : fp_sch g h (fp_nr (!bw) fr to a).toNatClampNeg (g (fp_nr bw fr to a).toNatClampNeg + fp_pr uc a) (h (fp_nr bw fr to a).toNatClampNeg + 1) = 0) :
    fp_rx bw fr to cap uc fl a (g, h, ch) = (fp_sle g h (fp_nr (!bw) fr to a).toNatClampNeg (g (fp_nr bw fr to a).toNatClampNeg + fp_pr uc a) (h (fp_nr bw fr to a).toNatClampNeg + 1), fp_sfe g h (fp_nr (!bw) fr to a).toNatClampNeg (g (fp_nr bw fr to a).toNatClampNeg + fp_pr uc a) (h (fp_nr bw fr to a).toNatClampNeg + 1), ch) := by
  unfold fp_rx; rw [if_neg (fun q => q h1), if_neg h2]; dsimp only; rw [if_pos h3]
theorem rx_c1 {bw : Bool} {fr to cap uc fl : Nat → Int32} {a : Nat} {g h : Nat → Int32} {ch : Int32} (h1 : 0 < fp_lf cap fl a) (h2 : ¬ g (fp_nr bw fr to a).toNatClampNeg = 2147483647)
    (h3 : ¬ fp_sch g h (fp_nr (!bw) fr to a).toNatClampNeg (g (fp_nr bw fr to a).toNatClampNeg + fp_pr uc a) (h (fp_nr bw fr to a).toNatClampNeg + 1) = 0) :
    fp_rx bw fr to cap uc fl a (g, h, ch) = (fp_sle g h (fp_nr (!bw) fr to a).toNatClampNeg (g (fp_nr bw fr to a).toNatClampNeg + fp_pr uc a) (h (fp_nr bw fr to a).toNatClampNeg + 1), fp_sfe g h (fp_nr (!bw) fr to a).toNatClampNeg (g (fp_nr bw fr to a).toNatClampNeg + fp_pr uc a) (h (fp_nr bw fr to a).toNatClampNeg + 1), 1) := by
  unfold fp_rx; rw [if_neg (fun q => q h1), if_neg h2]; dsimp only; rw [if_neg h3]
theorem rch0 {x : Int32} (h : (if x = 2147483647 then (0 : Int32) else 1) = 0) : x = 2147483647 := by
  by_cases q : x = 2147483647
  · exact q
  · rw [if_neg q] at h; exact absurd h (by decide)
theorem rch1 {x : Int32} (h : ¬ (if x = 2147483647 then (0 : Int32) else 1) = 0) : ¬ x = 2147483647 := fun q => h (by rw [if_pos q])
theorem nb01 {v : Int32} (h : v = 0 ∨ v = 1) : narrow .boolean (.int v) = .int v := by rcases h with rfl | rfl <;> rfl
theorem fp_ps_ch (bw : Bool) (fr to cap uc fl le fe : Nat → Int32) : ∀ n, (fp_ps bw fr to cap uc fl le fe n).2.2 = 0 ∨ (fp_ps bw fr to cap uc fl le fe n).2.2 = 1
  | 0 => Or.inl rfl
  | n + 1 => by
    have ih := fp_ps_ch bw fr to cap uc fl le fe n
    unfold fp_ps fp_rx
    split
    · exact ih
    · split
      · exact ih
      · dsimp only
        split
        · exact ih
        · exact Or.inr rfl
/-- settle: at most n passes, until one changes nothing -/
def fp_se (bw : Bool) (fr to cap uc fl : Nat → Int32) (A : Nat) : Nat → (Nat → Int32) → (Nat → Int32) → (Nat → Int32) × (Nat → Int32) × Int32
  | 0, le, fe => (le, fe, 0)
  | n + 1, le, fe => if (fp_ps bw fr to cap uc fl le fe A).2.2 = 0 then ((fp_ps bw fr to cap uc fl le fe A).1, (fp_ps bw fr to cap uc fl le fe A).2.1, 1) else fp_se bw fr to cap uc fl A n (fp_ps bw fr to cap uc fl le fe A).1 (fp_ps bw fr to cap uc fl le fe A).2.1
theorem fp_se_ch (bw : Bool) (fr to cap uc fl : Nat → Int32) (A : Nat) : ∀ n le fe, (fp_se bw fr to cap uc fl A n le fe).2.2 = 0 ∨ (fp_se bw fr to cap uc fl A n le fe).2.2 = 1
  | 0, _, _ => Or.inl rfl
  | n + 1, le, fe => by
    unfold fp_se
    split
    · exact Or.inr rfl
    · exact fp_se_ch bw fr to cap uc fl A n _ _
theorem se_t {bw : Bool} {fr to cap uc fl le fe : Nat → Int32} {A N i : Nat} (h : i < N) (c : (fp_ps bw fr to cap uc fl le fe A).2.2 = 0) : fp_se bw fr to cap uc fl A (N - i) le fe = ((fp_ps bw fr to cap uc fl le fe A).1, (fp_ps bw fr to cap uc fl le fe A).2.1, 1) := by
  rw [show N - i = (N - (i + 1)) + 1 by omega]
  unfold fp_se
  rw [if_pos c]
theorem se_f {bw : Bool} {fr to cap uc fl le fe : Nat → Int32} {A N i : Nat} (h : i < N) (c : ¬ (fp_ps bw fr to cap uc fl le fe A).2.2 = 0) : fp_se bw fr to cap uc fl A (N - i) le fe = fp_se bw fr to cap uc fl A (N - (i + 1)) (fp_ps bw fr to cap uc fl le fe A).1 (fp_ps bw fr to cap uc fl le fe A).2.1 := by
  rw [show N - i = (N - (i + 1)) + 1 by omega]
  rw [fp_se, if_neg c]
/-- the first of n places from a on where P holds -/
def fp_la (P : Nat → Bool) : Nat → Nat → Int32
  | 0, _ => -1
  | n + 1, a => if P a = true then nI a else fp_la P n (a + 1)
theorem la_t {P : Nat → Bool} {n i : Nat} (h : i < n) (c : P i = true) : fp_la P (n - i) i = nI i := by
  rw [show n - i = (n - (i + 1)) + 1 by omega, fp_la, if_pos c]
theorem la_f {P : Nat → Bool} {n i : Nat} (h : i < n) (c : P i = false) : fp_la P (n - i) i = fp_la P (n - (i + 1)) (i + 1) := by
  rw [show n - i = (n - (i + 1)) + 1 by omega, fp_la, if_neg (by rw [c]; decide)]
/-- an arc from x by which a best way goes on -/
def fp_tg (fr to cap uc fl le fe : Nat → Int32) (x : Int32) (a : Nat) : Bool :=
  decide (fp_bg fr to a = x) && (decide (0 < fp_lf cap fl a) && (!decide (le (fp_en fr to a).toNatClampNeg = 2147483647) && (decide (le (fp_en fr to a).toNatClampNeg + fp_pr uc a = le x.toNatClampNeg) && decide (fe (fp_en fr to a).toNatClampNeg + 1 = fe x.toNatClampNeg))))
theorem tg_1 {fr to cap uc fl le fe : Nat → Int32} {x : Int32} {a : Nat} (h : ¬ fp_bg fr to a = x) : fp_tg fr to cap uc fl le fe x a = false := by simp [fp_tg, h]
theorem tg_2 {fr to cap uc fl le fe : Nat → Int32} {x : Int32} {a : Nat} (h : ¬ 0 < fp_lf cap fl a) : fp_tg fr to cap uc fl le fe x a = false := by simp [fp_tg, h]
theorem tg_3 {fr to cap uc fl le fe : Nat → Int32} {x : Int32} {a : Nat} (h : le (fp_en fr to a).toNatClampNeg = 2147483647) : fp_tg fr to cap uc fl le fe x a = false := by simp [fp_tg, h]
theorem tg_4 {fr to cap uc fl le fe : Nat → Int32} {x : Int32} {a : Nat} (h : ¬ le (fp_en fr to a).toNatClampNeg + fp_pr uc a = le x.toNatClampNeg) : fp_tg fr to cap uc fl le fe x a = false := by simp [fp_tg, h]
theorem tg_5 {fr to cap uc fl le fe : Nat → Int32} {x : Int32} {a : Nat} (h : ¬ fe (fp_en fr to a).toNatClampNeg + 1 = fe x.toNatClampNeg) : fp_tg fr to cap uc fl le fe x a = false := by simp [fp_tg, h]
theorem tg_t {fr to cap uc fl le fe : Nat → Int32} {x : Int32} {a : Nat} (h1 : fp_bg fr to a = x) (h2 : 0 < fp_lf cap fl a) (h3 : ¬ le (fp_en fr to a).toNatClampNeg = 2147483647) (h4 : le (fp_en fr to a).toNatClampNeg + fp_pr uc a = le x.toNatClampNeg) (h5 : fe (fp_en fr to a).toNatClampNeg + 1 = fe x.toNatClampNeg) : fp_tg fr to cap uc fl le fe x a = true := by simp [fp_tg, h1, h2, h3, h4, h5]
end
section
theorem fa_reaches_0 : ∀ w ∈ wsX00, w ∈ wsX0_reaches := by decide +kernel
theorem fa_reaches_1 : Cond.fieldLink RX0 21 "FlowProofs$Distances" "least" "[I" ∈ wsX0_reaches := by decide +kernel
theorem fa_reaches_2 : Cond.constant RX0 28 (2147483647) ∈ wsX0_reaches := by decide +kernel
set_option maxHeartbeats 4000000 in
set_option maxRecDepth 100000 in
theorem k_reaches (l : Launch) (dC : Nat → ClassId) (dI : Nat → Nat → Nat) (cI cJ cZ : ClassId) (d0 d1 d2 : Nat) (q : Nat → Nat) (N : Nat) (le fe : Nat → Int32) (x : Int32) (hx0 : vp_in x N) : Met l yX0_reaches wsX0_reaches ({ frames := 0, cells := 0, slots := 0, locals := 0 }) (va_Pc [.ref d0, .int x] (fun U => va_P (dC, dI) vwCl [(d0, .inr (0, [.ref d1, .ref d2, .ref (q 1)])), (d1, .inl (cI, N, .inl le)), (d2, .inl (cI, N, .inl fe))] U.heap ∧ va_K (dC, dI) vwCl [(cI, .int), (cJ, .long), (cZ, .boolean)] U)) (vp_Si (fun r => r = (if le x.toNatClampNeg = 2147483647 then 0 else 1))) 0 0 (fun _ => False) := by
  refine Met.ofW (cc := cX0_reaches) (maxL := 2) (ret := (some .boolean)) (by decide) rfl ?_
  intro p e s m args below meth c s₁ B hml hv
  obtain ⟨rfl, hP, hK⟩ := hv
  have hx := B.exec
  have hb := B.bytes
  have hr := B.returns
  have hts := atoms_spec (ws := wsX0_reaches) B.pre
  have hown : s.vm.findClass RX0 = some m.cls := findClass_of_methodNamed B.named
  have hlocks := B.notSynchronized
  have hP : va_P (dC, dI) vwCl [(d0, .inr (0, [.ref d1, .ref d2, .ref (q 1)])), (d1, .inl (cI, N, .inl le)), (d2, .inl (cI, N, .inl fe))] s.heap := hP
  have hl := lv_entry ([.ref d0, .int x]) (n := 2) (Nat.le_of_ble_eq_true rfl)
  rw [lg_entry_eq]
  generalize (lg_sl ([.ref d0, .int x]) ++ List.replicate (2 - (lg_sl ([.ref d0, .int x])).length) Slot.unset).toArray = ls at hl ⊢
  have hl : lv_has ls 2 [(0, .ref d0), (1, .int x)] := hl
  refine lv_aload_n hx hb dX0_reaches_0 rfl (lv_at hl 0 rfl) ?_
  refine va_get (D := (dC, dI)) (ci := 0) (v := .ref d1) (C := RX0) (T := TX0) (N := 3) hx hb hts fa_reaches_0 hown hK hP 0 rfl rfl 0 (by decide) (hts _ fa_reaches_1) (fun _ h9 => h9) rfl dX0_reaches_1 ?_
  refine lv_iload_n hx hb dX0_reaches_4 rfl (lv_at hl 1 rfl) ?_
  refine va_iald (D := (dC, dI)) hx hb hK hP 1 0 rfl rfl (by first | assumption | exact vp_in_nI (by omega) (by omega)) dX0_reaches_5 ?_
  refine lv_ldc (v := 2147483647) hx hb hown (hts _ fa_reaches_2) dX0_reaches_6 ?_
  refine lv_icmp_eq (tgt := 15) hx hb dX0_reaches_8 (by decide) (fun c_8 => ?_) (fun c_8 => ?_)
  · refine lv_iconst (v := 0) hx hb dX0_reaches_15 (by decide) ?_
    exact W.zret (v := 0) hx hb hr rfl (fun t ht _ => ⟨0, rfl, (by first | rw [if_pos c_8] | rw [if_neg c_8]), ht⟩) (fun _ h => by cases h) dX0_reaches_16
  · refine lv_iconst (v := 1) hx hb dX0_reaches_11 (by decide) ?_
    refine lv_goto (tgt := 16) hx hb dX0_reaches_12 (by decide) ?_
    exact W.zret (v := 1) hx hb hr rfl (fun t ht _ => ⟨1, rfl, (by first | rw [if_pos c_8] | rw [if_neg c_8]), ht⟩) (fun _ h => by cases h) dX0_reaches_16

theorem fa_shorten_0 : ∀ w ∈ wsX00, w ∈ wsX0_shorten := by decide +kernel
theorem fa_shorten_1 : Cond.fieldLink RX0 21 "FlowProofs$Distances" "least" "[I" ∈ wsX0_shorten := by decide +kernel
theorem fa_shorten_2 : Cond.fieldLink RX0 25 "FlowProofs$Distances" "fewest" "[I" ∈ wsX0_shorten := by decide +kernel
set_option maxHeartbeats 4000000 in
set_option maxRecDepth 100000 in
theorem k_shorten (l : Launch) (dC : Nat → ClassId) (dI : Nat → Nat → Nat) (cI cJ cZ : ClassId) (d0 d1 d2 : Nat) (q : Nat → Nat) (N : Nat) (le fe : Nat → Int32) (x y z : Int32) (sz : Nat) (hx0 : vp_in x N) : Met l yX0_shorten wsX0_shorten ({ frames := 0, cells := 0, slots := 0, locals := 0 }) (va_Pc [.ref d0, .int x, .int y, .int z] (fun U => U.heap.size = sz ∧ va_P (dC, dI) vwCl [(d0, .inr (0, [.ref d1, .ref d2, .ref (q 1)])), (d1, .inl (cI, N, .inl le)), (d2, .inl (cI, N, .inl fe))] U.heap ∧ va_K (dC, dI) vwCl [(cI, .int), (cJ, .long), (cZ, .boolean)] U ∧ va_D (fun _ => True) [(d0, .inr (0, [.ref d1, .ref d2, .ref (q 1)])), (d1, .inl (cI, N, .inl le)), (d2, .inl (cI, N, .inl fe))])) (va_Qi (fun (r : Int32) (u_ : Unit) => r = fp_sch le fe x.toNatClampNeg y z) (fun (u_ : Unit) (t : State) => va_P (dC, dI) vwCl [(d0, .inr (0, [.ref d1, .ref d2, .ref (q 1)])), (d1, .inl (cI, N, .inl (fp_sle le fe x.toNatClampNeg y z))), (d2, .inl (cI, N, .inl (fp_sfe le fe x.toNatClampNeg y z)))] t.heap ∧ va_K (dC, dI) vwCl [(cI, .int), (cJ, .long), (cZ, .boolean)] t ∧ va_D (va_A [(d0, .inr (0, [.ref d1, .ref d2, .ref (q 1)])), (d1, .inl (cI, N, .inl le)), (d2, .inl (cI, N, .inl fe))] sz) [(d0, .inr (0, [.ref d1, .ref d2, .ref (q 1)])), (d1, .inl (cI, N, .inl (fp_sle le fe x.toNatClampNeg y z))), (d2, .inl (cI, N, .inl (fp_sfe le fe x.toNatClampNeg y z)))]) (va_A [(d0, .inr (0, [.ref d1, .ref d2, .ref (q 1)])), (d1, .inl (cI, N, .inl le)), (d2, .inl (cI, N, .inl fe))] sz)) 0 0 (va_A [(d0, .inr (0, [.ref d1, .ref d2, .ref (q 1)])), (d1, .inl (cI, N, .inl le)), (d2, .inl (cI, N, .inl fe))] sz) := by
  refine Met.ofW (cc := cX0_shorten) (maxL := 4) (ret := (some .boolean)) (by decide) rfl ?_
  intro p e s m args below meth c s₁ B hml hv
  obtain ⟨rfl, hsz, hP, hK, hD0⟩ := hv
  have hx := B.exec
  have hb := B.bytes
  have hr := B.returns
  have hts := atoms_spec (ws := wsX0_shorten) B.pre
  have hown : s.vm.findClass RX0 = some m.cls := findClass_of_methodNamed B.named
  have hlocks := B.notSynchronized
  subst hsz
  have hD := hD0.self (sz := s.heap.size)
  generalize hAe : va_A [(d0, .inr (0, [.ref d1, .ref d2, .ref (q 1)])), (d1, .inl (cI, N, .inl le)), (d2, .inl (cI, N, .inl fe))] s.heap.size = A at hD ⊢
  have hA : ∀ q : Nat, s.heap.size ≤ q → A q := fun q h => by rw [← hAe]; exact Or.inr h
  have hS : va_S A s.heap s.heap [] := va_S.rf
  have hP : va_P (dC, dI) vwCl [(d0, .inr (0, [.ref d1, .ref d2, .ref (q 1)])), (d1, .inl (cI, N, .inl le)), (d2, .inl (cI, N, .inl fe))] s.heap := hP
  have hl := lv_entry ([.ref d0, .int x, .int y, .int z]) (n := 4) (Nat.le_of_ble_eq_true rfl)
  rw [lg_entry_eq]
  generalize (lg_sl ([.ref d0, .int x, .int y, .int z]) ++ List.replicate (4 - (lg_sl ([.ref d0, .int x, .int y, .int z])).length) Slot.unset).toArray = ls at hl ⊢
  have hl : lv_has ls 4 [(0, .ref d0), (1, .int x), (2, .int y), (3, .int z)] := hl
  refine lv_iload_n hx hb dX0_shorten_0 rfl (lv_at hl 2 rfl) ?_
  refine lv_aload_n hx hb dX0_shorten_1 rfl (lv_at hl 0 rfl) ?_
  refine va_get (D := (dC, dI)) (ci := 0) (v := .ref d1) (C := RX0) (T := TX0) (N := 3) hx hb hts fa_shorten_0 hown hK hP 0 rfl rfl 0 (by decide) (hts _ fa_shorten_1) (fun _ h9 => h9) rfl dX0_shorten_2 ?_
  refine lv_iload_n hx hb dX0_shorten_5 rfl (lv_at hl 1 rfl) ?_
  refine va_iald (D := (dC, dI)) hx hb hK hP 1 0 rfl rfl (by first | assumption | exact vp_in_nI (by omega) (by omega)) dX0_shorten_6 ?_
  refine lv_icmp_gt (tgt := 30) hx hb dX0_shorten_7 (by decide) (fun c_7 => ?_) (fun c_7 => ?_)
  · refine lv_iconst (v := 0) hx hb dX0_shorten_30 (by decide) ?_
    have hno : fp_no le fe x.toNatClampNeg y z = true := by first | exact no_1 c_7 | exact no_2 c_17 c_27
    have hP := va_P_conI hP 1 (g := fp_sle le fe x.toNatClampNeg y z) rfl (fun j _ => by first | (rw [sle_t hno]; done) | (rw [sle_t hno]; rfl))
    have hD := va_D_con hD 1 (e1 := .inl (cI, N, .inl (fp_sle le fe x.toNatClampNeg y z))) rfl
    have hP := va_P_conI hP 2 (g := fp_sfe le fe x.toNatClampNeg y z) rfl (fun j _ => by first | (rw [sfe_t hno]; done) | (rw [sfe_t hno]; rfl))
    have hD := va_D_con hD 2 (e1 := .inl (cI, N, .inl (fp_sfe le fe x.toNatClampNeg y z))) rfl
    have hP9 := hP.sub (ws' := [(d0, .inr (0, [.ref d1, .ref d2, .ref (q 1)])), (d1, .inl (cI, N, .inl (fp_sle le fe x.toNatClampNeg y z))), (d2, .inl (cI, N, .inl (fp_sfe le fe x.toNatClampNeg y z)))]) [0, 1, 2] rfl
    have hD9 := hD.sub (ws' := [(d0, .inr (0, [.ref d1, .ref d2, .ref (q 1)])), (d1, .inl (cI, N, .inl (fp_sle le fe x.toNatClampNeg y z))), (d2, .inl (cI, N, .inl (fp_sfe le fe x.toNatClampNeg y z)))]) [0, 1, 2] (by decide) rfl
    exact W.zret (v := 0) hx hb hr rfl (fun t ht hW => ⟨⟨0, (), rfl, (by first | exact (sch_t hno).symm | exact (sch_f hno).symm), by rw [ht]; exact hP9, va_K.moved hW.alike hK, hD9⟩, hS.F ht⟩) hS.2.2 dX0_shorten_31
  · refine lv_iload_n hx hb dX0_shorten_10 rfl (lv_at hl 2 rfl) ?_
    refine lv_aload_n hx hb dX0_shorten_11 rfl (lv_at hl 0 rfl) ?_
    refine va_get (D := (dC, dI)) (ci := 0) (v := .ref d1) (C := RX0) (T := TX0) (N := 3) hx hb hts fa_shorten_0 hown hK hP 0 rfl rfl 0 (by decide) (hts _ fa_shorten_1) (fun _ h9 => h9) rfl dX0_shorten_12 ?_
    refine lv_iload_n hx hb dX0_shorten_15 rfl (lv_at hl 1 rfl) ?_
    refine va_iald (D := (dC, dI)) hx hb hK hP 1 0 rfl rfl (by first | assumption | exact vp_in_nI (by omega) (by omega)) dX0_shorten_16 ?_
    refine lv_icmp_ne (tgt := 32) hx hb dX0_shorten_17 (by decide) (fun c_17 => ?_) (fun c_17 => ?_)
    · refine lv_aload_n hx hb dX0_shorten_32 rfl (lv_at hl 0 rfl) ?_
      refine va_get (D := (dC, dI)) (ci := 0) (v := .ref d1) (C := RX0) (T := TX0) (N := 3) hx hb hts fa_shorten_0 hown hK hP 0 rfl rfl 0 (by decide) (hts _ fa_shorten_1) (fun _ h9 => h9) rfl dX0_shorten_33 ?_
      refine lv_iload_n hx hb dX0_shorten_36 rfl (lv_at hl 1 rfl) ?_
      refine lv_iload_n hx hb dX0_shorten_37 rfl (lv_at hl 2 rfl) ?_
      refine va_iast (D := (dC, dI)) hx hb hK hP hD hS 1 0 rfl rfl (by first | assumption | exact vp_in_nI (by omega) (by omega)) dX0_shorten_38 (fun H locs hP hD hS => ?_)
      have hP : va_P (dC, dI) vwCl [(d0, .inr (0, [.ref d1, .ref d2, .ref (q 1)])), (d1, .inl (cI, N, .inl (upd le (x.toNatClampNeg) y))), (d2, .inl (cI, N, .inl fe))] H := hP
      have hD : va_D A [(d0, .inr (0, [.ref d1, .ref d2, .ref (q 1)])), (d1, .inl (cI, N, .inl (upd le (x.toNatClampNeg) y))), (d2, .inl (cI, N, .inl fe))] := hD
      refine lv_aload_n hx hb dX0_shorten_39 rfl (lv_at hl 0 rfl) ?_
      refine va_get (D := (dC, dI)) (ci := 0) (v := .ref d2) (C := RX0) (T := TX0) (N := 3) hx hb hts fa_shorten_0 hown hK hP 0 rfl rfl 1 (by decide) (hts _ fa_shorten_2) (fun _ h9 => h9) rfl dX0_shorten_40 ?_
      refine lv_iload_n hx hb dX0_shorten_43 rfl (lv_at hl 1 rfl) ?_
      refine lv_iload_n hx hb dX0_shorten_44 rfl (lv_at hl 3 rfl) ?_
      refine va_iast (D := (dC, dI)) hx hb hK hP hD hS 2 0 rfl rfl (by first | assumption | exact vp_in_nI (by omega) (by omega)) dX0_shorten_45 (fun H locs hP hD hS => ?_)
      have hP : va_P (dC, dI) vwCl [(d0, .inr (0, [.ref d1, .ref d2, .ref (q 1)])), (d1, .inl (cI, N, .inl (upd le (x.toNatClampNeg) y))), (d2, .inl (cI, N, .inl (upd fe (x.toNatClampNeg) z)))] H := hP
      have hD : va_D A [(d0, .inr (0, [.ref d1, .ref d2, .ref (q 1)])), (d1, .inl (cI, N, .inl (upd le (x.toNatClampNeg) y))), (d2, .inl (cI, N, .inl (upd fe (x.toNatClampNeg) z)))] := hD
      refine lv_iconst (v := 1) hx hb dX0_shorten_46 (by decide) ?_
      have hno : fp_no le fe x.toNatClampNeg y z = false := by first | exact no_3 c_7 c_17 | exact no_4 c_7 c_27
      have hP := va_P_conI hP 1 (g := fp_sle le fe x.toNatClampNeg y z) rfl (fun j _ => by first | (rw [sle_f hno]; done) | (rw [sle_f hno]; rfl))
      have hD := va_D_con hD 1 (e1 := .inl (cI, N, .inl (fp_sle le fe x.toNatClampNeg y z))) rfl
      have hP := va_P_conI hP 2 (g := fp_sfe le fe x.toNatClampNeg y z) rfl (fun j _ => by first | (rw [sfe_f hno]; done) | (rw [sfe_f hno]; rfl))
      have hD := va_D_con hD 2 (e1 := .inl (cI, N, .inl (fp_sfe le fe x.toNatClampNeg y z))) rfl
      have hP9 := hP.sub (ws' := [(d0, .inr (0, [.ref d1, .ref d2, .ref (q 1)])), (d1, .inl (cI, N, .inl (fp_sle le fe x.toNatClampNeg y z))), (d2, .inl (cI, N, .inl (fp_sfe le fe x.toNatClampNeg y z)))]) [0, 1, 2] rfl
      have hD9 := hD.sub (ws' := [(d0, .inr (0, [.ref d1, .ref d2, .ref (q 1)])), (d1, .inl (cI, N, .inl (fp_sle le fe x.toNatClampNeg y z))), (d2, .inl (cI, N, .inl (fp_sfe le fe x.toNatClampNeg y z)))]) [0, 1, 2] (by decide) rfl
      exact W.zret (v := 1) hx hb hr rfl (fun t ht hW => ⟨⟨1, (), rfl, (by first | exact (sch_t hno).symm | exact (sch_f hno).symm), by rw [ht]; exact hP9, va_K.moved hW.alike hK, hD9⟩, hS.F ht⟩) hS.2.2 dX0_shorten_47
    · refine lv_iload_n hx hb dX0_shorten_20 rfl (lv_at hl 3 rfl) ?_
      refine lv_aload_n hx hb dX0_shorten_21 rfl (lv_at hl 0 rfl) ?_
      refine va_get (D := (dC, dI)) (ci := 0) (v := .ref d2) (C := RX0) (T := TX0) (N := 3) hx hb hts fa_shorten_0 hown hK hP 0 rfl rfl 1 (by decide) (hts _ fa_shorten_2) (fun _ h9 => h9) rfl dX0_shorten_22 ?_
      refine lv_iload_n hx hb dX0_shorten_25 rfl (lv_at hl 1 rfl) ?_
      refine va_iald (D := (dC, dI)) hx hb hK hP 2 0 rfl rfl (by first | assumption | exact vp_in_nI (by omega) (by omega)) dX0_shorten_26 ?_
      refine lv_icmp_lt (tgt := 32) hx hb dX0_shorten_27 (by decide) (fun c_27 => ?_) (fun c_27 => ?_)
      · refine lv_aload_n hx hb dX0_shorten_32 rfl (lv_at hl 0 rfl) ?_
        refine va_get (D := (dC, dI)) (ci := 0) (v := .ref d1) (C := RX0) (T := TX0) (N := 3) hx hb hts fa_shorten_0 hown hK hP 0 rfl rfl 0 (by decide) (hts _ fa_shorten_1) (fun _ h9 => h9) rfl dX0_shorten_33 ?_
        refine lv_iload_n hx hb dX0_shorten_36 rfl (lv_at hl 1 rfl) ?_
        refine lv_iload_n hx hb dX0_shorten_37 rfl (lv_at hl 2 rfl) ?_
        refine va_iast (D := (dC, dI)) hx hb hK hP hD hS 1 0 rfl rfl (by first | assumption | exact vp_in_nI (by omega) (by omega)) dX0_shorten_38 (fun H locs hP hD hS => ?_)
        have hP : va_P (dC, dI) vwCl [(d0, .inr (0, [.ref d1, .ref d2, .ref (q 1)])), (d1, .inl (cI, N, .inl (upd le (x.toNatClampNeg) y))), (d2, .inl (cI, N, .inl fe))] H := hP
        have hD : va_D A [(d0, .inr (0, [.ref d1, .ref d2, .ref (q 1)])), (d1, .inl (cI, N, .inl (upd le (x.toNatClampNeg) y))), (d2, .inl (cI, N, .inl fe))] := hD
        refine lv_aload_n hx hb dX0_shorten_39 rfl (lv_at hl 0 rfl) ?_
        refine va_get (D := (dC, dI)) (ci := 0) (v := .ref d2) (C := RX0) (T := TX0) (N := 3) hx hb hts fa_shorten_0 hown hK hP 0 rfl rfl 1 (by decide) (hts _ fa_shorten_2) (fun _ h9 => h9) rfl dX0_shorten_40 ?_
        refine lv_iload_n hx hb dX0_shorten_43 rfl (lv_at hl 1 rfl) ?_
        refine lv_iload_n hx hb dX0_shorten_44 rfl (lv_at hl 3 rfl) ?_
        refine va_iast (D := (dC, dI)) hx hb hK hP hD hS 2 0 rfl rfl (by first | assumption | exact vp_in_nI (by omega) (by omega)) dX0_shorten_45 (fun H locs hP hD hS => ?_)
        have hP : va_P (dC, dI) vwCl [(d0, .inr (0, [.ref d1, .ref d2, .ref (q 1)])), (d1, .inl (cI, N, .inl (upd le (x.toNatClampNeg) y))), (d2, .inl (cI, N, .inl (upd fe (x.toNatClampNeg) z)))] H := hP
        have hD : va_D A [(d0, .inr (0, [.ref d1, .ref d2, .ref (q 1)])), (d1, .inl (cI, N, .inl (upd le (x.toNatClampNeg) y))), (d2, .inl (cI, N, .inl (upd fe (x.toNatClampNeg) z)))] := hD
        refine lv_iconst (v := 1) hx hb dX0_shorten_46 (by decide) ?_
        have hno : fp_no le fe x.toNatClampNeg y z = false := by first | exact no_3 c_7 c_17 | exact no_4 c_7 c_27
        have hP := va_P_conI hP 1 (g := fp_sle le fe x.toNatClampNeg y z) rfl (fun j _ => by first | (rw [sle_f hno]; done) | (rw [sle_f hno]; rfl))
        have hD := va_D_con hD 1 (e1 := .inl (cI, N, .inl (fp_sle le fe x.toNatClampNeg y z))) rfl
        have hP := va_P_conI hP 2 (g := fp_sfe le fe x.toNatClampNeg y z) rfl (fun j _ => by first | (rw [sfe_f hno]; done) | (rw [sfe_f hno]; rfl))
        have hD := va_D_con hD 2 (e1 := .inl (cI, N, .inl (fp_sfe le fe x.toNatClampNeg y z))) rfl
        have hP9 := hP.sub (ws' := [(d0, .inr (0, [.ref d1, .ref d2, .ref (q 1)])), (d1, .inl (cI, N, .inl (fp_sle le fe x.toNatClampNeg y z))), (d2, .inl (cI, N, .inl (fp_sfe le fe x.toNatClampNeg y z)))]) [0, 1, 2] rfl
        have hD9 := hD.sub (ws' := [(d0, .inr (0, [.ref d1, .ref d2, .ref (q 1)])), (d1, .inl (cI, N, .inl (fp_sle le fe x.toNatClampNeg y z))), (d2, .inl (cI, N, .inl (fp_sfe le fe x.toNatClampNeg y z)))]) [0, 1, 2] (by decide) rfl
        exact W.zret (v := 1) hx hb hr rfl (fun t ht hW => ⟨⟨1, (), rfl, (by first | exact (sch_t hno).symm | exact (sch_f hno).symm), by rw [ht]; exact hP9, va_K.moved hW.alike hK, hD9⟩, hS.F ht⟩) hS.2.2 dX0_shorten_47
      · refine lv_iconst (v := 0) hx hb dX0_shorten_30 (by decide) ?_
        have hno : fp_no le fe x.toNatClampNeg y z = true := by first | exact no_1 c_7 | exact no_2 c_17 c_27
        have hP := va_P_conI hP 1 (g := fp_sle le fe x.toNatClampNeg y z) rfl (fun j _ => by first | (rw [sle_t hno]; done) | (rw [sle_t hno]; rfl))
        have hD := va_D_con hD 1 (e1 := .inl (cI, N, .inl (fp_sle le fe x.toNatClampNeg y z))) rfl
        have hP := va_P_conI hP 2 (g := fp_sfe le fe x.toNatClampNeg y z) rfl (fun j _ => by first | (rw [sfe_t hno]; done) | (rw [sfe_t hno]; rfl))
        have hD := va_D_con hD 2 (e1 := .inl (cI, N, .inl (fp_sfe le fe x.toNatClampNeg y z))) rfl
        have hP9 := hP.sub (ws' := [(d0, .inr (0, [.ref d1, .ref d2, .ref (q 1)])), (d1, .inl (cI, N, .inl (fp_sle le fe x.toNatClampNeg y z))), (d2, .inl (cI, N, .inl (fp_sfe le fe x.toNatClampNeg y z)))]) [0, 1, 2] rfl
        have hD9 := hD.sub (ws' := [(d0, .inr (0, [.ref d1, .ref d2, .ref (q 1)])), (d1, .inl (cI, N, .inl (fp_sle le fe x.toNatClampNeg y z))), (d2, .inl (cI, N, .inl (fp_sfe le fe x.toNatClampNeg y z)))]) [0, 1, 2] (by decide) rfl
        exact W.zret (v := 0) hx hb hr rfl (fun t ht hW => ⟨⟨0, (), rfl, (by first | exact (sch_t hno).symm | exact (sch_f hno).symm), by rw [ht]; exact hP9, va_K.moved hW.alike hK, hD9⟩, hS.F ht⟩) hS.2.2 dX0_shorten_31

theorem fa_passF_0 : ∀ w ∈ wsX00, w ∈ wsX0_passOverArcs := by decide +kernel
theorem fa_passF_1 : Cond.fieldLink RX0 9 "FlowProofs$Distances" "net" "LFlowProofs$Net;" ∈ wsX0_passOverArcs := by decide +kernel
theorem fa_passF_2 : Cond.fieldLink RX0 21 "FlowProofs$Distances" "least" "[I" ∈ wsX0_passOverArcs := by decide +kernel
theorem fa_passF_3 : Cond.fieldLink RX0 25 "FlowProofs$Distances" "fewest" "[I" ∈ wsX0_passOverArcs := by decide +kernel
set_option maxHeartbeats 4000000 in
set_option maxRecDepth 100000 in
theorem k_passF (l : Launch) (dC : Nat → ClassId) (dI : Nat → Nat → Nat) (cI cJ cZ : ClassId) (d0 d1 d2 : Nat) (q : Nat → Nat) (N M E : Nat) (fr to cap uc fl : Nat → Int32) (le fe : Nat → Int32) (sz : Nat) (hE : E ≤ M) (hM : M < 1000) (hN : N < 1000) (hfr : ∀ e, e < E → vp_in (fr e) N) (hto : ∀ e, e < E → vp_in (to e) N) : Met l yX0_passOverArcs wsX0_passOverArcs ({ frames := 2, cells := 0, slots := 0, locals := 42 }) (va_Pc [.ref d0, .int 0] (fun U => U.heap.size = sz ∧ va_P (dC, dI) vwCl [(d0, .inr (0, [.ref d1, .ref d2, .ref (q 1)])), (d1, .inl (cI, N, .inl le)), (d2, .inl (cI, N, .inl fe)), (q 1, .inr (1, [.int (nI N), .ref (q 2), .ref (q 3), .ref (q 4), .ref (q 5), .ref (q 6), .int (nI E)])), (q 2, .inl (cI, M, .inl fr)), (q 3, .inl (cI, M, .inl to)), (q 4, .inl (cI, M, .inl cap)), (q 5, .inl (cI, M, .inl uc)), (q 6, .inl (cI, M, .inl fl))] U.heap ∧ va_K (dC, dI) vwCl [(cI, .int), (cJ, .long), (cZ, .boolean)] U ∧ va_D (fun _ => True) [(d0, .inr (0, [.ref d1, .ref d2, .ref (q 1)])), (d1, .inl (cI, N, .inl le)), (d2, .inl (cI, N, .inl fe)), (q 1, .inr (1, [.int (nI N), .ref (q 2), .ref (q 3), .ref (q 4), .ref (q 5), .ref (q 6), .int (nI E)])), (q 2, .inl (cI, M, .inl fr)), (q 3, .inl (cI, M, .inl to)), (q 4, .inl (cI, M, .inl cap)), (q 5, .inl (cI, M, .inl uc)), (q 6, .inl (cI, M, .inl fl))])) (va_Qi (fun (r : Int32) (u_ : Unit) => r = (fp_ps false fr to cap uc fl le fe (2 * E)).2.2) (fun (u_ : Unit) (t : State) => va_P (dC, dI) vwCl [(d0, .inr (0, [.ref d1, .ref d2, .ref (q 1)])), (d1, .inl (cI, N, .inl ((fp_ps false fr to cap uc fl le fe (2 * E)).1))), (d2, .inl (cI, N, .inl ((fp_ps false fr to cap uc fl le fe (2 * E)).2.1))), (q 1, .inr (1, [.int (nI N), .ref (q 2), .ref (q 3), .ref (q 4), .ref (q 5), .ref (q 6), .int (nI E)])), (q 2, .inl (cI, M, .inl fr)), (q 3, .inl (cI, M, .inl to)), (q 4, .inl (cI, M, .inl cap)), (q 5, .inl (cI, M, .inl uc)), (q 6, .inl (cI, M, .inl fl))] t.heap ∧ va_K (dC, dI) vwCl [(cI, .int), (cJ, .long), (cZ, .boolean)] t ∧ va_D (va_A [(d0, .inr (0, [.ref d1, .ref d2, .ref (q 1)])), (d1, .inl (cI, N, .inl le)), (d2, .inl (cI, N, .inl fe)), (q 1, .inr (1, [.int (nI N), .ref (q 2), .ref (q 3), .ref (q 4), .ref (q 5), .ref (q 6), .int (nI E)])), (q 2, .inl (cI, M, .inl fr)), (q 3, .inl (cI, M, .inl to)), (q 4, .inl (cI, M, .inl cap)), (q 5, .inl (cI, M, .inl uc)), (q 6, .inl (cI, M, .inl fl))] sz) [(d0, .inr (0, [.ref d1, .ref d2, .ref (q 1)])), (d1, .inl (cI, N, .inl ((fp_ps false fr to cap uc fl le fe (2 * E)).1))), (d2, .inl (cI, N, .inl ((fp_ps false fr to cap uc fl le fe (2 * E)).2.1))), (q 1, .inr (1, [.int (nI N), .ref (q 2), .ref (q 3), .ref (q 4), .ref (q 5), .ref (q 6), .int (nI E)])), (q 2, .inl (cI, M, .inl fr)), (q 3, .inl (cI, M, .inl to)), (q 4, .inl (cI, M, .inl cap)), (q 5, .inl (cI, M, .inl uc)), (q 6, .inl (cI, M, .inl fl))]) (va_A [(d0, .inr (0, [.ref d1, .ref d2, .ref (q 1)])), (d1, .inl (cI, N, .inl le)), (d2, .inl (cI, N, .inl fe)), (q 1, .inr (1, [.int (nI N), .ref (q 2), .ref (q 3), .ref (q 4), .ref (q 5), .ref (q 6), .int (nI E)])), (q 2, .inl (cI, M, .inl fr)), (q 3, .inl (cI, M, .inl to)), (q 4, .inl (cI, M, .inl cap)), (q 5, .inl (cI, M, .inl uc)), (q 6, .inl (cI, M, .inl fl))] sz)) 0 0 (va_A [(d0, .inr (0, [.ref d1, .ref d2, .ref (q 1)])), (d1, .inl (cI, N, .inl le)), (d2, .inl (cI, N, .inl fe)), (q 1, .inr (1, [.int (nI N), .ref (q 2), .ref (q 3), .ref (q 4), .ref (q 5), .ref (q 6), .int (nI E)])), (q 2, .inl (cI, M, .inl fr)), (q 3, .inl (cI, M, .inl to)), (q 4, .inl (cI, M, .inl cap)), (q 5, .inl (cI, M, .inl uc)), (q 6, .inl (cI, M, .inl fl))] sz) := by
  refine Met.ofW (cc := cX0_passOverArcs) (maxL := 6) (ret := (some .boolean)) (by decide) rfl ?_
  intro p e s m args below meth c s₁ B hml hv
  obtain ⟨rfl, hsz, hP, hK, hD0⟩ := hv
  have hx := B.exec
  have hb := B.bytes
  have hr := B.returns
  have hts := atoms_spec (ws := wsX0_passOverArcs) B.pre
  have hown : s.vm.findClass RX0 = some m.cls := findClass_of_methodNamed B.named
  have hlocks := B.notSynchronized
  subst hsz
  have hD := hD0.self (sz := s.heap.size)
  generalize hAe : va_A [(d0, .inr (0, [.ref d1, .ref d2, .ref (q 1)])), (d1, .inl (cI, N, .inl le)), (d2, .inl (cI, N, .inl fe)), (q 1, .inr (1, [.int (nI N), .ref (q 2), .ref (q 3), .ref (q 4), .ref (q 5), .ref (q 6), .int (nI E)])), (q 2, .inl (cI, M, .inl fr)), (q 3, .inl (cI, M, .inl to)), (q 4, .inl (cI, M, .inl cap)), (q 5, .inl (cI, M, .inl uc)), (q 6, .inl (cI, M, .inl fl))] s.heap.size = A at hD ⊢
  have hA : ∀ q : Nat, s.heap.size ≤ q → A q := fun q h => by rw [← hAe]; exact Or.inr h
  have hS : va_S A s.heap s.heap [] := va_S.rf
  have hP : va_P (dC, dI) vwCl [(d0, .inr (0, [.ref d1, .ref d2, .ref (q 1)])), (d1, .inl (cI, N, .inl le)), (d2, .inl (cI, N, .inl fe)), (q 1, .inr (1, [.int (nI N), .ref (q 2), .ref (q 3), .ref (q 4), .ref (q 5), .ref (q 6), .int (nI E)])), (q 2, .inl (cI, M, .inl fr)), (q 3, .inl (cI, M, .inl to)), (q 4, .inl (cI, M, .inl cap)), (q 5, .inl (cI, M, .inl uc)), (q 6, .inl (cI, M, .inl fl))] s.heap := hP
  have hl := lv_entry ([.ref d0, .int 0]) (n := 6) (Nat.le_of_ble_eq_true rfl)
  rw [lg_entry_eq]
  generalize (lg_sl ([.ref d0, .int 0]) ++ List.replicate (6 - (lg_sl ([.ref d0, .int 0])).length) Slot.unset).toArray = ls at hl ⊢
  have hl : lv_has ls 6 [(0, .ref d0), (1, .int 0)] := hl
  refine lv_iconst (v := 0) hx hb dX0_passOverArcs_0 (by decide) ?_
  refine lv_istore_n (lv' := [(2, .int 0), (0, .ref d0), (1, .int 0)]) hx hb dX0_passOverArcs_1 rfl hl (by decide) rfl (fun ls hl => ?_)
  refine lv_iconst (v := 0) hx hb dX0_passOverArcs_2 (by decide) ?_
  refine tp_i (y := nI 0) nI_0.symm ?_
  refine lv_istore_n (lv' := [(3, .int (nI 0)), (2, .int 0), (0, .ref d0), (1, .int 0)]) hx hb dX0_passOverArcs_3 rfl hl (by decide) rfl (fun ls hl => ?_)
  have lo_a : ∀ (nf : Nat) (i : Nat) (g : Nat → Int32) (h : Nat → Int32) (ch : Int32) (hi : i ≤ 2 * E) (hst : fp_ps false fr to cap uc fl le fe i = (g, h, ch)) (hfu : 2 * E - i < nf) (H : Heap) (locs : List Loc) (hP : va_P (dC, dI) vwCl [(d0, .inr (0, [.ref d1, .ref d2, .ref (q 1)])), (d1, .inl (cI, N, .inl g)), (d2, .inl (cI, N, .inl h)), (q 1, .inr (1, [.int (nI N), .ref (q 2), .ref (q 3), .ref (q 4), .ref (q 5), .ref (q 6), .int (nI E)])), (q 2, .inl (cI, M, .inl fr)), (q 3, .inl (cI, M, .inl to)), (q 4, .inl (cI, M, .inl cap)), (q 5, .inl (cI, M, .inl uc)), (q 6, .inl (cI, M, .inl fl))] H) (hD : va_D A [(d0, .inr (0, [.ref d1, .ref d2, .ref (q 1)])), (d1, .inl (cI, N, .inl g)), (d2, .inl (cI, N, .inl h)), (q 1, .inr (1, [.int (nI N), .ref (q 2), .ref (q 3), .ref (q 4), .ref (q 5), .ref (q 6), .int (nI E)])), (q 2, .inl (cI, M, .inl fr)), (q 3, .inl (cI, M, .inl to)), (q 4, .inl (cI, M, .inl cap)), (q 5, .inl (cI, M, .inl uc)), (q 6, .inl (cI, M, .inl fl))]) (hS : va_S A s.heap H locs) (ls : Array Slot) (hl : lv_has ls 6 [(0, .ref d0), (1, .int 0), (2, .int ch), (3, .int (nI i))]), W p l e (headSpec wsX0_passOverArcs ({ frames := 2, cells := 0, slots := 0, locals := 42 })).room s m ([.ref d0, .int 0] : List Value).toArray below meth c H locs 0 0 (MQ below (va_Qi (fun (r : Int32) (u_ : Unit) => r = (fp_ps false fr to cap uc fl le fe (2 * E)).2.2) (fun (u_ : Unit) (t : State) => va_P (dC, dI) vwCl [(d0, .inr (0, [.ref d1, .ref d2, .ref (q 1)])), (d1, .inl (cI, N, .inl ((fp_ps false fr to cap uc fl le fe (2 * E)).1))), (d2, .inl (cI, N, .inl ((fp_ps false fr to cap uc fl le fe (2 * E)).2.1))), (q 1, .inr (1, [.int (nI N), .ref (q 2), .ref (q 3), .ref (q 4), .ref (q 5), .ref (q 6), .int (nI E)])), (q 2, .inl (cI, M, .inl fr)), (q 3, .inl (cI, M, .inl to)), (q 4, .inl (cI, M, .inl cap)), (q 5, .inl (cI, M, .inl uc)), (q 6, .inl (cI, M, .inl fl))] t.heap ∧ va_K (dC, dI) vwCl [(cI, .int), (cJ, .long), (cZ, .boolean)] t ∧ va_D A [(d0, .inr (0, [.ref d1, .ref d2, .ref (q 1)])), (d1, .inl (cI, N, .inl ((fp_ps false fr to cap uc fl le fe (2 * E)).1))), (d2, .inl (cI, N, .inl ((fp_ps false fr to cap uc fl le fe (2 * E)).2.1))), (q 1, .inr (1, [.int (nI N), .ref (q 2), .ref (q 3), .ref (q 4), .ref (q 5), .ref (q 6), .int (nI E)])), (q 2, .inl (cI, M, .inl fr)), (q 3, .inl (cI, M, .inl to)), (q 4, .inl (cI, M, .inl cap)), (q 5, .inl (cI, M, .inl uc)), (q 6, .inl (cI, M, .inl fl))]) A) ([.ref d0, .int 0] : List Value).toArray s 0 0 A) (F0 m 4 ls [])
    := by
    intro nf
    induction nf with
    | zero => intro i g h ch hi hst hfu H locs hP hD hS ls hl; exact absurd hfu (Nat.not_lt_zero _)
    | succ nf ih_a =>
      intro i g h ch hi hst hfu H locs hP hD hS ls hl
      refine lv_iload_n hx hb dX0_passOverArcs_4 rfl (lv_at hl 3 rfl) ?_
      refine lv_aload_n hx hb dX0_passOverArcs_5 rfl (lv_at hl 0 rfl) ?_
      refine va_get (D := (dC, dI)) (ci := 0) (v := .ref (q 1)) (C := RX0) (T := TX0) (N := 3) hx hb hts fa_passF_0 hown hK hP 0 rfl rfl 2 (by decide) (hts _ fa_passF_1) (fun _ h9 => h9) rfl dX0_passOverArcs_6 ?_
      have hPc := hP.sub (ws' := [(q 1, .inr (1, [.int (nI N), .ref (q 2), .ref (q 3), .ref (q 4), .ref (q 5), .ref (q 6), .int (nI E)])), (q 2, .inl (cI, M, .inl fr)), (q 3, .inl (cI, M, .inl to)), (q 4, .inl (cI, M, .inl cap)), (q 5, .inl (cI, M, .inl uc)), (q 6, .inl (cI, M, .inl fl))]) [3, 4, 5, 6, 7, 8] rfl
      refine vp_callSi (W.runV (As := []) (rest := [.int (nI i)]) ⟨hx, hb, hml, hown, hts⟩ (k_arcs l dC dI cI cJ cZ q N M E fr to cap uc fl) (cwV 0 hts gX0_passOverArcs_X1_arcs rfl rfl rfl (by decide +kernel) ⟨Nat.le_of_ble_eq_true rfl, Nat.le_of_ble_eq_true rfl⟩) ⟨fun a U g mk q => by obtain ⟨q0, qP, qK⟩ := q; exact ⟨q0, qP, va_K.moved (u := U) (U := U.calling g mk a) (Vm.Alike.refl U.vm) qK⟩, va_recv hK hP (ci := 1) (q0 := 3) rfl rfl, fun U hU hW => ⟨rfl, by rw [hU]; exact hPc, va_K.moved hW.alike hK⟩⟩ rfl rfl hl.1 rfl (lv_room (Nat.le_of_ble_eq_true rfl)) dX0_passOverArcs_9 ⟨Nat.le_of_ble_eq_true rfl, Nat.le_of_ble_eq_true rfl⟩) (fun r_9 hw_9 => ?_)
      subst hw_9
      refine lv_icmp_ge (tgt := 130) hx hb dX0_passOverArcs_12 (by decide) (fun c_12 => ?_) (fun c_12 => ?_)
      · have hge := ix_ge (by omega) (by omega) c_12
        obtain rfl : i = 2 * E := by omega
        refine lv_iload_n hx hb dX0_passOverArcs_130 rfl (lv_at hl 2 rfl) ?_
        have hP := va_P_conI hP 1 (g := (fp_ps false fr to cap uc fl le fe (2 * E)).1) rfl (fun j _ => by first | (rw [hst]; done) | (rw [hst]; rfl))
        have hD := va_D_con hD 1 (e1 := .inl (cI, N, .inl ((fp_ps false fr to cap uc fl le fe (2 * E)).1))) rfl
        have hP := va_P_conI hP 2 (g := (fp_ps false fr to cap uc fl le fe (2 * E)).2.1) rfl (fun j _ => by first | (rw [hst]; done) | (rw [hst]; rfl))
        have hD := va_D_con hD 2 (e1 := .inl (cI, N, .inl ((fp_ps false fr to cap uc fl le fe (2 * E)).2.1))) rfl
        have hP9 := hP.sub (ws' := [(d0, .inr (0, [.ref d1, .ref d2, .ref (q 1)])), (d1, .inl (cI, N, .inl ((fp_ps false fr to cap uc fl le fe (2 * E)).1))), (d2, .inl (cI, N, .inl ((fp_ps false fr to cap uc fl le fe (2 * E)).2.1))), (q 1, .inr (1, [.int (nI N), .ref (q 2), .ref (q 3), .ref (q 4), .ref (q 5), .ref (q 6), .int (nI E)])), (q 2, .inl (cI, M, .inl fr)), (q 3, .inl (cI, M, .inl to)), (q 4, .inl (cI, M, .inl cap)), (q 5, .inl (cI, M, .inl uc)), (q 6, .inl (cI, M, .inl fl))]) [0, 1, 2, 3, 4, 5, 6, 7, 8] rfl
        have hD9 := hD.sub (ws' := [(d0, .inr (0, [.ref d1, .ref d2, .ref (q 1)])), (d1, .inl (cI, N, .inl ((fp_ps false fr to cap uc fl le fe (2 * E)).1))), (d2, .inl (cI, N, .inl ((fp_ps false fr to cap uc fl le fe (2 * E)).2.1))), (q 1, .inr (1, [.int (nI N), .ref (q 2), .ref (q 3), .ref (q 4), .ref (q 5), .ref (q 6), .int (nI E)])), (q 2, .inl (cI, M, .inl fr)), (q 3, .inl (cI, M, .inl to)), (q 4, .inl (cI, M, .inl cap)), (q 5, .inl (cI, M, .inl uc)), (q 6, .inl (cI, M, .inl fl))]) [0, 1, 2, 3, 4, 5, 6, 7, 8] (by decide) rfl
        exact W.zret (v := ch) hx hb hr (nb01 (by have h9 := fp_ps_ch false fr to cap uc fl le fe (2 * E); rw [hst] at h9; exact h9)) (fun t ht hW => ⟨⟨ch, (), rfl, (by rw [hst]), by rw [ht]; exact hP9, va_K.moved hW.alike hK, hD9⟩, hS.F ht⟩) hS.2.2 dX0_passOverArcs_131
      · have hlt := ix_lt (by omega) (by omega) c_12
        have hbi := bg_in hfr hto hlt
        have hei := en_in hfr hto hlt
        refine lv_aload_n hx hb dX0_passOverArcs_15 rfl (lv_at hl 0 rfl) ?_
        refine va_get (D := (dC, dI)) (ci := 0) (v := .ref (q 1)) (C := RX0) (T := TX0) (N := 3) hx hb hts fa_passF_0 hown hK hP 0 rfl rfl 2 (by decide) (hts _ fa_passF_1) (fun _ h9 => h9) rfl dX0_passOverArcs_16 ?_
        refine lv_iload_n hx hb dX0_passOverArcs_19 rfl (lv_at hl 3 rfl) ?_
        have hPc := hP.sub (ws' := [(q 1, .inr (1, [.int (nI N), .ref (q 2), .ref (q 3), .ref (q 4), .ref (q 5), .ref (q 6), .int (nI E)])), (q 2, .inl (cI, M, .inl fr)), (q 3, .inl (cI, M, .inl to)), (q 4, .inl (cI, M, .inl cap)), (q 5, .inl (cI, M, .inl uc)), (q 6, .inl (cI, M, .inl fl))]) [3, 4, 5, 6, 7, 8] rfl
        refine vp_callSi (W.runV (As := [.int (nI i)]) (rest := []) ⟨hx, hb, hml, hown, hts⟩ (k_left l dC dI cI cJ cZ q N M E fr to cap uc fl i (by omega) hM) (cwV 1 hts gX0_passOverArcs_X1_left rfl rfl rfl (by decide +kernel) ⟨Nat.le_of_ble_eq_true rfl, Nat.le_of_ble_eq_true rfl⟩) ⟨fun a U g mk q => by obtain ⟨q0, qP, qK⟩ := q; exact ⟨q0, qP, va_K.moved (u := U) (U := U.calling g mk a) (Vm.Alike.refl U.vm) qK⟩, va_recv hK hP (ci := 1) (q0 := 3) rfl rfl, fun U hU hW => ⟨rfl, by rw [hU]; exact hPc, va_K.moved hW.alike hK⟩⟩ rfl rfl hl.1 rfl (lv_room (Nat.le_of_ble_eq_true rfl)) dX0_passOverArcs_20 ⟨Nat.le_of_ble_eq_true rfl, Nat.le_of_ble_eq_true rfl⟩) (fun r_20 hw_20 => ?_)
        subst hw_20
        refine lv_if_gt (tgt := 29) hx hb dX0_passOverArcs_23 (by decide) (fun c_23 => ?_) (fun c_23 => ?_)
        · refine lv_iload_n hx hb dX0_passOverArcs_29 rfl (lv_at hl 1 rfl) ?_
          refine lv_if_eq (tgt := 44) hx hb dX0_passOverArcs_30 (by decide) (fun c_30 => ?_) (fun c_30 => ?_)
          · refine lv_aload_n hx hb dX0_passOverArcs_44 rfl (lv_at hl 0 rfl) ?_
            refine va_get (D := (dC, dI)) (ci := 0) (v := .ref (q 1)) (C := RX0) (T := TX0) (N := 3) hx hb hts fa_passF_0 hown hK hP 0 rfl rfl 2 (by decide) (hts _ fa_passF_1) (fun _ h9 => h9) rfl dX0_passOverArcs_45 ?_
            refine lv_iload_n hx hb dX0_passOverArcs_48 rfl (lv_at hl 3 rfl) ?_
            have hPc := hP.sub (ws' := [(q 1, .inr (1, [.int (nI N), .ref (q 2), .ref (q 3), .ref (q 4), .ref (q 5), .ref (q 6), .int (nI E)])), (q 2, .inl (cI, M, .inl fr)), (q 3, .inl (cI, M, .inl to)), (q 4, .inl (cI, M, .inl cap)), (q 5, .inl (cI, M, .inl uc)), (q 6, .inl (cI, M, .inl fl))]) [3, 4, 5, 6, 7, 8] rfl
            refine vp_callSi (W.runV (As := [.int (nI i)]) (rest := []) ⟨hx, hb, hml, hown, hts⟩ (k_begin l dC dI cI cJ cZ q N M E fr to cap uc fl i (by omega) hM) (cwV 1 hts gX0_passOverArcs_X1_begin rfl rfl rfl (by decide +kernel) ⟨Nat.le_of_ble_eq_true rfl, Nat.le_of_ble_eq_true rfl⟩) ⟨fun a U g mk q => by obtain ⟨q0, qP, qK⟩ := q; exact ⟨q0, qP, va_K.moved (u := U) (U := U.calling g mk a) (Vm.Alike.refl U.vm) qK⟩, va_recv hK hP (ci := 1) (q0 := 3) rfl rfl, fun U hU hW => ⟨rfl, by rw [hU]; exact hPc, va_K.moved hW.alike hK⟩⟩ rfl rfl hl.1 rfl (lv_room (Nat.le_of_ble_eq_true rfl)) dX0_passOverArcs_49 ⟨Nat.le_of_ble_eq_true rfl, Nat.le_of_ble_eq_true rfl⟩) (fun r_49 hw_49 => ?_)
            subst hw_49
            refine lv_istore (lv' := [(4, .int (fp_bg fr to i)), (0, .ref d0), (1, .int 0), (2, .int ch), (3, .int (nI i))]) hx hb dX0_passOverArcs_52 hl (by decide) rfl (fun ls hl => ?_)
            refine lv_iload_n hx hb dX0_passOverArcs_54 rfl (lv_at hl 2 rfl) ?_
            refine lv_if_eq (tgt := 69) hx hb dX0_passOverArcs_55 (by decide) (fun c_55 => ?_) (fun c_55 => ?_)
            · refine lv_aload_n hx hb dX0_passOverArcs_69 rfl (lv_at hl 1 rfl) ?_
              refine va_get (D := (dC, dI)) (ci := 0) (v := .ref (q 1)) (C := RX0) (T := TX0) (N := 3) hx hb hts fa_passF_0 hown hK hP 0 rfl rfl 2 (by decide) (hts _ fa_passF_1) (fun _ h9 => h9) rfl dX0_passOverArcs_70 ?_
              refine lv_iload_n hx hb dX0_passOverArcs_73 rfl (lv_at hl 4 rfl) ?_
              have hPc := hP.sub (ws' := [(q 1, .inr (1, [.int (nI N), .ref (q 2), .ref (q 3), .ref (q 4), .ref (q 5), .ref (q 6), .int (nI E)])), (q 2, .inl (cI, M, .inl fr)), (q 3, .inl (cI, M, .inl to)), (q 4, .inl (cI, M, .inl cap)), (q 5, .inl (cI, M, .inl uc)), (q 6, .inl (cI, M, .inl fl))]) [3, 4, 5, 6, 7, 8] rfl
              refine vp_callSi (W.runV (As := [.int (nI i)]) (rest := []) ⟨hx, hb, hml, hown, hts⟩ (k_end l dC dI cI cJ cZ q N M E fr to cap uc fl i (by omega) hM) (cwV 1 hts gX0_passOverArcs_X1_end rfl rfl rfl (by decide +kernel) ⟨Nat.le_of_ble_eq_true rfl, Nat.le_of_ble_eq_true rfl⟩) ⟨fun a U g mk q => by obtain ⟨q0, qP, qK⟩ := q; exact ⟨q0, qP, va_K.moved (u := U) (U := U.calling g mk a) (Vm.Alike.refl U.vm) qK⟩, va_recv hK hP (ci := 1) (q0 := 3) rfl rfl, fun U hU hW => ⟨rfl, by rw [hU]; exact hPc, va_K.moved hW.alike hK⟩⟩ rfl rfl hl.1 rfl (lv_room (Nat.le_of_ble_eq_true rfl)) dX0_passOverArcs_74 ⟨Nat.le_of_ble_eq_true rfl, Nat.le_of_ble_eq_true rfl⟩) (fun r_74 hw_74 => ?_)
              subst hw_74
              refine lv_istore (lv' := [(5, .int (fp_en fr to i)), (4, .int (fp_bg fr to i)), (0, .ref d0), (1, .int 0), (2, .int ch), (3, .int (nI i))]) hx hb dX0_passOverArcs_77 hl (by decide) rfl (fun ls hl => ?_)
              refine lv_aload_n hx hb dX0_passOverArcs_79 rfl (lv_at hl 2 rfl) ?_
              refine lv_iload hx hb dX0_passOverArcs_80 (lv_at hl 1 rfl) ?_
              have hPc := hP.sub (ws' := [(d0, .inr (0, [.ref d1, .ref d2, .ref (q 1)])), (d1, .inl (cI, N, .inl g)), (d2, .inl (cI, N, .inl h))]) [0, 1, 2] rfl
              refine vp_callSi (W.runV (As := [.int (fp_bg fr to i)]) (rest := []) ⟨hx, hb, hml, hown, hts⟩ (k_reaches l dC dI cI cJ cZ d0 d1 d2 q N g h (fp_bg fr to i) (by assumption)) (cwV 1 hts gX0_passOverArcs_X0_reaches rfl rfl rfl (by decide +kernel) ⟨Nat.le_of_ble_eq_true rfl, Nat.le_of_ble_eq_true rfl⟩) ⟨fun a U g mk q => by obtain ⟨q0, qP, qK⟩ := q; exact ⟨q0, qP, va_K.moved (u := U) (U := U.calling g mk a) (Vm.Alike.refl U.vm) qK⟩, va_recv hK hP (ci := 0) (q0 := 0) rfl rfl, fun U hU hW => ⟨rfl, by rw [hU]; exact hPc, va_K.moved hW.alike hK⟩⟩ rfl rfl hl.1 rfl (lv_room (Nat.le_of_ble_eq_true rfl)) dX0_passOverArcs_82 ⟨Nat.le_of_ble_eq_true rfl, Nat.le_of_ble_eq_true rfl⟩) (fun r_82 hw_82 => ?_)
              subst hw_82
              refine lv_if_eq (tgt := 124) hx hb dX0_passOverArcs_85 (by decide) (fun c_85 => ?_) (fun c_85 => ?_)
              · refine lv_iinc (v := nI (i + 1)) (lv' := [(3, .int (nI (i + 1))), (5, .int (fp_en fr to i)), (4, .int (fp_bg fr to i)), (0, .ref d0), (1, .int 0), (2, .int ch)]) hx hb dX0_passOverArcs_124 hl (k := 5) rfl (by first | exact nI_1 _ | exact nI_add _ _) (by decide) rfl (fun ls hl => ?_)
                refine lv_goto (tgt := 4) hx hb dX0_passOverArcs_127 (by decide) ?_
                exact ih_a (i + 1) g h ch (by first | assumption | omega | rfl) (by rw [fp_ps, hst]; first | exact rx_a c_23 | exact rx_b c_23 (rch0 c_85) | exact rx_c0 c_23 (rch1 c_85) c_119 | exact rx_c1 c_23 (rch1 c_85) c_119) (by omega) _ _ hP hD hS _ (lv_sub hl [3, 4, 5, 0] rfl)
              · refine lv_aload_n hx hb dX0_passOverArcs_88 rfl (lv_at hl 2 rfl) ?_
                refine lv_iload hx hb dX0_passOverArcs_89 (lv_at hl 0 rfl) ?_
                refine lv_aload_n hx hb dX0_passOverArcs_91 rfl (lv_at hl 2 rfl) ?_
                refine va_get (D := (dC, dI)) (ci := 0) (v := .ref d1) (C := RX0) (T := TX0) (N := 3) hx hb hts fa_passF_0 hown hK hP 0 rfl rfl 0 (by decide) (hts _ fa_passF_2) (fun _ h9 => h9) rfl dX0_passOverArcs_92 ?_
                refine lv_iload hx hb dX0_passOverArcs_95 (lv_at hl 1 rfl) ?_
                refine va_iald (D := (dC, dI)) hx hb hK hP 1 0 rfl rfl (by first | assumption | exact vp_in_nI (by omega) (by omega)) dX0_passOverArcs_97 ?_
                refine lv_aload_n hx hb dX0_passOverArcs_98 rfl (lv_at hl 2 rfl) ?_
                refine va_get (D := (dC, dI)) (ci := 0) (v := .ref (q 1)) (C := RX0) (T := TX0) (N := 3) hx hb hts fa_passF_0 hown hK hP 0 rfl rfl 2 (by decide) (hts _ fa_passF_1) (fun _ h9 => h9) rfl dX0_passOverArcs_99 ?_
                refine lv_iload_n hx hb dX0_passOverArcs_102 rfl (lv_at hl 5 rfl) ?_
                have hPc := hP.sub (ws' := [(q 1, .inr (1, [.int (nI N), .ref (q 2), .ref (q 3), .ref (q 4), .ref (q 5), .ref (q 6), .int (nI E)])), (q 2, .inl (cI, M, .inl fr)), (q 3, .inl (cI, M, .inl to)), (q 4, .inl (cI, M, .inl cap)), (q 5, .inl (cI, M, .inl uc)), (q 6, .inl (cI, M, .inl fl))]) [3, 4, 5, 6, 7, 8] rfl
                refine vp_callSi (W.runV (As := [.int (nI i)]) (rest := [.int (g (fp_bg fr to i).toNatClampNeg), .int (fp_en fr to i), .ref d0]) ⟨hx, hb, hml, hown, hts⟩ (k_price l dC dI cI cJ cZ q N M E fr to cap uc fl i (by omega) hM) (cwV 1 hts gX0_passOverArcs_X1_price rfl rfl rfl (by decide +kernel) ⟨Nat.le_of_ble_eq_true rfl, Nat.le_of_ble_eq_true rfl⟩) ⟨fun a U g mk q => by obtain ⟨q0, qP, qK⟩ := q; exact ⟨q0, qP, va_K.moved (u := U) (U := U.calling g mk a) (Vm.Alike.refl U.vm) qK⟩, va_recv hK hP (ci := 1) (q0 := 3) rfl rfl, fun U hU hW => ⟨rfl, by rw [hU]; exact hPc, va_K.moved hW.alike hK⟩⟩ rfl rfl hl.1 rfl (lv_room (Nat.le_of_ble_eq_true rfl)) dX0_passOverArcs_103 ⟨Nat.le_of_ble_eq_true rfl, Nat.le_of_ble_eq_true rfl⟩) (fun r_103 hw_103 => ?_)
                subst hw_103
                refine lv_iadd hx hb dX0_passOverArcs_106 ?_
                refine lv_aload_n hx hb dX0_passOverArcs_107 rfl (lv_at hl 2 rfl) ?_
                refine va_get (D := (dC, dI)) (ci := 0) (v := .ref d2) (C := RX0) (T := TX0) (N := 3) hx hb hts fa_passF_0 hown hK hP 0 rfl rfl 1 (by decide) (hts _ fa_passF_3) (fun _ h9 => h9) rfl dX0_passOverArcs_108 ?_
                refine lv_iload hx hb dX0_passOverArcs_111 (lv_at hl 1 rfl) ?_
                refine va_iald (D := (dC, dI)) hx hb hK hP 2 0 rfl rfl (by first | assumption | exact vp_in_nI (by omega) (by omega)) dX0_passOverArcs_113 ?_
                refine lv_iconst (v := 1) hx hb dX0_passOverArcs_114 (by decide) ?_
                refine lv_iadd hx hb dX0_passOverArcs_115 ?_
                have hPc := hP.sub (ws' := [(d0, .inr (0, [.ref d1, .ref d2, .ref (q 1)])), (d1, .inl (cI, N, .inl g)), (d2, .inl (cI, N, .inl h))]) [0, 1, 2] rfl
                have hDc := hD.sub (ws' := [(d0, .inr (0, [.ref d1, .ref d2, .ref (q 1)])), (d1, .inl (cI, N, .inl g)), (d2, .inl (cI, N, .inl h))]) [0, 1, 2] (by decide) rfl
                have hFc := va_free (wc := [(d0, .inr (0, [.ref d1, .ref d2, .ref (q 1)])), (d1, .inl (cI, N, .inl g)), (d2, .inl (cI, N, .inl h))]) hD hS hA [0, 1, 2] rfl
                refine va_calli (va_runV (As := [.int (fp_en fr to i), .int ((g (fp_bg fr to i).toNatClampNeg) + (fp_pr uc i)), .int ((h (fp_bg fr to i).toNatClampNeg) + 1)]) (rest := []) ⟨hx, hb, hml, hown, hts⟩ (k_shorten l dC dI cI cJ cZ d0 d1 d2 q N g h (fp_en fr to i) ((g (fp_bg fr to i).toNatClampNeg) + (fp_pr uc i)) ((h (fp_bg fr to i).toNatClampNeg) + 1) H.size (by assumption)) (cwV 3 hts gX0_passOverArcs_X0_shorten rfl rfl rfl (by decide +kernel) ⟨Nat.le_of_ble_eq_true rfl, Nat.le_of_ble_eq_true rfl⟩) ⟨fun a U g mk q => by obtain ⟨q0, q1, qP, qK, qD⟩ := q; exact ⟨q0, q1, qP, va_K.moved (u := U) (U := U.calling g mk a) (Vm.Alike.refl U.vm) qK, qD⟩, va_recv hK hP (ci := 0) (q0 := 0) rfl rfl, fun U hU hW => ⟨rfl, by rw [hU], by rw [hU]; exact hPc, va_K.moved hW.alike hK, hDc.weaken (fun _ _ _ _ => trivial)⟩⟩ rfl rfl hl.1 rfl (lv_room (Nat.le_of_ble_eq_true rfl)) dX0_passOverArcs_116 ⟨Nat.le_of_ble_eq_true rfl, Nat.le_of_ble_eq_true rfl⟩) hS (fun q _ h => hFc q h) hFc (fun r_116 u t H1 locs ht hvm hw_116 hB hz1 hk1 hS => ?_)
                obtain ⟨hP1, hK1, hD1⟩ := hB
                rw [ht] at hP1
                obtain ⟨hP, hD⟩ := va_join (wr := [(q 1, .inr (1, [.int (nI N), .ref (q 2), .ref (q 3), .ref (q 4), .ref (q 5), .ref (q 6), .int (nI E)])), (q 2, .inl (cI, M, .inl fr)), (q 3, .inl (cI, M, .inl to)), (q 4, .inl (cI, M, .inl cap)), (q 5, .inl (cI, M, .inl uc)), (q 6, .inl (cI, M, .inl fl))]) (w1 := [(d0, .inr (0, [.ref d1, .ref d2, .ref (q 1)])), (d1, .inl (cI, N, .inl (fp_sle g h ((fp_en fr to i).toNatClampNeg) ((g (fp_bg fr to i).toNatClampNeg) + (fp_pr uc i)) ((h (fp_bg fr to i).toNatClampNeg) + 1)))), (d2, .inl (cI, N, .inl (fp_sfe g h ((fp_en fr to i).toNatClampNeg) ((g (fp_bg fr to i).toNatClampNeg) + (fp_pr uc i)) ((h (fp_bg fr to i).toNatClampNeg) + 1))))]) hP hD [0, 1, 2] [3, 4, 5, 6, 7, 8] rfl rfl (by decide) (by decide) hk1 hFc hP1 hD1
                generalize H1 = H at hP hS ⊢
                have hP := hP.sub (ws' := [(d0, .inr (0, [.ref d1, .ref d2, .ref (q 1)])), (d1, .inl (cI, N, .inl (fp_sle g h ((fp_en fr to i).toNatClampNeg) ((g (fp_bg fr to i).toNatClampNeg) + (fp_pr uc i)) ((h (fp_bg fr to i).toNatClampNeg) + 1)))), (d2, .inl (cI, N, .inl (fp_sfe g h ((fp_en fr to i).toNatClampNeg) ((g (fp_bg fr to i).toNatClampNeg) + (fp_pr uc i)) ((h (fp_bg fr to i).toNatClampNeg) + 1)))), (q 1, .inr (1, [.int (nI N), .ref (q 2), .ref (q 3), .ref (q 4), .ref (q 5), .ref (q 6), .int (nI E)])), (q 2, .inl (cI, M, .inl fr)), (q 3, .inl (cI, M, .inl to)), (q 4, .inl (cI, M, .inl cap)), (q 5, .inl (cI, M, .inl uc)), (q 6, .inl (cI, M, .inl fl))]) [6, 7, 8, 0, 1, 2, 3, 4, 5] rfl
                have hD := hD.sub (ws' := [(d0, .inr (0, [.ref d1, .ref d2, .ref (q 1)])), (d1, .inl (cI, N, .inl (fp_sle g h ((fp_en fr to i).toNatClampNeg) ((g (fp_bg fr to i).toNatClampNeg) + (fp_pr uc i)) ((h (fp_bg fr to i).toNatClampNeg) + 1)))), (d2, .inl (cI, N, .inl (fp_sfe g h ((fp_en fr to i).toNatClampNeg) ((g (fp_bg fr to i).toNatClampNeg) + (fp_pr uc i)) ((h (fp_bg fr to i).toNatClampNeg) + 1)))), (q 1, .inr (1, [.int (nI N), .ref (q 2), .ref (q 3), .ref (q 4), .ref (q 5), .ref (q 6), .int (nI E)])), (q 2, .inl (cI, M, .inl fr)), (q 3, .inl (cI, M, .inl to)), (q 4, .inl (cI, M, .inl cap)), (q 5, .inl (cI, M, .inl uc)), (q 6, .inl (cI, M, .inl fl))]) [6, 7, 8, 0, 1, 2, 3, 4, 5] (by decide) rfl
                obtain rfl := hw_116
                refine lv_if_eq (tgt := 124) hx hb dX0_passOverArcs_119 (by decide) (fun c_119 => ?_) (fun c_119 => ?_)
                · refine lv_iinc (v := nI (i + 1)) (lv' := [(3, .int (nI (i + 1))), (5, .int (fp_en fr to i)), (4, .int (fp_bg fr to i)), (0, .ref d0), (1, .int 0), (2, .int ch)]) hx hb dX0_passOverArcs_124 hl (k := 5) rfl (by first | exact nI_1 _ | exact nI_add _ _) (by decide) rfl (fun ls hl => ?_)
                  refine lv_goto (tgt := 4) hx hb dX0_passOverArcs_127 (by decide) ?_
                  exact ih_a (i + 1) (fp_sle g h ((fp_en fr to i).toNatClampNeg) ((g (fp_bg fr to i).toNatClampNeg) + (fp_pr uc i)) ((h (fp_bg fr to i).toNatClampNeg) + 1)) (fp_sfe g h ((fp_en fr to i).toNatClampNeg) ((g (fp_bg fr to i).toNatClampNeg) + (fp_pr uc i)) ((h (fp_bg fr to i).toNatClampNeg) + 1)) ch (by first | assumption | omega | rfl) (by rw [fp_ps, hst]; first | exact rx_a c_23 | exact rx_b c_23 (rch0 c_85) | exact rx_c0 c_23 (rch1 c_85) c_119 | exact rx_c1 c_23 (rch1 c_85) c_119) (by omega) _ _ hP hD hS _ (lv_sub hl [3, 4, 5, 0] rfl)
                · refine lv_iconst (v := 1) hx hb dX0_passOverArcs_122 (by decide) ?_
                  refine lv_istore_n (lv' := [(2, .int 1), (5, .int (fp_en fr to i)), (4, .int (fp_bg fr to i)), (0, .ref d0), (1, .int 0), (3, .int (nI i))]) hx hb dX0_passOverArcs_123 rfl hl (by decide) rfl (fun ls hl => ?_)
                  refine lv_iinc (v := nI (i + 1)) (lv' := [(3, .int (nI (i + 1))), (2, .int 1), (5, .int (fp_en fr to i)), (4, .int (fp_bg fr to i)), (0, .ref d0), (1, .int 0)]) hx hb dX0_passOverArcs_124 hl (k := 5) rfl (by first | exact nI_1 _ | exact nI_add _ _) (by decide) rfl (fun ls hl => ?_)
                  refine lv_goto (tgt := 4) hx hb dX0_passOverArcs_127 (by decide) ?_
                  exact ih_a (i + 1) (fp_sle g h ((fp_en fr to i).toNatClampNeg) ((g (fp_bg fr to i).toNatClampNeg) + (fp_pr uc i)) ((h (fp_bg fr to i).toNatClampNeg) + 1)) (fp_sfe g h ((fp_en fr to i).toNatClampNeg) ((g (fp_bg fr to i).toNatClampNeg) + (fp_pr uc i)) ((h (fp_bg fr to i).toNatClampNeg) + 1)) 1 (by first | assumption | omega | rfl) (by rw [fp_ps, hst]; first | exact rx_a c_23 | exact rx_b c_23 (rch0 c_85) | exact rx_c0 c_23 (rch1 c_85) c_119 | exact rx_c1 c_23 (rch1 c_85) c_119) (by omega) _ _ hP hD hS _ (lv_sub hl [4, 5, 1, 0] rfl)
            · exact absurd rfl c_55
          · exact absurd rfl c_30
        · refine lv_goto (tgt := 124) hx hb dX0_passOverArcs_26 (by decide) ?_
          refine lv_iinc (v := nI (i + 1)) (lv' := [(3, .int (nI (i + 1))), (0, .ref d0), (1, .int 0), (2, .int ch)]) hx hb dX0_passOverArcs_124 hl (k := 3) rfl (by first | exact nI_1 _ | exact nI_add _ _) (by decide) rfl (fun ls hl => ?_)
          refine lv_goto (tgt := 4) hx hb dX0_passOverArcs_127 (by decide) ?_
          exact ih_a (i + 1) g h ch (by first | assumption | omega | rfl) (by rw [fp_ps, hst]; first | exact rx_a c_23 | exact rx_b c_23 (rch0 c_85) | exact rx_c0 c_23 (rch1 c_85) c_119 | exact rx_c1 c_23 (rch1 c_85) c_119) (by omega) _ _ hP hD hS _ (lv_sub hl [1, 2, 3, 0] rfl)
  exact lo_a (2 * E - 0 + 1) 0 le fe 0 (by first | assumption | omega | rfl) rfl (by omega) _ _ hP hD hS _ (lv_sub hl [2, 3, 1, 0] rfl)

theorem fa_passT_0 : ∀ w ∈ wsX00, w ∈ wsX0_passOverArcs := by decide +kernel
theorem fa_passT_1 : Cond.fieldLink RX0 9 "FlowProofs$Distances" "net" "LFlowProofs$Net;" ∈ wsX0_passOverArcs := by decide +kernel
theorem fa_passT_2 : Cond.fieldLink RX0 21 "FlowProofs$Distances" "least" "[I" ∈ wsX0_passOverArcs := by decide +kernel
theorem fa_passT_3 : Cond.fieldLink RX0 25 "FlowProofs$Distances" "fewest" "[I" ∈ wsX0_passOverArcs := by decide +kernel
set_option maxHeartbeats 4000000 in
set_option maxRecDepth 100000 in
theorem k_passT (l : Launch) (dC : Nat → ClassId) (dI : Nat → Nat → Nat) (cI cJ cZ : ClassId) (d0 d1 d2 : Nat) (q : Nat → Nat) (N M E : Nat) (fr to cap uc fl : Nat → Int32) (le fe : Nat → Int32) (sz : Nat) (hE : E ≤ M) (hM : M < 1000) (hN : N < 1000) (hfr : ∀ e, e < E → vp_in (fr e) N) (hto : ∀ e, e < E → vp_in (to e) N) : Met l yX0_passOverArcs wsX0_passOverArcs ({ frames := 2, cells := 0, slots := 0, locals := 42 }) (va_Pc [.ref d0, .int 1] (fun U => U.heap.size = sz ∧ va_P (dC, dI) vwCl [(d0, .inr (0, [.ref d1, .ref d2, .ref (q 1)])), (d1, .inl (cI, N, .inl le)), (d2, .inl (cI, N, .inl fe)), (q 1, .inr (1, [.int (nI N), .ref (q 2), .ref (q 3), .ref (q 4), .ref (q 5), .ref (q 6), .int (nI E)])), (q 2, .inl (cI, M, .inl fr)), (q 3, .inl (cI, M, .inl to)), (q 4, .inl (cI, M, .inl cap)), (q 5, .inl (cI, M, .inl uc)), (q 6, .inl (cI, M, .inl fl))] U.heap ∧ va_K (dC, dI) vwCl [(cI, .int), (cJ, .long), (cZ, .boolean)] U ∧ va_D (fun _ => True) [(d0, .inr (0, [.ref d1, .ref d2, .ref (q 1)])), (d1, .inl (cI, N, .inl le)), (d2, .inl (cI, N, .inl fe)), (q 1, .inr (1, [.int (nI N), .ref (q 2), .ref (q 3), .ref (q 4), .ref (q 5), .ref (q 6), .int (nI E)])), (q 2, .inl (cI, M, .inl fr)), (q 3, .inl (cI, M, .inl to)), (q 4, .inl (cI, M, .inl cap)), (q 5, .inl (cI, M, .inl uc)), (q 6, .inl (cI, M, .inl fl))])) (va_Qi (fun (r : Int32) (u_ : Unit) => r = (fp_ps true fr to cap uc fl le fe (2 * E)).2.2) (fun (u_ : Unit) (t : State) => va_P (dC, dI) vwCl [(d0, .inr (0, [.ref d1, .ref d2, .ref (q 1)])), (d1, .inl (cI, N, .inl ((fp_ps true fr to cap uc fl le fe (2 * E)).1))), (d2, .inl (cI, N, .inl ((fp_ps true fr to cap uc fl le fe (2 * E)).2.1))), (q 1, .inr (1, [.int (nI N), .ref (q 2), .ref (q 3), .ref (q 4), .ref (q 5), .ref (q 6), .int (nI E)])), (q 2, .inl (cI, M, .inl fr)), (q 3, .inl (cI, M, .inl to)), (q 4, .inl (cI, M, .inl cap)), (q 5, .inl (cI, M, .inl uc)), (q 6, .inl (cI, M, .inl fl))] t.heap ∧ va_K (dC, dI) vwCl [(cI, .int), (cJ, .long), (cZ, .boolean)] t ∧ va_D (va_A [(d0, .inr (0, [.ref d1, .ref d2, .ref (q 1)])), (d1, .inl (cI, N, .inl le)), (d2, .inl (cI, N, .inl fe)), (q 1, .inr (1, [.int (nI N), .ref (q 2), .ref (q 3), .ref (q 4), .ref (q 5), .ref (q 6), .int (nI E)])), (q 2, .inl (cI, M, .inl fr)), (q 3, .inl (cI, M, .inl to)), (q 4, .inl (cI, M, .inl cap)), (q 5, .inl (cI, M, .inl uc)), (q 6, .inl (cI, M, .inl fl))] sz) [(d0, .inr (0, [.ref d1, .ref d2, .ref (q 1)])), (d1, .inl (cI, N, .inl ((fp_ps true fr to cap uc fl le fe (2 * E)).1))), (d2, .inl (cI, N, .inl ((fp_ps true fr to cap uc fl le fe (2 * E)).2.1))), (q 1, .inr (1, [.int (nI N), .ref (q 2), .ref (q 3), .ref (q 4), .ref (q 5), .ref (q 6), .int (nI E)])), (q 2, .inl (cI, M, .inl fr)), (q 3, .inl (cI, M, .inl to)), (q 4, .inl (cI, M, .inl cap)), (q 5, .inl (cI, M, .inl uc)), (q 6, .inl (cI, M, .inl fl))]) (va_A [(d0, .inr (0, [.ref d1, .ref d2, .ref (q 1)])), (d1, .inl (cI, N, .inl le)), (d2, .inl (cI, N, .inl fe)), (q 1, .inr (1, [.int (nI N), .ref (q 2), .ref (q 3), .ref (q 4), .ref (q 5), .ref (q 6), .int (nI E)])), (q 2, .inl (cI, M, .inl fr)), (q 3, .inl (cI, M, .inl to)), (q 4, .inl (cI, M, .inl cap)), (q 5, .inl (cI, M, .inl uc)), (q 6, .inl (cI, M, .inl fl))] sz)) 0 0 (va_A [(d0, .inr (0, [.ref d1, .ref d2, .ref (q 1)])), (d1, .inl (cI, N, .inl le)), (d2, .inl (cI, N, .inl fe)), (q 1, .inr (1, [.int (nI N), .ref (q 2), .ref (q 3), .ref (q 4), .ref (q 5), .ref (q 6), .int (nI E)])), (q 2, .inl (cI, M, .inl fr)), (q 3, .inl (cI, M, .inl to)), (q 4, .inl (cI, M, .inl cap)), (q 5, .inl (cI, M, .inl uc)), (q 6, .inl (cI, M, .inl fl))] sz) := by
  refine Met.ofW (cc := cX0_passOverArcs) (maxL := 6) (ret := (some .boolean)) (by decide) rfl ?_
  intro p e s m args below meth c s₁ B hml hv
  obtain ⟨rfl, hsz, hP, hK, hD0⟩ := hv
  have hx := B.exec
  have hb := B.bytes
  have hr := B.returns
  have hts := atoms_spec (ws := wsX0_passOverArcs) B.pre
  have hown : s.vm.findClass RX0 = some m.cls := findClass_of_methodNamed B.named
  have hlocks := B.notSynchronized
  subst hsz
  have hD := hD0.self (sz := s.heap.size)
  generalize hAe : va_A [(d0, .inr (0, [.ref d1, .ref d2, .ref (q 1)])), (d1, .inl (cI, N, .inl le)), (d2, .inl (cI, N, .inl fe)), (q 1, .inr (1, [.int (nI N), .ref (q 2), .ref (q 3), .ref (q 4), .ref (q 5), .ref (q 6), .int (nI E)])), (q 2, .inl (cI, M, .inl fr)), (q 3, .inl (cI, M, .inl to)), (q 4, .inl (cI, M, .inl cap)), (q 5, .inl (cI, M, .inl uc)), (q 6, .inl (cI, M, .inl fl))] s.heap.size = A at hD ⊢
  have hA : ∀ q : Nat, s.heap.size ≤ q → A q := fun q h => by rw [← hAe]; exact Or.inr h
  have hS : va_S A s.heap s.heap [] := va_S.rf
  have hP : va_P (dC, dI) vwCl [(d0, .inr (0, [.ref d1, .ref d2, .ref (q 1)])), (d1, .inl (cI, N, .inl le)), (d2, .inl (cI, N, .inl fe)), (q 1, .inr (1, [.int (nI N), .ref (q 2), .ref (q 3), .ref (q 4), .ref (q 5), .ref (q 6), .int (nI E)])), (q 2, .inl (cI, M, .inl fr)), (q 3, .inl (cI, M, .inl to)), (q 4, .inl (cI, M, .inl cap)), (q 5, .inl (cI, M, .inl uc)), (q 6, .inl (cI, M, .inl fl))] s.heap := hP
  have hl := lv_entry ([.ref d0, .int 1]) (n := 6) (Nat.le_of_ble_eq_true rfl)
  rw [lg_entry_eq]
  generalize (lg_sl ([.ref d0, .int 1]) ++ List.replicate (6 - (lg_sl ([.ref d0, .int 1])).length) Slot.unset).toArray = ls at hl ⊢
  have hl : lv_has ls 6 [(0, .ref d0), (1, .int 1)] := hl
  refine lv_iconst (v := 0) hx hb dX0_passOverArcs_0 (by decide) ?_
  refine lv_istore_n (lv' := [(2, .int 0), (0, .ref d0), (1, .int 1)]) hx hb dX0_passOverArcs_1 rfl hl (by decide) rfl (fun ls hl => ?_)
  refine lv_iconst (v := 0) hx hb dX0_passOverArcs_2 (by decide) ?_
  refine tp_i (y := nI 0) nI_0.symm ?_
  refine lv_istore_n (lv' := [(3, .int (nI 0)), (2, .int 0), (0, .ref d0), (1, .int 1)]) hx hb dX0_passOverArcs_3 rfl hl (by decide) rfl (fun ls hl => ?_)
  have lo_a : ∀ (nf : Nat) (i : Nat) (g : Nat → Int32) (h : Nat → Int32) (ch : Int32) (hi : i ≤ 2 * E) (hst : fp_ps true fr to cap uc fl le fe i = (g, h, ch)) (hfu : 2 * E - i < nf) (H : Heap) (locs : List Loc) (hP : va_P (dC, dI) vwCl [(d0, .inr (0, [.ref d1, .ref d2, .ref (q 1)])), (d1, .inl (cI, N, .inl g)), (d2, .inl (cI, N, .inl h)), (q 1, .inr (1, [.int (nI N), .ref (q 2), .ref (q 3), .ref (q 4), .ref (q 5), .ref (q 6), .int (nI E)])), (q 2, .inl (cI, M, .inl fr)), (q 3, .inl (cI, M, .inl to)), (q 4, .inl (cI, M, .inl cap)), (q 5, .inl (cI, M, .inl uc)), (q 6, .inl (cI, M, .inl fl))] H) (hD : va_D A [(d0, .inr (0, [.ref d1, .ref d2, .ref (q 1)])), (d1, .inl (cI, N, .inl g)), (d2, .inl (cI, N, .inl h)), (q 1, .inr (1, [.int (nI N), .ref (q 2), .ref (q 3), .ref (q 4), .ref (q 5), .ref (q 6), .int (nI E)])), (q 2, .inl (cI, M, .inl fr)), (q 3, .inl (cI, M, .inl to)), (q 4, .inl (cI, M, .inl cap)), (q 5, .inl (cI, M, .inl uc)), (q 6, .inl (cI, M, .inl fl))]) (hS : va_S A s.heap H locs) (ls : Array Slot) (hl : lv_has ls 6 [(0, .ref d0), (1, .int 1), (2, .int ch), (3, .int (nI i))]), W p l e (headSpec wsX0_passOverArcs ({ frames := 2, cells := 0, slots := 0, locals := 42 })).room s m ([.ref d0, .int 1] : List Value).toArray below meth c H locs 0 0 (MQ below (va_Qi (fun (r : Int32) (u_ : Unit) => r = (fp_ps true fr to cap uc fl le fe (2 * E)).2.2) (fun (u_ : Unit) (t : State) => va_P (dC, dI) vwCl [(d0, .inr (0, [.ref d1, .ref d2, .ref (q 1)])), (d1, .inl (cI, N, .inl ((fp_ps true fr to cap uc fl le fe (2 * E)).1))), (d2, .inl (cI, N, .inl ((fp_ps true fr to cap uc fl le fe (2 * E)).2.1))), (q 1, .inr (1, [.int (nI N), .ref (q 2), .ref (q 3), .ref (q 4), .ref (q 5), .ref (q 6), .int (nI E)])), (q 2, .inl (cI, M, .inl fr)), (q 3, .inl (cI, M, .inl to)), (q 4, .inl (cI, M, .inl cap)), (q 5, .inl (cI, M, .inl uc)), (q 6, .inl (cI, M, .inl fl))] t.heap ∧ va_K (dC, dI) vwCl [(cI, .int), (cJ, .long), (cZ, .boolean)] t ∧ va_D A [(d0, .inr (0, [.ref d1, .ref d2, .ref (q 1)])), (d1, .inl (cI, N, .inl ((fp_ps true fr to cap uc fl le fe (2 * E)).1))), (d2, .inl (cI, N, .inl ((fp_ps true fr to cap uc fl le fe (2 * E)).2.1))), (q 1, .inr (1, [.int (nI N), .ref (q 2), .ref (q 3), .ref (q 4), .ref (q 5), .ref (q 6), .int (nI E)])), (q 2, .inl (cI, M, .inl fr)), (q 3, .inl (cI, M, .inl to)), (q 4, .inl (cI, M, .inl cap)), (q 5, .inl (cI, M, .inl uc)), (q 6, .inl (cI, M, .inl fl))]) A) ([.ref d0, .int 1] : List Value).toArray s 0 0 A) (F0 m 4 ls [])
    := by
    intro nf
    induction nf with
    | zero => intro i g h ch hi hst hfu H locs hP hD hS ls hl; exact absurd hfu (Nat.not_lt_zero _)
    | succ nf ih_a =>
      intro i g h ch hi hst hfu H locs hP hD hS ls hl
      refine lv_iload_n hx hb dX0_passOverArcs_4 rfl (lv_at hl 3 rfl) ?_
      refine lv_aload_n hx hb dX0_passOverArcs_5 rfl (lv_at hl 0 rfl) ?_
      refine va_get (D := (dC, dI)) (ci := 0) (v := .ref (q 1)) (C := RX0) (T := TX0) (N := 3) hx hb hts fa_passT_0 hown hK hP 0 rfl rfl 2 (by decide) (hts _ fa_passT_1) (fun _ h9 => h9) rfl dX0_passOverArcs_6 ?_
      have hPc := hP.sub (ws' := [(q 1, .inr (1, [.int (nI N), .ref (q 2), .ref (q 3), .ref (q 4), .ref (q 5), .ref (q 6), .int (nI E)])), (q 2, .inl (cI, M, .inl fr)), (q 3, .inl (cI, M, .inl to)), (q 4, .inl (cI, M, .inl cap)), (q 5, .inl (cI, M, .inl uc)), (q 6, .inl (cI, M, .inl fl))]) [3, 4, 5, 6, 7, 8] rfl
      refine vp_callSi (W.runV (As := []) (rest := [.int (nI i)]) ⟨hx, hb, hml, hown, hts⟩ (k_arcs l dC dI cI cJ cZ q N M E fr to cap uc fl) (cwV 0 hts gX0_passOverArcs_X1_arcs rfl rfl rfl (by decide +kernel) ⟨Nat.le_of_ble_eq_true rfl, Nat.le_of_ble_eq_true rfl⟩) ⟨fun a U g mk q => by obtain ⟨q0, qP, qK⟩ := q; exact ⟨q0, qP, va_K.moved (u := U) (U := U.calling g mk a) (Vm.Alike.refl U.vm) qK⟩, va_recv hK hP (ci := 1) (q0 := 3) rfl rfl, fun U hU hW => ⟨rfl, by rw [hU]; exact hPc, va_K.moved hW.alike hK⟩⟩ rfl rfl hl.1 rfl (lv_room (Nat.le_of_ble_eq_true rfl)) dX0_passOverArcs_9 ⟨Nat.le_of_ble_eq_true rfl, Nat.le_of_ble_eq_true rfl⟩) (fun r_9 hw_9 => ?_)
      subst hw_9
      refine lv_icmp_ge (tgt := 130) hx hb dX0_passOverArcs_12 (by decide) (fun c_12 => ?_) (fun c_12 => ?_)
      · have hge := ix_ge (by omega) (by omega) c_12
        obtain rfl : i = 2 * E := by omega
        refine lv_iload_n hx hb dX0_passOverArcs_130 rfl (lv_at hl 2 rfl) ?_
        have hP := va_P_conI hP 1 (g := (fp_ps true fr to cap uc fl le fe (2 * E)).1) rfl (fun j _ => by first | (rw [hst]; done) | (rw [hst]; rfl))
        have hD := va_D_con hD 1 (e1 := .inl (cI, N, .inl ((fp_ps true fr to cap uc fl le fe (2 * E)).1))) rfl
        have hP := va_P_conI hP 2 (g := (fp_ps true fr to cap uc fl le fe (2 * E)).2.1) rfl (fun j _ => by first | (rw [hst]; done) | (rw [hst]; rfl))
        have hD := va_D_con hD 2 (e1 := .inl (cI, N, .inl ((fp_ps true fr to cap uc fl le fe (2 * E)).2.1))) rfl
        have hP9 := hP.sub (ws' := [(d0, .inr (0, [.ref d1, .ref d2, .ref (q 1)])), (d1, .inl (cI, N, .inl ((fp_ps true fr to cap uc fl le fe (2 * E)).1))), (d2, .inl (cI, N, .inl ((fp_ps true fr to cap uc fl le fe (2 * E)).2.1))), (q 1, .inr (1, [.int (nI N), .ref (q 2), .ref (q 3), .ref (q 4), .ref (q 5), .ref (q 6), .int (nI E)])), (q 2, .inl (cI, M, .inl fr)), (q 3, .inl (cI, M, .inl to)), (q 4, .inl (cI, M, .inl cap)), (q 5, .inl (cI, M, .inl uc)), (q 6, .inl (cI, M, .inl fl))]) [0, 1, 2, 3, 4, 5, 6, 7, 8] rfl
        have hD9 := hD.sub (ws' := [(d0, .inr (0, [.ref d1, .ref d2, .ref (q 1)])), (d1, .inl (cI, N, .inl ((fp_ps true fr to cap uc fl le fe (2 * E)).1))), (d2, .inl (cI, N, .inl ((fp_ps true fr to cap uc fl le fe (2 * E)).2.1))), (q 1, .inr (1, [.int (nI N), .ref (q 2), .ref (q 3), .ref (q 4), .ref (q 5), .ref (q 6), .int (nI E)])), (q 2, .inl (cI, M, .inl fr)), (q 3, .inl (cI, M, .inl to)), (q 4, .inl (cI, M, .inl cap)), (q 5, .inl (cI, M, .inl uc)), (q 6, .inl (cI, M, .inl fl))]) [0, 1, 2, 3, 4, 5, 6, 7, 8] (by decide) rfl
        exact W.zret (v := ch) hx hb hr (nb01 (by have h9 := fp_ps_ch true fr to cap uc fl le fe (2 * E); rw [hst] at h9; exact h9)) (fun t ht hW => ⟨⟨ch, (), rfl, (by rw [hst]), by rw [ht]; exact hP9, va_K.moved hW.alike hK, hD9⟩, hS.F ht⟩) hS.2.2 dX0_passOverArcs_131
      · have hlt := ix_lt (by omega) (by omega) c_12
        have hbi := bg_in hfr hto hlt
        have hei := en_in hfr hto hlt
        refine lv_aload_n hx hb dX0_passOverArcs_15 rfl (lv_at hl 0 rfl) ?_
        refine va_get (D := (dC, dI)) (ci := 0) (v := .ref (q 1)) (C := RX0) (T := TX0) (N := 3) hx hb hts fa_passT_0 hown hK hP 0 rfl rfl 2 (by decide) (hts _ fa_passT_1) (fun _ h9 => h9) rfl dX0_passOverArcs_16 ?_
        refine lv_iload_n hx hb dX0_passOverArcs_19 rfl (lv_at hl 3 rfl) ?_
        have hPc := hP.sub (ws' := [(q 1, .inr (1, [.int (nI N), .ref (q 2), .ref (q 3), .ref (q 4), .ref (q 5), .ref (q 6), .int (nI E)])), (q 2, .inl (cI, M, .inl fr)), (q 3, .inl (cI, M, .inl to)), (q 4, .inl (cI, M, .inl cap)), (q 5, .inl (cI, M, .inl uc)), (q 6, .inl (cI, M, .inl fl))]) [3, 4, 5, 6, 7, 8] rfl
        refine vp_callSi (W.runV (As := [.int (nI i)]) (rest := []) ⟨hx, hb, hml, hown, hts⟩ (k_left l dC dI cI cJ cZ q N M E fr to cap uc fl i (by omega) hM) (cwV 1 hts gX0_passOverArcs_X1_left rfl rfl rfl (by decide +kernel) ⟨Nat.le_of_ble_eq_true rfl, Nat.le_of_ble_eq_true rfl⟩) ⟨fun a U g mk q => by obtain ⟨q0, qP, qK⟩ := q; exact ⟨q0, qP, va_K.moved (u := U) (U := U.calling g mk a) (Vm.Alike.refl U.vm) qK⟩, va_recv hK hP (ci := 1) (q0 := 3) rfl rfl, fun U hU hW => ⟨rfl, by rw [hU]; exact hPc, va_K.moved hW.alike hK⟩⟩ rfl rfl hl.1 rfl (lv_room (Nat.le_of_ble_eq_true rfl)) dX0_passOverArcs_20 ⟨Nat.le_of_ble_eq_true rfl, Nat.le_of_ble_eq_true rfl⟩) (fun r_20 hw_20 => ?_)
        subst hw_20
        refine lv_if_gt (tgt := 29) hx hb dX0_passOverArcs_23 (by decide) (fun c_23 => ?_) (fun c_23 => ?_)
        · refine lv_iload_n hx hb dX0_passOverArcs_29 rfl (lv_at hl 1 rfl) ?_
          refine lv_if_eq (tgt := 44) hx hb dX0_passOverArcs_30 (by decide) (fun c_30 => ?_) (fun c_30 => ?_)
          · exact absurd c_30 (by decide)
          · refine lv_aload_n hx hb dX0_passOverArcs_33 rfl (lv_at hl 0 rfl) ?_
            refine va_get (D := (dC, dI)) (ci := 0) (v := .ref (q 1)) (C := RX0) (T := TX0) (N := 3) hx hb hts fa_passT_0 hown hK hP 0 rfl rfl 2 (by decide) (hts _ fa_passT_1) (fun _ h9 => h9) rfl dX0_passOverArcs_34 ?_
            refine lv_iload_n hx hb dX0_passOverArcs_37 rfl (lv_at hl 3 rfl) ?_
            have hPc := hP.sub (ws' := [(q 1, .inr (1, [.int (nI N), .ref (q 2), .ref (q 3), .ref (q 4), .ref (q 5), .ref (q 6), .int (nI E)])), (q 2, .inl (cI, M, .inl fr)), (q 3, .inl (cI, M, .inl to)), (q 4, .inl (cI, M, .inl cap)), (q 5, .inl (cI, M, .inl uc)), (q 6, .inl (cI, M, .inl fl))]) [3, 4, 5, 6, 7, 8] rfl
            refine vp_callSi (W.runV (As := [.int (nI i)]) (rest := []) ⟨hx, hb, hml, hown, hts⟩ (k_end l dC dI cI cJ cZ q N M E fr to cap uc fl i (by omega) hM) (cwV 1 hts gX0_passOverArcs_X1_end rfl rfl rfl (by decide +kernel) ⟨Nat.le_of_ble_eq_true rfl, Nat.le_of_ble_eq_true rfl⟩) ⟨fun a U g mk q => by obtain ⟨q0, qP, qK⟩ := q; exact ⟨q0, qP, va_K.moved (u := U) (U := U.calling g mk a) (Vm.Alike.refl U.vm) qK⟩, va_recv hK hP (ci := 1) (q0 := 3) rfl rfl, fun U hU hW => ⟨rfl, by rw [hU]; exact hPc, va_K.moved hW.alike hK⟩⟩ rfl rfl hl.1 rfl (lv_room (Nat.le_of_ble_eq_true rfl)) dX0_passOverArcs_38 ⟨Nat.le_of_ble_eq_true rfl, Nat.le_of_ble_eq_true rfl⟩) (fun r_38 hw_38 => ?_)
            subst hw_38
            refine lv_goto (tgt := 52) hx hb dX0_passOverArcs_41 (by decide) ?_
            refine lv_istore (lv' := [(4, .int (fp_en fr to i)), (0, .ref d0), (1, .int 1), (2, .int ch), (3, .int (nI i))]) hx hb dX0_passOverArcs_52 hl (by decide) rfl (fun ls hl => ?_)
            refine lv_iload_n hx hb dX0_passOverArcs_54 rfl (lv_at hl 2 rfl) ?_
            refine lv_if_eq (tgt := 69) hx hb dX0_passOverArcs_55 (by decide) (fun c_55 => ?_) (fun c_55 => ?_)
            · exact absurd c_55 (by decide)
            · refine lv_aload_n hx hb dX0_passOverArcs_58 rfl (lv_at hl 1 rfl) ?_
              refine va_get (D := (dC, dI)) (ci := 0) (v := .ref (q 1)) (C := RX0) (T := TX0) (N := 3) hx hb hts fa_passT_0 hown hK hP 0 rfl rfl 2 (by decide) (hts _ fa_passT_1) (fun _ h9 => h9) rfl dX0_passOverArcs_59 ?_
              refine lv_iload_n hx hb dX0_passOverArcs_62 rfl (lv_at hl 4 rfl) ?_
              have hPc := hP.sub (ws' := [(q 1, .inr (1, [.int (nI N), .ref (q 2), .ref (q 3), .ref (q 4), .ref (q 5), .ref (q 6), .int (nI E)])), (q 2, .inl (cI, M, .inl fr)), (q 3, .inl (cI, M, .inl to)), (q 4, .inl (cI, M, .inl cap)), (q 5, .inl (cI, M, .inl uc)), (q 6, .inl (cI, M, .inl fl))]) [3, 4, 5, 6, 7, 8] rfl
              refine vp_callSi (W.runV (As := [.int (nI i)]) (rest := []) ⟨hx, hb, hml, hown, hts⟩ (k_begin l dC dI cI cJ cZ q N M E fr to cap uc fl i (by omega) hM) (cwV 1 hts gX0_passOverArcs_X1_begin rfl rfl rfl (by decide +kernel) ⟨Nat.le_of_ble_eq_true rfl, Nat.le_of_ble_eq_true rfl⟩) ⟨fun a U g mk q => by obtain ⟨q0, qP, qK⟩ := q; exact ⟨q0, qP, va_K.moved (u := U) (U := U.calling g mk a) (Vm.Alike.refl U.vm) qK⟩, va_recv hK hP (ci := 1) (q0 := 3) rfl rfl, fun U hU hW => ⟨rfl, by rw [hU]; exact hPc, va_K.moved hW.alike hK⟩⟩ rfl rfl hl.1 rfl (lv_room (Nat.le_of_ble_eq_true rfl)) dX0_passOverArcs_63 ⟨Nat.le_of_ble_eq_true rfl, Nat.le_of_ble_eq_true rfl⟩) (fun r_63 hw_63 => ?_)
              subst hw_63
              refine lv_goto (tgt := 77) hx hb dX0_passOverArcs_66 (by decide) ?_
              refine lv_istore (lv' := [(5, .int (fp_bg fr to i)), (4, .int (fp_en fr to i)), (0, .ref d0), (1, .int 1), (2, .int ch), (3, .int (nI i))]) hx hb dX0_passOverArcs_77 hl (by decide) rfl (fun ls hl => ?_)
              refine lv_aload_n hx hb dX0_passOverArcs_79 rfl (lv_at hl 2 rfl) ?_
              refine lv_iload hx hb dX0_passOverArcs_80 (lv_at hl 1 rfl) ?_
              have hPc := hP.sub (ws' := [(d0, .inr (0, [.ref d1, .ref d2, .ref (q 1)])), (d1, .inl (cI, N, .inl g)), (d2, .inl (cI, N, .inl h))]) [0, 1, 2] rfl
              refine vp_callSi (W.runV (As := [.int (fp_en fr to i)]) (rest := []) ⟨hx, hb, hml, hown, hts⟩ (k_reaches l dC dI cI cJ cZ d0 d1 d2 q N g h (fp_en fr to i) (by assumption)) (cwV 1 hts gX0_passOverArcs_X0_reaches rfl rfl rfl (by decide +kernel) ⟨Nat.le_of_ble_eq_true rfl, Nat.le_of_ble_eq_true rfl⟩) ⟨fun a U g mk q => by obtain ⟨q0, qP, qK⟩ := q; exact ⟨q0, qP, va_K.moved (u := U) (U := U.calling g mk a) (Vm.Alike.refl U.vm) qK⟩, va_recv hK hP (ci := 0) (q0 := 0) rfl rfl, fun U hU hW => ⟨rfl, by rw [hU]; exact hPc, va_K.moved hW.alike hK⟩⟩ rfl rfl hl.1 rfl (lv_room (Nat.le_of_ble_eq_true rfl)) dX0_passOverArcs_82 ⟨Nat.le_of_ble_eq_true rfl, Nat.le_of_ble_eq_true rfl⟩) (fun r_82 hw_82 => ?_)
              subst hw_82
              refine lv_if_eq (tgt := 124) hx hb dX0_passOverArcs_85 (by decide) (fun c_85 => ?_) (fun c_85 => ?_)
              · refine lv_iinc (v := nI (i + 1)) (lv' := [(3, .int (nI (i + 1))), (5, .int (fp_bg fr to i)), (4, .int (fp_en fr to i)), (0, .ref d0), (1, .int 1), (2, .int ch)]) hx hb dX0_passOverArcs_124 hl (k := 5) rfl (by first | exact nI_1 _ | exact nI_add _ _) (by decide) rfl (fun ls hl => ?_)
                refine lv_goto (tgt := 4) hx hb dX0_passOverArcs_127 (by decide) ?_
                exact ih_a (i + 1) g h ch (by first | assumption | omega | rfl) (by rw [fp_ps, hst]; first | exact rx_a c_23 | exact rx_b c_23 (rch0 c_85) | exact rx_c0 c_23 (rch1 c_85) c_119 | exact rx_c1 c_23 (rch1 c_85) c_119) (by omega) _ _ hP hD hS _ (lv_sub hl [3, 4, 5, 0] rfl)
              · refine lv_aload_n hx hb dX0_passOverArcs_88 rfl (lv_at hl 2 rfl) ?_
                refine lv_iload hx hb dX0_passOverArcs_89 (lv_at hl 0 rfl) ?_
                refine lv_aload_n hx hb dX0_passOverArcs_91 rfl (lv_at hl 2 rfl) ?_
                refine va_get (D := (dC, dI)) (ci := 0) (v := .ref d1) (C := RX0) (T := TX0) (N := 3) hx hb hts fa_passT_0 hown hK hP 0 rfl rfl 0 (by decide) (hts _ fa_passT_2) (fun _ h9 => h9) rfl dX0_passOverArcs_92 ?_
                refine lv_iload hx hb dX0_passOverArcs_95 (lv_at hl 1 rfl) ?_
                refine va_iald (D := (dC, dI)) hx hb hK hP 1 0 rfl rfl (by first | assumption | exact vp_in_nI (by omega) (by omega)) dX0_passOverArcs_97 ?_
                refine lv_aload_n hx hb dX0_passOverArcs_98 rfl (lv_at hl 2 rfl) ?_
                refine va_get (D := (dC, dI)) (ci := 0) (v := .ref (q 1)) (C := RX0) (T := TX0) (N := 3) hx hb hts fa_passT_0 hown hK hP 0 rfl rfl 2 (by decide) (hts _ fa_passT_1) (fun _ h9 => h9) rfl dX0_passOverArcs_99 ?_
                refine lv_iload_n hx hb dX0_passOverArcs_102 rfl (lv_at hl 5 rfl) ?_
                have hPc := hP.sub (ws' := [(q 1, .inr (1, [.int (nI N), .ref (q 2), .ref (q 3), .ref (q 4), .ref (q 5), .ref (q 6), .int (nI E)])), (q 2, .inl (cI, M, .inl fr)), (q 3, .inl (cI, M, .inl to)), (q 4, .inl (cI, M, .inl cap)), (q 5, .inl (cI, M, .inl uc)), (q 6, .inl (cI, M, .inl fl))]) [3, 4, 5, 6, 7, 8] rfl
                refine vp_callSi (W.runV (As := [.int (nI i)]) (rest := [.int (g (fp_en fr to i).toNatClampNeg), .int (fp_bg fr to i), .ref d0]) ⟨hx, hb, hml, hown, hts⟩ (k_price l dC dI cI cJ cZ q N M E fr to cap uc fl i (by omega) hM) (cwV 1 hts gX0_passOverArcs_X1_price rfl rfl rfl (by decide +kernel) ⟨Nat.le_of_ble_eq_true rfl, Nat.le_of_ble_eq_true rfl⟩) ⟨fun a U g mk q => by obtain ⟨q0, qP, qK⟩ := q; exact ⟨q0, qP, va_K.moved (u := U) (U := U.calling g mk a) (Vm.Alike.refl U.vm) qK⟩, va_recv hK hP (ci := 1) (q0 := 3) rfl rfl, fun U hU hW => ⟨rfl, by rw [hU]; exact hPc, va_K.moved hW.alike hK⟩⟩ rfl rfl hl.1 rfl (lv_room (Nat.le_of_ble_eq_true rfl)) dX0_passOverArcs_103 ⟨Nat.le_of_ble_eq_true rfl, Nat.le_of_ble_eq_true rfl⟩) (fun r_103 hw_103 => ?_)
                subst hw_103
                refine lv_iadd hx hb dX0_passOverArcs_106 ?_
                refine lv_aload_n hx hb dX0_passOverArcs_107 rfl (lv_at hl 2 rfl) ?_
                refine va_get (D := (dC, dI)) (ci := 0) (v := .ref d2) (C := RX0) (T := TX0) (N := 3) hx hb hts fa_passT_0 hown hK hP 0 rfl rfl 1 (by decide) (hts _ fa_passT_3) (fun _ h9 => h9) rfl dX0_passOverArcs_108 ?_
                refine lv_iload hx hb dX0_passOverArcs_111 (lv_at hl 1 rfl) ?_
                refine va_iald (D := (dC, dI)) hx hb hK hP 2 0 rfl rfl (by first | assumption | exact vp_in_nI (by omega) (by omega)) dX0_passOverArcs_113 ?_
                refine lv_iconst (v := 1) hx hb dX0_passOverArcs_114 (by decide) ?_
                refine lv_iadd hx hb dX0_passOverArcs_115 ?_
                have hPc := hP.sub (ws' := [(d0, .inr (0, [.ref d1, .ref d2, .ref (q 1)])), (d1, .inl (cI, N, .inl g)), (d2, .inl (cI, N, .inl h))]) [0, 1, 2] rfl
                have hDc := hD.sub (ws' := [(d0, .inr (0, [.ref d1, .ref d2, .ref (q 1)])), (d1, .inl (cI, N, .inl g)), (d2, .inl (cI, N, .inl h))]) [0, 1, 2] (by decide) rfl
                have hFc := va_free (wc := [(d0, .inr (0, [.ref d1, .ref d2, .ref (q 1)])), (d1, .inl (cI, N, .inl g)), (d2, .inl (cI, N, .inl h))]) hD hS hA [0, 1, 2] rfl
                refine va_calli (va_runV (As := [.int (fp_bg fr to i), .int ((g (fp_en fr to i).toNatClampNeg) + (fp_pr uc i)), .int ((h (fp_en fr to i).toNatClampNeg) + 1)]) (rest := []) ⟨hx, hb, hml, hown, hts⟩ (k_shorten l dC dI cI cJ cZ d0 d1 d2 q N g h (fp_bg fr to i) ((g (fp_en fr to i).toNatClampNeg) + (fp_pr uc i)) ((h (fp_en fr to i).toNatClampNeg) + 1) H.size (by assumption)) (cwV 3 hts gX0_passOverArcs_X0_shorten rfl rfl rfl (by decide +kernel) ⟨Nat.le_of_ble_eq_true rfl, Nat.le_of_ble_eq_true rfl⟩) ⟨fun a U g mk q => by obtain ⟨q0, q1, qP, qK, qD⟩ := q; exact ⟨q0, q1, qP, va_K.moved (u := U) (U := U.calling g mk a) (Vm.Alike.refl U.vm) qK, qD⟩, va_recv hK hP (ci := 0) (q0 := 0) rfl rfl, fun U hU hW => ⟨rfl, by rw [hU], by rw [hU]; exact hPc, va_K.moved hW.alike hK, hDc.weaken (fun _ _ _ _ => trivial)⟩⟩ rfl rfl hl.1 rfl (lv_room (Nat.le_of_ble_eq_true rfl)) dX0_passOverArcs_116 ⟨Nat.le_of_ble_eq_true rfl, Nat.le_of_ble_eq_true rfl⟩) hS (fun q _ h => hFc q h) hFc (fun r_116 u t H1 locs ht hvm hw_116 hB hz1 hk1 hS => ?_)
                obtain ⟨hP1, hK1, hD1⟩ := hB
                rw [ht] at hP1
                obtain ⟨hP, hD⟩ := va_join (wr := [(q 1, .inr (1, [.int (nI N), .ref (q 2), .ref (q 3), .ref (q 4), .ref (q 5), .ref (q 6), .int (nI E)])), (q 2, .inl (cI, M, .inl fr)), (q 3, .inl (cI, M, .inl to)), (q 4, .inl (cI, M, .inl cap)), (q 5, .inl (cI, M, .inl uc)), (q 6, .inl (cI, M, .inl fl))]) (w1 := [(d0, .inr (0, [.ref d1, .ref d2, .ref (q 1)])), (d1, .inl (cI, N, .inl (fp_sle g h ((fp_bg fr to i).toNatClampNeg) ((g (fp_en fr to i).toNatClampNeg) + (fp_pr uc i)) ((h (fp_en fr to i).toNatClampNeg) + 1)))), (d2, .inl (cI, N, .inl (fp_sfe g h ((fp_bg fr to i).toNatClampNeg) ((g (fp_en fr to i).toNatClampNeg) + (fp_pr uc i)) ((h (fp_en fr to i).toNatClampNeg) + 1))))]) hP hD [0, 1, 2] [3, 4, 5, 6, 7, 8] rfl rfl (by decide) (by decide) hk1 hFc hP1 hD1
                generalize H1 = H at hP hS ⊢
                have hP := hP.sub (ws' := [(d0, .inr (0, [.ref d1, .ref d2, .ref (q 1)])), (d1, .inl (cI, N, .inl (fp_sle g h ((fp_bg fr to i).toNatClampNeg) ((g (fp_en fr to i).toNatClampNeg) + (fp_pr uc i)) ((h (fp_en fr to i).toNatClampNeg) + 1)))), (d2, .inl (cI, N, .inl (fp_sfe g h ((fp_bg fr to i).toNatClampNeg) ((g (fp_en fr to i).toNatClampNeg) + (fp_pr uc i)) ((h (fp_en fr to i).toNatClampNeg) + 1)))), (q 1, .inr (1, [.int (nI N), .ref (q 2), .ref (q 3), .ref (q 4), .ref (q 5), .ref (q 6), .int (nI E)])), (q 2, .inl (cI, M, .inl fr)), (q 3, .inl (cI, M, .inl to)), (q 4, .inl (cI, M, .inl cap)), (q 5, .inl (cI, M, .inl uc)), (q 6, .inl (cI, M, .inl fl))]) [6, 7, 8, 0, 1, 2, 3, 4, 5] rfl
                have hD := hD.sub (ws' := [(d0, .inr (0, [.ref d1, .ref d2, .ref (q 1)])), (d1, .inl (cI, N, .inl (fp_sle g h ((fp_bg fr to i).toNatClampNeg) ((g (fp_en fr to i).toNatClampNeg) + (fp_pr uc i)) ((h (fp_en fr to i).toNatClampNeg) + 1)))), (d2, .inl (cI, N, .inl (fp_sfe g h ((fp_bg fr to i).toNatClampNeg) ((g (fp_en fr to i).toNatClampNeg) + (fp_pr uc i)) ((h (fp_en fr to i).toNatClampNeg) + 1)))), (q 1, .inr (1, [.int (nI N), .ref (q 2), .ref (q 3), .ref (q 4), .ref (q 5), .ref (q 6), .int (nI E)])), (q 2, .inl (cI, M, .inl fr)), (q 3, .inl (cI, M, .inl to)), (q 4, .inl (cI, M, .inl cap)), (q 5, .inl (cI, M, .inl uc)), (q 6, .inl (cI, M, .inl fl))]) [6, 7, 8, 0, 1, 2, 3, 4, 5] (by decide) rfl
                obtain rfl := hw_116
                refine lv_if_eq (tgt := 124) hx hb dX0_passOverArcs_119 (by decide) (fun c_119 => ?_) (fun c_119 => ?_)
                · refine lv_iinc (v := nI (i + 1)) (lv' := [(3, .int (nI (i + 1))), (5, .int (fp_bg fr to i)), (4, .int (fp_en fr to i)), (0, .ref d0), (1, .int 1), (2, .int ch)]) hx hb dX0_passOverArcs_124 hl (k := 5) rfl (by first | exact nI_1 _ | exact nI_add _ _) (by decide) rfl (fun ls hl => ?_)
                  refine lv_goto (tgt := 4) hx hb dX0_passOverArcs_127 (by decide) ?_
                  exact ih_a (i + 1) (fp_sle g h ((fp_bg fr to i).toNatClampNeg) ((g (fp_en fr to i).toNatClampNeg) + (fp_pr uc i)) ((h (fp_en fr to i).toNatClampNeg) + 1)) (fp_sfe g h ((fp_bg fr to i).toNatClampNeg) ((g (fp_en fr to i).toNatClampNeg) + (fp_pr uc i)) ((h (fp_en fr to i).toNatClampNeg) + 1)) ch (by first | assumption | omega | rfl) (by rw [fp_ps, hst]; first | exact rx_a c_23 | exact rx_b c_23 (rch0 c_85) | exact rx_c0 c_23 (rch1 c_85) c_119 | exact rx_c1 c_23 (rch1 c_85) c_119) (by omega) _ _ hP hD hS _ (lv_sub hl [3, 4, 5, 0] rfl)
                · refine lv_iconst (v := 1) hx hb dX0_passOverArcs_122 (by decide) ?_
                  refine lv_istore_n (lv' := [(2, .int 1), (5, .int (fp_bg fr to i)), (4, .int (fp_en fr to i)), (0, .ref d0), (1, .int 1), (3, .int (nI i))]) hx hb dX0_passOverArcs_123 rfl hl (by decide) rfl (fun ls hl => ?_)
                  refine lv_iinc (v := nI (i + 1)) (lv' := [(3, .int (nI (i + 1))), (2, .int 1), (5, .int (fp_bg fr to i)), (4, .int (fp_en fr to i)), (0, .ref d0), (1, .int 1)]) hx hb dX0_passOverArcs_124 hl (k := 5) rfl (by first | exact nI_1 _ | exact nI_add _ _) (by decide) rfl (fun ls hl => ?_)
                  refine lv_goto (tgt := 4) hx hb dX0_passOverArcs_127 (by decide) ?_
                  exact ih_a (i + 1) (fp_sle g h ((fp_bg fr to i).toNatClampNeg) ((g (fp_en fr to i).toNatClampNeg) + (fp_pr uc i)) ((h (fp_en fr to i).toNatClampNeg) + 1)) (fp_sfe g h ((fp_bg fr to i).toNatClampNeg) ((g (fp_en fr to i).toNatClampNeg) + (fp_pr uc i)) ((h (fp_en fr to i).toNatClampNeg) + 1)) 1 (by first | assumption | omega | rfl) (by rw [fp_ps, hst]; first | exact rx_a c_23 | exact rx_b c_23 (rch0 c_85) | exact rx_c0 c_23 (rch1 c_85) c_119 | exact rx_c1 c_23 (rch1 c_85) c_119) (by omega) _ _ hP hD hS _ (lv_sub hl [4, 5, 1, 0] rfl)
        · refine lv_goto (tgt := 124) hx hb dX0_passOverArcs_26 (by decide) ?_
          refine lv_iinc (v := nI (i + 1)) (lv' := [(3, .int (nI (i + 1))), (0, .ref d0), (1, .int 1), (2, .int ch)]) hx hb dX0_passOverArcs_124 hl (k := 3) rfl (by first | exact nI_1 _ | exact nI_add _ _) (by decide) rfl (fun ls hl => ?_)
          refine lv_goto (tgt := 4) hx hb dX0_passOverArcs_127 (by decide) ?_
          exact ih_a (i + 1) g h ch (by first | assumption | omega | rfl) (by rw [fp_ps, hst]; first | exact rx_a c_23 | exact rx_b c_23 (rch0 c_85) | exact rx_c0 c_23 (rch1 c_85) c_119 | exact rx_c1 c_23 (rch1 c_85) c_119) (by omega) _ _ hP hD hS _ (lv_sub hl [1, 2, 3, 0] rfl)
  exact lo_a (2 * E - 0 + 1) 0 le fe 0 (by first | assumption | omega | rfl) rfl (by omega) _ _ hP hD hS _ (lv_sub hl [2, 3, 1, 0] rfl)

theorem fa_settleF_0 : ∀ w ∈ wsX00, w ∈ wsX0_settle := by decide +kernel
theorem fa_settleF_1 : Cond.fieldLink RX0 9 "FlowProofs$Distances" "net" "LFlowProofs$Net;" ∈ wsX0_settle := by decide +kernel
theorem fa_settleF_2 : ∀ w ∈ wsX10, w ∈ wsX0_settle := by decide +kernel
theorem fa_settleF_3 : Cond.fieldLink RX0 15 "FlowProofs$Net" "nodes" "I" ∈ wsX0_settle := by decide +kernel
set_option maxHeartbeats 4000000 in
set_option maxRecDepth 100000 in
theorem k_settleF (l : Launch) (dC : Nat → ClassId) (dI : Nat → Nat → Nat) (cI cJ cZ : ClassId) (d0 d1 d2 : Nat) (q : Nat → Nat) (N M E : Nat) (fr to cap uc fl : Nat → Int32) (le fe : Nat → Int32) (sz : Nat) (hE : E ≤ M) (hM : M < 1000) (hN : N < 1000) (hfr : ∀ e, e < E → vp_in (fr e) N) (hto : ∀ e, e < E → vp_in (to e) N) : Met l yX0_settle wsX0_settle ({ frames := 3, cells := 0, slots := 0, locals := 67 }) (va_Pc [.ref d0, .int 0] (fun U => U.heap.size = sz ∧ va_P (dC, dI) vwCl [(d0, .inr (0, [.ref d1, .ref d2, .ref (q 1)])), (d1, .inl (cI, N, .inl le)), (d2, .inl (cI, N, .inl fe)), (q 1, .inr (1, [.int (nI N), .ref (q 2), .ref (q 3), .ref (q 4), .ref (q 5), .ref (q 6), .int (nI E)])), (q 2, .inl (cI, M, .inl fr)), (q 3, .inl (cI, M, .inl to)), (q 4, .inl (cI, M, .inl cap)), (q 5, .inl (cI, M, .inl uc)), (q 6, .inl (cI, M, .inl fl))] U.heap ∧ va_K (dC, dI) vwCl [(cI, .int), (cJ, .long), (cZ, .boolean)] U ∧ va_D (fun _ => True) [(d0, .inr (0, [.ref d1, .ref d2, .ref (q 1)])), (d1, .inl (cI, N, .inl le)), (d2, .inl (cI, N, .inl fe)), (q 1, .inr (1, [.int (nI N), .ref (q 2), .ref (q 3), .ref (q 4), .ref (q 5), .ref (q 6), .int (nI E)])), (q 2, .inl (cI, M, .inl fr)), (q 3, .inl (cI, M, .inl to)), (q 4, .inl (cI, M, .inl cap)), (q 5, .inl (cI, M, .inl uc)), (q 6, .inl (cI, M, .inl fl))])) (va_Qi (fun (r : Int32) (u_ : Unit) => r = (fp_se false fr to cap uc fl (2 * E) N le fe).2.2) (fun (u_ : Unit) (t : State) => va_P (dC, dI) vwCl [(d0, .inr (0, [.ref d1, .ref d2, .ref (q 1)])), (d1, .inl (cI, N, .inl ((fp_se false fr to cap uc fl (2 * E) N le fe).1))), (d2, .inl (cI, N, .inl ((fp_se false fr to cap uc fl (2 * E) N le fe).2.1))), (q 1, .inr (1, [.int (nI N), .ref (q 2), .ref (q 3), .ref (q 4), .ref (q 5), .ref (q 6), .int (nI E)])), (q 2, .inl (cI, M, .inl fr)), (q 3, .inl (cI, M, .inl to)), (q 4, .inl (cI, M, .inl cap)), (q 5, .inl (cI, M, .inl uc)), (q 6, .inl (cI, M, .inl fl))] t.heap ∧ va_K (dC, dI) vwCl [(cI, .int), (cJ, .long), (cZ, .boolean)] t ∧ va_D (va_A [(d0, .inr (0, [.ref d1, .ref d2, .ref (q 1)])), (d1, .inl (cI, N, .inl le)), (d2, .inl (cI, N, .inl fe)), (q 1, .inr (1, [.int (nI N), .ref (q 2), .ref (q 3), .ref (q 4), .ref (q 5), .ref (q 6), .int (nI E)])), (q 2, .inl (cI, M, .inl fr)), (q 3, .inl (cI, M, .inl to)), (q 4, .inl (cI, M, .inl cap)), (q 5, .inl (cI, M, .inl uc)), (q 6, .inl (cI, M, .inl fl))] sz) [(d0, .inr (0, [.ref d1, .ref d2, .ref (q 1)])), (d1, .inl (cI, N, .inl ((fp_se false fr to cap uc fl (2 * E) N le fe).1))), (d2, .inl (cI, N, .inl ((fp_se false fr to cap uc fl (2 * E) N le fe).2.1))), (q 1, .inr (1, [.int (nI N), .ref (q 2), .ref (q 3), .ref (q 4), .ref (q 5), .ref (q 6), .int (nI E)])), (q 2, .inl (cI, M, .inl fr)), (q 3, .inl (cI, M, .inl to)), (q 4, .inl (cI, M, .inl cap)), (q 5, .inl (cI, M, .inl uc)), (q 6, .inl (cI, M, .inl fl))]) (va_A [(d0, .inr (0, [.ref d1, .ref d2, .ref (q 1)])), (d1, .inl (cI, N, .inl le)), (d2, .inl (cI, N, .inl fe)), (q 1, .inr (1, [.int (nI N), .ref (q 2), .ref (q 3), .ref (q 4), .ref (q 5), .ref (q 6), .int (nI E)])), (q 2, .inl (cI, M, .inl fr)), (q 3, .inl (cI, M, .inl to)), (q 4, .inl (cI, M, .inl cap)), (q 5, .inl (cI, M, .inl uc)), (q 6, .inl (cI, M, .inl fl))] sz)) 0 0 (va_A [(d0, .inr (0, [.ref d1, .ref d2, .ref (q 1)])), (d1, .inl (cI, N, .inl le)), (d2, .inl (cI, N, .inl fe)), (q 1, .inr (1, [.int (nI N), .ref (q 2), .ref (q 3), .ref (q 4), .ref (q 5), .ref (q 6), .int (nI E)])), (q 2, .inl (cI, M, .inl fr)), (q 3, .inl (cI, M, .inl to)), (q 4, .inl (cI, M, .inl cap)), (q 5, .inl (cI, M, .inl uc)), (q 6, .inl (cI, M, .inl fl))] sz) := by
  refine Met.ofW (cc := cX0_settle) (maxL := 3) (ret := (some .boolean)) (by decide) rfl ?_
  intro p e s m args below meth c s₁ B hml hv
  obtain ⟨rfl, hsz, hP, hK, hD0⟩ := hv
  have hx := B.exec
  have hb := B.bytes
  have hr := B.returns
  have hts := atoms_spec (ws := wsX0_settle) B.pre
  have hown : s.vm.findClass RX0 = some m.cls := findClass_of_methodNamed B.named
  have hlocks := B.notSynchronized
  subst hsz
  have hD := hD0.self (sz := s.heap.size)
  generalize hAe : va_A [(d0, .inr (0, [.ref d1, .ref d2, .ref (q 1)])), (d1, .inl (cI, N, .inl le)), (d2, .inl (cI, N, .inl fe)), (q 1, .inr (1, [.int (nI N), .ref (q 2), .ref (q 3), .ref (q 4), .ref (q 5), .ref (q 6), .int (nI E)])), (q 2, .inl (cI, M, .inl fr)), (q 3, .inl (cI, M, .inl to)), (q 4, .inl (cI, M, .inl cap)), (q 5, .inl (cI, M, .inl uc)), (q 6, .inl (cI, M, .inl fl))] s.heap.size = A at hD ⊢
  have hA : ∀ q : Nat, s.heap.size ≤ q → A q := fun q h => by rw [← hAe]; exact Or.inr h
  have hS : va_S A s.heap s.heap [] := va_S.rf
  have hP : va_P (dC, dI) vwCl [(d0, .inr (0, [.ref d1, .ref d2, .ref (q 1)])), (d1, .inl (cI, N, .inl le)), (d2, .inl (cI, N, .inl fe)), (q 1, .inr (1, [.int (nI N), .ref (q 2), .ref (q 3), .ref (q 4), .ref (q 5), .ref (q 6), .int (nI E)])), (q 2, .inl (cI, M, .inl fr)), (q 3, .inl (cI, M, .inl to)), (q 4, .inl (cI, M, .inl cap)), (q 5, .inl (cI, M, .inl uc)), (q 6, .inl (cI, M, .inl fl))] s.heap := hP
  have hl := lv_entry ([.ref d0, .int 0]) (n := 3) (Nat.le_of_ble_eq_true rfl)
  rw [lg_entry_eq]
  generalize (lg_sl ([.ref d0, .int 0]) ++ List.replicate (3 - (lg_sl ([.ref d0, .int 0])).length) Slot.unset).toArray = ls at hl ⊢
  have hl : lv_has ls 3 [(0, .ref d0), (1, .int 0)] := hl
  refine lv_iconst (v := 0) hx hb dX0_settle_0 (by decide) ?_
  refine tp_i (y := nI 0) nI_0.symm ?_
  refine lv_istore_n (lv' := [(2, .int (nI 0)), (0, .ref d0), (1, .int 0)]) hx hb dX0_settle_1 rfl hl (by decide) rfl (fun ls hl => ?_)
  have lo_a : ∀ (nf : Nat) (i : Nat) (g : Nat → Int32) (h : Nat → Int32) (hi : i ≤ N) (hst : fp_se false fr to cap uc fl (2 * E) (N - i) g h = fp_se false fr to cap uc fl (2 * E) N le fe) (hfu : N - i < nf) (H : Heap) (locs : List Loc) (hP : va_P (dC, dI) vwCl [(d0, .inr (0, [.ref d1, .ref d2, .ref (q 1)])), (d1, .inl (cI, N, .inl g)), (d2, .inl (cI, N, .inl h)), (q 1, .inr (1, [.int (nI N), .ref (q 2), .ref (q 3), .ref (q 4), .ref (q 5), .ref (q 6), .int (nI E)])), (q 2, .inl (cI, M, .inl fr)), (q 3, .inl (cI, M, .inl to)), (q 4, .inl (cI, M, .inl cap)), (q 5, .inl (cI, M, .inl uc)), (q 6, .inl (cI, M, .inl fl))] H) (hD : va_D A [(d0, .inr (0, [.ref d1, .ref d2, .ref (q 1)])), (d1, .inl (cI, N, .inl g)), (d2, .inl (cI, N, .inl h)), (q 1, .inr (1, [.int (nI N), .ref (q 2), .ref (q 3), .ref (q 4), .ref (q 5), .ref (q 6), .int (nI E)])), (q 2, .inl (cI, M, .inl fr)), (q 3, .inl (cI, M, .inl to)), (q 4, .inl (cI, M, .inl cap)), (q 5, .inl (cI, M, .inl uc)), (q 6, .inl (cI, M, .inl fl))]) (hS : va_S A s.heap H locs) (ls : Array Slot) (hl : lv_has ls 3 [(0, .ref d0), (1, .int 0), (2, .int (nI i))]), W p l e (headSpec wsX0_settle ({ frames := 3, cells := 0, slots := 0, locals := 67 })).room s m ([.ref d0, .int 0] : List Value).toArray below meth c H locs 0 0 (MQ below (va_Qi (fun (r : Int32) (u_ : Unit) => r = (fp_se false fr to cap uc fl (2 * E) N le fe).2.2) (fun (u_ : Unit) (t : State) => va_P (dC, dI) vwCl [(d0, .inr (0, [.ref d1, .ref d2, .ref (q 1)])), (d1, .inl (cI, N, .inl ((fp_se false fr to cap uc fl (2 * E) N le fe).1))), (d2, .inl (cI, N, .inl ((fp_se false fr to cap uc fl (2 * E) N le fe).2.1))), (q 1, .inr (1, [.int (nI N), .ref (q 2), .ref (q 3), .ref (q 4), .ref (q 5), .ref (q 6), .int (nI E)])), (q 2, .inl (cI, M, .inl fr)), (q 3, .inl (cI, M, .inl to)), (q 4, .inl (cI, M, .inl cap)), (q 5, .inl (cI, M, .inl uc)), (q 6, .inl (cI, M, .inl fl))] t.heap ∧ va_K (dC, dI) vwCl [(cI, .int), (cJ, .long), (cZ, .boolean)] t ∧ va_D A [(d0, .inr (0, [.ref d1, .ref d2, .ref (q 1)])), (d1, .inl (cI, N, .inl ((fp_se false fr to cap uc fl (2 * E) N le fe).1))), (d2, .inl (cI, N, .inl ((fp_se false fr to cap uc fl (2 * E) N le fe).2.1))), (q 1, .inr (1, [.int (nI N), .ref (q 2), .ref (q 3), .ref (q 4), .ref (q 5), .ref (q 6), .int (nI E)])), (q 2, .inl (cI, M, .inl fr)), (q 3, .inl (cI, M, .inl to)), (q 4, .inl (cI, M, .inl cap)), (q 5, .inl (cI, M, .inl uc)), (q 6, .inl (cI, M, .inl fl))]) A) ([.ref d0, .int 0] : List Value).toArray s 0 0 A) (F0 m 2 ls [])
    := by
    intro nf
    induction nf with
    | zero => intro i g h hi hst hfu H locs hP hD hS ls hl; exact absurd hfu (Nat.not_lt_zero _)
    | succ nf ih_a =>
      intro i g h hi hst hfu H locs hP hD hS ls hl
      refine lv_iload_n hx hb dX0_settle_2 rfl (lv_at hl 2 rfl) ?_
      refine lv_aload_n hx hb dX0_settle_3 rfl (lv_at hl 0 rfl) ?_
      refine va_get (D := (dC, dI)) (ci := 0) (v := .ref (q 1)) (C := RX0) (T := TX0) (N := 3) hx hb hts fa_settleF_0 hown hK hP 0 rfl rfl 2 (by decide) (hts _ fa_settleF_1) (fun _ h9 => h9) rfl dX0_settle_4 ?_
      refine va_get (D := (dC, dI)) (ci := 1) (v := .int (nI N)) (C := RX1) (T := TX1) (N := 7) hx hb hts fa_settleF_2 hown hK hP 3 rfl rfl 0 (by decide) (hts _ fa_settleF_3) (fun _ h9 => h9) rfl dX0_settle_7 ?_
      refine lv_icmp_ge (tgt := 29) hx hb dX0_settle_10 (by decide) (fun c_10 => ?_) (fun c_10 => ?_)
      · have hge := ix_ge (by omega) (by omega) c_10
        obtain rfl : N = i := by omega
        rw [Nat.sub_self] at hst
        refine lv_iconst (v := 0) hx hb dX0_settle_29 (by decide) ?_
        have hP := va_P_conI hP 1 (g := (fp_se false fr to cap uc fl (2 * E) N le fe).1) rfl (fun j _ => by first | (rw [← hst]; done) | (rw [← hst]; rfl))
        have hD := va_D_con hD 1 (e1 := .inl (cI, N, .inl ((fp_se false fr to cap uc fl (2 * E) N le fe).1))) rfl
        have hP := va_P_conI hP 2 (g := (fp_se false fr to cap uc fl (2 * E) N le fe).2.1) rfl (fun j _ => by first | (rw [← hst]; done) | (rw [← hst]; rfl))
        have hD := va_D_con hD 2 (e1 := .inl (cI, N, .inl ((fp_se false fr to cap uc fl (2 * E) N le fe).2.1))) rfl
        have hP9 := hP.sub (ws' := [(d0, .inr (0, [.ref d1, .ref d2, .ref (q 1)])), (d1, .inl (cI, N, .inl ((fp_se false fr to cap uc fl (2 * E) N le fe).1))), (d2, .inl (cI, N, .inl ((fp_se false fr to cap uc fl (2 * E) N le fe).2.1))), (q 1, .inr (1, [.int (nI N), .ref (q 2), .ref (q 3), .ref (q 4), .ref (q 5), .ref (q 6), .int (nI E)])), (q 2, .inl (cI, M, .inl fr)), (q 3, .inl (cI, M, .inl to)), (q 4, .inl (cI, M, .inl cap)), (q 5, .inl (cI, M, .inl uc)), (q 6, .inl (cI, M, .inl fl))]) [0, 1, 2, 3, 4, 5, 6, 7, 8] rfl
        have hD9 := hD.sub (ws' := [(d0, .inr (0, [.ref d1, .ref d2, .ref (q 1)])), (d1, .inl (cI, N, .inl ((fp_se false fr to cap uc fl (2 * E) N le fe).1))), (d2, .inl (cI, N, .inl ((fp_se false fr to cap uc fl (2 * E) N le fe).2.1))), (q 1, .inr (1, [.int (nI N), .ref (q 2), .ref (q 3), .ref (q 4), .ref (q 5), .ref (q 6), .int (nI E)])), (q 2, .inl (cI, M, .inl fr)), (q 3, .inl (cI, M, .inl to)), (q 4, .inl (cI, M, .inl cap)), (q 5, .inl (cI, M, .inl uc)), (q 6, .inl (cI, M, .inl fl))]) [0, 1, 2, 3, 4, 5, 6, 7, 8] (by decide) rfl
        exact W.zret (v := 0) hx hb hr rfl (fun t ht hW => ⟨⟨0, (), rfl, (by first | (rw [← hst]; done) | (rw [← hst]; rfl)), by rw [ht]; exact hP9, va_K.moved hW.alike hK, hD9⟩, hS.F ht⟩) hS.2.2 dX0_settle_30
      · have hlt := ix_lt (by omega) (by omega) c_10
        refine lv_aload_n hx hb dX0_settle_13 rfl (lv_at hl 0 rfl) ?_
        refine lv_iload_n hx hb dX0_settle_14 rfl (lv_at hl 1 rfl) ?_
        have hPc := hP.sub (ws' := [(d0, .inr (0, [.ref d1, .ref d2, .ref (q 1)])), (d1, .inl (cI, N, .inl g)), (d2, .inl (cI, N, .inl h)), (q 1, .inr (1, [.int (nI N), .ref (q 2), .ref (q 3), .ref (q 4), .ref (q 5), .ref (q 6), .int (nI E)])), (q 2, .inl (cI, M, .inl fr)), (q 3, .inl (cI, M, .inl to)), (q 4, .inl (cI, M, .inl cap)), (q 5, .inl (cI, M, .inl uc)), (q 6, .inl (cI, M, .inl fl))]) [0, 1, 2, 3, 4, 5, 6, 7, 8] rfl
        have hDc := hD.sub (ws' := [(d0, .inr (0, [.ref d1, .ref d2, .ref (q 1)])), (d1, .inl (cI, N, .inl g)), (d2, .inl (cI, N, .inl h)), (q 1, .inr (1, [.int (nI N), .ref (q 2), .ref (q 3), .ref (q 4), .ref (q 5), .ref (q 6), .int (nI E)])), (q 2, .inl (cI, M, .inl fr)), (q 3, .inl (cI, M, .inl to)), (q 4, .inl (cI, M, .inl cap)), (q 5, .inl (cI, M, .inl uc)), (q 6, .inl (cI, M, .inl fl))]) [0, 1, 2, 3, 4, 5, 6, 7, 8] (by decide) rfl
        have hFc := va_free (wc := [(d0, .inr (0, [.ref d1, .ref d2, .ref (q 1)])), (d1, .inl (cI, N, .inl g)), (d2, .inl (cI, N, .inl h)), (q 1, .inr (1, [.int (nI N), .ref (q 2), .ref (q 3), .ref (q 4), .ref (q 5), .ref (q 6), .int (nI E)])), (q 2, .inl (cI, M, .inl fr)), (q 3, .inl (cI, M, .inl to)), (q 4, .inl (cI, M, .inl cap)), (q 5, .inl (cI, M, .inl uc)), (q 6, .inl (cI, M, .inl fl))]) hD hS hA [0, 1, 2, 3, 4, 5, 6, 7, 8] rfl
        refine va_calli (va_runV (As := [.int 0]) (rest := []) ⟨hx, hb, hml, hown, hts⟩ (k_passF l dC dI cI cJ cZ d0 d1 d2 q N M E fr to cap uc fl g h H.size hE hM hN hfr hto) (cwV 1 hts gX0_settle_X0_passOverArcs rfl rfl rfl (by decide +kernel) ⟨Nat.le_of_ble_eq_true rfl, Nat.le_of_ble_eq_true rfl⟩) ⟨fun a U g mk q => by obtain ⟨q0, q1, qP, qK, qD⟩ := q; exact ⟨q0, q1, qP, va_K.moved (u := U) (U := U.calling g mk a) (Vm.Alike.refl U.vm) qK, qD⟩, va_recv hK hP (ci := 0) (q0 := 0) rfl rfl, fun U hU hW => ⟨rfl, by rw [hU], by rw [hU]; exact hPc, va_K.moved hW.alike hK, hDc.weaken (fun _ _ _ _ => trivial)⟩⟩ rfl rfl hl.1 rfl (lv_room (Nat.le_of_ble_eq_true rfl)) dX0_settle_15 ⟨Nat.le_of_ble_eq_true rfl, Nat.le_of_ble_eq_true rfl⟩) hS (fun q _ h => hFc q h) hFc (fun r_15 u t H1 locs ht hvm hw_15 hB hz1 hk1 hS => ?_)
        obtain ⟨hP1, hK1, hD1⟩ := hB
        rw [ht] at hP1
        obtain ⟨hP, hD⟩ := va_join (wr := []) (w1 := [(d0, .inr (0, [.ref d1, .ref d2, .ref (q 1)])), (d1, .inl (cI, N, .inl ((fp_ps false fr to cap uc fl g h (2 * E)).1))), (d2, .inl (cI, N, .inl ((fp_ps false fr to cap uc fl g h (2 * E)).2.1))), (q 1, .inr (1, [.int (nI N), .ref (q 2), .ref (q 3), .ref (q 4), .ref (q 5), .ref (q 6), .int (nI E)])), (q 2, .inl (cI, M, .inl fr)), (q 3, .inl (cI, M, .inl to)), (q 4, .inl (cI, M, .inl cap)), (q 5, .inl (cI, M, .inl uc)), (q 6, .inl (cI, M, .inl fl))]) hP hD [0, 1, 2, 3, 4, 5, 6, 7, 8] [] rfl rfl (by decide) (by decide) hk1 hFc hP1 hD1
        generalize H1 = H at hP hS ⊢
        have hP := hP.sub (ws' := [(d0, .inr (0, [.ref d1, .ref d2, .ref (q 1)])), (d1, .inl (cI, N, .inl ((fp_ps false fr to cap uc fl g h (2 * E)).1))), (d2, .inl (cI, N, .inl ((fp_ps false fr to cap uc fl g h (2 * E)).2.1))), (q 1, .inr (1, [.int (nI N), .ref (q 2), .ref (q 3), .ref (q 4), .ref (q 5), .ref (q 6), .int (nI E)])), (q 2, .inl (cI, M, .inl fr)), (q 3, .inl (cI, M, .inl to)), (q 4, .inl (cI, M, .inl cap)), (q 5, .inl (cI, M, .inl uc)), (q 6, .inl (cI, M, .inl fl))]) [0, 1, 2, 3, 4, 5, 6, 7, 8] rfl
        have hD := hD.sub (ws' := [(d0, .inr (0, [.ref d1, .ref d2, .ref (q 1)])), (d1, .inl (cI, N, .inl ((fp_ps false fr to cap uc fl g h (2 * E)).1))), (d2, .inl (cI, N, .inl ((fp_ps false fr to cap uc fl g h (2 * E)).2.1))), (q 1, .inr (1, [.int (nI N), .ref (q 2), .ref (q 3), .ref (q 4), .ref (q 5), .ref (q 6), .int (nI E)])), (q 2, .inl (cI, M, .inl fr)), (q 3, .inl (cI, M, .inl to)), (q 4, .inl (cI, M, .inl cap)), (q 5, .inl (cI, M, .inl uc)), (q 6, .inl (cI, M, .inl fl))]) [0, 1, 2, 3, 4, 5, 6, 7, 8] (by decide) rfl
        obtain rfl := hw_15
        refine lv_if_ne (tgt := 23) hx hb dX0_settle_18 (by decide) (fun c_18 => ?_) (fun c_18 => ?_)
        · rw [se_f hlt c_18] at hst
          refine lv_iinc (v := nI (i + 1)) (lv' := [(2, .int (nI (i + 1))), (0, .ref d0), (1, .int 0)]) hx hb dX0_settle_23 hl (k := 2) rfl (by first | exact nI_1 _ | exact nI_add _ _) (by decide) rfl (fun ls hl => ?_)
          refine lv_goto (tgt := 2) hx hb dX0_settle_26 (by decide) ?_
          exact ih_a (i + 1) ((fp_ps false fr to cap uc fl g h (2 * E)).1) ((fp_ps false fr to cap uc fl g h (2 * E)).2.1) (by first | assumption | omega | rfl) hst (by omega) _ _ hP hD hS _ (lv_sub hl [1, 2, 0] rfl)
        · rw [se_t hlt c_18] at hst
          refine lv_iconst (v := 1) hx hb dX0_settle_21 (by decide) ?_
          have hP := va_P_conI hP 1 (g := (fp_se false fr to cap uc fl (2 * E) N le fe).1) rfl (fun j _ => by first | (rw [← hst]; done) | (rw [← hst]; rfl))
          have hD := va_D_con hD 1 (e1 := .inl (cI, N, .inl ((fp_se false fr to cap uc fl (2 * E) N le fe).1))) rfl
          have hP := va_P_conI hP 2 (g := (fp_se false fr to cap uc fl (2 * E) N le fe).2.1) rfl (fun j _ => by first | (rw [← hst]; done) | (rw [← hst]; rfl))
          have hD := va_D_con hD 2 (e1 := .inl (cI, N, .inl ((fp_se false fr to cap uc fl (2 * E) N le fe).2.1))) rfl
          have hP9 := hP.sub (ws' := [(d0, .inr (0, [.ref d1, .ref d2, .ref (q 1)])), (d1, .inl (cI, N, .inl ((fp_se false fr to cap uc fl (2 * E) N le fe).1))), (d2, .inl (cI, N, .inl ((fp_se false fr to cap uc fl (2 * E) N le fe).2.1))), (q 1, .inr (1, [.int (nI N), .ref (q 2), .ref (q 3), .ref (q 4), .ref (q 5), .ref (q 6), .int (nI E)])), (q 2, .inl (cI, M, .inl fr)), (q 3, .inl (cI, M, .inl to)), (q 4, .inl (cI, M, .inl cap)), (q 5, .inl (cI, M, .inl uc)), (q 6, .inl (cI, M, .inl fl))]) [0, 1, 2, 3, 4, 5, 6, 7, 8] rfl
          have hD9 := hD.sub (ws' := [(d0, .inr (0, [.ref d1, .ref d2, .ref (q 1)])), (d1, .inl (cI, N, .inl ((fp_se false fr to cap uc fl (2 * E) N le fe).1))), (d2, .inl (cI, N, .inl ((fp_se false fr to cap uc fl (2 * E) N le fe).2.1))), (q 1, .inr (1, [.int (nI N), .ref (q 2), .ref (q 3), .ref (q 4), .ref (q 5), .ref (q 6), .int (nI E)])), (q 2, .inl (cI, M, .inl fr)), (q 3, .inl (cI, M, .inl to)), (q 4, .inl (cI, M, .inl cap)), (q 5, .inl (cI, M, .inl uc)), (q 6, .inl (cI, M, .inl fl))]) [0, 1, 2, 3, 4, 5, 6, 7, 8] (by decide) rfl
          exact W.zret (v := 1) hx hb hr rfl (fun t ht hW => ⟨⟨1, (), rfl, (by first | (rw [← hst]; done) | (rw [← hst]; rfl)), by rw [ht]; exact hP9, va_K.moved hW.alike hK, hD9⟩, hS.F ht⟩) hS.2.2 dX0_settle_22
  exact lo_a (N - 0 + 1) 0 le fe (by first | assumption | omega | rfl) rfl (by omega) _ _ hP hD hS _ (lv_sub hl [1, 2, 0] rfl)

theorem fa_settleT_0 : ∀ w ∈ wsX00, w ∈ wsX0_settle := by decide +kernel
theorem fa_settleT_1 : Cond.fieldLink RX0 9 "FlowProofs$Distances" "net" "LFlowProofs$Net;" ∈ wsX0_settle := by decide +kernel
theorem fa_settleT_2 : ∀ w ∈ wsX10, w ∈ wsX0_settle := by decide +kernel
theorem fa_settleT_3 : Cond.fieldLink RX0 15 "FlowProofs$Net" "nodes" "I" ∈ wsX0_settle := by decide +kernel
set_option maxHeartbeats 4000000 in
set_option maxRecDepth 100000 in
theorem k_settleT (l : Launch) (dC : Nat → ClassId) (dI : Nat → Nat → Nat) (cI cJ cZ : ClassId) (d0 d1 d2 : Nat) (q : Nat → Nat) (N M E : Nat) (fr to cap uc fl : Nat → Int32) (le fe : Nat → Int32) (sz : Nat) (hE : E ≤ M) (hM : M < 1000) (hN : N < 1000) (hfr : ∀ e, e < E → vp_in (fr e) N) (hto : ∀ e, e < E → vp_in (to e) N) : Met l yX0_settle wsX0_settle ({ frames := 3, cells := 0, slots := 0, locals := 67 }) (va_Pc [.ref d0, .int 1] (fun U => U.heap.size = sz ∧ va_P (dC, dI) vwCl [(d0, .inr (0, [.ref d1, .ref d2, .ref (q 1)])), (d1, .inl (cI, N, .inl le)), (d2, .inl (cI, N, .inl fe)), (q 1, .inr (1, [.int (nI N), .ref (q 2), .ref (q 3), .ref (q 4), .ref (q 5), .ref (q 6), .int (nI E)])), (q 2, .inl (cI, M, .inl fr)), (q 3, .inl (cI, M, .inl to)), (q 4, .inl (cI, M, .inl cap)), (q 5, .inl (cI, M, .inl uc)), (q 6, .inl (cI, M, .inl fl))] U.heap ∧ va_K (dC, dI) vwCl [(cI, .int), (cJ, .long), (cZ, .boolean)] U ∧ va_D (fun _ => True) [(d0, .inr (0, [.ref d1, .ref d2, .ref (q 1)])), (d1, .inl (cI, N, .inl le)), (d2, .inl (cI, N, .inl fe)), (q 1, .inr (1, [.int (nI N), .ref (q 2), .ref (q 3), .ref (q 4), .ref (q 5), .ref (q 6), .int (nI E)])), (q 2, .inl (cI, M, .inl fr)), (q 3, .inl (cI, M, .inl to)), (q 4, .inl (cI, M, .inl cap)), (q 5, .inl (cI, M, .inl uc)), (q 6, .inl (cI, M, .inl fl))])) (va_Qi (fun (r : Int32) (u_ : Unit) => r = (fp_se true fr to cap uc fl (2 * E) N le fe).2.2) (fun (u_ : Unit) (t : State) => va_P (dC, dI) vwCl [(d0, .inr (0, [.ref d1, .ref d2, .ref (q 1)])), (d1, .inl (cI, N, .inl ((fp_se true fr to cap uc fl (2 * E) N le fe).1))), (d2, .inl (cI, N, .inl ((fp_se true fr to cap uc fl (2 * E) N le fe).2.1))), (q 1, .inr (1, [.int (nI N), .ref (q 2), .ref (q 3), .ref (q 4), .ref (q 5), .ref (q 6), .int (nI E)])), (q 2, .inl (cI, M, .inl fr)), (q 3, .inl (cI, M, .inl to)), (q 4, .inl (cI, M, .inl cap)), (q 5, .inl (cI, M, .inl uc)), (q 6, .inl (cI, M, .inl fl))] t.heap ∧ va_K (dC, dI) vwCl [(cI, .int), (cJ, .long), (cZ, .boolean)] t ∧ va_D (va_A [(d0, .inr (0, [.ref d1, .ref d2, .ref (q 1)])), (d1, .inl (cI, N, .inl le)), (d2, .inl (cI, N, .inl fe)), (q 1, .inr (1, [.int (nI N), .ref (q 2), .ref (q 3), .ref (q 4), .ref (q 5), .ref (q 6), .int (nI E)])), (q 2, .inl (cI, M, .inl fr)), (q 3, .inl (cI, M, .inl to)), (q 4, .inl (cI, M, .inl cap)), (q 5, .inl (cI, M, .inl uc)), (q 6, .inl (cI, M, .inl fl))] sz) [(d0, .inr (0, [.ref d1, .ref d2, .ref (q 1)])), (d1, .inl (cI, N, .inl ((fp_se true fr to cap uc fl (2 * E) N le fe).1))), (d2, .inl (cI, N, .inl ((fp_se true fr to cap uc fl (2 * E) N le fe).2.1))), (q 1, .inr (1, [.int (nI N), .ref (q 2), .ref (q 3), .ref (q 4), .ref (q 5), .ref (q 6), .int (nI E)])), (q 2, .inl (cI, M, .inl fr)), (q 3, .inl (cI, M, .inl to)), (q 4, .inl (cI, M, .inl cap)), (q 5, .inl (cI, M, .inl uc)), (q 6, .inl (cI, M, .inl fl))]) (va_A [(d0, .inr (0, [.ref d1, .ref d2, .ref (q 1)])), (d1, .inl (cI, N, .inl le)), (d2, .inl (cI, N, .inl fe)), (q 1, .inr (1, [.int (nI N), .ref (q 2), .ref (q 3), .ref (q 4), .ref (q 5), .ref (q 6), .int (nI E)])), (q 2, .inl (cI, M, .inl fr)), (q 3, .inl (cI, M, .inl to)), (q 4, .inl (cI, M, .inl cap)), (q 5, .inl (cI, M, .inl uc)), (q 6, .inl (cI, M, .inl fl))] sz)) 0 0 (va_A [(d0, .inr (0, [.ref d1, .ref d2, .ref (q 1)])), (d1, .inl (cI, N, .inl le)), (d2, .inl (cI, N, .inl fe)), (q 1, .inr (1, [.int (nI N), .ref (q 2), .ref (q 3), .ref (q 4), .ref (q 5), .ref (q 6), .int (nI E)])), (q 2, .inl (cI, M, .inl fr)), (q 3, .inl (cI, M, .inl to)), (q 4, .inl (cI, M, .inl cap)), (q 5, .inl (cI, M, .inl uc)), (q 6, .inl (cI, M, .inl fl))] sz) := by
  refine Met.ofW (cc := cX0_settle) (maxL := 3) (ret := (some .boolean)) (by decide) rfl ?_
  intro p e s m args below meth c s₁ B hml hv
  obtain ⟨rfl, hsz, hP, hK, hD0⟩ := hv
  have hx := B.exec
  have hb := B.bytes
  have hr := B.returns
  have hts := atoms_spec (ws := wsX0_settle) B.pre
  have hown : s.vm.findClass RX0 = some m.cls := findClass_of_methodNamed B.named
  have hlocks := B.notSynchronized
  subst hsz
  have hD := hD0.self (sz := s.heap.size)
  generalize hAe : va_A [(d0, .inr (0, [.ref d1, .ref d2, .ref (q 1)])), (d1, .inl (cI, N, .inl le)), (d2, .inl (cI, N, .inl fe)), (q 1, .inr (1, [.int (nI N), .ref (q 2), .ref (q 3), .ref (q 4), .ref (q 5), .ref (q 6), .int (nI E)])), (q 2, .inl (cI, M, .inl fr)), (q 3, .inl (cI, M, .inl to)), (q 4, .inl (cI, M, .inl cap)), (q 5, .inl (cI, M, .inl uc)), (q 6, .inl (cI, M, .inl fl))] s.heap.size = A at hD ⊢
  have hA : ∀ q : Nat, s.heap.size ≤ q → A q := fun q h => by rw [← hAe]; exact Or.inr h
  have hS : va_S A s.heap s.heap [] := va_S.rf
  have hP : va_P (dC, dI) vwCl [(d0, .inr (0, [.ref d1, .ref d2, .ref (q 1)])), (d1, .inl (cI, N, .inl le)), (d2, .inl (cI, N, .inl fe)), (q 1, .inr (1, [.int (nI N), .ref (q 2), .ref (q 3), .ref (q 4), .ref (q 5), .ref (q 6), .int (nI E)])), (q 2, .inl (cI, M, .inl fr)), (q 3, .inl (cI, M, .inl to)), (q 4, .inl (cI, M, .inl cap)), (q 5, .inl (cI, M, .inl uc)), (q 6, .inl (cI, M, .inl fl))] s.heap := hP
  have hl := lv_entry ([.ref d0, .int 1]) (n := 3) (Nat.le_of_ble_eq_true rfl)
  rw [lg_entry_eq]
  generalize (lg_sl ([.ref d0, .int 1]) ++ List.replicate (3 - (lg_sl ([.ref d0, .int 1])).length) Slot.unset).toArray = ls at hl ⊢
  have hl : lv_has ls 3 [(0, .ref d0), (1, .int 1)] := hl
  refine lv_iconst (v := 0) hx hb dX0_settle_0 (by decide) ?_
  refine tp_i (y := nI 0) nI_0.symm ?_
  refine lv_istore_n (lv' := [(2, .int (nI 0)), (0, .ref d0), (1, .int 1)]) hx hb dX0_settle_1 rfl hl (by decide) rfl (fun ls hl => ?_)
  have lo_a : ∀ (nf : Nat) (i : Nat) (g : Nat → Int32) (h : Nat → Int32) (hi : i ≤ N) (hst : fp_se true fr to cap uc fl (2 * E) (N - i) g h = fp_se true fr to cap uc fl (2 * E) N le fe) (hfu : N - i < nf) (H : Heap) (locs : List Loc) (hP : va_P (dC, dI) vwCl [(d0, .inr (0, [.ref d1, .ref d2, .ref (q 1)])), (d1, .inl (cI, N, .inl g)), (d2, .inl (cI, N, .inl h)), (q 1, .inr (1, [.int (nI N), .ref (q 2), .ref (q 3), .ref (q 4), .ref (q 5), .ref (q 6), .int (nI E)])), (q 2, .inl (cI, M, .inl fr)), (q 3, .inl (cI, M, .inl to)), (q 4, .inl (cI, M, .inl cap)), (q 5, .inl (cI, M, .inl uc)), (q 6, .inl (cI, M, .inl fl))] H) (hD : va_D A [(d0, .inr (0, [.ref d1, .ref d2, .ref (q 1)])), (d1, .inl (cI, N, .inl g)), (d2, .inl (cI, N, .inl h)), (q 1, .inr (1, [.int (nI N), .ref (q 2), .ref (q 3), .ref (q 4), .ref (q 5), .ref (q 6), .int (nI E)])), (q 2, .inl (cI, M, .inl fr)), (q 3, .inl (cI, M, .inl to)), (q 4, .inl (cI, M, .inl cap)), (q 5, .inl (cI, M, .inl uc)), (q 6, .inl (cI, M, .inl fl))]) (hS : va_S A s.heap H locs) (ls : Array Slot) (hl : lv_has ls 3 [(0, .ref d0), (1, .int 1), (2, .int (nI i))]), W p l e (headSpec wsX0_settle ({ frames := 3, cells := 0, slots := 0, locals := 67 })).room s m ([.ref d0, .int 1] : List Value).toArray below meth c H locs 0 0 (MQ below (va_Qi (fun (r : Int32) (u_ : Unit) => r = (fp_se true fr to cap uc fl (2 * E) N le fe).2.2) (fun (u_ : Unit) (t : State) => va_P (dC, dI) vwCl [(d0, .inr (0, [.ref d1, .ref d2, .ref (q 1)])), (d1, .inl (cI, N, .inl ((fp_se true fr to cap uc fl (2 * E) N le fe).1))), (d2, .inl (cI, N, .inl ((fp_se true fr to cap uc fl (2 * E) N le fe).2.1))), (q 1, .inr (1, [.int (nI N), .ref (q 2), .ref (q 3), .ref (q 4), .ref (q 5), .ref (q 6), .int (nI E)])), (q 2, .inl (cI, M, .inl fr)), (q 3, .inl (cI, M, .inl to)), (q 4, .inl (cI, M, .inl cap)), (q 5, .inl (cI, M, .inl uc)), (q 6, .inl (cI, M, .inl fl))] t.heap ∧ va_K (dC, dI) vwCl [(cI, .int), (cJ, .long), (cZ, .boolean)] t ∧ va_D A [(d0, .inr (0, [.ref d1, .ref d2, .ref (q 1)])), (d1, .inl (cI, N, .inl ((fp_se true fr to cap uc fl (2 * E) N le fe).1))), (d2, .inl (cI, N, .inl ((fp_se true fr to cap uc fl (2 * E) N le fe).2.1))), (q 1, .inr (1, [.int (nI N), .ref (q 2), .ref (q 3), .ref (q 4), .ref (q 5), .ref (q 6), .int (nI E)])), (q 2, .inl (cI, M, .inl fr)), (q 3, .inl (cI, M, .inl to)), (q 4, .inl (cI, M, .inl cap)), (q 5, .inl (cI, M, .inl uc)), (q 6, .inl (cI, M, .inl fl))]) A) ([.ref d0, .int 1] : List Value).toArray s 0 0 A) (F0 m 2 ls [])
    := by
    intro nf
    induction nf with
    | zero => intro i g h hi hst hfu H locs hP hD hS ls hl; exact absurd hfu (Nat.not_lt_zero _)
    | succ nf ih_a =>
      intro i g h hi hst hfu H locs hP hD hS ls hl
      refine lv_iload_n hx hb dX0_settle_2 rfl (lv_at hl 2 rfl) ?_
      refine lv_aload_n hx hb dX0_settle_3 rfl (lv_at hl 0 rfl) ?_
      refine va_get (D := (dC, dI)) (ci := 0) (v := .ref (q 1)) (C := RX0) (T := TX0) (N := 3) hx hb hts fa_settleT_0 hown hK hP 0 rfl rfl 2 (by decide) (hts _ fa_settleT_1) (fun _ h9 => h9) rfl dX0_settle_4 ?_
      refine va_get (D := (dC, dI)) (ci := 1) (v := .int (nI N)) (C := RX1) (T := TX1) (N := 7) hx hb hts fa_settleT_2 hown hK hP 3 rfl rfl 0 (by decide) (hts _ fa_settleT_3) (fun _ h9 => h9) rfl dX0_settle_7 ?_
      refine lv_icmp_ge (tgt := 29) hx hb dX0_settle_10 (by decide) (fun c_10 => ?_) (fun c_10 => ?_)
      · have hge := ix_ge (by omega) (by omega) c_10
        obtain rfl : N = i := by omega
        rw [Nat.sub_self] at hst
        refine lv_iconst (v := 0) hx hb dX0_settle_29 (by decide) ?_
        have hP := va_P_conI hP 1 (g := (fp_se true fr to cap uc fl (2 * E) N le fe).1) rfl (fun j _ => by first | (rw [← hst]; done) | (rw [← hst]; rfl))
        have hD := va_D_con hD 1 (e1 := .inl (cI, N, .inl ((fp_se true fr to cap uc fl (2 * E) N le fe).1))) rfl
        have hP := va_P_conI hP 2 (g := (fp_se true fr to cap uc fl (2 * E) N le fe).2.1) rfl (fun j _ => by first | (rw [← hst]; done) | (rw [← hst]; rfl))
        have hD := va_D_con hD 2 (e1 := .inl (cI, N, .inl ((fp_se true fr to cap uc fl (2 * E) N le fe).2.1))) rfl
        have hP9 := hP.sub (ws' := [(d0, .inr (0, [.ref d1, .ref d2, .ref (q 1)])), (d1, .inl (cI, N, .inl ((fp_se true fr to cap uc fl (2 * E) N le fe).1))), (d2, .inl (cI, N, .inl ((fp_se true fr to cap uc fl (2 * E) N le fe).2.1))), (q 1, .inr (1, [.int (nI N), .ref (q 2), .ref (q 3), .ref (q 4), .ref (q 5), .ref (q 6), .int (nI E)])), (q 2, .inl (cI, M, .inl fr)), (q 3, .inl (cI, M, .inl to)), (q 4, .inl (cI, M, .inl cap)), (q 5, .inl (cI, M, .inl uc)), (q 6, .inl (cI, M, .inl fl))]) [0, 1, 2, 3, 4, 5, 6, 7, 8] rfl
        have hD9 := hD.sub (ws' := [(d0, .inr (0, [.ref d1, .ref d2, .ref (q 1)])), (d1, .inl (cI, N, .inl ((fp_se true fr to cap uc fl (2 * E) N le fe).1))), (d2, .inl (cI, N, .inl ((fp_se true fr to cap uc fl (2 * E) N le fe).2.1))), (q 1, .inr (1, [.int (nI N), .ref (q 2), .ref (q 3), .ref (q 4), .ref (q 5), .ref (q 6), .int (nI E)])), (q 2, .inl (cI, M, .inl fr)), (q 3, .inl (cI, M, .inl to)), (q 4, .inl (cI, M, .inl cap)), (q 5, .inl (cI, M, .inl uc)), (q 6, .inl (cI, M, .inl fl))]) [0, 1, 2, 3, 4, 5, 6, 7, 8] (by decide) rfl
        exact W.zret (v := 0) hx hb hr rfl (fun t ht hW => ⟨⟨0, (), rfl, (by first | (rw [← hst]; done) | (rw [← hst]; rfl)), by rw [ht]; exact hP9, va_K.moved hW.alike hK, hD9⟩, hS.F ht⟩) hS.2.2 dX0_settle_30
      · have hlt := ix_lt (by omega) (by omega) c_10
        refine lv_aload_n hx hb dX0_settle_13 rfl (lv_at hl 0 rfl) ?_
        refine lv_iload_n hx hb dX0_settle_14 rfl (lv_at hl 1 rfl) ?_
        have hPc := hP.sub (ws' := [(d0, .inr (0, [.ref d1, .ref d2, .ref (q 1)])), (d1, .inl (cI, N, .inl g)), (d2, .inl (cI, N, .inl h)), (q 1, .inr (1, [.int (nI N), .ref (q 2), .ref (q 3), .ref (q 4), .ref (q 5), .ref (q 6), .int (nI E)])), (q 2, .inl (cI, M, .inl fr)), (q 3, .inl (cI, M, .inl to)), (q 4, .inl (cI, M, .inl cap)), (q 5, .inl (cI, M, .inl uc)), (q 6, .inl (cI, M, .inl fl))]) [0, 1, 2, 3, 4, 5, 6, 7, 8] rfl
        have hDc := hD.sub (ws' := [(d0, .inr (0, [.ref d1, .ref d2, .ref (q 1)])), (d1, .inl (cI, N, .inl g)), (d2, .inl (cI, N, .inl h)), (q 1, .inr (1, [.int (nI N), .ref (q 2), .ref (q 3), .ref (q 4), .ref (q 5), .ref (q 6), .int (nI E)])), (q 2, .inl (cI, M, .inl fr)), (q 3, .inl (cI, M, .inl to)), (q 4, .inl (cI, M, .inl cap)), (q 5, .inl (cI, M, .inl uc)), (q 6, .inl (cI, M, .inl fl))]) [0, 1, 2, 3, 4, 5, 6, 7, 8] (by decide) rfl
        have hFc := va_free (wc := [(d0, .inr (0, [.ref d1, .ref d2, .ref (q 1)])), (d1, .inl (cI, N, .inl g)), (d2, .inl (cI, N, .inl h)), (q 1, .inr (1, [.int (nI N), .ref (q 2), .ref (q 3), .ref (q 4), .ref (q 5), .ref (q 6), .int (nI E)])), (q 2, .inl (cI, M, .inl fr)), (q 3, .inl (cI, M, .inl to)), (q 4, .inl (cI, M, .inl cap)), (q 5, .inl (cI, M, .inl uc)), (q 6, .inl (cI, M, .inl fl))]) hD hS hA [0, 1, 2, 3, 4, 5, 6, 7, 8] rfl
        refine va_calli (va_runV (As := [.int 1]) (rest := []) ⟨hx, hb, hml, hown, hts⟩ (k_passT l dC dI cI cJ cZ d0 d1 d2 q N M E fr to cap uc fl g h H.size hE hM hN hfr hto) (cwV 1 hts gX0_settle_X0_passOverArcs rfl rfl rfl (by decide +kernel) ⟨Nat.le_of_ble_eq_true rfl, Nat.le_of_ble_eq_true rfl⟩) ⟨fun a U g mk q => by obtain ⟨q0, q1, qP, qK, qD⟩ := q; exact ⟨q0, q1, qP, va_K.moved (u := U) (U := U.calling g mk a) (Vm.Alike.refl U.vm) qK, qD⟩, va_recv hK hP (ci := 0) (q0 := 0) rfl rfl, fun U hU hW => ⟨rfl, by rw [hU], by rw [hU]; exact hPc, va_K.moved hW.alike hK, hDc.weaken (fun _ _ _ _ => trivial)⟩⟩ rfl rfl hl.1 rfl (lv_room (Nat.le_of_ble_eq_true rfl)) dX0_settle_15 ⟨Nat.le_of_ble_eq_true rfl, Nat.le_of_ble_eq_true rfl⟩) hS (fun q _ h => hFc q h) hFc (fun r_15 u t H1 locs ht hvm hw_15 hB hz1 hk1 hS => ?_)
        obtain ⟨hP1, hK1, hD1⟩ := hB
        rw [ht] at hP1
        obtain ⟨hP, hD⟩ := va_join (wr := []) (w1 := [(d0, .inr (0, [.ref d1, .ref d2, .ref (q 1)])), (d1, .inl (cI, N, .inl ((fp_ps true fr to cap uc fl g h (2 * E)).1))), (d2, .inl (cI, N, .inl ((fp_ps true fr to cap uc fl g h (2 * E)).2.1))), (q 1, .inr (1, [.int (nI N), .ref (q 2), .ref (q 3), .ref (q 4), .ref (q 5), .ref (q 6), .int (nI E)])), (q 2, .inl (cI, M, .inl fr)), (q 3, .inl (cI, M, .inl to)), (q 4, .inl (cI, M, .inl cap)), (q 5, .inl (cI, M, .inl uc)), (q 6, .inl (cI, M, .inl fl))]) hP hD [0, 1, 2, 3, 4, 5, 6, 7, 8] [] rfl rfl (by decide) (by decide) hk1 hFc hP1 hD1
        generalize H1 = H at hP hS ⊢
        have hP := hP.sub (ws' := [(d0, .inr (0, [.ref d1, .ref d2, .ref (q 1)])), (d1, .inl (cI, N, .inl ((fp_ps true fr to cap uc fl g h (2 * E)).1))), (d2, .inl (cI, N, .inl ((fp_ps true fr to cap uc fl g h (2 * E)).2.1))), (q 1, .inr (1, [.int (nI N), .ref (q 2), .ref (q 3), .ref (q 4), .ref (q 5), .ref (q 6), .int (nI E)])), (q 2, .inl (cI, M, .inl fr)), (q 3, .inl (cI, M, .inl to)), (q 4, .inl (cI, M, .inl cap)), (q 5, .inl (cI, M, .inl uc)), (q 6, .inl (cI, M, .inl fl))]) [0, 1, 2, 3, 4, 5, 6, 7, 8] rfl
        have hD := hD.sub (ws' := [(d0, .inr (0, [.ref d1, .ref d2, .ref (q 1)])), (d1, .inl (cI, N, .inl ((fp_ps true fr to cap uc fl g h (2 * E)).1))), (d2, .inl (cI, N, .inl ((fp_ps true fr to cap uc fl g h (2 * E)).2.1))), (q 1, .inr (1, [.int (nI N), .ref (q 2), .ref (q 3), .ref (q 4), .ref (q 5), .ref (q 6), .int (nI E)])), (q 2, .inl (cI, M, .inl fr)), (q 3, .inl (cI, M, .inl to)), (q 4, .inl (cI, M, .inl cap)), (q 5, .inl (cI, M, .inl uc)), (q 6, .inl (cI, M, .inl fl))]) [0, 1, 2, 3, 4, 5, 6, 7, 8] (by decide) rfl
        obtain rfl := hw_15
        refine lv_if_ne (tgt := 23) hx hb dX0_settle_18 (by decide) (fun c_18 => ?_) (fun c_18 => ?_)
        · rw [se_f hlt c_18] at hst
          refine lv_iinc (v := nI (i + 1)) (lv' := [(2, .int (nI (i + 1))), (0, .ref d0), (1, .int 1)]) hx hb dX0_settle_23 hl (k := 2) rfl (by first | exact nI_1 _ | exact nI_add _ _) (by decide) rfl (fun ls hl => ?_)
          refine lv_goto (tgt := 2) hx hb dX0_settle_26 (by decide) ?_
          exact ih_a (i + 1) ((fp_ps true fr to cap uc fl g h (2 * E)).1) ((fp_ps true fr to cap uc fl g h (2 * E)).2.1) (by first | assumption | omega | rfl) hst (by omega) _ _ hP hD hS _ (lv_sub hl [1, 2, 0] rfl)
        · rw [se_t hlt c_18] at hst
          refine lv_iconst (v := 1) hx hb dX0_settle_21 (by decide) ?_
          have hP := va_P_conI hP 1 (g := (fp_se true fr to cap uc fl (2 * E) N le fe).1) rfl (fun j _ => by first | (rw [← hst]; done) | (rw [← hst]; rfl))
          have hD := va_D_con hD 1 (e1 := .inl (cI, N, .inl ((fp_se true fr to cap uc fl (2 * E) N le fe).1))) rfl
          have hP := va_P_conI hP 2 (g := (fp_se true fr to cap uc fl (2 * E) N le fe).2.1) rfl (fun j _ => by first | (rw [← hst]; done) | (rw [← hst]; rfl))
          have hD := va_D_con hD 2 (e1 := .inl (cI, N, .inl ((fp_se true fr to cap uc fl (2 * E) N le fe).2.1))) rfl
          have hP9 := hP.sub (ws' := [(d0, .inr (0, [.ref d1, .ref d2, .ref (q 1)])), (d1, .inl (cI, N, .inl ((fp_se true fr to cap uc fl (2 * E) N le fe).1))), (d2, .inl (cI, N, .inl ((fp_se true fr to cap uc fl (2 * E) N le fe).2.1))), (q 1, .inr (1, [.int (nI N), .ref (q 2), .ref (q 3), .ref (q 4), .ref (q 5), .ref (q 6), .int (nI E)])), (q 2, .inl (cI, M, .inl fr)), (q 3, .inl (cI, M, .inl to)), (q 4, .inl (cI, M, .inl cap)), (q 5, .inl (cI, M, .inl uc)), (q 6, .inl (cI, M, .inl fl))]) [0, 1, 2, 3, 4, 5, 6, 7, 8] rfl
          have hD9 := hD.sub (ws' := [(d0, .inr (0, [.ref d1, .ref d2, .ref (q 1)])), (d1, .inl (cI, N, .inl ((fp_se true fr to cap uc fl (2 * E) N le fe).1))), (d2, .inl (cI, N, .inl ((fp_se true fr to cap uc fl (2 * E) N le fe).2.1))), (q 1, .inr (1, [.int (nI N), .ref (q 2), .ref (q 3), .ref (q 4), .ref (q 5), .ref (q 6), .int (nI E)])), (q 2, .inl (cI, M, .inl fr)), (q 3, .inl (cI, M, .inl to)), (q 4, .inl (cI, M, .inl cap)), (q 5, .inl (cI, M, .inl uc)), (q 6, .inl (cI, M, .inl fl))]) [0, 1, 2, 3, 4, 5, 6, 7, 8] (by decide) rfl
          exact W.zret (v := 1) hx hb hr rfl (fun t ht hW => ⟨⟨1, (), rfl, (by first | (rw [← hst]; done) | (rw [← hst]; rfl)), by rw [ht]; exact hP9, va_K.moved hW.alike hK, hD9⟩, hS.F ht⟩) hS.2.2 dX0_settle_22
  exact lo_a (N - 0 + 1) 0 le fe (by first | assumption | omega | rfl) rfl (by omega) _ _ hP hD hS _ (lv_sub hl [1, 2, 0] rfl)

theorem fa_beginAt_0 : ∀ w ∈ wsX00, w ∈ wsX0_beginAt := by decide +kernel
theorem fa_beginAt_1 : Cond.fieldLink RX0 21 "FlowProofs$Distances" "least" "[I" ∈ wsX0_beginAt := by decide +kernel
theorem fa_beginAt_2 : Cond.constant RX0 28 (2147483647) ∈ wsX0_beginAt := by decide +kernel
theorem fa_beginAt_3 : Cond.fieldLink RX0 25 "FlowProofs$Distances" "fewest" "[I" ∈ wsX0_beginAt := by decide +kernel
set_option maxHeartbeats 4000000 in
set_option maxRecDepth 100000 in
theorem k_beginAt (l : Launch) (dC : Nat → ClassId) (dI : Nat → Nat → Nat) (cI cJ cZ : ClassId) (d0 d1 d2 : Nat) (q : Nat → Nat) (N : Nat) (le fe : Nat → Int32) (x : Int32) (sz : Nat) (hN : N < 1000) (hx0 : vp_in x N) : Met l yX0_beginAt wsX0_beginAt ({ frames := 1, cells := 0, slots := 0, locals := 23 }) (va_Pc [.ref d0, .int x] (fun U => U.heap.size = sz ∧ va_P (dC, dI) vwCl [(d0, .inr (0, [.ref d1, .ref d2, .ref (q 1)])), (d1, .inl (cI, N, .inl le)), (d2, .inl (cI, N, .inl fe))] U.heap ∧ va_K (dC, dI) vwCl [(cI, .int), (cJ, .long), (cZ, .boolean)] U ∧ va_D (fun _ => True) [(d0, .inr (0, [.ref d1, .ref d2, .ref (q 1)])), (d1, .inl (cI, N, .inl le)), (d2, .inl (cI, N, .inl fe))])) (va_Qv (fun (u_ : Unit) => True) (fun (u_ : Unit) (t : State) => va_P (dC, dI) vwCl [(d0, .inr (0, [.ref d1, .ref d2, .ref (q 1)])), (d1, .inl (cI, N, .inl (upd (fun _ => 2147483647) x.toNatClampNeg 0))), (d2, .inl (cI, N, .inl (fun _ => 0)))] t.heap ∧ va_K (dC, dI) vwCl [(cI, .int), (cJ, .long), (cZ, .boolean)] t ∧ va_D (va_A [(d0, .inr (0, [.ref d1, .ref d2, .ref (q 1)])), (d1, .inl (cI, N, .inl le)), (d2, .inl (cI, N, .inl fe))] sz) [(d0, .inr (0, [.ref d1, .ref d2, .ref (q 1)])), (d1, .inl (cI, N, .inl (upd (fun _ => 2147483647) x.toNatClampNeg 0))), (d2, .inl (cI, N, .inl (fun _ => 0)))]) (va_A [(d0, .inr (0, [.ref d1, .ref d2, .ref (q 1)])), (d1, .inl (cI, N, .inl le)), (d2, .inl (cI, N, .inl fe))] sz)) 0 0 (va_A [(d0, .inr (0, [.ref d1, .ref d2, .ref (q 1)])), (d1, .inl (cI, N, .inl le)), (d2, .inl (cI, N, .inl fe))] sz) := by
  refine Met.ofW (cc := cX0_beginAt) (maxL := 2) (ret := none) (by decide) rfl ?_
  intro p e s m args below meth c s₁ B hml hv
  obtain ⟨rfl, hsz, hP, hK, hD0⟩ := hv
  have hx := B.exec
  have hb := B.bytes
  have hr := B.returns
  have hts := atoms_spec (ws := wsX0_beginAt) B.pre
  have hown : s.vm.findClass RX0 = some m.cls := findClass_of_methodNamed B.named
  have hlocks := B.notSynchronized
  subst hsz
  have hD := hD0.self (sz := s.heap.size)
  generalize hAe : va_A [(d0, .inr (0, [.ref d1, .ref d2, .ref (q 1)])), (d1, .inl (cI, N, .inl le)), (d2, .inl (cI, N, .inl fe))] s.heap.size = A at hD ⊢
  have hA : ∀ q : Nat, s.heap.size ≤ q → A q := fun q h => by rw [← hAe]; exact Or.inr h
  have hS : va_S A s.heap s.heap [] := va_S.rf
  have hP : va_P (dC, dI) vwCl [(d0, .inr (0, [.ref d1, .ref d2, .ref (q 1)])), (d1, .inl (cI, N, .inl le)), (d2, .inl (cI, N, .inl fe))] s.heap := hP
  have hl := lv_entry ([.ref d0, .int x]) (n := 2) (Nat.le_of_ble_eq_true rfl)
  rw [lg_entry_eq]
  generalize (lg_sl ([.ref d0, .int x]) ++ List.replicate (2 - (lg_sl ([.ref d0, .int x])).length) Slot.unset).toArray = ls at hl ⊢
  have hl : lv_has ls 2 [(0, .ref d0), (1, .int x)] := hl
  refine lv_aload_n hx hb dX0_beginAt_0 rfl (lv_at hl 0 rfl) ?_
  refine va_get (D := (dC, dI)) (ci := 0) (v := .ref d1) (C := RX0) (T := TX0) (N := 3) hx hb hts fa_beginAt_0 hown hK hP 0 rfl rfl 0 (by decide) (hts _ fa_beginAt_1) (fun _ h9 => h9) rfl dX0_beginAt_1 ?_
  refine lv_ldc (v := 2147483647) hx hb hown (hts _ fa_beginAt_2) dX0_beginAt_4 ?_
  have hPc := hP.sub (ws' := [(d1, .inl (cI, N, .inl le))]) [1] rfl
  have hDc := hD.sub (ws' := [(d1, .inl (cI, N, .inl le))]) [1] (by decide) rfl
  have hFc := va_free (wc := [(d1, .inl (cI, N, .inl le))]) hD hS hA [1] rfl
  refine va_callv (va_runS (As := [.ref d1, .int 2147483647]) (rest := []) ⟨hx, hb, hml, hown, hts⟩ (k_fill l dC dI cI cJ cZ d1 N le 2147483647 s.heap.size (by omega)) (va_cwS 2 hts gX0_beginAt_J7_fill_53178 rfl rfl rfl (by decide +kernel) ⟨Nat.le_of_ble_eq_true rfl, Nat.le_of_ble_eq_true rfl⟩) ⟨fun a U g mk q => by obtain ⟨q0, q1, qP, qK, qD⟩ := q; exact ⟨q0, q1, qP, va_K.moved (u := U) (U := U.calling g mk a) (Vm.Alike.refl U.vm) qK, qD⟩, fun U hU hW => ⟨rfl, by rw [hU], by rw [hU]; exact hPc, va_K.moved hW.alike hK, hDc.weaken (fun _ _ _ _ => trivial)⟩⟩ rfl rfl hl.1 rfl (lv_room (Nat.le_of_ble_eq_true rfl)) dX0_beginAt_6 ⟨Nat.le_of_ble_eq_true rfl, Nat.le_of_ble_eq_true rfl⟩) hS (fun q _ h => hFc q h) hFc (fun u t H1 locs ht hvm hw_6 hB hz1 hk1 hS => ?_)
  obtain ⟨hP1, hK1, hD1⟩ := hB
  rw [ht] at hP1
  obtain ⟨hP, hD⟩ := va_join (wr := [(d0, .inr (0, [.ref d1, .ref d2, .ref (q 1)])), (d2, .inl (cI, N, .inl fe))]) (w1 := [(d1, .inl (cI, N, .inl (fun _ => 2147483647)))]) hP hD [1] [0, 2] rfl rfl (by decide) (by decide) hk1 hFc hP1 hD1
  generalize H1 = H at hP hS ⊢
  have hP := hP.sub (ws' := [(d0, .inr (0, [.ref d1, .ref d2, .ref (q 1)])), (d1, .inl (cI, N, .inl (fun _ => 2147483647))), (d2, .inl (cI, N, .inl fe))]) [0, 2, 1] rfl
  have hD := hD.sub (ws' := [(d0, .inr (0, [.ref d1, .ref d2, .ref (q 1)])), (d1, .inl (cI, N, .inl (fun _ => 2147483647))), (d2, .inl (cI, N, .inl fe))]) [0, 2, 1] (by decide) rfl
  refine lv_aload_n hx hb dX0_beginAt_9 rfl (lv_at hl 0 rfl) ?_
  refine va_get (D := (dC, dI)) (ci := 0) (v := .ref d2) (C := RX0) (T := TX0) (N := 3) hx hb hts fa_beginAt_0 hown hK hP 0 rfl rfl 1 (by decide) (hts _ fa_beginAt_3) (fun _ h9 => h9) rfl dX0_beginAt_10 ?_
  refine lv_iconst (v := 0) hx hb dX0_beginAt_13 (by decide) ?_
  have hPc := hP.sub (ws' := [(d2, .inl (cI, N, .inl fe))]) [2] rfl
  have hDc := hD.sub (ws' := [(d2, .inl (cI, N, .inl fe))]) [2] (by decide) rfl
  have hFc := va_free (wc := [(d2, .inl (cI, N, .inl fe))]) hD hS hA [2] rfl
  refine va_callv (va_runS (As := [.ref d2, .int 0]) (rest := []) ⟨hx, hb, hml, hown, hts⟩ (k_fill l dC dI cI cJ cZ d2 N fe 0 H.size (by omega)) (va_cwS 2 hts gX0_beginAt_J7_fill_53178 rfl rfl rfl (by decide +kernel) ⟨Nat.le_of_ble_eq_true rfl, Nat.le_of_ble_eq_true rfl⟩) ⟨fun a U g mk q => by obtain ⟨q0, q1, qP, qK, qD⟩ := q; exact ⟨q0, q1, qP, va_K.moved (u := U) (U := U.calling g mk a) (Vm.Alike.refl U.vm) qK, qD⟩, fun U hU hW => ⟨rfl, by rw [hU], by rw [hU]; exact hPc, va_K.moved hW.alike hK, hDc.weaken (fun _ _ _ _ => trivial)⟩⟩ rfl rfl hl.1 rfl (lv_room (Nat.le_of_ble_eq_true rfl)) dX0_beginAt_14 ⟨Nat.le_of_ble_eq_true rfl, Nat.le_of_ble_eq_true rfl⟩) hS (fun q _ h => hFc q h) hFc (fun u t H1 locs ht hvm hw_14 hB hz1 hk1 hS => ?_)
  obtain ⟨hP1, hK1, hD1⟩ := hB
  rw [ht] at hP1
  obtain ⟨hP, hD⟩ := va_join (wr := [(d0, .inr (0, [.ref d1, .ref d2, .ref (q 1)])), (d1, .inl (cI, N, .inl (fun _ => 2147483647)))]) (w1 := [(d2, .inl (cI, N, .inl (fun _ => 0)))]) hP hD [2] [0, 1] rfl rfl (by decide) (by decide) hk1 hFc hP1 hD1
  generalize H1 = H at hP hS ⊢
  have hP := hP.sub (ws' := [(d0, .inr (0, [.ref d1, .ref d2, .ref (q 1)])), (d1, .inl (cI, N, .inl (fun _ => 2147483647))), (d2, .inl (cI, N, .inl (fun _ => 0)))]) [0, 1, 2] rfl
  have hD := hD.sub (ws' := [(d0, .inr (0, [.ref d1, .ref d2, .ref (q 1)])), (d1, .inl (cI, N, .inl (fun _ => 2147483647))), (d2, .inl (cI, N, .inl (fun _ => 0)))]) [0, 1, 2] (by decide) rfl
  refine lv_aload_n hx hb dX0_beginAt_17 rfl (lv_at hl 0 rfl) ?_
  refine va_get (D := (dC, dI)) (ci := 0) (v := .ref d1) (C := RX0) (T := TX0) (N := 3) hx hb hts fa_beginAt_0 hown hK hP 0 rfl rfl 0 (by decide) (hts _ fa_beginAt_1) (fun _ h9 => h9) rfl dX0_beginAt_18 ?_
  refine lv_iload_n hx hb dX0_beginAt_21 rfl (lv_at hl 1 rfl) ?_
  refine lv_iconst (v := 0) hx hb dX0_beginAt_22 (by decide) ?_
  refine va_iast (D := (dC, dI)) hx hb hK hP hD hS 1 0 rfl rfl (by first | assumption | exact vp_in_nI (by omega) (by omega)) dX0_beginAt_23 (fun H locs hP hD hS => ?_)
  have hP : va_P (dC, dI) vwCl [(d0, .inr (0, [.ref d1, .ref d2, .ref (q 1)])), (d1, .inl (cI, N, .inl (upd (fun _ => 2147483647) (x.toNatClampNeg) 0))), (d2, .inl (cI, N, .inl (fun _ => 0)))] H := hP
  have hD : va_D A [(d0, .inr (0, [.ref d1, .ref d2, .ref (q 1)])), (d1, .inl (cI, N, .inl (upd (fun _ => 2147483647) (x.toNatClampNeg) 0))), (d2, .inl (cI, N, .inl (fun _ => 0)))] := hD
  have hP9 := hP.sub (ws' := [(d0, .inr (0, [.ref d1, .ref d2, .ref (q 1)])), (d1, .inl (cI, N, .inl (upd (fun _ => 2147483647) x.toNatClampNeg 0))), (d2, .inl (cI, N, .inl (fun _ => 0)))]) [0, 1, 2] rfl
  have hD9 := hD.sub (ws' := [(d0, .inr (0, [.ref d1, .ref d2, .ref (q 1)])), (d1, .inl (cI, N, .inl (upd (fun _ => 2147483647) x.toNatClampNeg 0))), (d2, .inl (cI, N, .inl (fun _ => 0)))]) [0, 1, 2] (by decide) rfl
  exact W.vret hx hb hr (fun t ht hW => ⟨⟨(), rfl, trivial, by rw [ht]; exact hP9, va_K.moved hW.alike hK, hD9⟩, hS.F ht⟩) hS.2.2 dX0_beginAt_24

set_option maxHeartbeats 4000000 in
set_option maxRecDepth 100000 in
theorem k_measureFrom (l : Launch) (dC : Nat → ClassId) (dI : Nat → Nat → Nat) (cI cJ cZ : ClassId) (d0 d1 d2 : Nat) (q : Nat → Nat) (N M E : Nat) (fr to cap uc fl : Nat → Int32) (le fe : Nat → Int32) (x : Int32) (sz : Nat) (hE : E ≤ M) (hM : M < 1000) (hN : N < 1000) (hfr : ∀ e, e < E → vp_in (fr e) N) (hto : ∀ e, e < E → vp_in (to e) N) (hx0 : vp_in x N) : Met l yX0_measureFrom wsX0_measureFrom ({ frames := 4, cells := 0, slots := 0, locals := 89 }) (va_Pc [.ref d0, .int x] (fun U => U.heap.size = sz ∧ va_P (dC, dI) vwCl [(d0, .inr (0, [.ref d1, .ref d2, .ref (q 1)])), (d1, .inl (cI, N, .inl le)), (d2, .inl (cI, N, .inl fe)), (q 1, .inr (1, [.int (nI N), .ref (q 2), .ref (q 3), .ref (q 4), .ref (q 5), .ref (q 6), .int (nI E)])), (q 2, .inl (cI, M, .inl fr)), (q 3, .inl (cI, M, .inl to)), (q 4, .inl (cI, M, .inl cap)), (q 5, .inl (cI, M, .inl uc)), (q 6, .inl (cI, M, .inl fl))] U.heap ∧ va_K (dC, dI) vwCl [(cI, .int), (cJ, .long), (cZ, .boolean)] U ∧ va_D (fun _ => True) [(d0, .inr (0, [.ref d1, .ref d2, .ref (q 1)])), (d1, .inl (cI, N, .inl le)), (d2, .inl (cI, N, .inl fe)), (q 1, .inr (1, [.int (nI N), .ref (q 2), .ref (q 3), .ref (q 4), .ref (q 5), .ref (q 6), .int (nI E)])), (q 2, .inl (cI, M, .inl fr)), (q 3, .inl (cI, M, .inl to)), (q 4, .inl (cI, M, .inl cap)), (q 5, .inl (cI, M, .inl uc)), (q 6, .inl (cI, M, .inl fl))])) (va_Qv (fun (u_ : Unit) => True) (fun (u_ : Unit) (t : State) => va_P (dC, dI) vwCl [(d0, .inr (0, [.ref d1, .ref d2, .ref (q 1)])), (d1, .inl (cI, N, .inl ((fp_se false fr to cap uc fl (2 * E) N (upd (fun _ => 2147483647) x.toNatClampNeg 0) (fun _ => 0)).1))), (d2, .inl (cI, N, .inl ((fp_se false fr to cap uc fl (2 * E) N (upd (fun _ => 2147483647) x.toNatClampNeg 0) (fun _ => 0)).2.1))), (q 1, .inr (1, [.int (nI N), .ref (q 2), .ref (q 3), .ref (q 4), .ref (q 5), .ref (q 6), .int (nI E)])), (q 2, .inl (cI, M, .inl fr)), (q 3, .inl (cI, M, .inl to)), (q 4, .inl (cI, M, .inl cap)), (q 5, .inl (cI, M, .inl uc)), (q 6, .inl (cI, M, .inl fl))] t.heap ∧ va_K (dC, dI) vwCl [(cI, .int), (cJ, .long), (cZ, .boolean)] t ∧ va_D (va_A [(d0, .inr (0, [.ref d1, .ref d2, .ref (q 1)])), (d1, .inl (cI, N, .inl le)), (d2, .inl (cI, N, .inl fe)), (q 1, .inr (1, [.int (nI N), .ref (q 2), .ref (q 3), .ref (q 4), .ref (q 5), .ref (q 6), .int (nI E)])), (q 2, .inl (cI, M, .inl fr)), (q 3, .inl (cI, M, .inl to)), (q 4, .inl (cI, M, .inl cap)), (q 5, .inl (cI, M, .inl uc)), (q 6, .inl (cI, M, .inl fl))] sz) [(d0, .inr (0, [.ref d1, .ref d2, .ref (q 1)])), (d1, .inl (cI, N, .inl ((fp_se false fr to cap uc fl (2 * E) N (upd (fun _ => 2147483647) x.toNatClampNeg 0) (fun _ => 0)).1))), (d2, .inl (cI, N, .inl ((fp_se false fr to cap uc fl (2 * E) N (upd (fun _ => 2147483647) x.toNatClampNeg 0) (fun _ => 0)).2.1))), (q 1, .inr (1, [.int (nI N), .ref (q 2), .ref (q 3), .ref (q 4), .ref (q 5), .ref (q 6), .int (nI E)])), (q 2, .inl (cI, M, .inl fr)), (q 3, .inl (cI, M, .inl to)), (q 4, .inl (cI, M, .inl cap)), (q 5, .inl (cI, M, .inl uc)), (q 6, .inl (cI, M, .inl fl))]) (va_A [(d0, .inr (0, [.ref d1, .ref d2, .ref (q 1)])), (d1, .inl (cI, N, .inl le)), (d2, .inl (cI, N, .inl fe)), (q 1, .inr (1, [.int (nI N), .ref (q 2), .ref (q 3), .ref (q 4), .ref (q 5), .ref (q 6), .int (nI E)])), (q 2, .inl (cI, M, .inl fr)), (q 3, .inl (cI, M, .inl to)), (q 4, .inl (cI, M, .inl cap)), (q 5, .inl (cI, M, .inl uc)), (q 6, .inl (cI, M, .inl fl))] sz)) 0 0 (va_A [(d0, .inr (0, [.ref d1, .ref d2, .ref (q 1)])), (d1, .inl (cI, N, .inl le)), (d2, .inl (cI, N, .inl fe)), (q 1, .inr (1, [.int (nI N), .ref (q 2), .ref (q 3), .ref (q 4), .ref (q 5), .ref (q 6), .int (nI E)])), (q 2, .inl (cI, M, .inl fr)), (q 3, .inl (cI, M, .inl to)), (q 4, .inl (cI, M, .inl cap)), (q 5, .inl (cI, M, .inl uc)), (q 6, .inl (cI, M, .inl fl))] sz) := by
  refine Met.ofW (cc := cX0_measureFrom) (maxL := 2) (ret := none) (by decide) rfl ?_
  intro p e s m args below meth c s₁ B hml hv
  obtain ⟨rfl, hsz, hP, hK, hD0⟩ := hv
  have hx := B.exec
  have hb := B.bytes
  have hr := B.returns
  have hts := atoms_spec (ws := wsX0_measureFrom) B.pre
  have hown : s.vm.findClass RX0 = some m.cls := findClass_of_methodNamed B.named
  have hlocks := B.notSynchronized
  subst hsz
  have hD := hD0.self (sz := s.heap.size)
  generalize hAe : va_A [(d0, .inr (0, [.ref d1, .ref d2, .ref (q 1)])), (d1, .inl (cI, N, .inl le)), (d2, .inl (cI, N, .inl fe)), (q 1, .inr (1, [.int (nI N), .ref (q 2), .ref (q 3), .ref (q 4), .ref (q 5), .ref (q 6), .int (nI E)])), (q 2, .inl (cI, M, .inl fr)), (q 3, .inl (cI, M, .inl to)), (q 4, .inl (cI, M, .inl cap)), (q 5, .inl (cI, M, .inl uc)), (q 6, .inl (cI, M, .inl fl))] s.heap.size = A at hD ⊢
  have hA : ∀ q : Nat, s.heap.size ≤ q → A q := fun q h => by rw [← hAe]; exact Or.inr h
  have hS : va_S A s.heap s.heap [] := va_S.rf
  have hP : va_P (dC, dI) vwCl [(d0, .inr (0, [.ref d1, .ref d2, .ref (q 1)])), (d1, .inl (cI, N, .inl le)), (d2, .inl (cI, N, .inl fe)), (q 1, .inr (1, [.int (nI N), .ref (q 2), .ref (q 3), .ref (q 4), .ref (q 5), .ref (q 6), .int (nI E)])), (q 2, .inl (cI, M, .inl fr)), (q 3, .inl (cI, M, .inl to)), (q 4, .inl (cI, M, .inl cap)), (q 5, .inl (cI, M, .inl uc)), (q 6, .inl (cI, M, .inl fl))] s.heap := hP
  have hl := lv_entry ([.ref d0, .int x]) (n := 2) (Nat.le_of_ble_eq_true rfl)
  rw [lg_entry_eq]
  generalize (lg_sl ([.ref d0, .int x]) ++ List.replicate (2 - (lg_sl ([.ref d0, .int x])).length) Slot.unset).toArray = ls at hl ⊢
  have hl : lv_has ls 2 [(0, .ref d0), (1, .int x)] := hl
  refine lv_aload_n hx hb dX0_measureFrom_0 rfl (lv_at hl 0 rfl) ?_
  refine lv_iload_n hx hb dX0_measureFrom_1 rfl (lv_at hl 1 rfl) ?_
  have hPc := hP.sub (ws' := [(d0, .inr (0, [.ref d1, .ref d2, .ref (q 1)])), (d1, .inl (cI, N, .inl le)), (d2, .inl (cI, N, .inl fe))]) [0, 1, 2] rfl
  have hDc := hD.sub (ws' := [(d0, .inr (0, [.ref d1, .ref d2, .ref (q 1)])), (d1, .inl (cI, N, .inl le)), (d2, .inl (cI, N, .inl fe))]) [0, 1, 2] (by decide) rfl
  have hFc := va_free (wc := [(d0, .inr (0, [.ref d1, .ref d2, .ref (q 1)])), (d1, .inl (cI, N, .inl le)), (d2, .inl (cI, N, .inl fe))]) hD hS hA [0, 1, 2] rfl
  refine va_callv (va_runV (As := [.int x]) (rest := []) ⟨hx, hb, hml, hown, hts⟩ (k_beginAt l dC dI cI cJ cZ d0 d1 d2 q N le fe x s.heap.size hN (by assumption)) (cwV 1 hts gX0_measureFrom_X0_beginAt rfl rfl rfl (by decide +kernel) ⟨Nat.le_of_ble_eq_true rfl, Nat.le_of_ble_eq_true rfl⟩) ⟨fun a U g mk q => by obtain ⟨q0, q1, qP, qK, qD⟩ := q; exact ⟨q0, q1, qP, va_K.moved (u := U) (U := U.calling g mk a) (Vm.Alike.refl U.vm) qK, qD⟩, va_recv hK hP (ci := 0) (q0 := 0) rfl rfl, fun U hU hW => ⟨rfl, by rw [hU], by rw [hU]; exact hPc, va_K.moved hW.alike hK, hDc.weaken (fun _ _ _ _ => trivial)⟩⟩ rfl rfl hl.1 rfl (lv_room (Nat.le_of_ble_eq_true rfl)) dX0_measureFrom_2 ⟨Nat.le_of_ble_eq_true rfl, Nat.le_of_ble_eq_true rfl⟩) hS (fun q _ h => hFc q h) hFc (fun u t H1 locs ht hvm hw_2 hB hz1 hk1 hS => ?_)
  obtain ⟨hP1, hK1, hD1⟩ := hB
  rw [ht] at hP1
  obtain ⟨hP, hD⟩ := va_join (wr := [(q 1, .inr (1, [.int (nI N), .ref (q 2), .ref (q 3), .ref (q 4), .ref (q 5), .ref (q 6), .int (nI E)])), (q 2, .inl (cI, M, .inl fr)), (q 3, .inl (cI, M, .inl to)), (q 4, .inl (cI, M, .inl cap)), (q 5, .inl (cI, M, .inl uc)), (q 6, .inl (cI, M, .inl fl))]) (w1 := [(d0, .inr (0, [.ref d1, .ref d2, .ref (q 1)])), (d1, .inl (cI, N, .inl (upd (fun _ => 2147483647) x.toNatClampNeg 0))), (d2, .inl (cI, N, .inl (fun _ => 0)))]) hP hD [0, 1, 2] [3, 4, 5, 6, 7, 8] rfl rfl (by decide) (by decide) hk1 hFc hP1 hD1
  generalize H1 = H at hP hS ⊢
  have hP := hP.sub (ws' := [(d0, .inr (0, [.ref d1, .ref d2, .ref (q 1)])), (d1, .inl (cI, N, .inl (upd (fun _ => 2147483647) x.toNatClampNeg 0))), (d2, .inl (cI, N, .inl (fun _ => 0))), (q 1, .inr (1, [.int (nI N), .ref (q 2), .ref (q 3), .ref (q 4), .ref (q 5), .ref (q 6), .int (nI E)])), (q 2, .inl (cI, M, .inl fr)), (q 3, .inl (cI, M, .inl to)), (q 4, .inl (cI, M, .inl cap)), (q 5, .inl (cI, M, .inl uc)), (q 6, .inl (cI, M, .inl fl))]) [6, 7, 8, 0, 1, 2, 3, 4, 5] rfl
  have hD := hD.sub (ws' := [(d0, .inr (0, [.ref d1, .ref d2, .ref (q 1)])), (d1, .inl (cI, N, .inl (upd (fun _ => 2147483647) x.toNatClampNeg 0))), (d2, .inl (cI, N, .inl (fun _ => 0))), (q 1, .inr (1, [.int (nI N), .ref (q 2), .ref (q 3), .ref (q 4), .ref (q 5), .ref (q 6), .int (nI E)])), (q 2, .inl (cI, M, .inl fr)), (q 3, .inl (cI, M, .inl to)), (q 4, .inl (cI, M, .inl cap)), (q 5, .inl (cI, M, .inl uc)), (q 6, .inl (cI, M, .inl fl))]) [6, 7, 8, 0, 1, 2, 3, 4, 5] (by decide) rfl
  refine lv_aload_n hx hb dX0_measureFrom_5 rfl (lv_at hl 0 rfl) ?_
  refine lv_iconst (v := 0) hx hb dX0_measureFrom_6 (by decide) ?_
  have hPc := hP.sub (ws' := [(d0, .inr (0, [.ref d1, .ref d2, .ref (q 1)])), (d1, .inl (cI, N, .inl (upd (fun _ => 2147483647) x.toNatClampNeg 0))), (d2, .inl (cI, N, .inl (fun _ => 0))), (q 1, .inr (1, [.int (nI N), .ref (q 2), .ref (q 3), .ref (q 4), .ref (q 5), .ref (q 6), .int (nI E)])), (q 2, .inl (cI, M, .inl fr)), (q 3, .inl (cI, M, .inl to)), (q 4, .inl (cI, M, .inl cap)), (q 5, .inl (cI, M, .inl uc)), (q 6, .inl (cI, M, .inl fl))]) [0, 1, 2, 3, 4, 5, 6, 7, 8] rfl
  have hDc := hD.sub (ws' := [(d0, .inr (0, [.ref d1, .ref d2, .ref (q 1)])), (d1, .inl (cI, N, .inl (upd (fun _ => 2147483647) x.toNatClampNeg 0))), (d2, .inl (cI, N, .inl (fun _ => 0))), (q 1, .inr (1, [.int (nI N), .ref (q 2), .ref (q 3), .ref (q 4), .ref (q 5), .ref (q 6), .int (nI E)])), (q 2, .inl (cI, M, .inl fr)), (q 3, .inl (cI, M, .inl to)), (q 4, .inl (cI, M, .inl cap)), (q 5, .inl (cI, M, .inl uc)), (q 6, .inl (cI, M, .inl fl))]) [0, 1, 2, 3, 4, 5, 6, 7, 8] (by decide) rfl
  have hFc := va_free (wc := [(d0, .inr (0, [.ref d1, .ref d2, .ref (q 1)])), (d1, .inl (cI, N, .inl (upd (fun _ => 2147483647) x.toNatClampNeg 0))), (d2, .inl (cI, N, .inl (fun _ => 0))), (q 1, .inr (1, [.int (nI N), .ref (q 2), .ref (q 3), .ref (q 4), .ref (q 5), .ref (q 6), .int (nI E)])), (q 2, .inl (cI, M, .inl fr)), (q 3, .inl (cI, M, .inl to)), (q 4, .inl (cI, M, .inl cap)), (q 5, .inl (cI, M, .inl uc)), (q 6, .inl (cI, M, .inl fl))]) hD hS hA [0, 1, 2, 3, 4, 5, 6, 7, 8] rfl
  refine va_calli (va_runV (As := [.int 0]) (rest := []) ⟨hx, hb, hml, hown, hts⟩ (k_settleF l dC dI cI cJ cZ d0 d1 d2 q N M E fr to cap uc fl (upd (fun _ => 2147483647) x.toNatClampNeg 0) (fun _ => 0) H.size hE hM hN hfr hto) (cwV 1 hts gX0_measureFrom_X0_settle rfl rfl rfl (by decide +kernel) ⟨Nat.le_of_ble_eq_true rfl, Nat.le_of_ble_eq_true rfl⟩) ⟨fun a U g mk q => by obtain ⟨q0, q1, qP, qK, qD⟩ := q; exact ⟨q0, q1, qP, va_K.moved (u := U) (U := U.calling g mk a) (Vm.Alike.refl U.vm) qK, qD⟩, va_recv hK hP (ci := 0) (q0 := 0) rfl rfl, fun U hU hW => ⟨rfl, by rw [hU], by rw [hU]; exact hPc, va_K.moved hW.alike hK, hDc.weaken (fun _ _ _ _ => trivial)⟩⟩ rfl rfl hl.1 rfl (lv_room (Nat.le_of_ble_eq_true rfl)) dX0_measureFrom_7 ⟨Nat.le_of_ble_eq_true rfl, Nat.le_of_ble_eq_true rfl⟩) hS (fun q _ h => hFc q h) hFc (fun r_7 u t H1 locs ht hvm hw_7 hB hz1 hk1 hS => ?_)
  obtain ⟨hP1, hK1, hD1⟩ := hB
  rw [ht] at hP1
  obtain ⟨hP, hD⟩ := va_join (wr := []) (w1 := [(d0, .inr (0, [.ref d1, .ref d2, .ref (q 1)])), (d1, .inl (cI, N, .inl ((fp_se false fr to cap uc fl (2 * E) N (upd (fun _ => 2147483647) x.toNatClampNeg 0) (fun _ => 0)).1))), (d2, .inl (cI, N, .inl ((fp_se false fr to cap uc fl (2 * E) N (upd (fun _ => 2147483647) x.toNatClampNeg 0) (fun _ => 0)).2.1))), (q 1, .inr (1, [.int (nI N), .ref (q 2), .ref (q 3), .ref (q 4), .ref (q 5), .ref (q 6), .int (nI E)])), (q 2, .inl (cI, M, .inl fr)), (q 3, .inl (cI, M, .inl to)), (q 4, .inl (cI, M, .inl cap)), (q 5, .inl (cI, M, .inl uc)), (q 6, .inl (cI, M, .inl fl))]) hP hD [0, 1, 2, 3, 4, 5, 6, 7, 8] [] rfl rfl (by decide) (by decide) hk1 hFc hP1 hD1
  generalize H1 = H at hP hS ⊢
  have hP := hP.sub (ws' := [(d0, .inr (0, [.ref d1, .ref d2, .ref (q 1)])), (d1, .inl (cI, N, .inl ((fp_se false fr to cap uc fl (2 * E) N (upd (fun _ => 2147483647) x.toNatClampNeg 0) (fun _ => 0)).1))), (d2, .inl (cI, N, .inl ((fp_se false fr to cap uc fl (2 * E) N (upd (fun _ => 2147483647) x.toNatClampNeg 0) (fun _ => 0)).2.1))), (q 1, .inr (1, [.int (nI N), .ref (q 2), .ref (q 3), .ref (q 4), .ref (q 5), .ref (q 6), .int (nI E)])), (q 2, .inl (cI, M, .inl fr)), (q 3, .inl (cI, M, .inl to)), (q 4, .inl (cI, M, .inl cap)), (q 5, .inl (cI, M, .inl uc)), (q 6, .inl (cI, M, .inl fl))]) [0, 1, 2, 3, 4, 5, 6, 7, 8] rfl
  have hD := hD.sub (ws' := [(d0, .inr (0, [.ref d1, .ref d2, .ref (q 1)])), (d1, .inl (cI, N, .inl ((fp_se false fr to cap uc fl (2 * E) N (upd (fun _ => 2147483647) x.toNatClampNeg 0) (fun _ => 0)).1))), (d2, .inl (cI, N, .inl ((fp_se false fr to cap uc fl (2 * E) N (upd (fun _ => 2147483647) x.toNatClampNeg 0) (fun _ => 0)).2.1))), (q 1, .inr (1, [.int (nI N), .ref (q 2), .ref (q 3), .ref (q 4), .ref (q 5), .ref (q 6), .int (nI E)])), (q 2, .inl (cI, M, .inl fr)), (q 3, .inl (cI, M, .inl to)), (q 4, .inl (cI, M, .inl cap)), (q 5, .inl (cI, M, .inl uc)), (q 6, .inl (cI, M, .inl fl))]) [0, 1, 2, 3, 4, 5, 6, 7, 8] (by decide) rfl
  obtain rfl := hw_7
  refine lv_pop hx hb dX0_measureFrom_10 rfl ?_
  have hP9 := hP.sub (ws' := [(d0, .inr (0, [.ref d1, .ref d2, .ref (q 1)])), (d1, .inl (cI, N, .inl ((fp_se false fr to cap uc fl (2 * E) N (upd (fun _ => 2147483647) x.toNatClampNeg 0) (fun _ => 0)).1))), (d2, .inl (cI, N, .inl ((fp_se false fr to cap uc fl (2 * E) N (upd (fun _ => 2147483647) x.toNatClampNeg 0) (fun _ => 0)).2.1))), (q 1, .inr (1, [.int (nI N), .ref (q 2), .ref (q 3), .ref (q 4), .ref (q 5), .ref (q 6), .int (nI E)])), (q 2, .inl (cI, M, .inl fr)), (q 3, .inl (cI, M, .inl to)), (q 4, .inl (cI, M, .inl cap)), (q 5, .inl (cI, M, .inl uc)), (q 6, .inl (cI, M, .inl fl))]) [0, 1, 2, 3, 4, 5, 6, 7, 8] rfl
  have hD9 := hD.sub (ws' := [(d0, .inr (0, [.ref d1, .ref d2, .ref (q 1)])), (d1, .inl (cI, N, .inl ((fp_se false fr to cap uc fl (2 * E) N (upd (fun _ => 2147483647) x.toNatClampNeg 0) (fun _ => 0)).1))), (d2, .inl (cI, N, .inl ((fp_se false fr to cap uc fl (2 * E) N (upd (fun _ => 2147483647) x.toNatClampNeg 0) (fun _ => 0)).2.1))), (q 1, .inr (1, [.int (nI N), .ref (q 2), .ref (q 3), .ref (q 4), .ref (q 5), .ref (q 6), .int (nI E)])), (q 2, .inl (cI, M, .inl fr)), (q 3, .inl (cI, M, .inl to)), (q 4, .inl (cI, M, .inl cap)), (q 5, .inl (cI, M, .inl uc)), (q 6, .inl (cI, M, .inl fl))]) [0, 1, 2, 3, 4, 5, 6, 7, 8] (by decide) rfl
  exact W.vret hx hb hr (fun t ht hW => ⟨⟨(), rfl, trivial, by rw [ht]; exact hP9, va_K.moved hW.alike hK, hD9⟩, hS.F ht⟩) hS.2.2 dX0_measureFrom_11

set_option maxHeartbeats 4000000 in
set_option maxRecDepth 100000 in
theorem k_measureTo (l : Launch) (dC : Nat → ClassId) (dI : Nat → Nat → Nat) (cI cJ cZ : ClassId) (d0 d1 d2 : Nat) (q : Nat → Nat) (N M E : Nat) (fr to cap uc fl : Nat → Int32) (le fe : Nat → Int32) (x : Int32) (sz : Nat) (hE : E ≤ M) (hM : M < 1000) (hN : N < 1000) (hfr : ∀ e, e < E → vp_in (fr e) N) (hto : ∀ e, e < E → vp_in (to e) N) (hx0 : vp_in x N) : Met l yX0_measureTo wsX0_measureTo ({ frames := 4, cells := 0, slots := 0, locals := 89 }) (va_Pc [.ref d0, .int x] (fun U => U.heap.size = sz ∧ va_P (dC, dI) vwCl [(d0, .inr (0, [.ref d1, .ref d2, .ref (q 1)])), (d1, .inl (cI, N, .inl le)), (d2, .inl (cI, N, .inl fe)), (q 1, .inr (1, [.int (nI N), .ref (q 2), .ref (q 3), .ref (q 4), .ref (q 5), .ref (q 6), .int (nI E)])), (q 2, .inl (cI, M, .inl fr)), (q 3, .inl (cI, M, .inl to)), (q 4, .inl (cI, M, .inl cap)), (q 5, .inl (cI, M, .inl uc)), (q 6, .inl (cI, M, .inl fl))] U.heap ∧ va_K (dC, dI) vwCl [(cI, .int), (cJ, .long), (cZ, .boolean)] U ∧ va_D (fun _ => True) [(d0, .inr (0, [.ref d1, .ref d2, .ref (q 1)])), (d1, .inl (cI, N, .inl le)), (d2, .inl (cI, N, .inl fe)), (q 1, .inr (1, [.int (nI N), .ref (q 2), .ref (q 3), .ref (q 4), .ref (q 5), .ref (q 6), .int (nI E)])), (q 2, .inl (cI, M, .inl fr)), (q 3, .inl (cI, M, .inl to)), (q 4, .inl (cI, M, .inl cap)), (q 5, .inl (cI, M, .inl uc)), (q 6, .inl (cI, M, .inl fl))])) (va_Qv (fun (u_ : Unit) => True) (fun (u_ : Unit) (t : State) => va_P (dC, dI) vwCl [(d0, .inr (0, [.ref d1, .ref d2, .ref (q 1)])), (d1, .inl (cI, N, .inl ((fp_se true fr to cap uc fl (2 * E) N (upd (fun _ => 2147483647) x.toNatClampNeg 0) (fun _ => 0)).1))), (d2, .inl (cI, N, .inl ((fp_se true fr to cap uc fl (2 * E) N (upd (fun _ => 2147483647) x.toNatClampNeg 0) (fun _ => 0)).2.1))), (q 1, .inr (1, [.int (nI N), .ref (q 2), .ref (q 3), .ref (q 4), .ref (q 5), .ref (q 6), .int (nI E)])), (q 2, .inl (cI, M, .inl fr)), (q 3, .inl (cI, M, .inl to)), (q 4, .inl (cI, M, .inl cap)), (q 5, .inl (cI, M, .inl uc)), (q 6, .inl (cI, M, .inl fl))] t.heap ∧ va_K (dC, dI) vwCl [(cI, .int), (cJ, .long), (cZ, .boolean)] t ∧ va_D (va_A [(d0, .inr (0, [.ref d1, .ref d2, .ref (q 1)])), (d1, .inl (cI, N, .inl le)), (d2, .inl (cI, N, .inl fe)), (q 1, .inr (1, [.int (nI N), .ref (q 2), .ref (q 3), .ref (q 4), .ref (q 5), .ref (q 6), .int (nI E)])), (q 2, .inl (cI, M, .inl fr)), (q 3, .inl (cI, M, .inl to)), (q 4, .inl (cI, M, .inl cap)), (q 5, .inl (cI, M, .inl uc)), (q 6, .inl (cI, M, .inl fl))] sz) [(d0, .inr (0, [.ref d1, .ref d2, .ref (q 1)])), (d1, .inl (cI, N, .inl ((fp_se true fr to cap uc fl (2 * E) N (upd (fun _ => 2147483647) x.toNatClampNeg 0) (fun _ => 0)).1))), (d2, .inl (cI, N, .inl ((fp_se true fr to cap uc fl (2 * E) N (upd (fun _ => 2147483647) x.toNatClampNeg 0) (fun _ => 0)).2.1))), (q 1, .inr (1, [.int (nI N), .ref (q 2), .ref (q 3), .ref (q 4), .ref (q 5), .ref (q 6), .int (nI E)])), (q 2, .inl (cI, M, .inl fr)), (q 3, .inl (cI, M, .inl to)), (q 4, .inl (cI, M, .inl cap)), (q 5, .inl (cI, M, .inl uc)), (q 6, .inl (cI, M, .inl fl))]) (va_A [(d0, .inr (0, [.ref d1, .ref d2, .ref (q 1)])), (d1, .inl (cI, N, .inl le)), (d2, .inl (cI, N, .inl fe)), (q 1, .inr (1, [.int (nI N), .ref (q 2), .ref (q 3), .ref (q 4), .ref (q 5), .ref (q 6), .int (nI E)])), (q 2, .inl (cI, M, .inl fr)), (q 3, .inl (cI, M, .inl to)), (q 4, .inl (cI, M, .inl cap)), (q 5, .inl (cI, M, .inl uc)), (q 6, .inl (cI, M, .inl fl))] sz)) 0 0 (va_A [(d0, .inr (0, [.ref d1, .ref d2, .ref (q 1)])), (d1, .inl (cI, N, .inl le)), (d2, .inl (cI, N, .inl fe)), (q 1, .inr (1, [.int (nI N), .ref (q 2), .ref (q 3), .ref (q 4), .ref (q 5), .ref (q 6), .int (nI E)])), (q 2, .inl (cI, M, .inl fr)), (q 3, .inl (cI, M, .inl to)), (q 4, .inl (cI, M, .inl cap)), (q 5, .inl (cI, M, .inl uc)), (q 6, .inl (cI, M, .inl fl))] sz) := by
  refine Met.ofW (cc := cX0_measureTo) (maxL := 2) (ret := none) (by decide) rfl ?_
  intro p e s m args below meth c s₁ B hml hv
  obtain ⟨rfl, hsz, hP, hK, hD0⟩ := hv
  have hx := B.exec
  have hb := B.bytes
  have hr := B.returns
  have hts := atoms_spec (ws := wsX0_measureTo) B.pre
  have hown : s.vm.findClass RX0 = some m.cls := findClass_of_methodNamed B.named
  have hlocks := B.notSynchronized
  subst hsz
  have hD := hD0.self (sz := s.heap.size)
  generalize hAe : va_A [(d0, .inr (0, [.ref d1, .ref d2, .ref (q 1)])), (d1, .inl (cI, N, .inl le)), (d2, .inl (cI, N, .inl fe)), (q 1, .inr (1, [.int (nI N), .ref (q 2), .ref (q 3), .ref (q 4), .ref (q 5), .ref (q 6), .int (nI E)])), (q 2, .inl (cI, M, .inl fr)), (q 3, .inl (cI, M, .inl to)), (q 4, .inl (cI, M, .inl cap)), (q 5, .inl (cI, M, .inl uc)), (q 6, .inl (cI, M, .inl fl))] s.heap.size = A at hD ⊢
  have hA : ∀ q : Nat, s.heap.size ≤ q → A q := fun q h => by rw [← hAe]; exact Or.inr h
  have hS : va_S A s.heap s.heap [] := va_S.rf
  have hP : va_P (dC, dI) vwCl [(d0, .inr (0, [.ref d1, .ref d2, .ref (q 1)])), (d1, .inl (cI, N, .inl le)), (d2, .inl (cI, N, .inl fe)), (q 1, .inr (1, [.int (nI N), .ref (q 2), .ref (q 3), .ref (q 4), .ref (q 5), .ref (q 6), .int (nI E)])), (q 2, .inl (cI, M, .inl fr)), (q 3, .inl (cI, M, .inl to)), (q 4, .inl (cI, M, .inl cap)), (q 5, .inl (cI, M, .inl uc)), (q 6, .inl (cI, M, .inl fl))] s.heap := hP
  have hl := lv_entry ([.ref d0, .int x]) (n := 2) (Nat.le_of_ble_eq_true rfl)
  rw [lg_entry_eq]
  generalize (lg_sl ([.ref d0, .int x]) ++ List.replicate (2 - (lg_sl ([.ref d0, .int x])).length) Slot.unset).toArray = ls at hl ⊢
  have hl : lv_has ls 2 [(0, .ref d0), (1, .int x)] := hl
  refine lv_aload_n hx hb dX0_measureTo_0 rfl (lv_at hl 0 rfl) ?_
  refine lv_iload_n hx hb dX0_measureTo_1 rfl (lv_at hl 1 rfl) ?_
  have hPc := hP.sub (ws' := [(d0, .inr (0, [.ref d1, .ref d2, .ref (q 1)])), (d1, .inl (cI, N, .inl le)), (d2, .inl (cI, N, .inl fe))]) [0, 1, 2] rfl
  have hDc := hD.sub (ws' := [(d0, .inr (0, [.ref d1, .ref d2, .ref (q 1)])), (d1, .inl (cI, N, .inl le)), (d2, .inl (cI, N, .inl fe))]) [0, 1, 2] (by decide) rfl
  have hFc := va_free (wc := [(d0, .inr (0, [.ref d1, .ref d2, .ref (q 1)])), (d1, .inl (cI, N, .inl le)), (d2, .inl (cI, N, .inl fe))]) hD hS hA [0, 1, 2] rfl
  refine va_callv (va_runV (As := [.int x]) (rest := []) ⟨hx, hb, hml, hown, hts⟩ (k_beginAt l dC dI cI cJ cZ d0 d1 d2 q N le fe x s.heap.size hN (by assumption)) (cwV 1 hts gX0_measureTo_X0_beginAt rfl rfl rfl (by decide +kernel) ⟨Nat.le_of_ble_eq_true rfl, Nat.le_of_ble_eq_true rfl⟩) ⟨fun a U g mk q => by obtain ⟨q0, q1, qP, qK, qD⟩ := q; exact ⟨q0, q1, qP, va_K.moved (u := U) (U := U.calling g mk a) (Vm.Alike.refl U.vm) qK, qD⟩, va_recv hK hP (ci := 0) (q0 := 0) rfl rfl, fun U hU hW => ⟨rfl, by rw [hU], by rw [hU]; exact hPc, va_K.moved hW.alike hK, hDc.weaken (fun _ _ _ _ => trivial)⟩⟩ rfl rfl hl.1 rfl (lv_room (Nat.le_of_ble_eq_true rfl)) dX0_measureTo_2 ⟨Nat.le_of_ble_eq_true rfl, Nat.le_of_ble_eq_true rfl⟩) hS (fun q _ h => hFc q h) hFc (fun u t H1 locs ht hvm hw_2 hB hz1 hk1 hS => ?_)
  obtain ⟨hP1, hK1, hD1⟩ := hB
  rw [ht] at hP1
  obtain ⟨hP, hD⟩ := va_join (wr := [(q 1, .inr (1, [.int (nI N), .ref (q 2), .ref (q 3), .ref (q 4), .ref (q 5), .ref (q 6), .int (nI E)])), (q 2, .inl (cI, M, .inl fr)), (q 3, .inl (cI, M, .inl to)), (q 4, .inl (cI, M, .inl cap)), (q 5, .inl (cI, M, .inl uc)), (q 6, .inl (cI, M, .inl fl))]) (w1 := [(d0, .inr (0, [.ref d1, .ref d2, .ref (q 1)])), (d1, .inl (cI, N, .inl (upd (fun _ => 2147483647) x.toNatClampNeg 0))), (d2, .inl (cI, N, .inl (fun _ => 0)))]) hP hD [0, 1, 2] [3, 4, 5, 6, 7, 8] rfl rfl (by decide) (by decide) hk1 hFc hP1 hD1
  generalize H1 = H at hP hS ⊢
  have hP := hP.sub (ws' := [(d0, .inr (0, [.ref d1, .ref d2, .ref (q 1)])), (d1, .inl (cI, N, .inl (upd (fun _ => 2147483647) x.toNatClampNeg 0))), (d2, .inl (cI, N, .inl (fun _ => 0))), (q 1, .inr (1, [.int (nI N), .ref (q 2), .ref (q 3), .ref (q 4), .ref (q 5), .ref (q 6), .int (nI E)])), (q 2, .inl (cI, M, .inl fr)), (q 3, .inl (cI, M, .inl to)), (q 4, .inl (cI, M, .inl cap)), (q 5, .inl (cI, M, .inl uc)), (q 6, .inl (cI, M, .inl fl))]) [6, 7, 8, 0, 1, 2, 3, 4, 5] rfl
  have hD := hD.sub (ws' := [(d0, .inr (0, [.ref d1, .ref d2, .ref (q 1)])), (d1, .inl (cI, N, .inl (upd (fun _ => 2147483647) x.toNatClampNeg 0))), (d2, .inl (cI, N, .inl (fun _ => 0))), (q 1, .inr (1, [.int (nI N), .ref (q 2), .ref (q 3), .ref (q 4), .ref (q 5), .ref (q 6), .int (nI E)])), (q 2, .inl (cI, M, .inl fr)), (q 3, .inl (cI, M, .inl to)), (q 4, .inl (cI, M, .inl cap)), (q 5, .inl (cI, M, .inl uc)), (q 6, .inl (cI, M, .inl fl))]) [6, 7, 8, 0, 1, 2, 3, 4, 5] (by decide) rfl
  refine lv_aload_n hx hb dX0_measureTo_5 rfl (lv_at hl 0 rfl) ?_
  refine lv_iconst (v := 1) hx hb dX0_measureTo_6 (by decide) ?_
  have hPc := hP.sub (ws' := [(d0, .inr (0, [.ref d1, .ref d2, .ref (q 1)])), (d1, .inl (cI, N, .inl (upd (fun _ => 2147483647) x.toNatClampNeg 0))), (d2, .inl (cI, N, .inl (fun _ => 0))), (q 1, .inr (1, [.int (nI N), .ref (q 2), .ref (q 3), .ref (q 4), .ref (q 5), .ref (q 6), .int (nI E)])), (q 2, .inl (cI, M, .inl fr)), (q 3, .inl (cI, M, .inl to)), (q 4, .inl (cI, M, .inl cap)), (q 5, .inl (cI, M, .inl uc)), (q 6, .inl (cI, M, .inl fl))]) [0, 1, 2, 3, 4, 5, 6, 7, 8] rfl
  have hDc := hD.sub (ws' := [(d0, .inr (0, [.ref d1, .ref d2, .ref (q 1)])), (d1, .inl (cI, N, .inl (upd (fun _ => 2147483647) x.toNatClampNeg 0))), (d2, .inl (cI, N, .inl (fun _ => 0))), (q 1, .inr (1, [.int (nI N), .ref (q 2), .ref (q 3), .ref (q 4), .ref (q 5), .ref (q 6), .int (nI E)])), (q 2, .inl (cI, M, .inl fr)), (q 3, .inl (cI, M, .inl to)), (q 4, .inl (cI, M, .inl cap)), (q 5, .inl (cI, M, .inl uc)), (q 6, .inl (cI, M, .inl fl))]) [0, 1, 2, 3, 4, 5, 6, 7, 8] (by decide) rfl
  have hFc := va_free (wc := [(d0, .inr (0, [.ref d1, .ref d2, .ref (q 1)])), (d1, .inl (cI, N, .inl (upd (fun _ => 2147483647) x.toNatClampNeg 0))), (d2, .inl (cI, N, .inl (fun _ => 0))), (q 1, .inr (1, [.int (nI N), .ref (q 2), .ref (q 3), .ref (q 4), .ref (q 5), .ref (q 6), .int (nI E)])), (q 2, .inl (cI, M, .inl fr)), (q 3, .inl (cI, M, .inl to)), (q 4, .inl (cI, M, .inl cap)), (q 5, .inl (cI, M, .inl uc)), (q 6, .inl (cI, M, .inl fl))]) hD hS hA [0, 1, 2, 3, 4, 5, 6, 7, 8] rfl
  refine va_calli (va_runV (As := [.int 1]) (rest := []) ⟨hx, hb, hml, hown, hts⟩ (k_settleT l dC dI cI cJ cZ d0 d1 d2 q N M E fr to cap uc fl (upd (fun _ => 2147483647) x.toNatClampNeg 0) (fun _ => 0) H.size hE hM hN hfr hto) (cwV 1 hts gX0_measureTo_X0_settle rfl rfl rfl (by decide +kernel) ⟨Nat.le_of_ble_eq_true rfl, Nat.le_of_ble_eq_true rfl⟩) ⟨fun a U g mk q => by obtain ⟨q0, q1, qP, qK, qD⟩ := q; exact ⟨q0, q1, qP, va_K.moved (u := U) (U := U.calling g mk a) (Vm.Alike.refl U.vm) qK, qD⟩, va_recv hK hP (ci := 0) (q0 := 0) rfl rfl, fun U hU hW => ⟨rfl, by rw [hU], by rw [hU]; exact hPc, va_K.moved hW.alike hK, hDc.weaken (fun _ _ _ _ => trivial)⟩⟩ rfl rfl hl.1 rfl (lv_room (Nat.le_of_ble_eq_true rfl)) dX0_measureTo_7 ⟨Nat.le_of_ble_eq_true rfl, Nat.le_of_ble_eq_true rfl⟩) hS (fun q _ h => hFc q h) hFc (fun r_7 u t H1 locs ht hvm hw_7 hB hz1 hk1 hS => ?_)
  obtain ⟨hP1, hK1, hD1⟩ := hB
  rw [ht] at hP1
  obtain ⟨hP, hD⟩ := va_join (wr := []) (w1 := [(d0, .inr (0, [.ref d1, .ref d2, .ref (q 1)])), (d1, .inl (cI, N, .inl ((fp_se true fr to cap uc fl (2 * E) N (upd (fun _ => 2147483647) x.toNatClampNeg 0) (fun _ => 0)).1))), (d2, .inl (cI, N, .inl ((fp_se true fr to cap uc fl (2 * E) N (upd (fun _ => 2147483647) x.toNatClampNeg 0) (fun _ => 0)).2.1))), (q 1, .inr (1, [.int (nI N), .ref (q 2), .ref (q 3), .ref (q 4), .ref (q 5), .ref (q 6), .int (nI E)])), (q 2, .inl (cI, M, .inl fr)), (q 3, .inl (cI, M, .inl to)), (q 4, .inl (cI, M, .inl cap)), (q 5, .inl (cI, M, .inl uc)), (q 6, .inl (cI, M, .inl fl))]) hP hD [0, 1, 2, 3, 4, 5, 6, 7, 8] [] rfl rfl (by decide) (by decide) hk1 hFc hP1 hD1
  generalize H1 = H at hP hS ⊢
  have hP := hP.sub (ws' := [(d0, .inr (0, [.ref d1, .ref d2, .ref (q 1)])), (d1, .inl (cI, N, .inl ((fp_se true fr to cap uc fl (2 * E) N (upd (fun _ => 2147483647) x.toNatClampNeg 0) (fun _ => 0)).1))), (d2, .inl (cI, N, .inl ((fp_se true fr to cap uc fl (2 * E) N (upd (fun _ => 2147483647) x.toNatClampNeg 0) (fun _ => 0)).2.1))), (q 1, .inr (1, [.int (nI N), .ref (q 2), .ref (q 3), .ref (q 4), .ref (q 5), .ref (q 6), .int (nI E)])), (q 2, .inl (cI, M, .inl fr)), (q 3, .inl (cI, M, .inl to)), (q 4, .inl (cI, M, .inl cap)), (q 5, .inl (cI, M, .inl uc)), (q 6, .inl (cI, M, .inl fl))]) [0, 1, 2, 3, 4, 5, 6, 7, 8] rfl
  have hD := hD.sub (ws' := [(d0, .inr (0, [.ref d1, .ref d2, .ref (q 1)])), (d1, .inl (cI, N, .inl ((fp_se true fr to cap uc fl (2 * E) N (upd (fun _ => 2147483647) x.toNatClampNeg 0) (fun _ => 0)).1))), (d2, .inl (cI, N, .inl ((fp_se true fr to cap uc fl (2 * E) N (upd (fun _ => 2147483647) x.toNatClampNeg 0) (fun _ => 0)).2.1))), (q 1, .inr (1, [.int (nI N), .ref (q 2), .ref (q 3), .ref (q 4), .ref (q 5), .ref (q 6), .int (nI E)])), (q 2, .inl (cI, M, .inl fr)), (q 3, .inl (cI, M, .inl to)), (q 4, .inl (cI, M, .inl cap)), (q 5, .inl (cI, M, .inl uc)), (q 6, .inl (cI, M, .inl fl))]) [0, 1, 2, 3, 4, 5, 6, 7, 8] (by decide) rfl
  obtain rfl := hw_7
  refine lv_pop hx hb dX0_measureTo_10 rfl ?_
  have hP9 := hP.sub (ws' := [(d0, .inr (0, [.ref d1, .ref d2, .ref (q 1)])), (d1, .inl (cI, N, .inl ((fp_se true fr to cap uc fl (2 * E) N (upd (fun _ => 2147483647) x.toNatClampNeg 0) (fun _ => 0)).1))), (d2, .inl (cI, N, .inl ((fp_se true fr to cap uc fl (2 * E) N (upd (fun _ => 2147483647) x.toNatClampNeg 0) (fun _ => 0)).2.1))), (q 1, .inr (1, [.int (nI N), .ref (q 2), .ref (q 3), .ref (q 4), .ref (q 5), .ref (q 6), .int (nI E)])), (q 2, .inl (cI, M, .inl fr)), (q 3, .inl (cI, M, .inl to)), (q 4, .inl (cI, M, .inl cap)), (q 5, .inl (cI, M, .inl uc)), (q 6, .inl (cI, M, .inl fl))]) [0, 1, 2, 3, 4, 5, 6, 7, 8] rfl
  have hD9 := hD.sub (ws' := [(d0, .inr (0, [.ref d1, .ref d2, .ref (q 1)])), (d1, .inl (cI, N, .inl ((fp_se true fr to cap uc fl (2 * E) N (upd (fun _ => 2147483647) x.toNatClampNeg 0) (fun _ => 0)).1))), (d2, .inl (cI, N, .inl ((fp_se true fr to cap uc fl (2 * E) N (upd (fun _ => 2147483647) x.toNatClampNeg 0) (fun _ => 0)).2.1))), (q 1, .inr (1, [.int (nI N), .ref (q 2), .ref (q 3), .ref (q 4), .ref (q 5), .ref (q 6), .int (nI E)])), (q 2, .inl (cI, M, .inl fr)), (q 3, .inl (cI, M, .inl to)), (q 4, .inl (cI, M, .inl cap)), (q 5, .inl (cI, M, .inl uc)), (q 6, .inl (cI, M, .inl fl))]) [0, 1, 2, 3, 4, 5, 6, 7, 8] (by decide) rfl
  exact W.vret hx hb hr (fun t ht hW => ⟨⟨(), rfl, trivial, by rw [ht]; exact hP9, va_K.moved hW.alike hK, hD9⟩, hS.F ht⟩) hS.2.2 dX0_measureTo_11

theorem fa_settlesFE_0 : ∀ w ∈ wsX00, w ∈ wsX0_settlesFromEverywhere := by decide +kernel
theorem fa_settlesFE_1 : Cond.fieldLink RX0 21 "FlowProofs$Distances" "least" "[I" ∈ wsX0_settlesFromEverywhere := by decide +kernel
theorem fa_settlesFE_2 : Cond.fieldLink RX0 25 "FlowProofs$Distances" "fewest" "[I" ∈ wsX0_settlesFromEverywhere := by decide +kernel
set_option maxHeartbeats 4000000 in
set_option maxRecDepth 100000 in
theorem k_settlesFE (l : Launch) (dC : Nat → ClassId) (dI : Nat → Nat → Nat) (cI cJ cZ : ClassId) (d0 d1 d2 : Nat) (q : Nat → Nat) (N M E : Nat) (fr to cap uc fl : Nat → Int32) (le fe : Nat → Int32) (sz : Nat) (hE : E ≤ M) (hM : M < 1000) (hN : N < 1000) (hfr : ∀ e, e < E → vp_in (fr e) N) (hto : ∀ e, e < E → vp_in (to e) N) : Met l yX0_settlesFromEverywhere wsX0_settlesFromEverywhere ({ frames := 4, cells := 0, slots := 0, locals := 89 }) (va_Pc [.ref d0] (fun U => U.heap.size = sz ∧ va_P (dC, dI) vwCl [(d0, .inr (0, [.ref d1, .ref d2, .ref (q 1)])), (d1, .inl (cI, N, .inl le)), (d2, .inl (cI, N, .inl fe)), (q 1, .inr (1, [.int (nI N), .ref (q 2), .ref (q 3), .ref (q 4), .ref (q 5), .ref (q 6), .int (nI E)])), (q 2, .inl (cI, M, .inl fr)), (q 3, .inl (cI, M, .inl to)), (q 4, .inl (cI, M, .inl cap)), (q 5, .inl (cI, M, .inl uc)), (q 6, .inl (cI, M, .inl fl))] U.heap ∧ va_K (dC, dI) vwCl [(cI, .int), (cJ, .long), (cZ, .boolean)] U ∧ va_D (fun _ => True) [(d0, .inr (0, [.ref d1, .ref d2, .ref (q 1)])), (d1, .inl (cI, N, .inl le)), (d2, .inl (cI, N, .inl fe)), (q 1, .inr (1, [.int (nI N), .ref (q 2), .ref (q 3), .ref (q 4), .ref (q 5), .ref (q 6), .int (nI E)])), (q 2, .inl (cI, M, .inl fr)), (q 3, .inl (cI, M, .inl to)), (q 4, .inl (cI, M, .inl cap)), (q 5, .inl (cI, M, .inl uc)), (q 6, .inl (cI, M, .inl fl))])) (va_Qi (fun (r : Int32) (u_ : Unit) => r = (fp_se false fr to cap uc fl (2 * E) N (fun _ => 0) (fun _ => 0)).2.2) (fun (u_ : Unit) (t : State) => va_P (dC, dI) vwCl [(d0, .inr (0, [.ref d1, .ref d2, .ref (q 1)])), (d1, .inl (cI, N, .inl ((fp_se false fr to cap uc fl (2 * E) N (fun _ => 0) (fun _ => 0)).1))), (d2, .inl (cI, N, .inl ((fp_se false fr to cap uc fl (2 * E) N (fun _ => 0) (fun _ => 0)).2.1))), (q 1, .inr (1, [.int (nI N), .ref (q 2), .ref (q 3), .ref (q 4), .ref (q 5), .ref (q 6), .int (nI E)])), (q 2, .inl (cI, M, .inl fr)), (q 3, .inl (cI, M, .inl to)), (q 4, .inl (cI, M, .inl cap)), (q 5, .inl (cI, M, .inl uc)), (q 6, .inl (cI, M, .inl fl))] t.heap ∧ va_K (dC, dI) vwCl [(cI, .int), (cJ, .long), (cZ, .boolean)] t ∧ va_D (va_A [(d0, .inr (0, [.ref d1, .ref d2, .ref (q 1)])), (d1, .inl (cI, N, .inl le)), (d2, .inl (cI, N, .inl fe)), (q 1, .inr (1, [.int (nI N), .ref (q 2), .ref (q 3), .ref (q 4), .ref (q 5), .ref (q 6), .int (nI E)])), (q 2, .inl (cI, M, .inl fr)), (q 3, .inl (cI, M, .inl to)), (q 4, .inl (cI, M, .inl cap)), (q 5, .inl (cI, M, .inl uc)), (q 6, .inl (cI, M, .inl fl))] sz) [(d0, .inr (0, [.ref d1, .ref d2, .ref (q 1)])), (d1, .inl (cI, N, .inl ((fp_se false fr to cap uc fl (2 * E) N (fun _ => 0) (fun _ => 0)).1))), (d2, .inl (cI, N, .inl ((fp_se false fr to cap uc fl (2 * E) N (fun _ => 0) (fun _ => 0)).2.1))), (q 1, .inr (1, [.int (nI N), .ref (q 2), .ref (q 3), .ref (q 4), .ref (q 5), .ref (q 6), .int (nI E)])), (q 2, .inl (cI, M, .inl fr)), (q 3, .inl (cI, M, .inl to)), (q 4, .inl (cI, M, .inl cap)), (q 5, .inl (cI, M, .inl uc)), (q 6, .inl (cI, M, .inl fl))]) (va_A [(d0, .inr (0, [.ref d1, .ref d2, .ref (q 1)])), (d1, .inl (cI, N, .inl le)), (d2, .inl (cI, N, .inl fe)), (q 1, .inr (1, [.int (nI N), .ref (q 2), .ref (q 3), .ref (q 4), .ref (q 5), .ref (q 6), .int (nI E)])), (q 2, .inl (cI, M, .inl fr)), (q 3, .inl (cI, M, .inl to)), (q 4, .inl (cI, M, .inl cap)), (q 5, .inl (cI, M, .inl uc)), (q 6, .inl (cI, M, .inl fl))] sz)) 0 0 (va_A [(d0, .inr (0, [.ref d1, .ref d2, .ref (q 1)])), (d1, .inl (cI, N, .inl le)), (d2, .inl (cI, N, .inl fe)), (q 1, .inr (1, [.int (nI N), .ref (q 2), .ref (q 3), .ref (q 4), .ref (q 5), .ref (q 6), .int (nI E)])), (q 2, .inl (cI, M, .inl fr)), (q 3, .inl (cI, M, .inl to)), (q 4, .inl (cI, M, .inl cap)), (q 5, .inl (cI, M, .inl uc)), (q 6, .inl (cI, M, .inl fl))] sz) := by
  refine Met.ofW (cc := cX0_settlesFromEverywhere) (maxL := 1) (ret := (some .boolean)) (by decide) rfl ?_
  intro p e s m args below meth c s₁ B hml hv
  obtain ⟨rfl, hsz, hP, hK, hD0⟩ := hv
  have hx := B.exec
  have hb := B.bytes
  have hr := B.returns
  have hts := atoms_spec (ws := wsX0_settlesFromEverywhere) B.pre
  have hown : s.vm.findClass RX0 = some m.cls := findClass_of_methodNamed B.named
  have hlocks := B.notSynchronized
  subst hsz
  have hD := hD0.self (sz := s.heap.size)
  generalize hAe : va_A [(d0, .inr (0, [.ref d1, .ref d2, .ref (q 1)])), (d1, .inl (cI, N, .inl le)), (d2, .inl (cI, N, .inl fe)), (q 1, .inr (1, [.int (nI N), .ref (q 2), .ref (q 3), .ref (q 4), .ref (q 5), .ref (q 6), .int (nI E)])), (q 2, .inl (cI, M, .inl fr)), (q 3, .inl (cI, M, .inl to)), (q 4, .inl (cI, M, .inl cap)), (q 5, .inl (cI, M, .inl uc)), (q 6, .inl (cI, M, .inl fl))] s.heap.size = A at hD ⊢
  have hA : ∀ q : Nat, s.heap.size ≤ q → A q := fun q h => by rw [← hAe]; exact Or.inr h
  have hS : va_S A s.heap s.heap [] := va_S.rf
  have hP : va_P (dC, dI) vwCl [(d0, .inr (0, [.ref d1, .ref d2, .ref (q 1)])), (d1, .inl (cI, N, .inl le)), (d2, .inl (cI, N, .inl fe)), (q 1, .inr (1, [.int (nI N), .ref (q 2), .ref (q 3), .ref (q 4), .ref (q 5), .ref (q 6), .int (nI E)])), (q 2, .inl (cI, M, .inl fr)), (q 3, .inl (cI, M, .inl to)), (q 4, .inl (cI, M, .inl cap)), (q 5, .inl (cI, M, .inl uc)), (q 6, .inl (cI, M, .inl fl))] s.heap := hP
  have hl := lv_entry ([.ref d0]) (n := 1) (Nat.le_of_ble_eq_true rfl)
  rw [lg_entry_eq]
  generalize (lg_sl ([.ref d0]) ++ List.replicate (1 - (lg_sl ([.ref d0])).length) Slot.unset).toArray = ls at hl ⊢
  have hl : lv_has ls 1 [(0, .ref d0)] := hl
  refine lv_aload_n hx hb dX0_settlesFromEverywhere_0 rfl (lv_at hl 0 rfl) ?_
  refine va_get (D := (dC, dI)) (ci := 0) (v := .ref d1) (C := RX0) (T := TX0) (N := 3) hx hb hts fa_settlesFE_0 hown hK hP 0 rfl rfl 0 (by decide) (hts _ fa_settlesFE_1) (fun _ h9 => h9) rfl dX0_settlesFromEverywhere_1 ?_
  refine lv_iconst (v := 0) hx hb dX0_settlesFromEverywhere_4 (by decide) ?_
  have hPc := hP.sub (ws' := [(d1, .inl (cI, N, .inl le))]) [1] rfl
  have hDc := hD.sub (ws' := [(d1, .inl (cI, N, .inl le))]) [1] (by decide) rfl
  have hFc := va_free (wc := [(d1, .inl (cI, N, .inl le))]) hD hS hA [1] rfl
  refine va_callv (va_runS (As := [.ref d1, .int 0]) (rest := []) ⟨hx, hb, hml, hown, hts⟩ (k_fill l dC dI cI cJ cZ d1 N le 0 s.heap.size (by omega)) (va_cwS 2 hts gX0_settlesFromEverywhere_J7_fill_53178 rfl rfl rfl (by decide +kernel) ⟨Nat.le_of_ble_eq_true rfl, Nat.le_of_ble_eq_true rfl⟩) ⟨fun a U g mk q => by obtain ⟨q0, q1, qP, qK, qD⟩ := q; exact ⟨q0, q1, qP, va_K.moved (u := U) (U := U.calling g mk a) (Vm.Alike.refl U.vm) qK, qD⟩, fun U hU hW => ⟨rfl, by rw [hU], by rw [hU]; exact hPc, va_K.moved hW.alike hK, hDc.weaken (fun _ _ _ _ => trivial)⟩⟩ rfl rfl hl.1 rfl (lv_room (Nat.le_of_ble_eq_true rfl)) dX0_settlesFromEverywhere_5 ⟨Nat.le_of_ble_eq_true rfl, Nat.le_of_ble_eq_true rfl⟩) hS (fun q _ h => hFc q h) hFc (fun u t H1 locs ht hvm hw_5 hB hz1 hk1 hS => ?_)
  obtain ⟨hP1, hK1, hD1⟩ := hB
  rw [ht] at hP1
  obtain ⟨hP, hD⟩ := va_join (wr := [(d0, .inr (0, [.ref d1, .ref d2, .ref (q 1)])), (d2, .inl (cI, N, .inl fe)), (q 1, .inr (1, [.int (nI N), .ref (q 2), .ref (q 3), .ref (q 4), .ref (q 5), .ref (q 6), .int (nI E)])), (q 2, .inl (cI, M, .inl fr)), (q 3, .inl (cI, M, .inl to)), (q 4, .inl (cI, M, .inl cap)), (q 5, .inl (cI, M, .inl uc)), (q 6, .inl (cI, M, .inl fl))]) (w1 := [(d1, .inl (cI, N, .inl (fun _ => 0)))]) hP hD [1] [0, 2, 3, 4, 5, 6, 7, 8] rfl rfl (by decide) (by decide) hk1 hFc hP1 hD1
  generalize H1 = H at hP hS ⊢
  have hP := hP.sub (ws' := [(d0, .inr (0, [.ref d1, .ref d2, .ref (q 1)])), (d1, .inl (cI, N, .inl (fun _ => 0))), (d2, .inl (cI, N, .inl fe)), (q 1, .inr (1, [.int (nI N), .ref (q 2), .ref (q 3), .ref (q 4), .ref (q 5), .ref (q 6), .int (nI E)])), (q 2, .inl (cI, M, .inl fr)), (q 3, .inl (cI, M, .inl to)), (q 4, .inl (cI, M, .inl cap)), (q 5, .inl (cI, M, .inl uc)), (q 6, .inl (cI, M, .inl fl))]) [0, 8, 1, 2, 3, 4, 5, 6, 7] rfl
  have hD := hD.sub (ws' := [(d0, .inr (0, [.ref d1, .ref d2, .ref (q 1)])), (d1, .inl (cI, N, .inl (fun _ => 0))), (d2, .inl (cI, N, .inl fe)), (q 1, .inr (1, [.int (nI N), .ref (q 2), .ref (q 3), .ref (q 4), .ref (q 5), .ref (q 6), .int (nI E)])), (q 2, .inl (cI, M, .inl fr)), (q 3, .inl (cI, M, .inl to)), (q 4, .inl (cI, M, .inl cap)), (q 5, .inl (cI, M, .inl uc)), (q 6, .inl (cI, M, .inl fl))]) [0, 8, 1, 2, 3, 4, 5, 6, 7] (by decide) rfl
  refine lv_aload_n hx hb dX0_settlesFromEverywhere_8 rfl (lv_at hl 0 rfl) ?_
  refine va_get (D := (dC, dI)) (ci := 0) (v := .ref d2) (C := RX0) (T := TX0) (N := 3) hx hb hts fa_settlesFE_0 hown hK hP 0 rfl rfl 1 (by decide) (hts _ fa_settlesFE_2) (fun _ h9 => h9) rfl dX0_settlesFromEverywhere_9 ?_
  refine lv_iconst (v := 0) hx hb dX0_settlesFromEverywhere_12 (by decide) ?_
  have hPc := hP.sub (ws' := [(d2, .inl (cI, N, .inl fe))]) [2] rfl
  have hDc := hD.sub (ws' := [(d2, .inl (cI, N, .inl fe))]) [2] (by decide) rfl
  have hFc := va_free (wc := [(d2, .inl (cI, N, .inl fe))]) hD hS hA [2] rfl
  refine va_callv (va_runS (As := [.ref d2, .int 0]) (rest := []) ⟨hx, hb, hml, hown, hts⟩ (k_fill l dC dI cI cJ cZ d2 N fe 0 H.size (by omega)) (va_cwS 2 hts gX0_settlesFromEverywhere_J7_fill_53178 rfl rfl rfl (by decide +kernel) ⟨Nat.le_of_ble_eq_true rfl, Nat.le_of_ble_eq_true rfl⟩) ⟨fun a U g mk q => by obtain ⟨q0, q1, qP, qK, qD⟩ := q; exact ⟨q0, q1, qP, va_K.moved (u := U) (U := U.calling g mk a) (Vm.Alike.refl U.vm) qK, qD⟩, fun U hU hW => ⟨rfl, by rw [hU], by rw [hU]; exact hPc, va_K.moved hW.alike hK, hDc.weaken (fun _ _ _ _ => trivial)⟩⟩ rfl rfl hl.1 rfl (lv_room (Nat.le_of_ble_eq_true rfl)) dX0_settlesFromEverywhere_13 ⟨Nat.le_of_ble_eq_true rfl, Nat.le_of_ble_eq_true rfl⟩) hS (fun q _ h => hFc q h) hFc (fun u t H1 locs ht hvm hw_13 hB hz1 hk1 hS => ?_)
  obtain ⟨hP1, hK1, hD1⟩ := hB
  rw [ht] at hP1
  obtain ⟨hP, hD⟩ := va_join (wr := [(d0, .inr (0, [.ref d1, .ref d2, .ref (q 1)])), (d1, .inl (cI, N, .inl (fun _ => 0))), (q 1, .inr (1, [.int (nI N), .ref (q 2), .ref (q 3), .ref (q 4), .ref (q 5), .ref (q 6), .int (nI E)])), (q 2, .inl (cI, M, .inl fr)), (q 3, .inl (cI, M, .inl to)), (q 4, .inl (cI, M, .inl cap)), (q 5, .inl (cI, M, .inl uc)), (q 6, .inl (cI, M, .inl fl))]) (w1 := [(d2, .inl (cI, N, .inl (fun _ => 0)))]) hP hD [2] [0, 1, 3, 4, 5, 6, 7, 8] rfl rfl (by decide) (by decide) hk1 hFc hP1 hD1
  generalize H1 = H at hP hS ⊢
  have hP := hP.sub (ws' := [(d0, .inr (0, [.ref d1, .ref d2, .ref (q 1)])), (d1, .inl (cI, N, .inl (fun _ => 0))), (d2, .inl (cI, N, .inl (fun _ => 0))), (q 1, .inr (1, [.int (nI N), .ref (q 2), .ref (q 3), .ref (q 4), .ref (q 5), .ref (q 6), .int (nI E)])), (q 2, .inl (cI, M, .inl fr)), (q 3, .inl (cI, M, .inl to)), (q 4, .inl (cI, M, .inl cap)), (q 5, .inl (cI, M, .inl uc)), (q 6, .inl (cI, M, .inl fl))]) [0, 1, 8, 2, 3, 4, 5, 6, 7] rfl
  have hD := hD.sub (ws' := [(d0, .inr (0, [.ref d1, .ref d2, .ref (q 1)])), (d1, .inl (cI, N, .inl (fun _ => 0))), (d2, .inl (cI, N, .inl (fun _ => 0))), (q 1, .inr (1, [.int (nI N), .ref (q 2), .ref (q 3), .ref (q 4), .ref (q 5), .ref (q 6), .int (nI E)])), (q 2, .inl (cI, M, .inl fr)), (q 3, .inl (cI, M, .inl to)), (q 4, .inl (cI, M, .inl cap)), (q 5, .inl (cI, M, .inl uc)), (q 6, .inl (cI, M, .inl fl))]) [0, 1, 8, 2, 3, 4, 5, 6, 7] (by decide) rfl
  refine lv_aload_n hx hb dX0_settlesFromEverywhere_16 rfl (lv_at hl 0 rfl) ?_
  refine lv_iconst (v := 0) hx hb dX0_settlesFromEverywhere_17 (by decide) ?_
  have hPc := hP.sub (ws' := [(d0, .inr (0, [.ref d1, .ref d2, .ref (q 1)])), (d1, .inl (cI, N, .inl (fun _ => 0))), (d2, .inl (cI, N, .inl (fun _ => 0))), (q 1, .inr (1, [.int (nI N), .ref (q 2), .ref (q 3), .ref (q 4), .ref (q 5), .ref (q 6), .int (nI E)])), (q 2, .inl (cI, M, .inl fr)), (q 3, .inl (cI, M, .inl to)), (q 4, .inl (cI, M, .inl cap)), (q 5, .inl (cI, M, .inl uc)), (q 6, .inl (cI, M, .inl fl))]) [0, 1, 2, 3, 4, 5, 6, 7, 8] rfl
  have hDc := hD.sub (ws' := [(d0, .inr (0, [.ref d1, .ref d2, .ref (q 1)])), (d1, .inl (cI, N, .inl (fun _ => 0))), (d2, .inl (cI, N, .inl (fun _ => 0))), (q 1, .inr (1, [.int (nI N), .ref (q 2), .ref (q 3), .ref (q 4), .ref (q 5), .ref (q 6), .int (nI E)])), (q 2, .inl (cI, M, .inl fr)), (q 3, .inl (cI, M, .inl to)), (q 4, .inl (cI, M, .inl cap)), (q 5, .inl (cI, M, .inl uc)), (q 6, .inl (cI, M, .inl fl))]) [0, 1, 2, 3, 4, 5, 6, 7, 8] (by decide) rfl
  have hFc := va_free (wc := [(d0, .inr (0, [.ref d1, .ref d2, .ref (q 1)])), (d1, .inl (cI, N, .inl (fun _ => 0))), (d2, .inl (cI, N, .inl (fun _ => 0))), (q 1, .inr (1, [.int (nI N), .ref (q 2), .ref (q 3), .ref (q 4), .ref (q 5), .ref (q 6), .int (nI E)])), (q 2, .inl (cI, M, .inl fr)), (q 3, .inl (cI, M, .inl to)), (q 4, .inl (cI, M, .inl cap)), (q 5, .inl (cI, M, .inl uc)), (q 6, .inl (cI, M, .inl fl))]) hD hS hA [0, 1, 2, 3, 4, 5, 6, 7, 8] rfl
  refine va_calli (va_runV (As := [.int 0]) (rest := []) ⟨hx, hb, hml, hown, hts⟩ (k_settleF l dC dI cI cJ cZ d0 d1 d2 q N M E fr to cap uc fl (fun _ => 0) (fun _ => 0) H.size hE hM hN hfr hto) (cwV 1 hts gX0_settlesFromEverywhere_X0_settle rfl rfl rfl (by decide +kernel) ⟨Nat.le_of_ble_eq_true rfl, Nat.le_of_ble_eq_true rfl⟩) ⟨fun a U g mk q => by obtain ⟨q0, q1, qP, qK, qD⟩ := q; exact ⟨q0, q1, qP, va_K.moved (u := U) (U := U.calling g mk a) (Vm.Alike.refl U.vm) qK, qD⟩, va_recv hK hP (ci := 0) (q0 := 0) rfl rfl, fun U hU hW => ⟨rfl, by rw [hU], by rw [hU]; exact hPc, va_K.moved hW.alike hK, hDc.weaken (fun _ _ _ _ => trivial)⟩⟩ rfl rfl hl.1 rfl (lv_room (Nat.le_of_ble_eq_true rfl)) dX0_settlesFromEverywhere_18 ⟨Nat.le_of_ble_eq_true rfl, Nat.le_of_ble_eq_true rfl⟩) hS (fun q _ h => hFc q h) hFc (fun r_18 u t H1 locs ht hvm hw_18 hB hz1 hk1 hS => ?_)
  obtain ⟨hP1, hK1, hD1⟩ := hB
  rw [ht] at hP1
  obtain ⟨hP, hD⟩ := va_join (wr := []) (w1 := [(d0, .inr (0, [.ref d1, .ref d2, .ref (q 1)])), (d1, .inl (cI, N, .inl ((fp_se false fr to cap uc fl (2 * E) N (fun _ => 0) (fun _ => 0)).1))), (d2, .inl (cI, N, .inl ((fp_se false fr to cap uc fl (2 * E) N (fun _ => 0) (fun _ => 0)).2.1))), (q 1, .inr (1, [.int (nI N), .ref (q 2), .ref (q 3), .ref (q 4), .ref (q 5), .ref (q 6), .int (nI E)])), (q 2, .inl (cI, M, .inl fr)), (q 3, .inl (cI, M, .inl to)), (q 4, .inl (cI, M, .inl cap)), (q 5, .inl (cI, M, .inl uc)), (q 6, .inl (cI, M, .inl fl))]) hP hD [0, 1, 2, 3, 4, 5, 6, 7, 8] [] rfl rfl (by decide) (by decide) hk1 hFc hP1 hD1
  generalize H1 = H at hP hS ⊢
  have hP := hP.sub (ws' := [(d0, .inr (0, [.ref d1, .ref d2, .ref (q 1)])), (d1, .inl (cI, N, .inl ((fp_se false fr to cap uc fl (2 * E) N (fun _ => 0) (fun _ => 0)).1))), (d2, .inl (cI, N, .inl ((fp_se false fr to cap uc fl (2 * E) N (fun _ => 0) (fun _ => 0)).2.1))), (q 1, .inr (1, [.int (nI N), .ref (q 2), .ref (q 3), .ref (q 4), .ref (q 5), .ref (q 6), .int (nI E)])), (q 2, .inl (cI, M, .inl fr)), (q 3, .inl (cI, M, .inl to)), (q 4, .inl (cI, M, .inl cap)), (q 5, .inl (cI, M, .inl uc)), (q 6, .inl (cI, M, .inl fl))]) [0, 1, 2, 3, 4, 5, 6, 7, 8] rfl
  have hD := hD.sub (ws' := [(d0, .inr (0, [.ref d1, .ref d2, .ref (q 1)])), (d1, .inl (cI, N, .inl ((fp_se false fr to cap uc fl (2 * E) N (fun _ => 0) (fun _ => 0)).1))), (d2, .inl (cI, N, .inl ((fp_se false fr to cap uc fl (2 * E) N (fun _ => 0) (fun _ => 0)).2.1))), (q 1, .inr (1, [.int (nI N), .ref (q 2), .ref (q 3), .ref (q 4), .ref (q 5), .ref (q 6), .int (nI E)])), (q 2, .inl (cI, M, .inl fr)), (q 3, .inl (cI, M, .inl to)), (q 4, .inl (cI, M, .inl cap)), (q 5, .inl (cI, M, .inl uc)), (q 6, .inl (cI, M, .inl fl))]) [0, 1, 2, 3, 4, 5, 6, 7, 8] (by decide) rfl
  obtain rfl := hw_18
  have hP9 := hP.sub (ws' := [(d0, .inr (0, [.ref d1, .ref d2, .ref (q 1)])), (d1, .inl (cI, N, .inl ((fp_se false fr to cap uc fl (2 * E) N (fun _ => 0) (fun _ => 0)).1))), (d2, .inl (cI, N, .inl ((fp_se false fr to cap uc fl (2 * E) N (fun _ => 0) (fun _ => 0)).2.1))), (q 1, .inr (1, [.int (nI N), .ref (q 2), .ref (q 3), .ref (q 4), .ref (q 5), .ref (q 6), .int (nI E)])), (q 2, .inl (cI, M, .inl fr)), (q 3, .inl (cI, M, .inl to)), (q 4, .inl (cI, M, .inl cap)), (q 5, .inl (cI, M, .inl uc)), (q 6, .inl (cI, M, .inl fl))]) [0, 1, 2, 3, 4, 5, 6, 7, 8] rfl
  have hD9 := hD.sub (ws' := [(d0, .inr (0, [.ref d1, .ref d2, .ref (q 1)])), (d1, .inl (cI, N, .inl ((fp_se false fr to cap uc fl (2 * E) N (fun _ => 0) (fun _ => 0)).1))), (d2, .inl (cI, N, .inl ((fp_se false fr to cap uc fl (2 * E) N (fun _ => 0) (fun _ => 0)).2.1))), (q 1, .inr (1, [.int (nI N), .ref (q 2), .ref (q 3), .ref (q 4), .ref (q 5), .ref (q 6), .int (nI E)])), (q 2, .inl (cI, M, .inl fr)), (q 3, .inl (cI, M, .inl to)), (q 4, .inl (cI, M, .inl cap)), (q 5, .inl (cI, M, .inl uc)), (q 6, .inl (cI, M, .inl fl))]) [0, 1, 2, 3, 4, 5, 6, 7, 8] (by decide) rfl
  exact W.zret (v := ((fp_se false fr to cap uc fl (2 * E) N (fun _ => 0) (fun _ => 0)).2.2)) hx hb hr (nb01 (fp_se_ch false fr to cap uc fl (2 * E) N _ _)) (fun t ht hW => ⟨⟨((fp_se false fr to cap uc fl (2 * E) N (fun _ => 0) (fun _ => 0)).2.2), (), rfl, rfl, by rw [ht]; exact hP9, va_K.moved hW.alike hK, hD9⟩, hS.F ht⟩) hS.2.2 dX0_settlesFromEverywhere_21

theorem fa_lao_0 : ∀ w ∈ wsX00, w ∈ wsX0_leastArcOnward := by decide +kernel
theorem fa_lao_1 : Cond.fieldLink RX0 9 "FlowProofs$Distances" "net" "LFlowProofs$Net;" ∈ wsX0_leastArcOnward := by decide +kernel
theorem fa_lao_2 : Cond.fieldLink RX0 21 "FlowProofs$Distances" "least" "[I" ∈ wsX0_leastArcOnward := by decide +kernel
theorem fa_lao_3 : Cond.fieldLink RX0 25 "FlowProofs$Distances" "fewest" "[I" ∈ wsX0_leastArcOnward := by decide +kernel
set_option maxHeartbeats 4000000 in
set_option maxRecDepth 100000 in
theorem k_lao (l : Launch) (dC : Nat → ClassId) (dI : Nat → Nat → Nat) (cI cJ cZ : ClassId) (d0 d1 d2 : Nat) (q : Nat → Nat) (N M E : Nat) (fr to cap uc fl : Nat → Int32) (le fe : Nat → Int32) (x : Int32) (hE : E ≤ M) (hM : M < 1000) (hN : N < 1000) (hfr : ∀ e, e < E → vp_in (fr e) N) (hto : ∀ e, e < E → vp_in (to e) N) (hx0 : vp_in x N) : Met l yX0_leastArcOnward wsX0_leastArcOnward ({ frames := 2, cells := 0, slots := 0, locals := 42 }) (va_Pc [.ref d0, .int x] (fun U => va_P (dC, dI) vwCl [(d0, .inr (0, [.ref d1, .ref d2, .ref (q 1)])), (d1, .inl (cI, N, .inl le)), (d2, .inl (cI, N, .inl fe)), (q 1, .inr (1, [.int (nI N), .ref (q 2), .ref (q 3), .ref (q 4), .ref (q 5), .ref (q 6), .int (nI E)])), (q 2, .inl (cI, M, .inl fr)), (q 3, .inl (cI, M, .inl to)), (q 4, .inl (cI, M, .inl cap)), (q 5, .inl (cI, M, .inl uc)), (q 6, .inl (cI, M, .inl fl))] U.heap ∧ va_K (dC, dI) vwCl [(cI, .int), (cJ, .long), (cZ, .boolean)] U)) (vp_Si (fun r => r = fp_la (fp_tg fr to cap uc fl le fe x) (2 * E) 0)) 0 0 (fun _ => False) := by
  refine Met.ofW (cc := cX0_leastArcOnward) (maxL := 4) (ret := (some .int)) (by decide) rfl ?_
  intro p e s m args below meth c s₁ B hml hv
  obtain ⟨rfl, hP, hK⟩ := hv
  have hx := B.exec
  have hb := B.bytes
  have hr := B.returns
  have hts := atoms_spec (ws := wsX0_leastArcOnward) B.pre
  have hown : s.vm.findClass RX0 = some m.cls := findClass_of_methodNamed B.named
  have hlocks := B.notSynchronized
  have hP : va_P (dC, dI) vwCl [(d0, .inr (0, [.ref d1, .ref d2, .ref (q 1)])), (d1, .inl (cI, N, .inl le)), (d2, .inl (cI, N, .inl fe)), (q 1, .inr (1, [.int (nI N), .ref (q 2), .ref (q 3), .ref (q 4), .ref (q 5), .ref (q 6), .int (nI E)])), (q 2, .inl (cI, M, .inl fr)), (q 3, .inl (cI, M, .inl to)), (q 4, .inl (cI, M, .inl cap)), (q 5, .inl (cI, M, .inl uc)), (q 6, .inl (cI, M, .inl fl))] s.heap := hP
  have hl := lv_entry ([.ref d0, .int x]) (n := 4) (Nat.le_of_ble_eq_true rfl)
  rw [lg_entry_eq]
  generalize (lg_sl ([.ref d0, .int x]) ++ List.replicate (4 - (lg_sl ([.ref d0, .int x])).length) Slot.unset).toArray = ls at hl ⊢
  have hl : lv_has ls 4 [(0, .ref d0), (1, .int x)] := hl
  refine lv_iconst (v := 0) hx hb dX0_leastArcOnward_0 (by decide) ?_
  refine tp_i (y := nI 0) nI_0.symm ?_
  refine lv_istore_n (lv' := [(2, .int (nI 0)), (0, .ref d0), (1, .int x)]) hx hb dX0_leastArcOnward_1 rfl hl (by decide) rfl (fun ls hl => ?_)
  have lo_a : ∀ (nf : Nat) (i : Nat) (hi : i ≤ 2 * E) (hst : fp_la (fp_tg fr to cap uc fl le fe x) (2 * E - i) i = fp_la (fp_tg fr to cap uc fl le fe x) (2 * E) 0) (hfu : 2 * E - i < nf) (ls : Array Slot) (hl : lv_has ls 4 [(0, .ref d0), (1, .int x), (2, .int (nI i))]), W p l e (headSpec wsX0_leastArcOnward ({ frames := 2, cells := 0, slots := 0, locals := 42 })).room s m ([.ref d0, .int x] : List Value).toArray below meth c s.heap [] 0 0 (MQ below (vp_Si (fun r => r = fp_la (fp_tg fr to cap uc fl le fe x) (2 * E) 0)) ([.ref d0, .int x] : List Value).toArray s 0 0 (fun _ => False)) (F0 m 2 ls [])
    := by
    intro nf
    induction nf with
    | zero => intro i hi hst hfu ls hl; exact absurd hfu (Nat.not_lt_zero _)
    | succ nf ih_a =>
      intro i hi hst hfu ls hl
      refine lv_iload_n hx hb dX0_leastArcOnward_2 rfl (lv_at hl 2 rfl) ?_
      refine lv_aload_n hx hb dX0_leastArcOnward_3 rfl (lv_at hl 0 rfl) ?_
      refine va_get (D := (dC, dI)) (ci := 0) (v := .ref (q 1)) (C := RX0) (T := TX0) (N := 3) hx hb hts fa_lao_0 hown hK hP 0 rfl rfl 2 (by decide) (hts _ fa_lao_1) (fun _ h9 => h9) rfl dX0_leastArcOnward_4 ?_
      have hPc := hP.sub (ws' := [(q 1, .inr (1, [.int (nI N), .ref (q 2), .ref (q 3), .ref (q 4), .ref (q 5), .ref (q 6), .int (nI E)])), (q 2, .inl (cI, M, .inl fr)), (q 3, .inl (cI, M, .inl to)), (q 4, .inl (cI, M, .inl cap)), (q 5, .inl (cI, M, .inl uc)), (q 6, .inl (cI, M, .inl fl))]) [3, 4, 5, 6, 7, 8] rfl
      refine vp_callSi (W.runV (As := []) (rest := [.int (nI i)]) ⟨hx, hb, hml, hown, hts⟩ (k_arcs l dC dI cI cJ cZ q N M E fr to cap uc fl) (cwV 0 hts gX0_leastArcOnward_X1_arcs rfl rfl rfl (by decide +kernel) ⟨Nat.le_of_ble_eq_true rfl, Nat.le_of_ble_eq_true rfl⟩) ⟨fun a U g mk q => by obtain ⟨q0, qP, qK⟩ := q; exact ⟨q0, qP, va_K.moved (u := U) (U := U.calling g mk a) (Vm.Alike.refl U.vm) qK⟩, va_recv hK hP (ci := 1) (q0 := 3) rfl rfl, fun U hU hW => ⟨rfl, by rw [hU]; exact hPc, va_K.moved hW.alike hK⟩⟩ rfl rfl hl.1 rfl (lv_room (Nat.le_of_ble_eq_true rfl)) dX0_leastArcOnward_7 ⟨Nat.le_of_ble_eq_true rfl, Nat.le_of_ble_eq_true rfl⟩) (fun r_7 hw_7 => ?_)
      subst hw_7
      refine lv_icmp_ge (tgt := 108) hx hb dX0_leastArcOnward_10 (by decide) (fun c_10 => ?_) (fun c_10 => ?_)
      · have hge := ix_ge (by omega) (by omega) c_10
        obtain rfl : i = 2 * E := by omega
        rw [Nat.sub_self] at hst
        refine lv_iconst (v := (-1)) hx hb dX0_leastArcOnward_108 (by decide) ?_
        exact W.iret (v := (-1)) hx hb hr (fun t ht _ => ⟨(-1), rfl, hst, ht⟩) (fun _ h => by cases h) dX0_leastArcOnward_109
      · have hlt := ix_lt (by omega) (by omega) c_10
        have hbi := bg_in hfr hto hlt
        have hei := en_in hfr hto hlt
        refine lv_aload_n hx hb dX0_leastArcOnward_13 rfl (lv_at hl 0 rfl) ?_
        refine va_get (D := (dC, dI)) (ci := 0) (v := .ref (q 1)) (C := RX0) (T := TX0) (N := 3) hx hb hts fa_lao_0 hown hK hP 0 rfl rfl 2 (by decide) (hts _ fa_lao_1) (fun _ h9 => h9) rfl dX0_leastArcOnward_14 ?_
        refine lv_iload_n hx hb dX0_leastArcOnward_17 rfl (lv_at hl 2 rfl) ?_
        have hPc := hP.sub (ws' := [(q 1, .inr (1, [.int (nI N), .ref (q 2), .ref (q 3), .ref (q 4), .ref (q 5), .ref (q 6), .int (nI E)])), (q 2, .inl (cI, M, .inl fr)), (q 3, .inl (cI, M, .inl to)), (q 4, .inl (cI, M, .inl cap)), (q 5, .inl (cI, M, .inl uc)), (q 6, .inl (cI, M, .inl fl))]) [3, 4, 5, 6, 7, 8] rfl
        refine vp_callSi (W.runV (As := [.int (nI i)]) (rest := []) ⟨hx, hb, hml, hown, hts⟩ (k_begin l dC dI cI cJ cZ q N M E fr to cap uc fl i (by omega) hM) (cwV 1 hts gX0_leastArcOnward_X1_begin rfl rfl rfl (by decide +kernel) ⟨Nat.le_of_ble_eq_true rfl, Nat.le_of_ble_eq_true rfl⟩) ⟨fun a U g mk q => by obtain ⟨q0, qP, qK⟩ := q; exact ⟨q0, qP, va_K.moved (u := U) (U := U.calling g mk a) (Vm.Alike.refl U.vm) qK⟩, va_recv hK hP (ci := 1) (q0 := 3) rfl rfl, fun U hU hW => ⟨rfl, by rw [hU]; exact hPc, va_K.moved hW.alike hK⟩⟩ rfl rfl hl.1 rfl (lv_room (Nat.le_of_ble_eq_true rfl)) dX0_leastArcOnward_18 ⟨Nat.le_of_ble_eq_true rfl, Nat.le_of_ble_eq_true rfl⟩) (fun r_18 hw_18 => ?_)
        subst hw_18
        refine lv_iload_n hx hb dX0_leastArcOnward_21 rfl (lv_at hl 1 rfl) ?_
        refine lv_icmp_ne (tgt := 102) hx hb dX0_leastArcOnward_22 (by decide) (fun c_22 => ?_) (fun c_22 => ?_)
        · refine lv_iinc (v := nI (i + 1)) (lv' := [(2, .int (nI (i + 1))), (0, .ref d0), (1, .int x)]) hx hb dX0_leastArcOnward_102 hl (k := 2) rfl (by first | exact nI_1 _ | exact nI_add _ _) (by decide) rfl (fun ls hl => ?_)
          refine lv_goto (tgt := 2) hx hb dX0_leastArcOnward_105 (by decide) ?_
          exact ih_a (i + 1) (by first | assumption | omega | rfl) (by rw [← hst, ← la_f hlt]; first | exact tg_1 c_22 | exact tg_2 c_33 | exact tg_3 (rch0 c_53) | exact tg_4 c_80 | exact tg_5 c_97) (by omega) _ (lv_sub hl [1, 2, 0] rfl)
        · refine lv_aload_n hx hb dX0_leastArcOnward_25 rfl (lv_at hl 0 rfl) ?_
          refine va_get (D := (dC, dI)) (ci := 0) (v := .ref (q 1)) (C := RX0) (T := TX0) (N := 3) hx hb hts fa_lao_0 hown hK hP 0 rfl rfl 2 (by decide) (hts _ fa_lao_1) (fun _ h9 => h9) rfl dX0_leastArcOnward_26 ?_
          refine lv_iload_n hx hb dX0_leastArcOnward_29 rfl (lv_at hl 2 rfl) ?_
          have hPc := hP.sub (ws' := [(q 1, .inr (1, [.int (nI N), .ref (q 2), .ref (q 3), .ref (q 4), .ref (q 5), .ref (q 6), .int (nI E)])), (q 2, .inl (cI, M, .inl fr)), (q 3, .inl (cI, M, .inl to)), (q 4, .inl (cI, M, .inl cap)), (q 5, .inl (cI, M, .inl uc)), (q 6, .inl (cI, M, .inl fl))]) [3, 4, 5, 6, 7, 8] rfl
          refine vp_callSi (W.runV (As := [.int (nI i)]) (rest := []) ⟨hx, hb, hml, hown, hts⟩ (k_left l dC dI cI cJ cZ q N M E fr to cap uc fl i (by omega) hM) (cwV 1 hts gX0_leastArcOnward_X1_left rfl rfl rfl (by decide +kernel) ⟨Nat.le_of_ble_eq_true rfl, Nat.le_of_ble_eq_true rfl⟩) ⟨fun a U g mk q => by obtain ⟨q0, qP, qK⟩ := q; exact ⟨q0, qP, va_K.moved (u := U) (U := U.calling g mk a) (Vm.Alike.refl U.vm) qK⟩, va_recv hK hP (ci := 1) (q0 := 3) rfl rfl, fun U hU hW => ⟨rfl, by rw [hU]; exact hPc, va_K.moved hW.alike hK⟩⟩ rfl rfl hl.1 rfl (lv_room (Nat.le_of_ble_eq_true rfl)) dX0_leastArcOnward_30 ⟨Nat.le_of_ble_eq_true rfl, Nat.le_of_ble_eq_true rfl⟩) (fun r_30 hw_30 => ?_)
          subst hw_30
          refine lv_if_gt (tgt := 39) hx hb dX0_leastArcOnward_33 (by decide) (fun c_33 => ?_) (fun c_33 => ?_)
          · refine lv_aload_n hx hb dX0_leastArcOnward_39 rfl (lv_at hl 0 rfl) ?_
            refine va_get (D := (dC, dI)) (ci := 0) (v := .ref (q 1)) (C := RX0) (T := TX0) (N := 3) hx hb hts fa_lao_0 hown hK hP 0 rfl rfl 2 (by decide) (hts _ fa_lao_1) (fun _ h9 => h9) rfl dX0_leastArcOnward_40 ?_
            refine lv_iload_n hx hb dX0_leastArcOnward_43 rfl (lv_at hl 2 rfl) ?_
            have hPc := hP.sub (ws' := [(q 1, .inr (1, [.int (nI N), .ref (q 2), .ref (q 3), .ref (q 4), .ref (q 5), .ref (q 6), .int (nI E)])), (q 2, .inl (cI, M, .inl fr)), (q 3, .inl (cI, M, .inl to)), (q 4, .inl (cI, M, .inl cap)), (q 5, .inl (cI, M, .inl uc)), (q 6, .inl (cI, M, .inl fl))]) [3, 4, 5, 6, 7, 8] rfl
            refine vp_callSi (W.runV (As := [.int (nI i)]) (rest := []) ⟨hx, hb, hml, hown, hts⟩ (k_end l dC dI cI cJ cZ q N M E fr to cap uc fl i (by omega) hM) (cwV 1 hts gX0_leastArcOnward_X1_end rfl rfl rfl (by decide +kernel) ⟨Nat.le_of_ble_eq_true rfl, Nat.le_of_ble_eq_true rfl⟩) ⟨fun a U g mk q => by obtain ⟨q0, qP, qK⟩ := q; exact ⟨q0, qP, va_K.moved (u := U) (U := U.calling g mk a) (Vm.Alike.refl U.vm) qK⟩, va_recv hK hP (ci := 1) (q0 := 3) rfl rfl, fun U hU hW => ⟨rfl, by rw [hU]; exact hPc, va_K.moved hW.alike hK⟩⟩ rfl rfl hl.1 rfl (lv_room (Nat.le_of_ble_eq_true rfl)) dX0_leastArcOnward_44 ⟨Nat.le_of_ble_eq_true rfl, Nat.le_of_ble_eq_true rfl⟩) (fun r_44 hw_44 => ?_)
            subst hw_44
            refine lv_istore_n (lv' := [(3, .int (fp_en fr to i)), (0, .ref d0), (1, .int x), (2, .int (nI i))]) hx hb dX0_leastArcOnward_47 rfl hl (by decide) rfl (fun ls hl => ?_)
            refine lv_aload_n hx hb dX0_leastArcOnward_48 rfl (lv_at hl 1 rfl) ?_
            refine lv_iload_n hx hb dX0_leastArcOnward_49 rfl (lv_at hl 0 rfl) ?_
            have hPc := hP.sub (ws' := [(d0, .inr (0, [.ref d1, .ref d2, .ref (q 1)])), (d1, .inl (cI, N, .inl le)), (d2, .inl (cI, N, .inl fe))]) [0, 1, 2] rfl
            refine vp_callSi (W.runV (As := [.int (fp_en fr to i)]) (rest := []) ⟨hx, hb, hml, hown, hts⟩ (k_reaches l dC dI cI cJ cZ d0 d1 d2 q N le fe (fp_en fr to i) (by assumption)) (cwV 1 hts gX0_leastArcOnward_X0_reaches rfl rfl rfl (by decide +kernel) ⟨Nat.le_of_ble_eq_true rfl, Nat.le_of_ble_eq_true rfl⟩) ⟨fun a U g mk q => by obtain ⟨q0, qP, qK⟩ := q; exact ⟨q0, qP, va_K.moved (u := U) (U := U.calling g mk a) (Vm.Alike.refl U.vm) qK⟩, va_recv hK hP (ci := 0) (q0 := 0) rfl rfl, fun U hU hW => ⟨rfl, by rw [hU]; exact hPc, va_K.moved hW.alike hK⟩⟩ rfl rfl hl.1 rfl (lv_room (Nat.le_of_ble_eq_true rfl)) dX0_leastArcOnward_50 ⟨Nat.le_of_ble_eq_true rfl, Nat.le_of_ble_eq_true rfl⟩) (fun r_50 hw_50 => ?_)
            subst hw_50
            refine lv_if_ne (tgt := 59) hx hb dX0_leastArcOnward_53 (by decide) (fun c_53 => ?_) (fun c_53 => ?_)
            · refine lv_aload_n hx hb dX0_leastArcOnward_59 rfl (lv_at hl 1 rfl) ?_
              refine va_get (D := (dC, dI)) (ci := 0) (v := .ref d1) (C := RX0) (T := TX0) (N := 3) hx hb hts fa_lao_0 hown hK hP 0 rfl rfl 0 (by decide) (hts _ fa_lao_2) (fun _ h9 => h9) rfl dX0_leastArcOnward_60 ?_
              refine lv_iload_n hx hb dX0_leastArcOnward_63 rfl (lv_at hl 0 rfl) ?_
              refine va_iald (D := (dC, dI)) hx hb hK hP 1 0 rfl rfl (by first | assumption | exact vp_in_nI (by omega) (by omega)) dX0_leastArcOnward_64 ?_
              refine lv_aload_n hx hb dX0_leastArcOnward_65 rfl (lv_at hl 1 rfl) ?_
              refine va_get (D := (dC, dI)) (ci := 0) (v := .ref (q 1)) (C := RX0) (T := TX0) (N := 3) hx hb hts fa_lao_0 hown hK hP 0 rfl rfl 2 (by decide) (hts _ fa_lao_1) (fun _ h9 => h9) rfl dX0_leastArcOnward_66 ?_
              refine lv_iload_n hx hb dX0_leastArcOnward_69 rfl (lv_at hl 3 rfl) ?_
              have hPc := hP.sub (ws' := [(q 1, .inr (1, [.int (nI N), .ref (q 2), .ref (q 3), .ref (q 4), .ref (q 5), .ref (q 6), .int (nI E)])), (q 2, .inl (cI, M, .inl fr)), (q 3, .inl (cI, M, .inl to)), (q 4, .inl (cI, M, .inl cap)), (q 5, .inl (cI, M, .inl uc)), (q 6, .inl (cI, M, .inl fl))]) [3, 4, 5, 6, 7, 8] rfl
              refine vp_callSi (W.runV (As := [.int (nI i)]) (rest := [.int (le (fp_en fr to i).toNatClampNeg)]) ⟨hx, hb, hml, hown, hts⟩ (k_price l dC dI cI cJ cZ q N M E fr to cap uc fl i (by omega) hM) (cwV 1 hts gX0_leastArcOnward_X1_price rfl rfl rfl (by decide +kernel) ⟨Nat.le_of_ble_eq_true rfl, Nat.le_of_ble_eq_true rfl⟩) ⟨fun a U g mk q => by obtain ⟨q0, qP, qK⟩ := q; exact ⟨q0, qP, va_K.moved (u := U) (U := U.calling g mk a) (Vm.Alike.refl U.vm) qK⟩, va_recv hK hP (ci := 1) (q0 := 3) rfl rfl, fun U hU hW => ⟨rfl, by rw [hU]; exact hPc, va_K.moved hW.alike hK⟩⟩ rfl rfl hl.1 rfl (lv_room (Nat.le_of_ble_eq_true rfl)) dX0_leastArcOnward_70 ⟨Nat.le_of_ble_eq_true rfl, Nat.le_of_ble_eq_true rfl⟩) (fun r_70 hw_70 => ?_)
              subst hw_70
              refine lv_iadd hx hb dX0_leastArcOnward_73 ?_
              refine lv_aload_n hx hb dX0_leastArcOnward_74 rfl (lv_at hl 1 rfl) ?_
              refine va_get (D := (dC, dI)) (ci := 0) (v := .ref d1) (C := RX0) (T := TX0) (N := 3) hx hb hts fa_lao_0 hown hK hP 0 rfl rfl 0 (by decide) (hts _ fa_lao_2) (fun _ h9 => h9) rfl dX0_leastArcOnward_75 ?_
              refine lv_iload_n hx hb dX0_leastArcOnward_78 rfl (lv_at hl 2 rfl) ?_
              refine va_iald (D := (dC, dI)) hx hb hK hP 1 0 rfl rfl (by first | assumption | exact vp_in_nI (by omega) (by omega)) dX0_leastArcOnward_79 ?_
              refine lv_icmp_ne (tgt := 102) hx hb dX0_leastArcOnward_80 (by decide) (fun c_80 => ?_) (fun c_80 => ?_)
              · refine lv_iinc (v := nI (i + 1)) (lv' := [(2, .int (nI (i + 1))), (3, .int (fp_en fr to i)), (0, .ref d0), (1, .int x)]) hx hb dX0_leastArcOnward_102 hl (k := 3) rfl (by first | exact nI_1 _ | exact nI_add _ _) (by decide) rfl (fun ls hl => ?_)
                refine lv_goto (tgt := 2) hx hb dX0_leastArcOnward_105 (by decide) ?_
                exact ih_a (i + 1) (by first | assumption | omega | rfl) (by rw [← hst, ← la_f hlt]; first | exact tg_1 c_22 | exact tg_2 c_33 | exact tg_3 (rch0 c_53) | exact tg_4 c_80 | exact tg_5 c_97) (by omega) _ (lv_sub hl [2, 3, 0] rfl)
              · refine lv_aload_n hx hb dX0_leastArcOnward_83 rfl (lv_at hl 1 rfl) ?_
                refine va_get (D := (dC, dI)) (ci := 0) (v := .ref d2) (C := RX0) (T := TX0) (N := 3) hx hb hts fa_lao_0 hown hK hP 0 rfl rfl 1 (by decide) (hts _ fa_lao_3) (fun _ h9 => h9) rfl dX0_leastArcOnward_84 ?_
                refine lv_iload_n hx hb dX0_leastArcOnward_87 rfl (lv_at hl 0 rfl) ?_
                refine va_iald (D := (dC, dI)) hx hb hK hP 2 0 rfl rfl (by first | assumption | exact vp_in_nI (by omega) (by omega)) dX0_leastArcOnward_88 ?_
                refine lv_iconst (v := 1) hx hb dX0_leastArcOnward_89 (by decide) ?_
                refine lv_iadd hx hb dX0_leastArcOnward_90 ?_
                refine lv_aload_n hx hb dX0_leastArcOnward_91 rfl (lv_at hl 1 rfl) ?_
                refine va_get (D := (dC, dI)) (ci := 0) (v := .ref d2) (C := RX0) (T := TX0) (N := 3) hx hb hts fa_lao_0 hown hK hP 0 rfl rfl 1 (by decide) (hts _ fa_lao_3) (fun _ h9 => h9) rfl dX0_leastArcOnward_92 ?_
                refine lv_iload_n hx hb dX0_leastArcOnward_95 rfl (lv_at hl 2 rfl) ?_
                refine va_iald (D := (dC, dI)) hx hb hK hP 2 0 rfl rfl (by first | assumption | exact vp_in_nI (by omega) (by omega)) dX0_leastArcOnward_96 ?_
                refine lv_icmp_ne (tgt := 102) hx hb dX0_leastArcOnward_97 (by decide) (fun c_97 => ?_) (fun c_97 => ?_)
                · refine lv_iinc (v := nI (i + 1)) (lv' := [(2, .int (nI (i + 1))), (3, .int (fp_en fr to i)), (0, .ref d0), (1, .int x)]) hx hb dX0_leastArcOnward_102 hl (k := 3) rfl (by first | exact nI_1 _ | exact nI_add _ _) (by decide) rfl (fun ls hl => ?_)
                  refine lv_goto (tgt := 2) hx hb dX0_leastArcOnward_105 (by decide) ?_
                  exact ih_a (i + 1) (by first | assumption | omega | rfl) (by rw [← hst, ← la_f hlt]; first | exact tg_1 c_22 | exact tg_2 c_33 | exact tg_3 (rch0 c_53) | exact tg_4 c_80 | exact tg_5 c_97) (by omega) _ (lv_sub hl [2, 3, 0] rfl)
                · refine lv_iload_n hx hb dX0_leastArcOnward_100 rfl (lv_at hl 3 rfl) ?_
                  exact W.iret (v := (nI i)) hx hb hr (fun t ht _ => ⟨(nI i), rfl, (by rw [← hst, la_t hlt (tg_t c_22 c_33 (rch1 c_53) c_80 c_97)]), ht⟩) (fun _ h => by cases h) dX0_leastArcOnward_101
            · refine lv_goto (tgt := 102) hx hb dX0_leastArcOnward_56 (by decide) ?_
              refine lv_iinc (v := nI (i + 1)) (lv' := [(2, .int (nI (i + 1))), (3, .int (fp_en fr to i)), (0, .ref d0), (1, .int x)]) hx hb dX0_leastArcOnward_102 hl (k := 3) rfl (by first | exact nI_1 _ | exact nI_add _ _) (by decide) rfl (fun ls hl => ?_)
              refine lv_goto (tgt := 2) hx hb dX0_leastArcOnward_105 (by decide) ?_
              exact ih_a (i + 1) (by first | assumption | omega | rfl) (by rw [← hst, ← la_f hlt]; first | exact tg_1 c_22 | exact tg_2 c_33 | exact tg_3 (rch0 c_53) | exact tg_4 c_80 | exact tg_5 c_97) (by omega) _ (lv_sub hl [2, 3, 0] rfl)
          · refine lv_goto (tgt := 102) hx hb dX0_leastArcOnward_36 (by decide) ?_
            refine lv_iinc (v := nI (i + 1)) (lv' := [(2, .int (nI (i + 1))), (0, .ref d0), (1, .int x)]) hx hb dX0_leastArcOnward_102 hl (k := 2) rfl (by first | exact nI_1 _ | exact nI_add _ _) (by decide) rfl (fun ls hl => ?_)
            refine lv_goto (tgt := 2) hx hb dX0_leastArcOnward_105 (by decide) ?_
            exact ih_a (i + 1) (by first | assumption | omega | rfl) (by rw [← hst, ← la_f hlt]; first | exact tg_1 c_22 | exact tg_2 c_33 | exact tg_3 (rch0 c_53) | exact tg_4 c_80 | exact tg_5 c_97) (by omega) _ (lv_sub hl [1, 2, 0] rfl)
  exact lo_a (2 * E - 0 + 1) 0 (by first | assumption | omega | rfl) rfl (by omega) _ (lv_sub hl [1, 2, 0] rfl)
end
section
def fq_fit (cap fl : Nat → Int32) (E : Nat) : Prop := ∀ e, e < E → ¬ fl e < 0 ∧ fl e ≤ cap e
def fq_pas (fr to fl : Nat → Int32) (N E : Nat) (src snk : Int32) : Prop := ∀ v, v < N → nI v = src ∨ nI v = snk ∨ fp_sur fr to fl (nI v) E = 0
def fq_cap (fr to cap le : Nat → Int32) : Nat → Int64
  | 0 => 0
  | e + 1 => if ¬ le (fr e).toNatClampNeg = 2147483647 ∧ le (to e).toNatClampNeg = 2147483647 then fq_cap fr to cap le e + (cap e).toInt64 else fq_cap fr to cap le e
def fq_cue (fr to cap fl le : Nat → Int32) (e : Nat) : Prop := (¬ le (fr e).toNatClampNeg = 2147483647 → le (to e).toNatClampNeg = 2147483647 → fl e = cap e) ∧ (le (fr e).toNatClampNeg = 2147483647 → ¬ le (to e).toNatClampNeg = 2147483647 → fl e = 0)
def fq_cut (fr to cap fl le : Nat → Int32) (E : Nat) (fw : Int32) : Prop := (∀ e, e < E → fq_cue fr to cap fl le e) ∧ fq_cap fr to cap le E = fw.toInt64
def fq_poa (fr to cap uc fl le : Nat → Int32) (a : Nat) : Prop := 0 < fp_lf cap fl a → ¬ le (fp_bg fr to a).toNatClampNeg = 2147483647 → ¬ le (fp_en fr to a).toNatClampNeg = 2147483647 → le (fp_en fr to a).toNatClampNeg ≤ le (fp_bg fr to a).toNatClampNeg + fp_pr uc a
def fq_pot (fr to cap uc fl le : Nat → Int32) (E : Nat) : Prop := ∀ a, a < 2 * E → fq_poa fr to cap uc fl le a
def fq_ck (fr to cap uc fl le : Nat → Int32) (N E : Nat) (src snk sol fw : Int32) : Prop := ¬ sol = 0 ∧ fq_fit cap fl E ∧ fq_pas fr to fl N E src snk ∧ fq_cut fr to cap fl le E fw ∧ fq_pot fr to cap uc fl le E
def fq_b (P : Prop) (r : Int32) : Prop := (r = 1 ∧ P) ∨ (r = 0 ∧ ¬ P)
theorem fq_b0 {P : Prop} {r : Int32} (h : fq_b P r) (c : r = 0) : ¬ P := by
  rcases h with ⟨h, _⟩ | ⟨_, h⟩
  · rw [h] at c; exact absurd c (by decide)
  · exact h
theorem fq_b1 {P : Prop} {r : Int32} (h : fq_b P r) (c : ¬ r = 0) : P := by
  rcases h with ⟨_, h⟩ | ⟨h, _⟩
  · exact h
  · exact absurd h c
theorem fq_b_iff {P : Prop} {r s : Int32} (h : fq_b P r) (g : fq_b P s) : r = s := by
  rcases h with ⟨h, a⟩ | ⟨h, a⟩ <;> rcases g with ⟨g, b⟩ | ⟨g, b⟩
  · rw [h, g]
  · exact absurd a b
  · exact absurd b a
  · rw [h, g]
theorem hn_in {x : Int32} {N : Nat} (hN : N < 1000) (h : ¬ (if ¬ x < 0 ∧ x < nI N then (1 : Int32) else 0) = 0) : vp_in x N := by
  by_cases q : ¬ x < 0 ∧ x < nI N
  · obtain ⟨j, hj, rfl⟩ := nI_of q.1
    rw [nI_ltI (by omega) (by omega)] at q
    exact vp_in_nI q.2 (by omega)
  · rw [if_neg q] at h; exact absurd rfl h
theorem hn_out {x : Int32} {N : Nat} (hN : N < 1000) (h : (if ¬ x < 0 ∧ x < nI N then (1 : Int32) else 0) = 0) : ¬ vp_in x N := by
  intro q
  obtain ⟨j, hj, rfl⟩ := vp_in_of q (by omega)
  rw [if_pos ⟨nI_pos (by omega), nI_lt hj (by omega)⟩] at h
  exact absurd h (by decide)
theorem hn_inv {x : Int32} {N : Nat} (hN : N < 1000) (h : ¬ vp_in x N) : (if ¬ x < 0 ∧ x < nI N then (1 : Int32) else 0) = 0 := Decidable.byContradiction (fun q => h (hn_in hN q))
theorem sw4 {x : Int32} (h0 : ¬ x = 0) (h1 : ¬ x = 1) (h2 : ¬ x = 2) (h3 : ¬ x = 3) : x.toInt < 0 ∨ 3 < x.toInt := by
  have e0 : ¬ x.toInt = 0 := fun q => h0 (Int32.toInt_inj.mp (by rw [q]; rfl))
  have e1 : ¬ x.toInt = 1 := fun q => h1 (Int32.toInt_inj.mp (by rw [q]; rfl))
  have e2 : ¬ x.toInt = 2 := fun q => h2 (Int32.toInt_inj.mp (by rw [q]; rfl))
  have e3 : ¬ x.toInt = 3 := fun q => h3 (Int32.toInt_inj.mp (by rw [q]; rfl))
  omega
end
section
theorem fa_value_0 : ∀ w ∈ wsX20, w ∈ wsX2_value := by decide +kernel
theorem fa_value_1 : Cond.fieldLink RX2 76 "FlowProofs" "solved" "Z" ∈ wsX2_value := by decide +kernel
theorem fa_value_2 : Cond.fieldLink RX2 89 "FlowProofs" "flowing" "I" ∈ wsX2_value := by decide +kernel
set_option maxHeartbeats 4000000 in
set_option maxRecDepth 100000 in
theorem k_value (l : Launch) (dC : Nat → ClassId) (dI : Nat → Nat → Nat) (cI cJ cZ : ClassId) (q : Nat → Nat) (N M E : Nat) (fr to cap uc fl le fe lt ft wy : Nat → Int32) (wl src snk cir sol rd fw : Int32)  : Met l yX2_value wsX2_value ({ frames := 0, cells := 0, slots := 0, locals := 0 }) (va_Pc [.ref (q 0)] (fun U => va_P (dC, dI) vwCl [(q 0, .inr (2, [.ref (q 1), .ref (q 7), .ref (q 10), .ref (q 13), .int wl, .int src, .int snk, .int cir, .int sol, .int rd, .int fw]))] U.heap ∧ va_K (dC, dI) vwCl [(cI, .int), (cJ, .long), (cZ, .boolean)] U)) (vp_Si (fun r => (sol = 0 ∧ r = -1) ∨ (¬ sol = 0 ∧ r = fw))) 0 0 (fun _ => False) := by
  refine Met.ofW (cc := cX2_value) (maxL := 1) (ret := (some .int)) (by decide) rfl ?_
  intro p e s m args below meth c s₁ B hml hv
  obtain ⟨rfl, hP, hK⟩ := hv
  have hx := B.exec
  have hb := B.bytes
  have hr := B.returns
  have hts := atoms_spec (ws := wsX2_value) B.pre
  have hown : s.vm.findClass RX2 = some m.cls := findClass_of_methodNamed B.named
  have hlocks := B.notSynchronized
  have hP : va_P (dC, dI) vwCl [(q 0, .inr (2, [.ref (q 1), .ref (q 7), .ref (q 10), .ref (q 13), .int wl, .int src, .int snk, .int cir, .int sol, .int rd, .int fw]))] s.heap := hP
  have hl := lv_entry ([.ref (q 0)]) (n := 1) (Nat.le_of_ble_eq_true rfl)
  rw [lg_entry_eq]
  generalize (lg_sl ([.ref (q 0)]) ++ List.replicate (1 - (lg_sl ([.ref (q 0)])).length) Slot.unset).toArray = ls at hl ⊢
  have hl : lv_has ls 1 [(0, .ref (q 0))] := hl
  refine lv_aload_n hx hb dX2_value_0 rfl (lv_at hl 0 rfl) ?_
  refine va_get (D := (dC, dI)) (ci := 2) (v := .int sol) (C := RX2) (T := TX2) (N := 11) hx hb hts fa_value_0 hown hK hP 0 rfl rfl 8 (by decide) (hts _ fa_value_1) (fun _ h9 => h9) rfl dX2_value_1 ?_
  refine lv_if_eq (tgt := 14) hx hb dX2_value_4 (by decide) (fun c_4 => ?_) (fun c_4 => ?_)
  · refine lv_iconst (v := (-1)) hx hb dX2_value_14 (by decide) ?_
    exact W.iret (v := (-1)) hx hb hr (fun t ht _ => ⟨(-1), rfl, (by first | exact Or.inl ⟨c_4, rfl⟩ | exact Or.inr ⟨c_4, rfl⟩), ht⟩) (fun _ h => by cases h) dX2_value_15
  · refine lv_aload_n hx hb dX2_value_7 rfl (lv_at hl 0 rfl) ?_
    refine va_get (D := (dC, dI)) (ci := 2) (v := .int fw) (C := RX2) (T := TX2) (N := 11) hx hb hts fa_value_0 hown hK hP 0 rfl rfl 10 (by decide) (hts _ fa_value_2) (fun _ h9 => h9) rfl dX2_value_8 ?_
    refine lv_goto (tgt := 15) hx hb dX2_value_11 (by decide) ?_
    exact W.iret (v := fw) hx hb hr (fun t ht _ => ⟨fw, rfl, (by first | exact Or.inl ⟨c_4, rfl⟩ | exact Or.inr ⟨c_4, rfl⟩), ht⟩) (fun _ h => by cases h) dX2_value_15

theorem fa_cost_0 : ∀ w ∈ wsX20, w ∈ wsX2_cost := by decide +kernel
theorem fa_cost_1 : Cond.fieldLink RX2 76 "FlowProofs" "solved" "Z" ∈ wsX2_cost := by decide +kernel
theorem fa_cost_2 : Cond.fieldLink RX2 27 "FlowProofs" "net" "LFlowProofs$Net;" ∈ wsX2_cost := by decide +kernel
set_option maxHeartbeats 4000000 in
set_option maxRecDepth 100000 in
theorem k_cost (l : Launch) (dC : Nat → ClassId) (dI : Nat → Nat → Nat) (cI cJ cZ : ClassId) (q : Nat → Nat) (N M E : Nat) (fr to cap uc fl le fe lt ft wy : Nat → Int32) (wl src snk cir sol rd fw : Int32) (hE : E ≤ M) (hM : M < 1000) : Met l yX2_cost wsX2_cost ({ frames := 1, cells := 0, slots := 0, locals := 23 }) (va_Pc [.ref (q 0)] (fun U => va_P (dC, dI) vwCl [(q 0, .inr (2, [.ref (q 1), .ref (q 7), .ref (q 10), .ref (q 13), .int wl, .int src, .int snk, .int cir, .int sol, .int rd, .int fw])), (q 1, .inr (1, [.int (nI N), .ref (q 2), .ref (q 3), .ref (q 4), .ref (q 5), .ref (q 6), .int (nI E)])), (q 2, .inl (cI, M, .inl fr)), (q 3, .inl (cI, M, .inl to)), (q 4, .inl (cI, M, .inl cap)), (q 5, .inl (cI, M, .inl uc)), (q 6, .inl (cI, M, .inl fl))] U.heap ∧ va_K (dC, dI) vwCl [(cI, .int), (cJ, .long), (cZ, .boolean)] U)) (vp_Sl (fun r => (sol = 0 ∧ r = 0) ∨ (¬ sol = 0 ∧ r = fp_sum (fun e => (fl e).toInt64 * (uc e).toInt64) E))) 0 0 (fun _ => False) := by
  refine Met.ofW (cc := cX2_cost) (maxL := 1) (ret := (some .long)) (by decide) rfl ?_
  intro p e s m args below meth c s₁ B hml hv
  obtain ⟨rfl, hP, hK⟩ := hv
  have hx := B.exec
  have hb := B.bytes
  have hr := B.returns
  have hts := atoms_spec (ws := wsX2_cost) B.pre
  have hown : s.vm.findClass RX2 = some m.cls := findClass_of_methodNamed B.named
  have hlocks := B.notSynchronized
  have hP : va_P (dC, dI) vwCl [(q 0, .inr (2, [.ref (q 1), .ref (q 7), .ref (q 10), .ref (q 13), .int wl, .int src, .int snk, .int cir, .int sol, .int rd, .int fw])), (q 1, .inr (1, [.int (nI N), .ref (q 2), .ref (q 3), .ref (q 4), .ref (q 5), .ref (q 6), .int (nI E)])), (q 2, .inl (cI, M, .inl fr)), (q 3, .inl (cI, M, .inl to)), (q 4, .inl (cI, M, .inl cap)), (q 5, .inl (cI, M, .inl uc)), (q 6, .inl (cI, M, .inl fl))] s.heap := hP
  have hl := lv_entry ([.ref (q 0)]) (n := 1) (Nat.le_of_ble_eq_true rfl)
  rw [lg_entry_eq]
  generalize (lg_sl ([.ref (q 0)]) ++ List.replicate (1 - (lg_sl ([.ref (q 0)])).length) Slot.unset).toArray = ls at hl ⊢
  have hl : lv_has ls 1 [(0, .ref (q 0))] := hl
  refine lv_aload_n hx hb dX2_cost_0 rfl (lv_at hl 0 rfl) ?_
  refine va_get (D := (dC, dI)) (ci := 2) (v := .int sol) (C := RX2) (T := TX2) (N := 11) hx hb hts fa_cost_0 hown hK hP 0 rfl rfl 8 (by decide) (hts _ fa_cost_1) (fun _ h9 => h9) rfl dX2_cost_1 ?_
  refine lv_if_eq (tgt := 17) hx hb dX2_cost_4 (by decide) (fun c_4 => ?_) (fun c_4 => ?_)
  · refine lv_lconst (v := 0) hx hb dX2_cost_17 (by decide) ?_
    exact W.lret (v := 0) hx hb hr (fun t ht _ => ⟨0, rfl, (by first | exact Or.inl ⟨c_4, rfl⟩ | exact Or.inr ⟨c_4, rfl⟩), ht⟩) (fun _ h => by cases h) dX2_cost_18
  · refine lv_aload_n hx hb dX2_cost_7 rfl (lv_at hl 0 rfl) ?_
    refine va_get (D := (dC, dI)) (ci := 2) (v := .ref (q 1)) (C := RX2) (T := TX2) (N := 11) hx hb hts fa_cost_0 hown hK hP 0 rfl rfl 0 (by decide) (hts _ fa_cost_2) (fun _ h9 => h9) rfl dX2_cost_8 ?_
    have hPc := hP.sub (ws' := [(q 1, .inr (1, [.int (nI N), .ref (q 2), .ref (q 3), .ref (q 4), .ref (q 5), .ref (q 6), .int (nI E)])), (q 2, .inl (cI, M, .inl fr)), (q 3, .inl (cI, M, .inl to)), (q 4, .inl (cI, M, .inl cap)), (q 5, .inl (cI, M, .inl uc)), (q 6, .inl (cI, M, .inl fl))]) [1, 2, 3, 4, 5, 6] rfl
    refine vp_callSl (W.runV (As := []) (rest := []) ⟨hx, hb, hml, hown, hts⟩ (k_costOfFlow l dC dI cI cJ cZ q N M E fr to cap uc fl hE hM) (cwV 0 hts gX2_cost_X1_costOfFlow rfl rfl rfl (by decide +kernel) ⟨Nat.le_of_ble_eq_true rfl, Nat.le_of_ble_eq_true rfl⟩) ⟨fun a U g mk q => by obtain ⟨q0, qP, qK⟩ := q; exact ⟨q0, qP, va_K.moved (u := U) (U := U.calling g mk a) (Vm.Alike.refl U.vm) qK⟩, va_recv hK hP (ci := 1) (q0 := 1) rfl rfl, fun U hU hW => ⟨rfl, by rw [hU]; exact hPc, va_K.moved hW.alike hK⟩⟩ rfl rfl hl.1 rfl (lv_room (Nat.le_of_ble_eq_true rfl)) dX2_cost_11 ⟨Nat.le_of_ble_eq_true rfl, Nat.le_of_ble_eq_true rfl⟩) (fun r_11 hw_11 => ?_)
    subst hw_11
    refine lv_goto (tgt := 18) hx hb dX2_cost_14 (by decide) ?_
    exact W.lret (v := (fp_sum (fun e => (fl e).toInt64 * (uc e).toInt64) E)) hx hb hr (fun t ht _ => ⟨(fp_sum (fun e => (fl e).toInt64 * (uc e).toInt64) E), rfl, (by first | exact Or.inl ⟨c_4, rfl⟩ | exact Or.inr ⟨c_4, rfl⟩), ht⟩) (fun _ h => by cases h) dX2_cost_18

theorem fa_flow_0 : ∀ w ∈ wsX20, w ∈ wsX2_flow := by decide +kernel
theorem fa_flow_1 : Cond.fieldLink RX2 27 "FlowProofs" "net" "LFlowProofs$Net;" ∈ wsX2_flow := by decide +kernel
theorem fa_flow_2 : ∀ w ∈ wsX10, w ∈ wsX2_flow := by decide +kernel
theorem fa_flow_3 : Cond.fieldLink RX2 98 "FlowProofs$Net" "flow" "[I" ∈ wsX2_flow := by decide +kernel
set_option maxHeartbeats 4000000 in
set_option maxRecDepth 100000 in
theorem k_flow (l : Launch) (dC : Nat → ClassId) (dI : Nat → Nat → Nat) (cI cJ cZ : ClassId) (q : Nat → Nat) (N M E : Nat) (fr to cap uc fl le fe lt ft wy : Nat → Int32) (wl src snk cir sol rd fw : Int32) (x : Int32) (hE : E ≤ M) (hM : M < 1000) : Met l yX2_flow wsX2_flow ({ frames := 1, cells := 0, slots := 0, locals := 21 }) (va_Pc [.ref (q 0), .int x] (fun U => va_P (dC, dI) vwCl [(q 0, .inr (2, [.ref (q 1), .ref (q 7), .ref (q 10), .ref (q 13), .int wl, .int src, .int snk, .int cir, .int sol, .int rd, .int fw])), (q 1, .inr (1, [.int (nI N), .ref (q 2), .ref (q 3), .ref (q 4), .ref (q 5), .ref (q 6), .int (nI E)])), (q 2, .inl (cI, M, .inl fr)), (q 3, .inl (cI, M, .inl to)), (q 4, .inl (cI, M, .inl cap)), (q 5, .inl (cI, M, .inl uc)), (q 6, .inl (cI, M, .inl fl))] U.heap ∧ va_K (dC, dI) vwCl [(cI, .int), (cJ, .long), (cZ, .boolean)] U)) (vp_Si (fun r => (¬ vp_in x E ∧ r = -1) ∨ (vp_in x E ∧ r = fl x.toNatClampNeg))) 0 0 (fun _ => False) := by
  refine Met.ofW (cc := cX2_flow) (maxL := 2) (ret := (some .int)) (by decide) rfl ?_
  intro p e s m args below meth c s₁ B hml hv
  obtain ⟨rfl, hP, hK⟩ := hv
  have hx := B.exec
  have hb := B.bytes
  have hr := B.returns
  have hts := atoms_spec (ws := wsX2_flow) B.pre
  have hown : s.vm.findClass RX2 = some m.cls := findClass_of_methodNamed B.named
  have hlocks := B.notSynchronized
  have hP : va_P (dC, dI) vwCl [(q 0, .inr (2, [.ref (q 1), .ref (q 7), .ref (q 10), .ref (q 13), .int wl, .int src, .int snk, .int cir, .int sol, .int rd, .int fw])), (q 1, .inr (1, [.int (nI N), .ref (q 2), .ref (q 3), .ref (q 4), .ref (q 5), .ref (q 6), .int (nI E)])), (q 2, .inl (cI, M, .inl fr)), (q 3, .inl (cI, M, .inl to)), (q 4, .inl (cI, M, .inl cap)), (q 5, .inl (cI, M, .inl uc)), (q 6, .inl (cI, M, .inl fl))] s.heap := hP
  have hl := lv_entry ([.ref (q 0), .int x]) (n := 2) (Nat.le_of_ble_eq_true rfl)
  rw [lg_entry_eq]
  generalize (lg_sl ([.ref (q 0), .int x]) ++ List.replicate (2 - (lg_sl ([.ref (q 0), .int x])).length) Slot.unset).toArray = ls at hl ⊢
  have hl : lv_has ls 2 [(0, .ref (q 0)), (1, .int x)] := hl
  refine lv_aload_n hx hb dX2_flow_0 rfl (lv_at hl 0 rfl) ?_
  refine va_get (D := (dC, dI)) (ci := 2) (v := .ref (q 1)) (C := RX2) (T := TX2) (N := 11) hx hb hts fa_flow_0 hown hK hP 0 rfl rfl 0 (by decide) (hts _ fa_flow_1) (fun _ h9 => h9) rfl dX2_flow_1 ?_
  refine lv_iload_n hx hb dX2_flow_4 rfl (lv_at hl 1 rfl) ?_
  have hPc := hP.sub (ws' := [(q 1, .inr (1, [.int (nI N), .ref (q 2), .ref (q 3), .ref (q 4), .ref (q 5), .ref (q 6), .int (nI E)])), (q 2, .inl (cI, M, .inl fr)), (q 3, .inl (cI, M, .inl to)), (q 4, .inl (cI, M, .inl cap)), (q 5, .inl (cI, M, .inl uc)), (q 6, .inl (cI, M, .inl fl))]) [1, 2, 3, 4, 5, 6] rfl
  refine vp_callSi (W.runV (As := [.int x]) (rest := []) ⟨hx, hb, hml, hown, hts⟩ (k_hasEdge l dC dI cI cJ cZ q N M E fr to cap uc fl x) (cwV 1 hts gX2_flow_X1_hasEdge rfl rfl rfl (by decide +kernel) ⟨Nat.le_of_ble_eq_true rfl, Nat.le_of_ble_eq_true rfl⟩) ⟨fun a U g mk q => by obtain ⟨q0, qP, qK⟩ := q; exact ⟨q0, qP, va_K.moved (u := U) (U := U.calling g mk a) (Vm.Alike.refl U.vm) qK⟩, va_recv hK hP (ci := 1) (q0 := 1) rfl rfl, fun U hU hW => ⟨rfl, by rw [hU]; exact hPc, va_K.moved hW.alike hK⟩⟩ rfl rfl hl.1 rfl (lv_room (Nat.le_of_ble_eq_true rfl)) dX2_flow_5 ⟨Nat.le_of_ble_eq_true rfl, Nat.le_of_ble_eq_true rfl⟩) (fun r_5 hw_5 => ?_)
  subst hw_5
  refine lv_if_eq (tgt := 23) hx hb dX2_flow_8 (by decide) (fun c_8 => ?_) (fun c_8 => ?_)
  · refine lv_iconst (v := (-1)) hx hb dX2_flow_23 (by decide) ?_
    exact W.iret (v := (-1)) hx hb hr (fun t ht _ => ⟨(-1), rfl, (by first | exact Or.inl ⟨hn_out (by omega) c_8, rfl⟩ | exact Or.inr ⟨hxE, rfl⟩), ht⟩) (fun _ h => by cases h) dX2_flow_24
  · have hxE := hn_in (N := E) (by omega) c_8
    have hxM : vp_in x M := by rw [vp_in_iff] at hxE ⊢; omega
    refine lv_aload_n hx hb dX2_flow_11 rfl (lv_at hl 0 rfl) ?_
    refine va_get (D := (dC, dI)) (ci := 2) (v := .ref (q 1)) (C := RX2) (T := TX2) (N := 11) hx hb hts fa_flow_0 hown hK hP 0 rfl rfl 0 (by decide) (hts _ fa_flow_1) (fun _ h9 => h9) rfl dX2_flow_12 ?_
    refine va_get (D := (dC, dI)) (ci := 1) (v := .ref (q 6)) (C := RX1) (T := TX1) (N := 7) hx hb hts fa_flow_2 hown hK hP 1 rfl rfl 5 (by decide) (hts _ fa_flow_3) (fun _ h9 => h9) rfl dX2_flow_15 ?_
    refine lv_iload_n hx hb dX2_flow_18 rfl (lv_at hl 1 rfl) ?_
    refine va_iald (D := (dC, dI)) hx hb hK hP 6 0 rfl rfl (by first | assumption | exact vp_in_nI (by omega) (by omega)) dX2_flow_19 ?_
    refine lv_goto (tgt := 24) hx hb dX2_flow_20 (by decide) ?_
    exact W.iret (v := (fl x.toNatClampNeg)) hx hb hr (fun t ht _ => ⟨(fl x.toNatClampNeg), rfl, (by first | exact Or.inl ⟨hn_out (by omega) c_8, rfl⟩ | exact Or.inr ⟨hxE, rfl⟩), ht⟩) (fun _ h => by cases h) dX2_flow_24

theorem fa_potential_0 : ∀ w ∈ wsX20, w ∈ wsX2_potential := by decide +kernel
theorem fa_potential_1 : Cond.fieldLink RX2 76 "FlowProofs" "solved" "Z" ∈ wsX2_potential := by decide +kernel
theorem fa_potential_2 : Cond.fieldLink RX2 27 "FlowProofs" "net" "LFlowProofs$Net;" ∈ wsX2_potential := by decide +kernel
theorem fa_potential_3 : Cond.fieldLink RX2 36 "FlowProofs" "fromSource" "LFlowProofs$Distances;" ∈ wsX2_potential := by decide +kernel
theorem fa_potential_4 : ∀ w ∈ wsX00, w ∈ wsX2_potential := by decide +kernel
theorem fa_potential_5 : Cond.fieldLink RX2 101 "FlowProofs$Distances" "least" "[I" ∈ wsX2_potential := by decide +kernel
set_option maxHeartbeats 4000000 in
set_option maxRecDepth 100000 in
theorem k_potential (l : Launch) (dC : Nat → ClassId) (dI : Nat → Nat → Nat) (cI cJ cZ : ClassId) (q : Nat → Nat) (N M E : Nat) (fr to cap uc fl le fe lt ft wy : Nat → Int32) (wl src snk cir sol rd fw : Int32) (x : Int32) (hN : N < 1000) : Met l yX2_potential wsX2_potential ({ frames := 1, cells := 0, slots := 0, locals := 21 }) (va_Pc [.ref (q 0), .int x] (fun U => va_P (dC, dI) vwCl [(q 0, .inr (2, [.ref (q 1), .ref (q 7), .ref (q 10), .ref (q 13), .int wl, .int src, .int snk, .int cir, .int sol, .int rd, .int fw])), (q 1, .inr (1, [.int (nI N), .ref (q 2), .ref (q 3), .ref (q 4), .ref (q 5), .ref (q 6), .int (nI E)])), (q 2, .inl (cI, M, .inl fr)), (q 3, .inl (cI, M, .inl to)), (q 4, .inl (cI, M, .inl cap)), (q 5, .inl (cI, M, .inl uc)), (q 6, .inl (cI, M, .inl fl)), (q 7, .inr (0, [.ref (q 8), .ref (q 9), .ref (q 1)])), (q 8, .inl (cI, N, .inl le)), (q 9, .inl (cI, N, .inl fe))] U.heap ∧ va_K (dC, dI) vwCl [(cI, .int), (cJ, .long), (cZ, .boolean)] U)) (vp_Si (fun r => ((sol = 0 ∨ ¬ vp_in x N) ∧ r = -1) ∨ (¬ sol = 0 ∧ vp_in x N ∧ r = le x.toNatClampNeg))) 0 0 (fun _ => False) := by
  refine Met.ofW (cc := cX2_potential) (maxL := 2) (ret := (some .int)) (by decide) rfl ?_
  intro p e s m args below meth c s₁ B hml hv
  obtain ⟨rfl, hP, hK⟩ := hv
  have hx := B.exec
  have hb := B.bytes
  have hr := B.returns
  have hts := atoms_spec (ws := wsX2_potential) B.pre
  have hown : s.vm.findClass RX2 = some m.cls := findClass_of_methodNamed B.named
  have hlocks := B.notSynchronized
  have hP : va_P (dC, dI) vwCl [(q 0, .inr (2, [.ref (q 1), .ref (q 7), .ref (q 10), .ref (q 13), .int wl, .int src, .int snk, .int cir, .int sol, .int rd, .int fw])), (q 1, .inr (1, [.int (nI N), .ref (q 2), .ref (q 3), .ref (q 4), .ref (q 5), .ref (q 6), .int (nI E)])), (q 2, .inl (cI, M, .inl fr)), (q 3, .inl (cI, M, .inl to)), (q 4, .inl (cI, M, .inl cap)), (q 5, .inl (cI, M, .inl uc)), (q 6, .inl (cI, M, .inl fl)), (q 7, .inr (0, [.ref (q 8), .ref (q 9), .ref (q 1)])), (q 8, .inl (cI, N, .inl le)), (q 9, .inl (cI, N, .inl fe))] s.heap := hP
  have hl := lv_entry ([.ref (q 0), .int x]) (n := 2) (Nat.le_of_ble_eq_true rfl)
  rw [lg_entry_eq]
  generalize (lg_sl ([.ref (q 0), .int x]) ++ List.replicate (2 - (lg_sl ([.ref (q 0), .int x])).length) Slot.unset).toArray = ls at hl ⊢
  have hl : lv_has ls 2 [(0, .ref (q 0)), (1, .int x)] := hl
  refine lv_aload_n hx hb dX2_potential_0 rfl (lv_at hl 0 rfl) ?_
  refine va_get (D := (dC, dI)) (ci := 2) (v := .int sol) (C := RX2) (T := TX2) (N := 11) hx hb hts fa_potential_0 hown hK hP 0 rfl rfl 8 (by decide) (hts _ fa_potential_1) (fun _ h9 => h9) rfl dX2_potential_1 ?_
  refine lv_if_eq (tgt := 30) hx hb dX2_potential_4 (by decide) (fun c_4 => ?_) (fun c_4 => ?_)
  · refine lv_iconst (v := (-1)) hx hb dX2_potential_30 (by decide) ?_
    exact W.iret (v := (-1)) hx hb hr (fun t ht _ => ⟨(-1), rfl, (by first | exact Or.inl ⟨Or.inl c_4, rfl⟩ | exact Or.inl ⟨Or.inr (hn_out hN c_15), rfl⟩ | exact Or.inr ⟨c_4, hxN, rfl⟩), ht⟩) (fun _ h => by cases h) dX2_potential_31
  · refine lv_aload_n hx hb dX2_potential_7 rfl (lv_at hl 0 rfl) ?_
    refine va_get (D := (dC, dI)) (ci := 2) (v := .ref (q 1)) (C := RX2) (T := TX2) (N := 11) hx hb hts fa_potential_0 hown hK hP 0 rfl rfl 0 (by decide) (hts _ fa_potential_2) (fun _ h9 => h9) rfl dX2_potential_8 ?_
    refine lv_iload_n hx hb dX2_potential_11 rfl (lv_at hl 1 rfl) ?_
    have hPc := hP.sub (ws' := [(q 1, .inr (1, [.int (nI N), .ref (q 2), .ref (q 3), .ref (q 4), .ref (q 5), .ref (q 6), .int (nI E)])), (q 2, .inl (cI, M, .inl fr)), (q 3, .inl (cI, M, .inl to)), (q 4, .inl (cI, M, .inl cap)), (q 5, .inl (cI, M, .inl uc)), (q 6, .inl (cI, M, .inl fl))]) [1, 2, 3, 4, 5, 6] rfl
    refine vp_callSi (W.runV (As := [.int x]) (rest := []) ⟨hx, hb, hml, hown, hts⟩ (k_hasNode l dC dI cI cJ cZ q N M E fr to cap uc fl x) (cwV 1 hts gX2_potential_X1_hasNode rfl rfl rfl (by decide +kernel) ⟨Nat.le_of_ble_eq_true rfl, Nat.le_of_ble_eq_true rfl⟩) ⟨fun a U g mk q => by obtain ⟨q0, qP, qK⟩ := q; exact ⟨q0, qP, va_K.moved (u := U) (U := U.calling g mk a) (Vm.Alike.refl U.vm) qK⟩, va_recv hK hP (ci := 1) (q0 := 1) rfl rfl, fun U hU hW => ⟨rfl, by rw [hU]; exact hPc, va_K.moved hW.alike hK⟩⟩ rfl rfl hl.1 rfl (lv_room (Nat.le_of_ble_eq_true rfl)) dX2_potential_12 ⟨Nat.le_of_ble_eq_true rfl, Nat.le_of_ble_eq_true rfl⟩) (fun r_12 hw_12 => ?_)
    subst hw_12
    refine lv_if_eq (tgt := 30) hx hb dX2_potential_15 (by decide) (fun c_15 => ?_) (fun c_15 => ?_)
    · refine lv_iconst (v := (-1)) hx hb dX2_potential_30 (by decide) ?_
      exact W.iret (v := (-1)) hx hb hr (fun t ht _ => ⟨(-1), rfl, (by first | exact Or.inl ⟨Or.inl c_4, rfl⟩ | exact Or.inl ⟨Or.inr (hn_out hN c_15), rfl⟩ | exact Or.inr ⟨c_4, hxN, rfl⟩), ht⟩) (fun _ h => by cases h) dX2_potential_31
    · have hxN := hn_in hN c_15
      refine lv_aload_n hx hb dX2_potential_18 rfl (lv_at hl 0 rfl) ?_
      refine va_get (D := (dC, dI)) (ci := 2) (v := .ref (q 7)) (C := RX2) (T := TX2) (N := 11) hx hb hts fa_potential_0 hown hK hP 0 rfl rfl 1 (by decide) (hts _ fa_potential_3) (fun _ h9 => h9) rfl dX2_potential_19 ?_
      refine va_get (D := (dC, dI)) (ci := 0) (v := .ref (q 8)) (C := RX0) (T := TX0) (N := 3) hx hb hts fa_potential_4 hown hK hP 7 rfl rfl 0 (by decide) (hts _ fa_potential_5) (fun _ h9 => h9) rfl dX2_potential_22 ?_
      refine lv_iload_n hx hb dX2_potential_25 rfl (lv_at hl 1 rfl) ?_
      refine va_iald (D := (dC, dI)) hx hb hK hP 8 0 rfl rfl (by first | assumption | exact vp_in_nI (by omega) (by omega)) dX2_potential_26 ?_
      refine lv_goto (tgt := 31) hx hb dX2_potential_27 (by decide) ?_
      exact W.iret (v := (le x.toNatClampNeg)) hx hb hr (fun t ht _ => ⟨(le x.toNatClampNeg), rfl, (by first | exact Or.inl ⟨Or.inl c_4, rfl⟩ | exact Or.inl ⟨Or.inr (hn_out hN c_15), rfl⟩ | exact Or.inr ⟨c_4, hxN, rfl⟩), ht⟩) (fun _ h => by cases h) dX2_potential_31

theorem fa_inCut_0 : ∀ w ∈ wsX20, w ∈ wsX2_inCut := by decide +kernel
theorem fa_inCut_1 : Cond.fieldLink RX2 76 "FlowProofs" "solved" "Z" ∈ wsX2_inCut := by decide +kernel
theorem fa_inCut_2 : Cond.fieldLink RX2 27 "FlowProofs" "net" "LFlowProofs$Net;" ∈ wsX2_inCut := by decide +kernel
theorem fa_inCut_3 : Cond.fieldLink RX2 36 "FlowProofs" "fromSource" "LFlowProofs$Distances;" ∈ wsX2_inCut := by decide +kernel
set_option maxHeartbeats 4000000 in
set_option maxRecDepth 100000 in
theorem k_inCut (l : Launch) (dC : Nat → ClassId) (dI : Nat → Nat → Nat) (cI cJ cZ : ClassId) (q : Nat → Nat) (N M E : Nat) (fr to cap uc fl le fe lt ft wy : Nat → Int32) (wl src snk cir sol rd fw : Int32) (x : Int32) (hN : N < 1000) : Met l yX2_inCut wsX2_inCut ({ frames := 1, cells := 0, slots := 0, locals := 21 }) (va_Pc [.ref (q 0), .int x] (fun U => va_P (dC, dI) vwCl [(q 0, .inr (2, [.ref (q 1), .ref (q 7), .ref (q 10), .ref (q 13), .int wl, .int src, .int snk, .int cir, .int sol, .int rd, .int fw])), (q 1, .inr (1, [.int (nI N), .ref (q 2), .ref (q 3), .ref (q 4), .ref (q 5), .ref (q 6), .int (nI E)])), (q 2, .inl (cI, M, .inl fr)), (q 3, .inl (cI, M, .inl to)), (q 4, .inl (cI, M, .inl cap)), (q 5, .inl (cI, M, .inl uc)), (q 6, .inl (cI, M, .inl fl)), (q 7, .inr (0, [.ref (q 8), .ref (q 9), .ref (q 1)])), (q 8, .inl (cI, N, .inl le)), (q 9, .inl (cI, N, .inl fe))] U.heap ∧ va_K (dC, dI) vwCl [(cI, .int), (cJ, .long), (cZ, .boolean)] U)) (vp_Si (fun r => fq_b (¬ sol = 0 ∧ vp_in x N ∧ ¬ le x.toNatClampNeg = 2147483647) r)) 0 0 (fun _ => False) := by
  refine Met.ofW (cc := cX2_inCut) (maxL := 2) (ret := (some .boolean)) (by decide) rfl ?_
  intro p e s m args below meth c s₁ B hml hv
  obtain ⟨rfl, hP, hK⟩ := hv
  have hx := B.exec
  have hb := B.bytes
  have hr := B.returns
  have hts := atoms_spec (ws := wsX2_inCut) B.pre
  have hown : s.vm.findClass RX2 = some m.cls := findClass_of_methodNamed B.named
  have hlocks := B.notSynchronized
  have hP : va_P (dC, dI) vwCl [(q 0, .inr (2, [.ref (q 1), .ref (q 7), .ref (q 10), .ref (q 13), .int wl, .int src, .int snk, .int cir, .int sol, .int rd, .int fw])), (q 1, .inr (1, [.int (nI N), .ref (q 2), .ref (q 3), .ref (q 4), .ref (q 5), .ref (q 6), .int (nI E)])), (q 2, .inl (cI, M, .inl fr)), (q 3, .inl (cI, M, .inl to)), (q 4, .inl (cI, M, .inl cap)), (q 5, .inl (cI, M, .inl uc)), (q 6, .inl (cI, M, .inl fl)), (q 7, .inr (0, [.ref (q 8), .ref (q 9), .ref (q 1)])), (q 8, .inl (cI, N, .inl le)), (q 9, .inl (cI, N, .inl fe))] s.heap := hP
  have hl := lv_entry ([.ref (q 0), .int x]) (n := 2) (Nat.le_of_ble_eq_true rfl)
  rw [lg_entry_eq]
  generalize (lg_sl ([.ref (q 0), .int x]) ++ List.replicate (2 - (lg_sl ([.ref (q 0), .int x])).length) Slot.unset).toArray = ls at hl ⊢
  have hl : lv_has ls 2 [(0, .ref (q 0)), (1, .int x)] := hl
  refine lv_aload_n hx hb dX2_inCut_0 rfl (lv_at hl 0 rfl) ?_
  refine va_get (D := (dC, dI)) (ci := 2) (v := .int sol) (C := RX2) (T := TX2) (N := 11) hx hb hts fa_inCut_0 hown hK hP 0 rfl rfl 8 (by decide) (hts _ fa_inCut_1) (fun _ h9 => h9) rfl dX2_inCut_1 ?_
  refine lv_if_eq (tgt := 33) hx hb dX2_inCut_4 (by decide) (fun c_4 => ?_) (fun c_4 => ?_)
  · refine lv_iconst (v := 0) hx hb dX2_inCut_33 (by decide) ?_
    exact W.zret (v := 0) hx hb hr rfl (fun t ht _ => ⟨0, rfl, (by first | exact Or.inr ⟨rfl, fun h => h.1 c_4⟩ | exact Or.inr ⟨rfl, fun h => hn_out hN c_15 h.2.1⟩ | exact Or.inr ⟨rfl, fun h => h.2.2 (rch0 c_26)⟩ | exact Or.inl ⟨rfl, c_4, hxN, rch1 c_26⟩), ht⟩) (fun _ h => by cases h) dX2_inCut_34
  · refine lv_aload_n hx hb dX2_inCut_7 rfl (lv_at hl 0 rfl) ?_
    refine va_get (D := (dC, dI)) (ci := 2) (v := .ref (q 1)) (C := RX2) (T := TX2) (N := 11) hx hb hts fa_inCut_0 hown hK hP 0 rfl rfl 0 (by decide) (hts _ fa_inCut_2) (fun _ h9 => h9) rfl dX2_inCut_8 ?_
    refine lv_iload_n hx hb dX2_inCut_11 rfl (lv_at hl 1 rfl) ?_
    have hPc := hP.sub (ws' := [(q 1, .inr (1, [.int (nI N), .ref (q 2), .ref (q 3), .ref (q 4), .ref (q 5), .ref (q 6), .int (nI E)])), (q 2, .inl (cI, M, .inl fr)), (q 3, .inl (cI, M, .inl to)), (q 4, .inl (cI, M, .inl cap)), (q 5, .inl (cI, M, .inl uc)), (q 6, .inl (cI, M, .inl fl))]) [1, 2, 3, 4, 5, 6] rfl
    refine vp_callSi (W.runV (As := [.int x]) (rest := []) ⟨hx, hb, hml, hown, hts⟩ (k_hasNode l dC dI cI cJ cZ q N M E fr to cap uc fl x) (cwV 1 hts gX2_inCut_X1_hasNode rfl rfl rfl (by decide +kernel) ⟨Nat.le_of_ble_eq_true rfl, Nat.le_of_ble_eq_true rfl⟩) ⟨fun a U g mk q => by obtain ⟨q0, qP, qK⟩ := q; exact ⟨q0, qP, va_K.moved (u := U) (U := U.calling g mk a) (Vm.Alike.refl U.vm) qK⟩, va_recv hK hP (ci := 1) (q0 := 1) rfl rfl, fun U hU hW => ⟨rfl, by rw [hU]; exact hPc, va_K.moved hW.alike hK⟩⟩ rfl rfl hl.1 rfl (lv_room (Nat.le_of_ble_eq_true rfl)) dX2_inCut_12 ⟨Nat.le_of_ble_eq_true rfl, Nat.le_of_ble_eq_true rfl⟩) (fun r_12 hw_12 => ?_)
    subst hw_12
    refine lv_if_eq (tgt := 33) hx hb dX2_inCut_15 (by decide) (fun c_15 => ?_) (fun c_15 => ?_)
    · refine lv_iconst (v := 0) hx hb dX2_inCut_33 (by decide) ?_
      exact W.zret (v := 0) hx hb hr rfl (fun t ht _ => ⟨0, rfl, (by first | exact Or.inr ⟨rfl, fun h => h.1 c_4⟩ | exact Or.inr ⟨rfl, fun h => hn_out hN c_15 h.2.1⟩ | exact Or.inr ⟨rfl, fun h => h.2.2 (rch0 c_26)⟩ | exact Or.inl ⟨rfl, c_4, hxN, rch1 c_26⟩), ht⟩) (fun _ h => by cases h) dX2_inCut_34
    · have hxN := hn_in hN c_15
      refine lv_aload_n hx hb dX2_inCut_18 rfl (lv_at hl 0 rfl) ?_
      refine va_get (D := (dC, dI)) (ci := 2) (v := .ref (q 7)) (C := RX2) (T := TX2) (N := 11) hx hb hts fa_inCut_0 hown hK hP 0 rfl rfl 1 (by decide) (hts _ fa_inCut_3) (fun _ h9 => h9) rfl dX2_inCut_19 ?_
      refine lv_iload_n hx hb dX2_inCut_22 rfl (lv_at hl 1 rfl) ?_
      have hPc := hP.sub (ws' := [(q 7, .inr (0, [.ref (q 8), .ref (q 9), .ref (q 1)])), (q 8, .inl (cI, N, .inl le)), (q 9, .inl (cI, N, .inl fe))]) [7, 8, 9] rfl
      refine vp_callSi (W.runV (As := [.int x]) (rest := []) ⟨hx, hb, hml, hown, hts⟩ (k_reaches l dC dI cI cJ cZ (q 7) (q 8) (q 9) q N le fe x (by assumption)) (cwV 1 hts gX2_inCut_X0_reaches rfl rfl rfl (by decide +kernel) ⟨Nat.le_of_ble_eq_true rfl, Nat.le_of_ble_eq_true rfl⟩) ⟨fun a U g mk q => by obtain ⟨q0, qP, qK⟩ := q; exact ⟨q0, qP, va_K.moved (u := U) (U := U.calling g mk a) (Vm.Alike.refl U.vm) qK⟩, va_recv hK hP (ci := 0) (q0 := 7) rfl rfl, fun U hU hW => ⟨rfl, by rw [hU]; exact hPc, va_K.moved hW.alike hK⟩⟩ rfl rfl hl.1 rfl (lv_room (Nat.le_of_ble_eq_true rfl)) dX2_inCut_23 ⟨Nat.le_of_ble_eq_true rfl, Nat.le_of_ble_eq_true rfl⟩) (fun r_23 hw_23 => ?_)
      subst hw_23
      refine lv_if_eq (tgt := 33) hx hb dX2_inCut_26 (by decide) (fun c_26 => ?_) (fun c_26 => ?_)
      · refine lv_iconst (v := 0) hx hb dX2_inCut_33 (by decide) ?_
        exact W.zret (v := 0) hx hb hr rfl (fun t ht _ => ⟨0, rfl, (by first | exact Or.inr ⟨rfl, fun h => h.1 c_4⟩ | exact Or.inr ⟨rfl, fun h => hn_out hN c_15 h.2.1⟩ | exact Or.inr ⟨rfl, fun h => h.2.2 (rch0 c_26)⟩ | exact Or.inl ⟨rfl, c_4, hxN, rch1 c_26⟩), ht⟩) (fun _ h => by cases h) dX2_inCut_34
      · refine lv_iconst (v := 1) hx hb dX2_inCut_29 (by decide) ?_
        refine lv_goto (tgt := 34) hx hb dX2_inCut_30 (by decide) ?_
        exact W.zret (v := 1) hx hb hr rfl (fun t ht _ => ⟨1, rfl, (by first | exact Or.inr ⟨rfl, fun h => h.1 c_4⟩ | exact Or.inr ⟨rfl, fun h => hn_out hN c_15 h.2.1⟩ | exact Or.inr ⟨rfl, fun h => h.2.2 (rch0 c_26)⟩ | exact Or.inl ⟨rfl, c_4, hxN, rch1 c_26⟩), ht⟩) (fun _ h => by cases h) dX2_inCut_34

theorem fa_count_0 : ∀ w ∈ wsX20, w ∈ wsX2_count := by decide +kernel
theorem fa_count_1 : Cond.fieldLink RX2 27 "FlowProofs" "net" "LFlowProofs$Net;" ∈ wsX2_count := by decide +kernel
theorem fa_count_2 : ∀ w ∈ wsX10, w ∈ wsX2_count := by decide +kernel
theorem fa_count_3 : Cond.fieldLink RX2 119 "FlowProofs$Net" "nodes" "I" ∈ wsX2_count := by decide +kernel
theorem fa_count_4 : Cond.fieldLink RX2 122 "FlowProofs$Net" "edges" "I" ∈ wsX2_count := by decide +kernel
theorem fa_count_5 : Cond.fieldLink RX2 125 "FlowProofs" "roundsDone" "I" ∈ wsX2_count := by decide +kernel
theorem fa_count_6 : Cond.fieldLink RX2 89 "FlowProofs" "flowing" "I" ∈ wsX2_count := by decide +kernel
set_option maxHeartbeats 4000000 in
set_option maxRecDepth 100000 in
theorem k_count (l : Launch) (dC : Nat → ClassId) (dI : Nat → Nat → Nat) (cI cJ cZ : ClassId) (q : Nat → Nat) (N M E : Nat) (fr to cap uc fl le fe lt ft wy : Nat → Int32) (wl src snk cir sol rd fw : Int32) (x : Int32)  : Met l yX2_count wsX2_count ({ frames := 0, cells := 0, slots := 0, locals := 0 }) (va_Pc [.ref (q 0), .int x] (fun U => va_P (dC, dI) vwCl [(q 0, .inr (2, [.ref (q 1), .ref (q 7), .ref (q 10), .ref (q 13), .int wl, .int src, .int snk, .int cir, .int sol, .int rd, .int fw])), (q 1, .inr (1, [.int (nI N), .ref (q 2), .ref (q 3), .ref (q 4), .ref (q 5), .ref (q 6), .int (nI E)])), (q 2, .inl (cI, M, .inl fr)), (q 3, .inl (cI, M, .inl to)), (q 4, .inl (cI, M, .inl cap)), (q 5, .inl (cI, M, .inl uc)), (q 6, .inl (cI, M, .inl fl))] U.heap ∧ va_K (dC, dI) vwCl [(cI, .int), (cJ, .long), (cZ, .boolean)] U)) (vp_Si (fun r => r = (if x = 0 then nI N else if x = 1 then nI E else if x = 2 then rd else if x = 3 then fw else -1))) 0 0 (fun _ => False) := by
  refine Met.ofW (cc := cX2_count) (maxL := 2) (ret := (some .int)) (by decide) rfl ?_
  intro p e s m args below meth c s₁ B hml hv
  obtain ⟨rfl, hP, hK⟩ := hv
  have hx := B.exec
  have hb := B.bytes
  have hr := B.returns
  have hts := atoms_spec (ws := wsX2_count) B.pre
  have hown : s.vm.findClass RX2 = some m.cls := findClass_of_methodNamed B.named
  have hlocks := B.notSynchronized
  have hP : va_P (dC, dI) vwCl [(q 0, .inr (2, [.ref (q 1), .ref (q 7), .ref (q 10), .ref (q 13), .int wl, .int src, .int snk, .int cir, .int sol, .int rd, .int fw])), (q 1, .inr (1, [.int (nI N), .ref (q 2), .ref (q 3), .ref (q 4), .ref (q 5), .ref (q 6), .int (nI E)])), (q 2, .inl (cI, M, .inl fr)), (q 3, .inl (cI, M, .inl to)), (q 4, .inl (cI, M, .inl cap)), (q 5, .inl (cI, M, .inl uc)), (q 6, .inl (cI, M, .inl fl))] s.heap := hP
  have hl := lv_entry ([.ref (q 0), .int x]) (n := 2) (Nat.le_of_ble_eq_true rfl)
  rw [lg_entry_eq]
  generalize (lg_sl ([.ref (q 0), .int x]) ++ List.replicate (2 - (lg_sl ([.ref (q 0), .int x])).length) Slot.unset).toArray = ls at hl ⊢
  have hl : lv_has ls 2 [(0, .ref (q 0)), (1, .int x)] := hl
  refine lv_iload_n hx hb dX2_count_0 rfl (lv_at hl 1 rfl) ?_
  by_cases t0 : x = 0
  · have tt : x.toInt = 0 := by rw [t0]; rfl
    refine lv_tableIn (off := 31) (tgt := 32) hx hb dX2_count_1 (by rw [tt]; decide) (by rw [tt]; decide) (by rw [tt]; rfl) (by decide) ?_
    refine lv_aload_n hx hb dX2_count_32 rfl (lv_at hl 0 rfl) ?_
    refine va_get (D := (dC, dI)) (ci := 2) (v := .ref (q 1)) (C := RX2) (T := TX2) (N := 11) hx hb hts fa_count_0 hown hK hP 0 rfl rfl 0 (by decide) (hts _ fa_count_1) (fun _ h9 => h9) rfl dX2_count_33 ?_
    refine va_get (D := (dC, dI)) (ci := 1) (v := .int (nI N)) (C := RX1) (T := TX1) (N := 7) hx hb hts fa_count_2 hown hK hP 1 rfl rfl 0 (by decide) (hts _ fa_count_3) (fun _ h9 => h9) rfl dX2_count_36 ?_
    exact W.iret (v := (nI N)) hx hb hr (fun t ht _ => ⟨(nI N), rfl, (by first | rw [if_pos t0] | rw [if_neg t0, if_pos t1] | rw [if_neg t0, if_neg t1, if_pos t2] | rw [if_neg t0, if_neg t1, if_neg t2, if_pos t3] | rw [if_neg t0, if_neg t1, if_neg t2, if_neg t3]), ht⟩) (fun _ h => by cases h) dX2_count_39
  by_cases t1 : x = 1
  · have tt : x.toInt = 1 := by rw [t1]; rfl
    refine lv_tableIn (off := 39) (tgt := 40) hx hb dX2_count_1 (by rw [tt]; decide) (by rw [tt]; decide) (by rw [tt]; rfl) (by decide) ?_
    refine lv_aload_n hx hb dX2_count_40 rfl (lv_at hl 0 rfl) ?_
    refine va_get (D := (dC, dI)) (ci := 2) (v := .ref (q 1)) (C := RX2) (T := TX2) (N := 11) hx hb hts fa_count_0 hown hK hP 0 rfl rfl 0 (by decide) (hts _ fa_count_1) (fun _ h9 => h9) rfl dX2_count_41 ?_
    refine va_get (D := (dC, dI)) (ci := 1) (v := .int (nI E)) (C := RX1) (T := TX1) (N := 7) hx hb hts fa_count_2 hown hK hP 1 rfl rfl 6 (by decide) (hts _ fa_count_4) (fun _ h9 => h9) rfl dX2_count_44 ?_
    exact W.iret (v := (nI E)) hx hb hr (fun t ht _ => ⟨(nI E), rfl, (by first | rw [if_pos t0] | rw [if_neg t0, if_pos t1] | rw [if_neg t0, if_neg t1, if_pos t2] | rw [if_neg t0, if_neg t1, if_neg t2, if_pos t3] | rw [if_neg t0, if_neg t1, if_neg t2, if_neg t3]), ht⟩) (fun _ h => by cases h) dX2_count_47
  by_cases t2 : x = 2
  · have tt : x.toInt = 2 := by rw [t2]; rfl
    refine lv_tableIn (off := 47) (tgt := 48) hx hb dX2_count_1 (by rw [tt]; decide) (by rw [tt]; decide) (by rw [tt]; rfl) (by decide) ?_
    refine lv_aload_n hx hb dX2_count_48 rfl (lv_at hl 0 rfl) ?_
    refine va_get (D := (dC, dI)) (ci := 2) (v := .int rd) (C := RX2) (T := TX2) (N := 11) hx hb hts fa_count_0 hown hK hP 0 rfl rfl 9 (by decide) (hts _ fa_count_5) (fun _ h9 => h9) rfl dX2_count_49 ?_
    exact W.iret (v := rd) hx hb hr (fun t ht _ => ⟨rd, rfl, (by first | rw [if_pos t0] | rw [if_neg t0, if_pos t1] | rw [if_neg t0, if_neg t1, if_pos t2] | rw [if_neg t0, if_neg t1, if_neg t2, if_pos t3] | rw [if_neg t0, if_neg t1, if_neg t2, if_neg t3]), ht⟩) (fun _ h => by cases h) dX2_count_52
  by_cases t3 : x = 3
  · have tt : x.toInt = 3 := by rw [t3]; rfl
    refine lv_tableIn (off := 52) (tgt := 53) hx hb dX2_count_1 (by rw [tt]; decide) (by rw [tt]; decide) (by rw [tt]; rfl) (by decide) ?_
    refine lv_aload_n hx hb dX2_count_53 rfl (lv_at hl 0 rfl) ?_
    refine va_get (D := (dC, dI)) (ci := 2) (v := .int fw) (C := RX2) (T := TX2) (N := 11) hx hb hts fa_count_0 hown hK hP 0 rfl rfl 10 (by decide) (hts _ fa_count_6) (fun _ h9 => h9) rfl dX2_count_54 ?_
    exact W.iret (v := fw) hx hb hr (fun t ht _ => ⟨fw, rfl, (by first | rw [if_pos t0] | rw [if_neg t0, if_pos t1] | rw [if_neg t0, if_neg t1, if_pos t2] | rw [if_neg t0, if_neg t1, if_neg t2, if_pos t3] | rw [if_neg t0, if_neg t1, if_neg t2, if_neg t3]), ht⟩) (fun _ h => by cases h) dX2_count_57
  refine lv_tableOut (tgt := 58) hx hb dX2_count_1 (sw4 t0 t1 t2 t3) (by decide) ?_
  refine lv_iconst (v := (-1)) hx hb dX2_count_58 (by decide) ?_
  exact W.iret (v := (-1)) hx hb hr (fun t ht _ => ⟨(-1), rfl, (by first | rw [if_pos t0] | rw [if_neg t0, if_pos t1] | rw [if_neg t0, if_neg t1, if_pos t2] | rw [if_neg t0, if_neg t1, if_neg t2, if_pos t3] | rw [if_neg t0, if_neg t1, if_neg t2, if_neg t3]), ht⟩) (fun _ h => by cases h) dX2_count_59

theorem fa_flowsFit_0 : ∀ w ∈ wsX20, w ∈ wsX2_flowsFit := by decide +kernel
theorem fa_flowsFit_1 : Cond.fieldLink RX2 27 "FlowProofs" "net" "LFlowProofs$Net;" ∈ wsX2_flowsFit := by decide +kernel
theorem fa_flowsFit_2 : ∀ w ∈ wsX10, w ∈ wsX2_flowsFit := by decide +kernel
theorem fa_flowsFit_3 : Cond.fieldLink RX2 122 "FlowProofs$Net" "edges" "I" ∈ wsX2_flowsFit := by decide +kernel
theorem fa_flowsFit_4 : Cond.fieldLink RX2 98 "FlowProofs$Net" "flow" "[I" ∈ wsX2_flowsFit := by decide +kernel
theorem fa_flowsFit_5 : Cond.fieldLink RX2 166 "FlowProofs$Net" "capacity" "[I" ∈ wsX2_flowsFit := by decide +kernel
set_option maxHeartbeats 4000000 in
set_option maxRecDepth 100000 in
theorem k_flowsFit (l : Launch) (dC : Nat → ClassId) (dI : Nat → Nat → Nat) (cI cJ cZ : ClassId) (q : Nat → Nat) (N M E : Nat) (fr to cap uc fl le fe lt ft wy : Nat → Int32) (wl src snk cir sol rd fw : Int32) (hE : E ≤ M) (hM : M < 1000) : Met l yX2_flowsFit wsX2_flowsFit ({ frames := 0, cells := 0, slots := 0, locals := 0 }) (va_Pc [.ref (q 0)] (fun U => va_P (dC, dI) vwCl [(q 0, .inr (2, [.ref (q 1), .ref (q 7), .ref (q 10), .ref (q 13), .int wl, .int src, .int snk, .int cir, .int sol, .int rd, .int fw])), (q 1, .inr (1, [.int (nI N), .ref (q 2), .ref (q 3), .ref (q 4), .ref (q 5), .ref (q 6), .int (nI E)])), (q 2, .inl (cI, M, .inl fr)), (q 3, .inl (cI, M, .inl to)), (q 4, .inl (cI, M, .inl cap)), (q 5, .inl (cI, M, .inl uc)), (q 6, .inl (cI, M, .inl fl))] U.heap ∧ va_K (dC, dI) vwCl [(cI, .int), (cJ, .long), (cZ, .boolean)] U)) (vp_Si (fun r => fq_b (fq_fit cap fl E) r)) 0 0 (fun _ => False) := by
  refine Met.ofW (cc := cX2_flowsFit) (maxL := 2) (ret := (some .boolean)) (by decide) rfl ?_
  intro p e s m args below meth c s₁ B hml hv
  obtain ⟨rfl, hP, hK⟩ := hv
  have hx := B.exec
  have hb := B.bytes
  have hr := B.returns
  have hts := atoms_spec (ws := wsX2_flowsFit) B.pre
  have hown : s.vm.findClass RX2 = some m.cls := findClass_of_methodNamed B.named
  have hlocks := B.notSynchronized
  have hP : va_P (dC, dI) vwCl [(q 0, .inr (2, [.ref (q 1), .ref (q 7), .ref (q 10), .ref (q 13), .int wl, .int src, .int snk, .int cir, .int sol, .int rd, .int fw])), (q 1, .inr (1, [.int (nI N), .ref (q 2), .ref (q 3), .ref (q 4), .ref (q 5), .ref (q 6), .int (nI E)])), (q 2, .inl (cI, M, .inl fr)), (q 3, .inl (cI, M, .inl to)), (q 4, .inl (cI, M, .inl cap)), (q 5, .inl (cI, M, .inl uc)), (q 6, .inl (cI, M, .inl fl))] s.heap := hP
  have hl := lv_entry ([.ref (q 0)]) (n := 2) (Nat.le_of_ble_eq_true rfl)
  rw [lg_entry_eq]
  generalize (lg_sl ([.ref (q 0)]) ++ List.replicate (2 - (lg_sl ([.ref (q 0)])).length) Slot.unset).toArray = ls at hl ⊢
  have hl : lv_has ls 2 [(0, .ref (q 0))] := hl
  refine lv_iconst (v := 0) hx hb dX2_flowsFit_0 (by decide) ?_
  refine tp_i (y := nI 0) nI_0.symm ?_
  refine lv_istore_n (lv' := [(1, .int (nI 0)), (0, .ref (q 0))]) hx hb dX2_flowsFit_1 rfl hl (by decide) rfl (fun ls hl => ?_)
  have lo_a : ∀ (nf : Nat) (i : Nat) (hi : i ≤ E) (hall : ∀ e, e < i → ¬ fl e < 0 ∧ fl e ≤ cap e) (hfu : E - i < nf) (ls : Array Slot) (hl : lv_has ls 2 [(0, .ref (q 0)), (1, .int (nI i))]), W p l e (headSpec wsX2_flowsFit ({ frames := 0, cells := 0, slots := 0, locals := 0 })).room s m ([.ref (q 0)] : List Value).toArray below meth c s.heap [] 0 0 (MQ below (vp_Si (fun r => fq_b (fq_fit cap fl E) r)) ([.ref (q 0)] : List Value).toArray s 0 0 (fun _ => False)) (F0 m 2 ls [])
    := by
    intro nf
    induction nf with
    | zero => intro i hi hall hfu ls hl; exact absurd hfu (Nat.not_lt_zero _)
    | succ nf ih_a =>
      intro i hi hall hfu ls hl
      refine lv_iload_n hx hb dX2_flowsFit_2 rfl (lv_at hl 1 rfl) ?_
      refine lv_aload_n hx hb dX2_flowsFit_3 rfl (lv_at hl 0 rfl) ?_
      refine va_get (D := (dC, dI)) (ci := 2) (v := .ref (q 1)) (C := RX2) (T := TX2) (N := 11) hx hb hts fa_flowsFit_0 hown hK hP 0 rfl rfl 0 (by decide) (hts _ fa_flowsFit_1) (fun _ h9 => h9) rfl dX2_flowsFit_4 ?_
      refine va_get (D := (dC, dI)) (ci := 1) (v := .int (nI E)) (C := RX1) (T := TX1) (N := 7) hx hb hts fa_flowsFit_2 hown hK hP 1 rfl rfl 6 (by decide) (hts _ fa_flowsFit_3) (fun _ h9 => h9) rfl dX2_flowsFit_7 ?_
      refine lv_icmp_ge (tgt := 54) hx hb dX2_flowsFit_10 (by decide) (fun c_10 => ?_) (fun c_10 => ?_)
      · have hge := ix_ge (by omega) (by omega) c_10
        refine lv_iconst (v := 1) hx hb dX2_flowsFit_54 (by decide) ?_
        exact W.zret (v := 1) hx hb hr rfl (fun t ht _ => ⟨1, rfl, (Or.inl ⟨rfl, fun e he => hall e (by omega)⟩), ht⟩) (fun _ h => by cases h) dX2_flowsFit_55
      · have hlt := ix_lt (by omega) (by omega) c_10
        refine lv_aload_n hx hb dX2_flowsFit_13 rfl (lv_at hl 0 rfl) ?_
        refine va_get (D := (dC, dI)) (ci := 2) (v := .ref (q 1)) (C := RX2) (T := TX2) (N := 11) hx hb hts fa_flowsFit_0 hown hK hP 0 rfl rfl 0 (by decide) (hts _ fa_flowsFit_1) (fun _ h9 => h9) rfl dX2_flowsFit_14 ?_
        refine va_get (D := (dC, dI)) (ci := 1) (v := .ref (q 6)) (C := RX1) (T := TX1) (N := 7) hx hb hts fa_flowsFit_2 hown hK hP 1 rfl rfl 5 (by decide) (hts _ fa_flowsFit_4) (fun _ h9 => h9) rfl dX2_flowsFit_17 ?_
        refine lv_iload_n hx hb dX2_flowsFit_20 rfl (lv_at hl 1 rfl) ?_
        refine va_iald (D := (dC, dI)) hx hb hK hP 6 0 rfl rfl (by first | assumption | exact vp_in_nI (by omega) (by omega)) dX2_flowsFit_21 ?_
        refine tp_i (y := fl i) (by rw [nI_clamp (n := i) (by omega)]) ?_
        refine lv_if_lt (tgt := 46) hx hb dX2_flowsFit_22 (by decide) (fun c_22 => ?_) (fun c_22 => ?_)
        · refine lv_iconst (v := 0) hx hb dX2_flowsFit_46 (by decide) ?_
          exact W.zret (v := 0) hx hb hr rfl (fun t ht _ => ⟨0, rfl, (Or.inr ⟨rfl, fun h => by first | exact (h i hlt).1 c_22 | exact c_43 (h i hlt).2⟩), ht⟩) (fun _ h => by cases h) dX2_flowsFit_47
        · refine lv_aload_n hx hb dX2_flowsFit_25 rfl (lv_at hl 0 rfl) ?_
          refine va_get (D := (dC, dI)) (ci := 2) (v := .ref (q 1)) (C := RX2) (T := TX2) (N := 11) hx hb hts fa_flowsFit_0 hown hK hP 0 rfl rfl 0 (by decide) (hts _ fa_flowsFit_1) (fun _ h9 => h9) rfl dX2_flowsFit_26 ?_
          refine va_get (D := (dC, dI)) (ci := 1) (v := .ref (q 6)) (C := RX1) (T := TX1) (N := 7) hx hb hts fa_flowsFit_2 hown hK hP 1 rfl rfl 5 (by decide) (hts _ fa_flowsFit_4) (fun _ h9 => h9) rfl dX2_flowsFit_29 ?_
          refine lv_iload_n hx hb dX2_flowsFit_32 rfl (lv_at hl 1 rfl) ?_
          refine va_iald (D := (dC, dI)) hx hb hK hP 6 0 rfl rfl (by first | assumption | exact vp_in_nI (by omega) (by omega)) dX2_flowsFit_33 ?_
          refine tp_i (y := fl i) (by rw [nI_clamp (n := i) (by omega)]) ?_
          refine lv_aload_n hx hb dX2_flowsFit_34 rfl (lv_at hl 0 rfl) ?_
          refine va_get (D := (dC, dI)) (ci := 2) (v := .ref (q 1)) (C := RX2) (T := TX2) (N := 11) hx hb hts fa_flowsFit_0 hown hK hP 0 rfl rfl 0 (by decide) (hts _ fa_flowsFit_1) (fun _ h9 => h9) rfl dX2_flowsFit_35 ?_
          refine va_get (D := (dC, dI)) (ci := 1) (v := .ref (q 4)) (C := RX1) (T := TX1) (N := 7) hx hb hts fa_flowsFit_2 hown hK hP 1 rfl rfl 3 (by decide) (hts _ fa_flowsFit_5) (fun _ h9 => h9) rfl dX2_flowsFit_38 ?_
          refine lv_iload_n hx hb dX2_flowsFit_41 rfl (lv_at hl 1 rfl) ?_
          refine va_iald (D := (dC, dI)) hx hb hK hP 4 0 rfl rfl (by first | assumption | exact vp_in_nI (by omega) (by omega)) dX2_flowsFit_42 ?_
          refine tp_i (y := cap i) (by rw [nI_clamp (n := i) (by omega)]) ?_
          refine lv_icmp_le (tgt := 48) hx hb dX2_flowsFit_43 (by decide) (fun c_43 => ?_) (fun c_43 => ?_)
          · refine lv_iinc (v := nI (i + 1)) (lv' := [(1, .int (nI (i + 1))), (0, .ref (q 0))]) hx hb dX2_flowsFit_48 hl (k := 1) rfl (by first | exact nI_1 _ | exact nI_add _ _) (by decide) rfl (fun ls hl => ?_)
            refine lv_goto (tgt := 2) hx hb dX2_flowsFit_51 (by decide) ?_
            exact ih_a (i + 1) (by first | assumption | omega | rfl) (lt_s hall ⟨c_22, c_43⟩) (by omega) _ (lv_sub hl [1, 0] rfl)
          · refine lv_iconst (v := 0) hx hb dX2_flowsFit_46 (by decide) ?_
            exact W.zret (v := 0) hx hb hr rfl (fun t ht _ => ⟨0, rfl, (Or.inr ⟨rfl, fun h => by first | exact (h i hlt).1 c_22 | exact c_43 (h i hlt).2⟩), ht⟩) (fun _ h => by cases h) dX2_flowsFit_47
  exact lo_a (E - 0 + 1) 0 (by first | assumption | omega | rfl) (fun e he => absurd he (Nat.not_lt_zero _)) (by omega) _ (lv_sub hl [1, 0] rfl)

theorem fa_nodesPassOn_0 : ∀ w ∈ wsX20, w ∈ wsX2_nodesPassOn := by decide +kernel
theorem fa_nodesPassOn_1 : Cond.fieldLink RX2 27 "FlowProofs" "net" "LFlowProofs$Net;" ∈ wsX2_nodesPassOn := by decide +kernel
theorem fa_nodesPassOn_2 : ∀ w ∈ wsX10, w ∈ wsX2_nodesPassOn := by decide +kernel
theorem fa_nodesPassOn_3 : Cond.fieldLink RX2 119 "FlowProofs$Net" "nodes" "I" ∈ wsX2_nodesPassOn := by decide +kernel
theorem fa_nodesPassOn_4 : Cond.fieldLink RX2 11 "FlowProofs" "source" "I" ∈ wsX2_nodesPassOn := by decide +kernel
theorem fa_nodesPassOn_5 : Cond.fieldLink RX2 15 "FlowProofs" "sink" "I" ∈ wsX2_nodesPassOn := by decide +kernel
set_option maxHeartbeats 4000000 in
set_option maxRecDepth 100000 in
theorem k_nodesPassOn (l : Launch) (dC : Nat → ClassId) (dI : Nat → Nat → Nat) (cI cJ cZ : ClassId) (q : Nat → Nat) (N M E : Nat) (fr to cap uc fl le fe lt ft wy : Nat → Int32) (wl src snk cir sol rd fw : Int32) (hE : E ≤ M) (hM : M < 1000) (hN : N < 1000) : Met l yX2_nodesPassOn wsX2_nodesPassOn ({ frames := 1, cells := 0, slots := 0, locals := 24 }) (va_Pc [.ref (q 0)] (fun U => va_P (dC, dI) vwCl [(q 0, .inr (2, [.ref (q 1), .ref (q 7), .ref (q 10), .ref (q 13), .int wl, .int src, .int snk, .int cir, .int sol, .int rd, .int fw])), (q 1, .inr (1, [.int (nI N), .ref (q 2), .ref (q 3), .ref (q 4), .ref (q 5), .ref (q 6), .int (nI E)])), (q 2, .inl (cI, M, .inl fr)), (q 3, .inl (cI, M, .inl to)), (q 4, .inl (cI, M, .inl cap)), (q 5, .inl (cI, M, .inl uc)), (q 6, .inl (cI, M, .inl fl))] U.heap ∧ va_K (dC, dI) vwCl [(cI, .int), (cJ, .long), (cZ, .boolean)] U)) (vp_Si (fun r => fq_b (fq_pas fr to fl N E src snk) r)) 0 0 (fun _ => False) := by
  refine Met.ofW (cc := cX2_nodesPassOn) (maxL := 2) (ret := (some .boolean)) (by decide) rfl ?_
  intro p e s m args below meth c s₁ B hml hv
  obtain ⟨rfl, hP, hK⟩ := hv
  have hx := B.exec
  have hb := B.bytes
  have hr := B.returns
  have hts := atoms_spec (ws := wsX2_nodesPassOn) B.pre
  have hown : s.vm.findClass RX2 = some m.cls := findClass_of_methodNamed B.named
  have hlocks := B.notSynchronized
  have hP : va_P (dC, dI) vwCl [(q 0, .inr (2, [.ref (q 1), .ref (q 7), .ref (q 10), .ref (q 13), .int wl, .int src, .int snk, .int cir, .int sol, .int rd, .int fw])), (q 1, .inr (1, [.int (nI N), .ref (q 2), .ref (q 3), .ref (q 4), .ref (q 5), .ref (q 6), .int (nI E)])), (q 2, .inl (cI, M, .inl fr)), (q 3, .inl (cI, M, .inl to)), (q 4, .inl (cI, M, .inl cap)), (q 5, .inl (cI, M, .inl uc)), (q 6, .inl (cI, M, .inl fl))] s.heap := hP
  have hl := lv_entry ([.ref (q 0)]) (n := 2) (Nat.le_of_ble_eq_true rfl)
  rw [lg_entry_eq]
  generalize (lg_sl ([.ref (q 0)]) ++ List.replicate (2 - (lg_sl ([.ref (q 0)])).length) Slot.unset).toArray = ls at hl ⊢
  have hl : lv_has ls 2 [(0, .ref (q 0))] := hl
  refine lv_iconst (v := 0) hx hb dX2_nodesPassOn_0 (by decide) ?_
  refine tp_i (y := nI 0) nI_0.symm ?_
  refine lv_istore_n (lv' := [(1, .int (nI 0)), (0, .ref (q 0))]) hx hb dX2_nodesPassOn_1 rfl hl (by decide) rfl (fun ls hl => ?_)
  have lo_a : ∀ (nf : Nat) (i : Nat) (hi : i ≤ N) (hall : ∀ v, v < i → nI v = src ∨ nI v = snk ∨ fp_sur fr to fl (nI v) E = 0) (hfu : N - i < nf) (ls : Array Slot) (hl : lv_has ls 2 [(0, .ref (q 0)), (1, .int (nI i))]), W p l e (headSpec wsX2_nodesPassOn ({ frames := 1, cells := 0, slots := 0, locals := 24 })).room s m ([.ref (q 0)] : List Value).toArray below meth c s.heap [] 0 0 (MQ below (vp_Si (fun r => fq_b (fq_pas fr to fl N E src snk) r)) ([.ref (q 0)] : List Value).toArray s 0 0 (fun _ => False)) (F0 m 2 ls [])
    := by
    intro nf
    induction nf with
    | zero => intro i hi hall hfu ls hl; exact absurd hfu (Nat.not_lt_zero _)
    | succ nf ih_a =>
      intro i hi hall hfu ls hl
      refine lv_iload_n hx hb dX2_nodesPassOn_2 rfl (lv_at hl 1 rfl) ?_
      refine lv_aload_n hx hb dX2_nodesPassOn_3 rfl (lv_at hl 0 rfl) ?_
      refine va_get (D := (dC, dI)) (ci := 2) (v := .ref (q 1)) (C := RX2) (T := TX2) (N := 11) hx hb hts fa_nodesPassOn_0 hown hK hP 0 rfl rfl 0 (by decide) (hts _ fa_nodesPassOn_1) (fun _ h9 => h9) rfl dX2_nodesPassOn_4 ?_
      refine va_get (D := (dC, dI)) (ci := 1) (v := .int (nI N)) (C := RX1) (T := TX1) (N := 7) hx hb hts fa_nodesPassOn_2 hown hK hP 1 rfl rfl 0 (by decide) (hts _ fa_nodesPassOn_3) (fun _ h9 => h9) rfl dX2_nodesPassOn_7 ?_
      refine lv_icmp_ge (tgt := 50) hx hb dX2_nodesPassOn_10 (by decide) (fun c_10 => ?_) (fun c_10 => ?_)
      · have hge := ix_ge (by omega) (by omega) c_10
        refine lv_iconst (v := 1) hx hb dX2_nodesPassOn_50 (by decide) ?_
        exact W.zret (v := 1) hx hb hr rfl (fun t ht _ => ⟨1, rfl, (Or.inl ⟨rfl, fun e he => hall e (by omega)⟩), ht⟩) (fun _ h => by cases h) dX2_nodesPassOn_51
      · have hlt := ix_lt (by omega) (by omega) c_10
        refine lv_iload_n hx hb dX2_nodesPassOn_13 rfl (lv_at hl 1 rfl) ?_
        refine lv_aload_n hx hb dX2_nodesPassOn_14 rfl (lv_at hl 0 rfl) ?_
        refine va_get (D := (dC, dI)) (ci := 2) (v := .int src) (C := RX2) (T := TX2) (N := 11) hx hb hts fa_nodesPassOn_0 hown hK hP 0 rfl rfl 5 (by decide) (hts _ fa_nodesPassOn_4) (fun _ h9 => h9) rfl dX2_nodesPassOn_15 ?_
        refine lv_icmp_eq (tgt := 44) hx hb dX2_nodesPassOn_18 (by decide) (fun c_18 => ?_) (fun c_18 => ?_)
        · refine lv_iinc (v := nI (i + 1)) (lv' := [(1, .int (nI (i + 1))), (0, .ref (q 0))]) hx hb dX2_nodesPassOn_44 hl (k := 1) rfl (by first | exact nI_1 _ | exact nI_add _ _) (by decide) rfl (fun ls hl => ?_)
          refine lv_goto (tgt := 2) hx hb dX2_nodesPassOn_47 (by decide) ?_
          exact ih_a (i + 1) (by first | assumption | omega | rfl) (lt_s hall (by first | exact Or.inl c_18 | exact Or.inr (Or.inl c_26) | exact Or.inr (Or.inr ((lg_cmp_eq _ _).mp c_39)))) (by omega) _ (lv_sub hl [1, 0] rfl)
        · refine lv_iload_n hx hb dX2_nodesPassOn_21 rfl (lv_at hl 1 rfl) ?_
          refine lv_aload_n hx hb dX2_nodesPassOn_22 rfl (lv_at hl 0 rfl) ?_
          refine va_get (D := (dC, dI)) (ci := 2) (v := .int snk) (C := RX2) (T := TX2) (N := 11) hx hb hts fa_nodesPassOn_0 hown hK hP 0 rfl rfl 6 (by decide) (hts _ fa_nodesPassOn_5) (fun _ h9 => h9) rfl dX2_nodesPassOn_23 ?_
          refine lv_icmp_eq (tgt := 44) hx hb dX2_nodesPassOn_26 (by decide) (fun c_26 => ?_) (fun c_26 => ?_)
          · refine lv_iinc (v := nI (i + 1)) (lv' := [(1, .int (nI (i + 1))), (0, .ref (q 0))]) hx hb dX2_nodesPassOn_44 hl (k := 1) rfl (by first | exact nI_1 _ | exact nI_add _ _) (by decide) rfl (fun ls hl => ?_)
            refine lv_goto (tgt := 2) hx hb dX2_nodesPassOn_47 (by decide) ?_
            exact ih_a (i + 1) (by first | assumption | omega | rfl) (lt_s hall (by first | exact Or.inl c_18 | exact Or.inr (Or.inl c_26) | exact Or.inr (Or.inr ((lg_cmp_eq _ _).mp c_39)))) (by omega) _ (lv_sub hl [1, 0] rfl)
          · refine lv_aload_n hx hb dX2_nodesPassOn_29 rfl (lv_at hl 0 rfl) ?_
            refine va_get (D := (dC, dI)) (ci := 2) (v := .ref (q 1)) (C := RX2) (T := TX2) (N := 11) hx hb hts fa_nodesPassOn_0 hown hK hP 0 rfl rfl 0 (by decide) (hts _ fa_nodesPassOn_1) (fun _ h9 => h9) rfl dX2_nodesPassOn_30 ?_
            refine lv_iload_n hx hb dX2_nodesPassOn_33 rfl (lv_at hl 1 rfl) ?_
            have hPc := hP.sub (ws' := [(q 1, .inr (1, [.int (nI N), .ref (q 2), .ref (q 3), .ref (q 4), .ref (q 5), .ref (q 6), .int (nI E)])), (q 2, .inl (cI, M, .inl fr)), (q 3, .inl (cI, M, .inl to)), (q 4, .inl (cI, M, .inl cap)), (q 5, .inl (cI, M, .inl uc)), (q 6, .inl (cI, M, .inl fl))]) [1, 2, 3, 4, 5, 6] rfl
            refine vp_callSl (W.runV (As := [.int (nI i)]) (rest := []) ⟨hx, hb, hml, hown, hts⟩ (k_surplus l dC dI cI cJ cZ q N M E fr to cap uc fl (nI i) hE hM) (cwV 1 hts gX2_nodesPassOn_X1_surplus rfl rfl rfl (by decide +kernel) ⟨Nat.le_of_ble_eq_true rfl, Nat.le_of_ble_eq_true rfl⟩) ⟨fun a U g mk q => by obtain ⟨q0, qP, qK⟩ := q; exact ⟨q0, qP, va_K.moved (u := U) (U := U.calling g mk a) (Vm.Alike.refl U.vm) qK⟩, va_recv hK hP (ci := 1) (q0 := 1) rfl rfl, fun U hU hW => ⟨rfl, by rw [hU]; exact hPc, va_K.moved hW.alike hK⟩⟩ rfl rfl hl.1 rfl (lv_room (Nat.le_of_ble_eq_true rfl)) dX2_nodesPassOn_34 ⟨Nat.le_of_ble_eq_true rfl, Nat.le_of_ble_eq_true rfl⟩) (fun r_34 hw_34 => ?_)
            subst hw_34
            refine lv_lconst (v := 0) hx hb dX2_nodesPassOn_37 (by decide) ?_
            refine W.lcmp hx hb dX2_nodesPassOn_38 ?_
            refine lv_if_eq (tgt := 44) hx hb dX2_nodesPassOn_39 (by decide) (fun c_39 => ?_) (fun c_39 => ?_)
            · refine lv_iinc (v := nI (i + 1)) (lv' := [(1, .int (nI (i + 1))), (0, .ref (q 0))]) hx hb dX2_nodesPassOn_44 hl (k := 1) rfl (by first | exact nI_1 _ | exact nI_add _ _) (by decide) rfl (fun ls hl => ?_)
              refine lv_goto (tgt := 2) hx hb dX2_nodesPassOn_47 (by decide) ?_
              exact ih_a (i + 1) (by first | assumption | omega | rfl) (lt_s hall (by first | exact Or.inl c_18 | exact Or.inr (Or.inl c_26) | exact Or.inr (Or.inr ((lg_cmp_eq _ _).mp c_39)))) (by omega) _ (lv_sub hl [1, 0] rfl)
            · refine lv_iconst (v := 0) hx hb dX2_nodesPassOn_42 (by decide) ?_
              exact W.zret (v := 0) hx hb hr rfl (fun t ht _ => ⟨0, rfl, (Or.inr ⟨rfl, fun h => by rcases h i hlt with h | h | h; exact c_18 h; exact c_26 h; exact c_39 ((lg_cmp_eq _ _).mpr h)⟩), ht⟩) (fun _ h => by cases h) dX2_nodesPassOn_43
  exact lo_a (N - 0 + 1) 0 (by first | assumption | omega | rfl) (fun e he => absurd he (Nat.not_lt_zero _)) (by omega) _ (lv_sub hl [1, 0] rfl)

theorem fa_cutIsTight_0 : ∀ w ∈ wsX20, w ∈ wsX2_cutIsTight := by decide +kernel
theorem fa_cutIsTight_1 : Cond.fieldLink RX2 27 "FlowProofs" "net" "LFlowProofs$Net;" ∈ wsX2_cutIsTight := by decide +kernel
theorem fa_cutIsTight_2 : ∀ w ∈ wsX10, w ∈ wsX2_cutIsTight := by decide +kernel
theorem fa_cutIsTight_3 : Cond.fieldLink RX2 122 "FlowProofs$Net" "edges" "I" ∈ wsX2_cutIsTight := by decide +kernel
theorem fa_cutIsTight_4 : Cond.fieldLink RX2 89 "FlowProofs" "flowing" "I" ∈ wsX2_cutIsTight := by decide +kernel
theorem fa_cutIsTight_5 : Cond.fieldLink RX2 36 "FlowProofs" "fromSource" "LFlowProofs$Distances;" ∈ wsX2_cutIsTight := by decide +kernel
theorem fa_cutIsTight_6 : Cond.fieldLink RX2 173 "FlowProofs$Net" "from" "[I" ∈ wsX2_cutIsTight := by decide +kernel
theorem fa_cutIsTight_7 : Cond.fieldLink RX2 176 "FlowProofs$Net" "to" "[I" ∈ wsX2_cutIsTight := by decide +kernel
theorem fa_cutIsTight_8 : Cond.fieldLink RX2 98 "FlowProofs$Net" "flow" "[I" ∈ wsX2_cutIsTight := by decide +kernel
theorem fa_cutIsTight_9 : Cond.fieldLink RX2 166 "FlowProofs$Net" "capacity" "[I" ∈ wsX2_cutIsTight := by decide +kernel
set_option maxHeartbeats 4000000 in
set_option maxRecDepth 100000 in
theorem k_cutIsTight (l : Launch) (dC : Nat → ClassId) (dI : Nat → Nat → Nat) (cI cJ cZ : ClassId) (q : Nat → Nat) (N M E : Nat) (fr to cap uc fl le fe lt ft wy : Nat → Int32) (wl src snk cir sol rd fw : Int32) (hE : E ≤ M) (hM : M < 1000) (hN : N < 1000) (hfr : ∀ e, e < E → vp_in (fr e) N) (hto : ∀ e, e < E → vp_in (to e) N) : Met l yX2_cutIsTight wsX2_cutIsTight ({ frames := 1, cells := 0, slots := 0, locals := 21 }) (va_Pc [.ref (q 0)] (fun U => va_P (dC, dI) vwCl [(q 0, .inr (2, [.ref (q 1), .ref (q 7), .ref (q 10), .ref (q 13), .int wl, .int src, .int snk, .int cir, .int sol, .int rd, .int fw])), (q 1, .inr (1, [.int (nI N), .ref (q 2), .ref (q 3), .ref (q 4), .ref (q 5), .ref (q 6), .int (nI E)])), (q 2, .inl (cI, M, .inl fr)), (q 3, .inl (cI, M, .inl to)), (q 4, .inl (cI, M, .inl cap)), (q 5, .inl (cI, M, .inl uc)), (q 6, .inl (cI, M, .inl fl)), (q 7, .inr (0, [.ref (q 8), .ref (q 9), .ref (q 1)])), (q 8, .inl (cI, N, .inl le)), (q 9, .inl (cI, N, .inl fe))] U.heap ∧ va_K (dC, dI) vwCl [(cI, .int), (cJ, .long), (cZ, .boolean)] U)) (vp_Si (fun r => fq_b (fq_cut fr to cap fl le E fw) r)) 0 0 (fun _ => False) := by
  refine Met.ofW (cc := cX2_cutIsTight) (maxL := 6) (ret := (some .boolean)) (by decide) rfl ?_
  intro p e s m args below meth c s₁ B hml hv
  obtain ⟨rfl, hP, hK⟩ := hv
  have hx := B.exec
  have hb := B.bytes
  have hr := B.returns
  have hts := atoms_spec (ws := wsX2_cutIsTight) B.pre
  have hown : s.vm.findClass RX2 = some m.cls := findClass_of_methodNamed B.named
  have hlocks := B.notSynchronized
  have hP : va_P (dC, dI) vwCl [(q 0, .inr (2, [.ref (q 1), .ref (q 7), .ref (q 10), .ref (q 13), .int wl, .int src, .int snk, .int cir, .int sol, .int rd, .int fw])), (q 1, .inr (1, [.int (nI N), .ref (q 2), .ref (q 3), .ref (q 4), .ref (q 5), .ref (q 6), .int (nI E)])), (q 2, .inl (cI, M, .inl fr)), (q 3, .inl (cI, M, .inl to)), (q 4, .inl (cI, M, .inl cap)), (q 5, .inl (cI, M, .inl uc)), (q 6, .inl (cI, M, .inl fl)), (q 7, .inr (0, [.ref (q 8), .ref (q 9), .ref (q 1)])), (q 8, .inl (cI, N, .inl le)), (q 9, .inl (cI, N, .inl fe))] s.heap := hP
  have hl := lv_entry ([.ref (q 0)]) (n := 6) (Nat.le_of_ble_eq_true rfl)
  rw [lg_entry_eq]
  generalize (lg_sl ([.ref (q 0)]) ++ List.replicate (6 - (lg_sl ([.ref (q 0)])).length) Slot.unset).toArray = ls at hl ⊢
  have hl : lv_has ls 6 [(0, .ref (q 0))] := hl
  refine lv_lconst (v := 0) hx hb dX2_cutIsTight_0 (by decide) ?_
  refine lv_lstore_n (lv' := [(1, .long 0), (0, .ref (q 0))]) hx hb dX2_cutIsTight_1 rfl hl (by decide) rfl (fun ls hl => ?_)
  refine lv_iconst (v := 0) hx hb dX2_cutIsTight_2 (by decide) ?_
  refine tp_i (y := nI 0) nI_0.symm ?_
  refine lv_istore_n (lv' := [(3, .int (nI 0)), (1, .long 0), (0, .ref (q 0))]) hx hb dX2_cutIsTight_3 rfl hl (by decide) rfl (fun ls hl => ?_)
  have lo_a : ∀ (nf : Nat) (i : Nat) (sm : Int64) (hi : i ≤ E) (hall : ∀ e, e < i → fq_cue fr to cap fl le e) (hsm : sm = fq_cap fr to cap le i) (hfu : E - i < nf) (ls : Array Slot) (hl : lv_has ls 6 [(0, .ref (q 0)), (1, .long sm), (3, .int (nI i))]), W p l e (headSpec wsX2_cutIsTight ({ frames := 1, cells := 0, slots := 0, locals := 21 })).room s m ([.ref (q 0)] : List Value).toArray below meth c s.heap [] 0 0 (MQ below (vp_Si (fun r => fq_b (fq_cut fr to cap fl le E fw) r)) ([.ref (q 0)] : List Value).toArray s 0 0 (fun _ => False)) (F0 m 4 ls [])
    := by
    intro nf
    induction nf with
    | zero => intro i sm hi hall hsm hfu ls hl; exact absurd hfu (Nat.not_lt_zero _)
    | succ nf ih_a =>
      intro i sm hi hall hsm hfu ls hl
      refine lv_iload_n hx hb dX2_cutIsTight_4 rfl (lv_at hl 2 rfl) ?_
      refine lv_aload_n hx hb dX2_cutIsTight_5 rfl (lv_at hl 0 rfl) ?_
      refine va_get (D := (dC, dI)) (ci := 2) (v := .ref (q 1)) (C := RX2) (T := TX2) (N := 11) hx hb hts fa_cutIsTight_0 hown hK hP 0 rfl rfl 0 (by decide) (hts _ fa_cutIsTight_1) (fun _ h9 => h9) rfl dX2_cutIsTight_6 ?_
      refine va_get (D := (dC, dI)) (ci := 1) (v := .int (nI E)) (C := RX1) (T := TX1) (N := 7) hx hb hts fa_cutIsTight_2 hown hK hP 1 rfl rfl 6 (by decide) (hts _ fa_cutIsTight_3) (fun _ h9 => h9) rfl dX2_cutIsTight_9 ?_
      refine lv_icmp_ge (tgt := 127) hx hb dX2_cutIsTight_12 (by decide) (fun c_12 => ?_) (fun c_12 => ?_)
      · have hge := ix_ge (by omega) (by omega) c_12
        obtain rfl : E = i := by omega
        refine lv_lload_n hx hb dX2_cutIsTight_127 rfl (lv_at hl 1 rfl) ?_
        refine lv_aload_n hx hb dX2_cutIsTight_128 rfl (lv_at hl 0 rfl) ?_
        refine va_get (D := (dC, dI)) (ci := 2) (v := .int fw) (C := RX2) (T := TX2) (N := 11) hx hb hts fa_cutIsTight_0 hown hK hP 0 rfl rfl 10 (by decide) (hts _ fa_cutIsTight_4) (fun _ h9 => h9) rfl dX2_cutIsTight_129 ?_
        refine lv_i2l hx hb dX2_cutIsTight_132 rfl ?_
        refine W.lcmp hx hb dX2_cutIsTight_133 ?_
        refine lv_if_ne (tgt := 141) hx hb dX2_cutIsTight_134 (by decide) (fun c_134 => ?_) (fun c_134 => ?_)
        · refine lv_iconst (v := 0) hx hb dX2_cutIsTight_141 (by decide) ?_
          exact W.zret (v := 0) hx hb hr rfl (fun t ht _ => ⟨0, rfl, (by first | exact Or.inr ⟨rfl, fun h => c_134 ((lg_cmp_eq _ _).mpr (hsm.trans h.2))⟩ | exact Or.inl ⟨rfl, hall, hsm.symm.trans ((lg_cmp_eq _ _).mp c_134)⟩), ht⟩) (fun _ h => by cases h) dX2_cutIsTight_142
        · refine lv_iconst (v := 1) hx hb dX2_cutIsTight_137 (by decide) ?_
          refine lv_goto (tgt := 142) hx hb dX2_cutIsTight_138 (by decide) ?_
          exact W.zret (v := 1) hx hb hr rfl (fun t ht _ => ⟨1, rfl, (by first | exact Or.inr ⟨rfl, fun h => c_134 ((lg_cmp_eq _ _).mpr (hsm.trans h.2))⟩ | exact Or.inl ⟨rfl, hall, hsm.symm.trans ((lg_cmp_eq _ _).mp c_134)⟩), ht⟩) (fun _ h => by cases h) dX2_cutIsTight_142
      · have hlt := ix_lt (by omega) (by omega) c_12
        have hbi := hfr i hlt
        have hei := hto i hlt
        refine lv_aload_n hx hb dX2_cutIsTight_15 rfl (lv_at hl 0 rfl) ?_
        refine va_get (D := (dC, dI)) (ci := 2) (v := .ref (q 7)) (C := RX2) (T := TX2) (N := 11) hx hb hts fa_cutIsTight_0 hown hK hP 0 rfl rfl 1 (by decide) (hts _ fa_cutIsTight_5) (fun _ h9 => h9) rfl dX2_cutIsTight_16 ?_
        refine lv_aload_n hx hb dX2_cutIsTight_19 rfl (lv_at hl 0 rfl) ?_
        refine va_get (D := (dC, dI)) (ci := 2) (v := .ref (q 1)) (C := RX2) (T := TX2) (N := 11) hx hb hts fa_cutIsTight_0 hown hK hP 0 rfl rfl 0 (by decide) (hts _ fa_cutIsTight_1) (fun _ h9 => h9) rfl dX2_cutIsTight_20 ?_
        refine va_get (D := (dC, dI)) (ci := 1) (v := .ref (q 2)) (C := RX1) (T := TX1) (N := 7) hx hb hts fa_cutIsTight_2 hown hK hP 1 rfl rfl 1 (by decide) (hts _ fa_cutIsTight_6) (fun _ h9 => h9) rfl dX2_cutIsTight_23 ?_
        refine lv_iload_n hx hb dX2_cutIsTight_26 rfl (lv_at hl 2 rfl) ?_
        refine va_iald (D := (dC, dI)) hx hb hK hP 2 0 rfl rfl (by first | assumption | exact vp_in_nI (by omega) (by omega)) dX2_cutIsTight_27 ?_
        refine tp_i (y := fr i) (by rw [nI_clamp (n := i) (by omega)]) ?_
        have hPc := hP.sub (ws' := [(q 7, .inr (0, [.ref (q 8), .ref (q 9), .ref (q 1)])), (q 8, .inl (cI, N, .inl le)), (q 9, .inl (cI, N, .inl fe))]) [7, 8, 9] rfl
        refine vp_callSi (W.runV (As := [.int (fr i)]) (rest := []) ⟨hx, hb, hml, hown, hts⟩ (k_reaches l dC dI cI cJ cZ (q 7) (q 8) (q 9) q N le fe (fr i) (by assumption)) (cwV 1 hts gX2_cutIsTight_X0_reaches rfl rfl rfl (by decide +kernel) ⟨Nat.le_of_ble_eq_true rfl, Nat.le_of_ble_eq_true rfl⟩) ⟨fun a U g mk q => by obtain ⟨q0, qP, qK⟩ := q; exact ⟨q0, qP, va_K.moved (u := U) (U := U.calling g mk a) (Vm.Alike.refl U.vm) qK⟩, va_recv hK hP (ci := 0) (q0 := 7) rfl rfl, fun U hU hW => ⟨rfl, by rw [hU]; exact hPc, va_K.moved hW.alike hK⟩⟩ rfl rfl hl.1 rfl (lv_room (Nat.le_of_ble_eq_true rfl)) dX2_cutIsTight_28 ⟨Nat.le_of_ble_eq_true rfl, Nat.le_of_ble_eq_true rfl⟩) (fun r_28 hw_28 => ?_)
        subst hw_28
        refine lv_istore (lv' := [(4, .int (if le ((fr i).toNatClampNeg) = 2147483647 then 0 else 1)), (0, .ref (q 0)), (1, .long sm), (3, .int (nI i))]) hx hb dX2_cutIsTight_31 hl (by decide) rfl (fun ls hl => ?_)
        refine lv_aload_n hx hb dX2_cutIsTight_33 rfl (lv_at hl 1 rfl) ?_
        refine va_get (D := (dC, dI)) (ci := 2) (v := .ref (q 7)) (C := RX2) (T := TX2) (N := 11) hx hb hts fa_cutIsTight_0 hown hK hP 0 rfl rfl 1 (by decide) (hts _ fa_cutIsTight_5) (fun _ h9 => h9) rfl dX2_cutIsTight_34 ?_
        refine lv_aload_n hx hb dX2_cutIsTight_37 rfl (lv_at hl 1 rfl) ?_
        refine va_get (D := (dC, dI)) (ci := 2) (v := .ref (q 1)) (C := RX2) (T := TX2) (N := 11) hx hb hts fa_cutIsTight_0 hown hK hP 0 rfl rfl 0 (by decide) (hts _ fa_cutIsTight_1) (fun _ h9 => h9) rfl dX2_cutIsTight_38 ?_
        refine va_get (D := (dC, dI)) (ci := 1) (v := .ref (q 3)) (C := RX1) (T := TX1) (N := 7) hx hb hts fa_cutIsTight_2 hown hK hP 1 rfl rfl 2 (by decide) (hts _ fa_cutIsTight_7) (fun _ h9 => h9) rfl dX2_cutIsTight_41 ?_
        refine lv_iload_n hx hb dX2_cutIsTight_44 rfl (lv_at hl 3 rfl) ?_
        refine va_iald (D := (dC, dI)) hx hb hK hP 3 0 rfl rfl (by first | assumption | exact vp_in_nI (by omega) (by omega)) dX2_cutIsTight_45 ?_
        refine tp_i (y := to i) (by rw [nI_clamp (n := i) (by omega)]) ?_
        have hPc := hP.sub (ws' := [(q 7, .inr (0, [.ref (q 8), .ref (q 9), .ref (q 1)])), (q 8, .inl (cI, N, .inl le)), (q 9, .inl (cI, N, .inl fe))]) [7, 8, 9] rfl
        refine vp_callSi (W.runV (As := [.int (to i)]) (rest := []) ⟨hx, hb, hml, hown, hts⟩ (k_reaches l dC dI cI cJ cZ (q 7) (q 8) (q 9) q N le fe (to i) (by assumption)) (cwV 1 hts gX2_cutIsTight_X0_reaches rfl rfl rfl (by decide +kernel) ⟨Nat.le_of_ble_eq_true rfl, Nat.le_of_ble_eq_true rfl⟩) ⟨fun a U g mk q => by obtain ⟨q0, qP, qK⟩ := q; exact ⟨q0, qP, va_K.moved (u := U) (U := U.calling g mk a) (Vm.Alike.refl U.vm) qK⟩, va_recv hK hP (ci := 0) (q0 := 7) rfl rfl, fun U hU hW => ⟨rfl, by rw [hU]; exact hPc, va_K.moved hW.alike hK⟩⟩ rfl rfl hl.1 rfl (lv_room (Nat.le_of_ble_eq_true rfl)) dX2_cutIsTight_46 ⟨Nat.le_of_ble_eq_true rfl, Nat.le_of_ble_eq_true rfl⟩) (fun r_46 hw_46 => ?_)
        subst hw_46
        refine lv_istore (lv' := [(5, .int (if le ((to i).toNatClampNeg) = 2147483647 then 0 else 1)), (4, .int (if le ((fr i).toNatClampNeg) = 2147483647 then 0 else 1)), (0, .ref (q 0)), (1, .long sm), (3, .int (nI i))]) hx hb dX2_cutIsTight_49 hl (by decide) rfl (fun ls hl => ?_)
        refine lv_iload hx hb dX2_cutIsTight_51 (lv_at hl 1 rfl) ?_
        refine lv_if_eq (tgt := 97) hx hb dX2_cutIsTight_53 (by decide) (fun c_53 => ?_) (fun c_53 => ?_)
        · have f53 := rch0 c_53
          refine lv_iload hx hb dX2_cutIsTight_97 (lv_at hl 1 rfl) ?_
          refine lv_if_ne (tgt := 121) hx hb dX2_cutIsTight_99 (by decide) (fun c_99 => ?_) (fun c_99 => ?_)
          · have f99 := rch1 c_99
            refine lv_iinc (v := nI (i + 1)) (lv' := [(3, .int (nI (i + 1))), (5, .int (if le ((to i).toNatClampNeg) = 2147483647 then 0 else 1)), (4, .int (if le ((fr i).toNatClampNeg) = 2147483647 then 0 else 1)), (0, .ref (q 0)), (1, .long sm)]) hx hb dX2_cutIsTight_121 hl (k := 4) rfl (by first | exact nI_1 _ | exact nI_add _ _) (by decide) rfl (fun ls hl => ?_)
            refine lv_goto (tgt := 4) hx hb dX2_cutIsTight_124 (by decide) ?_
            exact ih_a (i + 1) sm (by first | assumption | omega | rfl) (lt_s hall ⟨fun a b => by first | exact c_79 | exact absurd f53 a | exact absurd b f58 | exact absurd b f104 | exact absurd f99 a | exact absurd f99 f53 | exact absurd f53 f99, fun a b => by first | exact c_116 | exact absurd a f53 | exact absurd f104 b | exact absurd a f99 | exact absurd f53 f99 | exact absurd f99 f53⟩) (by first | exact absurd f53 f99 | exact absurd f99 f53 | (rw [fq_cap, if_pos ⟨f53, f58⟩, hsm]; done) | (rw [fq_cap, if_neg (fun h => h.1 f53), hsm]; done) | (rw [fq_cap, if_neg (fun h => f58 h.2), hsm]; done)) (by omega) _ (lv_sub hl [3, 4, 0] rfl)
          · have f99 := rch0 c_99
            refine lv_iload hx hb dX2_cutIsTight_102 (lv_at hl 0 rfl) ?_
            refine lv_if_eq (tgt := 121) hx hb dX2_cutIsTight_104 (by decide) (fun c_104 => ?_) (fun c_104 => ?_)
            · have f104 := rch0 c_104
              refine lv_iinc (v := nI (i + 1)) (lv' := [(3, .int (nI (i + 1))), (5, .int (if le ((to i).toNatClampNeg) = 2147483647 then 0 else 1)), (4, .int (if le ((fr i).toNatClampNeg) = 2147483647 then 0 else 1)), (0, .ref (q 0)), (1, .long sm)]) hx hb dX2_cutIsTight_121 hl (k := 4) rfl (by first | exact nI_1 _ | exact nI_add _ _) (by decide) rfl (fun ls hl => ?_)
              refine lv_goto (tgt := 4) hx hb dX2_cutIsTight_124 (by decide) ?_
              exact ih_a (i + 1) sm (by first | assumption | omega | rfl) (lt_s hall ⟨fun a b => by first | exact c_79 | exact absurd f53 a | exact absurd b f58 | exact absurd b f104 | exact absurd f99 a | exact absurd f99 f53 | exact absurd f53 f99, fun a b => by first | exact c_116 | exact absurd a f53 | exact absurd f104 b | exact absurd a f99 | exact absurd f53 f99 | exact absurd f99 f53⟩) (by first | exact absurd f53 f99 | exact absurd f99 f53 | (rw [fq_cap, if_pos ⟨f53, f58⟩, hsm]; done) | (rw [fq_cap, if_neg (fun h => h.1 f53), hsm]; done) | (rw [fq_cap, if_neg (fun h => f58 h.2), hsm]; done)) (by omega) _ (lv_sub hl [3, 4, 0] rfl)
            · have f104 := rch1 c_104
              refine lv_aload_n hx hb dX2_cutIsTight_107 rfl (lv_at hl 2 rfl) ?_
              refine va_get (D := (dC, dI)) (ci := 2) (v := .ref (q 1)) (C := RX2) (T := TX2) (N := 11) hx hb hts fa_cutIsTight_0 hown hK hP 0 rfl rfl 0 (by decide) (hts _ fa_cutIsTight_1) (fun _ h9 => h9) rfl dX2_cutIsTight_108 ?_
              refine va_get (D := (dC, dI)) (ci := 1) (v := .ref (q 6)) (C := RX1) (T := TX1) (N := 7) hx hb hts fa_cutIsTight_2 hown hK hP 1 rfl rfl 5 (by decide) (hts _ fa_cutIsTight_8) (fun _ h9 => h9) rfl dX2_cutIsTight_111 ?_
              refine lv_iload_n hx hb dX2_cutIsTight_114 rfl (lv_at hl 4 rfl) ?_
              refine va_iald (D := (dC, dI)) hx hb hK hP 6 0 rfl rfl (by first | assumption | exact vp_in_nI (by omega) (by omega)) dX2_cutIsTight_115 ?_
              refine tp_i (y := fl i) (by rw [nI_clamp (n := i) (by omega)]) ?_
              refine lv_if_eq (tgt := 121) hx hb dX2_cutIsTight_116 (by decide) (fun c_116 => ?_) (fun c_116 => ?_)
              · refine lv_iinc (v := nI (i + 1)) (lv' := [(3, .int (nI (i + 1))), (5, .int (if le ((to i).toNatClampNeg) = 2147483647 then 0 else 1)), (4, .int (if le ((fr i).toNatClampNeg) = 2147483647 then 0 else 1)), (0, .ref (q 0)), (1, .long sm)]) hx hb dX2_cutIsTight_121 hl (k := 4) rfl (by first | exact nI_1 _ | exact nI_add _ _) (by decide) rfl (fun ls hl => ?_)
                refine lv_goto (tgt := 4) hx hb dX2_cutIsTight_124 (by decide) ?_
                exact ih_a (i + 1) sm (by first | assumption | omega | rfl) (lt_s hall ⟨fun a b => by first | exact c_79 | exact absurd f53 a | exact absurd b f58 | exact absurd b f104 | exact absurd f99 a | exact absurd f99 f53 | exact absurd f53 f99, fun a b => by first | exact c_116 | exact absurd a f53 | exact absurd f104 b | exact absurd a f99 | exact absurd f53 f99 | exact absurd f99 f53⟩) (by first | exact absurd f53 f99 | exact absurd f99 f53 | (rw [fq_cap, if_pos ⟨f53, f58⟩, hsm]; done) | (rw [fq_cap, if_neg (fun h => h.1 f53), hsm]; done) | (rw [fq_cap, if_neg (fun h => f58 h.2), hsm]; done)) (by omega) _ (lv_sub hl [3, 4, 0] rfl)
              · refine lv_iconst (v := 0) hx hb dX2_cutIsTight_119 (by decide) ?_
                exact W.zret (v := 0) hx hb hr rfl (fun t ht _ => ⟨0, rfl, (by first | exact absurd f53 f99 | exact absurd f99 f53 | exact Or.inr ⟨rfl, fun h => c_116 ((h.1 i hlt).2 f53 f104)⟩), ht⟩) (fun _ h => by cases h) dX2_cutIsTight_120
        · have f53 := rch1 c_53
          refine lv_iload hx hb dX2_cutIsTight_56 (lv_at hl 0 rfl) ?_
          refine lv_if_ne (tgt := 97) hx hb dX2_cutIsTight_58 (by decide) (fun c_58 => ?_) (fun c_58 => ?_)
          · have f58 := rch1 c_58
            refine lv_iload hx hb dX2_cutIsTight_97 (lv_at hl 1 rfl) ?_
            refine lv_if_ne (tgt := 121) hx hb dX2_cutIsTight_99 (by decide) (fun c_99 => ?_) (fun c_99 => ?_)
            · have f99 := rch1 c_99
              refine lv_iinc (v := nI (i + 1)) (lv' := [(3, .int (nI (i + 1))), (5, .int (if le ((to i).toNatClampNeg) = 2147483647 then 0 else 1)), (4, .int (if le ((fr i).toNatClampNeg) = 2147483647 then 0 else 1)), (0, .ref (q 0)), (1, .long sm)]) hx hb dX2_cutIsTight_121 hl (k := 4) rfl (by first | exact nI_1 _ | exact nI_add _ _) (by decide) rfl (fun ls hl => ?_)
              refine lv_goto (tgt := 4) hx hb dX2_cutIsTight_124 (by decide) ?_
              exact ih_a (i + 1) sm (by first | assumption | omega | rfl) (lt_s hall ⟨fun a b => by first | exact c_79 | exact absurd f53 a | exact absurd b f58 | exact absurd b f104 | exact absurd f99 a | exact absurd f99 f53 | exact absurd f53 f99, fun a b => by first | exact c_116 | exact absurd a f53 | exact absurd f104 b | exact absurd a f99 | exact absurd f53 f99 | exact absurd f99 f53⟩) (by first | exact absurd f53 f99 | exact absurd f99 f53 | (rw [fq_cap, if_pos ⟨f53, f58⟩, hsm]; done) | (rw [fq_cap, if_neg (fun h => h.1 f53), hsm]; done) | (rw [fq_cap, if_neg (fun h => f58 h.2), hsm]; done)) (by omega) _ (lv_sub hl [3, 4, 0] rfl)
            · have f99 := rch0 c_99
              refine lv_iload hx hb dX2_cutIsTight_102 (lv_at hl 0 rfl) ?_
              refine lv_if_eq (tgt := 121) hx hb dX2_cutIsTight_104 (by decide) (fun c_104 => ?_) (fun c_104 => ?_)
              · have f104 := rch0 c_104
                refine lv_iinc (v := nI (i + 1)) (lv' := [(3, .int (nI (i + 1))), (5, .int (if le ((to i).toNatClampNeg) = 2147483647 then 0 else 1)), (4, .int (if le ((fr i).toNatClampNeg) = 2147483647 then 0 else 1)), (0, .ref (q 0)), (1, .long sm)]) hx hb dX2_cutIsTight_121 hl (k := 4) rfl (by first | exact nI_1 _ | exact nI_add _ _) (by decide) rfl (fun ls hl => ?_)
                refine lv_goto (tgt := 4) hx hb dX2_cutIsTight_124 (by decide) ?_
                exact ih_a (i + 1) sm (by first | assumption | omega | rfl) (lt_s hall ⟨fun a b => by first | exact c_79 | exact absurd f53 a | exact absurd b f58 | exact absurd b f104 | exact absurd f99 a | exact absurd f99 f53 | exact absurd f53 f99, fun a b => by first | exact c_116 | exact absurd a f53 | exact absurd f104 b | exact absurd a f99 | exact absurd f53 f99 | exact absurd f99 f53⟩) (by first | exact absurd f53 f99 | exact absurd f99 f53 | (rw [fq_cap, if_pos ⟨f53, f58⟩, hsm]; done) | (rw [fq_cap, if_neg (fun h => h.1 f53), hsm]; done) | (rw [fq_cap, if_neg (fun h => f58 h.2), hsm]; done)) (by omega) _ (lv_sub hl [3, 4, 0] rfl)
              · have f104 := rch1 c_104
                refine lv_aload_n hx hb dX2_cutIsTight_107 rfl (lv_at hl 2 rfl) ?_
                refine va_get (D := (dC, dI)) (ci := 2) (v := .ref (q 1)) (C := RX2) (T := TX2) (N := 11) hx hb hts fa_cutIsTight_0 hown hK hP 0 rfl rfl 0 (by decide) (hts _ fa_cutIsTight_1) (fun _ h9 => h9) rfl dX2_cutIsTight_108 ?_
                refine va_get (D := (dC, dI)) (ci := 1) (v := .ref (q 6)) (C := RX1) (T := TX1) (N := 7) hx hb hts fa_cutIsTight_2 hown hK hP 1 rfl rfl 5 (by decide) (hts _ fa_cutIsTight_8) (fun _ h9 => h9) rfl dX2_cutIsTight_111 ?_
                refine lv_iload_n hx hb dX2_cutIsTight_114 rfl (lv_at hl 4 rfl) ?_
                refine va_iald (D := (dC, dI)) hx hb hK hP 6 0 rfl rfl (by first | assumption | exact vp_in_nI (by omega) (by omega)) dX2_cutIsTight_115 ?_
                refine tp_i (y := fl i) (by rw [nI_clamp (n := i) (by omega)]) ?_
                refine lv_if_eq (tgt := 121) hx hb dX2_cutIsTight_116 (by decide) (fun c_116 => ?_) (fun c_116 => ?_)
                · refine lv_iinc (v := nI (i + 1)) (lv' := [(3, .int (nI (i + 1))), (5, .int (if le ((to i).toNatClampNeg) = 2147483647 then 0 else 1)), (4, .int (if le ((fr i).toNatClampNeg) = 2147483647 then 0 else 1)), (0, .ref (q 0)), (1, .long sm)]) hx hb dX2_cutIsTight_121 hl (k := 4) rfl (by first | exact nI_1 _ | exact nI_add _ _) (by decide) rfl (fun ls hl => ?_)
                  refine lv_goto (tgt := 4) hx hb dX2_cutIsTight_124 (by decide) ?_
                  exact ih_a (i + 1) sm (by first | assumption | omega | rfl) (lt_s hall ⟨fun a b => by first | exact c_79 | exact absurd f53 a | exact absurd b f58 | exact absurd b f104 | exact absurd f99 a | exact absurd f99 f53 | exact absurd f53 f99, fun a b => by first | exact c_116 | exact absurd a f53 | exact absurd f104 b | exact absurd a f99 | exact absurd f53 f99 | exact absurd f99 f53⟩) (by first | exact absurd f53 f99 | exact absurd f99 f53 | (rw [fq_cap, if_pos ⟨f53, f58⟩, hsm]; done) | (rw [fq_cap, if_neg (fun h => h.1 f53), hsm]; done) | (rw [fq_cap, if_neg (fun h => f58 h.2), hsm]; done)) (by omega) _ (lv_sub hl [3, 4, 0] rfl)
                · refine lv_iconst (v := 0) hx hb dX2_cutIsTight_119 (by decide) ?_
                  exact W.zret (v := 0) hx hb hr rfl (fun t ht _ => ⟨0, rfl, (by first | exact absurd f53 f99 | exact absurd f99 f53 | exact Or.inr ⟨rfl, fun h => c_116 ((h.1 i hlt).2 f53 f104)⟩), ht⟩) (fun _ h => by cases h) dX2_cutIsTight_120
          · have f58 := rch0 c_58
            refine lv_aload_n hx hb dX2_cutIsTight_61 rfl (lv_at hl 2 rfl) ?_
            refine va_get (D := (dC, dI)) (ci := 2) (v := .ref (q 1)) (C := RX2) (T := TX2) (N := 11) hx hb hts fa_cutIsTight_0 hown hK hP 0 rfl rfl 0 (by decide) (hts _ fa_cutIsTight_1) (fun _ h9 => h9) rfl dX2_cutIsTight_62 ?_
            refine va_get (D := (dC, dI)) (ci := 1) (v := .ref (q 6)) (C := RX1) (T := TX1) (N := 7) hx hb hts fa_cutIsTight_2 hown hK hP 1 rfl rfl 5 (by decide) (hts _ fa_cutIsTight_8) (fun _ h9 => h9) rfl dX2_cutIsTight_65 ?_
            refine lv_iload_n hx hb dX2_cutIsTight_68 rfl (lv_at hl 4 rfl) ?_
            refine va_iald (D := (dC, dI)) hx hb hK hP 6 0 rfl rfl (by first | assumption | exact vp_in_nI (by omega) (by omega)) dX2_cutIsTight_69 ?_
            refine tp_i (y := fl i) (by rw [nI_clamp (n := i) (by omega)]) ?_
            refine lv_aload_n hx hb dX2_cutIsTight_70 rfl (lv_at hl 2 rfl) ?_
            refine va_get (D := (dC, dI)) (ci := 2) (v := .ref (q 1)) (C := RX2) (T := TX2) (N := 11) hx hb hts fa_cutIsTight_0 hown hK hP 0 rfl rfl 0 (by decide) (hts _ fa_cutIsTight_1) (fun _ h9 => h9) rfl dX2_cutIsTight_71 ?_
            refine va_get (D := (dC, dI)) (ci := 1) (v := .ref (q 4)) (C := RX1) (T := TX1) (N := 7) hx hb hts fa_cutIsTight_2 hown hK hP 1 rfl rfl 3 (by decide) (hts _ fa_cutIsTight_9) (fun _ h9 => h9) rfl dX2_cutIsTight_74 ?_
            refine lv_iload_n hx hb dX2_cutIsTight_77 rfl (lv_at hl 4 rfl) ?_
            refine va_iald (D := (dC, dI)) hx hb hK hP 4 0 rfl rfl (by first | assumption | exact vp_in_nI (by omega) (by omega)) dX2_cutIsTight_78 ?_
            refine tp_i (y := cap i) (by rw [nI_clamp (n := i) (by omega)]) ?_
            refine lv_icmp_eq (tgt := 84) hx hb dX2_cutIsTight_79 (by decide) (fun c_79 => ?_) (fun c_79 => ?_)
            · refine lv_lload_n hx hb dX2_cutIsTight_84 rfl (lv_at hl 3 rfl) ?_
              refine lv_aload_n hx hb dX2_cutIsTight_85 rfl (lv_at hl 2 rfl) ?_
              refine va_get (D := (dC, dI)) (ci := 2) (v := .ref (q 1)) (C := RX2) (T := TX2) (N := 11) hx hb hts fa_cutIsTight_0 hown hK hP 0 rfl rfl 0 (by decide) (hts _ fa_cutIsTight_1) (fun _ h9 => h9) rfl dX2_cutIsTight_86 ?_
              refine va_get (D := (dC, dI)) (ci := 1) (v := .ref (q 4)) (C := RX1) (T := TX1) (N := 7) hx hb hts fa_cutIsTight_2 hown hK hP 1 rfl rfl 3 (by decide) (hts _ fa_cutIsTight_9) (fun _ h9 => h9) rfl dX2_cutIsTight_89 ?_
              refine lv_iload_n hx hb dX2_cutIsTight_92 rfl (lv_at hl 4 rfl) ?_
              refine va_iald (D := (dC, dI)) hx hb hK hP 4 0 rfl rfl (by first | assumption | exact vp_in_nI (by omega) (by omega)) dX2_cutIsTight_93 ?_
              refine tp_i (y := cap i) (by rw [nI_clamp (n := i) (by omega)]) ?_
              refine lv_i2l hx hb dX2_cutIsTight_94 rfl ?_
              refine lv_ladd hx hb dX2_cutIsTight_95 ?_
              refine lv_lstore_n (lv' := [(1, .long (sm + ((cap i).toInt64))), (5, .int (if le ((to i).toNatClampNeg) = 2147483647 then 0 else 1)), (4, .int (if le ((fr i).toNatClampNeg) = 2147483647 then 0 else 1)), (0, .ref (q 0)), (3, .int (nI i))]) hx hb dX2_cutIsTight_96 rfl hl (by decide) rfl (fun ls hl => ?_)
              refine lv_iload hx hb dX2_cutIsTight_97 (lv_at hl 2 rfl) ?_
              refine lv_if_ne (tgt := 121) hx hb dX2_cutIsTight_99 (by decide) (fun c_99 => ?_) (fun c_99 => ?_)
              · have f99 := rch1 c_99
                refine lv_iinc (v := nI (i + 1)) (lv' := [(3, .int (nI (i + 1))), (1, .long (sm + ((cap i).toInt64))), (5, .int (if le ((to i).toNatClampNeg) = 2147483647 then 0 else 1)), (4, .int (if le ((fr i).toNatClampNeg) = 2147483647 then 0 else 1)), (0, .ref (q 0))]) hx hb dX2_cutIsTight_121 hl (k := 4) rfl (by first | exact nI_1 _ | exact nI_add _ _) (by decide) rfl (fun ls hl => ?_)
                refine lv_goto (tgt := 4) hx hb dX2_cutIsTight_124 (by decide) ?_
                exact ih_a (i + 1) (sm + ((cap i).toInt64)) (by first | assumption | omega | rfl) (lt_s hall ⟨fun a b => by first | exact c_79 | exact absurd f53 a | exact absurd b f58 | exact absurd b f104 | exact absurd f99 a | exact absurd f99 f53 | exact absurd f53 f99, fun a b => by first | exact c_116 | exact absurd a f53 | exact absurd f104 b | exact absurd a f99 | exact absurd f53 f99 | exact absurd f99 f53⟩) (by first | exact absurd f53 f99 | exact absurd f99 f53 | (rw [fq_cap, if_pos ⟨f53, f58⟩, hsm]; done) | (rw [fq_cap, if_neg (fun h => h.1 f53), hsm]; done) | (rw [fq_cap, if_neg (fun h => f58 h.2), hsm]; done)) (by omega) _ (lv_sub hl [4, 1, 0] rfl)
              · have f99 := rch0 c_99
                refine lv_iload hx hb dX2_cutIsTight_102 (lv_at hl 1 rfl) ?_
                refine lv_if_eq (tgt := 121) hx hb dX2_cutIsTight_104 (by decide) (fun c_104 => ?_) (fun c_104 => ?_)
                · have f104 := rch0 c_104
                  refine lv_iinc (v := nI (i + 1)) (lv' := [(3, .int (nI (i + 1))), (1, .long (sm + ((cap i).toInt64))), (5, .int (if le ((to i).toNatClampNeg) = 2147483647 then 0 else 1)), (4, .int (if le ((fr i).toNatClampNeg) = 2147483647 then 0 else 1)), (0, .ref (q 0))]) hx hb dX2_cutIsTight_121 hl (k := 4) rfl (by first | exact nI_1 _ | exact nI_add _ _) (by decide) rfl (fun ls hl => ?_)
                  refine lv_goto (tgt := 4) hx hb dX2_cutIsTight_124 (by decide) ?_
                  exact ih_a (i + 1) (sm + ((cap i).toInt64)) (by first | assumption | omega | rfl) (lt_s hall ⟨fun a b => by first | exact c_79 | exact absurd f53 a | exact absurd b f58 | exact absurd b f104 | exact absurd f99 a | exact absurd f99 f53 | exact absurd f53 f99, fun a b => by first | exact c_116 | exact absurd a f53 | exact absurd f104 b | exact absurd a f99 | exact absurd f53 f99 | exact absurd f99 f53⟩) (by first | exact absurd f53 f99 | exact absurd f99 f53 | (rw [fq_cap, if_pos ⟨f53, f58⟩, hsm]; done) | (rw [fq_cap, if_neg (fun h => h.1 f53), hsm]; done) | (rw [fq_cap, if_neg (fun h => f58 h.2), hsm]; done)) (by omega) _ (lv_sub hl [4, 1, 0] rfl)
                · have f104 := rch1 c_104
                  refine lv_aload_n hx hb dX2_cutIsTight_107 rfl (lv_at hl 3 rfl) ?_
                  refine va_get (D := (dC, dI)) (ci := 2) (v := .ref (q 1)) (C := RX2) (T := TX2) (N := 11) hx hb hts fa_cutIsTight_0 hown hK hP 0 rfl rfl 0 (by decide) (hts _ fa_cutIsTight_1) (fun _ h9 => h9) rfl dX2_cutIsTight_108 ?_
                  refine va_get (D := (dC, dI)) (ci := 1) (v := .ref (q 6)) (C := RX1) (T := TX1) (N := 7) hx hb hts fa_cutIsTight_2 hown hK hP 1 rfl rfl 5 (by decide) (hts _ fa_cutIsTight_8) (fun _ h9 => h9) rfl dX2_cutIsTight_111 ?_
                  refine lv_iload_n hx hb dX2_cutIsTight_114 rfl (lv_at hl 4 rfl) ?_
                  refine va_iald (D := (dC, dI)) hx hb hK hP 6 0 rfl rfl (by first | assumption | exact vp_in_nI (by omega) (by omega)) dX2_cutIsTight_115 ?_
                  refine tp_i (y := fl i) (by rw [nI_clamp (n := i) (by omega)]) ?_
                  refine lv_if_eq (tgt := 121) hx hb dX2_cutIsTight_116 (by decide) (fun c_116 => ?_) (fun c_116 => ?_)
                  · refine lv_iinc (v := nI (i + 1)) (lv' := [(3, .int (nI (i + 1))), (1, .long (sm + ((cap i).toInt64))), (5, .int (if le ((to i).toNatClampNeg) = 2147483647 then 0 else 1)), (4, .int (if le ((fr i).toNatClampNeg) = 2147483647 then 0 else 1)), (0, .ref (q 0))]) hx hb dX2_cutIsTight_121 hl (k := 4) rfl (by first | exact nI_1 _ | exact nI_add _ _) (by decide) rfl (fun ls hl => ?_)
                    refine lv_goto (tgt := 4) hx hb dX2_cutIsTight_124 (by decide) ?_
                    exact ih_a (i + 1) (sm + ((cap i).toInt64)) (by first | assumption | omega | rfl) (lt_s hall ⟨fun a b => by first | exact c_79 | exact absurd f53 a | exact absurd b f58 | exact absurd b f104 | exact absurd f99 a | exact absurd f99 f53 | exact absurd f53 f99, fun a b => by first | exact c_116 | exact absurd a f53 | exact absurd f104 b | exact absurd a f99 | exact absurd f53 f99 | exact absurd f99 f53⟩) (by first | exact absurd f53 f99 | exact absurd f99 f53 | (rw [fq_cap, if_pos ⟨f53, f58⟩, hsm]; done) | (rw [fq_cap, if_neg (fun h => h.1 f53), hsm]; done) | (rw [fq_cap, if_neg (fun h => f58 h.2), hsm]; done)) (by omega) _ (lv_sub hl [4, 1, 0] rfl)
                  · refine lv_iconst (v := 0) hx hb dX2_cutIsTight_119 (by decide) ?_
                    exact W.zret (v := 0) hx hb hr rfl (fun t ht _ => ⟨0, rfl, (by first | exact absurd f53 f99 | exact absurd f99 f53 | exact Or.inr ⟨rfl, fun h => c_116 ((h.1 i hlt).2 f53 f104)⟩), ht⟩) (fun _ h => by cases h) dX2_cutIsTight_120
            · refine lv_iconst (v := 0) hx hb dX2_cutIsTight_82 (by decide) ?_
              exact W.zret (v := 0) hx hb hr rfl (fun t ht _ => ⟨0, rfl, (Or.inr ⟨rfl, fun h => c_79 ((h.1 i hlt).1 f53 f58)⟩), ht⟩) (fun _ h => by cases h) dX2_cutIsTight_83
  exact lo_a (E - 0 + 1) 0 0 (by first | assumption | omega | rfl) (fun e he => absurd he (Nat.not_lt_zero _)) rfl (by omega) _ (lv_sub hl [2, 1, 0] rfl)

theorem fa_potentialsHold_0 : ∀ w ∈ wsX20, w ∈ wsX2_potentialsHold := by decide +kernel
theorem fa_potentialsHold_1 : Cond.fieldLink RX2 27 "FlowProofs" "net" "LFlowProofs$Net;" ∈ wsX2_potentialsHold := by decide +kernel
theorem fa_potentialsHold_2 : Cond.fieldLink RX2 36 "FlowProofs" "fromSource" "LFlowProofs$Distances;" ∈ wsX2_potentialsHold := by decide +kernel
theorem fa_potentialsHold_3 : ∀ w ∈ wsX00, w ∈ wsX2_potentialsHold := by decide +kernel
theorem fa_potentialsHold_4 : Cond.fieldLink RX2 101 "FlowProofs$Distances" "least" "[I" ∈ wsX2_potentialsHold := by decide +kernel
set_option maxHeartbeats 4000000 in
set_option maxRecDepth 100000 in
theorem k_potentialsHold (l : Launch) (dC : Nat → ClassId) (dI : Nat → Nat → Nat) (cI cJ cZ : ClassId) (q : Nat → Nat) (N M E : Nat) (fr to cap uc fl le fe lt ft wy : Nat → Int32) (wl src snk cir sol rd fw : Int32) (hE : E ≤ M) (hM : M < 1000) (hN : N < 1000) (hfr : ∀ e, e < E → vp_in (fr e) N) (hto : ∀ e, e < E → vp_in (to e) N) : Met l yX2_potentialsHold wsX2_potentialsHold ({ frames := 2, cells := 0, slots := 0, locals := 42 }) (va_Pc [.ref (q 0)] (fun U => va_P (dC, dI) vwCl [(q 0, .inr (2, [.ref (q 1), .ref (q 7), .ref (q 10), .ref (q 13), .int wl, .int src, .int snk, .int cir, .int sol, .int rd, .int fw])), (q 1, .inr (1, [.int (nI N), .ref (q 2), .ref (q 3), .ref (q 4), .ref (q 5), .ref (q 6), .int (nI E)])), (q 2, .inl (cI, M, .inl fr)), (q 3, .inl (cI, M, .inl to)), (q 4, .inl (cI, M, .inl cap)), (q 5, .inl (cI, M, .inl uc)), (q 6, .inl (cI, M, .inl fl)), (q 7, .inr (0, [.ref (q 8), .ref (q 9), .ref (q 1)])), (q 8, .inl (cI, N, .inl le)), (q 9, .inl (cI, N, .inl fe))] U.heap ∧ va_K (dC, dI) vwCl [(cI, .int), (cJ, .long), (cZ, .boolean)] U)) (vp_Si (fun r => fq_b (fq_pot fr to cap uc fl le E) r)) 0 0 (fun _ => False) := by
  refine Met.ofW (cc := cX2_potentialsHold) (maxL := 4) (ret := (some .boolean)) (by decide) rfl ?_
  intro p e s m args below meth c s₁ B hml hv
  obtain ⟨rfl, hP, hK⟩ := hv
  have hx := B.exec
  have hb := B.bytes
  have hr := B.returns
  have hts := atoms_spec (ws := wsX2_potentialsHold) B.pre
  have hown : s.vm.findClass RX2 = some m.cls := findClass_of_methodNamed B.named
  have hlocks := B.notSynchronized
  have hP : va_P (dC, dI) vwCl [(q 0, .inr (2, [.ref (q 1), .ref (q 7), .ref (q 10), .ref (q 13), .int wl, .int src, .int snk, .int cir, .int sol, .int rd, .int fw])), (q 1, .inr (1, [.int (nI N), .ref (q 2), .ref (q 3), .ref (q 4), .ref (q 5), .ref (q 6), .int (nI E)])), (q 2, .inl (cI, M, .inl fr)), (q 3, .inl (cI, M, .inl to)), (q 4, .inl (cI, M, .inl cap)), (q 5, .inl (cI, M, .inl uc)), (q 6, .inl (cI, M, .inl fl)), (q 7, .inr (0, [.ref (q 8), .ref (q 9), .ref (q 1)])), (q 8, .inl (cI, N, .inl le)), (q 9, .inl (cI, N, .inl fe))] s.heap := hP
  have hl := lv_entry ([.ref (q 0)]) (n := 4) (Nat.le_of_ble_eq_true rfl)
  rw [lg_entry_eq]
  generalize (lg_sl ([.ref (q 0)]) ++ List.replicate (4 - (lg_sl ([.ref (q 0)])).length) Slot.unset).toArray = ls at hl ⊢
  have hl : lv_has ls 4 [(0, .ref (q 0))] := hl
  refine lv_iconst (v := 0) hx hb dX2_potentialsHold_0 (by decide) ?_
  refine tp_i (y := nI 0) nI_0.symm ?_
  refine lv_istore_n (lv' := [(1, .int (nI 0)), (0, .ref (q 0))]) hx hb dX2_potentialsHold_1 rfl hl (by decide) rfl (fun ls hl => ?_)
  have lo_a : ∀ (nf : Nat) (i : Nat) (hi : i ≤ 2 * E) (hall : ∀ a, a < i → fq_poa fr to cap uc fl le a) (hfu : 2 * E - i < nf) (ls : Array Slot) (hl : lv_has ls 4 [(0, .ref (q 0)), (1, .int (nI i))]), W p l e (headSpec wsX2_potentialsHold ({ frames := 2, cells := 0, slots := 0, locals := 42 })).room s m ([.ref (q 0)] : List Value).toArray below meth c s.heap [] 0 0 (MQ below (vp_Si (fun r => fq_b (fq_pot fr to cap uc fl le E) r)) ([.ref (q 0)] : List Value).toArray s 0 0 (fun _ => False)) (F0 m 2 ls [])
    := by
    intro nf
    induction nf with
    | zero => intro i hi hall hfu ls hl; exact absurd hfu (Nat.not_lt_zero _)
    | succ nf ih_a =>
      intro i hi hall hfu ls hl
      refine lv_iload_n hx hb dX2_potentialsHold_2 rfl (lv_at hl 1 rfl) ?_
      refine lv_aload_n hx hb dX2_potentialsHold_3 rfl (lv_at hl 0 rfl) ?_
      refine va_get (D := (dC, dI)) (ci := 2) (v := .ref (q 1)) (C := RX2) (T := TX2) (N := 11) hx hb hts fa_potentialsHold_0 hown hK hP 0 rfl rfl 0 (by decide) (hts _ fa_potentialsHold_1) (fun _ h9 => h9) rfl dX2_potentialsHold_4 ?_
      have hPc := hP.sub (ws' := [(q 1, .inr (1, [.int (nI N), .ref (q 2), .ref (q 3), .ref (q 4), .ref (q 5), .ref (q 6), .int (nI E)])), (q 2, .inl (cI, M, .inl fr)), (q 3, .inl (cI, M, .inl to)), (q 4, .inl (cI, M, .inl cap)), (q 5, .inl (cI, M, .inl uc)), (q 6, .inl (cI, M, .inl fl))]) [1, 2, 3, 4, 5, 6] rfl
      refine vp_callSi (W.runV (As := []) (rest := [.int (nI i)]) ⟨hx, hb, hml, hown, hts⟩ (k_arcs l dC dI cI cJ cZ q N M E fr to cap uc fl) (cwV 0 hts gX2_potentialsHold_X1_arcs rfl rfl rfl (by decide +kernel) ⟨Nat.le_of_ble_eq_true rfl, Nat.le_of_ble_eq_true rfl⟩) ⟨fun a U g mk q => by obtain ⟨q0, qP, qK⟩ := q; exact ⟨q0, qP, va_K.moved (u := U) (U := U.calling g mk a) (Vm.Alike.refl U.vm) qK⟩, va_recv hK hP (ci := 1) (q0 := 1) rfl rfl, fun U hU hW => ⟨rfl, by rw [hU]; exact hPc, va_K.moved hW.alike hK⟩⟩ rfl rfl hl.1 rfl (lv_room (Nat.le_of_ble_eq_true rfl)) dX2_potentialsHold_7 ⟨Nat.le_of_ble_eq_true rfl, Nat.le_of_ble_eq_true rfl⟩) (fun r_7 hw_7 => ?_)
      subst hw_7
      refine lv_icmp_ge (tgt := 105) hx hb dX2_potentialsHold_10 (by decide) (fun c_10 => ?_) (fun c_10 => ?_)
      · have hge := ix_ge (by omega) (by omega) c_10
        refine lv_iconst (v := 1) hx hb dX2_potentialsHold_105 (by decide) ?_
        exact W.zret (v := 1) hx hb hr rfl (fun t ht _ => ⟨1, rfl, (Or.inl ⟨rfl, fun e he => hall e (by omega)⟩), ht⟩) (fun _ h => by cases h) dX2_potentialsHold_106
      · have hlt := ix_lt (by omega) (by omega) c_10
        have hbi := bg_in hfr hto hlt
        have hei := en_in hfr hto hlt
        refine lv_aload_n hx hb dX2_potentialsHold_13 rfl (lv_at hl 0 rfl) ?_
        refine va_get (D := (dC, dI)) (ci := 2) (v := .ref (q 1)) (C := RX2) (T := TX2) (N := 11) hx hb hts fa_potentialsHold_0 hown hK hP 0 rfl rfl 0 (by decide) (hts _ fa_potentialsHold_1) (fun _ h9 => h9) rfl dX2_potentialsHold_14 ?_
        refine lv_iload_n hx hb dX2_potentialsHold_17 rfl (lv_at hl 1 rfl) ?_
        have hPc := hP.sub (ws' := [(q 1, .inr (1, [.int (nI N), .ref (q 2), .ref (q 3), .ref (q 4), .ref (q 5), .ref (q 6), .int (nI E)])), (q 2, .inl (cI, M, .inl fr)), (q 3, .inl (cI, M, .inl to)), (q 4, .inl (cI, M, .inl cap)), (q 5, .inl (cI, M, .inl uc)), (q 6, .inl (cI, M, .inl fl))]) [1, 2, 3, 4, 5, 6] rfl
        refine vp_callSi (W.runV (As := [.int (nI i)]) (rest := []) ⟨hx, hb, hml, hown, hts⟩ (k_begin l dC dI cI cJ cZ q N M E fr to cap uc fl i (by omega) hM) (cwV 1 hts gX2_potentialsHold_X1_begin rfl rfl rfl (by decide +kernel) ⟨Nat.le_of_ble_eq_true rfl, Nat.le_of_ble_eq_true rfl⟩) ⟨fun a U g mk q => by obtain ⟨q0, qP, qK⟩ := q; exact ⟨q0, qP, va_K.moved (u := U) (U := U.calling g mk a) (Vm.Alike.refl U.vm) qK⟩, va_recv hK hP (ci := 1) (q0 := 1) rfl rfl, fun U hU hW => ⟨rfl, by rw [hU]; exact hPc, va_K.moved hW.alike hK⟩⟩ rfl rfl hl.1 rfl (lv_room (Nat.le_of_ble_eq_true rfl)) dX2_potentialsHold_18 ⟨Nat.le_of_ble_eq_true rfl, Nat.le_of_ble_eq_true rfl⟩) (fun r_18 hw_18 => ?_)
        subst hw_18
        refine lv_istore_n (lv' := [(2, .int (fp_bg fr to i)), (0, .ref (q 0)), (1, .int (nI i))]) hx hb dX2_potentialsHold_21 rfl hl (by decide) rfl (fun ls hl => ?_)
        refine lv_aload_n hx hb dX2_potentialsHold_22 rfl (lv_at hl 1 rfl) ?_
        refine va_get (D := (dC, dI)) (ci := 2) (v := .ref (q 1)) (C := RX2) (T := TX2) (N := 11) hx hb hts fa_potentialsHold_0 hown hK hP 0 rfl rfl 0 (by decide) (hts _ fa_potentialsHold_1) (fun _ h9 => h9) rfl dX2_potentialsHold_23 ?_
        refine lv_iload_n hx hb dX2_potentialsHold_26 rfl (lv_at hl 2 rfl) ?_
        have hPc := hP.sub (ws' := [(q 1, .inr (1, [.int (nI N), .ref (q 2), .ref (q 3), .ref (q 4), .ref (q 5), .ref (q 6), .int (nI E)])), (q 2, .inl (cI, M, .inl fr)), (q 3, .inl (cI, M, .inl to)), (q 4, .inl (cI, M, .inl cap)), (q 5, .inl (cI, M, .inl uc)), (q 6, .inl (cI, M, .inl fl))]) [1, 2, 3, 4, 5, 6] rfl
        refine vp_callSi (W.runV (As := [.int (nI i)]) (rest := []) ⟨hx, hb, hml, hown, hts⟩ (k_end l dC dI cI cJ cZ q N M E fr to cap uc fl i (by omega) hM) (cwV 1 hts gX2_potentialsHold_X1_end rfl rfl rfl (by decide +kernel) ⟨Nat.le_of_ble_eq_true rfl, Nat.le_of_ble_eq_true rfl⟩) ⟨fun a U g mk q => by obtain ⟨q0, qP, qK⟩ := q; exact ⟨q0, qP, va_K.moved (u := U) (U := U.calling g mk a) (Vm.Alike.refl U.vm) qK⟩, va_recv hK hP (ci := 1) (q0 := 1) rfl rfl, fun U hU hW => ⟨rfl, by rw [hU]; exact hPc, va_K.moved hW.alike hK⟩⟩ rfl rfl hl.1 rfl (lv_room (Nat.le_of_ble_eq_true rfl)) dX2_potentialsHold_27 ⟨Nat.le_of_ble_eq_true rfl, Nat.le_of_ble_eq_true rfl⟩) (fun r_27 hw_27 => ?_)
        subst hw_27
        refine lv_istore_n (lv' := [(3, .int (fp_en fr to i)), (2, .int (fp_bg fr to i)), (0, .ref (q 0)), (1, .int (nI i))]) hx hb dX2_potentialsHold_30 rfl hl (by decide) rfl (fun ls hl => ?_)
        refine lv_aload_n hx hb dX2_potentialsHold_31 rfl (lv_at hl 2 rfl) ?_
        refine va_get (D := (dC, dI)) (ci := 2) (v := .ref (q 1)) (C := RX2) (T := TX2) (N := 11) hx hb hts fa_potentialsHold_0 hown hK hP 0 rfl rfl 0 (by decide) (hts _ fa_potentialsHold_1) (fun _ h9 => h9) rfl dX2_potentialsHold_32 ?_
        refine lv_iload_n hx hb dX2_potentialsHold_35 rfl (lv_at hl 3 rfl) ?_
        have hPc := hP.sub (ws' := [(q 1, .inr (1, [.int (nI N), .ref (q 2), .ref (q 3), .ref (q 4), .ref (q 5), .ref (q 6), .int (nI E)])), (q 2, .inl (cI, M, .inl fr)), (q 3, .inl (cI, M, .inl to)), (q 4, .inl (cI, M, .inl cap)), (q 5, .inl (cI, M, .inl uc)), (q 6, .inl (cI, M, .inl fl))]) [1, 2, 3, 4, 5, 6] rfl
        refine vp_callSi (W.runV (As := [.int (nI i)]) (rest := []) ⟨hx, hb, hml, hown, hts⟩ (k_left l dC dI cI cJ cZ q N M E fr to cap uc fl i (by omega) hM) (cwV 1 hts gX2_potentialsHold_X1_left rfl rfl rfl (by decide +kernel) ⟨Nat.le_of_ble_eq_true rfl, Nat.le_of_ble_eq_true rfl⟩) ⟨fun a U g mk q => by obtain ⟨q0, qP, qK⟩ := q; exact ⟨q0, qP, va_K.moved (u := U) (U := U.calling g mk a) (Vm.Alike.refl U.vm) qK⟩, va_recv hK hP (ci := 1) (q0 := 1) rfl rfl, fun U hU hW => ⟨rfl, by rw [hU]; exact hPc, va_K.moved hW.alike hK⟩⟩ rfl rfl hl.1 rfl (lv_room (Nat.le_of_ble_eq_true rfl)) dX2_potentialsHold_36 ⟨Nat.le_of_ble_eq_true rfl, Nat.le_of_ble_eq_true rfl⟩) (fun r_36 hw_36 => ?_)
        subst hw_36
        refine lv_if_le (tgt := 99) hx hb dX2_potentialsHold_39 (by decide) (fun c_39 => ?_) (fun c_39 => ?_)
        · refine lv_iinc (v := nI (i + 1)) (lv' := [(1, .int (nI (i + 1))), (3, .int (fp_en fr to i)), (2, .int (fp_bg fr to i)), (0, .ref (q 0))]) hx hb dX2_potentialsHold_99 hl (k := 3) rfl (by first | exact nI_1 _ | exact nI_add _ _) (by decide) rfl (fun ls hl => ?_)
          refine lv_goto (tgt := 2) hx hb dX2_potentialsHold_102 (by decide) ?_
          exact ih_a (i + 1) (by first | assumption | omega | rfl) (lt_s hall (fun h1 h2 h3 => by first | exact c_94 | exact absurd h1 (Int32.not_lt.mpr c_39) | exact absurd (rch0 c_50) h2 | exact absurd (rch0 c_61) h3)) (by omega) _ (lv_sub hl [3, 0] rfl)
        · refine lv_aload_n hx hb dX2_potentialsHold_42 rfl (lv_at hl 2 rfl) ?_
          refine va_get (D := (dC, dI)) (ci := 2) (v := .ref (q 7)) (C := RX2) (T := TX2) (N := 11) hx hb hts fa_potentialsHold_0 hown hK hP 0 rfl rfl 1 (by decide) (hts _ fa_potentialsHold_2) (fun _ h9 => h9) rfl dX2_potentialsHold_43 ?_
          refine lv_iload_n hx hb dX2_potentialsHold_46 rfl (lv_at hl 1 rfl) ?_
          have hPc := hP.sub (ws' := [(q 7, .inr (0, [.ref (q 8), .ref (q 9), .ref (q 1)])), (q 8, .inl (cI, N, .inl le)), (q 9, .inl (cI, N, .inl fe))]) [7, 8, 9] rfl
          refine vp_callSi (W.runV (As := [.int (fp_bg fr to i)]) (rest := []) ⟨hx, hb, hml, hown, hts⟩ (k_reaches l dC dI cI cJ cZ (q 7) (q 8) (q 9) q N le fe (fp_bg fr to i) (by assumption)) (cwV 1 hts gX2_potentialsHold_X0_reaches rfl rfl rfl (by decide +kernel) ⟨Nat.le_of_ble_eq_true rfl, Nat.le_of_ble_eq_true rfl⟩) ⟨fun a U g mk q => by obtain ⟨q0, qP, qK⟩ := q; exact ⟨q0, qP, va_K.moved (u := U) (U := U.calling g mk a) (Vm.Alike.refl U.vm) qK⟩, va_recv hK hP (ci := 0) (q0 := 7) rfl rfl, fun U hU hW => ⟨rfl, by rw [hU]; exact hPc, va_K.moved hW.alike hK⟩⟩ rfl rfl hl.1 rfl (lv_room (Nat.le_of_ble_eq_true rfl)) dX2_potentialsHold_47 ⟨Nat.le_of_ble_eq_true rfl, Nat.le_of_ble_eq_true rfl⟩) (fun r_47 hw_47 => ?_)
          subst hw_47
          refine lv_if_eq (tgt := 99) hx hb dX2_potentialsHold_50 (by decide) (fun c_50 => ?_) (fun c_50 => ?_)
          · refine lv_iinc (v := nI (i + 1)) (lv' := [(1, .int (nI (i + 1))), (3, .int (fp_en fr to i)), (2, .int (fp_bg fr to i)), (0, .ref (q 0))]) hx hb dX2_potentialsHold_99 hl (k := 3) rfl (by first | exact nI_1 _ | exact nI_add _ _) (by decide) rfl (fun ls hl => ?_)
            refine lv_goto (tgt := 2) hx hb dX2_potentialsHold_102 (by decide) ?_
            exact ih_a (i + 1) (by first | assumption | omega | rfl) (lt_s hall (fun h1 h2 h3 => by first | exact c_94 | exact absurd h1 (Int32.not_lt.mpr c_39) | exact absurd (rch0 c_50) h2 | exact absurd (rch0 c_61) h3)) (by omega) _ (lv_sub hl [3, 0] rfl)
          · refine lv_aload_n hx hb dX2_potentialsHold_53 rfl (lv_at hl 2 rfl) ?_
            refine va_get (D := (dC, dI)) (ci := 2) (v := .ref (q 7)) (C := RX2) (T := TX2) (N := 11) hx hb hts fa_potentialsHold_0 hown hK hP 0 rfl rfl 1 (by decide) (hts _ fa_potentialsHold_2) (fun _ h9 => h9) rfl dX2_potentialsHold_54 ?_
            refine lv_iload_n hx hb dX2_potentialsHold_57 rfl (lv_at hl 0 rfl) ?_
            have hPc := hP.sub (ws' := [(q 7, .inr (0, [.ref (q 8), .ref (q 9), .ref (q 1)])), (q 8, .inl (cI, N, .inl le)), (q 9, .inl (cI, N, .inl fe))]) [7, 8, 9] rfl
            refine vp_callSi (W.runV (As := [.int (fp_en fr to i)]) (rest := []) ⟨hx, hb, hml, hown, hts⟩ (k_reaches l dC dI cI cJ cZ (q 7) (q 8) (q 9) q N le fe (fp_en fr to i) (by assumption)) (cwV 1 hts gX2_potentialsHold_X0_reaches rfl rfl rfl (by decide +kernel) ⟨Nat.le_of_ble_eq_true rfl, Nat.le_of_ble_eq_true rfl⟩) ⟨fun a U g mk q => by obtain ⟨q0, qP, qK⟩ := q; exact ⟨q0, qP, va_K.moved (u := U) (U := U.calling g mk a) (Vm.Alike.refl U.vm) qK⟩, va_recv hK hP (ci := 0) (q0 := 7) rfl rfl, fun U hU hW => ⟨rfl, by rw [hU]; exact hPc, va_K.moved hW.alike hK⟩⟩ rfl rfl hl.1 rfl (lv_room (Nat.le_of_ble_eq_true rfl)) dX2_potentialsHold_58 ⟨Nat.le_of_ble_eq_true rfl, Nat.le_of_ble_eq_true rfl⟩) (fun r_58 hw_58 => ?_)
            subst hw_58
            refine lv_if_ne (tgt := 67) hx hb dX2_potentialsHold_61 (by decide) (fun c_61 => ?_) (fun c_61 => ?_)
            · refine lv_aload_n hx hb dX2_potentialsHold_67 rfl (lv_at hl 2 rfl) ?_
              refine va_get (D := (dC, dI)) (ci := 2) (v := .ref (q 7)) (C := RX2) (T := TX2) (N := 11) hx hb hts fa_potentialsHold_0 hown hK hP 0 rfl rfl 1 (by decide) (hts _ fa_potentialsHold_2) (fun _ h9 => h9) rfl dX2_potentialsHold_68 ?_
              refine va_get (D := (dC, dI)) (ci := 0) (v := .ref (q 8)) (C := RX0) (T := TX0) (N := 3) hx hb hts fa_potentialsHold_3 hown hK hP 7 rfl rfl 0 (by decide) (hts _ fa_potentialsHold_4) (fun _ h9 => h9) rfl dX2_potentialsHold_71 ?_
              refine lv_iload_n hx hb dX2_potentialsHold_74 rfl (lv_at hl 1 rfl) ?_
              refine va_iald (D := (dC, dI)) hx hb hK hP 8 0 rfl rfl (by first | assumption | exact vp_in_nI (by omega) (by omega)) dX2_potentialsHold_75 ?_
              refine lv_aload_n hx hb dX2_potentialsHold_76 rfl (lv_at hl 2 rfl) ?_
              refine va_get (D := (dC, dI)) (ci := 2) (v := .ref (q 1)) (C := RX2) (T := TX2) (N := 11) hx hb hts fa_potentialsHold_0 hown hK hP 0 rfl rfl 0 (by decide) (hts _ fa_potentialsHold_1) (fun _ h9 => h9) rfl dX2_potentialsHold_77 ?_
              refine lv_iload_n hx hb dX2_potentialsHold_80 rfl (lv_at hl 3 rfl) ?_
              have hPc := hP.sub (ws' := [(q 1, .inr (1, [.int (nI N), .ref (q 2), .ref (q 3), .ref (q 4), .ref (q 5), .ref (q 6), .int (nI E)])), (q 2, .inl (cI, M, .inl fr)), (q 3, .inl (cI, M, .inl to)), (q 4, .inl (cI, M, .inl cap)), (q 5, .inl (cI, M, .inl uc)), (q 6, .inl (cI, M, .inl fl))]) [1, 2, 3, 4, 5, 6] rfl
              refine vp_callSi (W.runV (As := [.int (nI i)]) (rest := [.int (le (fp_bg fr to i).toNatClampNeg)]) ⟨hx, hb, hml, hown, hts⟩ (k_price l dC dI cI cJ cZ q N M E fr to cap uc fl i (by omega) hM) (cwV 1 hts gX2_potentialsHold_X1_price rfl rfl rfl (by decide +kernel) ⟨Nat.le_of_ble_eq_true rfl, Nat.le_of_ble_eq_true rfl⟩) ⟨fun a U g mk q => by obtain ⟨q0, qP, qK⟩ := q; exact ⟨q0, qP, va_K.moved (u := U) (U := U.calling g mk a) (Vm.Alike.refl U.vm) qK⟩, va_recv hK hP (ci := 1) (q0 := 1) rfl rfl, fun U hU hW => ⟨rfl, by rw [hU]; exact hPc, va_K.moved hW.alike hK⟩⟩ rfl rfl hl.1 rfl (lv_room (Nat.le_of_ble_eq_true rfl)) dX2_potentialsHold_81 ⟨Nat.le_of_ble_eq_true rfl, Nat.le_of_ble_eq_true rfl⟩) (fun r_81 hw_81 => ?_)
              subst hw_81
              refine lv_iadd hx hb dX2_potentialsHold_84 ?_
              refine lv_aload_n hx hb dX2_potentialsHold_85 rfl (lv_at hl 2 rfl) ?_
              refine va_get (D := (dC, dI)) (ci := 2) (v := .ref (q 7)) (C := RX2) (T := TX2) (N := 11) hx hb hts fa_potentialsHold_0 hown hK hP 0 rfl rfl 1 (by decide) (hts _ fa_potentialsHold_2) (fun _ h9 => h9) rfl dX2_potentialsHold_86 ?_
              refine va_get (D := (dC, dI)) (ci := 0) (v := .ref (q 8)) (C := RX0) (T := TX0) (N := 3) hx hb hts fa_potentialsHold_3 hown hK hP 7 rfl rfl 0 (by decide) (hts _ fa_potentialsHold_4) (fun _ h9 => h9) rfl dX2_potentialsHold_89 ?_
              refine lv_iload_n hx hb dX2_potentialsHold_92 rfl (lv_at hl 0 rfl) ?_
              refine va_iald (D := (dC, dI)) hx hb hK hP 8 0 rfl rfl (by first | assumption | exact vp_in_nI (by omega) (by omega)) dX2_potentialsHold_93 ?_
              refine lv_icmp_ge (tgt := 99) hx hb dX2_potentialsHold_94 (by decide) (fun c_94 => ?_) (fun c_94 => ?_)
              · refine lv_iinc (v := nI (i + 1)) (lv' := [(1, .int (nI (i + 1))), (3, .int (fp_en fr to i)), (2, .int (fp_bg fr to i)), (0, .ref (q 0))]) hx hb dX2_potentialsHold_99 hl (k := 3) rfl (by first | exact nI_1 _ | exact nI_add _ _) (by decide) rfl (fun ls hl => ?_)
                refine lv_goto (tgt := 2) hx hb dX2_potentialsHold_102 (by decide) ?_
                exact ih_a (i + 1) (by first | assumption | omega | rfl) (lt_s hall (fun h1 h2 h3 => by first | exact c_94 | exact absurd h1 (Int32.not_lt.mpr c_39) | exact absurd (rch0 c_50) h2 | exact absurd (rch0 c_61) h3)) (by omega) _ (lv_sub hl [3, 0] rfl)
              · refine lv_iconst (v := 0) hx hb dX2_potentialsHold_97 (by decide) ?_
                exact W.zret (v := 0) hx hb hr rfl (fun t ht _ => ⟨0, rfl, (Or.inr ⟨rfl, fun h => c_94 (h i hlt (Int32.not_le.mp c_39) (rch1 c_50) (rch1 c_61))⟩), ht⟩) (fun _ h => by cases h) dX2_potentialsHold_98
            · refine lv_goto (tgt := 99) hx hb dX2_potentialsHold_64 (by decide) ?_
              refine lv_iinc (v := nI (i + 1)) (lv' := [(1, .int (nI (i + 1))), (3, .int (fp_en fr to i)), (2, .int (fp_bg fr to i)), (0, .ref (q 0))]) hx hb dX2_potentialsHold_99 hl (k := 3) rfl (by first | exact nI_1 _ | exact nI_add _ _) (by decide) rfl (fun ls hl => ?_)
              refine lv_goto (tgt := 2) hx hb dX2_potentialsHold_102 (by decide) ?_
              exact ih_a (i + 1) (by first | assumption | omega | rfl) (lt_s hall (fun h1 h2 h3 => by first | exact c_94 | exact absurd h1 (Int32.not_lt.mpr c_39) | exact absurd (rch0 c_50) h2 | exact absurd (rch0 c_61) h3)) (by omega) _ (lv_sub hl [3, 0] rfl)
  exact lo_a (2 * E - 0 + 1) 0 (by first | assumption | omega | rfl) (fun e he => absurd he (Nat.not_lt_zero _)) (by omega) _ (lv_sub hl [1, 0] rfl)

theorem fa_check_0 : ∀ w ∈ wsX20, w ∈ wsX2_check := by decide +kernel
theorem fa_check_1 : Cond.fieldLink RX2 76 "FlowProofs" "solved" "Z" ∈ wsX2_check := by decide +kernel
set_option maxHeartbeats 4000000 in
set_option maxRecDepth 100000 in
theorem k_check (l : Launch) (dC : Nat → ClassId) (dI : Nat → Nat → Nat) (cI cJ cZ : ClassId) (q : Nat → Nat) (N M E : Nat) (fr to cap uc fl le fe lt ft wy : Nat → Int32) (wl src snk cir sol rd fw : Int32) (hE : E ≤ M) (hM : M < 1000) (hN : N < 1000) (hfr : ∀ e, e < E → vp_in (fr e) N) (hto : ∀ e, e < E → vp_in (to e) N) : Met l yX2_check wsX2_check ({ frames := 3, cells := 0, slots := 0, locals := 65 }) (va_Pc [.ref (q 0)] (fun U => va_P (dC, dI) vwCl [(q 0, .inr (2, [.ref (q 1), .ref (q 7), .ref (q 10), .ref (q 13), .int wl, .int src, .int snk, .int cir, .int sol, .int rd, .int fw])), (q 1, .inr (1, [.int (nI N), .ref (q 2), .ref (q 3), .ref (q 4), .ref (q 5), .ref (q 6), .int (nI E)])), (q 2, .inl (cI, M, .inl fr)), (q 3, .inl (cI, M, .inl to)), (q 4, .inl (cI, M, .inl cap)), (q 5, .inl (cI, M, .inl uc)), (q 6, .inl (cI, M, .inl fl)), (q 7, .inr (0, [.ref (q 8), .ref (q 9), .ref (q 1)])), (q 8, .inl (cI, N, .inl le)), (q 9, .inl (cI, N, .inl fe))] U.heap ∧ va_K (dC, dI) vwCl [(cI, .int), (cJ, .long), (cZ, .boolean)] U)) (vp_Si (fun r => fq_b (fq_ck fr to cap uc fl le N E src snk sol fw) r)) 0 0 (fun _ => False) := by
  refine Met.ofW (cc := cX2_check) (maxL := 1) (ret := (some .boolean)) (by decide) rfl ?_
  intro p e s m args below meth c s₁ B hml hv
  obtain ⟨rfl, hP, hK⟩ := hv
  have hx := B.exec
  have hb := B.bytes
  have hr := B.returns
  have hts := atoms_spec (ws := wsX2_check) B.pre
  have hown : s.vm.findClass RX2 = some m.cls := findClass_of_methodNamed B.named
  have hlocks := B.notSynchronized
  have hP : va_P (dC, dI) vwCl [(q 0, .inr (2, [.ref (q 1), .ref (q 7), .ref (q 10), .ref (q 13), .int wl, .int src, .int snk, .int cir, .int sol, .int rd, .int fw])), (q 1, .inr (1, [.int (nI N), .ref (q 2), .ref (q 3), .ref (q 4), .ref (q 5), .ref (q 6), .int (nI E)])), (q 2, .inl (cI, M, .inl fr)), (q 3, .inl (cI, M, .inl to)), (q 4, .inl (cI, M, .inl cap)), (q 5, .inl (cI, M, .inl uc)), (q 6, .inl (cI, M, .inl fl)), (q 7, .inr (0, [.ref (q 8), .ref (q 9), .ref (q 1)])), (q 8, .inl (cI, N, .inl le)), (q 9, .inl (cI, N, .inl fe))] s.heap := hP
  have hl := lv_entry ([.ref (q 0)]) (n := 1) (Nat.le_of_ble_eq_true rfl)
  rw [lg_entry_eq]
  generalize (lg_sl ([.ref (q 0)]) ++ List.replicate (1 - (lg_sl ([.ref (q 0)])).length) Slot.unset).toArray = ls at hl ⊢
  have hl : lv_has ls 1 [(0, .ref (q 0))] := hl
  refine lv_aload_n hx hb dX2_check_0 rfl (lv_at hl 0 rfl) ?_
  refine va_get (D := (dC, dI)) (ci := 2) (v := .int sol) (C := RX2) (T := TX2) (N := 11) hx hb hts fa_check_0 hown hK hP 0 rfl rfl 8 (by decide) (hts _ fa_check_1) (fun _ h9 => h9) rfl dX2_check_1 ?_
  refine lv_if_eq (tgt := 39) hx hb dX2_check_4 (by decide) (fun c_4 => ?_) (fun c_4 => ?_)
  · refine lv_iconst (v := 0) hx hb dX2_check_39 (by decide) ?_
    exact W.zret (v := 0) hx hb hr rfl (fun t ht _ => ⟨0, rfl, (by first | exact Or.inr ⟨rfl, fun h => h.1 c_4⟩ | exact Or.inr ⟨rfl, fun h => fq_b0 hw_8 c_11 h.2.1⟩ | exact Or.inr ⟨rfl, fun h => fq_b0 hw_15 c_18 h.2.2.1⟩ | exact Or.inr ⟨rfl, fun h => fq_b0 hw_22 c_25 h.2.2.2.1⟩ | exact Or.inr ⟨rfl, fun h => fq_b0 hw_29 c_32 h.2.2.2.2⟩ | exact Or.inl ⟨rfl, c_4, fq_b1 hw_8 c_11, fq_b1 hw_15 c_18, fq_b1 hw_22 c_25, fq_b1 hw_29 c_32⟩), ht⟩) (fun _ h => by cases h) dX2_check_40
  · refine lv_aload_n hx hb dX2_check_7 rfl (lv_at hl 0 rfl) ?_
    have hPc := hP.sub (ws' := [(q 0, .inr (2, [.ref (q 1), .ref (q 7), .ref (q 10), .ref (q 13), .int wl, .int src, .int snk, .int cir, .int sol, .int rd, .int fw])), (q 1, .inr (1, [.int (nI N), .ref (q 2), .ref (q 3), .ref (q 4), .ref (q 5), .ref (q 6), .int (nI E)])), (q 2, .inl (cI, M, .inl fr)), (q 3, .inl (cI, M, .inl to)), (q 4, .inl (cI, M, .inl cap)), (q 5, .inl (cI, M, .inl uc)), (q 6, .inl (cI, M, .inl fl))]) [0, 1, 2, 3, 4, 5, 6] rfl
    refine vp_callSi (W.runV (As := []) (rest := []) ⟨hx, hb, hml, hown, hts⟩ (k_flowsFit l dC dI cI cJ cZ q N M E fr to cap uc fl le fe lt ft wy wl src snk cir sol rd fw hE hM) (cwV 0 hts gX2_check_X2_flowsFit rfl rfl rfl (by decide +kernel) ⟨Nat.le_of_ble_eq_true rfl, Nat.le_of_ble_eq_true rfl⟩) ⟨fun a U g mk q => by obtain ⟨q0, qP, qK⟩ := q; exact ⟨q0, qP, va_K.moved (u := U) (U := U.calling g mk a) (Vm.Alike.refl U.vm) qK⟩, va_recv hK hP (ci := 2) (q0 := 0) rfl rfl, fun U hU hW => ⟨rfl, by rw [hU]; exact hPc, va_K.moved hW.alike hK⟩⟩ rfl rfl hl.1 rfl (lv_room (Nat.le_of_ble_eq_true rfl)) dX2_check_8 ⟨Nat.le_of_ble_eq_true rfl, Nat.le_of_ble_eq_true rfl⟩) (fun r_8 hw_8 => ?_)
    refine lv_if_eq (tgt := 39) hx hb dX2_check_11 (by decide) (fun c_11 => ?_) (fun c_11 => ?_)
    · refine lv_iconst (v := 0) hx hb dX2_check_39 (by decide) ?_
      exact W.zret (v := 0) hx hb hr rfl (fun t ht _ => ⟨0, rfl, (by first | exact Or.inr ⟨rfl, fun h => h.1 c_4⟩ | exact Or.inr ⟨rfl, fun h => fq_b0 hw_8 c_11 h.2.1⟩ | exact Or.inr ⟨rfl, fun h => fq_b0 hw_15 c_18 h.2.2.1⟩ | exact Or.inr ⟨rfl, fun h => fq_b0 hw_22 c_25 h.2.2.2.1⟩ | exact Or.inr ⟨rfl, fun h => fq_b0 hw_29 c_32 h.2.2.2.2⟩ | exact Or.inl ⟨rfl, c_4, fq_b1 hw_8 c_11, fq_b1 hw_15 c_18, fq_b1 hw_22 c_25, fq_b1 hw_29 c_32⟩), ht⟩) (fun _ h => by cases h) dX2_check_40
    · refine lv_aload_n hx hb dX2_check_14 rfl (lv_at hl 0 rfl) ?_
      have hPc := hP.sub (ws' := [(q 0, .inr (2, [.ref (q 1), .ref (q 7), .ref (q 10), .ref (q 13), .int wl, .int src, .int snk, .int cir, .int sol, .int rd, .int fw])), (q 1, .inr (1, [.int (nI N), .ref (q 2), .ref (q 3), .ref (q 4), .ref (q 5), .ref (q 6), .int (nI E)])), (q 2, .inl (cI, M, .inl fr)), (q 3, .inl (cI, M, .inl to)), (q 4, .inl (cI, M, .inl cap)), (q 5, .inl (cI, M, .inl uc)), (q 6, .inl (cI, M, .inl fl))]) [0, 1, 2, 3, 4, 5, 6] rfl
      refine vp_callSi (W.runV (As := []) (rest := []) ⟨hx, hb, hml, hown, hts⟩ (k_nodesPassOn l dC dI cI cJ cZ q N M E fr to cap uc fl le fe lt ft wy wl src snk cir sol rd fw hE hM hN) (cwV 0 hts gX2_check_X2_nodesPassOn rfl rfl rfl (by decide +kernel) ⟨Nat.le_of_ble_eq_true rfl, Nat.le_of_ble_eq_true rfl⟩) ⟨fun a U g mk q => by obtain ⟨q0, qP, qK⟩ := q; exact ⟨q0, qP, va_K.moved (u := U) (U := U.calling g mk a) (Vm.Alike.refl U.vm) qK⟩, va_recv hK hP (ci := 2) (q0 := 0) rfl rfl, fun U hU hW => ⟨rfl, by rw [hU]; exact hPc, va_K.moved hW.alike hK⟩⟩ rfl rfl hl.1 rfl (lv_room (Nat.le_of_ble_eq_true rfl)) dX2_check_15 ⟨Nat.le_of_ble_eq_true rfl, Nat.le_of_ble_eq_true rfl⟩) (fun r_15 hw_15 => ?_)
      refine lv_if_eq (tgt := 39) hx hb dX2_check_18 (by decide) (fun c_18 => ?_) (fun c_18 => ?_)
      · refine lv_iconst (v := 0) hx hb dX2_check_39 (by decide) ?_
        exact W.zret (v := 0) hx hb hr rfl (fun t ht _ => ⟨0, rfl, (by first | exact Or.inr ⟨rfl, fun h => h.1 c_4⟩ | exact Or.inr ⟨rfl, fun h => fq_b0 hw_8 c_11 h.2.1⟩ | exact Or.inr ⟨rfl, fun h => fq_b0 hw_15 c_18 h.2.2.1⟩ | exact Or.inr ⟨rfl, fun h => fq_b0 hw_22 c_25 h.2.2.2.1⟩ | exact Or.inr ⟨rfl, fun h => fq_b0 hw_29 c_32 h.2.2.2.2⟩ | exact Or.inl ⟨rfl, c_4, fq_b1 hw_8 c_11, fq_b1 hw_15 c_18, fq_b1 hw_22 c_25, fq_b1 hw_29 c_32⟩), ht⟩) (fun _ h => by cases h) dX2_check_40
      · refine lv_aload_n hx hb dX2_check_21 rfl (lv_at hl 0 rfl) ?_
        have hPc := hP.sub (ws' := [(q 0, .inr (2, [.ref (q 1), .ref (q 7), .ref (q 10), .ref (q 13), .int wl, .int src, .int snk, .int cir, .int sol, .int rd, .int fw])), (q 1, .inr (1, [.int (nI N), .ref (q 2), .ref (q 3), .ref (q 4), .ref (q 5), .ref (q 6), .int (nI E)])), (q 2, .inl (cI, M, .inl fr)), (q 3, .inl (cI, M, .inl to)), (q 4, .inl (cI, M, .inl cap)), (q 5, .inl (cI, M, .inl uc)), (q 6, .inl (cI, M, .inl fl)), (q 7, .inr (0, [.ref (q 8), .ref (q 9), .ref (q 1)])), (q 8, .inl (cI, N, .inl le)), (q 9, .inl (cI, N, .inl fe))]) [0, 1, 2, 3, 4, 5, 6, 7, 8, 9] rfl
        refine vp_callSi (W.runV (As := []) (rest := []) ⟨hx, hb, hml, hown, hts⟩ (k_cutIsTight l dC dI cI cJ cZ q N M E fr to cap uc fl le fe lt ft wy wl src snk cir sol rd fw hE hM hN hfr hto) (cwV 0 hts gX2_check_X2_cutIsTight rfl rfl rfl (by decide +kernel) ⟨Nat.le_of_ble_eq_true rfl, Nat.le_of_ble_eq_true rfl⟩) ⟨fun a U g mk q => by obtain ⟨q0, qP, qK⟩ := q; exact ⟨q0, qP, va_K.moved (u := U) (U := U.calling g mk a) (Vm.Alike.refl U.vm) qK⟩, va_recv hK hP (ci := 2) (q0 := 0) rfl rfl, fun U hU hW => ⟨rfl, by rw [hU]; exact hPc, va_K.moved hW.alike hK⟩⟩ rfl rfl hl.1 rfl (lv_room (Nat.le_of_ble_eq_true rfl)) dX2_check_22 ⟨Nat.le_of_ble_eq_true rfl, Nat.le_of_ble_eq_true rfl⟩) (fun r_22 hw_22 => ?_)
        refine lv_if_eq (tgt := 39) hx hb dX2_check_25 (by decide) (fun c_25 => ?_) (fun c_25 => ?_)
        · refine lv_iconst (v := 0) hx hb dX2_check_39 (by decide) ?_
          exact W.zret (v := 0) hx hb hr rfl (fun t ht _ => ⟨0, rfl, (by first | exact Or.inr ⟨rfl, fun h => h.1 c_4⟩ | exact Or.inr ⟨rfl, fun h => fq_b0 hw_8 c_11 h.2.1⟩ | exact Or.inr ⟨rfl, fun h => fq_b0 hw_15 c_18 h.2.2.1⟩ | exact Or.inr ⟨rfl, fun h => fq_b0 hw_22 c_25 h.2.2.2.1⟩ | exact Or.inr ⟨rfl, fun h => fq_b0 hw_29 c_32 h.2.2.2.2⟩ | exact Or.inl ⟨rfl, c_4, fq_b1 hw_8 c_11, fq_b1 hw_15 c_18, fq_b1 hw_22 c_25, fq_b1 hw_29 c_32⟩), ht⟩) (fun _ h => by cases h) dX2_check_40
        · refine lv_aload_n hx hb dX2_check_28 rfl (lv_at hl 0 rfl) ?_
          have hPc := hP.sub (ws' := [(q 0, .inr (2, [.ref (q 1), .ref (q 7), .ref (q 10), .ref (q 13), .int wl, .int src, .int snk, .int cir, .int sol, .int rd, .int fw])), (q 1, .inr (1, [.int (nI N), .ref (q 2), .ref (q 3), .ref (q 4), .ref (q 5), .ref (q 6), .int (nI E)])), (q 2, .inl (cI, M, .inl fr)), (q 3, .inl (cI, M, .inl to)), (q 4, .inl (cI, M, .inl cap)), (q 5, .inl (cI, M, .inl uc)), (q 6, .inl (cI, M, .inl fl)), (q 7, .inr (0, [.ref (q 8), .ref (q 9), .ref (q 1)])), (q 8, .inl (cI, N, .inl le)), (q 9, .inl (cI, N, .inl fe))]) [0, 1, 2, 3, 4, 5, 6, 7, 8, 9] rfl
          refine vp_callSi (W.runV (As := []) (rest := []) ⟨hx, hb, hml, hown, hts⟩ (k_potentialsHold l dC dI cI cJ cZ q N M E fr to cap uc fl le fe lt ft wy wl src snk cir sol rd fw hE hM hN hfr hto) (cwV 0 hts gX2_check_X2_potentialsHold rfl rfl rfl (by decide +kernel) ⟨Nat.le_of_ble_eq_true rfl, Nat.le_of_ble_eq_true rfl⟩) ⟨fun a U g mk q => by obtain ⟨q0, qP, qK⟩ := q; exact ⟨q0, qP, va_K.moved (u := U) (U := U.calling g mk a) (Vm.Alike.refl U.vm) qK⟩, va_recv hK hP (ci := 2) (q0 := 0) rfl rfl, fun U hU hW => ⟨rfl, by rw [hU]; exact hPc, va_K.moved hW.alike hK⟩⟩ rfl rfl hl.1 rfl (lv_room (Nat.le_of_ble_eq_true rfl)) dX2_check_29 ⟨Nat.le_of_ble_eq_true rfl, Nat.le_of_ble_eq_true rfl⟩) (fun r_29 hw_29 => ?_)
          refine lv_if_eq (tgt := 39) hx hb dX2_check_32 (by decide) (fun c_32 => ?_) (fun c_32 => ?_)
          · refine lv_iconst (v := 0) hx hb dX2_check_39 (by decide) ?_
            exact W.zret (v := 0) hx hb hr rfl (fun t ht _ => ⟨0, rfl, (by first | exact Or.inr ⟨rfl, fun h => h.1 c_4⟩ | exact Or.inr ⟨rfl, fun h => fq_b0 hw_8 c_11 h.2.1⟩ | exact Or.inr ⟨rfl, fun h => fq_b0 hw_15 c_18 h.2.2.1⟩ | exact Or.inr ⟨rfl, fun h => fq_b0 hw_22 c_25 h.2.2.2.1⟩ | exact Or.inr ⟨rfl, fun h => fq_b0 hw_29 c_32 h.2.2.2.2⟩ | exact Or.inl ⟨rfl, c_4, fq_b1 hw_8 c_11, fq_b1 hw_15 c_18, fq_b1 hw_22 c_25, fq_b1 hw_29 c_32⟩), ht⟩) (fun _ h => by cases h) dX2_check_40
          · refine lv_iconst (v := 1) hx hb dX2_check_35 (by decide) ?_
            refine lv_goto (tgt := 40) hx hb dX2_check_36 (by decide) ?_
            exact W.zret (v := 1) hx hb hr rfl (fun t ht _ => ⟨1, rfl, (by first | exact Or.inr ⟨rfl, fun h => h.1 c_4⟩ | exact Or.inr ⟨rfl, fun h => fq_b0 hw_8 c_11 h.2.1⟩ | exact Or.inr ⟨rfl, fun h => fq_b0 hw_15 c_18 h.2.2.1⟩ | exact Or.inr ⟨rfl, fun h => fq_b0 hw_22 c_25 h.2.2.2.1⟩ | exact Or.inr ⟨rfl, fun h => fq_b0 hw_29 c_32 h.2.2.2.2⟩ | exact Or.inl ⟨rfl, c_4, fq_b1 hw_8 c_11, fq_b1 hw_15 c_18, fq_b1 hw_22 c_25, fq_b1 hw_29 c_32⟩), ht⟩) (fun _ h => by cases h) dX2_check_40
end
section
def fp_nx (fr to cap uc fl lt ft : Nat → Int32) (E : Nat) (v : Int32) : Int32 := fp_la (fp_tg fr to cap uc fl lt ft v) (2 * E) 0
def fp_nd (nx : Int32 → Int32) (fr to : Nat → Int32) (src : Int32) : Nat → Int32
  | 0 => src
  | j + 1 => fp_en fr to (nx (fp_nd nx fr to src j)).toNatClampNeg
def fp_ar (nx : Int32 → Int32) (fr to : Nat → Int32) (src : Int32) (j : Nat) : Nat := (nx (fp_nd nx fr to src j)).toNatClampNeg
/-- a way of K arcs from src to snk by nx -/
def fp_way (nx : Int32 → Int32) (fr to : Nat → Int32) (N E : Nat) (src snk : Int32) (K : Nat) : Prop :=
  0 < K ∧ K < N ∧ fp_nd nx fr to src K = snk ∧ ∀ j, j < K → ¬ fp_nd nx fr to src j = snk ∧ vp_in (fp_nd nx fr to src j) N ∧ nx (fp_nd nx fr to src j) = nI (fp_ar nx fr to src j) ∧ fp_ar nx fr to src j < 2 * E
def fp_mn (f : Nat → Int32) (ar : Nat → Nat) : Nat → Int32
  | 0 => f (ar 0)
  | n + 1 => if f (ar (n + 1)) < fp_mn f ar n then f (ar (n + 1)) else fp_mn f ar n
def fp_sd (fl : Nat → Int32) (ar : Nat → Nat) (x : Int32) : Nat → (Nat → Int32)
  | 0 => fl
  | i + 1 => fp_send (fp_sd fl ar x i) (ar i) x
theorem nI_nm1 {n : Nat} (h : n < 2 ^ 31) : ¬ nI n = -1 := fun q => nI_pos h (by rw [q]; decide)
/-- labels to the sink -/
def fp_lab (fr to cap uc : Nat → Int32) (N E : Nat) (snk : Int32) (fl : Nat → Int32) : (Nat → Int32) × (Nat → Int32) × Int32 := fp_se true fr to cap uc fl (2 * E) N (upd (fun _ => 2147483647) snk.toNatClampNeg 0) (fun _ => 0)
/-- labels from the source -/
def fp_fab (fr to cap uc : Nat → Int32) (N E : Nat) (src : Int32) (fl : Nat → Int32) : (Nat → Int32) × (Nat → Int32) × Int32 := fp_se false fr to cap uc fl (2 * E) N (upd (fun _ => 2147483647) src.toNatClampNeg 0) (fun _ => 0)
def fp_nxf (fr to cap uc : Nat → Int32) (N E : Nat) (snk : Int32) (fl : Nat → Int32) : Int32 → Int32 := fp_nx fr to cap uc fl (fp_lab fr to cap uc N E snk fl).1 (fp_lab fr to cap uc N E snk fl).2.1 E
def fp_K (fr to cap uc : Nat → Int32) (N E : Nat) (src snk : Int32) (fl : Nat → Int32) : Nat := ((fp_lab fr to cap uc N E snk fl).2.1 src.toNatClampNeg).toNatClampNeg
def fp_am (fr to cap uc : Nat → Int32) (N E : Nat) (src snk : Int32) (fl : Nat → Int32) : Int32 := fp_mn (fp_lf cap fl) (fp_ar (fp_nxf fr to cap uc N E snk fl) fr to src) (fp_K fr to cap uc N E src snk fl - 1)
def fp_nf (fr to cap uc : Nat → Int32) (N E : Nat) (src snk : Int32) (fl : Nat → Int32) : Nat → Int32 := fp_sd fl (fp_ar (fp_nxf fr to cap uc N E snk fl) fr to src) (fp_am fr to cap uc N E src snk fl) (fp_K fr to cap uc N E src snk fl)
def fp_F (fr to cap uc : Nat → Int32) (N E : Nat) (src snk : Int32) (fl : Nat → Int32) : Nat → (Nat → Int32)
  | 0 => fl
  | j + 1 => fp_nf fr to cap uc N E src snk (fp_F fr to cap uc N E src snk fl j)
def fp_W (fr to cap uc : Nat → Int32) (N E : Nat) (src snk : Int32) (fl : Nat → Int32) (fw : Int32) : Nat → Int32
  | 0 => fw
  | j + 1 => fp_W fr to cap uc N E src snk fl fw j + fp_am fr to cap uc N E src snk (fp_F fr to cap uc N E src snk fl j)
def fp_fo (fr to cap uc : Nat → Int32) (N E : Nat) (src snk : Int32) (fl : Nat → Int32) : Prop := ¬ (fp_lab fr to cap uc N E snk fl).1 src.toNatClampNeg = 2147483647
theorem tr_hg {g : Nat → Int32} {ar : Nat → Nat} {k : Nat} (hg : ∀ j, j < k → g j = nI (ar j)) : ∀ j, j < k + 1 → upd g k (nI (ar k)) j = nI (ar j) := by
  intro j hj
  unfold upd
  by_cases hjk : j = k
  · rw [if_pos hjk, hjk]
  · rw [if_neg hjk]; exact hg j (by omega)
end
section
theorem fa_within_0 : Cond.methodLink RX2 128 Lib.Math.min.name ∈ wsX2_within := by decide +kernel
theorem fa_within_1 : Cond.static Lib.Math.min.name ∈ wsX2_within := by decide +kernel
theorem fa_within_2 : Cond.initialized "java/lang/Math" ∈ wsX2_within := by decide +kernel
theorem fa_within_3 : Cond.code Lib.Math.min.name Lib.Math.min.code 2 (some .int) ∈ wsX2_within := by decide +kernel
theorem fa_within_4 : Cond.methodLink RX2 134 Lib.Math.max.name ∈ wsX2_within := by decide +kernel
theorem fa_within_5 : Cond.static Lib.Math.max.name ∈ wsX2_within := by decide +kernel
theorem fa_within_6 : Cond.code Lib.Math.max.name Lib.Math.max.code 2 (some .int) ∈ wsX2_within := by decide +kernel
set_option maxHeartbeats 4000000 in
set_option maxRecDepth 100000 in
theorem k_within (l : Launch) (dC : Nat → ClassId) (dI : Nat → Nat → Nat) (cI cJ cZ : ClassId) (n lo hi : Int32)  : Met l yX2_within wsX2_within ({ frames := 1, cells := 0, slots := 0, locals := 21 }) (va_Pc [.int n, .int lo, .int hi] (fun U => va_P (dC, dI) vwCl [] U.heap ∧ va_K (dC, dI) vwCl [(cI, .int), (cJ, .long), (cZ, .boolean)] U)) (vp_Si (fun r => r = (if lo < (if n < hi then n else hi) then (if n < hi then n else hi) else lo))) 0 0 (fun _ => False) := by
  refine Met.ofW (cc := cX2_within) (maxL := 3) (ret := (some .int)) (by decide) rfl ?_
  intro p e s m args below meth c s₁ B hml hv
  obtain ⟨rfl, hP, hK⟩ := hv
  have hx := B.exec
  have hb := B.bytes
  have hr := B.returns
  have hts := atoms_spec (ws := wsX2_within) B.pre
  have hown : s.vm.findClass RX2 = some m.cls := findClass_of_methodNamed B.named
  have hlocks := B.notSynchronized
  have hP : va_P (dC, dI) vwCl [] s.heap := hP
  have hl := lv_entry ([.int n, .int lo, .int hi]) (n := 3) (Nat.le_of_ble_eq_true rfl)
  rw [lg_entry_eq]
  generalize (lg_sl ([.int n, .int lo, .int hi]) ++ List.replicate (3 - (lg_sl ([.int n, .int lo, .int hi])).length) Slot.unset).toArray = ls at hl ⊢
  have hl : lv_has ls 3 [(0, .int n), (1, .int lo), (2, .int hi)] := hl
  refine lv_iload_n hx hb dX2_within_0 rfl (lv_at hl 1 rfl) ?_
  refine lv_iload_n hx hb dX2_within_1 rfl (lv_at hl 2 rfl) ?_
  refine lv_iload_n hx hb dX2_within_2 rfl (lv_at hl 0 rfl) ?_
  refine va_mmin hx hb (by rw [hml]; exact hl.1.symm) hown (hts _ fa_within_0) (hts _ fa_within_1) (hts _ fa_within_2) (hts _ fa_within_3) (Nat.le_of_ble_eq_true rfl) (Nat.le_of_ble_eq_true rfl) (Nat.zero_le _) (Nat.zero_le _) dX2_within_3 ?_
  refine va_mmax hx hb (by rw [hml]; exact hl.1.symm) hown (hts _ fa_within_4) (hts _ fa_within_5) (hts _ fa_within_2) (hts _ fa_within_6) (Nat.le_of_ble_eq_true rfl) (Nat.le_of_ble_eq_true rfl) (Nat.zero_le _) (Nat.zero_le _) dX2_within_6 ?_
  exact W.iret (v := (if lo < (if n < hi then n else hi) then (if n < hi then n else hi) else lo)) hx hb hr (fun t ht _ => ⟨(if lo < (if n < hi then n else hi) then (if n < hi then n else hi) else lo), rfl, rfl, ht⟩) (fun _ h => by cases h) dX2_within_9

theorem fa_traceWay_0 : ∀ w ∈ wsX20, w ∈ wsX2_traceWay := by decide +kernel
theorem fa_traceWay_1 : Cond.fieldLink RX2 150 "FlowProofs" "wayLength" "I" ∈ wsX2_traceWay := by decide +kernel
theorem fa_traceWay_2 : Cond.fieldLink RX2 11 "FlowProofs" "source" "I" ∈ wsX2_traceWay := by decide +kernel
theorem fa_traceWay_3 : Cond.fieldLink RX2 15 "FlowProofs" "sink" "I" ∈ wsX2_traceWay := by decide +kernel
theorem fa_traceWay_4 : Cond.fieldLink RX2 43 "FlowProofs" "way" "[I" ∈ wsX2_traceWay := by decide +kernel
theorem fa_traceWay_5 : Cond.fieldLink RX2 40 "FlowProofs" "toSink" "LFlowProofs$Distances;" ∈ wsX2_traceWay := by decide +kernel
theorem fa_traceWay_6 : Cond.fieldLink RX2 27 "FlowProofs" "net" "LFlowProofs$Net;" ∈ wsX2_traceWay := by decide +kernel
set_option maxHeartbeats 4000000 in
set_option maxRecDepth 100000 in
theorem k_traceWay (l : Launch) (dC : Nat → ClassId) (dI : Nat → Nat → Nat) (cI cJ cZ : ClassId) (q : Nat → Nat) (N M E : Nat) (fr to cap uc fl lt ft wy : Nat → Int32) (wl src snk cir sol rd fw : Int32) (K : Nat) (sz : Nat) (hE : E ≤ M) (hM : M < 1000) (hN : N < 1000) (hfr : ∀ e, e < E → vp_in (fr e) N) (hto : ∀ e, e < E → vp_in (to e) N) (hw : fp_way (fp_nx fr to cap uc fl lt ft E) fr to N E src snk K) : Met l yX2_traceWay wsX2_traceWay ({ frames := 3, cells := 0, slots := 0, locals := 65 }) (va_Pc [.ref (q 0)] (fun U => U.heap.size = sz ∧ va_P (dC, dI) vwCl [(q 0, .inr (2, [.ref (q 1), .ref (q 7), .ref (q 10), .ref (q 13), .int wl, .int src, .int snk, .int cir, .int sol, .int rd, .int fw])), (q 1, .inr (1, [.int (nI N), .ref (q 2), .ref (q 3), .ref (q 4), .ref (q 5), .ref (q 6), .int (nI E)])), (q 2, .inl (cI, M, .inl fr)), (q 3, .inl (cI, M, .inl to)), (q 4, .inl (cI, M, .inl cap)), (q 5, .inl (cI, M, .inl uc)), (q 6, .inl (cI, M, .inl fl)), (q 10, .inr (0, [.ref (q 11), .ref (q 12), .ref (q 1)])), (q 11, .inl (cI, N, .inl lt)), (q 12, .inl (cI, N, .inl ft)), (q 13, .inl (cI, N, .inl wy))] U.heap ∧ va_K (dC, dI) vwCl [(cI, .int), (cJ, .long), (cZ, .boolean)] U ∧ va_D (fun _ => True) [(q 0, .inr (2, [.ref (q 1), .ref (q 7), .ref (q 10), .ref (q 13), .int wl, .int src, .int snk, .int cir, .int sol, .int rd, .int fw])), (q 1, .inr (1, [.int (nI N), .ref (q 2), .ref (q 3), .ref (q 4), .ref (q 5), .ref (q 6), .int (nI E)])), (q 2, .inl (cI, M, .inl fr)), (q 3, .inl (cI, M, .inl to)), (q 4, .inl (cI, M, .inl cap)), (q 5, .inl (cI, M, .inl uc)), (q 6, .inl (cI, M, .inl fl)), (q 10, .inr (0, [.ref (q 11), .ref (q 12), .ref (q 1)])), (q 11, .inl (cI, N, .inl lt)), (q 12, .inl (cI, N, .inl ft)), (q 13, .inl (cI, N, .inl wy))])) (va_Qv (fun (u : Nat → Int32) => ∀ j, j < K → u j = nI ((fp_ar (fp_nx fr to cap uc fl lt ft E) fr to src) j)) (fun (u : Nat → Int32) (t : State) => va_P (dC, dI) vwCl [(q 0, .inr (2, [.ref (q 1), .ref (q 7), .ref (q 10), .ref (q 13), .int (nI K), .int src, .int snk, .int cir, .int sol, .int rd, .int fw])), (q 1, .inr (1, [.int (nI N), .ref (q 2), .ref (q 3), .ref (q 4), .ref (q 5), .ref (q 6), .int (nI E)])), (q 2, .inl (cI, M, .inl fr)), (q 3, .inl (cI, M, .inl to)), (q 4, .inl (cI, M, .inl cap)), (q 5, .inl (cI, M, .inl uc)), (q 6, .inl (cI, M, .inl fl)), (q 10, .inr (0, [.ref (q 11), .ref (q 12), .ref (q 1)])), (q 11, .inl (cI, N, .inl lt)), (q 12, .inl (cI, N, .inl ft)), (q 13, .inl (cI, N, .inl u))] t.heap ∧ va_K (dC, dI) vwCl [(cI, .int), (cJ, .long), (cZ, .boolean)] t ∧ va_D (va_A [(q 0, .inr (2, [.ref (q 1), .ref (q 7), .ref (q 10), .ref (q 13), .int wl, .int src, .int snk, .int cir, .int sol, .int rd, .int fw])), (q 1, .inr (1, [.int (nI N), .ref (q 2), .ref (q 3), .ref (q 4), .ref (q 5), .ref (q 6), .int (nI E)])), (q 2, .inl (cI, M, .inl fr)), (q 3, .inl (cI, M, .inl to)), (q 4, .inl (cI, M, .inl cap)), (q 5, .inl (cI, M, .inl uc)), (q 6, .inl (cI, M, .inl fl)), (q 10, .inr (0, [.ref (q 11), .ref (q 12), .ref (q 1)])), (q 11, .inl (cI, N, .inl lt)), (q 12, .inl (cI, N, .inl ft)), (q 13, .inl (cI, N, .inl wy))] sz) [(q 0, .inr (2, [.ref (q 1), .ref (q 7), .ref (q 10), .ref (q 13), .int (nI K), .int src, .int snk, .int cir, .int sol, .int rd, .int fw])), (q 1, .inr (1, [.int (nI N), .ref (q 2), .ref (q 3), .ref (q 4), .ref (q 5), .ref (q 6), .int (nI E)])), (q 2, .inl (cI, M, .inl fr)), (q 3, .inl (cI, M, .inl to)), (q 4, .inl (cI, M, .inl cap)), (q 5, .inl (cI, M, .inl uc)), (q 6, .inl (cI, M, .inl fl)), (q 10, .inr (0, [.ref (q 11), .ref (q 12), .ref (q 1)])), (q 11, .inl (cI, N, .inl lt)), (q 12, .inl (cI, N, .inl ft)), (q 13, .inl (cI, N, .inl u))]) (va_A [(q 0, .inr (2, [.ref (q 1), .ref (q 7), .ref (q 10), .ref (q 13), .int wl, .int src, .int snk, .int cir, .int sol, .int rd, .int fw])), (q 1, .inr (1, [.int (nI N), .ref (q 2), .ref (q 3), .ref (q 4), .ref (q 5), .ref (q 6), .int (nI E)])), (q 2, .inl (cI, M, .inl fr)), (q 3, .inl (cI, M, .inl to)), (q 4, .inl (cI, M, .inl cap)), (q 5, .inl (cI, M, .inl uc)), (q 6, .inl (cI, M, .inl fl)), (q 10, .inr (0, [.ref (q 11), .ref (q 12), .ref (q 1)])), (q 11, .inl (cI, N, .inl lt)), (q 12, .inl (cI, N, .inl ft)), (q 13, .inl (cI, N, .inl wy))] sz)) 0 0 (va_A [(q 0, .inr (2, [.ref (q 1), .ref (q 7), .ref (q 10), .ref (q 13), .int wl, .int src, .int snk, .int cir, .int sol, .int rd, .int fw])), (q 1, .inr (1, [.int (nI N), .ref (q 2), .ref (q 3), .ref (q 4), .ref (q 5), .ref (q 6), .int (nI E)])), (q 2, .inl (cI, M, .inl fr)), (q 3, .inl (cI, M, .inl to)), (q 4, .inl (cI, M, .inl cap)), (q 5, .inl (cI, M, .inl uc)), (q 6, .inl (cI, M, .inl fl)), (q 10, .inr (0, [.ref (q 11), .ref (q 12), .ref (q 1)])), (q 11, .inl (cI, N, .inl lt)), (q 12, .inl (cI, N, .inl ft)), (q 13, .inl (cI, N, .inl wy))] sz) := by
  refine Met.ofW (cc := cX2_traceWay) (maxL := 3) (ret := none) (by decide) rfl ?_
  intro p e s m args below meth c s₁ B hml hv
  obtain ⟨rfl, hsz, hP, hK, hD0⟩ := hv
  have hx := B.exec
  have hb := B.bytes
  have hr := B.returns
  have hts := atoms_spec (ws := wsX2_traceWay) B.pre
  have hown : s.vm.findClass RX2 = some m.cls := findClass_of_methodNamed B.named
  have hlocks := B.notSynchronized
  subst hsz
  have hD := hD0.self (sz := s.heap.size)
  generalize hAe : va_A [(q 0, .inr (2, [.ref (q 1), .ref (q 7), .ref (q 10), .ref (q 13), .int wl, .int src, .int snk, .int cir, .int sol, .int rd, .int fw])), (q 1, .inr (1, [.int (nI N), .ref (q 2), .ref (q 3), .ref (q 4), .ref (q 5), .ref (q 6), .int (nI E)])), (q 2, .inl (cI, M, .inl fr)), (q 3, .inl (cI, M, .inl to)), (q 4, .inl (cI, M, .inl cap)), (q 5, .inl (cI, M, .inl uc)), (q 6, .inl (cI, M, .inl fl)), (q 10, .inr (0, [.ref (q 11), .ref (q 12), .ref (q 1)])), (q 11, .inl (cI, N, .inl lt)), (q 12, .inl (cI, N, .inl ft)), (q 13, .inl (cI, N, .inl wy))] s.heap.size = A at hD ⊢
  have hA : ∀ q : Nat, s.heap.size ≤ q → A q := fun q h => by rw [← hAe]; exact Or.inr h
  have hS : va_S A s.heap s.heap [] := va_S.rf
  have hP : va_P (dC, dI) vwCl [(q 0, .inr (2, [.ref (q 1), .ref (q 7), .ref (q 10), .ref (q 13), .int wl, .int src, .int snk, .int cir, .int sol, .int rd, .int fw])), (q 1, .inr (1, [.int (nI N), .ref (q 2), .ref (q 3), .ref (q 4), .ref (q 5), .ref (q 6), .int (nI E)])), (q 2, .inl (cI, M, .inl fr)), (q 3, .inl (cI, M, .inl to)), (q 4, .inl (cI, M, .inl cap)), (q 5, .inl (cI, M, .inl uc)), (q 6, .inl (cI, M, .inl fl)), (q 10, .inr (0, [.ref (q 11), .ref (q 12), .ref (q 1)])), (q 11, .inl (cI, N, .inl lt)), (q 12, .inl (cI, N, .inl ft)), (q 13, .inl (cI, N, .inl wy))] s.heap := hP
  have hl := lv_entry ([.ref (q 0)]) (n := 3) (Nat.le_of_ble_eq_true rfl)
  rw [lg_entry_eq]
  generalize (lg_sl ([.ref (q 0)]) ++ List.replicate (3 - (lg_sl ([.ref (q 0)])).length) Slot.unset).toArray = ls at hl ⊢
  have hl : lv_has ls 3 [(0, .ref (q 0))] := hl
  refine lv_aload_n hx hb dX2_traceWay_0 rfl (lv_at hl 0 rfl) ?_
  refine lv_iconst (v := 0) hx hb dX2_traceWay_1 (by decide) ?_
  refine tp_i (y := nI 0) nI_0.symm ?_
  refine va_put (D := (dC, dI)) (ci := 2) (v := .int (nI 0)) (ty := .int) (C := RX2) (T := TX2) (N := 11) hx hb hts fa_traceWay_0 tyX2 tyX2_ok nmX2 hown hK hP hD hS 0 rfl rfl 4 (by decide) (hts _ fa_traceWay_1) (fun _ h9 => h9) rfl (by decide +kernel) rfl rfl (Nat.le_of_ble_eq_true rfl) dX2_traceWay_2 (fun H locs hP hD hS => ?_)
  have hP : va_P (dC, dI) vwCl [(q 0, .inr (2, [.ref (q 1), .ref (q 7), .ref (q 10), .ref (q 13), .int (nI 0), .int src, .int snk, .int cir, .int sol, .int rd, .int fw])), (q 1, .inr (1, [.int (nI N), .ref (q 2), .ref (q 3), .ref (q 4), .ref (q 5), .ref (q 6), .int (nI E)])), (q 2, .inl (cI, M, .inl fr)), (q 3, .inl (cI, M, .inl to)), (q 4, .inl (cI, M, .inl cap)), (q 5, .inl (cI, M, .inl uc)), (q 6, .inl (cI, M, .inl fl)), (q 10, .inr (0, [.ref (q 11), .ref (q 12), .ref (q 1)])), (q 11, .inl (cI, N, .inl lt)), (q 12, .inl (cI, N, .inl ft)), (q 13, .inl (cI, N, .inl wy))] H := hP
  have hD : va_D A [(q 0, .inr (2, [.ref (q 1), .ref (q 7), .ref (q 10), .ref (q 13), .int (nI 0), .int src, .int snk, .int cir, .int sol, .int rd, .int fw])), (q 1, .inr (1, [.int (nI N), .ref (q 2), .ref (q 3), .ref (q 4), .ref (q 5), .ref (q 6), .int (nI E)])), (q 2, .inl (cI, M, .inl fr)), (q 3, .inl (cI, M, .inl to)), (q 4, .inl (cI, M, .inl cap)), (q 5, .inl (cI, M, .inl uc)), (q 6, .inl (cI, M, .inl fl)), (q 10, .inr (0, [.ref (q 11), .ref (q 12), .ref (q 1)])), (q 11, .inl (cI, N, .inl lt)), (q 12, .inl (cI, N, .inl ft)), (q 13, .inl (cI, N, .inl wy))] := hD
  refine lv_aload_n hx hb dX2_traceWay_5 rfl (lv_at hl 0 rfl) ?_
  refine va_get (D := (dC, dI)) (ci := 2) (v := .int src) (C := RX2) (T := TX2) (N := 11) hx hb hts fa_traceWay_0 hown hK hP 0 rfl rfl 5 (by decide) (hts _ fa_traceWay_2) (fun _ h9 => h9) rfl dX2_traceWay_6 ?_
  refine lv_istore_n (lv' := [(1, .int src), (0, .ref (q 0))]) hx hb dX2_traceWay_9 rfl hl (by decide) rfl (fun ls hl => ?_)
  have lo_a : ∀ (nf : Nat) (k : Nat) (v : Int32) (g : Nat → Int32) (hk : k ≤ K) (hv : v = fp_nd (fp_nx fr to cap uc fl lt ft E) fr to src k) (hg : ∀ j, j < k → g j = nI ((fp_ar (fp_nx fr to cap uc fl lt ft E) fr to src) j)) (hfu : K - k < nf) (H : Heap) (locs : List Loc) (hP : va_P (dC, dI) vwCl [(q 0, .inr (2, [.ref (q 1), .ref (q 7), .ref (q 10), .ref (q 13), .int (nI k), .int src, .int snk, .int cir, .int sol, .int rd, .int fw])), (q 1, .inr (1, [.int (nI N), .ref (q 2), .ref (q 3), .ref (q 4), .ref (q 5), .ref (q 6), .int (nI E)])), (q 2, .inl (cI, M, .inl fr)), (q 3, .inl (cI, M, .inl to)), (q 4, .inl (cI, M, .inl cap)), (q 5, .inl (cI, M, .inl uc)), (q 6, .inl (cI, M, .inl fl)), (q 10, .inr (0, [.ref (q 11), .ref (q 12), .ref (q 1)])), (q 11, .inl (cI, N, .inl lt)), (q 12, .inl (cI, N, .inl ft)), (q 13, .inl (cI, N, .inl g))] H) (hD : va_D A [(q 0, .inr (2, [.ref (q 1), .ref (q 7), .ref (q 10), .ref (q 13), .int (nI k), .int src, .int snk, .int cir, .int sol, .int rd, .int fw])), (q 1, .inr (1, [.int (nI N), .ref (q 2), .ref (q 3), .ref (q 4), .ref (q 5), .ref (q 6), .int (nI E)])), (q 2, .inl (cI, M, .inl fr)), (q 3, .inl (cI, M, .inl to)), (q 4, .inl (cI, M, .inl cap)), (q 5, .inl (cI, M, .inl uc)), (q 6, .inl (cI, M, .inl fl)), (q 10, .inr (0, [.ref (q 11), .ref (q 12), .ref (q 1)])), (q 11, .inl (cI, N, .inl lt)), (q 12, .inl (cI, N, .inl ft)), (q 13, .inl (cI, N, .inl g))]) (hS : va_S A s.heap H locs) (ls : Array Slot) (hl : lv_has ls 3 [(0, .ref (q 0)), (1, .int v)]), W p l e (headSpec wsX2_traceWay ({ frames := 3, cells := 0, slots := 0, locals := 65 })).room s m ([.ref (q 0)] : List Value).toArray below meth c H locs 0 0 (MQ below (va_Qv (fun (u : Nat → Int32) => ∀ j, j < K → u j = nI ((fp_ar (fp_nx fr to cap uc fl lt ft E) fr to src) j)) (fun (u : Nat → Int32) (t : State) => va_P (dC, dI) vwCl [(q 0, .inr (2, [.ref (q 1), .ref (q 7), .ref (q 10), .ref (q 13), .int (nI K), .int src, .int snk, .int cir, .int sol, .int rd, .int fw])), (q 1, .inr (1, [.int (nI N), .ref (q 2), .ref (q 3), .ref (q 4), .ref (q 5), .ref (q 6), .int (nI E)])), (q 2, .inl (cI, M, .inl fr)), (q 3, .inl (cI, M, .inl to)), (q 4, .inl (cI, M, .inl cap)), (q 5, .inl (cI, M, .inl uc)), (q 6, .inl (cI, M, .inl fl)), (q 10, .inr (0, [.ref (q 11), .ref (q 12), .ref (q 1)])), (q 11, .inl (cI, N, .inl lt)), (q 12, .inl (cI, N, .inl ft)), (q 13, .inl (cI, N, .inl u))] t.heap ∧ va_K (dC, dI) vwCl [(cI, .int), (cJ, .long), (cZ, .boolean)] t ∧ va_D A [(q 0, .inr (2, [.ref (q 1), .ref (q 7), .ref (q 10), .ref (q 13), .int (nI K), .int src, .int snk, .int cir, .int sol, .int rd, .int fw])), (q 1, .inr (1, [.int (nI N), .ref (q 2), .ref (q 3), .ref (q 4), .ref (q 5), .ref (q 6), .int (nI E)])), (q 2, .inl (cI, M, .inl fr)), (q 3, .inl (cI, M, .inl to)), (q 4, .inl (cI, M, .inl cap)), (q 5, .inl (cI, M, .inl uc)), (q 6, .inl (cI, M, .inl fl)), (q 10, .inr (0, [.ref (q 11), .ref (q 12), .ref (q 1)])), (q 11, .inl (cI, N, .inl lt)), (q 12, .inl (cI, N, .inl ft)), (q 13, .inl (cI, N, .inl u))]) A) ([.ref (q 0)] : List Value).toArray s 0 0 A) (F0 m 10 ls [])
    := by
    intro nf
    induction nf with
    | zero => intro k v g hk hv hg hfu H locs hP hD hS ls hl; exact absurd hfu (Nat.not_lt_zero _)
    | succ nf ih_a =>
      intro k v g hk hv hg hfu H locs hP hD hS ls hl
      refine lv_iload_n hx hb dX2_traceWay_10 rfl (lv_at hl 1 rfl) ?_
      refine lv_aload_n hx hb dX2_traceWay_11 rfl (lv_at hl 0 rfl) ?_
      refine va_get (D := (dC, dI)) (ci := 2) (v := .int snk) (C := RX2) (T := TX2) (N := 11) hx hb hts fa_traceWay_0 hown hK hP 0 rfl rfl 6 (by decide) (hts _ fa_traceWay_3) (fun _ h9 => h9) rfl dX2_traceWay_12 ?_
      refine lv_icmp_eq (tgt := 77) hx hb dX2_traceWay_15 (by decide) (fun c_15 => ?_) (fun c_15 => ?_)
      · have hkK : k = K := by
          rcases Nat.lt_or_ge k K with h | h
          · exact absurd (hv ▸ c_15) (hw.2.2.2 k h).1
          · omega
        rw [hkK] at hP hD
        have hP9 := hP.sub (ws' := [(q 0, .inr (2, [.ref (q 1), .ref (q 7), .ref (q 10), .ref (q 13), .int (nI K), .int src, .int snk, .int cir, .int sol, .int rd, .int fw])), (q 1, .inr (1, [.int (nI N), .ref (q 2), .ref (q 3), .ref (q 4), .ref (q 5), .ref (q 6), .int (nI E)])), (q 2, .inl (cI, M, .inl fr)), (q 3, .inl (cI, M, .inl to)), (q 4, .inl (cI, M, .inl cap)), (q 5, .inl (cI, M, .inl uc)), (q 6, .inl (cI, M, .inl fl)), (q 10, .inr (0, [.ref (q 11), .ref (q 12), .ref (q 1)])), (q 11, .inl (cI, N, .inl lt)), (q 12, .inl (cI, N, .inl ft)), (q 13, .inl (cI, N, .inl g))]) [0, 1, 2, 3, 4, 5, 6, 7, 8, 9, 10] rfl
        have hD9 := hD.sub (ws' := [(q 0, .inr (2, [.ref (q 1), .ref (q 7), .ref (q 10), .ref (q 13), .int (nI K), .int src, .int snk, .int cir, .int sol, .int rd, .int fw])), (q 1, .inr (1, [.int (nI N), .ref (q 2), .ref (q 3), .ref (q 4), .ref (q 5), .ref (q 6), .int (nI E)])), (q 2, .inl (cI, M, .inl fr)), (q 3, .inl (cI, M, .inl to)), (q 4, .inl (cI, M, .inl cap)), (q 5, .inl (cI, M, .inl uc)), (q 6, .inl (cI, M, .inl fl)), (q 10, .inr (0, [.ref (q 11), .ref (q 12), .ref (q 1)])), (q 11, .inl (cI, N, .inl lt)), (q 12, .inl (cI, N, .inl ft)), (q 13, .inl (cI, N, .inl g))]) [0, 1, 2, 3, 4, 5, 6, 7, 8, 9, 10] (by decide) rfl
        exact W.vret hx hb hr (fun t ht hW => ⟨⟨g, rfl, (fun j hj => hg j (by omega)), by rw [ht]; exact hP9, va_K.moved hW.alike hK, hD9⟩, hS.F ht⟩) hS.2.2 dX2_traceWay_77
      · have hlt : k < K := by
          rcases Nat.lt_or_ge k K with h | h
          · exact h
          · exact absurd (by rw [hv, show k = K by omega]; exact hw.2.2.1) c_15
        have hKN := hw.2.1
        obtain ⟨-, hk2, hk3, hk4⟩ := hw.2.2.2 k hlt
        rw [← hv] at hk2
        refine lv_aload_n hx hb dX2_traceWay_18 rfl (lv_at hl 0 rfl) ?_
        refine va_get (D := (dC, dI)) (ci := 2) (v := .int (nI k)) (C := RX2) (T := TX2) (N := 11) hx hb hts fa_traceWay_0 hown hK hP 0 rfl rfl 4 (by decide) (hts _ fa_traceWay_1) (fun _ h9 => h9) rfl dX2_traceWay_19 ?_
        refine lv_aload_n hx hb dX2_traceWay_22 rfl (lv_at hl 0 rfl) ?_
        refine va_get (D := (dC, dI)) (ci := 2) (v := .ref (q 13)) (C := RX2) (T := TX2) (N := 11) hx hb hts fa_traceWay_0 hown hK hP 0 rfl rfl 3 (by decide) (hts _ fa_traceWay_4) (fun _ h9 => h9) rfl dX2_traceWay_23 ?_
        refine va_alen (D := (dC, dI)) (v := nI N) hx hb hK hP 10 0 rfl rfl rfl dX2_traceWay_26 ?_
        refine lv_icmp_ge (tgt := 77) hx hb dX2_traceWay_27 (by decide) (fun c_27 => ?_) (fun c_27 => ?_)
        · exact absurd (ix_ge (by omega) (by omega) c_27) (by omega)
        · refine lv_aload_n hx hb dX2_traceWay_30 rfl (lv_at hl 0 rfl) ?_
          refine va_get (D := (dC, dI)) (ci := 2) (v := .ref (q 10)) (C := RX2) (T := TX2) (N := 11) hx hb hts fa_traceWay_0 hown hK hP 0 rfl rfl 2 (by decide) (hts _ fa_traceWay_5) (fun _ h9 => h9) rfl dX2_traceWay_31 ?_
          refine lv_iload_n hx hb dX2_traceWay_34 rfl (lv_at hl 1 rfl) ?_
          have hPc := hP.sub (ws' := [(q 10, .inr (0, [.ref (q 11), .ref (q 12), .ref (q 1)])), (q 11, .inl (cI, N, .inl lt)), (q 12, .inl (cI, N, .inl ft)), (q 1, .inr (1, [.int (nI N), .ref (q 2), .ref (q 3), .ref (q 4), .ref (q 5), .ref (q 6), .int (nI E)])), (q 2, .inl (cI, M, .inl fr)), (q 3, .inl (cI, M, .inl to)), (q 4, .inl (cI, M, .inl cap)), (q 5, .inl (cI, M, .inl uc)), (q 6, .inl (cI, M, .inl fl))]) [7, 8, 9, 1, 2, 3, 4, 5, 6] rfl
          refine vp_callSi (W.runV (As := [.int v]) (rest := []) ⟨hx, hb, hml, hown, hts⟩ (k_lao l dC dI cI cJ cZ (q 10) (q 11) (q 12) q N M E fr to cap uc fl lt ft v hE hM hN hfr hto (by assumption)) (cwV 1 hts gX2_traceWay_X0_leastArcOnward rfl rfl rfl (by decide +kernel) ⟨Nat.le_of_ble_eq_true rfl, Nat.le_of_ble_eq_true rfl⟩) ⟨fun a U g mk q => by obtain ⟨q0, qP, qK⟩ := q; exact ⟨q0, qP, va_K.moved (u := U) (U := U.calling g mk a) (Vm.Alike.refl U.vm) qK⟩, va_recv hK hP (ci := 0) (q0 := 7) rfl rfl, fun U hU hW => ⟨rfl, by rw [hU]; exact hPc, va_K.moved hW.alike hK⟩⟩ rfl rfl hl.1 rfl (lv_room (Nat.le_of_ble_eq_true rfl)) dX2_traceWay_35 ⟨Nat.le_of_ble_eq_true rfl, Nat.le_of_ble_eq_true rfl⟩) (fun r_35 hw_35 => ?_)
          subst hw_35
          refine tp_i (y := nI ((fp_ar (fp_nx fr to cap uc fl lt ft E) fr to src) k)) (by rw [hv]; exact hk3) ?_
          refine lv_istore_n (lv' := [(2, .int (nI ((fp_ar (fp_nx fr to cap uc fl lt ft E) fr to src) k))), (0, .ref (q 0)), (1, .int v)]) hx hb dX2_traceWay_38 rfl hl (by decide) rfl (fun ls hl => ?_)
          refine lv_iload_n hx hb dX2_traceWay_39 rfl (lv_at hl 0 rfl) ?_
          refine lv_iconst (v := (-1)) hx hb dX2_traceWay_40 (by decide) ?_
          refine lv_icmp_ne (tgt := 45) hx hb dX2_traceWay_41 (by decide) (fun c_41 => ?_) (fun c_41 => ?_)
          · refine lv_aload_n hx hb dX2_traceWay_45 rfl (lv_at hl 1 rfl) ?_
            refine va_get (D := (dC, dI)) (ci := 2) (v := .ref (q 13)) (C := RX2) (T := TX2) (N := 11) hx hb hts fa_traceWay_0 hown hK hP 0 rfl rfl 3 (by decide) (hts _ fa_traceWay_4) (fun _ h9 => h9) rfl dX2_traceWay_46 ?_
            refine lv_aload_n hx hb dX2_traceWay_49 rfl (lv_at hl 1 rfl) ?_
            refine va_get (D := (dC, dI)) (ci := 2) (v := .int (nI k)) (C := RX2) (T := TX2) (N := 11) hx hb hts fa_traceWay_0 hown hK hP 0 rfl rfl 4 (by decide) (hts _ fa_traceWay_1) (fun _ h9 => h9) rfl dX2_traceWay_50 ?_
            refine lv_iload_n hx hb dX2_traceWay_53 rfl (lv_at hl 0 rfl) ?_
            refine va_iast (D := (dC, dI)) hx hb hK hP hD hS 10 0 rfl rfl (by first | assumption | exact vp_in_nI (by omega) (by omega)) dX2_traceWay_54 (fun H locs hP hD hS => ?_)
            have hP : va_P (dC, dI) vwCl [(q 0, .inr (2, [.ref (q 1), .ref (q 7), .ref (q 10), .ref (q 13), .int (nI k), .int src, .int snk, .int cir, .int sol, .int rd, .int fw])), (q 1, .inr (1, [.int (nI N), .ref (q 2), .ref (q 3), .ref (q 4), .ref (q 5), .ref (q 6), .int (nI E)])), (q 2, .inl (cI, M, .inl fr)), (q 3, .inl (cI, M, .inl to)), (q 4, .inl (cI, M, .inl cap)), (q 5, .inl (cI, M, .inl uc)), (q 6, .inl (cI, M, .inl fl)), (q 10, .inr (0, [.ref (q 11), .ref (q 12), .ref (q 1)])), (q 11, .inl (cI, N, .inl lt)), (q 12, .inl (cI, N, .inl ft)), (q 13, .inl (cI, N, .inl (upd g ((nI k).toNatClampNeg) (nI ((fp_ar (fp_nx fr to cap uc fl lt ft E) fr to src) k)))))] H := hP
            have hD : va_D A [(q 0, .inr (2, [.ref (q 1), .ref (q 7), .ref (q 10), .ref (q 13), .int (nI k), .int src, .int snk, .int cir, .int sol, .int rd, .int fw])), (q 1, .inr (1, [.int (nI N), .ref (q 2), .ref (q 3), .ref (q 4), .ref (q 5), .ref (q 6), .int (nI E)])), (q 2, .inl (cI, M, .inl fr)), (q 3, .inl (cI, M, .inl to)), (q 4, .inl (cI, M, .inl cap)), (q 5, .inl (cI, M, .inl uc)), (q 6, .inl (cI, M, .inl fl)), (q 10, .inr (0, [.ref (q 11), .ref (q 12), .ref (q 1)])), (q 11, .inl (cI, N, .inl lt)), (q 12, .inl (cI, N, .inl ft)), (q 13, .inl (cI, N, .inl (upd g ((nI k).toNatClampNeg) (nI ((fp_ar (fp_nx fr to cap uc fl lt ft E) fr to src) k)))))] := hD
            rw [nI_clamp (n := k) (by omega)] at hP hD
            have hP : va_P (dC, dI) vwCl [(q 0, .inr (2, [.ref (q 1), .ref (q 7), .ref (q 10), .ref (q 13), .int (nI k), .int src, .int snk, .int cir, .int sol, .int rd, .int fw])), (q 1, .inr (1, [.int (nI N), .ref (q 2), .ref (q 3), .ref (q 4), .ref (q 5), .ref (q 6), .int (nI E)])), (q 2, .inl (cI, M, .inl fr)), (q 3, .inl (cI, M, .inl to)), (q 4, .inl (cI, M, .inl cap)), (q 5, .inl (cI, M, .inl uc)), (q 6, .inl (cI, M, .inl fl)), (q 10, .inr (0, [.ref (q 11), .ref (q 12), .ref (q 1)])), (q 11, .inl (cI, N, .inl lt)), (q 12, .inl (cI, N, .inl ft)), (q 13, .inl (cI, N, .inl (upd g k (nI ((fp_ar (fp_nx fr to cap uc fl lt ft E) fr to src) k)))))] H := hP
            have hD : va_D A [(q 0, .inr (2, [.ref (q 1), .ref (q 7), .ref (q 10), .ref (q 13), .int (nI k), .int src, .int snk, .int cir, .int sol, .int rd, .int fw])), (q 1, .inr (1, [.int (nI N), .ref (q 2), .ref (q 3), .ref (q 4), .ref (q 5), .ref (q 6), .int (nI E)])), (q 2, .inl (cI, M, .inl fr)), (q 3, .inl (cI, M, .inl to)), (q 4, .inl (cI, M, .inl cap)), (q 5, .inl (cI, M, .inl uc)), (q 6, .inl (cI, M, .inl fl)), (q 10, .inr (0, [.ref (q 11), .ref (q 12), .ref (q 1)])), (q 11, .inl (cI, N, .inl lt)), (q 12, .inl (cI, N, .inl ft)), (q 13, .inl (cI, N, .inl (upd g k (nI ((fp_ar (fp_nx fr to cap uc fl lt ft E) fr to src) k)))))] := hD
            refine lv_aload_n hx hb dX2_traceWay_55 rfl (lv_at hl 1 rfl) ?_
            refine lv_dup hx hb dX2_traceWay_56 rfl ?_
            refine va_get (D := (dC, dI)) (ci := 2) (v := .int (nI k)) (C := RX2) (T := TX2) (N := 11) hx hb hts fa_traceWay_0 hown hK hP 0 rfl rfl 4 (by decide) (hts _ fa_traceWay_1) (fun _ h9 => h9) rfl dX2_traceWay_57 ?_
            refine lv_iconst (v := 1) hx hb dX2_traceWay_60 (by decide) ?_
            refine lv_iadd hx hb dX2_traceWay_61 ?_
            refine tp_i (y := nI (k + 1)) (nI_1 k) ?_
            refine va_put (D := (dC, dI)) (ci := 2) (v := .int (nI (k + 1))) (ty := .int) (C := RX2) (T := TX2) (N := 11) hx hb hts fa_traceWay_0 tyX2 tyX2_ok nmX2 hown hK hP hD hS 0 rfl rfl 4 (by decide) (hts _ fa_traceWay_1) (fun _ h9 => h9) rfl (by decide +kernel) rfl rfl (Nat.le_of_ble_eq_true rfl) dX2_traceWay_62 (fun H locs hP hD hS => ?_)
            have hP : va_P (dC, dI) vwCl [(q 0, .inr (2, [.ref (q 1), .ref (q 7), .ref (q 10), .ref (q 13), .int (nI (k + 1)), .int src, .int snk, .int cir, .int sol, .int rd, .int fw])), (q 1, .inr (1, [.int (nI N), .ref (q 2), .ref (q 3), .ref (q 4), .ref (q 5), .ref (q 6), .int (nI E)])), (q 2, .inl (cI, M, .inl fr)), (q 3, .inl (cI, M, .inl to)), (q 4, .inl (cI, M, .inl cap)), (q 5, .inl (cI, M, .inl uc)), (q 6, .inl (cI, M, .inl fl)), (q 10, .inr (0, [.ref (q 11), .ref (q 12), .ref (q 1)])), (q 11, .inl (cI, N, .inl lt)), (q 12, .inl (cI, N, .inl ft)), (q 13, .inl (cI, N, .inl (upd g k (nI ((fp_ar (fp_nx fr to cap uc fl lt ft E) fr to src) k)))))] H := hP
            have hD : va_D A [(q 0, .inr (2, [.ref (q 1), .ref (q 7), .ref (q 10), .ref (q 13), .int (nI (k + 1)), .int src, .int snk, .int cir, .int sol, .int rd, .int fw])), (q 1, .inr (1, [.int (nI N), .ref (q 2), .ref (q 3), .ref (q 4), .ref (q 5), .ref (q 6), .int (nI E)])), (q 2, .inl (cI, M, .inl fr)), (q 3, .inl (cI, M, .inl to)), (q 4, .inl (cI, M, .inl cap)), (q 5, .inl (cI, M, .inl uc)), (q 6, .inl (cI, M, .inl fl)), (q 10, .inr (0, [.ref (q 11), .ref (q 12), .ref (q 1)])), (q 11, .inl (cI, N, .inl lt)), (q 12, .inl (cI, N, .inl ft)), (q 13, .inl (cI, N, .inl (upd g k (nI ((fp_ar (fp_nx fr to cap uc fl lt ft E) fr to src) k)))))] := hD
            refine lv_aload_n hx hb dX2_traceWay_65 rfl (lv_at hl 1 rfl) ?_
            refine va_get (D := (dC, dI)) (ci := 2) (v := .ref (q 1)) (C := RX2) (T := TX2) (N := 11) hx hb hts fa_traceWay_0 hown hK hP 0 rfl rfl 0 (by decide) (hts _ fa_traceWay_6) (fun _ h9 => h9) rfl dX2_traceWay_66 ?_
            refine lv_iload_n hx hb dX2_traceWay_69 rfl (lv_at hl 0 rfl) ?_
            have hPc := hP.sub (ws' := [(q 1, .inr (1, [.int (nI N), .ref (q 2), .ref (q 3), .ref (q 4), .ref (q 5), .ref (q 6), .int (nI E)])), (q 2, .inl (cI, M, .inl fr)), (q 3, .inl (cI, M, .inl to)), (q 4, .inl (cI, M, .inl cap)), (q 5, .inl (cI, M, .inl uc)), (q 6, .inl (cI, M, .inl fl))]) [1, 2, 3, 4, 5, 6] rfl
            refine vp_callSi (W.runV (As := [.int (nI ((fp_ar (fp_nx fr to cap uc fl lt ft E) fr to src) k))]) (rest := []) ⟨hx, hb, hml, hown, hts⟩ (k_end l dC dI cI cJ cZ q N M E fr to cap uc fl ((fp_ar (fp_nx fr to cap uc fl lt ft E) fr to src) k) (by omega) hM) (cwV 1 hts gX2_traceWay_X1_end rfl rfl rfl (by decide +kernel) ⟨Nat.le_of_ble_eq_true rfl, Nat.le_of_ble_eq_true rfl⟩) ⟨fun a U g mk q => by obtain ⟨q0, qP, qK⟩ := q; exact ⟨q0, qP, va_K.moved (u := U) (U := U.calling g mk a) (Vm.Alike.refl U.vm) qK⟩, va_recv hK hP (ci := 1) (q0 := 1) rfl rfl, fun U hU hW => ⟨rfl, by rw [hU]; exact hPc, va_K.moved hW.alike hK⟩⟩ rfl rfl hl.1 rfl (lv_room (Nat.le_of_ble_eq_true rfl)) dX2_traceWay_70 ⟨Nat.le_of_ble_eq_true rfl, Nat.le_of_ble_eq_true rfl⟩) (fun r_70 hw_70 => ?_)
            subst hw_70
            refine lv_istore_n (lv' := [(1, .int (fp_en fr to ((fp_ar (fp_nx fr to cap uc fl lt ft E) fr to src) k))), (2, .int (nI ((fp_ar (fp_nx fr to cap uc fl lt ft E) fr to src) k))), (0, .ref (q 0))]) hx hb dX2_traceWay_73 rfl hl (by decide) rfl (fun ls hl => ?_)
            refine lv_goto (tgt := 10) hx hb dX2_traceWay_74 (by decide) ?_
            exact ih_a (k + 1) (fp_en fr to ((fp_ar (fp_nx fr to cap uc fl lt ft E) fr to src) k)) (upd g k (nI ((fp_ar (fp_nx fr to cap uc fl lt ft E) fr to src) k))) (by first | assumption | omega | rfl) rfl (tr_hg hg) (by omega) _ _ hP hD hS _ (lv_sub hl [2, 0] rfl)
          · exact absurd c_41 (nI_nm1 (by omega))
  exact lo_a (K - 0 + 1) 0 src wy (by first | assumption | omega | rfl) rfl (fun j hj => absurd hj (Nat.not_lt_zero _)) (by omega) _ _ hP hD hS _ (lv_sub hl [1, 0] rfl)

theorem fa_leastOnWay_0 : ∀ w ∈ wsX20, w ∈ wsX2_leastOnWay := by decide +kernel
theorem fa_leastOnWay_1 : Cond.fieldLink RX2 150 "FlowProofs" "wayLength" "I" ∈ wsX2_leastOnWay := by decide +kernel
theorem fa_leastOnWay_2 : Cond.fieldLink RX2 27 "FlowProofs" "net" "LFlowProofs$Net;" ∈ wsX2_leastOnWay := by decide +kernel
theorem fa_leastOnWay_3 : Cond.fieldLink RX2 43 "FlowProofs" "way" "[I" ∈ wsX2_leastOnWay := by decide +kernel
theorem fa_leastOnWay_4 : Cond.methodLink RX2 128 Lib.Math.min.name ∈ wsX2_leastOnWay := by decide +kernel
theorem fa_leastOnWay_5 : Cond.static Lib.Math.min.name ∈ wsX2_leastOnWay := by decide +kernel
theorem fa_leastOnWay_6 : Cond.initialized "java/lang/Math" ∈ wsX2_leastOnWay := by decide +kernel
theorem fa_leastOnWay_7 : Cond.code Lib.Math.min.name Lib.Math.min.code 2 (some .int) ∈ wsX2_leastOnWay := by decide +kernel
set_option maxHeartbeats 4000000 in
set_option maxRecDepth 100000 in
theorem k_leastOnWay (l : Launch) (dC : Nat → ClassId) (dI : Nat → Nat → Nat) (cI cJ cZ : ClassId) (q : Nat → Nat) (N M E : Nat) (fr to cap uc fl wy : Nat → Int32) (src snk cir sol rd fw : Int32) (K : Nat) (ar : Nat → Nat) (hE : E ≤ M) (hM : M < 1000) (hN : N < 1000) (hK0 : 0 < K) (hKN : K < N) (hwy : ∀ j, j < K → wy j = nI (ar j) ∧ ar j < 2 * E) : Met l yX2_leastOnWay wsX2_leastOnWay ({ frames := 2, cells := 0, slots := 0, locals := 42 }) (va_Pc [.ref (q 0)] (fun U => va_P (dC, dI) vwCl [(q 0, .inr (2, [.ref (q 1), .ref (q 7), .ref (q 10), .ref (q 13), .int (nI K), .int src, .int snk, .int cir, .int sol, .int rd, .int fw])), (q 1, .inr (1, [.int (nI N), .ref (q 2), .ref (q 3), .ref (q 4), .ref (q 5), .ref (q 6), .int (nI E)])), (q 2, .inl (cI, M, .inl fr)), (q 3, .inl (cI, M, .inl to)), (q 4, .inl (cI, M, .inl cap)), (q 5, .inl (cI, M, .inl uc)), (q 6, .inl (cI, M, .inl fl)), (q 13, .inl (cI, N, .inl wy))] U.heap ∧ va_K (dC, dI) vwCl [(cI, .int), (cJ, .long), (cZ, .boolean)] U)) (vp_Si (fun r => r = fp_mn (fp_lf cap fl) ar (K - 1))) 0 0 (fun _ => False) := by
  refine Met.ofW (cc := cX2_leastOnWay) (maxL := 3) (ret := (some .int)) (by decide) rfl ?_
  intro p e s m args below meth c s₁ B hml hv
  obtain ⟨rfl, hP, hK⟩ := hv
  have hx := B.exec
  have hb := B.bytes
  have hr := B.returns
  have hts := atoms_spec (ws := wsX2_leastOnWay) B.pre
  have hown : s.vm.findClass RX2 = some m.cls := findClass_of_methodNamed B.named
  have hlocks := B.notSynchronized
  have hP : va_P (dC, dI) vwCl [(q 0, .inr (2, [.ref (q 1), .ref (q 7), .ref (q 10), .ref (q 13), .int (nI K), .int src, .int snk, .int cir, .int sol, .int rd, .int fw])), (q 1, .inr (1, [.int (nI N), .ref (q 2), .ref (q 3), .ref (q 4), .ref (q 5), .ref (q 6), .int (nI E)])), (q 2, .inl (cI, M, .inl fr)), (q 3, .inl (cI, M, .inl to)), (q 4, .inl (cI, M, .inl cap)), (q 5, .inl (cI, M, .inl uc)), (q 6, .inl (cI, M, .inl fl)), (q 13, .inl (cI, N, .inl wy))] s.heap := hP
  have hl := lv_entry ([.ref (q 0)]) (n := 3) (Nat.le_of_ble_eq_true rfl)
  rw [lg_entry_eq]
  generalize (lg_sl ([.ref (q 0)]) ++ List.replicate (3 - (lg_sl ([.ref (q 0)])).length) Slot.unset).toArray = ls at hl ⊢
  have hl : lv_has ls 3 [(0, .ref (q 0))] := hl
  refine lv_aload_n hx hb dX2_leastOnWay_0 rfl (lv_at hl 0 rfl) ?_
  refine va_get (D := (dC, dI)) (ci := 2) (v := .int (nI K)) (C := RX2) (T := TX2) (N := 11) hx hb hts fa_leastOnWay_0 hown hK hP 0 rfl rfl 4 (by decide) (hts _ fa_leastOnWay_1) (fun _ h9 => h9) rfl dX2_leastOnWay_1 ?_
  refine lv_if_ne (tgt := 9) hx hb dX2_leastOnWay_4 (by decide) (fun c_4 => ?_) (fun c_4 => ?_)
  · refine lv_aload_n hx hb dX2_leastOnWay_9 rfl (lv_at hl 0 rfl) ?_
    refine va_get (D := (dC, dI)) (ci := 2) (v := .ref (q 1)) (C := RX2) (T := TX2) (N := 11) hx hb hts fa_leastOnWay_0 hown hK hP 0 rfl rfl 0 (by decide) (hts _ fa_leastOnWay_2) (fun _ h9 => h9) rfl dX2_leastOnWay_10 ?_
    refine lv_aload_n hx hb dX2_leastOnWay_13 rfl (lv_at hl 0 rfl) ?_
    refine va_get (D := (dC, dI)) (ci := 2) (v := .ref (q 13)) (C := RX2) (T := TX2) (N := 11) hx hb hts fa_leastOnWay_0 hown hK hP 0 rfl rfl 3 (by decide) (hts _ fa_leastOnWay_3) (fun _ h9 => h9) rfl dX2_leastOnWay_14 ?_
    have har0 := (hwy 0 hK0).2
    refine lv_iconst (v := 0) hx hb dX2_leastOnWay_17 (by decide) ?_
    refine tp_i (y := nI 0) nI_0.symm ?_
    refine va_iald (D := (dC, dI)) hx hb hK hP 7 0 rfl rfl (by first | assumption | exact vp_in_nI (by omega) (by omega)) dX2_leastOnWay_18 ?_
    refine tp_i (y := nI (ar 0)) (by rw [nI_clamp (n := 0) (by omega)]; exact (hwy 0 hK0).1) ?_
    have hPc := hP.sub (ws' := [(q 1, .inr (1, [.int (nI N), .ref (q 2), .ref (q 3), .ref (q 4), .ref (q 5), .ref (q 6), .int (nI E)])), (q 2, .inl (cI, M, .inl fr)), (q 3, .inl (cI, M, .inl to)), (q 4, .inl (cI, M, .inl cap)), (q 5, .inl (cI, M, .inl uc)), (q 6, .inl (cI, M, .inl fl))]) [1, 2, 3, 4, 5, 6] rfl
    refine vp_callSi (W.runV (As := [.int (nI (ar 0))]) (rest := []) ⟨hx, hb, hml, hown, hts⟩ (k_left l dC dI cI cJ cZ q N M E fr to cap uc fl (ar 0) (by omega) hM) (cwV 1 hts gX2_leastOnWay_X1_left rfl rfl rfl (by decide +kernel) ⟨Nat.le_of_ble_eq_true rfl, Nat.le_of_ble_eq_true rfl⟩) ⟨fun a U g mk q => by obtain ⟨q0, qP, qK⟩ := q; exact ⟨q0, qP, va_K.moved (u := U) (U := U.calling g mk a) (Vm.Alike.refl U.vm) qK⟩, va_recv hK hP (ci := 1) (q0 := 1) rfl rfl, fun U hU hW => ⟨rfl, by rw [hU]; exact hPc, va_K.moved hW.alike hK⟩⟩ rfl rfl hl.1 rfl (lv_room (Nat.le_of_ble_eq_true rfl)) dX2_leastOnWay_19 ⟨Nat.le_of_ble_eq_true rfl, Nat.le_of_ble_eq_true rfl⟩) (fun r_19 hw_19 => ?_)
    subst hw_19
    refine lv_istore_n (lv' := [(1, .int (fp_lf cap fl (ar 0))), (0, .ref (q 0))]) hx hb dX2_leastOnWay_22 rfl hl (by decide) rfl (fun ls hl => ?_)
    refine lv_iconst (v := 1) hx hb dX2_leastOnWay_23 (by decide) ?_
    refine tp_i (y := nI (0 + 1)) (by decide) ?_
    refine lv_istore_n (lv' := [(2, .int (nI (0 + 1))), (1, .int (fp_lf cap fl (ar 0))), (0, .ref (q 0))]) hx hb dX2_leastOnWay_24 rfl hl (by decide) rfl (fun ls hl => ?_)
    have lo_a : ∀ (nf : Nat) (j : Nat) (sm : Int32) (hj : j + 1 ≤ K) (hsm : sm = fp_mn (fp_lf cap fl) ar j) (hfu : K - j < nf) (ls : Array Slot) (hl : lv_has ls 3 [(0, .ref (q 0)), (1, .int sm), (2, .int (nI (j + 1)))]), W p l e (headSpec wsX2_leastOnWay ({ frames := 2, cells := 0, slots := 0, locals := 42 })).room s m ([.ref (q 0)] : List Value).toArray below meth c s.heap [] 0 0 (MQ below (vp_Si (fun r => r = fp_mn (fp_lf cap fl) ar (K - 1))) ([.ref (q 0)] : List Value).toArray s 0 0 (fun _ => False)) (F0 m 25 ls [])
      := by
      intro nf
      induction nf with
      | zero => intro j sm hj hsm hfu ls hl; exact absurd hfu (Nat.not_lt_zero _)
      | succ nf ih_a =>
        intro j sm hj hsm hfu ls hl
        refine lv_iload_n hx hb dX2_leastOnWay_25 rfl (lv_at hl 2 rfl) ?_
        refine lv_aload_n hx hb dX2_leastOnWay_26 rfl (lv_at hl 0 rfl) ?_
        refine va_get (D := (dC, dI)) (ci := 2) (v := .int (nI K)) (C := RX2) (T := TX2) (N := 11) hx hb hts fa_leastOnWay_0 hown hK hP 0 rfl rfl 4 (by decide) (hts _ fa_leastOnWay_1) (fun _ h9 => h9) rfl dX2_leastOnWay_27 ?_
        refine lv_icmp_ge (tgt := 57) hx hb dX2_leastOnWay_30 (by decide) (fun c_30 => ?_) (fun c_30 => ?_)
        · have hge := ix_ge (by omega) (by omega) c_30
          refine lv_iload_n hx hb dX2_leastOnWay_57 rfl (lv_at hl 1 rfl) ?_
          exact W.iret (v := sm) hx hb hr (fun t ht _ => ⟨sm, rfl, (by rw [hsm, show K - 1 = j by omega]), ht⟩) (fun _ h => by cases h) dX2_leastOnWay_58
        · have hlt := ix_lt (by omega) (by omega) c_30
          have har := (hwy (j + 1) hlt).2
          refine lv_iload_n hx hb dX2_leastOnWay_33 rfl (lv_at hl 1 rfl) ?_
          refine lv_aload_n hx hb dX2_leastOnWay_34 rfl (lv_at hl 0 rfl) ?_
          refine va_get (D := (dC, dI)) (ci := 2) (v := .ref (q 1)) (C := RX2) (T := TX2) (N := 11) hx hb hts fa_leastOnWay_0 hown hK hP 0 rfl rfl 0 (by decide) (hts _ fa_leastOnWay_2) (fun _ h9 => h9) rfl dX2_leastOnWay_35 ?_
          refine lv_aload_n hx hb dX2_leastOnWay_38 rfl (lv_at hl 0 rfl) ?_
          refine va_get (D := (dC, dI)) (ci := 2) (v := .ref (q 13)) (C := RX2) (T := TX2) (N := 11) hx hb hts fa_leastOnWay_0 hown hK hP 0 rfl rfl 3 (by decide) (hts _ fa_leastOnWay_3) (fun _ h9 => h9) rfl dX2_leastOnWay_39 ?_
          refine lv_iload_n hx hb dX2_leastOnWay_42 rfl (lv_at hl 2 rfl) ?_
          refine va_iald (D := (dC, dI)) hx hb hK hP 7 0 rfl rfl (by first | assumption | exact vp_in_nI (by omega) (by omega)) dX2_leastOnWay_43 ?_
          refine tp_i (y := nI (ar (j + 1))) (by rw [nI_clamp (n := j + 1) (by omega)]; exact (hwy (j + 1) hlt).1) ?_
          have hPc := hP.sub (ws' := [(q 1, .inr (1, [.int (nI N), .ref (q 2), .ref (q 3), .ref (q 4), .ref (q 5), .ref (q 6), .int (nI E)])), (q 2, .inl (cI, M, .inl fr)), (q 3, .inl (cI, M, .inl to)), (q 4, .inl (cI, M, .inl cap)), (q 5, .inl (cI, M, .inl uc)), (q 6, .inl (cI, M, .inl fl))]) [1, 2, 3, 4, 5, 6] rfl
          refine vp_callSi (W.runV (As := [.int (nI (ar (j + 1)))]) (rest := [.int sm]) ⟨hx, hb, hml, hown, hts⟩ (k_left l dC dI cI cJ cZ q N M E fr to cap uc fl (ar (j + 1)) (by omega) hM) (cwV 1 hts gX2_leastOnWay_X1_left rfl rfl rfl (by decide +kernel) ⟨Nat.le_of_ble_eq_true rfl, Nat.le_of_ble_eq_true rfl⟩) ⟨fun a U g mk q => by obtain ⟨q0, qP, qK⟩ := q; exact ⟨q0, qP, va_K.moved (u := U) (U := U.calling g mk a) (Vm.Alike.refl U.vm) qK⟩, va_recv hK hP (ci := 1) (q0 := 1) rfl rfl, fun U hU hW => ⟨rfl, by rw [hU]; exact hPc, va_K.moved hW.alike hK⟩⟩ rfl rfl hl.1 rfl (lv_room (Nat.le_of_ble_eq_true rfl)) dX2_leastOnWay_44 ⟨Nat.le_of_ble_eq_true rfl, Nat.le_of_ble_eq_true rfl⟩) (fun r_44 hw_44 => ?_)
          subst hw_44
          refine va_mmin hx hb (by rw [hml]; exact hl.1.symm) hown (hts _ fa_leastOnWay_4) (hts _ fa_leastOnWay_5) (hts _ fa_leastOnWay_6) (hts _ fa_leastOnWay_7) (Nat.le_of_ble_eq_true rfl) (Nat.le_of_ble_eq_true rfl) (Nat.zero_le _) (Nat.zero_le _) dX2_leastOnWay_47 ?_
          refine lv_istore_n (lv' := [(1, .int (if (fp_lf cap fl (ar (j + 1))) < sm then (fp_lf cap fl (ar (j + 1))) else sm)), (0, .ref (q 0)), (2, .int (nI (j + 1)))]) hx hb dX2_leastOnWay_50 rfl hl (by decide) rfl (fun ls hl => ?_)
          refine lv_iinc (v := nI ((j + 1) + 1)) (lv' := [(2, .int (nI ((j + 1) + 1))), (1, .int (if (fp_lf cap fl (ar (j + 1))) < sm then (fp_lf cap fl (ar (j + 1))) else sm)), (0, .ref (q 0))]) hx hb dX2_leastOnWay_51 hl (k := 2) rfl (by first | exact nI_1 _ | exact nI_add _ _) (by decide) rfl (fun ls hl => ?_)
          refine lv_goto (tgt := 25) hx hb dX2_leastOnWay_54 (by decide) ?_
          exact ih_a (j + 1) (if (fp_lf cap fl (ar (j + 1))) < sm then (fp_lf cap fl (ar (j + 1))) else sm) (by first | assumption | omega | rfl) (by rw [fp_mn, ← hsm]) (by omega) _ (lv_sub hl [2, 1, 0] rfl)
    exact lo_a (K - 0 + 1) 0 (fp_lf cap fl (ar 0)) (by first | assumption | omega | rfl) rfl (by omega) _ (lv_sub hl [2, 1, 0] rfl)
  · exact absurd c_4 (nI_ne0 hK0 (by omega))

theorem fa_doRound_0 : ∀ w ∈ wsX20, w ∈ wsX2_doRound := by decide +kernel
theorem fa_doRound_1 : Cond.fieldLink RX2 150 "FlowProofs" "wayLength" "I" ∈ wsX2_doRound := by decide +kernel
theorem fa_doRound_2 : Cond.fieldLink RX2 89 "FlowProofs" "flowing" "I" ∈ wsX2_doRound := by decide +kernel
theorem fa_doRound_3 : Cond.fieldLink RX2 125 "FlowProofs" "roundsDone" "I" ∈ wsX2_doRound := by decide +kernel
theorem fa_doRound_4 : Cond.fieldLink RX2 27 "FlowProofs" "net" "LFlowProofs$Net;" ∈ wsX2_doRound := by decide +kernel
theorem fa_doRound_5 : Cond.fieldLink RX2 43 "FlowProofs" "way" "[I" ∈ wsX2_doRound := by decide +kernel
set_option maxHeartbeats 4000000 in
set_option maxRecDepth 100000 in
theorem k_doRound (l : Launch) (dC : Nat → ClassId) (dI : Nat → Nat → Nat) (cI cJ cZ : ClassId) (q : Nat → Nat) (N M E : Nat) (fr to cap uc fl lt ft wy : Nat → Int32) (wl src snk cir sol rd fw : Int32) (K : Nat) (sz : Nat) (hE : E ≤ M) (hM : M < 1000) (hN : N < 1000) (hfr : ∀ e, e < E → vp_in (fr e) N) (hto : ∀ e, e < E → vp_in (to e) N) (hw : fp_way (fp_nx fr to cap uc fl lt ft E) fr to N E src snk K) : Met l yX2_doRound wsX2_doRound ({ frames := 4, cells := 0, slots := 0, locals := 87 }) (va_Pc [.ref (q 0)] (fun U => U.heap.size = sz ∧ va_P (dC, dI) vwCl [(q 0, .inr (2, [.ref (q 1), .ref (q 7), .ref (q 10), .ref (q 13), .int wl, .int src, .int snk, .int cir, .int sol, .int rd, .int fw])), (q 1, .inr (1, [.int (nI N), .ref (q 2), .ref (q 3), .ref (q 4), .ref (q 5), .ref (q 6), .int (nI E)])), (q 2, .inl (cI, M, .inl fr)), (q 3, .inl (cI, M, .inl to)), (q 4, .inl (cI, M, .inl cap)), (q 5, .inl (cI, M, .inl uc)), (q 6, .inl (cI, M, .inl fl)), (q 10, .inr (0, [.ref (q 11), .ref (q 12), .ref (q 1)])), (q 11, .inl (cI, N, .inl lt)), (q 12, .inl (cI, N, .inl ft)), (q 13, .inl (cI, N, .inl wy))] U.heap ∧ va_K (dC, dI) vwCl [(cI, .int), (cJ, .long), (cZ, .boolean)] U ∧ va_D (fun _ => True) [(q 0, .inr (2, [.ref (q 1), .ref (q 7), .ref (q 10), .ref (q 13), .int wl, .int src, .int snk, .int cir, .int sol, .int rd, .int fw])), (q 1, .inr (1, [.int (nI N), .ref (q 2), .ref (q 3), .ref (q 4), .ref (q 5), .ref (q 6), .int (nI E)])), (q 2, .inl (cI, M, .inl fr)), (q 3, .inl (cI, M, .inl to)), (q 4, .inl (cI, M, .inl cap)), (q 5, .inl (cI, M, .inl uc)), (q 6, .inl (cI, M, .inl fl)), (q 10, .inr (0, [.ref (q 11), .ref (q 12), .ref (q 1)])), (q 11, .inl (cI, N, .inl lt)), (q 12, .inl (cI, N, .inl ft)), (q 13, .inl (cI, N, .inl wy))])) (va_Qv (fun (u : Nat → Int32) => True) (fun (u : Nat → Int32) (t : State) => va_P (dC, dI) vwCl [(q 0, .inr (2, [.ref (q 1), .ref (q 7), .ref (q 10), .ref (q 13), .int (nI K), .int src, .int snk, .int cir, .int sol, .int (rd + 1), .int (fw + (fp_mn (fp_lf cap fl) (fp_ar (fp_nx fr to cap uc fl lt ft E) fr to src) (K - 1)))])), (q 1, .inr (1, [.int (nI N), .ref (q 2), .ref (q 3), .ref (q 4), .ref (q 5), .ref (q 6), .int (nI E)])), (q 2, .inl (cI, M, .inl fr)), (q 3, .inl (cI, M, .inl to)), (q 4, .inl (cI, M, .inl cap)), (q 5, .inl (cI, M, .inl uc)), (q 6, .inl (cI, M, .inl (fp_sd fl (fp_ar (fp_nx fr to cap uc fl lt ft E) fr to src) (fp_mn (fp_lf cap fl) (fp_ar (fp_nx fr to cap uc fl lt ft E) fr to src) (K - 1)) K))), (q 10, .inr (0, [.ref (q 11), .ref (q 12), .ref (q 1)])), (q 11, .inl (cI, N, .inl lt)), (q 12, .inl (cI, N, .inl ft)), (q 13, .inl (cI, N, .inl u))] t.heap ∧ va_K (dC, dI) vwCl [(cI, .int), (cJ, .long), (cZ, .boolean)] t ∧ va_D (va_A [(q 0, .inr (2, [.ref (q 1), .ref (q 7), .ref (q 10), .ref (q 13), .int wl, .int src, .int snk, .int cir, .int sol, .int rd, .int fw])), (q 1, .inr (1, [.int (nI N), .ref (q 2), .ref (q 3), .ref (q 4), .ref (q 5), .ref (q 6), .int (nI E)])), (q 2, .inl (cI, M, .inl fr)), (q 3, .inl (cI, M, .inl to)), (q 4, .inl (cI, M, .inl cap)), (q 5, .inl (cI, M, .inl uc)), (q 6, .inl (cI, M, .inl fl)), (q 10, .inr (0, [.ref (q 11), .ref (q 12), .ref (q 1)])), (q 11, .inl (cI, N, .inl lt)), (q 12, .inl (cI, N, .inl ft)), (q 13, .inl (cI, N, .inl wy))] sz) [(q 0, .inr (2, [.ref (q 1), .ref (q 7), .ref (q 10), .ref (q 13), .int (nI K), .int src, .int snk, .int cir, .int sol, .int (rd + 1), .int (fw + (fp_mn (fp_lf cap fl) (fp_ar (fp_nx fr to cap uc fl lt ft E) fr to src) (K - 1)))])), (q 1, .inr (1, [.int (nI N), .ref (q 2), .ref (q 3), .ref (q 4), .ref (q 5), .ref (q 6), .int (nI E)])), (q 2, .inl (cI, M, .inl fr)), (q 3, .inl (cI, M, .inl to)), (q 4, .inl (cI, M, .inl cap)), (q 5, .inl (cI, M, .inl uc)), (q 6, .inl (cI, M, .inl (fp_sd fl (fp_ar (fp_nx fr to cap uc fl lt ft E) fr to src) (fp_mn (fp_lf cap fl) (fp_ar (fp_nx fr to cap uc fl lt ft E) fr to src) (K - 1)) K))), (q 10, .inr (0, [.ref (q 11), .ref (q 12), .ref (q 1)])), (q 11, .inl (cI, N, .inl lt)), (q 12, .inl (cI, N, .inl ft)), (q 13, .inl (cI, N, .inl u))]) (va_A [(q 0, .inr (2, [.ref (q 1), .ref (q 7), .ref (q 10), .ref (q 13), .int wl, .int src, .int snk, .int cir, .int sol, .int rd, .int fw])), (q 1, .inr (1, [.int (nI N), .ref (q 2), .ref (q 3), .ref (q 4), .ref (q 5), .ref (q 6), .int (nI E)])), (q 2, .inl (cI, M, .inl fr)), (q 3, .inl (cI, M, .inl to)), (q 4, .inl (cI, M, .inl cap)), (q 5, .inl (cI, M, .inl uc)), (q 6, .inl (cI, M, .inl fl)), (q 10, .inr (0, [.ref (q 11), .ref (q 12), .ref (q 1)])), (q 11, .inl (cI, N, .inl lt)), (q 12, .inl (cI, N, .inl ft)), (q 13, .inl (cI, N, .inl wy))] sz)) 0 0 (va_A [(q 0, .inr (2, [.ref (q 1), .ref (q 7), .ref (q 10), .ref (q 13), .int wl, .int src, .int snk, .int cir, .int sol, .int rd, .int fw])), (q 1, .inr (1, [.int (nI N), .ref (q 2), .ref (q 3), .ref (q 4), .ref (q 5), .ref (q 6), .int (nI E)])), (q 2, .inl (cI, M, .inl fr)), (q 3, .inl (cI, M, .inl to)), (q 4, .inl (cI, M, .inl cap)), (q 5, .inl (cI, M, .inl uc)), (q 6, .inl (cI, M, .inl fl)), (q 10, .inr (0, [.ref (q 11), .ref (q 12), .ref (q 1)])), (q 11, .inl (cI, N, .inl lt)), (q 12, .inl (cI, N, .inl ft)), (q 13, .inl (cI, N, .inl wy))] sz) := by
  refine Met.ofW (cc := cX2_doRound) (maxL := 3) (ret := none) (by decide) rfl ?_
  intro p e s m args below meth c s₁ B hml hv
  obtain ⟨rfl, hsz, hP, hK, hD0⟩ := hv
  have hx := B.exec
  have hb := B.bytes
  have hr := B.returns
  have hts := atoms_spec (ws := wsX2_doRound) B.pre
  have hown : s.vm.findClass RX2 = some m.cls := findClass_of_methodNamed B.named
  have hlocks := B.notSynchronized
  subst hsz
  have hD := hD0.self (sz := s.heap.size)
  generalize hAe : va_A [(q 0, .inr (2, [.ref (q 1), .ref (q 7), .ref (q 10), .ref (q 13), .int wl, .int src, .int snk, .int cir, .int sol, .int rd, .int fw])), (q 1, .inr (1, [.int (nI N), .ref (q 2), .ref (q 3), .ref (q 4), .ref (q 5), .ref (q 6), .int (nI E)])), (q 2, .inl (cI, M, .inl fr)), (q 3, .inl (cI, M, .inl to)), (q 4, .inl (cI, M, .inl cap)), (q 5, .inl (cI, M, .inl uc)), (q 6, .inl (cI, M, .inl fl)), (q 10, .inr (0, [.ref (q 11), .ref (q 12), .ref (q 1)])), (q 11, .inl (cI, N, .inl lt)), (q 12, .inl (cI, N, .inl ft)), (q 13, .inl (cI, N, .inl wy))] s.heap.size = A at hD ⊢
  have hA : ∀ q : Nat, s.heap.size ≤ q → A q := fun q h => by rw [← hAe]; exact Or.inr h
  have hS : va_S A s.heap s.heap [] := va_S.rf
  have hP : va_P (dC, dI) vwCl [(q 0, .inr (2, [.ref (q 1), .ref (q 7), .ref (q 10), .ref (q 13), .int wl, .int src, .int snk, .int cir, .int sol, .int rd, .int fw])), (q 1, .inr (1, [.int (nI N), .ref (q 2), .ref (q 3), .ref (q 4), .ref (q 5), .ref (q 6), .int (nI E)])), (q 2, .inl (cI, M, .inl fr)), (q 3, .inl (cI, M, .inl to)), (q 4, .inl (cI, M, .inl cap)), (q 5, .inl (cI, M, .inl uc)), (q 6, .inl (cI, M, .inl fl)), (q 10, .inr (0, [.ref (q 11), .ref (q 12), .ref (q 1)])), (q 11, .inl (cI, N, .inl lt)), (q 12, .inl (cI, N, .inl ft)), (q 13, .inl (cI, N, .inl wy))] s.heap := hP
  have hl := lv_entry ([.ref (q 0)]) (n := 3) (Nat.le_of_ble_eq_true rfl)
  rw [lg_entry_eq]
  generalize (lg_sl ([.ref (q 0)]) ++ List.replicate (3 - (lg_sl ([.ref (q 0)])).length) Slot.unset).toArray = ls at hl ⊢
  have hl : lv_has ls 3 [(0, .ref (q 0))] := hl
  refine lv_aload_n hx hb dX2_doRound_0 rfl (lv_at hl 0 rfl) ?_
  have hPc := hP.sub (ws' := [(q 0, .inr (2, [.ref (q 1), .ref (q 7), .ref (q 10), .ref (q 13), .int wl, .int src, .int snk, .int cir, .int sol, .int rd, .int fw])), (q 1, .inr (1, [.int (nI N), .ref (q 2), .ref (q 3), .ref (q 4), .ref (q 5), .ref (q 6), .int (nI E)])), (q 2, .inl (cI, M, .inl fr)), (q 3, .inl (cI, M, .inl to)), (q 4, .inl (cI, M, .inl cap)), (q 5, .inl (cI, M, .inl uc)), (q 6, .inl (cI, M, .inl fl)), (q 10, .inr (0, [.ref (q 11), .ref (q 12), .ref (q 1)])), (q 11, .inl (cI, N, .inl lt)), (q 12, .inl (cI, N, .inl ft)), (q 13, .inl (cI, N, .inl wy))]) [0, 1, 2, 3, 4, 5, 6, 7, 8, 9, 10] rfl
  have hDc := hD.sub (ws' := [(q 0, .inr (2, [.ref (q 1), .ref (q 7), .ref (q 10), .ref (q 13), .int wl, .int src, .int snk, .int cir, .int sol, .int rd, .int fw])), (q 1, .inr (1, [.int (nI N), .ref (q 2), .ref (q 3), .ref (q 4), .ref (q 5), .ref (q 6), .int (nI E)])), (q 2, .inl (cI, M, .inl fr)), (q 3, .inl (cI, M, .inl to)), (q 4, .inl (cI, M, .inl cap)), (q 5, .inl (cI, M, .inl uc)), (q 6, .inl (cI, M, .inl fl)), (q 10, .inr (0, [.ref (q 11), .ref (q 12), .ref (q 1)])), (q 11, .inl (cI, N, .inl lt)), (q 12, .inl (cI, N, .inl ft)), (q 13, .inl (cI, N, .inl wy))]) [0, 1, 2, 3, 4, 5, 6, 7, 8, 9, 10] (by decide) rfl
  have hFc := va_free (wc := [(q 0, .inr (2, [.ref (q 1), .ref (q 7), .ref (q 10), .ref (q 13), .int wl, .int src, .int snk, .int cir, .int sol, .int rd, .int fw])), (q 1, .inr (1, [.int (nI N), .ref (q 2), .ref (q 3), .ref (q 4), .ref (q 5), .ref (q 6), .int (nI E)])), (q 2, .inl (cI, M, .inl fr)), (q 3, .inl (cI, M, .inl to)), (q 4, .inl (cI, M, .inl cap)), (q 5, .inl (cI, M, .inl uc)), (q 6, .inl (cI, M, .inl fl)), (q 10, .inr (0, [.ref (q 11), .ref (q 12), .ref (q 1)])), (q 11, .inl (cI, N, .inl lt)), (q 12, .inl (cI, N, .inl ft)), (q 13, .inl (cI, N, .inl wy))]) hD hS hA [0, 1, 2, 3, 4, 5, 6, 7, 8, 9, 10] rfl
  refine va_callv (va_runV (As := []) (rest := []) ⟨hx, hb, hml, hown, hts⟩ (k_traceWay l dC dI cI cJ cZ q N M E fr to cap uc fl lt ft wy wl src snk cir sol rd fw K s.heap.size hE hM hN hfr hto hw) (cwV 0 hts gX2_doRound_X2_traceWay rfl rfl rfl (by decide +kernel) ⟨Nat.le_of_ble_eq_true rfl, Nat.le_of_ble_eq_true rfl⟩) ⟨fun a U g mk q => by obtain ⟨q0, q1, qP, qK, qD⟩ := q; exact ⟨q0, q1, qP, va_K.moved (u := U) (U := U.calling g mk a) (Vm.Alike.refl U.vm) qK, qD⟩, va_recv hK hP (ci := 2) (q0 := 0) rfl rfl, fun U hU hW => ⟨rfl, by rw [hU], by rw [hU]; exact hPc, va_K.moved hW.alike hK, hDc.weaken (fun _ _ _ _ => trivial)⟩⟩ rfl rfl hl.1 rfl (lv_room (Nat.le_of_ble_eq_true rfl)) dX2_doRound_1 ⟨Nat.le_of_ble_eq_true rfl, Nat.le_of_ble_eq_true rfl⟩) hS (fun q _ h => hFc q h) hFc (fun wy1 t H1 locs ht hvm hw_1 hB hz1 hk1 hS => ?_)
  obtain ⟨hP1, hK1, hD1⟩ := hB
  rw [ht] at hP1
  obtain ⟨hP, hD⟩ := va_join (wr := []) (w1 := [(q 0, .inr (2, [.ref (q 1), .ref (q 7), .ref (q 10), .ref (q 13), .int (nI K), .int src, .int snk, .int cir, .int sol, .int rd, .int fw])), (q 1, .inr (1, [.int (nI N), .ref (q 2), .ref (q 3), .ref (q 4), .ref (q 5), .ref (q 6), .int (nI E)])), (q 2, .inl (cI, M, .inl fr)), (q 3, .inl (cI, M, .inl to)), (q 4, .inl (cI, M, .inl cap)), (q 5, .inl (cI, M, .inl uc)), (q 6, .inl (cI, M, .inl fl)), (q 10, .inr (0, [.ref (q 11), .ref (q 12), .ref (q 1)])), (q 11, .inl (cI, N, .inl lt)), (q 12, .inl (cI, N, .inl ft)), (q 13, .inl (cI, N, .inl wy1))]) hP hD [0, 1, 2, 3, 4, 5, 6, 7, 8, 9, 10] [] rfl rfl (by decide) (by decide) hk1 hFc hP1 hD1
  generalize H1 = H at hP hS ⊢
  have hP := hP.sub (ws' := [(q 0, .inr (2, [.ref (q 1), .ref (q 7), .ref (q 10), .ref (q 13), .int (nI K), .int src, .int snk, .int cir, .int sol, .int rd, .int fw])), (q 1, .inr (1, [.int (nI N), .ref (q 2), .ref (q 3), .ref (q 4), .ref (q 5), .ref (q 6), .int (nI E)])), (q 2, .inl (cI, M, .inl fr)), (q 3, .inl (cI, M, .inl to)), (q 4, .inl (cI, M, .inl cap)), (q 5, .inl (cI, M, .inl uc)), (q 6, .inl (cI, M, .inl fl)), (q 10, .inr (0, [.ref (q 11), .ref (q 12), .ref (q 1)])), (q 11, .inl (cI, N, .inl lt)), (q 12, .inl (cI, N, .inl ft)), (q 13, .inl (cI, N, .inl wy1))]) [0, 1, 2, 3, 4, 5, 6, 7, 8, 9, 10] rfl
  have hD := hD.sub (ws' := [(q 0, .inr (2, [.ref (q 1), .ref (q 7), .ref (q 10), .ref (q 13), .int (nI K), .int src, .int snk, .int cir, .int sol, .int rd, .int fw])), (q 1, .inr (1, [.int (nI N), .ref (q 2), .ref (q 3), .ref (q 4), .ref (q 5), .ref (q 6), .int (nI E)])), (q 2, .inl (cI, M, .inl fr)), (q 3, .inl (cI, M, .inl to)), (q 4, .inl (cI, M, .inl cap)), (q 5, .inl (cI, M, .inl uc)), (q 6, .inl (cI, M, .inl fl)), (q 10, .inr (0, [.ref (q 11), .ref (q 12), .ref (q 1)])), (q 11, .inl (cI, N, .inl lt)), (q 12, .inl (cI, N, .inl ft)), (q 13, .inl (cI, N, .inl wy1))]) [0, 1, 2, 3, 4, 5, 6, 7, 8, 9, 10] (by decide) rfl
  refine lv_aload_n hx hb dX2_doRound_4 rfl (lv_at hl 0 rfl) ?_
  have hPc := hP.sub (ws' := [(q 0, .inr (2, [.ref (q 1), .ref (q 7), .ref (q 10), .ref (q 13), .int (nI K), .int src, .int snk, .int cir, .int sol, .int rd, .int fw])), (q 1, .inr (1, [.int (nI N), .ref (q 2), .ref (q 3), .ref (q 4), .ref (q 5), .ref (q 6), .int (nI E)])), (q 2, .inl (cI, M, .inl fr)), (q 3, .inl (cI, M, .inl to)), (q 4, .inl (cI, M, .inl cap)), (q 5, .inl (cI, M, .inl uc)), (q 6, .inl (cI, M, .inl fl)), (q 13, .inl (cI, N, .inl wy1))]) [0, 1, 2, 3, 4, 5, 6, 10] rfl
  refine vp_callSi (W.runV (As := []) (rest := []) ⟨hx, hb, hml, hown, hts⟩ (k_leastOnWay l dC dI cI cJ cZ q N M E fr to cap uc fl wy1 src snk cir sol rd fw K (fp_ar (fp_nx fr to cap uc fl lt ft E) fr to src) hE hM hN hw.1 hw.2.1 (fun j hj => ⟨hw_1 j hj, (hw.2.2.2 j hj).2.2.2⟩)) (cwV 0 hts gX2_doRound_X2_leastOnWay rfl rfl rfl (by decide +kernel) ⟨Nat.le_of_ble_eq_true rfl, Nat.le_of_ble_eq_true rfl⟩) ⟨fun a U g mk q => by obtain ⟨q0, qP, qK⟩ := q; exact ⟨q0, qP, va_K.moved (u := U) (U := U.calling g mk a) (Vm.Alike.refl U.vm) qK⟩, va_recv hK hP (ci := 2) (q0 := 0) rfl rfl, fun U hU hW => ⟨rfl, by rw [hU]; exact hPc, va_K.moved hW.alike hK⟩⟩ rfl rfl hl.1 rfl (lv_room (Nat.le_of_ble_eq_true rfl)) dX2_doRound_5 ⟨Nat.le_of_ble_eq_true rfl, Nat.le_of_ble_eq_true rfl⟩) (fun r_5 hw_5 => ?_)
  refine lv_istore_n (lv' := [(1, .int r_5), (0, .ref (q 0))]) hx hb dX2_doRound_8 rfl hl (by decide) rfl (fun ls hl => ?_)
  have hKN := hw.2.1
  refine lv_iconst (v := 0) hx hb dX2_doRound_9 (by decide) ?_
  refine tp_i (y := nI 0) nI_0.symm ?_
  refine lv_istore_n (lv' := [(2, .int (nI 0)), (1, .int r_5), (0, .ref (q 0))]) hx hb dX2_doRound_10 rfl hl (by decide) rfl (fun ls hl => ?_)
  have lo_a : ∀ (nf : Nat) (i : Nat) (fl2 : Nat → Int32) (hi : i ≤ K) (hfl : fl2 = fp_sd fl (fp_ar (fp_nx fr to cap uc fl lt ft E) fr to src) r_5 i) (hfu : K - i < nf) (H : Heap) (locs : List Loc) (hP : va_P (dC, dI) vwCl [(q 0, .inr (2, [.ref (q 1), .ref (q 7), .ref (q 10), .ref (q 13), .int (nI K), .int src, .int snk, .int cir, .int sol, .int rd, .int fw])), (q 1, .inr (1, [.int (nI N), .ref (q 2), .ref (q 3), .ref (q 4), .ref (q 5), .ref (q 6), .int (nI E)])), (q 2, .inl (cI, M, .inl fr)), (q 3, .inl (cI, M, .inl to)), (q 4, .inl (cI, M, .inl cap)), (q 5, .inl (cI, M, .inl uc)), (q 6, .inl (cI, M, .inl fl2)), (q 10, .inr (0, [.ref (q 11), .ref (q 12), .ref (q 1)])), (q 11, .inl (cI, N, .inl lt)), (q 12, .inl (cI, N, .inl ft)), (q 13, .inl (cI, N, .inl wy1))] H) (hD : va_D A [(q 0, .inr (2, [.ref (q 1), .ref (q 7), .ref (q 10), .ref (q 13), .int (nI K), .int src, .int snk, .int cir, .int sol, .int rd, .int fw])), (q 1, .inr (1, [.int (nI N), .ref (q 2), .ref (q 3), .ref (q 4), .ref (q 5), .ref (q 6), .int (nI E)])), (q 2, .inl (cI, M, .inl fr)), (q 3, .inl (cI, M, .inl to)), (q 4, .inl (cI, M, .inl cap)), (q 5, .inl (cI, M, .inl uc)), (q 6, .inl (cI, M, .inl fl2)), (q 10, .inr (0, [.ref (q 11), .ref (q 12), .ref (q 1)])), (q 11, .inl (cI, N, .inl lt)), (q 12, .inl (cI, N, .inl ft)), (q 13, .inl (cI, N, .inl wy1))]) (hS : va_S A s.heap H locs) (ls : Array Slot) (hl : lv_has ls 3 [(0, .ref (q 0)), (1, .int r_5), (2, .int (nI i))]), W p l e (headSpec wsX2_doRound ({ frames := 4, cells := 0, slots := 0, locals := 87 })).room s m ([.ref (q 0)] : List Value).toArray below meth c H locs 0 0 (MQ below (va_Qv (fun (u : Nat → Int32) => True) (fun (u : Nat → Int32) (t : State) => va_P (dC, dI) vwCl [(q 0, .inr (2, [.ref (q 1), .ref (q 7), .ref (q 10), .ref (q 13), .int (nI K), .int src, .int snk, .int cir, .int sol, .int (rd + 1), .int (fw + (fp_mn (fp_lf cap fl) (fp_ar (fp_nx fr to cap uc fl lt ft E) fr to src) (K - 1)))])), (q 1, .inr (1, [.int (nI N), .ref (q 2), .ref (q 3), .ref (q 4), .ref (q 5), .ref (q 6), .int (nI E)])), (q 2, .inl (cI, M, .inl fr)), (q 3, .inl (cI, M, .inl to)), (q 4, .inl (cI, M, .inl cap)), (q 5, .inl (cI, M, .inl uc)), (q 6, .inl (cI, M, .inl (fp_sd fl (fp_ar (fp_nx fr to cap uc fl lt ft E) fr to src) (fp_mn (fp_lf cap fl) (fp_ar (fp_nx fr to cap uc fl lt ft E) fr to src) (K - 1)) K))), (q 10, .inr (0, [.ref (q 11), .ref (q 12), .ref (q 1)])), (q 11, .inl (cI, N, .inl lt)), (q 12, .inl (cI, N, .inl ft)), (q 13, .inl (cI, N, .inl u))] t.heap ∧ va_K (dC, dI) vwCl [(cI, .int), (cJ, .long), (cZ, .boolean)] t ∧ va_D A [(q 0, .inr (2, [.ref (q 1), .ref (q 7), .ref (q 10), .ref (q 13), .int (nI K), .int src, .int snk, .int cir, .int sol, .int (rd + 1), .int (fw + (fp_mn (fp_lf cap fl) (fp_ar (fp_nx fr to cap uc fl lt ft E) fr to src) (K - 1)))])), (q 1, .inr (1, [.int (nI N), .ref (q 2), .ref (q 3), .ref (q 4), .ref (q 5), .ref (q 6), .int (nI E)])), (q 2, .inl (cI, M, .inl fr)), (q 3, .inl (cI, M, .inl to)), (q 4, .inl (cI, M, .inl cap)), (q 5, .inl (cI, M, .inl uc)), (q 6, .inl (cI, M, .inl (fp_sd fl (fp_ar (fp_nx fr to cap uc fl lt ft E) fr to src) (fp_mn (fp_lf cap fl) (fp_ar (fp_nx fr to cap uc fl lt ft E) fr to src) (K - 1)) K))), (q 10, .inr (0, [.ref (q 11), .ref (q 12), .ref (q 1)])), (q 11, .inl (cI, N, .inl lt)), (q 12, .inl (cI, N, .inl ft)), (q 13, .inl (cI, N, .inl u))]) A) ([.ref (q 0)] : List Value).toArray s 0 0 A) (F0 m 11 ls [])
    := by
    intro nf
    induction nf with
    | zero => intro i fl2 hi hfl hfu H locs hP hD hS ls hl; exact absurd hfu (Nat.not_lt_zero _)
    | succ nf ih_a =>
      intro i fl2 hi hfl hfu H locs hP hD hS ls hl
      refine lv_iload_n hx hb dX2_doRound_11 rfl (lv_at hl 2 rfl) ?_
      refine lv_aload_n hx hb dX2_doRound_12 rfl (lv_at hl 0 rfl) ?_
      refine va_get (D := (dC, dI)) (ci := 2) (v := .int (nI K)) (C := RX2) (T := TX2) (N := 11) hx hb hts fa_doRound_0 hown hK hP 0 rfl rfl 4 (by decide) (hts _ fa_doRound_1) (fun _ h9 => h9) rfl dX2_doRound_13 ?_
      refine lv_icmp_ge (tgt := 39) hx hb dX2_doRound_16 (by decide) (fun c_16 => ?_) (fun c_16 => ?_)
      · have hge := ix_ge (by omega) (by omega) c_16
        obtain rfl : K = i := by omega
        refine lv_aload_n hx hb dX2_doRound_39 rfl (lv_at hl 0 rfl) ?_
        refine lv_dup hx hb dX2_doRound_40 rfl ?_
        refine va_get (D := (dC, dI)) (ci := 2) (v := .int fw) (C := RX2) (T := TX2) (N := 11) hx hb hts fa_doRound_0 hown hK hP 0 rfl rfl 10 (by decide) (hts _ fa_doRound_2) (fun _ h9 => h9) rfl dX2_doRound_41 ?_
        refine lv_iload_n hx hb dX2_doRound_44 rfl (lv_at hl 1 rfl) ?_
        refine lv_iadd hx hb dX2_doRound_45 ?_
        refine va_put (D := (dC, dI)) (ci := 2) (v := .int (fw + r_5)) (ty := .int) (C := RX2) (T := TX2) (N := 11) hx hb hts fa_doRound_0 tyX2 tyX2_ok nmX2 hown hK hP hD hS 0 rfl rfl 10 (by decide) (hts _ fa_doRound_2) (fun _ h9 => h9) rfl (by decide +kernel) rfl rfl (Nat.le_of_ble_eq_true rfl) dX2_doRound_46 (fun H locs hP hD hS => ?_)
        have hP : va_P (dC, dI) vwCl [(q 0, .inr (2, [.ref (q 1), .ref (q 7), .ref (q 10), .ref (q 13), .int (nI K), .int src, .int snk, .int cir, .int sol, .int rd, .int (fw + r_5)])), (q 1, .inr (1, [.int (nI N), .ref (q 2), .ref (q 3), .ref (q 4), .ref (q 5), .ref (q 6), .int (nI E)])), (q 2, .inl (cI, M, .inl fr)), (q 3, .inl (cI, M, .inl to)), (q 4, .inl (cI, M, .inl cap)), (q 5, .inl (cI, M, .inl uc)), (q 6, .inl (cI, M, .inl fl2)), (q 10, .inr (0, [.ref (q 11), .ref (q 12), .ref (q 1)])), (q 11, .inl (cI, N, .inl lt)), (q 12, .inl (cI, N, .inl ft)), (q 13, .inl (cI, N, .inl wy1))] H := hP
        have hD : va_D A [(q 0, .inr (2, [.ref (q 1), .ref (q 7), .ref (q 10), .ref (q 13), .int (nI K), .int src, .int snk, .int cir, .int sol, .int rd, .int (fw + r_5)])), (q 1, .inr (1, [.int (nI N), .ref (q 2), .ref (q 3), .ref (q 4), .ref (q 5), .ref (q 6), .int (nI E)])), (q 2, .inl (cI, M, .inl fr)), (q 3, .inl (cI, M, .inl to)), (q 4, .inl (cI, M, .inl cap)), (q 5, .inl (cI, M, .inl uc)), (q 6, .inl (cI, M, .inl fl2)), (q 10, .inr (0, [.ref (q 11), .ref (q 12), .ref (q 1)])), (q 11, .inl (cI, N, .inl lt)), (q 12, .inl (cI, N, .inl ft)), (q 13, .inl (cI, N, .inl wy1))] := hD
        refine lv_aload_n hx hb dX2_doRound_49 rfl (lv_at hl 0 rfl) ?_
        refine lv_dup hx hb dX2_doRound_50 rfl ?_
        refine va_get (D := (dC, dI)) (ci := 2) (v := .int rd) (C := RX2) (T := TX2) (N := 11) hx hb hts fa_doRound_0 hown hK hP 0 rfl rfl 9 (by decide) (hts _ fa_doRound_3) (fun _ h9 => h9) rfl dX2_doRound_51 ?_
        refine lv_iconst (v := 1) hx hb dX2_doRound_54 (by decide) ?_
        refine lv_iadd hx hb dX2_doRound_55 ?_
        refine va_put (D := (dC, dI)) (ci := 2) (v := .int (rd + 1)) (ty := .int) (C := RX2) (T := TX2) (N := 11) hx hb hts fa_doRound_0 tyX2 tyX2_ok nmX2 hown hK hP hD hS 0 rfl rfl 9 (by decide) (hts _ fa_doRound_3) (fun _ h9 => h9) rfl (by decide +kernel) rfl rfl (Nat.le_of_ble_eq_true rfl) dX2_doRound_56 (fun H locs hP hD hS => ?_)
        have hP : va_P (dC, dI) vwCl [(q 0, .inr (2, [.ref (q 1), .ref (q 7), .ref (q 10), .ref (q 13), .int (nI K), .int src, .int snk, .int cir, .int sol, .int (rd + 1), .int (fw + r_5)])), (q 1, .inr (1, [.int (nI N), .ref (q 2), .ref (q 3), .ref (q 4), .ref (q 5), .ref (q 6), .int (nI E)])), (q 2, .inl (cI, M, .inl fr)), (q 3, .inl (cI, M, .inl to)), (q 4, .inl (cI, M, .inl cap)), (q 5, .inl (cI, M, .inl uc)), (q 6, .inl (cI, M, .inl fl2)), (q 10, .inr (0, [.ref (q 11), .ref (q 12), .ref (q 1)])), (q 11, .inl (cI, N, .inl lt)), (q 12, .inl (cI, N, .inl ft)), (q 13, .inl (cI, N, .inl wy1))] H := hP
        have hD : va_D A [(q 0, .inr (2, [.ref (q 1), .ref (q 7), .ref (q 10), .ref (q 13), .int (nI K), .int src, .int snk, .int cir, .int sol, .int (rd + 1), .int (fw + r_5)])), (q 1, .inr (1, [.int (nI N), .ref (q 2), .ref (q 3), .ref (q 4), .ref (q 5), .ref (q 6), .int (nI E)])), (q 2, .inl (cI, M, .inl fr)), (q 3, .inl (cI, M, .inl to)), (q 4, .inl (cI, M, .inl cap)), (q 5, .inl (cI, M, .inl uc)), (q 6, .inl (cI, M, .inl fl2)), (q 10, .inr (0, [.ref (q 11), .ref (q 12), .ref (q 1)])), (q 11, .inl (cI, N, .inl lt)), (q 12, .inl (cI, N, .inl ft)), (q 13, .inl (cI, N, .inl wy1))] := hD
        subst hfl
        subst hw_5
        have hP9 := hP.sub (ws' := [(q 0, .inr (2, [.ref (q 1), .ref (q 7), .ref (q 10), .ref (q 13), .int (nI K), .int src, .int snk, .int cir, .int sol, .int (rd + 1), .int (fw + (fp_mn (fp_lf cap fl) (fp_ar (fp_nx fr to cap uc fl lt ft E) fr to src) (K - 1)))])), (q 1, .inr (1, [.int (nI N), .ref (q 2), .ref (q 3), .ref (q 4), .ref (q 5), .ref (q 6), .int (nI E)])), (q 2, .inl (cI, M, .inl fr)), (q 3, .inl (cI, M, .inl to)), (q 4, .inl (cI, M, .inl cap)), (q 5, .inl (cI, M, .inl uc)), (q 6, .inl (cI, M, .inl (fp_sd fl (fp_ar (fp_nx fr to cap uc fl lt ft E) fr to src) (fp_mn (fp_lf cap fl) (fp_ar (fp_nx fr to cap uc fl lt ft E) fr to src) (K - 1)) K))), (q 10, .inr (0, [.ref (q 11), .ref (q 12), .ref (q 1)])), (q 11, .inl (cI, N, .inl lt)), (q 12, .inl (cI, N, .inl ft)), (q 13, .inl (cI, N, .inl wy1))]) [0, 1, 2, 3, 4, 5, 6, 7, 8, 9, 10] rfl
        have hD9 := hD.sub (ws' := [(q 0, .inr (2, [.ref (q 1), .ref (q 7), .ref (q 10), .ref (q 13), .int (nI K), .int src, .int snk, .int cir, .int sol, .int (rd + 1), .int (fw + (fp_mn (fp_lf cap fl) (fp_ar (fp_nx fr to cap uc fl lt ft E) fr to src) (K - 1)))])), (q 1, .inr (1, [.int (nI N), .ref (q 2), .ref (q 3), .ref (q 4), .ref (q 5), .ref (q 6), .int (nI E)])), (q 2, .inl (cI, M, .inl fr)), (q 3, .inl (cI, M, .inl to)), (q 4, .inl (cI, M, .inl cap)), (q 5, .inl (cI, M, .inl uc)), (q 6, .inl (cI, M, .inl (fp_sd fl (fp_ar (fp_nx fr to cap uc fl lt ft E) fr to src) (fp_mn (fp_lf cap fl) (fp_ar (fp_nx fr to cap uc fl lt ft E) fr to src) (K - 1)) K))), (q 10, .inr (0, [.ref (q 11), .ref (q 12), .ref (q 1)])), (q 11, .inl (cI, N, .inl lt)), (q 12, .inl (cI, N, .inl ft)), (q 13, .inl (cI, N, .inl wy1))]) [0, 1, 2, 3, 4, 5, 6, 7, 8, 9, 10] (by decide) rfl
        exact W.vret hx hb hr (fun t ht hW => ⟨⟨wy1, rfl, trivial, by rw [ht]; exact hP9, va_K.moved hW.alike hK, hD9⟩, hS.F ht⟩) hS.2.2 dX2_doRound_59
      · have hlt := ix_lt (by omega) (by omega) c_16
        have har := (hw.2.2.2 i hlt).2.2.2
        refine lv_aload_n hx hb dX2_doRound_19 rfl (lv_at hl 0 rfl) ?_
        refine va_get (D := (dC, dI)) (ci := 2) (v := .ref (q 1)) (C := RX2) (T := TX2) (N := 11) hx hb hts fa_doRound_0 hown hK hP 0 rfl rfl 0 (by decide) (hts _ fa_doRound_4) (fun _ h9 => h9) rfl dX2_doRound_20 ?_
        refine lv_aload_n hx hb dX2_doRound_23 rfl (lv_at hl 0 rfl) ?_
        refine va_get (D := (dC, dI)) (ci := 2) (v := .ref (q 13)) (C := RX2) (T := TX2) (N := 11) hx hb hts fa_doRound_0 hown hK hP 0 rfl rfl 3 (by decide) (hts _ fa_doRound_5) (fun _ h9 => h9) rfl dX2_doRound_24 ?_
        refine lv_iload_n hx hb dX2_doRound_27 rfl (lv_at hl 2 rfl) ?_
        refine va_iald (D := (dC, dI)) hx hb hK hP 10 0 rfl rfl (by first | assumption | exact vp_in_nI (by omega) (by omega)) dX2_doRound_28 ?_
        refine tp_i (y := nI ((fp_ar (fp_nx fr to cap uc fl lt ft E) fr to src) i)) (by rw [nI_clamp (n := i) (by omega)]; exact hw_1 i hlt) ?_
        refine lv_iload_n hx hb dX2_doRound_29 rfl (lv_at hl 1 rfl) ?_
        have hPc := hP.sub (ws' := [(q 1, .inr (1, [.int (nI N), .ref (q 2), .ref (q 3), .ref (q 4), .ref (q 5), .ref (q 6), .int (nI E)])), (q 2, .inl (cI, M, .inl fr)), (q 3, .inl (cI, M, .inl to)), (q 4, .inl (cI, M, .inl cap)), (q 5, .inl (cI, M, .inl uc)), (q 6, .inl (cI, M, .inl fl2))]) [1, 2, 3, 4, 5, 6] rfl
        have hDc := hD.sub (ws' := [(q 1, .inr (1, [.int (nI N), .ref (q 2), .ref (q 3), .ref (q 4), .ref (q 5), .ref (q 6), .int (nI E)])), (q 2, .inl (cI, M, .inl fr)), (q 3, .inl (cI, M, .inl to)), (q 4, .inl (cI, M, .inl cap)), (q 5, .inl (cI, M, .inl uc)), (q 6, .inl (cI, M, .inl fl2))]) [1, 2, 3, 4, 5, 6] (by decide) rfl
        have hFc := va_free (wc := [(q 1, .inr (1, [.int (nI N), .ref (q 2), .ref (q 3), .ref (q 4), .ref (q 5), .ref (q 6), .int (nI E)])), (q 2, .inl (cI, M, .inl fr)), (q 3, .inl (cI, M, .inl to)), (q 4, .inl (cI, M, .inl cap)), (q 5, .inl (cI, M, .inl uc)), (q 6, .inl (cI, M, .inl fl2))]) hD hS hA [1, 2, 3, 4, 5, 6] rfl
        refine va_callv (va_runV (As := [.int (nI ((fp_ar (fp_nx fr to cap uc fl lt ft E) fr to src) i)), .int r_5]) (rest := []) ⟨hx, hb, hml, hown, hts⟩ (k_send l dC dI cI cJ cZ q N M E fr to cap uc fl2 ((fp_ar (fp_nx fr to cap uc fl lt ft E) fr to src) i) r_5 H.size (by omega) hM) (cwV 2 hts gX2_doRound_X1_send rfl rfl rfl (by decide +kernel) ⟨Nat.le_of_ble_eq_true rfl, Nat.le_of_ble_eq_true rfl⟩) ⟨fun a U g mk q => by obtain ⟨q0, q1, qP, qK, qD⟩ := q; exact ⟨q0, q1, qP, va_K.moved (u := U) (U := U.calling g mk a) (Vm.Alike.refl U.vm) qK, qD⟩, va_recv hK hP (ci := 1) (q0 := 1) rfl rfl, fun U hU hW => ⟨rfl, by rw [hU], by rw [hU]; exact hPc, va_K.moved hW.alike hK, hDc.weaken (fun _ _ _ _ => trivial)⟩⟩ rfl rfl hl.1 rfl (lv_room (Nat.le_of_ble_eq_true rfl)) dX2_doRound_30 ⟨Nat.le_of_ble_eq_true rfl, Nat.le_of_ble_eq_true rfl⟩) hS (fun q _ h => hFc q h) hFc (fun u t H1 locs ht hvm hw_30 hB hz1 hk1 hS => ?_)
        obtain ⟨hP1, hK1, hD1⟩ := hB
        rw [ht] at hP1
        obtain ⟨hP, hD⟩ := va_join (wr := [(q 0, .inr (2, [.ref (q 1), .ref (q 7), .ref (q 10), .ref (q 13), .int (nI K), .int src, .int snk, .int cir, .int sol, .int rd, .int fw])), (q 10, .inr (0, [.ref (q 11), .ref (q 12), .ref (q 1)])), (q 11, .inl (cI, N, .inl lt)), (q 12, .inl (cI, N, .inl ft)), (q 13, .inl (cI, N, .inl wy1))]) (w1 := [(q 1, .inr (1, [.int (nI N), .ref (q 2), .ref (q 3), .ref (q 4), .ref (q 5), .ref (q 6), .int (nI E)])), (q 2, .inl (cI, M, .inl fr)), (q 3, .inl (cI, M, .inl to)), (q 4, .inl (cI, M, .inl cap)), (q 5, .inl (cI, M, .inl uc)), (q 6, .inl (cI, M, .inl (fp_send fl2 ((fp_ar (fp_nx fr to cap uc fl lt ft E) fr to src) i) r_5)))]) hP hD [1, 2, 3, 4, 5, 6] [0, 7, 8, 9, 10] rfl rfl (by decide) (by decide) hk1 hFc hP1 hD1
        generalize H1 = H at hP hS ⊢
        have hP := hP.sub (ws' := [(q 0, .inr (2, [.ref (q 1), .ref (q 7), .ref (q 10), .ref (q 13), .int (nI K), .int src, .int snk, .int cir, .int sol, .int rd, .int fw])), (q 1, .inr (1, [.int (nI N), .ref (q 2), .ref (q 3), .ref (q 4), .ref (q 5), .ref (q 6), .int (nI E)])), (q 2, .inl (cI, M, .inl fr)), (q 3, .inl (cI, M, .inl to)), (q 4, .inl (cI, M, .inl cap)), (q 5, .inl (cI, M, .inl uc)), (q 6, .inl (cI, M, .inl (fp_send fl2 ((fp_ar (fp_nx fr to cap uc fl lt ft E) fr to src) i) r_5))), (q 10, .inr (0, [.ref (q 11), .ref (q 12), .ref (q 1)])), (q 11, .inl (cI, N, .inl lt)), (q 12, .inl (cI, N, .inl ft)), (q 13, .inl (cI, N, .inl wy1))]) [0, 5, 6, 7, 8, 9, 10, 1, 2, 3, 4] rfl
        have hD := hD.sub (ws' := [(q 0, .inr (2, [.ref (q 1), .ref (q 7), .ref (q 10), .ref (q 13), .int (nI K), .int src, .int snk, .int cir, .int sol, .int rd, .int fw])), (q 1, .inr (1, [.int (nI N), .ref (q 2), .ref (q 3), .ref (q 4), .ref (q 5), .ref (q 6), .int (nI E)])), (q 2, .inl (cI, M, .inl fr)), (q 3, .inl (cI, M, .inl to)), (q 4, .inl (cI, M, .inl cap)), (q 5, .inl (cI, M, .inl uc)), (q 6, .inl (cI, M, .inl (fp_send fl2 ((fp_ar (fp_nx fr to cap uc fl lt ft E) fr to src) i) r_5))), (q 10, .inr (0, [.ref (q 11), .ref (q 12), .ref (q 1)])), (q 11, .inl (cI, N, .inl lt)), (q 12, .inl (cI, N, .inl ft)), (q 13, .inl (cI, N, .inl wy1))]) [0, 5, 6, 7, 8, 9, 10, 1, 2, 3, 4] (by decide) rfl
        refine lv_iinc (v := nI (i + 1)) (lv' := [(2, .int (nI (i + 1))), (0, .ref (q 0)), (1, .int r_5)]) hx hb dX2_doRound_33 hl (k := 2) rfl (by first | exact nI_1 _ | exact nI_add _ _) (by decide) rfl (fun ls hl => ?_)
        refine lv_goto (tgt := 11) hx hb dX2_doRound_36 (by decide) ?_
        exact ih_a (i + 1) (fp_send fl2 ((fp_ar (fp_nx fr to cap uc fl lt ft E) fr to src) i) r_5) (by first | assumption | omega | rfl) (by rw [fp_sd, ← hfl]) (by omega) _ _ hP hD hS _ (lv_sub hl [1, 2, 0] rfl)
  exact lo_a (K - 0 + 1) 0 fl (by first | assumption | omega | rfl) rfl (by omega) _ _ hP hD hS _ (lv_sub hl [2, 1, 0] rfl)

theorem fa_findWay_0 : ∀ w ∈ wsX20, w ∈ wsX2_findWay := by decide +kernel
theorem fa_findWay_1 : Cond.fieldLink RX2 40 "FlowProofs" "toSink" "LFlowProofs$Distances;" ∈ wsX2_findWay := by decide +kernel
theorem fa_findWay_2 : Cond.fieldLink RX2 15 "FlowProofs" "sink" "I" ∈ wsX2_findWay := by decide +kernel
theorem fa_findWay_3 : Cond.fieldLink RX2 11 "FlowProofs" "source" "I" ∈ wsX2_findWay := by decide +kernel
set_option maxHeartbeats 4000000 in
set_option maxRecDepth 100000 in
theorem k_findWay (l : Launch) (dC : Nat → ClassId) (dI : Nat → Nat → Nat) (cI cJ cZ : ClassId) (q : Nat → Nat) (N M E : Nat) (fr to cap uc fl lt ft : Nat → Int32) (wl src snk cir sol rd fw : Int32) (sz : Nat) (hE : E ≤ M) (hM : M < 1000) (hN : N < 1000) (hfr : ∀ e, e < E → vp_in (fr e) N) (hto : ∀ e, e < E → vp_in (to e) N) (hsrc : vp_in src N) (hsnk : vp_in snk N) : Met l yX2_findWay wsX2_findWay ({ frames := 5, cells := 0, slots := 0, locals := 110 }) (va_Pc [.ref (q 0)] (fun U => U.heap.size = sz ∧ va_P (dC, dI) vwCl [(q 0, .inr (2, [.ref (q 1), .ref (q 7), .ref (q 10), .ref (q 13), .int wl, .int src, .int snk, .int cir, .int sol, .int rd, .int fw])), (q 1, .inr (1, [.int (nI N), .ref (q 2), .ref (q 3), .ref (q 4), .ref (q 5), .ref (q 6), .int (nI E)])), (q 2, .inl (cI, M, .inl fr)), (q 3, .inl (cI, M, .inl to)), (q 4, .inl (cI, M, .inl cap)), (q 5, .inl (cI, M, .inl uc)), (q 6, .inl (cI, M, .inl fl)), (q 10, .inr (0, [.ref (q 11), .ref (q 12), .ref (q 1)])), (q 11, .inl (cI, N, .inl lt)), (q 12, .inl (cI, N, .inl ft))] U.heap ∧ va_K (dC, dI) vwCl [(cI, .int), (cJ, .long), (cZ, .boolean)] U ∧ va_D (fun _ => True) [(q 0, .inr (2, [.ref (q 1), .ref (q 7), .ref (q 10), .ref (q 13), .int wl, .int src, .int snk, .int cir, .int sol, .int rd, .int fw])), (q 1, .inr (1, [.int (nI N), .ref (q 2), .ref (q 3), .ref (q 4), .ref (q 5), .ref (q 6), .int (nI E)])), (q 2, .inl (cI, M, .inl fr)), (q 3, .inl (cI, M, .inl to)), (q 4, .inl (cI, M, .inl cap)), (q 5, .inl (cI, M, .inl uc)), (q 6, .inl (cI, M, .inl fl)), (q 10, .inr (0, [.ref (q 11), .ref (q 12), .ref (q 1)])), (q 11, .inl (cI, N, .inl lt)), (q 12, .inl (cI, N, .inl ft))])) (va_Qi (fun (r : Int32) (u_ : Unit) => r = (if (fp_lab fr to cap uc N E snk fl).1 src.toNatClampNeg = 2147483647 then 0 else 1)) (fun (u_ : Unit) (t : State) => va_P (dC, dI) vwCl [(q 0, .inr (2, [.ref (q 1), .ref (q 7), .ref (q 10), .ref (q 13), .int wl, .int src, .int snk, .int cir, .int sol, .int rd, .int fw])), (q 1, .inr (1, [.int (nI N), .ref (q 2), .ref (q 3), .ref (q 4), .ref (q 5), .ref (q 6), .int (nI E)])), (q 2, .inl (cI, M, .inl fr)), (q 3, .inl (cI, M, .inl to)), (q 4, .inl (cI, M, .inl cap)), (q 5, .inl (cI, M, .inl uc)), (q 6, .inl (cI, M, .inl fl)), (q 10, .inr (0, [.ref (q 11), .ref (q 12), .ref (q 1)])), (q 11, .inl (cI, N, .inl ((fp_lab fr to cap uc N E snk fl).1))), (q 12, .inl (cI, N, .inl ((fp_lab fr to cap uc N E snk fl).2.1)))] t.heap ∧ va_K (dC, dI) vwCl [(cI, .int), (cJ, .long), (cZ, .boolean)] t ∧ va_D (va_A [(q 0, .inr (2, [.ref (q 1), .ref (q 7), .ref (q 10), .ref (q 13), .int wl, .int src, .int snk, .int cir, .int sol, .int rd, .int fw])), (q 1, .inr (1, [.int (nI N), .ref (q 2), .ref (q 3), .ref (q 4), .ref (q 5), .ref (q 6), .int (nI E)])), (q 2, .inl (cI, M, .inl fr)), (q 3, .inl (cI, M, .inl to)), (q 4, .inl (cI, M, .inl cap)), (q 5, .inl (cI, M, .inl uc)), (q 6, .inl (cI, M, .inl fl)), (q 10, .inr (0, [.ref (q 11), .ref (q 12), .ref (q 1)])), (q 11, .inl (cI, N, .inl lt)), (q 12, .inl (cI, N, .inl ft))] sz) [(q 0, .inr (2, [.ref (q 1), .ref (q 7), .ref (q 10), .ref (q 13), .int wl, .int src, .int snk, .int cir, .int sol, .int rd, .int fw])), (q 1, .inr (1, [.int (nI N), .ref (q 2), .ref (q 3), .ref (q 4), .ref (q 5), .ref (q 6), .int (nI E)])), (q 2, .inl (cI, M, .inl fr)), (q 3, .inl (cI, M, .inl to)), (q 4, .inl (cI, M, .inl cap)), (q 5, .inl (cI, M, .inl uc)), (q 6, .inl (cI, M, .inl fl)), (q 10, .inr (0, [.ref (q 11), .ref (q 12), .ref (q 1)])), (q 11, .inl (cI, N, .inl ((fp_lab fr to cap uc N E snk fl).1))), (q 12, .inl (cI, N, .inl ((fp_lab fr to cap uc N E snk fl).2.1)))]) (va_A [(q 0, .inr (2, [.ref (q 1), .ref (q 7), .ref (q 10), .ref (q 13), .int wl, .int src, .int snk, .int cir, .int sol, .int rd, .int fw])), (q 1, .inr (1, [.int (nI N), .ref (q 2), .ref (q 3), .ref (q 4), .ref (q 5), .ref (q 6), .int (nI E)])), (q 2, .inl (cI, M, .inl fr)), (q 3, .inl (cI, M, .inl to)), (q 4, .inl (cI, M, .inl cap)), (q 5, .inl (cI, M, .inl uc)), (q 6, .inl (cI, M, .inl fl)), (q 10, .inr (0, [.ref (q 11), .ref (q 12), .ref (q 1)])), (q 11, .inl (cI, N, .inl lt)), (q 12, .inl (cI, N, .inl ft))] sz)) 0 0 (va_A [(q 0, .inr (2, [.ref (q 1), .ref (q 7), .ref (q 10), .ref (q 13), .int wl, .int src, .int snk, .int cir, .int sol, .int rd, .int fw])), (q 1, .inr (1, [.int (nI N), .ref (q 2), .ref (q 3), .ref (q 4), .ref (q 5), .ref (q 6), .int (nI E)])), (q 2, .inl (cI, M, .inl fr)), (q 3, .inl (cI, M, .inl to)), (q 4, .inl (cI, M, .inl cap)), (q 5, .inl (cI, M, .inl uc)), (q 6, .inl (cI, M, .inl fl)), (q 10, .inr (0, [.ref (q 11), .ref (q 12), .ref (q 1)])), (q 11, .inl (cI, N, .inl lt)), (q 12, .inl (cI, N, .inl ft))] sz) := by
  refine Met.ofW (cc := cX2_findWay) (maxL := 1) (ret := (some .boolean)) (by decide) rfl ?_
  intro p e s m args below meth c s₁ B hml hv
  obtain ⟨rfl, hsz, hP, hK, hD0⟩ := hv
  have hx := B.exec
  have hb := B.bytes
  have hr := B.returns
  have hts := atoms_spec (ws := wsX2_findWay) B.pre
  have hown : s.vm.findClass RX2 = some m.cls := findClass_of_methodNamed B.named
  have hlocks := B.notSynchronized
  subst hsz
  have hD := hD0.self (sz := s.heap.size)
  generalize hAe : va_A [(q 0, .inr (2, [.ref (q 1), .ref (q 7), .ref (q 10), .ref (q 13), .int wl, .int src, .int snk, .int cir, .int sol, .int rd, .int fw])), (q 1, .inr (1, [.int (nI N), .ref (q 2), .ref (q 3), .ref (q 4), .ref (q 5), .ref (q 6), .int (nI E)])), (q 2, .inl (cI, M, .inl fr)), (q 3, .inl (cI, M, .inl to)), (q 4, .inl (cI, M, .inl cap)), (q 5, .inl (cI, M, .inl uc)), (q 6, .inl (cI, M, .inl fl)), (q 10, .inr (0, [.ref (q 11), .ref (q 12), .ref (q 1)])), (q 11, .inl (cI, N, .inl lt)), (q 12, .inl (cI, N, .inl ft))] s.heap.size = A at hD ⊢
  have hA : ∀ q : Nat, s.heap.size ≤ q → A q := fun q h => by rw [← hAe]; exact Or.inr h
  have hS : va_S A s.heap s.heap [] := va_S.rf
  have hP : va_P (dC, dI) vwCl [(q 0, .inr (2, [.ref (q 1), .ref (q 7), .ref (q 10), .ref (q 13), .int wl, .int src, .int snk, .int cir, .int sol, .int rd, .int fw])), (q 1, .inr (1, [.int (nI N), .ref (q 2), .ref (q 3), .ref (q 4), .ref (q 5), .ref (q 6), .int (nI E)])), (q 2, .inl (cI, M, .inl fr)), (q 3, .inl (cI, M, .inl to)), (q 4, .inl (cI, M, .inl cap)), (q 5, .inl (cI, M, .inl uc)), (q 6, .inl (cI, M, .inl fl)), (q 10, .inr (0, [.ref (q 11), .ref (q 12), .ref (q 1)])), (q 11, .inl (cI, N, .inl lt)), (q 12, .inl (cI, N, .inl ft))] s.heap := hP
  have hl := lv_entry ([.ref (q 0)]) (n := 1) (Nat.le_of_ble_eq_true rfl)
  rw [lg_entry_eq]
  generalize (lg_sl ([.ref (q 0)]) ++ List.replicate (1 - (lg_sl ([.ref (q 0)])).length) Slot.unset).toArray = ls at hl ⊢
  have hl : lv_has ls 1 [(0, .ref (q 0))] := hl
  refine lv_aload_n hx hb dX2_findWay_0 rfl (lv_at hl 0 rfl) ?_
  refine va_get (D := (dC, dI)) (ci := 2) (v := .ref (q 10)) (C := RX2) (T := TX2) (N := 11) hx hb hts fa_findWay_0 hown hK hP 0 rfl rfl 2 (by decide) (hts _ fa_findWay_1) (fun _ h9 => h9) rfl dX2_findWay_1 ?_
  refine lv_aload_n hx hb dX2_findWay_4 rfl (lv_at hl 0 rfl) ?_
  refine va_get (D := (dC, dI)) (ci := 2) (v := .int snk) (C := RX2) (T := TX2) (N := 11) hx hb hts fa_findWay_0 hown hK hP 0 rfl rfl 6 (by decide) (hts _ fa_findWay_2) (fun _ h9 => h9) rfl dX2_findWay_5 ?_
  have hPc := hP.sub (ws' := [(q 10, .inr (0, [.ref (q 11), .ref (q 12), .ref (q 1)])), (q 11, .inl (cI, N, .inl lt)), (q 12, .inl (cI, N, .inl ft)), (q 1, .inr (1, [.int (nI N), .ref (q 2), .ref (q 3), .ref (q 4), .ref (q 5), .ref (q 6), .int (nI E)])), (q 2, .inl (cI, M, .inl fr)), (q 3, .inl (cI, M, .inl to)), (q 4, .inl (cI, M, .inl cap)), (q 5, .inl (cI, M, .inl uc)), (q 6, .inl (cI, M, .inl fl))]) [7, 8, 9, 1, 2, 3, 4, 5, 6] rfl
  have hDc := hD.sub (ws' := [(q 10, .inr (0, [.ref (q 11), .ref (q 12), .ref (q 1)])), (q 11, .inl (cI, N, .inl lt)), (q 12, .inl (cI, N, .inl ft)), (q 1, .inr (1, [.int (nI N), .ref (q 2), .ref (q 3), .ref (q 4), .ref (q 5), .ref (q 6), .int (nI E)])), (q 2, .inl (cI, M, .inl fr)), (q 3, .inl (cI, M, .inl to)), (q 4, .inl (cI, M, .inl cap)), (q 5, .inl (cI, M, .inl uc)), (q 6, .inl (cI, M, .inl fl))]) [7, 8, 9, 1, 2, 3, 4, 5, 6] (by decide) rfl
  have hFc := va_free (wc := [(q 10, .inr (0, [.ref (q 11), .ref (q 12), .ref (q 1)])), (q 11, .inl (cI, N, .inl lt)), (q 12, .inl (cI, N, .inl ft)), (q 1, .inr (1, [.int (nI N), .ref (q 2), .ref (q 3), .ref (q 4), .ref (q 5), .ref (q 6), .int (nI E)])), (q 2, .inl (cI, M, .inl fr)), (q 3, .inl (cI, M, .inl to)), (q 4, .inl (cI, M, .inl cap)), (q 5, .inl (cI, M, .inl uc)), (q 6, .inl (cI, M, .inl fl))]) hD hS hA [7, 8, 9, 1, 2, 3, 4, 5, 6] rfl
  refine va_callv (va_runV (As := [.int snk]) (rest := []) ⟨hx, hb, hml, hown, hts⟩ (k_measureTo l dC dI cI cJ cZ (q 10) (q 11) (q 12) q N M E fr to cap uc fl lt ft snk s.heap.size hE hM hN hfr hto hsnk) (cwV 1 hts gX2_findWay_X0_measureTo rfl rfl rfl (by decide +kernel) ⟨Nat.le_of_ble_eq_true rfl, Nat.le_of_ble_eq_true rfl⟩) ⟨fun a U g mk q => by obtain ⟨q0, q1, qP, qK, qD⟩ := q; exact ⟨q0, q1, qP, va_K.moved (u := U) (U := U.calling g mk a) (Vm.Alike.refl U.vm) qK, qD⟩, va_recv hK hP (ci := 0) (q0 := 7) rfl rfl, fun U hU hW => ⟨rfl, by rw [hU], by rw [hU]; exact hPc, va_K.moved hW.alike hK, hDc.weaken (fun _ _ _ _ => trivial)⟩⟩ rfl rfl hl.1 rfl (lv_room (Nat.le_of_ble_eq_true rfl)) dX2_findWay_8 ⟨Nat.le_of_ble_eq_true rfl, Nat.le_of_ble_eq_true rfl⟩) hS (fun q _ h => hFc q h) hFc (fun u t H1 locs ht hvm hw_8 hB hz1 hk1 hS => ?_)
  obtain ⟨hP1, hK1, hD1⟩ := hB
  rw [ht] at hP1
  obtain ⟨hP, hD⟩ := va_join (wr := [(q 0, .inr (2, [.ref (q 1), .ref (q 7), .ref (q 10), .ref (q 13), .int wl, .int src, .int snk, .int cir, .int sol, .int rd, .int fw]))]) (w1 := [(q 10, .inr (0, [.ref (q 11), .ref (q 12), .ref (q 1)])), (q 11, .inl (cI, N, .inl ((fp_lab fr to cap uc N E snk fl).1))), (q 12, .inl (cI, N, .inl ((fp_lab fr to cap uc N E snk fl).2.1))), (q 1, .inr (1, [.int (nI N), .ref (q 2), .ref (q 3), .ref (q 4), .ref (q 5), .ref (q 6), .int (nI E)])), (q 2, .inl (cI, M, .inl fr)), (q 3, .inl (cI, M, .inl to)), (q 4, .inl (cI, M, .inl cap)), (q 5, .inl (cI, M, .inl uc)), (q 6, .inl (cI, M, .inl fl))]) hP hD [7, 8, 9, 1, 2, 3, 4, 5, 6] [0] rfl rfl (by decide) (by decide) hk1 hFc hP1 hD1
  generalize H1 = H at hP hS ⊢
  have hP := hP.sub (ws' := [(q 0, .inr (2, [.ref (q 1), .ref (q 7), .ref (q 10), .ref (q 13), .int wl, .int src, .int snk, .int cir, .int sol, .int rd, .int fw])), (q 1, .inr (1, [.int (nI N), .ref (q 2), .ref (q 3), .ref (q 4), .ref (q 5), .ref (q 6), .int (nI E)])), (q 2, .inl (cI, M, .inl fr)), (q 3, .inl (cI, M, .inl to)), (q 4, .inl (cI, M, .inl cap)), (q 5, .inl (cI, M, .inl uc)), (q 6, .inl (cI, M, .inl fl)), (q 10, .inr (0, [.ref (q 11), .ref (q 12), .ref (q 1)])), (q 11, .inl (cI, N, .inl ((fp_lab fr to cap uc N E snk fl).1))), (q 12, .inl (cI, N, .inl ((fp_lab fr to cap uc N E snk fl).2.1)))]) [0, 4, 5, 6, 7, 8, 9, 1, 2, 3] rfl
  have hD := hD.sub (ws' := [(q 0, .inr (2, [.ref (q 1), .ref (q 7), .ref (q 10), .ref (q 13), .int wl, .int src, .int snk, .int cir, .int sol, .int rd, .int fw])), (q 1, .inr (1, [.int (nI N), .ref (q 2), .ref (q 3), .ref (q 4), .ref (q 5), .ref (q 6), .int (nI E)])), (q 2, .inl (cI, M, .inl fr)), (q 3, .inl (cI, M, .inl to)), (q 4, .inl (cI, M, .inl cap)), (q 5, .inl (cI, M, .inl uc)), (q 6, .inl (cI, M, .inl fl)), (q 10, .inr (0, [.ref (q 11), .ref (q 12), .ref (q 1)])), (q 11, .inl (cI, N, .inl ((fp_lab fr to cap uc N E snk fl).1))), (q 12, .inl (cI, N, .inl ((fp_lab fr to cap uc N E snk fl).2.1)))]) [0, 4, 5, 6, 7, 8, 9, 1, 2, 3] (by decide) rfl
  refine lv_aload_n hx hb dX2_findWay_11 rfl (lv_at hl 0 rfl) ?_
  refine va_get (D := (dC, dI)) (ci := 2) (v := .ref (q 10)) (C := RX2) (T := TX2) (N := 11) hx hb hts fa_findWay_0 hown hK hP 0 rfl rfl 2 (by decide) (hts _ fa_findWay_1) (fun _ h9 => h9) rfl dX2_findWay_12 ?_
  refine lv_aload_n hx hb dX2_findWay_15 rfl (lv_at hl 0 rfl) ?_
  refine va_get (D := (dC, dI)) (ci := 2) (v := .int src) (C := RX2) (T := TX2) (N := 11) hx hb hts fa_findWay_0 hown hK hP 0 rfl rfl 5 (by decide) (hts _ fa_findWay_3) (fun _ h9 => h9) rfl dX2_findWay_16 ?_
  have hPc := hP.sub (ws' := [(q 10, .inr (0, [.ref (q 11), .ref (q 12), .ref (q 1)])), (q 11, .inl (cI, N, .inl ((fp_lab fr to cap uc N E snk fl).1))), (q 12, .inl (cI, N, .inl ((fp_lab fr to cap uc N E snk fl).2.1)))]) [7, 8, 9] rfl
  refine vp_callSi (W.runV (As := [.int src]) (rest := []) ⟨hx, hb, hml, hown, hts⟩ (k_reaches l dC dI cI cJ cZ (q 10) (q 11) (q 12) q N ((fp_lab fr to cap uc N E snk fl).1) ((fp_lab fr to cap uc N E snk fl).2.1) src (by assumption)) (cwV 1 hts gX2_findWay_X0_reaches rfl rfl rfl (by decide +kernel) ⟨Nat.le_of_ble_eq_true rfl, Nat.le_of_ble_eq_true rfl⟩) ⟨fun a U g mk q => by obtain ⟨q0, qP, qK⟩ := q; exact ⟨q0, qP, va_K.moved (u := U) (U := U.calling g mk a) (Vm.Alike.refl U.vm) qK⟩, va_recv hK hP (ci := 0) (q0 := 7) rfl rfl, fun U hU hW => ⟨rfl, by rw [hU]; exact hPc, va_K.moved hW.alike hK⟩⟩ rfl rfl hl.1 rfl (lv_room (Nat.le_of_ble_eq_true rfl)) dX2_findWay_19 ⟨Nat.le_of_ble_eq_true rfl, Nat.le_of_ble_eq_true rfl⟩) (fun r_19 hw_19 => ?_)
  subst hw_19
  have hP9 := hP.sub (ws' := [(q 0, .inr (2, [.ref (q 1), .ref (q 7), .ref (q 10), .ref (q 13), .int wl, .int src, .int snk, .int cir, .int sol, .int rd, .int fw])), (q 1, .inr (1, [.int (nI N), .ref (q 2), .ref (q 3), .ref (q 4), .ref (q 5), .ref (q 6), .int (nI E)])), (q 2, .inl (cI, M, .inl fr)), (q 3, .inl (cI, M, .inl to)), (q 4, .inl (cI, M, .inl cap)), (q 5, .inl (cI, M, .inl uc)), (q 6, .inl (cI, M, .inl fl)), (q 10, .inr (0, [.ref (q 11), .ref (q 12), .ref (q 1)])), (q 11, .inl (cI, N, .inl ((fp_lab fr to cap uc N E snk fl).1))), (q 12, .inl (cI, N, .inl ((fp_lab fr to cap uc N E snk fl).2.1)))]) [0, 1, 2, 3, 4, 5, 6, 7, 8, 9] rfl
  have hD9 := hD.sub (ws' := [(q 0, .inr (2, [.ref (q 1), .ref (q 7), .ref (q 10), .ref (q 13), .int wl, .int src, .int snk, .int cir, .int sol, .int rd, .int fw])), (q 1, .inr (1, [.int (nI N), .ref (q 2), .ref (q 3), .ref (q 4), .ref (q 5), .ref (q 6), .int (nI E)])), (q 2, .inl (cI, M, .inl fr)), (q 3, .inl (cI, M, .inl to)), (q 4, .inl (cI, M, .inl cap)), (q 5, .inl (cI, M, .inl uc)), (q 6, .inl (cI, M, .inl fl)), (q 10, .inr (0, [.ref (q 11), .ref (q 12), .ref (q 1)])), (q 11, .inl (cI, N, .inl ((fp_lab fr to cap uc N E snk fl).1))), (q 12, .inl (cI, N, .inl ((fp_lab fr to cap uc N E snk fl).2.1)))]) [0, 1, 2, 3, 4, 5, 6, 7, 8, 9] (by decide) rfl
  exact W.zret (v := (if ((fp_lab fr to cap uc N E snk fl).1) src.toNatClampNeg = 2147483647 then 0 else 1)) hx hb hr (nb01 (by split <;> simp)) (fun t ht hW => ⟨⟨(if ((fp_lab fr to cap uc N E snk fl).1) src.toNatClampNeg = 2147483647 then 0 else 1), (), rfl, rfl, by rw [ht]; exact hP9, va_K.moved hW.alike hK, hD9⟩, hS.F ht⟩) hS.2.2 dX2_findWay_22

theorem fa_forget_0 : ∀ w ∈ wsX20, w ∈ wsX2_forgetSolving := by decide +kernel
theorem fa_forget_1 : Cond.fieldLink RX2 27 "FlowProofs" "net" "LFlowProofs$Net;" ∈ wsX2_forgetSolving := by decide +kernel
theorem fa_forget_2 : Cond.fieldLink RX2 76 "FlowProofs" "solved" "Z" ∈ wsX2_forgetSolving := by decide +kernel
theorem fa_forget_3 : Cond.fieldLink RX2 125 "FlowProofs" "roundsDone" "I" ∈ wsX2_forgetSolving := by decide +kernel
theorem fa_forget_4 : Cond.fieldLink RX2 89 "FlowProofs" "flowing" "I" ∈ wsX2_forgetSolving := by decide +kernel
set_option maxHeartbeats 4000000 in
set_option maxRecDepth 100000 in
theorem k_forget (l : Launch) (dC : Nat → ClassId) (dI : Nat → Nat → Nat) (cI cJ cZ : ClassId) (q : Nat → Nat) (N M E : Nat) (fr to cap uc fl : Nat → Int32) (wl src snk cir sol rd fw : Int32) (sz : Nat) (hM : M < 1000) : Met l yX2_forgetSolving wsX2_forgetSolving ({ frames := 2, cells := 0, slots := 0, locals := 43 }) (va_Pc [.ref (q 0)] (fun U => U.heap.size = sz ∧ va_P (dC, dI) vwCl [(q 0, .inr (2, [.ref (q 1), .ref (q 7), .ref (q 10), .ref (q 13), .int wl, .int src, .int snk, .int cir, .int sol, .int rd, .int fw])), (q 1, .inr (1, [.int (nI N), .ref (q 2), .ref (q 3), .ref (q 4), .ref (q 5), .ref (q 6), .int (nI E)])), (q 2, .inl (cI, M, .inl fr)), (q 3, .inl (cI, M, .inl to)), (q 4, .inl (cI, M, .inl cap)), (q 5, .inl (cI, M, .inl uc)), (q 6, .inl (cI, M, .inl fl))] U.heap ∧ va_K (dC, dI) vwCl [(cI, .int), (cJ, .long), (cZ, .boolean)] U ∧ va_D (fun _ => True) [(q 0, .inr (2, [.ref (q 1), .ref (q 7), .ref (q 10), .ref (q 13), .int wl, .int src, .int snk, .int cir, .int sol, .int rd, .int fw])), (q 1, .inr (1, [.int (nI N), .ref (q 2), .ref (q 3), .ref (q 4), .ref (q 5), .ref (q 6), .int (nI E)])), (q 2, .inl (cI, M, .inl fr)), (q 3, .inl (cI, M, .inl to)), (q 4, .inl (cI, M, .inl cap)), (q 5, .inl (cI, M, .inl uc)), (q 6, .inl (cI, M, .inl fl))])) (va_Qv (fun (u_ : Unit) => True) (fun (u_ : Unit) (t : State) => va_P (dC, dI) vwCl [(q 0, .inr (2, [.ref (q 1), .ref (q 7), .ref (q 10), .ref (q 13), .int wl, .int src, .int snk, .int cir, .int 0, .int 0, .int 0])), (q 1, .inr (1, [.int (nI N), .ref (q 2), .ref (q 3), .ref (q 4), .ref (q 5), .ref (q 6), .int (nI E)])), (q 2, .inl (cI, M, .inl fr)), (q 3, .inl (cI, M, .inl to)), (q 4, .inl (cI, M, .inl cap)), (q 5, .inl (cI, M, .inl uc)), (q 6, .inl (cI, M, .inl (fun _ => 0)))] t.heap ∧ va_K (dC, dI) vwCl [(cI, .int), (cJ, .long), (cZ, .boolean)] t ∧ va_D (va_A [(q 0, .inr (2, [.ref (q 1), .ref (q 7), .ref (q 10), .ref (q 13), .int wl, .int src, .int snk, .int cir, .int sol, .int rd, .int fw])), (q 1, .inr (1, [.int (nI N), .ref (q 2), .ref (q 3), .ref (q 4), .ref (q 5), .ref (q 6), .int (nI E)])), (q 2, .inl (cI, M, .inl fr)), (q 3, .inl (cI, M, .inl to)), (q 4, .inl (cI, M, .inl cap)), (q 5, .inl (cI, M, .inl uc)), (q 6, .inl (cI, M, .inl fl))] sz) [(q 0, .inr (2, [.ref (q 1), .ref (q 7), .ref (q 10), .ref (q 13), .int wl, .int src, .int snk, .int cir, .int 0, .int 0, .int 0])), (q 1, .inr (1, [.int (nI N), .ref (q 2), .ref (q 3), .ref (q 4), .ref (q 5), .ref (q 6), .int (nI E)])), (q 2, .inl (cI, M, .inl fr)), (q 3, .inl (cI, M, .inl to)), (q 4, .inl (cI, M, .inl cap)), (q 5, .inl (cI, M, .inl uc)), (q 6, .inl (cI, M, .inl (fun _ => 0)))]) (va_A [(q 0, .inr (2, [.ref (q 1), .ref (q 7), .ref (q 10), .ref (q 13), .int wl, .int src, .int snk, .int cir, .int sol, .int rd, .int fw])), (q 1, .inr (1, [.int (nI N), .ref (q 2), .ref (q 3), .ref (q 4), .ref (q 5), .ref (q 6), .int (nI E)])), (q 2, .inl (cI, M, .inl fr)), (q 3, .inl (cI, M, .inl to)), (q 4, .inl (cI, M, .inl cap)), (q 5, .inl (cI, M, .inl uc)), (q 6, .inl (cI, M, .inl fl))] sz)) 0 0 (va_A [(q 0, .inr (2, [.ref (q 1), .ref (q 7), .ref (q 10), .ref (q 13), .int wl, .int src, .int snk, .int cir, .int sol, .int rd, .int fw])), (q 1, .inr (1, [.int (nI N), .ref (q 2), .ref (q 3), .ref (q 4), .ref (q 5), .ref (q 6), .int (nI E)])), (q 2, .inl (cI, M, .inl fr)), (q 3, .inl (cI, M, .inl to)), (q 4, .inl (cI, M, .inl cap)), (q 5, .inl (cI, M, .inl uc)), (q 6, .inl (cI, M, .inl fl))] sz) := by
  refine Met.ofW (cc := cX2_forgetSolving) (maxL := 1) (ret := none) (by decide) rfl ?_
  intro p e s m args below meth c s₁ B hml hv
  obtain ⟨rfl, hsz, hP, hK, hD0⟩ := hv
  have hx := B.exec
  have hb := B.bytes
  have hr := B.returns
  have hts := atoms_spec (ws := wsX2_forgetSolving) B.pre
  have hown : s.vm.findClass RX2 = some m.cls := findClass_of_methodNamed B.named
  have hlocks := B.notSynchronized
  subst hsz
  have hD := hD0.self (sz := s.heap.size)
  generalize hAe : va_A [(q 0, .inr (2, [.ref (q 1), .ref (q 7), .ref (q 10), .ref (q 13), .int wl, .int src, .int snk, .int cir, .int sol, .int rd, .int fw])), (q 1, .inr (1, [.int (nI N), .ref (q 2), .ref (q 3), .ref (q 4), .ref (q 5), .ref (q 6), .int (nI E)])), (q 2, .inl (cI, M, .inl fr)), (q 3, .inl (cI, M, .inl to)), (q 4, .inl (cI, M, .inl cap)), (q 5, .inl (cI, M, .inl uc)), (q 6, .inl (cI, M, .inl fl))] s.heap.size = A at hD ⊢
  have hA : ∀ q : Nat, s.heap.size ≤ q → A q := fun q h => by rw [← hAe]; exact Or.inr h
  have hS : va_S A s.heap s.heap [] := va_S.rf
  have hP : va_P (dC, dI) vwCl [(q 0, .inr (2, [.ref (q 1), .ref (q 7), .ref (q 10), .ref (q 13), .int wl, .int src, .int snk, .int cir, .int sol, .int rd, .int fw])), (q 1, .inr (1, [.int (nI N), .ref (q 2), .ref (q 3), .ref (q 4), .ref (q 5), .ref (q 6), .int (nI E)])), (q 2, .inl (cI, M, .inl fr)), (q 3, .inl (cI, M, .inl to)), (q 4, .inl (cI, M, .inl cap)), (q 5, .inl (cI, M, .inl uc)), (q 6, .inl (cI, M, .inl fl))] s.heap := hP
  have hl := lv_entry ([.ref (q 0)]) (n := 1) (Nat.le_of_ble_eq_true rfl)
  rw [lg_entry_eq]
  generalize (lg_sl ([.ref (q 0)]) ++ List.replicate (1 - (lg_sl ([.ref (q 0)])).length) Slot.unset).toArray = ls at hl ⊢
  have hl : lv_has ls 1 [(0, .ref (q 0))] := hl
  refine lv_aload_n hx hb dX2_forgetSolving_0 rfl (lv_at hl 0 rfl) ?_
  refine va_get (D := (dC, dI)) (ci := 2) (v := .ref (q 1)) (C := RX2) (T := TX2) (N := 11) hx hb hts fa_forget_0 hown hK hP 0 rfl rfl 0 (by decide) (hts _ fa_forget_1) (fun _ h9 => h9) rfl dX2_forgetSolving_1 ?_
  have hPc := hP.sub (ws' := [(q 1, .inr (1, [.int (nI N), .ref (q 2), .ref (q 3), .ref (q 4), .ref (q 5), .ref (q 6), .int (nI E)])), (q 2, .inl (cI, M, .inl fr)), (q 3, .inl (cI, M, .inl to)), (q 4, .inl (cI, M, .inl cap)), (q 5, .inl (cI, M, .inl uc)), (q 6, .inl (cI, M, .inl fl))]) [1, 2, 3, 4, 5, 6] rfl
  have hDc := hD.sub (ws' := [(q 1, .inr (1, [.int (nI N), .ref (q 2), .ref (q 3), .ref (q 4), .ref (q 5), .ref (q 6), .int (nI E)])), (q 2, .inl (cI, M, .inl fr)), (q 3, .inl (cI, M, .inl to)), (q 4, .inl (cI, M, .inl cap)), (q 5, .inl (cI, M, .inl uc)), (q 6, .inl (cI, M, .inl fl))]) [1, 2, 3, 4, 5, 6] (by decide) rfl
  have hFc := va_free (wc := [(q 1, .inr (1, [.int (nI N), .ref (q 2), .ref (q 3), .ref (q 4), .ref (q 5), .ref (q 6), .int (nI E)])), (q 2, .inl (cI, M, .inl fr)), (q 3, .inl (cI, M, .inl to)), (q 4, .inl (cI, M, .inl cap)), (q 5, .inl (cI, M, .inl uc)), (q 6, .inl (cI, M, .inl fl))]) hD hS hA [1, 2, 3, 4, 5, 6] rfl
  refine va_callv (va_runV (As := []) (rest := []) ⟨hx, hb, hml, hown, hts⟩ (k_clearFlow l dC dI cI cJ cZ q N M E fr to cap uc fl s.heap.size hM) (cwV 0 hts gX2_forgetSolving_X1_clearFlow rfl rfl rfl (by decide +kernel) ⟨Nat.le_of_ble_eq_true rfl, Nat.le_of_ble_eq_true rfl⟩) ⟨fun a U g mk q => by obtain ⟨q0, q1, qP, qK, qD⟩ := q; exact ⟨q0, q1, qP, va_K.moved (u := U) (U := U.calling g mk a) (Vm.Alike.refl U.vm) qK, qD⟩, va_recv hK hP (ci := 1) (q0 := 1) rfl rfl, fun U hU hW => ⟨rfl, by rw [hU], by rw [hU]; exact hPc, va_K.moved hW.alike hK, hDc.weaken (fun _ _ _ _ => trivial)⟩⟩ rfl rfl hl.1 rfl (lv_room (Nat.le_of_ble_eq_true rfl)) dX2_forgetSolving_4 ⟨Nat.le_of_ble_eq_true rfl, Nat.le_of_ble_eq_true rfl⟩) hS (fun q _ h => hFc q h) hFc (fun u t H1 locs ht hvm hw_4 hB hz1 hk1 hS => ?_)
  obtain ⟨hP1, hK1, hD1⟩ := hB
  rw [ht] at hP1
  obtain ⟨hP, hD⟩ := va_join (wr := [(q 0, .inr (2, [.ref (q 1), .ref (q 7), .ref (q 10), .ref (q 13), .int wl, .int src, .int snk, .int cir, .int sol, .int rd, .int fw]))]) (w1 := [(q 1, .inr (1, [.int (nI N), .ref (q 2), .ref (q 3), .ref (q 4), .ref (q 5), .ref (q 6), .int (nI E)])), (q 2, .inl (cI, M, .inl fr)), (q 3, .inl (cI, M, .inl to)), (q 4, .inl (cI, M, .inl cap)), (q 5, .inl (cI, M, .inl uc)), (q 6, .inl (cI, M, .inl (fun _ => 0)))]) hP hD [1, 2, 3, 4, 5, 6] [0] rfl rfl (by decide) (by decide) hk1 hFc hP1 hD1
  generalize H1 = H at hP hS ⊢
  have hP := hP.sub (ws' := [(q 0, .inr (2, [.ref (q 1), .ref (q 7), .ref (q 10), .ref (q 13), .int wl, .int src, .int snk, .int cir, .int sol, .int rd, .int fw])), (q 1, .inr (1, [.int (nI N), .ref (q 2), .ref (q 3), .ref (q 4), .ref (q 5), .ref (q 6), .int (nI E)])), (q 2, .inl (cI, M, .inl fr)), (q 3, .inl (cI, M, .inl to)), (q 4, .inl (cI, M, .inl cap)), (q 5, .inl (cI, M, .inl uc)), (q 6, .inl (cI, M, .inl (fun _ => 0)))]) [0, 1, 2, 3, 4, 5, 6] rfl
  have hD := hD.sub (ws' := [(q 0, .inr (2, [.ref (q 1), .ref (q 7), .ref (q 10), .ref (q 13), .int wl, .int src, .int snk, .int cir, .int sol, .int rd, .int fw])), (q 1, .inr (1, [.int (nI N), .ref (q 2), .ref (q 3), .ref (q 4), .ref (q 5), .ref (q 6), .int (nI E)])), (q 2, .inl (cI, M, .inl fr)), (q 3, .inl (cI, M, .inl to)), (q 4, .inl (cI, M, .inl cap)), (q 5, .inl (cI, M, .inl uc)), (q 6, .inl (cI, M, .inl (fun _ => 0)))]) [0, 1, 2, 3, 4, 5, 6] (by decide) rfl
  refine lv_aload_n hx hb dX2_forgetSolving_7 rfl (lv_at hl 0 rfl) ?_
  refine lv_iconst (v := 0) hx hb dX2_forgetSolving_8 (by decide) ?_
  refine va_put (D := (dC, dI)) (ci := 2) (v := .int 0) (ty := .boolean) (C := RX2) (T := TX2) (N := 11) hx hb hts fa_forget_0 tyX2 tyX2_ok nmX2 hown hK hP hD hS 0 rfl rfl 8 (by decide) (hts _ fa_forget_2) (fun _ h9 => h9) rfl (by decide +kernel) rfl rfl (Nat.le_of_ble_eq_true rfl) dX2_forgetSolving_9 (fun H locs hP hD hS => ?_)
  have hP : va_P (dC, dI) vwCl [(q 0, .inr (2, [.ref (q 1), .ref (q 7), .ref (q 10), .ref (q 13), .int wl, .int src, .int snk, .int cir, .int 0, .int rd, .int fw])), (q 1, .inr (1, [.int (nI N), .ref (q 2), .ref (q 3), .ref (q 4), .ref (q 5), .ref (q 6), .int (nI E)])), (q 2, .inl (cI, M, .inl fr)), (q 3, .inl (cI, M, .inl to)), (q 4, .inl (cI, M, .inl cap)), (q 5, .inl (cI, M, .inl uc)), (q 6, .inl (cI, M, .inl (fun _ => 0)))] H := hP
  have hD : va_D A [(q 0, .inr (2, [.ref (q 1), .ref (q 7), .ref (q 10), .ref (q 13), .int wl, .int src, .int snk, .int cir, .int 0, .int rd, .int fw])), (q 1, .inr (1, [.int (nI N), .ref (q 2), .ref (q 3), .ref (q 4), .ref (q 5), .ref (q 6), .int (nI E)])), (q 2, .inl (cI, M, .inl fr)), (q 3, .inl (cI, M, .inl to)), (q 4, .inl (cI, M, .inl cap)), (q 5, .inl (cI, M, .inl uc)), (q 6, .inl (cI, M, .inl (fun _ => 0)))] := hD
  refine lv_aload_n hx hb dX2_forgetSolving_12 rfl (lv_at hl 0 rfl) ?_
  refine lv_iconst (v := 0) hx hb dX2_forgetSolving_13 (by decide) ?_
  refine va_put (D := (dC, dI)) (ci := 2) (v := .int 0) (ty := .int) (C := RX2) (T := TX2) (N := 11) hx hb hts fa_forget_0 tyX2 tyX2_ok nmX2 hown hK hP hD hS 0 rfl rfl 9 (by decide) (hts _ fa_forget_3) (fun _ h9 => h9) rfl (by decide +kernel) rfl rfl (Nat.le_of_ble_eq_true rfl) dX2_forgetSolving_14 (fun H locs hP hD hS => ?_)
  have hP : va_P (dC, dI) vwCl [(q 0, .inr (2, [.ref (q 1), .ref (q 7), .ref (q 10), .ref (q 13), .int wl, .int src, .int snk, .int cir, .int 0, .int 0, .int fw])), (q 1, .inr (1, [.int (nI N), .ref (q 2), .ref (q 3), .ref (q 4), .ref (q 5), .ref (q 6), .int (nI E)])), (q 2, .inl (cI, M, .inl fr)), (q 3, .inl (cI, M, .inl to)), (q 4, .inl (cI, M, .inl cap)), (q 5, .inl (cI, M, .inl uc)), (q 6, .inl (cI, M, .inl (fun _ => 0)))] H := hP
  have hD : va_D A [(q 0, .inr (2, [.ref (q 1), .ref (q 7), .ref (q 10), .ref (q 13), .int wl, .int src, .int snk, .int cir, .int 0, .int 0, .int fw])), (q 1, .inr (1, [.int (nI N), .ref (q 2), .ref (q 3), .ref (q 4), .ref (q 5), .ref (q 6), .int (nI E)])), (q 2, .inl (cI, M, .inl fr)), (q 3, .inl (cI, M, .inl to)), (q 4, .inl (cI, M, .inl cap)), (q 5, .inl (cI, M, .inl uc)), (q 6, .inl (cI, M, .inl (fun _ => 0)))] := hD
  refine lv_aload_n hx hb dX2_forgetSolving_17 rfl (lv_at hl 0 rfl) ?_
  refine lv_iconst (v := 0) hx hb dX2_forgetSolving_18 (by decide) ?_
  refine va_put (D := (dC, dI)) (ci := 2) (v := .int 0) (ty := .int) (C := RX2) (T := TX2) (N := 11) hx hb hts fa_forget_0 tyX2 tyX2_ok nmX2 hown hK hP hD hS 0 rfl rfl 10 (by decide) (hts _ fa_forget_4) (fun _ h9 => h9) rfl (by decide +kernel) rfl rfl (Nat.le_of_ble_eq_true rfl) dX2_forgetSolving_19 (fun H locs hP hD hS => ?_)
  have hP : va_P (dC, dI) vwCl [(q 0, .inr (2, [.ref (q 1), .ref (q 7), .ref (q 10), .ref (q 13), .int wl, .int src, .int snk, .int cir, .int 0, .int 0, .int 0])), (q 1, .inr (1, [.int (nI N), .ref (q 2), .ref (q 3), .ref (q 4), .ref (q 5), .ref (q 6), .int (nI E)])), (q 2, .inl (cI, M, .inl fr)), (q 3, .inl (cI, M, .inl to)), (q 4, .inl (cI, M, .inl cap)), (q 5, .inl (cI, M, .inl uc)), (q 6, .inl (cI, M, .inl (fun _ => 0)))] H := hP
  have hD : va_D A [(q 0, .inr (2, [.ref (q 1), .ref (q 7), .ref (q 10), .ref (q 13), .int wl, .int src, .int snk, .int cir, .int 0, .int 0, .int 0])), (q 1, .inr (1, [.int (nI N), .ref (q 2), .ref (q 3), .ref (q 4), .ref (q 5), .ref (q 6), .int (nI E)])), (q 2, .inl (cI, M, .inl fr)), (q 3, .inl (cI, M, .inl to)), (q 4, .inl (cI, M, .inl cap)), (q 5, .inl (cI, M, .inl uc)), (q 6, .inl (cI, M, .inl (fun _ => 0)))] := hD
  have hP9 := hP.sub (ws' := [(q 0, .inr (2, [.ref (q 1), .ref (q 7), .ref (q 10), .ref (q 13), .int wl, .int src, .int snk, .int cir, .int 0, .int 0, .int 0])), (q 1, .inr (1, [.int (nI N), .ref (q 2), .ref (q 3), .ref (q 4), .ref (q 5), .ref (q 6), .int (nI E)])), (q 2, .inl (cI, M, .inl fr)), (q 3, .inl (cI, M, .inl to)), (q 4, .inl (cI, M, .inl cap)), (q 5, .inl (cI, M, .inl uc)), (q 6, .inl (cI, M, .inl (fun _ => 0)))]) [0, 1, 2, 3, 4, 5, 6] rfl
  have hD9 := hD.sub (ws' := [(q 0, .inr (2, [.ref (q 1), .ref (q 7), .ref (q 10), .ref (q 13), .int wl, .int src, .int snk, .int cir, .int 0, .int 0, .int 0])), (q 1, .inr (1, [.int (nI N), .ref (q 2), .ref (q 3), .ref (q 4), .ref (q 5), .ref (q 6), .int (nI E)])), (q 2, .inl (cI, M, .inl fr)), (q 3, .inl (cI, M, .inl to)), (q 4, .inl (cI, M, .inl cap)), (q 5, .inl (cI, M, .inl uc)), (q 6, .inl (cI, M, .inl (fun _ => 0)))]) [0, 1, 2, 3, 4, 5, 6] (by decide) rfl
  exact W.vret hx hb hr (fun t ht hW => ⟨⟨(), rfl, trivial, by rw [ht]; exact hP9, va_K.moved hW.alike hK, hD9⟩, hS.F ht⟩) hS.2.2 dX2_forgetSolving_22
end
