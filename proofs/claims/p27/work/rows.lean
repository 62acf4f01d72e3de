section
-- ===== PART A: goes FIRST, ahead of the names: the tables' words, and 'selects' of the private methods out of them =====
/-- a private method of a class that the tables say can be made, by its rows of tables_1 -/
def lw_okq (q : MethodName × Nat) : Prop := (q.1.cls ≠ "java/lang/invoke/MethodHandle" ∧ q.1.cls ≠ "java/lang/invoke/VarHandle") ∧ Cond.instantiable q.1.cls q.2 ∈ tables_1 ∧ Cond.privateMethod q.1 ∈ tables_1 ∧ Cond.instanceMethod q.1 ∈ tables_1
theorem lw_p0 : lw_okq (⟨"CupReceipts", "accept", "(I)I"⟩, 5) := ⟨⟨by decide +kernel, by decide +kernel⟩, List.mem_of_getElem? (i := 10) (by decide +kernel), List.mem_of_getElem? (i := 313) (by decide +kernel), List.mem_of_getElem? (i := 314) (by decide +kernel)⟩
theorem lw_p1 : lw_okq (⟨"CupReceipts$History", "dropOldest", "()V"⟩, 2) := ⟨⟨by decide +kernel, by decide +kernel⟩, List.mem_of_getElem? (i := 126) (by decide +kernel), List.mem_of_getElem? (i := 325) (by decide +kernel), List.mem_of_getElem? (i := 326) (by decide +kernel)⟩
theorem lw_p2 : lw_okq (⟨"CupReceipts$Delivery", "rate", "(LCupReceipts$House;II)V"⟩, 12) := ⟨⟨by decide +kernel, by decide +kernel⟩, List.mem_of_getElem? (i := 143) (by decide +kernel), List.mem_of_getElem? (i := 414) (by decide +kernel), List.mem_of_getElem? (i := 415) (by decide +kernel)⟩
theorem lw_p3 : lw_okq (⟨"CupReceipts$Delivery", "rowOfGreatestGain", "(I)I"⟩, 12) := ⟨⟨by decide +kernel, by decide +kernel⟩, List.mem_of_getElem? (i := 143) (by decide +kernel), List.mem_of_getElem? (i := 430) (by decide +kernel), List.mem_of_getElem? (i := 431) (by decide +kernel)⟩
theorem lw_p4 : lw_okq (⟨"CupReceipts$Delivery", "take", "(II)V"⟩, 12) := ⟨⟨by decide +kernel, by decide +kernel⟩, List.mem_of_getElem? (i := 143) (by decide +kernel), List.mem_of_getElem? (i := 434) (by decide +kernel), List.mem_of_getElem? (i := 435) (by decide +kernel)⟩
def lw_privs_1 : List (MethodName × Nat) := [(⟨"CupReceipts", "accept", "(I)I"⟩, 5), (⟨"CupReceipts$History", "dropOldest", "()V"⟩, 2), (⟨"CupReceipts$Delivery", "rate", "(LCupReceipts$House;II)V"⟩, 12), (⟨"CupReceipts$Delivery", "rowOfGreatestGain", "(I)I"⟩, 12), (⟨"CupReceipts$Delivery", "take", "(II)V"⟩, 12)]
theorem lw_r1 : ∀ q ∈ lw_privs_1, lw_okq q := List.forall_mem_cons.mpr ⟨lw_p0, List.forall_mem_cons.mpr ⟨lw_p1, List.forall_mem_cons.mpr ⟨lw_p2, List.forall_mem_cons.mpr ⟨lw_p3, List.forall_mem_cons.mpr ⟨lw_p4, fun _ h => absurd h List.not_mem_nil⟩⟩⟩⟩⟩
def lw_privs : List (MethodName × Nat) := lw_privs_1
def lw_tbl : List Cond := k2_sels lw_privs ++ tables_1
theorem lw_privs_ok : ∀ q ∈ lw_privs, lw_okq q := lw_r1
-- ===== end of PART A; then your names; then what follows =====
end
section
/-! ===== BEGIN words of one list among another's, by their places ===== -/
theorem goodIn_r {big : List Cond} (ws : List Cond) (ps : List Nat) (hp : ws = ps.filterMap (fun i => big[i]?)) (h : ws.all goodWord = true) : GoodIn big ws := by
  intro w hw
  have h1 := List.all_eq_true.mp h w hw
  rw [hp] at hw
  obtain ⟨i, -, hi⟩ := List.mem_filterMap.mp hw
  have hm : w ∈ big := by first | exact List.mem_of_getElem? hi | exact List.getElem?_mem hi
  exact ⟨hm, good_of_word h1⟩
theorem goodIn_app {big a b : List Cond} (ha : GoodIn big a) (hb : GoodIn big b) : GoodIn big (a ++ b) := fun w h => (List.mem_append.mp h).elim (ha w) (hb w)
theorem goodIn_ca {big a b : List Cond} {c : Cond} (ha : GoodIn big (c :: a)) (hb : GoodIn big b) : GoodIn big (c :: (a ++ b)) := fun w h => (List.mem_cons.mp h).elim (fun e => ha w (List.mem_cons.mpr (Or.inl e))) (fun h => (List.mem_append.mp h).elim (fun h => ha w (List.mem_cons.mpr (Or.inr h))) (hb w))
theorem goodIn_sub {big ws : List Cond} (hm : ∀ w ∈ ws, w ∈ big) (h : ws.all goodWord = true) : GoodIn big ws := fun w hw => ⟨hm w hw, good_of_word (List.all_eq_true.mp h w hw)⟩
/-! ===== END ===== -/

/-! ===== BEGIN printed: names, fields, word lists, decode rows ===== -/
def RX0 : String := "CupReceipts$Contracts"
def TX0 : u_T := fun k => match k with
  | 0 => ("CupReceipts$Contracts", "months", "[I", true)
  | 1 => ("CupReceipts$Contracts", "prices", "[I", true)
  | _ => ("CupReceipts$Contracts", "size", "I", false)
def tyX0 : Nat → FieldType := fun k => match k with
  | 0 => .array .int
  | 1 => .array .int
  | _ => .int
abbrev wsX00 : List Cond := u_ws RX0 TX0 3
theorem nmX0 : ∀ a, a < 3 → ∀ b, b < 3 → a ≠ b → (TX0 a).2.1 ≠ (TX0 b).2.1 := by decide +kernel
theorem tyX0_ok : ∀ k, k < 3 → parseFieldDescriptor (TX0 k).2.2.1 = some (tyX0 k) := by decide +kernel
abbrev cX0_init : ByteArray := prog_2_method_1_code
def yX0_init : MethodName := ⟨RX0, "<init>", "()V"⟩
abbrev cX0_copyFrom : ByteArray := prog_2_method_2_code
def yX0_copyFrom : MethodName := ⟨RX0, "copyFrom", "(LCupReceipts$Contracts;)V"⟩
abbrev cX0_isOpen : ByteArray := prog_2_method_3_code
def yX0_isOpen : MethodName := ⟨RX0, "isOpen", "(I)Z"⟩
abbrev cX0_add : ByteArray := prog_2_method_4_code
def yX0_add : MethodName := ⟨RX0, "add", "(II)I"⟩
abbrev cX0_drop : ByteArray := prog_2_method_5_code
def yX0_drop : MethodName := ⟨RX0, "drop", "(I)V"⟩
abbrev cX0_dropBefore : ByteArray := prog_2_method_6_code
def yX0_dropBefore : MethodName := ⟨RX0, "dropBefore", "(I)I"⟩
def RX1 : String := "CupReceipts$Delivery"
def TX1 : u_T := fun k => match k with
  | 0 => ("CupReceipts$Delivery", "rows", "[I", true)
  | 1 => ("CupReceipts$Delivery", "bags", "[I", true)
  | 2 => ("CupReceipts$Delivery", "places", "I", false)
  | 3 => ("CupReceipts$Delivery", "missing", "I", false)
  | 4 => ("CupReceipts$Delivery", "pay", "I", false)
  | 5 => ("CupReceipts$Delivery", "gain", "I", false)
  | 6 => ("CupReceipts$Delivery", "sumOfCups", "I", false)
  | 7 => ("CupReceipts$Delivery", "usedUp", "I", false)
  | 8 => ("CupReceipts$Delivery", "waiting", "[Z", true)
  | 9 => ("CupReceipts$Delivery", "cups", "[I", true)
  | 10 => ("CupReceipts$Delivery", "pays", "[I", true)
  | _ => ("CupReceipts$Delivery", "gains", "[I", true)
def tyX1 : Nat → FieldType := fun k => match k with
  | 0 => .array .int
  | 1 => .array .int
  | 2 => .int
  | 3 => .int
  | 4 => .int
  | 5 => .int
  | 6 => .int
  | 7 => .int
  | 8 => .array .boolean
  | 9 => .array .int
  | 10 => .array .int
  | _ => .array .int
abbrev wsX10 : List Cond := u_ws RX1 TX1 12
theorem nmX1 : ∀ a, a < 12 → ∀ b, b < 12 → a ≠ b → (TX1 a).2.1 ≠ (TX1 b).2.1 := by decide +kernel
theorem tyX1_ok : ∀ k, k < 12 → parseFieldDescriptor (TX1 k).2.2.1 = some (tyX1 k) := by decide +kernel
abbrev cX1_init : ByteArray := prog_3_method_1_code
def yX1_init : MethodName := ⟨RX1, "<init>", "()V"⟩
abbrev cX1_plan : ByteArray := prog_3_method_2_code
def yX1_plan : MethodName := ⟨RX1, "plan", "(LCupReceipts$House;II)V"⟩
abbrev cX1_rate : ByteArray := prog_3_method_3_code
def yX1_rate : MethodName := ⟨RX1, "rate", "(LCupReceipts$House;II)V"⟩
abbrev cX1_rowOfGreatestGain : ByteArray := prog_3_method_4_code
def yX1_rowOfGreatestGain : MethodName := ⟨RX1, "rowOfGreatestGain", "(I)I"⟩
abbrev cX1_take : ByteArray := prog_3_method_5_code
def yX1_take : MethodName := ⟨RX1, "take", "(II)V"⟩
def RX2 : String := "CupReceipts$History"
def TX2 : u_T := fun k => match k with
  | 0 => ("CupReceipts$History", "rooms", "[LCupReceipts$House;", true)
  | _ => ("CupReceipts$History", "states", "I", false)
def tyX2 : Nat → FieldType := fun k => match k with
  | 0 => .array (.object "CupReceipts$House")
  | _ => .int
abbrev wsX20 : List Cond := u_ws RX2 TX2 2
theorem nmX2 : ∀ a, a < 2 → ∀ b, b < 2 → a ≠ b → (TX2 a).2.1 ≠ (TX2 b).2.1 := by decide +kernel
theorem tyX2_ok : ∀ k, k < 2 → parseFieldDescriptor (TX2 k).2.2.1 = some (tyX2 k) := by decide +kernel
abbrev cX2_init : ByteArray := prog_4_method_1_code
def yX2_init : MethodName := ⟨RX2, "<init>", "()V"⟩
abbrev cX2_record : ByteArray := prog_4_method_2_code
def yX2_record : MethodName := ⟨RX2, "record", "(LCupReceipts$House;)V"⟩
abbrev cX2_dropOldest : ByteArray := prog_4_method_4_code
def yX2_dropOldest : MethodName := ⟨RX2, "dropOldest", "()V"⟩
def RX3 : String := "CupReceipts$House"
def TX3 : u_T := fun k => match k with
  | 0 => ("CupReceipts$House", "lots", "LCupReceipts$Lots;", true)
  | 1 => ("CupReceipts$House", "contracts", "LCupReceipts$Contracts;", true)
  | 2 => ("CupReceipts$House", "worths", "[I", true)
  | 3 => ("CupReceipts$House", "settings", "[I", true)
  | 4 => ("CupReceipts$House", "month", "I", false)
  | 5 => ("CupReceipts$House", "account", "I", false)
  | 6 => ("CupReceipts$House", "contractsMet", "I", false)
  | 7 => ("CupReceipts$House", "contractsFailed", "I", false)
  | _ => ("CupReceipts$House", "bagsGiven", "I", false)
def tyX3 : Nat → FieldType := fun k => match k with
  | 0 => .object "CupReceipts$Lots"
  | 1 => .object "CupReceipts$Contracts"
  | 2 => .array .int
  | 3 => .array .int
  | 4 => .int
  | 5 => .int
  | 6 => .int
  | 7 => .int
  | _ => .int
abbrev wsX30 : List Cond := u_ws RX3 TX3 9
theorem nmX3 : ∀ a, a < 9 → ∀ b, b < 9 → a ≠ b → (TX3 a).2.1 ≠ (TX3 b).2.1 := by decide +kernel
theorem tyX3_ok : ∀ k, k < 9 → parseFieldDescriptor (TX3 k).2.2.1 = some (tyX3 k) := by decide +kernel
abbrev cX3_init : ByteArray := prog_5_method_1_code
def yX3_init : MethodName := ⟨RX3, "<init>", "()V"⟩
abbrev cX3_copyFrom : ByteArray := prog_5_method_2_code
def yX3_copyFrom : MethodName := ⟨RX3, "copyFrom", "(LCupReceipts$House;)V"⟩
abbrev cX3_bringLot : ByteArray := prog_5_method_3_code
def yX3_bringLot : MethodName := ⟨RX3, "bringLot", "(II)I"⟩
abbrev cX3_partLot : ByteArray := prog_5_method_4_code
def yX3_partLot : MethodName := ⟨RX3, "partLot", "(II)I"⟩
abbrev cX3_blendLots : ByteArray := prog_5_method_5_code
def yX3_blendLots : MethodName := ⟨RX3, "blendLots", "(IIII)I"⟩
abbrev cX3_cupAnew : ByteArray := prog_5_method_6_code
def yX3_cupAnew : MethodName := ⟨RX3, "cupAnew", "(I)I"⟩
abbrev cX3_changeWorth : ByteArray := prog_5_method_7_code
def yX3_changeWorth : MethodName := ⟨RX3, "changeWorth", "(II)I"⟩
abbrev cX3_sellContract : ByteArray := prog_5_method_8_code
def yX3_sellContract : MethodName := ⟨RX3, "sellContract", "(II)I"⟩
abbrev cX3_buyContractBack : ByteArray := prog_5_method_9_code
def yX3_buyContractBack : MethodName := ⟨RX3, "buyContractBack", "(II)I"⟩
abbrev cX3_meetContract : ByteArray := prog_5_method_10_code
def yX3_meetContract : MethodName := ⟨RX3, "meetContract", "(ILCupReceipts$Delivery;)I"⟩
abbrev cX3_passMonths : ByteArray := prog_5_method_11_code
def yX3_passMonths : MethodName := ⟨RX3, "passMonths", "(I)I"⟩
abbrev cX3_changeSetting : ByteArray := prog_5_method_12_code
def yX3_changeSetting : MethodName := ⟨RX3, "changeSetting", "(II)I"⟩
abbrev cX3_isDeliveryMonth : ByteArray := prog_5_method_13_code
def yX3_isDeliveryMonth : MethodName := ⟨RX3, "isDeliveryMonth", "(I)Z"⟩
abbrev cX3_payForBag : ByteArray := prog_5_method_14_code
def yX3_payForBag : MethodName := ⟨RX3, "payForBag", "(III)I"⟩
abbrev cX3_tellOfLot : ByteArray := prog_5_method_15_code
def yX3_tellOfLot : MethodName := ⟨RX3, "tellOfLot", "(II)I"⟩
abbrev cX3_tellCount : ByteArray := prog_5_method_16_code
def yX3_tellCount : MethodName := ⟨RX3, "tellCount", "(I)I"⟩
def RX4 : String := "CupReceipts$Lots"
def TX4 : u_T := fun k => match k with
  | 0 => ("CupReceipts$Lots", "numbers", "[I", true)
  | 1 => ("CupReceipts$Lots", "bags", "[I", true)
  | 2 => ("CupReceipts$Lots", "cups", "[I", true)
  | 3 => ("CupReceipts$Lots", "months", "[I", true)
  | 4 => ("CupReceipts$Lots", "size", "I", false)
  | _ => ("CupReceipts$Lots", "made", "I", false)
def tyX4 : Nat → FieldType := fun k => match k with
  | 0 => .array .int
  | 1 => .array .int
  | 2 => .array .int
  | 3 => .array .int
  | 4 => .int
  | _ => .int
abbrev wsX40 : List Cond := u_ws RX4 TX4 6
theorem nmX4 : ∀ a, a < 6 → ∀ b, b < 6 → a ≠ b → (TX4 a).2.1 ≠ (TX4 b).2.1 := by decide +kernel
theorem tyX4_ok : ∀ k, k < 6 → parseFieldDescriptor (TX4 k).2.2.1 = some (tyX4 k) := by decide +kernel
abbrev cX4_init : ByteArray := prog_6_method_1_code
def yX4_init : MethodName := ⟨RX4, "<init>", "()V"⟩
abbrev cX4_copyFrom : ByteArray := prog_6_method_2_code
def yX4_copyFrom : MethodName := ⟨RX4, "copyFrom", "(LCupReceipts$Lots;)V"⟩
abbrev cX4_rowOf : ByteArray := prog_6_method_3_code
def yX4_rowOf : MethodName := ⟨RX4, "rowOf", "(I)I"⟩
abbrev cX4_isFull : ByteArray := prog_6_method_4_code
def yX4_isFull : MethodName := ⟨RX4, "isFull", "()Z"⟩
abbrev cX4_add : ByteArray := prog_6_method_5_code
def yX4_add : MethodName := ⟨RX4, "add", "(III)I"⟩
abbrev cX4_dropEmpty : ByteArray := prog_6_method_6_code
def yX4_dropEmpty : MethodName := ⟨RX4, "dropEmpty", "()V"⟩
abbrev cX4_cupAt : ByteArray := prog_6_method_7_code
def yX4_cupAt : MethodName := ⟨RX4, "cupAt", "(II)I"⟩
abbrev cX4_monthsTooOld : ByteArray := prog_6_method_8_code
def yX4_monthsTooOld : MethodName := ⟨RX4, "monthsTooOld", "(II)I"⟩
abbrev cX4_allBags : ByteArray := prog_6_method_9_code
def yX4_allBags : MethodName := ⟨RX4, "allBags", "()I"⟩
abbrev cX4_bagsToGive : ByteArray := prog_6_method_10_code
def yX4_bagsToGive : MethodName := ⟨RX4, "bagsToGive", "(I)I"⟩
def RX5 : String := "CupReceipts$Orders"
def TX5 : u_T := fun k => match k with
  | 0 => ("CupReceipts$Orders", "signs", "[C", true)
  | 1 => ("CupReceipts$Orders", "length", "I", false)
  | 2 => ("CupReceipts$Orders", "start", "I", false)
  | 3 => ("CupReceipts$Orders", "reason", "I", false)
  | 4 => ("CupReceipts$Orders", "cause", "I", false)
  | 5 => ("CupReceipts$Orders", "done", "I", false)
  | 6 => ("CupReceipts$Orders", "next", "I", false)
  | _ => ("CupReceipts$Orders", "numbers", "[I", true)
def tyX5 : Nat → FieldType := fun k => match k with
  | 0 => .array .char
  | 1 => .int
  | 2 => .int
  | 3 => .int
  | 4 => .int
  | 5 => .int
  | 6 => .int
  | _ => .array .int
abbrev wsX50 : List Cond := u_ws RX5 TX5 8
theorem nmX5 : ∀ a, a < 8 → ∀ b, b < 8 → a ≠ b → (TX5 a).2.1 ≠ (TX5 b).2.1 := by decide +kernel
theorem tyX5_ok : ∀ k, k < 8 → parseFieldDescriptor (TX5 k).2.2.1 = some (tyX5 k) := by decide +kernel
abbrev cX5_init : ByteArray := prog_7_method_1_code
def yX5_init : MethodName := ⟨RX5, "<init>", "()V"⟩
def RX6 : String := "CupReceipts"
def TX6 : u_T := fun k => match k with
  | 0 => ("CupReceipts", "house", "LCupReceipts$House;", true)
  | 1 => ("CupReceipts", "trial", "LCupReceipts$House;", true)
  | 2 => ("CupReceipts", "history", "LCupReceipts$History;", true)
  | 3 => ("CupReceipts", "delivery", "LCupReceipts$Delivery;", true)
  | _ => ("CupReceipts", "orders", "LCupReceipts$Orders;", true)
def tyX6 : Nat → FieldType := fun k => match k with
  | 0 => .object "CupReceipts$House"
  | 1 => .object "CupReceipts$House"
  | 2 => .object "CupReceipts$History"
  | 3 => .object "CupReceipts$Delivery"
  | _ => .object "CupReceipts$Orders"
abbrev wsX60 : List Cond := u_ws RX6 TX6 5
theorem nmX6 : ∀ a, a < 5 → ∀ b, b < 5 → a ≠ b → (TX6 a).2.1 ≠ (TX6 b).2.1 := by decide +kernel
theorem tyX6_ok : ∀ k, k < 5 → parseFieldDescriptor (TX6 k).2.2.1 = some (tyX6 k) := by decide +kernel
abbrev cX6_init : ByteArray := prog_1_method_1_code
def yX6_init : MethodName := ⟨RX6, "<init>", "()V"⟩
abbrev cX6_lot : ByteArray := prog_1_method_2_code
def yX6_lot : MethodName := ⟨RX6, "lot", "(II)I"⟩
abbrev cX6_part : ByteArray := prog_1_method_3_code
def yX6_part : MethodName := ⟨RX6, "part", "(II)I"⟩
abbrev cX6_blend : ByteArray := prog_1_method_4_code
def yX6_blend : MethodName := ⟨RX6, "blend", "(IIII)I"⟩
abbrev cX6_cup : ByteArray := prog_1_method_5_code
def yX6_cup : MethodName := ⟨RX6, "cup", "(I)I"⟩
abbrev cX6_worth : ByteArray := prog_1_method_6_code
def yX6_worth : MethodName := ⟨RX6, "worth", "(II)I"⟩
abbrev cX6_sell : ByteArray := prog_1_method_7_code
def yX6_sell : MethodName := ⟨RX6, "sell", "(II)I"⟩
abbrev cX6_buyBack : ByteArray := prog_1_method_8_code
def yX6_buyBack : MethodName := ⟨RX6, "buyBack", "(II)I"⟩
abbrev cX6_meet : ByteArray := prog_1_method_9_code
def yX6_meet : MethodName := ⟨RX6, "meet", "(I)I"⟩
abbrev cX6_pass : ByteArray := prog_1_method_10_code
def yX6_pass : MethodName := ⟨RX6, "pass", "(I)I"⟩
abbrev cX6_set : ByteArray := prog_1_method_11_code
def yX6_set : MethodName := ⟨RX6, "set", "(II)I"⟩
abbrev cX6_lotOf : ByteArray := prog_1_method_12_code
def yX6_lotOf : MethodName := ⟨RX6, "lotOf", "(II)I"⟩
abbrev cX6_numberOf : ByteArray := prog_1_method_13_code
def yX6_numberOf : MethodName := ⟨RX6, "numberOf", "(I)I"⟩
abbrev cX6_contractOf : ByteArray := prog_1_method_14_code
def yX6_contractOf : MethodName := ⟨RX6, "contractOf", "(II)I"⟩
abbrev cX6_count : ByteArray := prog_1_method_20_code
def yX6_count : MethodName := ⟨RX6, "count", "(I)I"⟩
abbrev cX6_accept : ByteArray := prog_1_method_26_code
def yX6_accept : MethodName := ⟨RX6, "accept", "(I)I"⟩
abbrev cX6_isWithin : ByteArray := prog_1_method_27_code
def yX6_isWithin : MethodName := ⟨RX6, "isWithin", "(III)Z"⟩
abbrev cX6_isError : ByteArray := prog_1_method_28_code
def yX6_isError : MethodName := ⟨RX6, "isError", "(I)Z"⟩
abbrev cX6_bandOf : ByteArray := prog_1_method_29_code
def yX6_bandOf : MethodName := ⟨RX6, "bandOf", "(I)I"⟩
def RX7 : String := "CupReceiptsModel"
def TX7 : u_T := fun k => match k with
  | _ => ("", "", "", false)
def tyX7 : Nat → FieldType := fun k => match k with
  | _ => .int
abbrev wsX70 : List Cond := u_ws RX7 TX7 0
theorem nmX7 : ∀ a, a < 0 → ∀ b, b < 0 → a ≠ b → (TX7 a).2.1 ≠ (TX7 b).2.1 := by decide +kernel
theorem tyX7_ok : ∀ k, k < 0 → parseFieldDescriptor (TX7 k).2.2.1 = some (tyX7 k) := by decide +kernel
def RJx8e188 : String := "java/lang/Cloneable"
def TJx8e188 : u_T := fun k => match k with
  | _ => ("", "", "", false)
def tyJx8e188 : Nat → FieldType := fun k => match k with
  | _ => .int
abbrev wsJx8e1880 : List Cond := u_ws RJx8e188 TJx8e188 0
theorem nmJx8e188 : ∀ a, a < 0 → ∀ b, b < 0 → a ≠ b → (TJx8e188 a).2.1 ≠ (TJx8e188 b).2.1 := by decide +kernel
theorem tyJx8e188_ok : ∀ k, k < 0 → parseFieldDescriptor (TJx8e188 k).2.2.1 = some (tyJx8e188 k) := by decide +kernel
def RJ9 : String := "java/lang/Math"
def TJ9 : u_T := fun k => match k with
  | _ => ("", "", "", false)
def tyJ9 : Nat → FieldType := fun k => match k with
  | _ => .int
abbrev wsJ90 : List Cond := u_ws RJ9 TJ9 0
theorem nmJ9 : ∀ a, a < 0 → ∀ b, b < 0 → a ≠ b → (TJ9 a).2.1 ≠ (TJ9 b).2.1 := by decide +kernel
theorem tyJ9_ok : ∀ k, k < 0 → parseFieldDescriptor (TJ9 k).2.2.1 = some (tyJ9 k) := by decide +kernel
abbrev cJ9_floorMod_7cf53 : ByteArray := prog_11_method_50_code
def yJ9_floorMod_7cf53 : MethodName := ⟨RJ9, "floorMod", "(II)I"⟩
abbrev cJ9_min_7cf53 : ByteArray := prog_11_method_69_code
def yJ9_min_7cf53 : MethodName := ⟨RJ9, "min", "(II)I"⟩
def RL : String := "CupReceiptsLaw"
abbrev cL_cell : ByteArray := method_2_code
def yL_cell : MethodName := ⟨RL, "cell", "([II)I"⟩
abbrev cL_low : ByteArray := method_3_code
def yL_low : MethodName := ⟨RL, "low", "(II)I"⟩
abbrev cL_find : ByteArray := method_4_code
def yL_find : MethodName := ⟨RL, "find", "([I[II)I"⟩
abbrev cL_cup : ByteArray := method_5_code
def yL_cup : MethodName := ⟨RL, "cup", "([III)I"⟩
abbrev cL_band : ByteArray := method_6_code
def yL_band : MethodName := ⟨RL, "band", "(I)I"⟩
abbrev cL_paid : ByteArray := method_7_code
def yL_paid : MethodName := ⟨RL, "paid", "([I[IIII)I"⟩
abbrev cL_gain : ByteArray := method_8_code
def yL_gain : MethodName := ⟨RL, "gain", "([I[IIII)I"⟩
abbrev cL_makes : ByteArray := method_9_code
def yL_makes : MethodName := ⟨RL, "makes", "([I[IIII)I"⟩
abbrev cL_takes : ByteArray := method_10_code
def yL_takes : MethodName := ⟨RL, "takes", "([I[III)V"⟩
abbrev cL_gives : ByteArray := method_11_code
def yL_gives : MethodName := ⟨RL, "gives", "([I[III[I)I"⟩
abbrev cL_paidAll : ByteArray := method_12_code
def yL_paidAll : MethodName := ⟨RL, "paidAll", "([I[III[IIZ)I"⟩
abbrev cL_close : ByteArray := method_13_code
def yL_close : MethodName := ⟨RL, "close", "([I[II)V"⟩
abbrev cL_lots : ByteArray := method_14_code
def yL_lots : MethodName := ⟨RL, "lots", "(LCupReceipts;[I[III)Z"⟩
abbrev cL_acts : ByteArray := method_15_code
def yL_acts : MethodName := ⟨RL, "acts", "(LCupReceipts;[I[I[II)Z"⟩
abbrev cL_isSo : ByteArray := method_16_code
def yL_isSo : MethodName := ⟨RL, "isSo", "(LCupReceipts;[I[I[I)Z"⟩
abbrev cL_law : ByteArray := code
def yL_law : MethodName := ⟨RL, "law", "([I)Z"⟩
def wsX0_init : List Cond := .code yX0_init cX0_init 1 none :: ([.methodLink RX0 3 objectInit, .instanceMethod objectInit, .code objectInit ⟨#[0xb1]⟩ 1 none, .arrayClass .int, .fieldLink RX0 9 "CupReceipts$Contracts" "months" "[I", .fieldLink RX0 15 "CupReceipts$Contracts" "prices" "[I"] ++ wsX00)
def wsX0_copyFrom : List Cond := .code yX0_copyFrom cX0_copyFrom 3 none :: ([.fieldLink RX0 9 "CupReceipts$Contracts" "months" "[I", .fieldLink RX0 15 "CupReceipts$Contracts" "prices" "[I", .fieldLink RX0 18 "CupReceipts$Contracts" "size" "I"] ++ wsX00)
def wsX0_isOpen : List Cond := .code yX0_isOpen cX0_isOpen 2 (some .boolean) :: ([.fieldLink RX0 18 "CupReceipts$Contracts" "size" "I"] ++ wsX00)
def wsX0_add : List Cond := .code yX0_add cX0_add 3 (some .int) :: ([.fieldLink RX0 18 "CupReceipts$Contracts" "size" "I", .constant RX0 22 (-2000000003), .fieldLink RX0 9 "CupReceipts$Contracts" "months" "[I", .fieldLink RX0 15 "CupReceipts$Contracts" "prices" "[I"] ++ wsX00)
def wsX0_drop : List Cond := .code yX0_drop cX0_drop 3 none :: ([.fieldLink RX0 18 "CupReceipts$Contracts" "size" "I", .fieldLink RX0 9 "CupReceipts$Contracts" "months" "[I", .fieldLink RX0 15 "CupReceipts$Contracts" "prices" "[I", .methodLink RX0 23 yX0_isOpen, .instanceMethod yX0_isOpen, .selects RX0 yX0_isOpen yX0_isOpen, .initialized RX0, .code yX0_isOpen cX0_isOpen 2 (some .boolean)] ++ wsX00)
def wsX0_dropBefore : List Cond := .code yX0_dropBefore cX0_dropBefore 4 (some .int) :: ([.fieldLink RX0 18 "CupReceipts$Contracts" "size" "I", .fieldLink RX0 9 "CupReceipts$Contracts" "months" "[I", .fieldLink RX0 15 "CupReceipts$Contracts" "prices" "[I"] ++ wsX00)
def wsX1_init : List Cond := .code yX1_init cX1_init 1 none :: ([.methodLink RX1 3 objectInit, .instanceMethod objectInit, .code objectInit ⟨#[0xb1]⟩ 1 none, .arrayClass .int, .fieldLink RX1 9 "CupReceipts$Delivery" "rows" "[I", .fieldLink RX1 15 "CupReceipts$Delivery" "bags" "[I", .arrayClass .boolean, .fieldLink RX1 18 "CupReceipts$Delivery" "waiting" "[Z", .fieldLink RX1 22 "CupReceipts$Delivery" "cups" "[I", .fieldLink RX1 25 "CupReceipts$Delivery" "pays" "[I", .fieldLink RX1 28 "CupReceipts$Delivery" "gains" "[I"] ++ wsX10)
def wsX4_cupAt : List Cond := .code yX4_cupAt cX4_cupAt 4 (some .int) :: ([.fieldLink RX4 18 "CupReceipts$Lots" "cups" "[I", .fieldLink RX4 21 "CupReceipts$Lots" "months" "[I"] ++ wsX40)
def wsX4_monthsTooOld : List Cond := .code yX4_monthsTooOld cX4_monthsTooOld 4 (some .int) :: ([.fieldLink RX4 21 "CupReceipts$Lots" "months" "[I"] ++ wsX40)
def wsX3_payForBag : List Cond := .code yX3_payForBag cX3_payForBag 5 (some .int) :: ([.fieldLink RX3 40 "CupReceipts$House" "settings" "[I"] ++ wsX30)
def wsX6_bandOf : List Cond := .code yX6_bandOf cX6_bandOf 1 (some .int) :: ([])
def wsX1_rate_r1 : List Cond := [Cond.fieldLink RX1 59 "CupReceipts$House" "lots" "LCupReceipts$Lots;", Cond.fieldLink RX1 63 "CupReceipts$Lots" "size" "I", Cond.fieldLink RX1 18 "CupReceipts$Delivery" "waiting" "[Z", Cond.fieldLink RX1 22 "CupReceipts$Delivery" "cups" "[I", Cond.fieldLink RX1 25 "CupReceipts$Delivery" "pays" "[I", Cond.fieldLink RX1 28 "CupReceipts$Delivery" "gains" "[I", Cond.fieldLink RX1 88 "CupReceipts$House" "worths" "[I", Cond.methodLink RX1 77 yX4_cupAt, Cond.instanceMethod yX4_cupAt, Cond.selects RX4 yX4_cupAt yX4_cupAt, Cond.initialized RX4, Cond.code yX4_cupAt cX4_cupAt 4 (some .int), Cond.fieldLink RX4 18 "CupReceipts$Lots" "cups" "[I", Cond.fieldLink RX4 21 "CupReceipts$Lots" "months" "[I", Cond.methodLink RX1 81 yX4_monthsTooOld, Cond.instanceMethod yX4_monthsTooOld, Cond.selects RX4 yX4_monthsTooOld yX4_monthsTooOld, Cond.code yX4_monthsTooOld cX4_monthsTooOld 4 (some .int), Cond.methodLink RX1 84 yX3_payForBag, Cond.instanceMethod yX3_payForBag, Cond.selects RX3 yX3_payForBag yX3_payForBag, Cond.initialized RX3, Cond.code yX3_payForBag cX3_payForBag 5 (some .int), Cond.fieldLink RX3 40 "CupReceipts$House" "settings" "[I"]
def wsX1_rate_r2 : List Cond := [Cond.static yX6_bandOf, Cond.initialized RX6, Cond.code yX6_bandOf cX6_bandOf 1 (some .int)]
def wsX1_rate : List Cond := .code yX1_rate cX1_rate 6 none :: ((wsX1_rate_r1 ++ wsX1_rate_r2) ++ wsX30 ++ wsX40 ++ wsX10)
def wsX1_rowOfGreatestGain : List Cond := .code yX1_rowOfGreatestGain cX1_rowOfGreatestGain 4 (some .int) :: ([.fieldLink RX1 18 "CupReceipts$Delivery" "waiting" "[Z", .fieldLink RX1 28 "CupReceipts$Delivery" "gains" "[I"] ++ wsX10)
def wsX1_take : List Cond := .code yX1_take cX1_take 4 none :: ([.fieldLink RX1 35 "CupReceipts$Delivery" "places" "I", .fieldLink RX1 44 "CupReceipts$Delivery" "missing" "I", .methodLink RX1 94 Lib.Math.min.name, .static Lib.Math.min.name, .initialized "java/lang/Math", .code Lib.Math.min.name Lib.Math.min.code 2 (some .int), .fieldLink RX1 9 "CupReceipts$Delivery" "rows" "[I", .fieldLink RX1 15 "CupReceipts$Delivery" "bags" "[I", .fieldLink RX1 47 "CupReceipts$Delivery" "pay" "I", .fieldLink RX1 25 "CupReceipts$Delivery" "pays" "[I", .fieldLink RX1 50 "CupReceipts$Delivery" "gain" "I", .fieldLink RX1 28 "CupReceipts$Delivery" "gains" "[I", .fieldLink RX1 53 "CupReceipts$Delivery" "sumOfCups" "I", .fieldLink RX1 22 "CupReceipts$Delivery" "cups" "[I", .fieldLink RX1 56 "CupReceipts$Delivery" "usedUp" "I", .fieldLink RX1 18 "CupReceipts$Delivery" "waiting" "[Z"] ++ wsX10)
def wsX1_plan_r1 : List Cond := [Cond.fieldLink RX1 35 "CupReceipts$Delivery" "places" "I", Cond.fieldLink RX1 39 "CupReceipts$House" "settings" "[I", Cond.fieldLink RX1 44 "CupReceipts$Delivery" "missing" "I", Cond.fieldLink RX1 47 "CupReceipts$Delivery" "pay" "I", Cond.fieldLink RX1 50 "CupReceipts$Delivery" "gain" "I", Cond.fieldLink RX1 53 "CupReceipts$Delivery" "sumOfCups" "I", Cond.fieldLink RX1 56 "CupReceipts$Delivery" "usedUp" "I", Cond.fieldLink RX1 59 "CupReceipts$House" "lots" "LCupReceipts$Lots;", Cond.fieldLink RX1 63 "CupReceipts$Lots" "size" "I", Cond.fieldLink RX1 72 "CupReceipts$Lots" "bags" "[I", Cond.methodLink RX1 31 yX1_rate, Cond.instanceMethod yX1_rate, Cond.selects RX1 yX1_rate yX1_rate, Cond.initialized RX1, Cond.code yX1_rate cX1_rate 6 none, Cond.fieldLink RX1 18 "CupReceipts$Delivery" "waiting" "[Z", Cond.fieldLink RX1 22 "CupReceipts$Delivery" "cups" "[I", Cond.fieldLink RX1 25 "CupReceipts$Delivery" "pays" "[I", Cond.fieldLink RX1 28 "CupReceipts$Delivery" "gains" "[I", Cond.fieldLink RX1 88 "CupReceipts$House" "worths" "[I", Cond.methodLink RX1 77 yX4_cupAt, Cond.instanceMethod yX4_cupAt, Cond.selects RX4 yX4_cupAt yX4_cupAt, Cond.initialized RX4]
def wsX1_plan_r2 : List Cond := [Cond.code yX4_cupAt cX4_cupAt 4 (some .int), Cond.fieldLink RX4 18 "CupReceipts$Lots" "cups" "[I", Cond.fieldLink RX4 21 "CupReceipts$Lots" "months" "[I", Cond.methodLink RX1 81 yX4_monthsTooOld, Cond.instanceMethod yX4_monthsTooOld, Cond.selects RX4 yX4_monthsTooOld yX4_monthsTooOld, Cond.code yX4_monthsTooOld cX4_monthsTooOld 4 (some .int), Cond.methodLink RX1 84 yX3_payForBag, Cond.instanceMethod yX3_payForBag, Cond.selects RX3 yX3_payForBag yX3_payForBag, Cond.initialized RX3, Cond.code yX3_payForBag cX3_payForBag 5 (some .int), Cond.fieldLink RX3 40 "CupReceipts$House" "settings" "[I", Cond.static yX6_bandOf, Cond.initialized RX6, Cond.code yX6_bandOf cX6_bandOf 1 (some .int), Cond.methodLink RX1 68 yX1_rowOfGreatestGain, Cond.instanceMethod yX1_rowOfGreatestGain, Cond.selects RX1 yX1_rowOfGreatestGain yX1_rowOfGreatestGain, Cond.code yX1_rowOfGreatestGain cX1_rowOfGreatestGain 4 (some .int), Cond.methodLink RX1 73 yX1_take, Cond.instanceMethod yX1_take, Cond.selects RX1 yX1_take yX1_take, Cond.code yX1_take cX1_take 4 none]
def wsX1_plan_r3 : List Cond := [Cond.methodLink RX1 94 Lib.Math.min.name, Cond.static Lib.Math.min.name, Cond.initialized "java/lang/Math", Cond.code Lib.Math.min.name Lib.Math.min.code 2 (some .int), Cond.fieldLink RX1 9 "CupReceipts$Delivery" "rows" "[I", Cond.fieldLink RX1 15 "CupReceipts$Delivery" "bags" "[I"]
def wsX1_plan : List Cond := .code yX1_plan cX1_plan 6 none :: ((wsX1_plan_r1 ++ (wsX1_plan_r2 ++ wsX1_plan_r3)) ++ wsX10 ++ wsX30 ++ wsX40)
def wsX4_init : List Cond := .code yX4_init cX4_init 1 none :: ([.methodLink RX4 3 objectInit, .instanceMethod objectInit, .code objectInit ⟨#[0xb1]⟩ 1 none, .arrayClass .int, .fieldLink RX4 9 "CupReceipts$Lots" "numbers" "[I", .fieldLink RX4 15 "CupReceipts$Lots" "bags" "[I", .fieldLink RX4 18 "CupReceipts$Lots" "cups" "[I", .fieldLink RX4 21 "CupReceipts$Lots" "months" "[I"] ++ wsX40)
def wsX3_init_r1 : List Cond := [Cond.methodLink RX3 3 objectInit, Cond.instanceMethod objectInit, Cond.code objectInit ⟨#[0xb1]⟩ 1 none, Cond.classLink RX3 9 RX4, Cond.instantiable RX4 6, Cond.initialized RX4, Cond.fieldLink RX3 12 "CupReceipts$House" "lots" "LCupReceipts$Lots;", Cond.classLink RX3 18 RX0, Cond.instantiable RX0 3, Cond.initialized RX0, Cond.fieldLink RX3 21 "CupReceipts$House" "contracts" "LCupReceipts$Contracts;", Cond.methodLink RX3 29 ⟨"[I", "clone", "()Ljava/lang/Object;"⟩, Cond.sameMethod "[I" "java/lang/Object" "clone" "()Ljava/lang/Object;", Cond.native ⟨"java/lang/Object", "clone", "()Ljava/lang/Object;"⟩, Cond.instanceMethod ⟨"java/lang/Object", "clone", "()Ljava/lang/Object;"⟩, Cond.selects "[I" ⟨"[I", "clone", "()Ljava/lang/Object;"⟩ ⟨"java/lang/Object", "clone", "()Ljava/lang/Object;"⟩, Cond.classLink RX3 30 "[I", Cond.fieldLink RX3 34 "CupReceipts$House" "worths" "[I", Cond.fieldLink RX3 40 "CupReceipts$House" "settings" "[I", Cond.instanceMethod yX4_init, Cond.code yX4_init cX4_init 1 none, Cond.methodLink RX4 3 objectInit, Cond.arrayClass .int, Cond.fieldLink RX4 9 "CupReceipts$Lots" "numbers" "[I"]
def wsX3_init_r2 : List Cond := [Cond.fieldLink RX4 15 "CupReceipts$Lots" "bags" "[I", Cond.fieldLink RX4 18 "CupReceipts$Lots" "cups" "[I", Cond.fieldLink RX4 21 "CupReceipts$Lots" "months" "[I", Cond.instanceMethod yX0_init, Cond.code yX0_init cX0_init 1 none, Cond.methodLink RX0 3 objectInit, Cond.fieldLink RX0 9 "CupReceipts$Contracts" "months" "[I", Cond.fieldLink RX0 15 "CupReceipts$Contracts" "prices" "[I"]
def wsX3_init : List Cond := .code yX3_init cX3_init 1 none :: ((wsX3_init_r1 ++ wsX3_init_r2) ++ wsX40 ++ wsX30 ++ wsX00)
def wsX2_init_r1 : List Cond := [Cond.methodLink RX2 3 objectInit, Cond.instanceMethod objectInit, Cond.code objectInit ⟨#[0xb1]⟩ 1 none, Cond.classLink RX2 9 RX3, Cond.fieldLink RX2 11 "CupReceipts$History" "rooms" "[LCupReceipts$House;", Cond.instantiable RX3 9, Cond.initialized RX3, Cond.instanceMethod yX3_init, Cond.code yX3_init cX3_init 1 none, Cond.methodLink RX3 3 objectInit, Cond.classLink RX3 9 RX4, Cond.instantiable RX4 6, Cond.initialized RX4, Cond.fieldLink RX3 12 "CupReceipts$House" "lots" "LCupReceipts$Lots;", Cond.classLink RX3 18 RX0, Cond.instantiable RX0 3, Cond.initialized RX0, Cond.fieldLink RX3 21 "CupReceipts$House" "contracts" "LCupReceipts$Contracts;", Cond.methodLink RX3 29 ⟨"[I", "clone", "()Ljava/lang/Object;"⟩, Cond.sameMethod "[I" "java/lang/Object" "clone" "()Ljava/lang/Object;", Cond.native ⟨"java/lang/Object", "clone", "()Ljava/lang/Object;"⟩, Cond.instanceMethod ⟨"java/lang/Object", "clone", "()Ljava/lang/Object;"⟩, Cond.selects "[I" ⟨"[I", "clone", "()Ljava/lang/Object;"⟩ ⟨"java/lang/Object", "clone", "()Ljava/lang/Object;"⟩, Cond.classLink RX3 30 "[I"]
def wsX2_init_r2 : List Cond := [Cond.fieldLink RX3 34 "CupReceipts$House" "worths" "[I", Cond.fieldLink RX3 40 "CupReceipts$House" "settings" "[I", Cond.instanceMethod yX4_init, Cond.code yX4_init cX4_init 1 none, Cond.methodLink RX4 3 objectInit, Cond.arrayClass .int, Cond.fieldLink RX4 9 "CupReceipts$Lots" "numbers" "[I", Cond.fieldLink RX4 15 "CupReceipts$Lots" "bags" "[I", Cond.fieldLink RX4 18 "CupReceipts$Lots" "cups" "[I", Cond.fieldLink RX4 21 "CupReceipts$Lots" "months" "[I", Cond.instanceMethod yX0_init, Cond.code yX0_init cX0_init 1 none, Cond.methodLink RX0 3 objectInit, Cond.fieldLink RX0 9 "CupReceipts$Contracts" "months" "[I", Cond.fieldLink RX0 15 "CupReceipts$Contracts" "prices" "[I"]
def wsX2_init : List Cond := .code yX2_init cX2_init 2 none :: ((wsX2_init_r1 ++ wsX2_init_r2) ++ wsX20 ++ wsX30 ++ wsX40 ++ wsX00)
def wsX2_dropOldest : List Cond := .code yX2_dropOldest cX2_dropOldest 3 none :: ([.fieldLink RX2 11 "CupReceipts$History" "rooms" "[LCupReceipts$House;", .fieldLink RX2 18 "CupReceipts$History" "states" "I"] ++ wsX20)
def wsX4_copyFrom : List Cond := .code yX4_copyFrom cX4_copyFrom 3 none :: ([.fieldLink RX4 9 "CupReceipts$Lots" "numbers" "[I", .fieldLink RX4 15 "CupReceipts$Lots" "bags" "[I", .fieldLink RX4 18 "CupReceipts$Lots" "cups" "[I", .fieldLink RX4 21 "CupReceipts$Lots" "months" "[I", .fieldLink RX4 24 "CupReceipts$Lots" "size" "I", .fieldLink RX4 28 "CupReceipts$Lots" "made" "I"] ++ wsX40)
def wsX3_copyFrom_r1 : List Cond := [Cond.fieldLink RX3 12 "CupReceipts$House" "lots" "LCupReceipts$Lots;", Cond.fieldLink RX3 21 "CupReceipts$House" "contracts" "LCupReceipts$Contracts;", Cond.fieldLink RX3 34 "CupReceipts$House" "worths" "[I", Cond.fieldLink RX3 40 "CupReceipts$House" "settings" "[I", Cond.fieldLink RX3 50 "CupReceipts$House" "month" "I", Cond.fieldLink RX3 54 "CupReceipts$House" "account" "I", Cond.fieldLink RX3 57 "CupReceipts$House" "contractsMet" "I", Cond.fieldLink RX3 60 "CupReceipts$House" "contractsFailed" "I", Cond.fieldLink RX3 63 "CupReceipts$House" "bagsGiven" "I", Cond.methodLink RX3 43 yX4_copyFrom, Cond.instanceMethod yX4_copyFrom, Cond.selects RX4 yX4_copyFrom yX4_copyFrom, Cond.initialized RX4, Cond.code yX4_copyFrom cX4_copyFrom 3 none, Cond.fieldLink RX4 9 "CupReceipts$Lots" "numbers" "[I", Cond.fieldLink RX4 15 "CupReceipts$Lots" "bags" "[I", Cond.fieldLink RX4 18 "CupReceipts$Lots" "cups" "[I", Cond.fieldLink RX4 21 "CupReceipts$Lots" "months" "[I", Cond.fieldLink RX4 24 "CupReceipts$Lots" "size" "I", Cond.fieldLink RX4 28 "CupReceipts$Lots" "made" "I", Cond.methodLink RX3 47 yX0_copyFrom, Cond.instanceMethod yX0_copyFrom, Cond.selects RX0 yX0_copyFrom yX0_copyFrom, Cond.initialized RX0]
def wsX3_copyFrom_r2 : List Cond := [Cond.code yX0_copyFrom cX0_copyFrom 3 none, Cond.fieldLink RX0 9 "CupReceipts$Contracts" "months" "[I", Cond.fieldLink RX0 15 "CupReceipts$Contracts" "prices" "[I", Cond.fieldLink RX0 18 "CupReceipts$Contracts" "size" "I"]
def wsX3_copyFrom : List Cond := .code yX3_copyFrom cX3_copyFrom 3 none :: ((wsX3_copyFrom_r1 ++ wsX3_copyFrom_r2) ++ wsX30 ++ wsX40 ++ wsX00)
def wsX2_record_r1 : List Cond := [Cond.fieldLink RX2 18 "CupReceipts$History" "states" "I", Cond.fieldLink RX2 11 "CupReceipts$History" "rooms" "[LCupReceipts$House;", Cond.methodLink RX2 22 yX2_dropOldest, Cond.instanceMethod yX2_dropOldest, Cond.selects RX2 yX2_dropOldest yX2_dropOldest, Cond.initialized RX2, Cond.code yX2_dropOldest cX2_dropOldest 3 none, Cond.methodLink RX2 25 yX3_copyFrom, Cond.instanceMethod yX3_copyFrom, Cond.selects RX3 yX3_copyFrom yX3_copyFrom, Cond.initialized RX3, Cond.code yX3_copyFrom cX3_copyFrom 3 none, Cond.fieldLink RX3 12 "CupReceipts$House" "lots" "LCupReceipts$Lots;", Cond.fieldLink RX3 21 "CupReceipts$House" "contracts" "LCupReceipts$Contracts;", Cond.fieldLink RX3 34 "CupReceipts$House" "worths" "[I", Cond.fieldLink RX3 40 "CupReceipts$House" "settings" "[I", Cond.fieldLink RX3 50 "CupReceipts$House" "month" "I", Cond.fieldLink RX3 54 "CupReceipts$House" "account" "I", Cond.fieldLink RX3 57 "CupReceipts$House" "contractsMet" "I", Cond.fieldLink RX3 60 "CupReceipts$House" "contractsFailed" "I", Cond.fieldLink RX3 63 "CupReceipts$House" "bagsGiven" "I", Cond.methodLink RX3 43 yX4_copyFrom, Cond.instanceMethod yX4_copyFrom, Cond.selects RX4 yX4_copyFrom yX4_copyFrom]
def wsX2_record_r2 : List Cond := [Cond.initialized RX4, Cond.code yX4_copyFrom cX4_copyFrom 3 none, Cond.fieldLink RX4 9 "CupReceipts$Lots" "numbers" "[I", Cond.fieldLink RX4 15 "CupReceipts$Lots" "bags" "[I", Cond.fieldLink RX4 18 "CupReceipts$Lots" "cups" "[I", Cond.fieldLink RX4 21 "CupReceipts$Lots" "months" "[I", Cond.fieldLink RX4 24 "CupReceipts$Lots" "size" "I", Cond.fieldLink RX4 28 "CupReceipts$Lots" "made" "I", Cond.methodLink RX3 47 yX0_copyFrom, Cond.instanceMethod yX0_copyFrom, Cond.selects RX0 yX0_copyFrom yX0_copyFrom, Cond.initialized RX0, Cond.code yX0_copyFrom cX0_copyFrom 3 none, Cond.fieldLink RX0 9 "CupReceipts$Contracts" "months" "[I", Cond.fieldLink RX0 15 "CupReceipts$Contracts" "prices" "[I", Cond.fieldLink RX0 18 "CupReceipts$Contracts" "size" "I"]
def wsX2_record : List Cond := .code yX2_record cX2_record 2 none :: ((wsX2_record_r1 ++ wsX2_record_r2) ++ wsX20 ++ wsX30 ++ wsX40 ++ wsX00)
def wsX6_isWithin : List Cond := .code yX6_isWithin cX6_isWithin 3 (some .boolean) :: ([])
def wsX4_isFull : List Cond := .code yX4_isFull cX4_isFull 1 (some .boolean) :: ([.fieldLink RX4 24 "CupReceipts$Lots" "size" "I"] ++ wsX40)
def wsX4_add : List Cond := .code yX4_add cX4_add 4 (some .int) :: ([.constant RX4 35 (-2000000003), .fieldLink RX4 9 "CupReceipts$Lots" "numbers" "[I", .fieldLink RX4 24 "CupReceipts$Lots" "size" "I", .fieldLink RX4 28 "CupReceipts$Lots" "made" "I", .fieldLink RX4 15 "CupReceipts$Lots" "bags" "[I", .fieldLink RX4 18 "CupReceipts$Lots" "cups" "[I", .fieldLink RX4 21 "CupReceipts$Lots" "months" "[I", .methodLink RX4 31 yX4_isFull, .instanceMethod yX4_isFull, .selects RX4 yX4_isFull yX4_isFull, .initialized RX4, .code yX4_isFull cX4_isFull 1 (some .boolean)] ++ wsX40)
def wsX3_bringLot : List Cond := .code yX3_bringLot cX3_bringLot 3 (some .int) :: ([.constant RX3 70 (-2000000001), .fieldLink RX3 12 "CupReceipts$House" "lots" "LCupReceipts$Lots;", .fieldLink RX3 50 "CupReceipts$House" "month" "I", .static yX6_isWithin, .initialized RX6, .code yX6_isWithin cX6_isWithin 3 (some .boolean), .methodLink RX3 71 yX4_add, .instanceMethod yX4_add, .selects RX4 yX4_add yX4_add, .initialized RX4, .code yX4_add cX4_add 4 (some .int), .constant RX4 35 (-2000000003), .fieldLink RX4 9 "CupReceipts$Lots" "numbers" "[I", .fieldLink RX4 24 "CupReceipts$Lots" "size" "I", .fieldLink RX4 28 "CupReceipts$Lots" "made" "I", .fieldLink RX4 15 "CupReceipts$Lots" "bags" "[I", .fieldLink RX4 18 "CupReceipts$Lots" "cups" "[I", .fieldLink RX4 21 "CupReceipts$Lots" "months" "[I", .methodLink RX4 31 yX4_isFull, .instanceMethod yX4_isFull, .selects RX4 yX4_isFull yX4_isFull, .code yX4_isFull cX4_isFull 1 (some .boolean)] ++ wsX30 ++ wsX40)
def wsX4_rowOf : List Cond := .code yX4_rowOf cX4_rowOf 3 (some .int) :: ([.fieldLink RX4 24 "CupReceipts$Lots" "size" "I", .fieldLink RX4 9 "CupReceipts$Lots" "numbers" "[I"] ++ wsX40)
def wsX3_partLot_r1 : List Cond := [Cond.fieldLink RX3 12 "CupReceipts$House" "lots" "LCupReceipts$Lots;", Cond.constant RX3 70 (-2000000001), Cond.fieldLink RX3 79 "CupReceipts$Lots" "bags" "[I", Cond.constant RX3 82 (-2000000002), Cond.constant RX3 87 (-2000000003), Cond.fieldLink RX3 88 "CupReceipts$Lots" "cups" "[I", Cond.fieldLink RX3 91 "CupReceipts$Lots" "months" "[I", Cond.methodLink RX3 75 yX4_rowOf, Cond.instanceMethod yX4_rowOf, Cond.selects RX4 yX4_rowOf yX4_rowOf, Cond.initialized RX4, Cond.code yX4_rowOf cX4_rowOf 3 (some .int), Cond.fieldLink RX4 24 "CupReceipts$Lots" "size" "I", Cond.fieldLink RX4 9 "CupReceipts$Lots" "numbers" "[I", Cond.methodLink RX3 83 yX4_isFull, Cond.instanceMethod yX4_isFull, Cond.selects RX4 yX4_isFull yX4_isFull, Cond.code yX4_isFull cX4_isFull 1 (some .boolean), Cond.methodLink RX3 71 yX4_add, Cond.instanceMethod yX4_add, Cond.selects RX4 yX4_add yX4_add, Cond.code yX4_add cX4_add 4 (some .int), Cond.constant RX4 35 (-2000000003), Cond.fieldLink RX4 28 "CupReceipts$Lots" "made" "I"]
def wsX3_partLot_r2 : List Cond := [Cond.fieldLink RX4 15 "CupReceipts$Lots" "bags" "[I", Cond.fieldLink RX4 18 "CupReceipts$Lots" "cups" "[I", Cond.fieldLink RX4 21 "CupReceipts$Lots" "months" "[I", Cond.methodLink RX4 31 yX4_isFull]
def wsX3_partLot : List Cond := .code yX3_partLot cX3_partLot 4 (some .int) :: ((wsX3_partLot_r1 ++ wsX3_partLot_r2) ++ wsX30 ++ wsX40)
def wsX4_dropEmpty : List Cond := .code yX4_dropEmpty cX4_dropEmpty 3 none :: ([.fieldLink RX4 24 "CupReceipts$Lots" "size" "I", .fieldLink RX4 15 "CupReceipts$Lots" "bags" "[I", .fieldLink RX4 9 "CupReceipts$Lots" "numbers" "[I", .fieldLink RX4 18 "CupReceipts$Lots" "cups" "[I", .fieldLink RX4 21 "CupReceipts$Lots" "months" "[I"] ++ wsX40)
def wsX3_blendLots_r1 : List Cond := [Cond.fieldLink RX3 12 "CupReceipts$House" "lots" "LCupReceipts$Lots;", Cond.constant RX3 70 (-2000000001), Cond.fieldLink RX3 79 "CupReceipts$Lots" "bags" "[I", Cond.constant RX3 82 (-2000000002), Cond.constant RX3 87 (-2000000003), Cond.fieldLink RX3 50 "CupReceipts$House" "month" "I", Cond.methodLink RX3 75 yX4_rowOf, Cond.instanceMethod yX4_rowOf, Cond.selects RX4 yX4_rowOf yX4_rowOf, Cond.initialized RX4, Cond.code yX4_rowOf cX4_rowOf 3 (some .int), Cond.fieldLink RX4 24 "CupReceipts$Lots" "size" "I", Cond.fieldLink RX4 9 "CupReceipts$Lots" "numbers" "[I", Cond.methodLink RX3 83 yX4_isFull, Cond.instanceMethod yX4_isFull, Cond.selects RX4 yX4_isFull yX4_isFull, Cond.code yX4_isFull cX4_isFull 1 (some .boolean), Cond.methodLink RX3 94 yX4_cupAt, Cond.instanceMethod yX4_cupAt, Cond.selects RX4 yX4_cupAt yX4_cupAt, Cond.code yX4_cupAt cX4_cupAt 4 (some .int), Cond.fieldLink RX4 18 "CupReceipts$Lots" "cups" "[I", Cond.fieldLink RX4 21 "CupReceipts$Lots" "months" "[I", Cond.methodLink RX3 98 yX4_dropEmpty]
def wsX3_blendLots_r2 : List Cond := [Cond.instanceMethod yX4_dropEmpty, Cond.selects RX4 yX4_dropEmpty yX4_dropEmpty, Cond.code yX4_dropEmpty cX4_dropEmpty 3 none, Cond.fieldLink RX4 15 "CupReceipts$Lots" "bags" "[I", Cond.methodLink RX3 71 yX4_add, Cond.instanceMethod yX4_add, Cond.selects RX4 yX4_add yX4_add, Cond.code yX4_add cX4_add 4 (some .int), Cond.constant RX4 35 (-2000000003), Cond.fieldLink RX4 28 "CupReceipts$Lots" "made" "I", Cond.methodLink RX4 31 yX4_isFull]
def wsX3_blendLots : List Cond := .code yX3_blendLots cX3_blendLots 11 (some .int) :: ((wsX3_blendLots_r1 ++ wsX3_blendLots_r2) ++ wsX30 ++ wsX40)
def wsX3_cupAnew : List Cond := .code yX3_cupAnew cX3_cupAnew 3 (some .int) :: ([.fieldLink RX3 12 "CupReceipts$House" "lots" "LCupReceipts$Lots;", .constant RX3 70 (-2000000001), .fieldLink RX3 79 "CupReceipts$Lots" "bags" "[I", .constant RX3 82 (-2000000002), .fieldLink RX3 88 "CupReceipts$Lots" "cups" "[I", .fieldLink RX3 50 "CupReceipts$House" "month" "I", .fieldLink RX3 91 "CupReceipts$Lots" "months" "[I", .methodLink RX3 75 yX4_rowOf, .instanceMethod yX4_rowOf, .selects RX4 yX4_rowOf yX4_rowOf, .initialized RX4, .code yX4_rowOf cX4_rowOf 3 (some .int), .fieldLink RX4 24 "CupReceipts$Lots" "size" "I", .fieldLink RX4 9 "CupReceipts$Lots" "numbers" "[I", .methodLink RX3 94 yX4_cupAt, .instanceMethod yX4_cupAt, .selects RX4 yX4_cupAt yX4_cupAt, .code yX4_cupAt cX4_cupAt 4 (some .int), .fieldLink RX4 18 "CupReceipts$Lots" "cups" "[I", .fieldLink RX4 21 "CupReceipts$Lots" "months" "[I"] ++ wsX30 ++ wsX40)
def wsX3_changeWorth : List Cond := .code yX3_changeWorth cX3_changeWorth 4 (some .int) :: ([.constant RX3 70 (-2000000001), .fieldLink RX3 34 "CupReceipts$House" "worths" "[I", .static yX6_isWithin, .initialized RX6, .code yX6_isWithin cX6_isWithin 3 (some .boolean)] ++ wsX30)
def wsJ9_floorMod_7cf53 : List Cond := .code yJ9_floorMod_7cf53 cJ9_floorMod_7cf53 3 (some .int) :: ([])
def wsX3_isDeliveryMonth : List Cond := .code yX3_isDeliveryMonth cX3_isDeliveryMonth 2 (some .boolean) :: ([.fieldLink RX3 40 "CupReceipts$House" "settings" "[I", .methodLink RX3 149 yJ9_floorMod_7cf53, .static yJ9_floorMod_7cf53, .initialized RJ9, .code yJ9_floorMod_7cf53 cJ9_floorMod_7cf53 3 (some .int)] ++ wsX30)
def wsX3_sellContract_r1 : List Cond := [Cond.constant RX3 70 (-2000000001), Cond.fieldLink RX3 50 "CupReceipts$House" "month" "I", Cond.constant RX3 82 (-2000000002), Cond.fieldLink RX3 21 "CupReceipts$House" "contracts" "LCupReceipts$Contracts;", Cond.static yX6_isWithin, Cond.initialized RX6, Cond.code yX6_isWithin cX6_isWithin 3 (some .boolean), Cond.methodLink RX3 101 yX3_isDeliveryMonth, Cond.instanceMethod yX3_isDeliveryMonth, Cond.selects RX3 yX3_isDeliveryMonth yX3_isDeliveryMonth, Cond.initialized RX3, Cond.code yX3_isDeliveryMonth cX3_isDeliveryMonth 2 (some .boolean), Cond.fieldLink RX3 40 "CupReceipts$House" "settings" "[I", Cond.methodLink RX3 149 yJ9_floorMod_7cf53, Cond.static yJ9_floorMod_7cf53, Cond.initialized RJ9, Cond.code yJ9_floorMod_7cf53 cJ9_floorMod_7cf53 3 (some .int), Cond.methodLink RX3 105 yX0_add, Cond.instanceMethod yX0_add, Cond.selects RX0 yX0_add yX0_add, Cond.initialized RX0, Cond.code yX0_add cX0_add 3 (some .int), Cond.fieldLink RX0 18 "CupReceipts$Contracts" "size" "I", Cond.constant RX0 22 (-2000000003)]
def wsX3_sellContract_r2 : List Cond := [Cond.fieldLink RX0 9 "CupReceipts$Contracts" "months" "[I", Cond.fieldLink RX0 15 "CupReceipts$Contracts" "prices" "[I"]
def wsX3_sellContract : List Cond := .code yX3_sellContract cX3_sellContract 3 (some .int) :: ((wsX3_sellContract_r1 ++ wsX3_sellContract_r2) ++ wsX30 ++ wsX00)
def wsX3_buyContractBack : List Cond := .code yX3_buyContractBack cX3_buyContractBack 4 (some .int) :: ([.fieldLink RX3 21 "CupReceipts$House" "contracts" "LCupReceipts$Contracts;", .constant RX3 70 (-2000000001), .fieldLink RX3 40 "CupReceipts$House" "settings" "[I", .fieldLink RX3 110 "CupReceipts$Contracts" "prices" "[I", .fieldLink RX3 54 "CupReceipts$House" "account" "I", .methodLink RX3 107 yX0_isOpen, .instanceMethod yX0_isOpen, .selects RX0 yX0_isOpen yX0_isOpen, .initialized RX0, .code yX0_isOpen cX0_isOpen 2 (some .boolean), .fieldLink RX0 18 "CupReceipts$Contracts" "size" "I", .static yX6_isWithin, .initialized RX6, .code yX6_isWithin cX6_isWithin 3 (some .boolean), .methodLink RX3 113 yX0_drop, .instanceMethod yX0_drop, .selects RX0 yX0_drop yX0_drop, .code yX0_drop cX0_drop 3 none, .fieldLink RX0 9 "CupReceipts$Contracts" "months" "[I", .fieldLink RX0 15 "CupReceipts$Contracts" "prices" "[I", .methodLink RX0 23 yX0_isOpen] ++ wsX30 ++ wsX00)
def wsX3_meetContract_r1 : List Cond := [Cond.fieldLink RX3 21 "CupReceipts$House" "contracts" "LCupReceipts$Contracts;", Cond.constant RX3 70 (-2000000001), Cond.fieldLink RX3 117 "CupReceipts$Contracts" "months" "[I", Cond.fieldLink RX3 50 "CupReceipts$House" "month" "I", Cond.constant RX3 82 (-2000000002), Cond.fieldLink RX3 110 "CupReceipts$Contracts" "prices" "[I", Cond.fieldLink RX3 124 "CupReceipts$Delivery" "missing" "I", Cond.fieldLink RX3 127 "CupReceipts$Delivery" "places" "I", Cond.fieldLink RX3 12 "CupReceipts$House" "lots" "LCupReceipts$Lots;", Cond.fieldLink RX3 79 "CupReceipts$Lots" "bags" "[I", Cond.fieldLink RX3 130 "CupReceipts$Delivery" "rows" "[I", Cond.fieldLink RX3 133 "CupReceipts$Delivery" "bags" "[I", Cond.fieldLink RX3 54 "CupReceipts$House" "account" "I", Cond.fieldLink RX3 134 "CupReceipts$Delivery" "pay" "I", Cond.fieldLink RX3 57 "CupReceipts$House" "contractsMet" "I", Cond.fieldLink RX3 63 "CupReceipts$House" "bagsGiven" "I", Cond.fieldLink RX3 40 "CupReceipts$House" "settings" "[I", Cond.methodLink RX3 107 yX0_isOpen, Cond.instanceMethod yX0_isOpen, Cond.selects RX0 yX0_isOpen yX0_isOpen, Cond.initialized RX0, Cond.code yX0_isOpen cX0_isOpen 2 (some .boolean), Cond.fieldLink RX0 18 "CupReceipts$Contracts" "size" "I", Cond.methodLink RX3 118 yX1_plan]
def wsX3_meetContract_r2 : List Cond := [Cond.instanceMethod yX1_plan, Cond.selects RX1 yX1_plan yX1_plan, Cond.initialized RX1, Cond.code yX1_plan cX1_plan 6 none, Cond.fieldLink RX1 35 "CupReceipts$Delivery" "places" "I", Cond.fieldLink RX1 39 "CupReceipts$House" "settings" "[I", Cond.fieldLink RX1 44 "CupReceipts$Delivery" "missing" "I", Cond.fieldLink RX1 47 "CupReceipts$Delivery" "pay" "I", Cond.fieldLink RX1 50 "CupReceipts$Delivery" "gain" "I", Cond.fieldLink RX1 53 "CupReceipts$Delivery" "sumOfCups" "I", Cond.fieldLink RX1 56 "CupReceipts$Delivery" "usedUp" "I", Cond.fieldLink RX1 59 "CupReceipts$House" "lots" "LCupReceipts$Lots;", Cond.fieldLink RX1 63 "CupReceipts$Lots" "size" "I", Cond.fieldLink RX1 72 "CupReceipts$Lots" "bags" "[I", Cond.methodLink RX1 31 yX1_rate, Cond.instanceMethod yX1_rate, Cond.selects RX1 yX1_rate yX1_rate, Cond.code yX1_rate cX1_rate 6 none, Cond.fieldLink RX1 18 "CupReceipts$Delivery" "waiting" "[Z", Cond.fieldLink RX1 22 "CupReceipts$Delivery" "cups" "[I", Cond.fieldLink RX1 25 "CupReceipts$Delivery" "pays" "[I", Cond.fieldLink RX1 28 "CupReceipts$Delivery" "gains" "[I", Cond.fieldLink RX1 88 "CupReceipts$House" "worths" "[I", Cond.methodLink RX1 77 yX4_cupAt]
def wsX3_meetContract_r3 : List Cond := [Cond.instanceMethod yX4_cupAt, Cond.selects RX4 yX4_cupAt yX4_cupAt, Cond.initialized RX4, Cond.code yX4_cupAt cX4_cupAt 4 (some .int), Cond.fieldLink RX4 18 "CupReceipts$Lots" "cups" "[I", Cond.fieldLink RX4 21 "CupReceipts$Lots" "months" "[I", Cond.methodLink RX1 81 yX4_monthsTooOld, Cond.instanceMethod yX4_monthsTooOld, Cond.selects RX4 yX4_monthsTooOld yX4_monthsTooOld, Cond.code yX4_monthsTooOld cX4_monthsTooOld 4 (some .int), Cond.methodLink RX1 84 yX3_payForBag, Cond.instanceMethod yX3_payForBag, Cond.selects RX3 yX3_payForBag yX3_payForBag, Cond.initialized RX3, Cond.code yX3_payForBag cX3_payForBag 5 (some .int), Cond.static yX6_bandOf, Cond.initialized RX6, Cond.code yX6_bandOf cX6_bandOf 1 (some .int), Cond.methodLink RX1 68 yX1_rowOfGreatestGain, Cond.instanceMethod yX1_rowOfGreatestGain, Cond.selects RX1 yX1_rowOfGreatestGain yX1_rowOfGreatestGain, Cond.code yX1_rowOfGreatestGain cX1_rowOfGreatestGain 4 (some .int), Cond.methodLink RX1 73 yX1_take, Cond.instanceMethod yX1_take]
def wsX3_meetContract_r4 : List Cond := [Cond.selects RX1 yX1_take yX1_take, Cond.code yX1_take cX1_take 4 none, Cond.methodLink RX1 94 Lib.Math.min.name, Cond.static Lib.Math.min.name, Cond.initialized "java/lang/Math", Cond.code Lib.Math.min.name Lib.Math.min.code 2 (some .int), Cond.fieldLink RX1 9 "CupReceipts$Delivery" "rows" "[I", Cond.fieldLink RX1 15 "CupReceipts$Delivery" "bags" "[I", Cond.methodLink RX3 98 yX4_dropEmpty, Cond.instanceMethod yX4_dropEmpty, Cond.selects RX4 yX4_dropEmpty yX4_dropEmpty, Cond.code yX4_dropEmpty cX4_dropEmpty 3 none, Cond.fieldLink RX4 24 "CupReceipts$Lots" "size" "I", Cond.fieldLink RX4 15 "CupReceipts$Lots" "bags" "[I", Cond.fieldLink RX4 9 "CupReceipts$Lots" "numbers" "[I", Cond.methodLink RX3 113 yX0_drop, Cond.instanceMethod yX0_drop, Cond.selects RX0 yX0_drop yX0_drop, Cond.code yX0_drop cX0_drop 3 none, Cond.fieldLink RX0 9 "CupReceipts$Contracts" "months" "[I", Cond.fieldLink RX0 15 "CupReceipts$Contracts" "prices" "[I", Cond.methodLink RX0 23 yX0_isOpen]
def wsX3_meetContract : List Cond := .code yX3_meetContract cX3_meetContract 4 (some .int) :: ((wsX3_meetContract_r1 ++ (wsX3_meetContract_r2 ++ (wsX3_meetContract_r3 ++ wsX3_meetContract_r4))) ++ wsX30 ++ wsX00 ++ wsX10 ++ wsX40)
def wsX3_passMonths : List Cond := .code yX3_passMonths cX3_passMonths 3 (some .int) :: ([.constant RX3 70 (-2000000001), .fieldLink RX3 50 "CupReceipts$House" "month" "I", .constant RX3 87 (-2000000003), .fieldLink RX3 21 "CupReceipts$House" "contracts" "LCupReceipts$Contracts;", .fieldLink RX3 60 "CupReceipts$House" "contractsFailed" "I", .fieldLink RX3 54 "CupReceipts$House" "account" "I", .fieldLink RX3 40 "CupReceipts$House" "settings" "[I", .static yX6_isWithin, .initialized RX6, .code yX6_isWithin cX6_isWithin 3 (some .boolean), .methodLink RX3 137 yX0_dropBefore, .instanceMethod yX0_dropBefore, .selects RX0 yX0_dropBefore yX0_dropBefore, .initialized RX0, .code yX0_dropBefore cX0_dropBefore 4 (some .int), .fieldLink RX0 18 "CupReceipts$Contracts" "size" "I", .fieldLink RX0 9 "CupReceipts$Contracts" "months" "[I", .fieldLink RX0 15 "CupReceipts$Contracts" "prices" "[I"] ++ wsX30 ++ wsX00)
def wsX3_changeSetting : List Cond := .code yX3_changeSetting cX3_changeSetting 4 (some .int) :: ([.constant RX3 70 (-2000000001), .fieldLink RX3 21 "CupReceipts$House" "contracts" "LCupReceipts$Contracts;", .fieldLink RX3 146 "CupReceipts$Contracts" "size" "I", .constant RX3 82 (-2000000002), .fieldLink RX3 40 "CupReceipts$House" "settings" "[I", .static yX6_isWithin, .initialized RX6, .code yX6_isWithin cX6_isWithin 3 (some .boolean)] ++ wsX30 ++ wsX00)
def wsX3_tellOfLot : List Cond := .code yX3_tellOfLot cX3_tellOfLot 3 (some .int) :: ([.fieldLink RX3 12 "CupReceipts$House" "lots" "LCupReceipts$Lots;", .fieldLink RX3 79 "CupReceipts$Lots" "bags" "[I", .fieldLink RX3 88 "CupReceipts$Lots" "cups" "[I", .fieldLink RX3 91 "CupReceipts$Lots" "months" "[I", .fieldLink RX3 50 "CupReceipts$House" "month" "I", .fieldLink RX3 34 "CupReceipts$House" "worths" "[I", .constant RX3 70 (-2000000001), .methodLink RX3 94 yX4_cupAt, .instanceMethod yX4_cupAt, .selects RX4 yX4_cupAt yX4_cupAt, .initialized RX4, .code yX4_cupAt cX4_cupAt 4 (some .int), .fieldLink RX4 18 "CupReceipts$Lots" "cups" "[I", .fieldLink RX4 21 "CupReceipts$Lots" "months" "[I", .static yX6_bandOf, .initialized RX6, .code yX6_bandOf cX6_bandOf 1 (some .int), .methodLink RX3 157 yX4_monthsTooOld, .instanceMethod yX4_monthsTooOld, .selects RX4 yX4_monthsTooOld yX4_monthsTooOld, .code yX4_monthsTooOld cX4_monthsTooOld 4 (some .int)] ++ wsX30 ++ wsX40)
def wsX4_allBags : List Cond := .code yX4_allBags cX4_allBags 3 (some .int) :: ([.fieldLink RX4 24 "CupReceipts$Lots" "size" "I", .fieldLink RX4 15 "CupReceipts$Lots" "bags" "[I"] ++ wsX40)
def wsX4_bagsToGive : List Cond := .code yX4_bagsToGive cX4_bagsToGive 4 (some .int) :: ([.fieldLink RX4 24 "CupReceipts$Lots" "size" "I", .fieldLink RX4 15 "CupReceipts$Lots" "bags" "[I", .methodLink RX4 36 yX4_cupAt, .instanceMethod yX4_cupAt, .selects RX4 yX4_cupAt yX4_cupAt, .initialized RX4, .code yX4_cupAt cX4_cupAt 4 (some .int), .fieldLink RX4 18 "CupReceipts$Lots" "cups" "[I", .fieldLink RX4 21 "CupReceipts$Lots" "months" "[I"] ++ wsX40)
def wsX3_tellCount_r1 : List Cond := [Cond.fieldLink RX3 12 "CupReceipts$House" "lots" "LCupReceipts$Lots;", Cond.fieldLink RX3 160 "CupReceipts$Lots" "size" "I", Cond.fieldLink RX3 50 "CupReceipts$House" "month" "I", Cond.fieldLink RX3 21 "CupReceipts$House" "contracts" "LCupReceipts$Contracts;", Cond.fieldLink RX3 146 "CupReceipts$Contracts" "size" "I", Cond.fieldLink RX3 54 "CupReceipts$House" "account" "I", Cond.fieldLink RX3 57 "CupReceipts$House" "contractsMet" "I", Cond.fieldLink RX3 60 "CupReceipts$House" "contractsFailed" "I", Cond.fieldLink RX3 63 "CupReceipts$House" "bagsGiven" "I", Cond.fieldLink RX3 168 "CupReceipts$Lots" "made" "I", Cond.constant RX3 70 (-2000000001), Cond.methodLink RX3 161 yX4_allBags, Cond.instanceMethod yX4_allBags, Cond.selects RX4 yX4_allBags yX4_allBags, Cond.initialized RX4, Cond.code yX4_allBags cX4_allBags 3 (some .int), Cond.fieldLink RX4 24 "CupReceipts$Lots" "size" "I", Cond.fieldLink RX4 15 "CupReceipts$Lots" "bags" "[I", Cond.methodLink RX3 165 yX4_bagsToGive, Cond.instanceMethod yX4_bagsToGive, Cond.selects RX4 yX4_bagsToGive yX4_bagsToGive, Cond.code yX4_bagsToGive cX4_bagsToGive 4 (some .int), Cond.methodLink RX4 36 yX4_cupAt, Cond.instanceMethod yX4_cupAt]
def wsX3_tellCount_r2 : List Cond := [Cond.selects RX4 yX4_cupAt yX4_cupAt, Cond.code yX4_cupAt cX4_cupAt 4 (some .int), Cond.fieldLink RX4 18 "CupReceipts$Lots" "cups" "[I", Cond.fieldLink RX4 21 "CupReceipts$Lots" "months" "[I"]
def wsX3_tellCount : List Cond := .code yX3_tellCount cX3_tellCount 2 (some .int) :: ((wsX3_tellCount_r1 ++ wsX3_tellCount_r2) ++ wsX30 ++ wsX40 ++ wsX00)
def wsX5_init : List Cond := .code yX5_init cX5_init 1 none :: ([.methodLink RX5 3 objectInit, .instanceMethod objectInit, .code objectInit ⟨#[0xb1]⟩ 1 none, .arrayClass .char, .fieldLink RX5 9 "CupReceipts$Orders" "signs" "[C", .arrayClass .int, .fieldLink RX5 15 "CupReceipts$Orders" "numbers" "[I"] ++ wsX50)
def wsX6_init_r1 : List Cond := [Cond.methodLink RX6 1 objectInit, Cond.instanceMethod objectInit, Cond.code objectInit ⟨#[0xb1]⟩ 1 none, Cond.classLink RX6 7 RX3, Cond.instantiable RX3 9, Cond.initialized RX3, Cond.fieldLink RX6 10 "CupReceipts" "house" "LCupReceipts$House;", Cond.fieldLink RX6 16 "CupReceipts" "trial" "LCupReceipts$House;", Cond.classLink RX6 19 RX2, Cond.instantiable RX2 2, Cond.initialized RX2, Cond.fieldLink RX6 22 "CupReceipts" "history" "LCupReceipts$History;", Cond.classLink RX6 26 RX1, Cond.instantiable RX1 12, Cond.initialized RX1, Cond.fieldLink RX6 29 "CupReceipts" "delivery" "LCupReceipts$Delivery;", Cond.classLink RX6 33 RX5, Cond.instantiable RX5 8, Cond.initialized RX5, Cond.fieldLink RX6 36 "CupReceipts" "orders" "LCupReceipts$Orders;", Cond.instanceMethod yX3_init, Cond.code yX3_init cX3_init 1 none, Cond.methodLink RX3 3 objectInit, Cond.classLink RX3 9 RX4]
def wsX6_init_r2 : List Cond := [Cond.instantiable RX4 6, Cond.initialized RX4, Cond.fieldLink RX3 12 "CupReceipts$House" "lots" "LCupReceipts$Lots;", Cond.classLink RX3 18 RX0, Cond.instantiable RX0 3, Cond.initialized RX0, Cond.fieldLink RX3 21 "CupReceipts$House" "contracts" "LCupReceipts$Contracts;", Cond.methodLink RX3 29 ⟨"[I", "clone", "()Ljava/lang/Object;"⟩, Cond.sameMethod "[I" "java/lang/Object" "clone" "()Ljava/lang/Object;", Cond.native ⟨"java/lang/Object", "clone", "()Ljava/lang/Object;"⟩, Cond.instanceMethod ⟨"java/lang/Object", "clone", "()Ljava/lang/Object;"⟩, Cond.selects "[I" ⟨"[I", "clone", "()Ljava/lang/Object;"⟩ ⟨"java/lang/Object", "clone", "()Ljava/lang/Object;"⟩, Cond.classLink RX3 30 "[I", Cond.fieldLink RX3 34 "CupReceipts$House" "worths" "[I", Cond.fieldLink RX3 40 "CupReceipts$House" "settings" "[I", Cond.instanceMethod yX4_init, Cond.code yX4_init cX4_init 1 none, Cond.methodLink RX4 3 objectInit, Cond.arrayClass .int, Cond.fieldLink RX4 9 "CupReceipts$Lots" "numbers" "[I", Cond.fieldLink RX4 15 "CupReceipts$Lots" "bags" "[I", Cond.fieldLink RX4 18 "CupReceipts$Lots" "cups" "[I", Cond.fieldLink RX4 21 "CupReceipts$Lots" "months" "[I", Cond.instanceMethod yX0_init]
def wsX6_init_r3 : List Cond := [Cond.code yX0_init cX0_init 1 none, Cond.methodLink RX0 3 objectInit, Cond.fieldLink RX0 9 "CupReceipts$Contracts" "months" "[I", Cond.fieldLink RX0 15 "CupReceipts$Contracts" "prices" "[I", Cond.methodLink RX6 21 yX2_init, Cond.instanceMethod yX2_init, Cond.code yX2_init cX2_init 2 none, Cond.methodLink RX2 3 objectInit, Cond.classLink RX2 9 RX3, Cond.fieldLink RX2 11 "CupReceipts$History" "rooms" "[LCupReceipts$House;", Cond.instanceMethod yX1_init, Cond.code yX1_init cX1_init 1 none, Cond.methodLink RX1 3 objectInit, Cond.fieldLink RX1 9 "CupReceipts$Delivery" "rows" "[I", Cond.fieldLink RX1 15 "CupReceipts$Delivery" "bags" "[I", Cond.arrayClass .boolean, Cond.fieldLink RX1 18 "CupReceipts$Delivery" "waiting" "[Z", Cond.fieldLink RX1 22 "CupReceipts$Delivery" "cups" "[I", Cond.fieldLink RX1 25 "CupReceipts$Delivery" "pays" "[I", Cond.fieldLink RX1 28 "CupReceipts$Delivery" "gains" "[I", Cond.instanceMethod yX5_init, Cond.code yX5_init cX5_init 1 none, Cond.methodLink RX5 3 objectInit, Cond.arrayClass .char]
def wsX6_init_r4 : List Cond := [Cond.fieldLink RX5 9 "CupReceipts$Orders" "signs" "[C", Cond.fieldLink RX5 15 "CupReceipts$Orders" "numbers" "[I"]
def wsX6_init : List Cond := .code yX6_init cX6_init 1 none :: ((wsX6_init_r1 ++ (wsX6_init_r2 ++ (wsX6_init_r3 ++ wsX6_init_r4))) ++ wsX30 ++ wsX60 ++ wsX20 ++ wsX10 ++ wsX50 ++ wsX40 ++ wsX00)
def wsX6_isError : List Cond := .code yX6_isError cX6_isError 1 (some .boolean) :: ([.constant RX6 102 (-2000000004), .constant RX6 90 (-2000000001), .methodLink RX6 122 yX6_isWithin, .static yX6_isWithin, .initialized RX6, .code yX6_isWithin cX6_isWithin 3 (some .boolean)])
def wsX6_accept_r1 : List Cond := [Cond.fieldLink RX6 22 "CupReceipts" "history" "LCupReceipts$History;", Cond.fieldLink RX6 10 "CupReceipts" "house" "LCupReceipts$House;", Cond.fieldLink RX6 16 "CupReceipts" "trial" "LCupReceipts$House;", Cond.methodLink RX6 217 yX6_isError, Cond.static yX6_isError, Cond.initialized RX6, Cond.code yX6_isError cX6_isError 1 (some .boolean), Cond.constant RX6 102 (-2000000004), Cond.constant RX6 90 (-2000000001), Cond.methodLink RX6 122 yX6_isWithin, Cond.static yX6_isWithin, Cond.code yX6_isWithin cX6_isWithin 3 (some .boolean), Cond.methodLink RX6 220 yX2_record, Cond.instanceMethod yX2_record, Cond.selects RX2 yX2_record yX2_record, Cond.initialized RX2, Cond.code yX2_record cX2_record 2 none, Cond.fieldLink RX2 18 "CupReceipts$History" "states" "I", Cond.fieldLink RX2 11 "CupReceipts$History" "rooms" "[LCupReceipts$House;", Cond.methodLink RX2 22 yX2_dropOldest, Cond.instanceMethod yX2_dropOldest, Cond.selects RX2 yX2_dropOldest yX2_dropOldest, Cond.code yX2_dropOldest cX2_dropOldest 3 none, Cond.methodLink RX2 25 yX3_copyFrom]
def wsX6_accept_r2 : List Cond := [Cond.instanceMethod yX3_copyFrom, Cond.selects RX3 yX3_copyFrom yX3_copyFrom, Cond.initialized RX3, Cond.code yX3_copyFrom cX3_copyFrom 3 none, Cond.fieldLink RX3 12 "CupReceipts$House" "lots" "LCupReceipts$Lots;", Cond.fieldLink RX3 21 "CupReceipts$House" "contracts" "LCupReceipts$Contracts;", Cond.fieldLink RX3 34 "CupReceipts$House" "worths" "[I", Cond.fieldLink RX3 40 "CupReceipts$House" "settings" "[I", Cond.fieldLink RX3 50 "CupReceipts$House" "month" "I", Cond.fieldLink RX3 54 "CupReceipts$House" "account" "I", Cond.fieldLink RX3 57 "CupReceipts$House" "contractsMet" "I", Cond.fieldLink RX3 60 "CupReceipts$House" "contractsFailed" "I", Cond.fieldLink RX3 63 "CupReceipts$House" "bagsGiven" "I", Cond.methodLink RX3 43 yX4_copyFrom, Cond.instanceMethod yX4_copyFrom, Cond.selects RX4 yX4_copyFrom yX4_copyFrom, Cond.initialized RX4, Cond.code yX4_copyFrom cX4_copyFrom 3 none, Cond.fieldLink RX4 9 "CupReceipts$Lots" "numbers" "[I", Cond.fieldLink RX4 15 "CupReceipts$Lots" "bags" "[I", Cond.fieldLink RX4 18 "CupReceipts$Lots" "cups" "[I", Cond.fieldLink RX4 21 "CupReceipts$Lots" "months" "[I", Cond.fieldLink RX4 24 "CupReceipts$Lots" "size" "I", Cond.fieldLink RX4 28 "CupReceipts$Lots" "made" "I"]
def wsX6_accept_r3 : List Cond := [Cond.methodLink RX3 47 yX0_copyFrom, Cond.instanceMethod yX0_copyFrom, Cond.selects RX0 yX0_copyFrom yX0_copyFrom, Cond.initialized RX0, Cond.code yX0_copyFrom cX0_copyFrom 3 none, Cond.fieldLink RX0 9 "CupReceipts$Contracts" "months" "[I", Cond.fieldLink RX0 15 "CupReceipts$Contracts" "prices" "[I", Cond.fieldLink RX0 18 "CupReceipts$Contracts" "size" "I", Cond.methodLink RX6 40 yX3_copyFrom]
def wsX6_accept : List Cond := .code yX6_accept cX6_accept 2 (some .int) :: ((wsX6_accept_r1 ++ (wsX6_accept_r2 ++ wsX6_accept_r3)) ++ wsX60 ++ wsX20 ++ wsX30 ++ wsX40 ++ wsX00)
def wsX6_lot_r1 : List Cond := [Cond.fieldLink RX6 16 "CupReceipts" "trial" "LCupReceipts$House;", Cond.fieldLink RX6 10 "CupReceipts" "house" "LCupReceipts$House;", Cond.methodLink RX6 40 yX3_copyFrom, Cond.instanceMethod yX3_copyFrom, Cond.selects RX3 yX3_copyFrom yX3_copyFrom, Cond.initialized RX3, Cond.code yX3_copyFrom cX3_copyFrom 3 none, Cond.fieldLink RX3 12 "CupReceipts$House" "lots" "LCupReceipts$Lots;", Cond.fieldLink RX3 21 "CupReceipts$House" "contracts" "LCupReceipts$Contracts;", Cond.fieldLink RX3 34 "CupReceipts$House" "worths" "[I", Cond.fieldLink RX3 40 "CupReceipts$House" "settings" "[I", Cond.fieldLink RX3 50 "CupReceipts$House" "month" "I", Cond.fieldLink RX3 54 "CupReceipts$House" "account" "I", Cond.fieldLink RX3 57 "CupReceipts$House" "contractsMet" "I", Cond.fieldLink RX3 60 "CupReceipts$House" "contractsFailed" "I", Cond.fieldLink RX3 63 "CupReceipts$House" "bagsGiven" "I", Cond.methodLink RX3 43 yX4_copyFrom, Cond.instanceMethod yX4_copyFrom, Cond.selects RX4 yX4_copyFrom yX4_copyFrom, Cond.initialized RX4, Cond.code yX4_copyFrom cX4_copyFrom 3 none, Cond.fieldLink RX4 9 "CupReceipts$Lots" "numbers" "[I", Cond.fieldLink RX4 15 "CupReceipts$Lots" "bags" "[I", Cond.fieldLink RX4 18 "CupReceipts$Lots" "cups" "[I"]
def wsX6_lot_r2 : List Cond := [Cond.fieldLink RX4 21 "CupReceipts$Lots" "months" "[I", Cond.fieldLink RX4 24 "CupReceipts$Lots" "size" "I", Cond.fieldLink RX4 28 "CupReceipts$Lots" "made" "I", Cond.methodLink RX3 47 yX0_copyFrom, Cond.instanceMethod yX0_copyFrom, Cond.selects RX0 yX0_copyFrom yX0_copyFrom, Cond.initialized RX0, Cond.code yX0_copyFrom cX0_copyFrom 3 none, Cond.fieldLink RX0 9 "CupReceipts$Contracts" "months" "[I", Cond.fieldLink RX0 15 "CupReceipts$Contracts" "prices" "[I", Cond.fieldLink RX0 18 "CupReceipts$Contracts" "size" "I", Cond.methodLink RX6 44 yX3_bringLot, Cond.instanceMethod yX3_bringLot, Cond.selects RX3 yX3_bringLot yX3_bringLot, Cond.code yX3_bringLot cX3_bringLot 3 (some .int), Cond.constant RX3 70 (-2000000001), Cond.static yX6_isWithin, Cond.initialized RX6, Cond.code yX6_isWithin cX6_isWithin 3 (some .boolean), Cond.methodLink RX3 71 yX4_add, Cond.instanceMethod yX4_add, Cond.selects RX4 yX4_add yX4_add, Cond.code yX4_add cX4_add 4 (some .int), Cond.constant RX4 35 (-2000000003)]
def wsX6_lot_r3 : List Cond := [Cond.methodLink RX4 31 yX4_isFull, Cond.instanceMethod yX4_isFull, Cond.selects RX4 yX4_isFull yX4_isFull, Cond.code yX4_isFull cX4_isFull 1 (some .boolean), Cond.methodLink RX6 48 yX6_accept, Cond.instanceMethod yX6_accept, Cond.selects RX6 yX6_accept yX6_accept, Cond.code yX6_accept cX6_accept 2 (some .int), Cond.fieldLink RX6 22 "CupReceipts" "history" "LCupReceipts$History;", Cond.methodLink RX6 217 yX6_isError, Cond.static yX6_isError, Cond.code yX6_isError cX6_isError 1 (some .boolean), Cond.constant RX6 102 (-2000000004), Cond.constant RX6 90 (-2000000001), Cond.methodLink RX6 122 yX6_isWithin, Cond.methodLink RX6 220 yX2_record, Cond.instanceMethod yX2_record, Cond.selects RX2 yX2_record yX2_record, Cond.initialized RX2, Cond.code yX2_record cX2_record 2 none, Cond.fieldLink RX2 18 "CupReceipts$History" "states" "I", Cond.fieldLink RX2 11 "CupReceipts$History" "rooms" "[LCupReceipts$House;", Cond.methodLink RX2 22 yX2_dropOldest, Cond.instanceMethod yX2_dropOldest]
def wsX6_lot_r4 : List Cond := [Cond.selects RX2 yX2_dropOldest yX2_dropOldest, Cond.code yX2_dropOldest cX2_dropOldest 3 none, Cond.methodLink RX2 25 yX3_copyFrom]
def wsX6_lot : List Cond := .code yX6_lot cX6_lot 3 (some .int) :: ((wsX6_lot_r1 ++ (wsX6_lot_r2 ++ (wsX6_lot_r3 ++ wsX6_lot_r4))) ++ wsX60 ++ wsX30 ++ wsX40 ++ wsX00 ++ wsX20)
def wsX6_part_r1 : List Cond := [Cond.fieldLink RX6 16 "CupReceipts" "trial" "LCupReceipts$House;", Cond.fieldLink RX6 10 "CupReceipts" "house" "LCupReceipts$House;", Cond.methodLink RX6 40 yX3_copyFrom, Cond.instanceMethod yX3_copyFrom, Cond.selects RX3 yX3_copyFrom yX3_copyFrom, Cond.initialized RX3, Cond.code yX3_copyFrom cX3_copyFrom 3 none, Cond.fieldLink RX3 12 "CupReceipts$House" "lots" "LCupReceipts$Lots;", Cond.fieldLink RX3 21 "CupReceipts$House" "contracts" "LCupReceipts$Contracts;", Cond.fieldLink RX3 34 "CupReceipts$House" "worths" "[I", Cond.fieldLink RX3 40 "CupReceipts$House" "settings" "[I", Cond.fieldLink RX3 50 "CupReceipts$House" "month" "I", Cond.fieldLink RX3 54 "CupReceipts$House" "account" "I", Cond.fieldLink RX3 57 "CupReceipts$House" "contractsMet" "I", Cond.fieldLink RX3 60 "CupReceipts$House" "contractsFailed" "I", Cond.fieldLink RX3 63 "CupReceipts$House" "bagsGiven" "I", Cond.methodLink RX3 43 yX4_copyFrom, Cond.instanceMethod yX4_copyFrom, Cond.selects RX4 yX4_copyFrom yX4_copyFrom, Cond.initialized RX4, Cond.code yX4_copyFrom cX4_copyFrom 3 none, Cond.fieldLink RX4 9 "CupReceipts$Lots" "numbers" "[I", Cond.fieldLink RX4 15 "CupReceipts$Lots" "bags" "[I", Cond.fieldLink RX4 18 "CupReceipts$Lots" "cups" "[I"]
def wsX6_part_r2 : List Cond := [Cond.fieldLink RX4 21 "CupReceipts$Lots" "months" "[I", Cond.fieldLink RX4 24 "CupReceipts$Lots" "size" "I", Cond.fieldLink RX4 28 "CupReceipts$Lots" "made" "I", Cond.methodLink RX3 47 yX0_copyFrom, Cond.instanceMethod yX0_copyFrom, Cond.selects RX0 yX0_copyFrom yX0_copyFrom, Cond.initialized RX0, Cond.code yX0_copyFrom cX0_copyFrom 3 none, Cond.fieldLink RX0 9 "CupReceipts$Contracts" "months" "[I", Cond.fieldLink RX0 15 "CupReceipts$Contracts" "prices" "[I", Cond.fieldLink RX0 18 "CupReceipts$Contracts" "size" "I", Cond.methodLink RX6 52 yX3_partLot, Cond.instanceMethod yX3_partLot, Cond.selects RX3 yX3_partLot yX3_partLot, Cond.code yX3_partLot cX3_partLot 4 (some .int), Cond.constant RX3 70 (-2000000001), Cond.fieldLink RX3 79 "CupReceipts$Lots" "bags" "[I", Cond.constant RX3 82 (-2000000002), Cond.constant RX3 87 (-2000000003), Cond.fieldLink RX3 88 "CupReceipts$Lots" "cups" "[I", Cond.fieldLink RX3 91 "CupReceipts$Lots" "months" "[I", Cond.methodLink RX3 75 yX4_rowOf, Cond.instanceMethod yX4_rowOf, Cond.selects RX4 yX4_rowOf yX4_rowOf]
def wsX6_part_r3 : List Cond := [Cond.code yX4_rowOf cX4_rowOf 3 (some .int), Cond.methodLink RX3 83 yX4_isFull, Cond.instanceMethod yX4_isFull, Cond.selects RX4 yX4_isFull yX4_isFull, Cond.code yX4_isFull cX4_isFull 1 (some .boolean), Cond.methodLink RX3 71 yX4_add, Cond.instanceMethod yX4_add, Cond.selects RX4 yX4_add yX4_add, Cond.code yX4_add cX4_add 4 (some .int), Cond.constant RX4 35 (-2000000003), Cond.methodLink RX4 31 yX4_isFull, Cond.methodLink RX6 48 yX6_accept, Cond.instanceMethod yX6_accept, Cond.selects RX6 yX6_accept yX6_accept, Cond.initialized RX6, Cond.code yX6_accept cX6_accept 2 (some .int), Cond.fieldLink RX6 22 "CupReceipts" "history" "LCupReceipts$History;", Cond.methodLink RX6 217 yX6_isError, Cond.static yX6_isError, Cond.code yX6_isError cX6_isError 1 (some .boolean), Cond.constant RX6 102 (-2000000004), Cond.constant RX6 90 (-2000000001), Cond.methodLink RX6 122 yX6_isWithin, Cond.static yX6_isWithin]
def wsX6_part_r4 : List Cond := [Cond.code yX6_isWithin cX6_isWithin 3 (some .boolean), Cond.methodLink RX6 220 yX2_record, Cond.instanceMethod yX2_record, Cond.selects RX2 yX2_record yX2_record, Cond.initialized RX2, Cond.code yX2_record cX2_record 2 none, Cond.fieldLink RX2 18 "CupReceipts$History" "states" "I", Cond.fieldLink RX2 11 "CupReceipts$History" "rooms" "[LCupReceipts$House;", Cond.methodLink RX2 22 yX2_dropOldest, Cond.instanceMethod yX2_dropOldest, Cond.selects RX2 yX2_dropOldest yX2_dropOldest, Cond.code yX2_dropOldest cX2_dropOldest 3 none, Cond.methodLink RX2 25 yX3_copyFrom]
def wsX6_part : List Cond := .code yX6_part cX6_part 3 (some .int) :: ((wsX6_part_r1 ++ (wsX6_part_r2 ++ (wsX6_part_r3 ++ wsX6_part_r4))) ++ wsX60 ++ wsX30 ++ wsX40 ++ wsX00 ++ wsX20)
def wsX6_blend_r1 : List Cond := [Cond.fieldLink RX6 16 "CupReceipts" "trial" "LCupReceipts$House;", Cond.fieldLink RX6 10 "CupReceipts" "house" "LCupReceipts$House;", Cond.methodLink RX6 40 yX3_copyFrom, Cond.instanceMethod yX3_copyFrom, Cond.selects RX3 yX3_copyFrom yX3_copyFrom, Cond.initialized RX3, Cond.code yX3_copyFrom cX3_copyFrom 3 none, Cond.fieldLink RX3 12 "CupReceipts$House" "lots" "LCupReceipts$Lots;", Cond.fieldLink RX3 21 "CupReceipts$House" "contracts" "LCupReceipts$Contracts;", Cond.fieldLink RX3 34 "CupReceipts$House" "worths" "[I", Cond.fieldLink RX3 40 "CupReceipts$House" "settings" "[I", Cond.fieldLink RX3 50 "CupReceipts$House" "month" "I", Cond.fieldLink RX3 54 "CupReceipts$House" "account" "I", Cond.fieldLink RX3 57 "CupReceipts$House" "contractsMet" "I", Cond.fieldLink RX3 60 "CupReceipts$House" "contractsFailed" "I", Cond.fieldLink RX3 63 "CupReceipts$House" "bagsGiven" "I", Cond.methodLink RX3 43 yX4_copyFrom, Cond.instanceMethod yX4_copyFrom, Cond.selects RX4 yX4_copyFrom yX4_copyFrom, Cond.initialized RX4, Cond.code yX4_copyFrom cX4_copyFrom 3 none, Cond.fieldLink RX4 9 "CupReceipts$Lots" "numbers" "[I", Cond.fieldLink RX4 15 "CupReceipts$Lots" "bags" "[I", Cond.fieldLink RX4 18 "CupReceipts$Lots" "cups" "[I"]
def wsX6_blend_r2 : List Cond := [Cond.fieldLink RX4 21 "CupReceipts$Lots" "months" "[I", Cond.fieldLink RX4 24 "CupReceipts$Lots" "size" "I", Cond.fieldLink RX4 28 "CupReceipts$Lots" "made" "I", Cond.methodLink RX3 47 yX0_copyFrom, Cond.instanceMethod yX0_copyFrom, Cond.selects RX0 yX0_copyFrom yX0_copyFrom, Cond.initialized RX0, Cond.code yX0_copyFrom cX0_copyFrom 3 none, Cond.fieldLink RX0 9 "CupReceipts$Contracts" "months" "[I", Cond.fieldLink RX0 15 "CupReceipts$Contracts" "prices" "[I", Cond.fieldLink RX0 18 "CupReceipts$Contracts" "size" "I", Cond.methodLink RX6 55 yX3_blendLots, Cond.instanceMethod yX3_blendLots, Cond.selects RX3 yX3_blendLots yX3_blendLots, Cond.code yX3_blendLots cX3_blendLots 11 (some .int), Cond.constant RX3 70 (-2000000001), Cond.fieldLink RX3 79 "CupReceipts$Lots" "bags" "[I", Cond.constant RX3 82 (-2000000002), Cond.constant RX3 87 (-2000000003), Cond.methodLink RX3 75 yX4_rowOf, Cond.instanceMethod yX4_rowOf, Cond.selects RX4 yX4_rowOf yX4_rowOf, Cond.code yX4_rowOf cX4_rowOf 3 (some .int), Cond.methodLink RX3 83 yX4_isFull]
def wsX6_blend_r3 : List Cond := [Cond.instanceMethod yX4_isFull, Cond.selects RX4 yX4_isFull yX4_isFull, Cond.code yX4_isFull cX4_isFull 1 (some .boolean), Cond.methodLink RX3 94 yX4_cupAt, Cond.instanceMethod yX4_cupAt, Cond.selects RX4 yX4_cupAt yX4_cupAt, Cond.code yX4_cupAt cX4_cupAt 4 (some .int), Cond.methodLink RX3 98 yX4_dropEmpty, Cond.instanceMethod yX4_dropEmpty, Cond.selects RX4 yX4_dropEmpty yX4_dropEmpty, Cond.code yX4_dropEmpty cX4_dropEmpty 3 none, Cond.methodLink RX3 71 yX4_add, Cond.instanceMethod yX4_add, Cond.selects RX4 yX4_add yX4_add, Cond.code yX4_add cX4_add 4 (some .int), Cond.constant RX4 35 (-2000000003), Cond.methodLink RX4 31 yX4_isFull, Cond.methodLink RX6 48 yX6_accept, Cond.instanceMethod yX6_accept, Cond.selects RX6 yX6_accept yX6_accept, Cond.initialized RX6, Cond.code yX6_accept cX6_accept 2 (some .int), Cond.fieldLink RX6 22 "CupReceipts" "history" "LCupReceipts$History;", Cond.methodLink RX6 217 yX6_isError]
def wsX6_blend_r4 : List Cond := [Cond.static yX6_isError, Cond.code yX6_isError cX6_isError 1 (some .boolean), Cond.constant RX6 102 (-2000000004), Cond.constant RX6 90 (-2000000001), Cond.methodLink RX6 122 yX6_isWithin, Cond.static yX6_isWithin, Cond.code yX6_isWithin cX6_isWithin 3 (some .boolean), Cond.methodLink RX6 220 yX2_record, Cond.instanceMethod yX2_record, Cond.selects RX2 yX2_record yX2_record, Cond.initialized RX2, Cond.code yX2_record cX2_record 2 none, Cond.fieldLink RX2 18 "CupReceipts$History" "states" "I", Cond.fieldLink RX2 11 "CupReceipts$History" "rooms" "[LCupReceipts$House;", Cond.methodLink RX2 22 yX2_dropOldest, Cond.instanceMethod yX2_dropOldest, Cond.selects RX2 yX2_dropOldest yX2_dropOldest, Cond.code yX2_dropOldest cX2_dropOldest 3 none, Cond.methodLink RX2 25 yX3_copyFrom]
def wsX6_blend : List Cond := .code yX6_blend cX6_blend 5 (some .int) :: ((wsX6_blend_r1 ++ (wsX6_blend_r2 ++ (wsX6_blend_r3 ++ wsX6_blend_r4))) ++ wsX60 ++ wsX30 ++ wsX40 ++ wsX00 ++ wsX20)
def wsX6_cup_r1 : List Cond := [Cond.fieldLink RX6 16 "CupReceipts" "trial" "LCupReceipts$House;", Cond.fieldLink RX6 10 "CupReceipts" "house" "LCupReceipts$House;", Cond.methodLink RX6 40 yX3_copyFrom, Cond.instanceMethod yX3_copyFrom, Cond.selects RX3 yX3_copyFrom yX3_copyFrom, Cond.initialized RX3, Cond.code yX3_copyFrom cX3_copyFrom 3 none, Cond.fieldLink RX3 12 "CupReceipts$House" "lots" "LCupReceipts$Lots;", Cond.fieldLink RX3 21 "CupReceipts$House" "contracts" "LCupReceipts$Contracts;", Cond.fieldLink RX3 34 "CupReceipts$House" "worths" "[I", Cond.fieldLink RX3 40 "CupReceipts$House" "settings" "[I", Cond.fieldLink RX3 50 "CupReceipts$House" "month" "I", Cond.fieldLink RX3 54 "CupReceipts$House" "account" "I", Cond.fieldLink RX3 57 "CupReceipts$House" "contractsMet" "I", Cond.fieldLink RX3 60 "CupReceipts$House" "contractsFailed" "I", Cond.fieldLink RX3 63 "CupReceipts$House" "bagsGiven" "I", Cond.methodLink RX3 43 yX4_copyFrom, Cond.instanceMethod yX4_copyFrom, Cond.selects RX4 yX4_copyFrom yX4_copyFrom, Cond.initialized RX4, Cond.code yX4_copyFrom cX4_copyFrom 3 none, Cond.fieldLink RX4 9 "CupReceipts$Lots" "numbers" "[I", Cond.fieldLink RX4 15 "CupReceipts$Lots" "bags" "[I", Cond.fieldLink RX4 18 "CupReceipts$Lots" "cups" "[I"]
def wsX6_cup_r2 : List Cond := [Cond.fieldLink RX4 21 "CupReceipts$Lots" "months" "[I", Cond.fieldLink RX4 24 "CupReceipts$Lots" "size" "I", Cond.fieldLink RX4 28 "CupReceipts$Lots" "made" "I", Cond.methodLink RX3 47 yX0_copyFrom, Cond.instanceMethod yX0_copyFrom, Cond.selects RX0 yX0_copyFrom yX0_copyFrom, Cond.initialized RX0, Cond.code yX0_copyFrom cX0_copyFrom 3 none, Cond.fieldLink RX0 9 "CupReceipts$Contracts" "months" "[I", Cond.fieldLink RX0 15 "CupReceipts$Contracts" "prices" "[I", Cond.fieldLink RX0 18 "CupReceipts$Contracts" "size" "I", Cond.methodLink RX6 59 yX3_cupAnew, Cond.instanceMethod yX3_cupAnew, Cond.selects RX3 yX3_cupAnew yX3_cupAnew, Cond.code yX3_cupAnew cX3_cupAnew 3 (some .int), Cond.constant RX3 70 (-2000000001), Cond.fieldLink RX3 79 "CupReceipts$Lots" "bags" "[I", Cond.constant RX3 82 (-2000000002), Cond.fieldLink RX3 88 "CupReceipts$Lots" "cups" "[I", Cond.fieldLink RX3 91 "CupReceipts$Lots" "months" "[I", Cond.methodLink RX3 75 yX4_rowOf, Cond.instanceMethod yX4_rowOf, Cond.selects RX4 yX4_rowOf yX4_rowOf, Cond.code yX4_rowOf cX4_rowOf 3 (some .int)]
def wsX6_cup_r3 : List Cond := [Cond.methodLink RX3 94 yX4_cupAt, Cond.instanceMethod yX4_cupAt, Cond.selects RX4 yX4_cupAt yX4_cupAt, Cond.code yX4_cupAt cX4_cupAt 4 (some .int), Cond.methodLink RX6 48 yX6_accept, Cond.instanceMethod yX6_accept, Cond.selects RX6 yX6_accept yX6_accept, Cond.initialized RX6, Cond.code yX6_accept cX6_accept 2 (some .int), Cond.fieldLink RX6 22 "CupReceipts" "history" "LCupReceipts$History;", Cond.methodLink RX6 217 yX6_isError, Cond.static yX6_isError, Cond.code yX6_isError cX6_isError 1 (some .boolean), Cond.constant RX6 102 (-2000000004), Cond.constant RX6 90 (-2000000001), Cond.methodLink RX6 122 yX6_isWithin, Cond.static yX6_isWithin, Cond.code yX6_isWithin cX6_isWithin 3 (some .boolean), Cond.methodLink RX6 220 yX2_record, Cond.instanceMethod yX2_record, Cond.selects RX2 yX2_record yX2_record, Cond.initialized RX2, Cond.code yX2_record cX2_record 2 none, Cond.fieldLink RX2 18 "CupReceipts$History" "states" "I"]
def wsX6_cup_r4 : List Cond := [Cond.fieldLink RX2 11 "CupReceipts$History" "rooms" "[LCupReceipts$House;", Cond.methodLink RX2 22 yX2_dropOldest, Cond.instanceMethod yX2_dropOldest, Cond.selects RX2 yX2_dropOldest yX2_dropOldest, Cond.code yX2_dropOldest cX2_dropOldest 3 none, Cond.methodLink RX2 25 yX3_copyFrom]
def wsX6_cup : List Cond := .code yX6_cup cX6_cup 2 (some .int) :: ((wsX6_cup_r1 ++ (wsX6_cup_r2 ++ (wsX6_cup_r3 ++ wsX6_cup_r4))) ++ wsX60 ++ wsX30 ++ wsX40 ++ wsX00 ++ wsX20)
def wsX6_worth_r1 : List Cond := [Cond.fieldLink RX6 16 "CupReceipts" "trial" "LCupReceipts$House;", Cond.fieldLink RX6 10 "CupReceipts" "house" "LCupReceipts$House;", Cond.methodLink RX6 40 yX3_copyFrom, Cond.instanceMethod yX3_copyFrom, Cond.selects RX3 yX3_copyFrom yX3_copyFrom, Cond.initialized RX3, Cond.code yX3_copyFrom cX3_copyFrom 3 none, Cond.fieldLink RX3 12 "CupReceipts$House" "lots" "LCupReceipts$Lots;", Cond.fieldLink RX3 21 "CupReceipts$House" "contracts" "LCupReceipts$Contracts;", Cond.fieldLink RX3 34 "CupReceipts$House" "worths" "[I", Cond.fieldLink RX3 40 "CupReceipts$House" "settings" "[I", Cond.fieldLink RX3 50 "CupReceipts$House" "month" "I", Cond.fieldLink RX3 54 "CupReceipts$House" "account" "I", Cond.fieldLink RX3 57 "CupReceipts$House" "contractsMet" "I", Cond.fieldLink RX3 60 "CupReceipts$House" "contractsFailed" "I", Cond.fieldLink RX3 63 "CupReceipts$House" "bagsGiven" "I", Cond.methodLink RX3 43 yX4_copyFrom, Cond.instanceMethod yX4_copyFrom, Cond.selects RX4 yX4_copyFrom yX4_copyFrom, Cond.initialized RX4, Cond.code yX4_copyFrom cX4_copyFrom 3 none, Cond.fieldLink RX4 9 "CupReceipts$Lots" "numbers" "[I", Cond.fieldLink RX4 15 "CupReceipts$Lots" "bags" "[I", Cond.fieldLink RX4 18 "CupReceipts$Lots" "cups" "[I"]
def wsX6_worth_r2 : List Cond := [Cond.fieldLink RX4 21 "CupReceipts$Lots" "months" "[I", Cond.fieldLink RX4 24 "CupReceipts$Lots" "size" "I", Cond.fieldLink RX4 28 "CupReceipts$Lots" "made" "I", Cond.methodLink RX3 47 yX0_copyFrom, Cond.instanceMethod yX0_copyFrom, Cond.selects RX0 yX0_copyFrom yX0_copyFrom, Cond.initialized RX0, Cond.code yX0_copyFrom cX0_copyFrom 3 none, Cond.fieldLink RX0 9 "CupReceipts$Contracts" "months" "[I", Cond.fieldLink RX0 15 "CupReceipts$Contracts" "prices" "[I", Cond.fieldLink RX0 18 "CupReceipts$Contracts" "size" "I", Cond.methodLink RX6 62 yX3_changeWorth, Cond.instanceMethod yX3_changeWorth, Cond.selects RX3 yX3_changeWorth yX3_changeWorth, Cond.code yX3_changeWorth cX3_changeWorth 4 (some .int), Cond.constant RX3 70 (-2000000001), Cond.static yX6_isWithin, Cond.initialized RX6, Cond.code yX6_isWithin cX6_isWithin 3 (some .boolean), Cond.methodLink RX6 48 yX6_accept, Cond.instanceMethod yX6_accept, Cond.selects RX6 yX6_accept yX6_accept, Cond.code yX6_accept cX6_accept 2 (some .int), Cond.fieldLink RX6 22 "CupReceipts" "history" "LCupReceipts$History;"]
def wsX6_worth_r3 : List Cond := [Cond.methodLink RX6 217 yX6_isError, Cond.static yX6_isError, Cond.code yX6_isError cX6_isError 1 (some .boolean), Cond.constant RX6 102 (-2000000004), Cond.constant RX6 90 (-2000000001), Cond.methodLink RX6 122 yX6_isWithin, Cond.methodLink RX6 220 yX2_record, Cond.instanceMethod yX2_record, Cond.selects RX2 yX2_record yX2_record, Cond.initialized RX2, Cond.code yX2_record cX2_record 2 none, Cond.fieldLink RX2 18 "CupReceipts$History" "states" "I", Cond.fieldLink RX2 11 "CupReceipts$History" "rooms" "[LCupReceipts$House;", Cond.methodLink RX2 22 yX2_dropOldest, Cond.instanceMethod yX2_dropOldest, Cond.selects RX2 yX2_dropOldest yX2_dropOldest, Cond.code yX2_dropOldest cX2_dropOldest 3 none, Cond.methodLink RX2 25 yX3_copyFrom]
def wsX6_worth : List Cond := .code yX6_worth cX6_worth 3 (some .int) :: ((wsX6_worth_r1 ++ (wsX6_worth_r2 ++ wsX6_worth_r3)) ++ wsX60 ++ wsX30 ++ wsX40 ++ wsX00 ++ wsX20)
def wsX6_sell_r1 : List Cond := [Cond.fieldLink RX6 16 "CupReceipts" "trial" "LCupReceipts$House;", Cond.fieldLink RX6 10 "CupReceipts" "house" "LCupReceipts$House;", Cond.methodLink RX6 40 yX3_copyFrom, Cond.instanceMethod yX3_copyFrom, Cond.selects RX3 yX3_copyFrom yX3_copyFrom, Cond.initialized RX3, Cond.code yX3_copyFrom cX3_copyFrom 3 none, Cond.fieldLink RX3 12 "CupReceipts$House" "lots" "LCupReceipts$Lots;", Cond.fieldLink RX3 21 "CupReceipts$House" "contracts" "LCupReceipts$Contracts;", Cond.fieldLink RX3 34 "CupReceipts$House" "worths" "[I", Cond.fieldLink RX3 40 "CupReceipts$House" "settings" "[I", Cond.fieldLink RX3 50 "CupReceipts$House" "month" "I", Cond.fieldLink RX3 54 "CupReceipts$House" "account" "I", Cond.fieldLink RX3 57 "CupReceipts$House" "contractsMet" "I", Cond.fieldLink RX3 60 "CupReceipts$House" "contractsFailed" "I", Cond.fieldLink RX3 63 "CupReceipts$House" "bagsGiven" "I", Cond.methodLink RX3 43 yX4_copyFrom, Cond.instanceMethod yX4_copyFrom, Cond.selects RX4 yX4_copyFrom yX4_copyFrom, Cond.initialized RX4, Cond.code yX4_copyFrom cX4_copyFrom 3 none, Cond.fieldLink RX4 9 "CupReceipts$Lots" "numbers" "[I", Cond.fieldLink RX4 15 "CupReceipts$Lots" "bags" "[I", Cond.fieldLink RX4 18 "CupReceipts$Lots" "cups" "[I"]
def wsX6_sell_r2 : List Cond := [Cond.fieldLink RX4 21 "CupReceipts$Lots" "months" "[I", Cond.fieldLink RX4 24 "CupReceipts$Lots" "size" "I", Cond.fieldLink RX4 28 "CupReceipts$Lots" "made" "I", Cond.methodLink RX3 47 yX0_copyFrom, Cond.instanceMethod yX0_copyFrom, Cond.selects RX0 yX0_copyFrom yX0_copyFrom, Cond.initialized RX0, Cond.code yX0_copyFrom cX0_copyFrom 3 none, Cond.fieldLink RX0 9 "CupReceipts$Contracts" "months" "[I", Cond.fieldLink RX0 15 "CupReceipts$Contracts" "prices" "[I", Cond.fieldLink RX0 18 "CupReceipts$Contracts" "size" "I", Cond.methodLink RX6 65 yX3_sellContract, Cond.instanceMethod yX3_sellContract, Cond.selects RX3 yX3_sellContract yX3_sellContract, Cond.code yX3_sellContract cX3_sellContract 3 (some .int), Cond.constant RX3 70 (-2000000001), Cond.constant RX3 82 (-2000000002), Cond.static yX6_isWithin, Cond.initialized RX6, Cond.code yX6_isWithin cX6_isWithin 3 (some .boolean), Cond.methodLink RX3 101 yX3_isDeliveryMonth, Cond.instanceMethod yX3_isDeliveryMonth, Cond.selects RX3 yX3_isDeliveryMonth yX3_isDeliveryMonth, Cond.code yX3_isDeliveryMonth cX3_isDeliveryMonth 2 (some .boolean)]
def wsX6_sell_r3 : List Cond := [Cond.methodLink RX3 149 yJ9_floorMod_7cf53, Cond.static yJ9_floorMod_7cf53, Cond.initialized RJ9, Cond.code yJ9_floorMod_7cf53 cJ9_floorMod_7cf53 3 (some .int), Cond.methodLink RX3 105 yX0_add, Cond.instanceMethod yX0_add, Cond.selects RX0 yX0_add yX0_add, Cond.code yX0_add cX0_add 3 (some .int), Cond.constant RX0 22 (-2000000003), Cond.methodLink RX6 48 yX6_accept, Cond.instanceMethod yX6_accept, Cond.selects RX6 yX6_accept yX6_accept, Cond.code yX6_accept cX6_accept 2 (some .int), Cond.fieldLink RX6 22 "CupReceipts" "history" "LCupReceipts$History;", Cond.methodLink RX6 217 yX6_isError, Cond.static yX6_isError, Cond.code yX6_isError cX6_isError 1 (some .boolean), Cond.constant RX6 102 (-2000000004), Cond.constant RX6 90 (-2000000001), Cond.methodLink RX6 122 yX6_isWithin, Cond.methodLink RX6 220 yX2_record, Cond.instanceMethod yX2_record, Cond.selects RX2 yX2_record yX2_record, Cond.initialized RX2]
def wsX6_sell_r4 : List Cond := [Cond.code yX2_record cX2_record 2 none, Cond.fieldLink RX2 18 "CupReceipts$History" "states" "I", Cond.fieldLink RX2 11 "CupReceipts$History" "rooms" "[LCupReceipts$House;", Cond.methodLink RX2 22 yX2_dropOldest, Cond.instanceMethod yX2_dropOldest, Cond.selects RX2 yX2_dropOldest yX2_dropOldest, Cond.code yX2_dropOldest cX2_dropOldest 3 none, Cond.methodLink RX2 25 yX3_copyFrom]
def wsX6_sell : List Cond := .code yX6_sell cX6_sell 3 (some .int) :: ((wsX6_sell_r1 ++ (wsX6_sell_r2 ++ (wsX6_sell_r3 ++ wsX6_sell_r4))) ++ wsX60 ++ wsX30 ++ wsX40 ++ wsX00 ++ wsX20)
def wsX6_buyBack_r1 : List Cond := [Cond.fieldLink RX6 16 "CupReceipts" "trial" "LCupReceipts$House;", Cond.fieldLink RX6 10 "CupReceipts" "house" "LCupReceipts$House;", Cond.methodLink RX6 40 yX3_copyFrom, Cond.instanceMethod yX3_copyFrom, Cond.selects RX3 yX3_copyFrom yX3_copyFrom, Cond.initialized RX3, Cond.code yX3_copyFrom cX3_copyFrom 3 none, Cond.fieldLink RX3 12 "CupReceipts$House" "lots" "LCupReceipts$Lots;", Cond.fieldLink RX3 21 "CupReceipts$House" "contracts" "LCupReceipts$Contracts;", Cond.fieldLink RX3 34 "CupReceipts$House" "worths" "[I", Cond.fieldLink RX3 40 "CupReceipts$House" "settings" "[I", Cond.fieldLink RX3 50 "CupReceipts$House" "month" "I", Cond.fieldLink RX3 54 "CupReceipts$House" "account" "I", Cond.fieldLink RX3 57 "CupReceipts$House" "contractsMet" "I", Cond.fieldLink RX3 60 "CupReceipts$House" "contractsFailed" "I", Cond.fieldLink RX3 63 "CupReceipts$House" "bagsGiven" "I", Cond.methodLink RX3 43 yX4_copyFrom, Cond.instanceMethod yX4_copyFrom, Cond.selects RX4 yX4_copyFrom yX4_copyFrom, Cond.initialized RX4, Cond.code yX4_copyFrom cX4_copyFrom 3 none, Cond.fieldLink RX4 9 "CupReceipts$Lots" "numbers" "[I", Cond.fieldLink RX4 15 "CupReceipts$Lots" "bags" "[I", Cond.fieldLink RX4 18 "CupReceipts$Lots" "cups" "[I"]
def wsX6_buyBack_r2 : List Cond := [Cond.fieldLink RX4 21 "CupReceipts$Lots" "months" "[I", Cond.fieldLink RX4 24 "CupReceipts$Lots" "size" "I", Cond.fieldLink RX4 28 "CupReceipts$Lots" "made" "I", Cond.methodLink RX3 47 yX0_copyFrom, Cond.instanceMethod yX0_copyFrom, Cond.selects RX0 yX0_copyFrom yX0_copyFrom, Cond.initialized RX0, Cond.code yX0_copyFrom cX0_copyFrom 3 none, Cond.fieldLink RX0 9 "CupReceipts$Contracts" "months" "[I", Cond.fieldLink RX0 15 "CupReceipts$Contracts" "prices" "[I", Cond.fieldLink RX0 18 "CupReceipts$Contracts" "size" "I", Cond.methodLink RX6 68 yX3_buyContractBack, Cond.instanceMethod yX3_buyContractBack, Cond.selects RX3 yX3_buyContractBack yX3_buyContractBack, Cond.code yX3_buyContractBack cX3_buyContractBack 4 (some .int), Cond.constant RX3 70 (-2000000001), Cond.fieldLink RX3 110 "CupReceipts$Contracts" "prices" "[I", Cond.methodLink RX3 107 yX0_isOpen, Cond.instanceMethod yX0_isOpen, Cond.selects RX0 yX0_isOpen yX0_isOpen, Cond.code yX0_isOpen cX0_isOpen 2 (some .boolean), Cond.static yX6_isWithin, Cond.initialized RX6, Cond.code yX6_isWithin cX6_isWithin 3 (some .boolean)]
def wsX6_buyBack_r3 : List Cond := [Cond.methodLink RX3 113 yX0_drop, Cond.instanceMethod yX0_drop, Cond.selects RX0 yX0_drop yX0_drop, Cond.code yX0_drop cX0_drop 3 none, Cond.methodLink RX0 23 yX0_isOpen, Cond.methodLink RX6 48 yX6_accept, Cond.instanceMethod yX6_accept, Cond.selects RX6 yX6_accept yX6_accept, Cond.code yX6_accept cX6_accept 2 (some .int), Cond.fieldLink RX6 22 "CupReceipts" "history" "LCupReceipts$History;", Cond.methodLink RX6 217 yX6_isError, Cond.static yX6_isError, Cond.code yX6_isError cX6_isError 1 (some .boolean), Cond.constant RX6 102 (-2000000004), Cond.constant RX6 90 (-2000000001), Cond.methodLink RX6 122 yX6_isWithin, Cond.methodLink RX6 220 yX2_record, Cond.instanceMethod yX2_record, Cond.selects RX2 yX2_record yX2_record, Cond.initialized RX2, Cond.code yX2_record cX2_record 2 none, Cond.fieldLink RX2 18 "CupReceipts$History" "states" "I", Cond.fieldLink RX2 11 "CupReceipts$History" "rooms" "[LCupReceipts$House;", Cond.methodLink RX2 22 yX2_dropOldest]
def wsX6_buyBack_r4 : List Cond := [Cond.instanceMethod yX2_dropOldest, Cond.selects RX2 yX2_dropOldest yX2_dropOldest, Cond.code yX2_dropOldest cX2_dropOldest 3 none, Cond.methodLink RX2 25 yX3_copyFrom]
def wsX6_buyBack : List Cond := .code yX6_buyBack cX6_buyBack 3 (some .int) :: ((wsX6_buyBack_r1 ++ (wsX6_buyBack_r2 ++ (wsX6_buyBack_r3 ++ wsX6_buyBack_r4))) ++ wsX60 ++ wsX30 ++ wsX40 ++ wsX00 ++ wsX20)
def wsX6_meet_r1 : List Cond := [Cond.fieldLink RX6 16 "CupReceipts" "trial" "LCupReceipts$House;", Cond.fieldLink RX6 10 "CupReceipts" "house" "LCupReceipts$House;", Cond.fieldLink RX6 29 "CupReceipts" "delivery" "LCupReceipts$Delivery;", Cond.methodLink RX6 40 yX3_copyFrom, Cond.instanceMethod yX3_copyFrom, Cond.selects RX3 yX3_copyFrom yX3_copyFrom, Cond.initialized RX3, Cond.code yX3_copyFrom cX3_copyFrom 3 none, Cond.fieldLink RX3 12 "CupReceipts$House" "lots" "LCupReceipts$Lots;", Cond.fieldLink RX3 21 "CupReceipts$House" "contracts" "LCupReceipts$Contracts;", Cond.fieldLink RX3 34 "CupReceipts$House" "worths" "[I", Cond.fieldLink RX3 40 "CupReceipts$House" "settings" "[I", Cond.fieldLink RX3 50 "CupReceipts$House" "month" "I", Cond.fieldLink RX3 54 "CupReceipts$House" "account" "I", Cond.fieldLink RX3 57 "CupReceipts$House" "contractsMet" "I", Cond.fieldLink RX3 60 "CupReceipts$House" "contractsFailed" "I", Cond.fieldLink RX3 63 "CupReceipts$House" "bagsGiven" "I", Cond.methodLink RX3 43 yX4_copyFrom, Cond.instanceMethod yX4_copyFrom, Cond.selects RX4 yX4_copyFrom yX4_copyFrom, Cond.initialized RX4, Cond.code yX4_copyFrom cX4_copyFrom 3 none, Cond.fieldLink RX4 9 "CupReceipts$Lots" "numbers" "[I", Cond.fieldLink RX4 15 "CupReceipts$Lots" "bags" "[I"]
def wsX6_meet_r2 : List Cond := [Cond.fieldLink RX4 18 "CupReceipts$Lots" "cups" "[I", Cond.fieldLink RX4 21 "CupReceipts$Lots" "months" "[I", Cond.fieldLink RX4 24 "CupReceipts$Lots" "size" "I", Cond.fieldLink RX4 28 "CupReceipts$Lots" "made" "I", Cond.methodLink RX3 47 yX0_copyFrom, Cond.instanceMethod yX0_copyFrom, Cond.selects RX0 yX0_copyFrom yX0_copyFrom, Cond.initialized RX0, Cond.code yX0_copyFrom cX0_copyFrom 3 none, Cond.fieldLink RX0 9 "CupReceipts$Contracts" "months" "[I", Cond.fieldLink RX0 15 "CupReceipts$Contracts" "prices" "[I", Cond.fieldLink RX0 18 "CupReceipts$Contracts" "size" "I", Cond.methodLink RX6 71 yX3_meetContract, Cond.instanceMethod yX3_meetContract, Cond.selects RX3 yX3_meetContract yX3_meetContract, Cond.code yX3_meetContract cX3_meetContract 4 (some .int), Cond.constant RX3 70 (-2000000001), Cond.fieldLink RX3 117 "CupReceipts$Contracts" "months" "[I", Cond.constant RX3 82 (-2000000002), Cond.fieldLink RX3 110 "CupReceipts$Contracts" "prices" "[I", Cond.fieldLink RX3 124 "CupReceipts$Delivery" "missing" "I", Cond.fieldLink RX3 127 "CupReceipts$Delivery" "places" "I", Cond.fieldLink RX3 79 "CupReceipts$Lots" "bags" "[I", Cond.fieldLink RX3 130 "CupReceipts$Delivery" "rows" "[I"]
def wsX6_meet_r3 : List Cond := [Cond.fieldLink RX3 133 "CupReceipts$Delivery" "bags" "[I", Cond.fieldLink RX3 134 "CupReceipts$Delivery" "pay" "I", Cond.methodLink RX3 107 yX0_isOpen, Cond.instanceMethod yX0_isOpen, Cond.selects RX0 yX0_isOpen yX0_isOpen, Cond.code yX0_isOpen cX0_isOpen 2 (some .boolean), Cond.methodLink RX3 118 yX1_plan, Cond.instanceMethod yX1_plan, Cond.selects RX1 yX1_plan yX1_plan, Cond.initialized RX1, Cond.code yX1_plan cX1_plan 6 none, Cond.fieldLink RX1 35 "CupReceipts$Delivery" "places" "I", Cond.fieldLink RX1 39 "CupReceipts$House" "settings" "[I", Cond.fieldLink RX1 44 "CupReceipts$Delivery" "missing" "I", Cond.fieldLink RX1 47 "CupReceipts$Delivery" "pay" "I", Cond.fieldLink RX1 50 "CupReceipts$Delivery" "gain" "I", Cond.fieldLink RX1 53 "CupReceipts$Delivery" "sumOfCups" "I", Cond.fieldLink RX1 56 "CupReceipts$Delivery" "usedUp" "I", Cond.fieldLink RX1 59 "CupReceipts$House" "lots" "LCupReceipts$Lots;", Cond.fieldLink RX1 63 "CupReceipts$Lots" "size" "I", Cond.fieldLink RX1 72 "CupReceipts$Lots" "bags" "[I", Cond.methodLink RX1 31 yX1_rate, Cond.instanceMethod yX1_rate, Cond.selects RX1 yX1_rate yX1_rate]
def wsX6_meet_r4 : List Cond := [Cond.code yX1_rate cX1_rate 6 none, Cond.fieldLink RX1 18 "CupReceipts$Delivery" "waiting" "[Z", Cond.fieldLink RX1 22 "CupReceipts$Delivery" "cups" "[I", Cond.fieldLink RX1 25 "CupReceipts$Delivery" "pays" "[I", Cond.fieldLink RX1 28 "CupReceipts$Delivery" "gains" "[I", Cond.fieldLink RX1 88 "CupReceipts$House" "worths" "[I", Cond.methodLink RX1 77 yX4_cupAt, Cond.instanceMethod yX4_cupAt, Cond.selects RX4 yX4_cupAt yX4_cupAt, Cond.code yX4_cupAt cX4_cupAt 4 (some .int), Cond.methodLink RX1 81 yX4_monthsTooOld, Cond.instanceMethod yX4_monthsTooOld, Cond.selects RX4 yX4_monthsTooOld yX4_monthsTooOld, Cond.code yX4_monthsTooOld cX4_monthsTooOld 4 (some .int), Cond.methodLink RX1 84 yX3_payForBag, Cond.instanceMethod yX3_payForBag, Cond.selects RX3 yX3_payForBag yX3_payForBag, Cond.code yX3_payForBag cX3_payForBag 5 (some .int), Cond.static yX6_bandOf, Cond.initialized RX6, Cond.code yX6_bandOf cX6_bandOf 1 (some .int), Cond.methodLink RX1 68 yX1_rowOfGreatestGain, Cond.instanceMethod yX1_rowOfGreatestGain, Cond.selects RX1 yX1_rowOfGreatestGain yX1_rowOfGreatestGain]
def wsX6_meet_r5 : List Cond := [Cond.code yX1_rowOfGreatestGain cX1_rowOfGreatestGain 4 (some .int), Cond.methodLink RX1 73 yX1_take, Cond.instanceMethod yX1_take, Cond.selects RX1 yX1_take yX1_take, Cond.code yX1_take cX1_take 4 none, Cond.methodLink RX1 94 Lib.Math.min.name, Cond.static Lib.Math.min.name, Cond.initialized "java/lang/Math", Cond.code Lib.Math.min.name Lib.Math.min.code 2 (some .int), Cond.fieldLink RX1 9 "CupReceipts$Delivery" "rows" "[I", Cond.fieldLink RX1 15 "CupReceipts$Delivery" "bags" "[I", Cond.methodLink RX3 98 yX4_dropEmpty, Cond.instanceMethod yX4_dropEmpty, Cond.selects RX4 yX4_dropEmpty yX4_dropEmpty, Cond.code yX4_dropEmpty cX4_dropEmpty 3 none, Cond.methodLink RX3 113 yX0_drop, Cond.instanceMethod yX0_drop, Cond.selects RX0 yX0_drop yX0_drop, Cond.code yX0_drop cX0_drop 3 none, Cond.methodLink RX0 23 yX0_isOpen, Cond.methodLink RX6 48 yX6_accept, Cond.instanceMethod yX6_accept, Cond.selects RX6 yX6_accept yX6_accept, Cond.code yX6_accept cX6_accept 2 (some .int)]
def wsX6_meet_r6 : List Cond := [Cond.fieldLink RX6 22 "CupReceipts" "history" "LCupReceipts$History;", Cond.methodLink RX6 217 yX6_isError, Cond.static yX6_isError, Cond.code yX6_isError cX6_isError 1 (some .boolean), Cond.constant RX6 102 (-2000000004), Cond.constant RX6 90 (-2000000001), Cond.methodLink RX6 122 yX6_isWithin, Cond.static yX6_isWithin, Cond.code yX6_isWithin cX6_isWithin 3 (some .boolean), Cond.methodLink RX6 220 yX2_record, Cond.instanceMethod yX2_record, Cond.selects RX2 yX2_record yX2_record, Cond.initialized RX2, Cond.code yX2_record cX2_record 2 none, Cond.fieldLink RX2 18 "CupReceipts$History" "states" "I", Cond.fieldLink RX2 11 "CupReceipts$History" "rooms" "[LCupReceipts$House;", Cond.methodLink RX2 22 yX2_dropOldest, Cond.instanceMethod yX2_dropOldest, Cond.selects RX2 yX2_dropOldest yX2_dropOldest, Cond.code yX2_dropOldest cX2_dropOldest 3 none, Cond.methodLink RX2 25 yX3_copyFrom]
def wsX6_meet : List Cond := .code yX6_meet cX6_meet 2 (some .int) :: ((wsX6_meet_r1 ++ (wsX6_meet_r2 ++ (wsX6_meet_r3 ++ (wsX6_meet_r4 ++ (wsX6_meet_r5 ++ wsX6_meet_r6))))) ++ wsX60 ++ wsX30 ++ wsX40 ++ wsX00 ++ wsX10 ++ wsX20)
def wsX6_pass_r1 : List Cond := [Cond.fieldLink RX6 16 "CupReceipts" "trial" "LCupReceipts$House;", Cond.fieldLink RX6 10 "CupReceipts" "house" "LCupReceipts$House;", Cond.methodLink RX6 40 yX3_copyFrom, Cond.instanceMethod yX3_copyFrom, Cond.selects RX3 yX3_copyFrom yX3_copyFrom, Cond.initialized RX3, Cond.code yX3_copyFrom cX3_copyFrom 3 none, Cond.fieldLink RX3 12 "CupReceipts$House" "lots" "LCupReceipts$Lots;", Cond.fieldLink RX3 21 "CupReceipts$House" "contracts" "LCupReceipts$Contracts;", Cond.fieldLink RX3 34 "CupReceipts$House" "worths" "[I", Cond.fieldLink RX3 40 "CupReceipts$House" "settings" "[I", Cond.fieldLink RX3 50 "CupReceipts$House" "month" "I", Cond.fieldLink RX3 54 "CupReceipts$House" "account" "I", Cond.fieldLink RX3 57 "CupReceipts$House" "contractsMet" "I", Cond.fieldLink RX3 60 "CupReceipts$House" "contractsFailed" "I", Cond.fieldLink RX3 63 "CupReceipts$House" "bagsGiven" "I", Cond.methodLink RX3 43 yX4_copyFrom, Cond.instanceMethod yX4_copyFrom, Cond.selects RX4 yX4_copyFrom yX4_copyFrom, Cond.initialized RX4, Cond.code yX4_copyFrom cX4_copyFrom 3 none, Cond.fieldLink RX4 9 "CupReceipts$Lots" "numbers" "[I", Cond.fieldLink RX4 15 "CupReceipts$Lots" "bags" "[I", Cond.fieldLink RX4 18 "CupReceipts$Lots" "cups" "[I"]
def wsX6_pass_r2 : List Cond := [Cond.fieldLink RX4 21 "CupReceipts$Lots" "months" "[I", Cond.fieldLink RX4 24 "CupReceipts$Lots" "size" "I", Cond.fieldLink RX4 28 "CupReceipts$Lots" "made" "I", Cond.methodLink RX3 47 yX0_copyFrom, Cond.instanceMethod yX0_copyFrom, Cond.selects RX0 yX0_copyFrom yX0_copyFrom, Cond.initialized RX0, Cond.code yX0_copyFrom cX0_copyFrom 3 none, Cond.fieldLink RX0 9 "CupReceipts$Contracts" "months" "[I", Cond.fieldLink RX0 15 "CupReceipts$Contracts" "prices" "[I", Cond.fieldLink RX0 18 "CupReceipts$Contracts" "size" "I", Cond.methodLink RX6 75 yX3_passMonths, Cond.instanceMethod yX3_passMonths, Cond.selects RX3 yX3_passMonths yX3_passMonths, Cond.code yX3_passMonths cX3_passMonths 3 (some .int), Cond.constant RX3 70 (-2000000001), Cond.constant RX3 87 (-2000000003), Cond.static yX6_isWithin, Cond.initialized RX6, Cond.code yX6_isWithin cX6_isWithin 3 (some .boolean), Cond.methodLink RX3 137 yX0_dropBefore, Cond.instanceMethod yX0_dropBefore, Cond.selects RX0 yX0_dropBefore yX0_dropBefore, Cond.code yX0_dropBefore cX0_dropBefore 4 (some .int)]
def wsX6_pass_r3 : List Cond := [Cond.methodLink RX6 48 yX6_accept, Cond.instanceMethod yX6_accept, Cond.selects RX6 yX6_accept yX6_accept, Cond.code yX6_accept cX6_accept 2 (some .int), Cond.fieldLink RX6 22 "CupReceipts" "history" "LCupReceipts$History;", Cond.methodLink RX6 217 yX6_isError, Cond.static yX6_isError, Cond.code yX6_isError cX6_isError 1 (some .boolean), Cond.constant RX6 102 (-2000000004), Cond.constant RX6 90 (-2000000001), Cond.methodLink RX6 122 yX6_isWithin, Cond.methodLink RX6 220 yX2_record, Cond.instanceMethod yX2_record, Cond.selects RX2 yX2_record yX2_record, Cond.initialized RX2, Cond.code yX2_record cX2_record 2 none, Cond.fieldLink RX2 18 "CupReceipts$History" "states" "I", Cond.fieldLink RX2 11 "CupReceipts$History" "rooms" "[LCupReceipts$House;", Cond.methodLink RX2 22 yX2_dropOldest, Cond.instanceMethod yX2_dropOldest, Cond.selects RX2 yX2_dropOldest yX2_dropOldest, Cond.code yX2_dropOldest cX2_dropOldest 3 none, Cond.methodLink RX2 25 yX3_copyFrom]
def wsX6_pass : List Cond := .code yX6_pass cX6_pass 2 (some .int) :: ((wsX6_pass_r1 ++ (wsX6_pass_r2 ++ wsX6_pass_r3)) ++ wsX60 ++ wsX30 ++ wsX40 ++ wsX00 ++ wsX20)
def wsX6_set_r1 : List Cond := [Cond.fieldLink RX6 16 "CupReceipts" "trial" "LCupReceipts$House;", Cond.fieldLink RX6 10 "CupReceipts" "house" "LCupReceipts$House;", Cond.methodLink RX6 40 yX3_copyFrom, Cond.instanceMethod yX3_copyFrom, Cond.selects RX3 yX3_copyFrom yX3_copyFrom, Cond.initialized RX3, Cond.code yX3_copyFrom cX3_copyFrom 3 none, Cond.fieldLink RX3 12 "CupReceipts$House" "lots" "LCupReceipts$Lots;", Cond.fieldLink RX3 21 "CupReceipts$House" "contracts" "LCupReceipts$Contracts;", Cond.fieldLink RX3 34 "CupReceipts$House" "worths" "[I", Cond.fieldLink RX3 40 "CupReceipts$House" "settings" "[I", Cond.fieldLink RX3 50 "CupReceipts$House" "month" "I", Cond.fieldLink RX3 54 "CupReceipts$House" "account" "I", Cond.fieldLink RX3 57 "CupReceipts$House" "contractsMet" "I", Cond.fieldLink RX3 60 "CupReceipts$House" "contractsFailed" "I", Cond.fieldLink RX3 63 "CupReceipts$House" "bagsGiven" "I", Cond.methodLink RX3 43 yX4_copyFrom, Cond.instanceMethod yX4_copyFrom, Cond.selects RX4 yX4_copyFrom yX4_copyFrom, Cond.initialized RX4, Cond.code yX4_copyFrom cX4_copyFrom 3 none, Cond.fieldLink RX4 9 "CupReceipts$Lots" "numbers" "[I", Cond.fieldLink RX4 15 "CupReceipts$Lots" "bags" "[I", Cond.fieldLink RX4 18 "CupReceipts$Lots" "cups" "[I"]
def wsX6_set_r2 : List Cond := [Cond.fieldLink RX4 21 "CupReceipts$Lots" "months" "[I", Cond.fieldLink RX4 24 "CupReceipts$Lots" "size" "I", Cond.fieldLink RX4 28 "CupReceipts$Lots" "made" "I", Cond.methodLink RX3 47 yX0_copyFrom, Cond.instanceMethod yX0_copyFrom, Cond.selects RX0 yX0_copyFrom yX0_copyFrom, Cond.initialized RX0, Cond.code yX0_copyFrom cX0_copyFrom 3 none, Cond.fieldLink RX0 9 "CupReceipts$Contracts" "months" "[I", Cond.fieldLink RX0 15 "CupReceipts$Contracts" "prices" "[I", Cond.fieldLink RX0 18 "CupReceipts$Contracts" "size" "I", Cond.methodLink RX6 78 yX3_changeSetting, Cond.instanceMethod yX3_changeSetting, Cond.selects RX3 yX3_changeSetting yX3_changeSetting, Cond.code yX3_changeSetting cX3_changeSetting 4 (some .int), Cond.constant RX3 70 (-2000000001), Cond.fieldLink RX3 146 "CupReceipts$Contracts" "size" "I", Cond.constant RX3 82 (-2000000002), Cond.static yX6_isWithin, Cond.initialized RX6, Cond.code yX6_isWithin cX6_isWithin 3 (some .boolean), Cond.methodLink RX6 48 yX6_accept, Cond.instanceMethod yX6_accept, Cond.selects RX6 yX6_accept yX6_accept]
def wsX6_set_r3 : List Cond := [Cond.code yX6_accept cX6_accept 2 (some .int), Cond.fieldLink RX6 22 "CupReceipts" "history" "LCupReceipts$History;", Cond.methodLink RX6 217 yX6_isError, Cond.static yX6_isError, Cond.code yX6_isError cX6_isError 1 (some .boolean), Cond.constant RX6 102 (-2000000004), Cond.constant RX6 90 (-2000000001), Cond.methodLink RX6 122 yX6_isWithin, Cond.methodLink RX6 220 yX2_record, Cond.instanceMethod yX2_record, Cond.selects RX2 yX2_record yX2_record, Cond.initialized RX2, Cond.code yX2_record cX2_record 2 none, Cond.fieldLink RX2 18 "CupReceipts$History" "states" "I", Cond.fieldLink RX2 11 "CupReceipts$History" "rooms" "[LCupReceipts$House;", Cond.methodLink RX2 22 yX2_dropOldest, Cond.instanceMethod yX2_dropOldest, Cond.selects RX2 yX2_dropOldest yX2_dropOldest, Cond.code yX2_dropOldest cX2_dropOldest 3 none, Cond.methodLink RX2 25 yX3_copyFrom]
def wsX6_set : List Cond := .code yX6_set cX6_set 3 (some .int) :: ((wsX6_set_r1 ++ (wsX6_set_r2 ++ wsX6_set_r3)) ++ wsX60 ++ wsX30 ++ wsX40 ++ wsX00 ++ wsX20)
def wsX6_lotOf_r1 : List Cond := [Cond.fieldLink RX6 10 "CupReceipts" "house" "LCupReceipts$House;", Cond.fieldLink RX6 81 "CupReceipts$House" "lots" "LCupReceipts$Lots;", Cond.constant RX6 90 (-2000000001), Cond.methodLink RX6 85 yX4_rowOf, Cond.instanceMethod yX4_rowOf, Cond.selects RX4 yX4_rowOf yX4_rowOf, Cond.initialized RX4, Cond.code yX4_rowOf cX4_rowOf 3 (some .int), Cond.fieldLink RX4 24 "CupReceipts$Lots" "size" "I", Cond.fieldLink RX4 9 "CupReceipts$Lots" "numbers" "[I", Cond.methodLink RX6 91 yX3_tellOfLot, Cond.instanceMethod yX3_tellOfLot, Cond.selects RX3 yX3_tellOfLot yX3_tellOfLot, Cond.initialized RX3, Cond.code yX3_tellOfLot cX3_tellOfLot 3 (some .int), Cond.fieldLink RX3 12 "CupReceipts$House" "lots" "LCupReceipts$Lots;", Cond.fieldLink RX3 79 "CupReceipts$Lots" "bags" "[I", Cond.fieldLink RX3 88 "CupReceipts$Lots" "cups" "[I", Cond.fieldLink RX3 91 "CupReceipts$Lots" "months" "[I", Cond.fieldLink RX3 50 "CupReceipts$House" "month" "I", Cond.fieldLink RX3 34 "CupReceipts$House" "worths" "[I", Cond.constant RX3 70 (-2000000001), Cond.methodLink RX3 94 yX4_cupAt, Cond.instanceMethod yX4_cupAt]
def wsX6_lotOf_r2 : List Cond := [Cond.selects RX4 yX4_cupAt yX4_cupAt, Cond.code yX4_cupAt cX4_cupAt 4 (some .int), Cond.fieldLink RX4 18 "CupReceipts$Lots" "cups" "[I", Cond.fieldLink RX4 21 "CupReceipts$Lots" "months" "[I", Cond.static yX6_bandOf, Cond.initialized RX6, Cond.code yX6_bandOf cX6_bandOf 1 (some .int), Cond.methodLink RX3 157 yX4_monthsTooOld, Cond.instanceMethod yX4_monthsTooOld, Cond.selects RX4 yX4_monthsTooOld yX4_monthsTooOld, Cond.code yX4_monthsTooOld cX4_monthsTooOld 4 (some .int)]
def wsX6_lotOf : List Cond := .code yX6_lotOf cX6_lotOf 4 (some .int) :: ((wsX6_lotOf_r1 ++ wsX6_lotOf_r2) ++ wsX60 ++ wsX30 ++ wsX40)
def wsX6_numberOf : List Cond := .code yX6_numberOf cX6_numberOf 2 (some .int) :: ([.constant RX6 90 (-2000000001), .fieldLink RX6 10 "CupReceipts" "house" "LCupReceipts$House;", .fieldLink RX6 81 "CupReceipts$House" "lots" "LCupReceipts$Lots;", .fieldLink RX6 94 "CupReceipts$Lots" "size" "I", .fieldLink RX6 98 "CupReceipts$Lots" "numbers" "[I", .constant RX6 102 (-2000000004)] ++ wsX60 ++ wsX30 ++ wsX40)
def wsX6_contractOf : List Cond := .code yX6_contractOf cX6_contractOf 3 (some .int) :: ([.fieldLink RX6 10 "CupReceipts" "house" "LCupReceipts$House;", .fieldLink RX6 103 "CupReceipts$House" "contracts" "LCupReceipts$Contracts;", .constant RX6 90 (-2000000001), .fieldLink RX6 113 "CupReceipts$Contracts" "months" "[I", .fieldLink RX6 116 "CupReceipts$Contracts" "prices" "[I", .fieldLink RX6 119 "CupReceipts$House" "month" "I", .methodLink RX6 107 yX0_isOpen, .instanceMethod yX0_isOpen, .selects RX0 yX0_isOpen yX0_isOpen, .initialized RX0, .code yX0_isOpen cX0_isOpen 2 (some .boolean), .fieldLink RX0 18 "CupReceipts$Contracts" "size" "I"] ++ wsX60 ++ wsX30 ++ wsX00)
def wsX6_count_r1 : List Cond := [Cond.fieldLink RX6 10 "CupReceipts" "house" "LCupReceipts$House;", Cond.fieldLink RX6 172 "CupReceipts$House" "settings" "[I", Cond.fieldLink RX6 22 "CupReceipts" "history" "LCupReceipts$History;", Cond.fieldLink RX6 185 "CupReceipts$History" "states" "I", Cond.fieldLink RX6 36 "CupReceipts" "orders" "LCupReceipts$Orders;", Cond.fieldLink RX6 188 "CupReceipts$Orders" "length" "I", Cond.methodLink RX6 122 yX6_isWithin, Cond.static yX6_isWithin, Cond.initialized RX6, Cond.code yX6_isWithin cX6_isWithin 3 (some .boolean), Cond.methodLink RX6 191 yX3_tellCount, Cond.instanceMethod yX3_tellCount, Cond.selects RX3 yX3_tellCount yX3_tellCount, Cond.initialized RX3, Cond.code yX3_tellCount cX3_tellCount 2 (some .int), Cond.fieldLink RX3 12 "CupReceipts$House" "lots" "LCupReceipts$Lots;", Cond.fieldLink RX3 160 "CupReceipts$Lots" "size" "I", Cond.fieldLink RX3 50 "CupReceipts$House" "month" "I", Cond.fieldLink RX3 21 "CupReceipts$House" "contracts" "LCupReceipts$Contracts;", Cond.fieldLink RX3 146 "CupReceipts$Contracts" "size" "I", Cond.fieldLink RX3 54 "CupReceipts$House" "account" "I", Cond.fieldLink RX3 57 "CupReceipts$House" "contractsMet" "I", Cond.fieldLink RX3 60 "CupReceipts$House" "contractsFailed" "I", Cond.fieldLink RX3 63 "CupReceipts$House" "bagsGiven" "I"]
def wsX6_count_r2 : List Cond := [Cond.fieldLink RX3 168 "CupReceipts$Lots" "made" "I", Cond.constant RX3 70 (-2000000001), Cond.methodLink RX3 161 yX4_allBags, Cond.instanceMethod yX4_allBags, Cond.selects RX4 yX4_allBags yX4_allBags, Cond.initialized RX4, Cond.code yX4_allBags cX4_allBags 3 (some .int), Cond.fieldLink RX4 24 "CupReceipts$Lots" "size" "I", Cond.fieldLink RX4 15 "CupReceipts$Lots" "bags" "[I", Cond.methodLink RX3 165 yX4_bagsToGive, Cond.instanceMethod yX4_bagsToGive, Cond.selects RX4 yX4_bagsToGive yX4_bagsToGive, Cond.code yX4_bagsToGive cX4_bagsToGive 4 (some .int), Cond.methodLink RX4 36 yX4_cupAt, Cond.instanceMethod yX4_cupAt, Cond.selects RX4 yX4_cupAt yX4_cupAt, Cond.code yX4_cupAt cX4_cupAt 4 (some .int), Cond.fieldLink RX4 18 "CupReceipts$Lots" "cups" "[I", Cond.fieldLink RX4 21 "CupReceipts$Lots" "months" "[I"]
def wsX6_count : List Cond := .code yX6_count cX6_count 2 (some .int) :: ((wsX6_count_r1 ++ wsX6_count_r2) ++ wsX60 ++ wsX30 ++ wsX20 ++ wsX50 ++ wsX40 ++ wsX00)
def wsJ9_min_7cf53 : List Cond := .code yJ9_min_7cf53 cJ9_min_7cf53 2 (some .int) :: ([])
def wsL_cell : List Cond := .code yL_cell cL_cell 2 (some .int) :: ([.constant RL 7 (40503)])
def wsL_low : List Cond := .code yL_low cL_low 2 (some .int) :: ([.constant RL 8 (2147483647)])
def wsL_find : List Cond := .code yL_find cL_find 4 (some .int) :: ([])
def wsL_cup : List Cond := .code yL_cup cL_cup 4 (some .int) :: ([])
def wsL_band : List Cond := .code yL_band cL_band 1 (some .int) :: ([])
def wsL_paid : List Cond := .code yL_paid cL_paid 7 (some .int) :: ([.methodLink RL 9 yL_cup, .static yL_cup, .initialized RL, .code yL_cup cL_cup 4 (some .int)])
def wsL_gain : List Cond := .code yL_gain cL_gain 5 (some .int) :: ([.methodLink RL 15 yL_paid, .static yL_paid, .initialized RL, .code yL_paid cL_paid 7 (some .int), .methodLink RL 9 yL_cup, .static yL_cup, .code yL_cup cL_cup 4 (some .int), .methodLink RL 19 yL_band, .static yL_band, .code yL_band cL_band 1 (some .int)])
def wsL_makes : List Cond := .code yL_makes cL_makes 6 (some .int) :: ([])
def wsL_takes : List Cond := .code yL_takes cL_takes 6 none :: ([.methodLink RL 23 yL_find, .static yL_find, .initialized RL, .code yL_find cL_find 4 (some .int)])
def wsL_gives : List Cond := .code yL_gives cL_gives 13 (some .int) :: ([.constant RL 27 (2000000), .methodLink RL 28 yL_gain, .static yL_gain, .initialized RL, .code yL_gain cL_gain 5 (some .int), .methodLink RL 15 yL_paid, .static yL_paid, .code yL_paid cL_paid 7 (some .int), .methodLink RL 9 yL_cup, .static yL_cup, .code yL_cup cL_cup 4 (some .int), .methodLink RL 19 yL_band, .static yL_band, .code yL_band cL_band 1 (some .int)])
def wsL_paidAll : List Cond := .code yL_paidAll cL_paidAll 10 (some .int) :: ([.methodLink RL 23 yL_find, .static yL_find, .initialized RL, .code yL_find cL_find 4 (some .int), .methodLink RL 28 yL_gain, .static yL_gain, .code yL_gain cL_gain 5 (some .int), .methodLink RL 15 yL_paid, .static yL_paid, .code yL_paid cL_paid 7 (some .int), .methodLink RL 9 yL_cup, .static yL_cup, .code yL_cup cL_cup 4 (some .int), .methodLink RL 19 yL_band, .static yL_band, .code yL_band cL_band 1 (some .int)])
def wsL_close : List Cond := .code yL_close cL_close 4 none :: ([])
def wsL_lots_r1 : List Cond := [Cond.constant RL 37 (-2000000003), Cond.constant RL 44 (-2000000001), Cond.constant RL 51 (-2000000002), Cond.methodLink RL 31 yX6_lot, Cond.instanceMethod yX6_lot, Cond.selects RX6 yX6_lot yX6_lot, Cond.initialized RX6, Cond.code yX6_lot cX6_lot 3 (some .int), Cond.fieldLink RX6 16 "CupReceipts" "trial" "LCupReceipts$House;", Cond.fieldLink RX6 10 "CupReceipts" "house" "LCupReceipts$House;", Cond.methodLink RX6 40 yX3_copyFrom, Cond.instanceMethod yX3_copyFrom, Cond.selects RX3 yX3_copyFrom yX3_copyFrom, Cond.initialized RX3, Cond.code yX3_copyFrom cX3_copyFrom 3 none, Cond.fieldLink RX3 12 "CupReceipts$House" "lots" "LCupReceipts$Lots;", Cond.fieldLink RX3 21 "CupReceipts$House" "contracts" "LCupReceipts$Contracts;", Cond.fieldLink RX3 34 "CupReceipts$House" "worths" "[I", Cond.fieldLink RX3 40 "CupReceipts$House" "settings" "[I", Cond.fieldLink RX3 50 "CupReceipts$House" "month" "I", Cond.fieldLink RX3 54 "CupReceipts$House" "account" "I", Cond.fieldLink RX3 57 "CupReceipts$House" "contractsMet" "I", Cond.fieldLink RX3 60 "CupReceipts$House" "contractsFailed" "I", Cond.fieldLink RX3 63 "CupReceipts$House" "bagsGiven" "I"]
def wsL_lots_r2 : List Cond := [Cond.methodLink RX3 43 yX4_copyFrom, Cond.instanceMethod yX4_copyFrom, Cond.selects RX4 yX4_copyFrom yX4_copyFrom, Cond.initialized RX4, Cond.code yX4_copyFrom cX4_copyFrom 3 none, Cond.fieldLink RX4 9 "CupReceipts$Lots" "numbers" "[I", Cond.fieldLink RX4 15 "CupReceipts$Lots" "bags" "[I", Cond.fieldLink RX4 18 "CupReceipts$Lots" "cups" "[I", Cond.fieldLink RX4 21 "CupReceipts$Lots" "months" "[I", Cond.fieldLink RX4 24 "CupReceipts$Lots" "size" "I", Cond.fieldLink RX4 28 "CupReceipts$Lots" "made" "I", Cond.methodLink RX3 47 yX0_copyFrom, Cond.instanceMethod yX0_copyFrom, Cond.selects RX0 yX0_copyFrom yX0_copyFrom, Cond.initialized RX0, Cond.code yX0_copyFrom cX0_copyFrom 3 none, Cond.fieldLink RX0 9 "CupReceipts$Contracts" "months" "[I", Cond.fieldLink RX0 15 "CupReceipts$Contracts" "prices" "[I", Cond.fieldLink RX0 18 "CupReceipts$Contracts" "size" "I", Cond.methodLink RX6 44 yX3_bringLot, Cond.instanceMethod yX3_bringLot, Cond.selects RX3 yX3_bringLot yX3_bringLot, Cond.code yX3_bringLot cX3_bringLot 3 (some .int), Cond.constant RX3 70 (-2000000001)]
def wsL_lots_r3 : List Cond := [Cond.static yX6_isWithin, Cond.code yX6_isWithin cX6_isWithin 3 (some .boolean), Cond.methodLink RX3 71 yX4_add, Cond.instanceMethod yX4_add, Cond.selects RX4 yX4_add yX4_add, Cond.code yX4_add cX4_add 4 (some .int), Cond.constant RX4 35 (-2000000003), Cond.methodLink RX4 31 yX4_isFull, Cond.instanceMethod yX4_isFull, Cond.selects RX4 yX4_isFull yX4_isFull, Cond.code yX4_isFull cX4_isFull 1 (some .boolean), Cond.methodLink RX6 48 yX6_accept, Cond.instanceMethod yX6_accept, Cond.selects RX6 yX6_accept yX6_accept, Cond.code yX6_accept cX6_accept 2 (some .int), Cond.fieldLink RX6 22 "CupReceipts" "history" "LCupReceipts$History;", Cond.methodLink RX6 217 yX6_isError, Cond.static yX6_isError, Cond.code yX6_isError cX6_isError 1 (some .boolean), Cond.constant RX6 102 (-2000000004), Cond.constant RX6 90 (-2000000001), Cond.methodLink RX6 122 yX6_isWithin, Cond.methodLink RX6 220 yX2_record, Cond.instanceMethod yX2_record]
def wsL_lots_r4 : List Cond := [Cond.selects RX2 yX2_record yX2_record, Cond.initialized RX2, Cond.code yX2_record cX2_record 2 none, Cond.fieldLink RX2 18 "CupReceipts$History" "states" "I", Cond.fieldLink RX2 11 "CupReceipts$History" "rooms" "[LCupReceipts$House;", Cond.methodLink RX2 22 yX2_dropOldest, Cond.instanceMethod yX2_dropOldest, Cond.selects RX2 yX2_dropOldest yX2_dropOldest, Cond.code yX2_dropOldest cX2_dropOldest 3 none, Cond.methodLink RX2 25 yX3_copyFrom, Cond.methodLink RL 38 yL_makes, Cond.static yL_makes, Cond.initialized RL, Cond.code yL_makes cL_makes 6 (some .int), Cond.methodLink RL 41 yX6_part, Cond.instanceMethod yX6_part, Cond.selects RX6 yX6_part yX6_part, Cond.code yX6_part cX6_part 3 (some .int), Cond.methodLink RX6 52 yX3_partLot, Cond.instanceMethod yX3_partLot, Cond.selects RX3 yX3_partLot yX3_partLot, Cond.code yX3_partLot cX3_partLot 4 (some .int), Cond.fieldLink RX3 79 "CupReceipts$Lots" "bags" "[I", Cond.constant RX3 82 (-2000000002)]
def wsL_lots_r5 : List Cond := [Cond.constant RX3 87 (-2000000003), Cond.fieldLink RX3 88 "CupReceipts$Lots" "cups" "[I", Cond.fieldLink RX3 91 "CupReceipts$Lots" "months" "[I", Cond.methodLink RX3 75 yX4_rowOf, Cond.instanceMethod yX4_rowOf, Cond.selects RX4 yX4_rowOf yX4_rowOf, Cond.code yX4_rowOf cX4_rowOf 3 (some .int), Cond.methodLink RX3 83 yX4_isFull, Cond.methodLink RL 45 yX6_cup, Cond.instanceMethod yX6_cup, Cond.selects RX6 yX6_cup yX6_cup, Cond.code yX6_cup cX6_cup 2 (some .int), Cond.methodLink RX6 59 yX3_cupAnew, Cond.instanceMethod yX3_cupAnew, Cond.selects RX3 yX3_cupAnew yX3_cupAnew, Cond.code yX3_cupAnew cX3_cupAnew 3 (some .int), Cond.methodLink RX3 94 yX4_cupAt, Cond.instanceMethod yX4_cupAt, Cond.selects RX4 yX4_cupAt yX4_cupAt, Cond.code yX4_cupAt cX4_cupAt 4 (some .int), Cond.methodLink RL 47 yX6_blend, Cond.instanceMethod yX6_blend, Cond.selects RX6 yX6_blend yX6_blend, Cond.code yX6_blend cX6_blend 5 (some .int)]
def wsL_lots_r6 : List Cond := [Cond.methodLink RX6 55 yX3_blendLots, Cond.instanceMethod yX3_blendLots, Cond.selects RX3 yX3_blendLots yX3_blendLots, Cond.code yX3_blendLots cX3_blendLots 11 (some .int), Cond.methodLink RX3 98 yX4_dropEmpty, Cond.instanceMethod yX4_dropEmpty, Cond.selects RX4 yX4_dropEmpty yX4_dropEmpty, Cond.code yX4_dropEmpty cX4_dropEmpty 3 none, Cond.methodLink RL 52 yL_takes, Cond.static yL_takes, Cond.code yL_takes cL_takes 6 none, Cond.methodLink RL 23 yL_find, Cond.static yL_find, Cond.code yL_find cL_find 4 (some .int), Cond.methodLink RL 9 yL_cup, Cond.static yL_cup, Cond.code yL_cup cL_cup 4 (some .int)]
def wsL_lots : List Cond := .code yL_lots cL_lots 13 (some .boolean) :: ((wsL_lots_r1 ++ (wsL_lots_r2 ++ (wsL_lots_r3 ++ (wsL_lots_r4 ++ (wsL_lots_r5 ++ wsL_lots_r6))))) ++ wsX60 ++ wsX30 ++ wsX40 ++ wsX00 ++ wsX20)
def wsL_acts_r1 : List Cond := [Cond.constant RL 56 (10000000), Cond.constant RL 44 (-2000000001), Cond.constant RL 51 (-2000000002), Cond.constant RL 37 (-2000000003), Cond.arrayClass .int, Cond.methodLink RL 57 yL_low, Cond.static yL_low, Cond.initialized RL, Cond.code yL_low cL_low 2 (some .int), Cond.constant RL 8 (2147483647), Cond.methodLink RL 60 yL_lots, Cond.static yL_lots, Cond.code yL_lots cL_lots 13 (some .boolean), Cond.methodLink RL 31 yX6_lot, Cond.instanceMethod yX6_lot, Cond.selects RX6 yX6_lot yX6_lot, Cond.initialized RX6, Cond.code yX6_lot cX6_lot 3 (some .int), Cond.fieldLink RX6 16 "CupReceipts" "trial" "LCupReceipts$House;", Cond.fieldLink RX6 10 "CupReceipts" "house" "LCupReceipts$House;", Cond.methodLink RX6 40 yX3_copyFrom, Cond.instanceMethod yX3_copyFrom, Cond.selects RX3 yX3_copyFrom yX3_copyFrom, Cond.initialized RX3]
def wsL_acts_r2 : List Cond := [Cond.code yX3_copyFrom cX3_copyFrom 3 none, Cond.fieldLink RX3 12 "CupReceipts$House" "lots" "LCupReceipts$Lots;", Cond.fieldLink RX3 21 "CupReceipts$House" "contracts" "LCupReceipts$Contracts;", Cond.fieldLink RX3 34 "CupReceipts$House" "worths" "[I", Cond.fieldLink RX3 40 "CupReceipts$House" "settings" "[I", Cond.fieldLink RX3 50 "CupReceipts$House" "month" "I", Cond.fieldLink RX3 54 "CupReceipts$House" "account" "I", Cond.fieldLink RX3 57 "CupReceipts$House" "contractsMet" "I", Cond.fieldLink RX3 60 "CupReceipts$House" "contractsFailed" "I", Cond.fieldLink RX3 63 "CupReceipts$House" "bagsGiven" "I", Cond.methodLink RX3 43 yX4_copyFrom, Cond.instanceMethod yX4_copyFrom, Cond.selects RX4 yX4_copyFrom yX4_copyFrom, Cond.initialized RX4, Cond.code yX4_copyFrom cX4_copyFrom 3 none, Cond.fieldLink RX4 9 "CupReceipts$Lots" "numbers" "[I", Cond.fieldLink RX4 15 "CupReceipts$Lots" "bags" "[I", Cond.fieldLink RX4 18 "CupReceipts$Lots" "cups" "[I", Cond.fieldLink RX4 21 "CupReceipts$Lots" "months" "[I", Cond.fieldLink RX4 24 "CupReceipts$Lots" "size" "I", Cond.fieldLink RX4 28 "CupReceipts$Lots" "made" "I", Cond.methodLink RX3 47 yX0_copyFrom, Cond.instanceMethod yX0_copyFrom, Cond.selects RX0 yX0_copyFrom yX0_copyFrom]
def wsL_acts_r3 : List Cond := [Cond.initialized RX0, Cond.code yX0_copyFrom cX0_copyFrom 3 none, Cond.fieldLink RX0 9 "CupReceipts$Contracts" "months" "[I", Cond.fieldLink RX0 15 "CupReceipts$Contracts" "prices" "[I", Cond.fieldLink RX0 18 "CupReceipts$Contracts" "size" "I", Cond.methodLink RX6 44 yX3_bringLot, Cond.instanceMethod yX3_bringLot, Cond.selects RX3 yX3_bringLot yX3_bringLot, Cond.code yX3_bringLot cX3_bringLot 3 (some .int), Cond.constant RX3 70 (-2000000001), Cond.static yX6_isWithin, Cond.code yX6_isWithin cX6_isWithin 3 (some .boolean), Cond.methodLink RX3 71 yX4_add, Cond.instanceMethod yX4_add, Cond.selects RX4 yX4_add yX4_add, Cond.code yX4_add cX4_add 4 (some .int), Cond.constant RX4 35 (-2000000003), Cond.methodLink RX4 31 yX4_isFull, Cond.instanceMethod yX4_isFull, Cond.selects RX4 yX4_isFull yX4_isFull, Cond.code yX4_isFull cX4_isFull 1 (some .boolean), Cond.methodLink RX6 48 yX6_accept, Cond.instanceMethod yX6_accept, Cond.selects RX6 yX6_accept yX6_accept]
def wsL_acts_r4 : List Cond := [Cond.code yX6_accept cX6_accept 2 (some .int), Cond.fieldLink RX6 22 "CupReceipts" "history" "LCupReceipts$History;", Cond.methodLink RX6 217 yX6_isError, Cond.static yX6_isError, Cond.code yX6_isError cX6_isError 1 (some .boolean), Cond.constant RX6 102 (-2000000004), Cond.constant RX6 90 (-2000000001), Cond.methodLink RX6 122 yX6_isWithin, Cond.methodLink RX6 220 yX2_record, Cond.instanceMethod yX2_record, Cond.selects RX2 yX2_record yX2_record, Cond.initialized RX2, Cond.code yX2_record cX2_record 2 none, Cond.fieldLink RX2 18 "CupReceipts$History" "states" "I", Cond.fieldLink RX2 11 "CupReceipts$History" "rooms" "[LCupReceipts$House;", Cond.methodLink RX2 22 yX2_dropOldest, Cond.instanceMethod yX2_dropOldest, Cond.selects RX2 yX2_dropOldest yX2_dropOldest, Cond.code yX2_dropOldest cX2_dropOldest 3 none, Cond.methodLink RX2 25 yX3_copyFrom, Cond.methodLink RL 38 yL_makes, Cond.static yL_makes, Cond.code yL_makes cL_makes 6 (some .int), Cond.methodLink RL 41 yX6_part]
def wsL_acts_r5 : List Cond := [Cond.instanceMethod yX6_part, Cond.selects RX6 yX6_part yX6_part, Cond.code yX6_part cX6_part 3 (some .int), Cond.methodLink RX6 52 yX3_partLot, Cond.instanceMethod yX3_partLot, Cond.selects RX3 yX3_partLot yX3_partLot, Cond.code yX3_partLot cX3_partLot 4 (some .int), Cond.fieldLink RX3 79 "CupReceipts$Lots" "bags" "[I", Cond.constant RX3 82 (-2000000002), Cond.constant RX3 87 (-2000000003), Cond.fieldLink RX3 88 "CupReceipts$Lots" "cups" "[I", Cond.fieldLink RX3 91 "CupReceipts$Lots" "months" "[I", Cond.methodLink RX3 75 yX4_rowOf, Cond.instanceMethod yX4_rowOf, Cond.selects RX4 yX4_rowOf yX4_rowOf, Cond.code yX4_rowOf cX4_rowOf 3 (some .int), Cond.methodLink RX3 83 yX4_isFull, Cond.methodLink RL 45 yX6_cup, Cond.instanceMethod yX6_cup, Cond.selects RX6 yX6_cup yX6_cup, Cond.code yX6_cup cX6_cup 2 (some .int), Cond.methodLink RX6 59 yX3_cupAnew, Cond.instanceMethod yX3_cupAnew, Cond.selects RX3 yX3_cupAnew yX3_cupAnew]
def wsL_acts_r6 : List Cond := [Cond.code yX3_cupAnew cX3_cupAnew 3 (some .int), Cond.methodLink RX3 94 yX4_cupAt, Cond.instanceMethod yX4_cupAt, Cond.selects RX4 yX4_cupAt yX4_cupAt, Cond.code yX4_cupAt cX4_cupAt 4 (some .int), Cond.methodLink RL 47 yX6_blend, Cond.instanceMethod yX6_blend, Cond.selects RX6 yX6_blend yX6_blend, Cond.code yX6_blend cX6_blend 5 (some .int), Cond.methodLink RX6 55 yX3_blendLots, Cond.instanceMethod yX3_blendLots, Cond.selects RX3 yX3_blendLots yX3_blendLots, Cond.code yX3_blendLots cX3_blendLots 11 (some .int), Cond.methodLink RX3 98 yX4_dropEmpty, Cond.instanceMethod yX4_dropEmpty, Cond.selects RX4 yX4_dropEmpty yX4_dropEmpty, Cond.code yX4_dropEmpty cX4_dropEmpty 3 none, Cond.methodLink RL 52 yL_takes, Cond.static yL_takes, Cond.code yL_takes cL_takes 6 none, Cond.methodLink RL 23 yL_find, Cond.static yL_find, Cond.code yL_find cL_find 4 (some .int), Cond.methodLink RL 9 yL_cup]
def wsL_acts_r7 : List Cond := [Cond.static yL_cup, Cond.code yL_cup cL_cup 4 (some .int), Cond.methodLink RL 64 yX6_sell, Cond.instanceMethod yX6_sell, Cond.selects RX6 yX6_sell yX6_sell, Cond.code yX6_sell cX6_sell 3 (some .int), Cond.methodLink RX6 65 yX3_sellContract, Cond.instanceMethod yX3_sellContract, Cond.selects RX3 yX3_sellContract yX3_sellContract, Cond.code yX3_sellContract cX3_sellContract 3 (some .int), Cond.methodLink RX3 101 yX3_isDeliveryMonth, Cond.instanceMethod yX3_isDeliveryMonth, Cond.selects RX3 yX3_isDeliveryMonth yX3_isDeliveryMonth, Cond.code yX3_isDeliveryMonth cX3_isDeliveryMonth 2 (some .boolean), Cond.methodLink RX3 149 yJ9_floorMod_7cf53, Cond.static yJ9_floorMod_7cf53, Cond.initialized RJ9, Cond.code yJ9_floorMod_7cf53 cJ9_floorMod_7cf53 3 (some .int), Cond.methodLink RX3 105 yX0_add, Cond.instanceMethod yX0_add, Cond.selects RX0 yX0_add yX0_add, Cond.code yX0_add cX0_add 3 (some .int), Cond.constant RX0 22 (-2000000003), Cond.methodLink RL 67 yX6_meet]
def wsL_acts_r8 : List Cond := [Cond.instanceMethod yX6_meet, Cond.selects RX6 yX6_meet yX6_meet, Cond.code yX6_meet cX6_meet 2 (some .int), Cond.fieldLink RX6 29 "CupReceipts" "delivery" "LCupReceipts$Delivery;", Cond.methodLink RX6 71 yX3_meetContract, Cond.instanceMethod yX3_meetContract, Cond.selects RX3 yX3_meetContract yX3_meetContract, Cond.code yX3_meetContract cX3_meetContract 4 (some .int), Cond.fieldLink RX3 117 "CupReceipts$Contracts" "months" "[I", Cond.fieldLink RX3 110 "CupReceipts$Contracts" "prices" "[I", Cond.fieldLink RX3 124 "CupReceipts$Delivery" "missing" "I", Cond.fieldLink RX3 127 "CupReceipts$Delivery" "places" "I", Cond.fieldLink RX3 130 "CupReceipts$Delivery" "rows" "[I", Cond.fieldLink RX3 133 "CupReceipts$Delivery" "bags" "[I", Cond.fieldLink RX3 134 "CupReceipts$Delivery" "pay" "I", Cond.methodLink RX3 107 yX0_isOpen, Cond.instanceMethod yX0_isOpen, Cond.selects RX0 yX0_isOpen yX0_isOpen, Cond.code yX0_isOpen cX0_isOpen 2 (some .boolean), Cond.methodLink RX3 118 yX1_plan, Cond.instanceMethod yX1_plan, Cond.selects RX1 yX1_plan yX1_plan, Cond.initialized RX1, Cond.code yX1_plan cX1_plan 6 none]
def wsL_acts_r9 : List Cond := [Cond.fieldLink RX1 35 "CupReceipts$Delivery" "places" "I", Cond.fieldLink RX1 39 "CupReceipts$House" "settings" "[I", Cond.fieldLink RX1 44 "CupReceipts$Delivery" "missing" "I", Cond.fieldLink RX1 47 "CupReceipts$Delivery" "pay" "I", Cond.fieldLink RX1 50 "CupReceipts$Delivery" "gain" "I", Cond.fieldLink RX1 53 "CupReceipts$Delivery" "sumOfCups" "I", Cond.fieldLink RX1 56 "CupReceipts$Delivery" "usedUp" "I", Cond.fieldLink RX1 59 "CupReceipts$House" "lots" "LCupReceipts$Lots;", Cond.fieldLink RX1 63 "CupReceipts$Lots" "size" "I", Cond.fieldLink RX1 72 "CupReceipts$Lots" "bags" "[I", Cond.methodLink RX1 31 yX1_rate, Cond.instanceMethod yX1_rate, Cond.selects RX1 yX1_rate yX1_rate, Cond.code yX1_rate cX1_rate 6 none, Cond.fieldLink RX1 18 "CupReceipts$Delivery" "waiting" "[Z", Cond.fieldLink RX1 22 "CupReceipts$Delivery" "cups" "[I", Cond.fieldLink RX1 25 "CupReceipts$Delivery" "pays" "[I", Cond.fieldLink RX1 28 "CupReceipts$Delivery" "gains" "[I", Cond.fieldLink RX1 88 "CupReceipts$House" "worths" "[I", Cond.methodLink RX1 77 yX4_cupAt, Cond.methodLink RX1 81 yX4_monthsTooOld, Cond.instanceMethod yX4_monthsTooOld, Cond.selects RX4 yX4_monthsTooOld yX4_monthsTooOld, Cond.code yX4_monthsTooOld cX4_monthsTooOld 4 (some .int)]
def wsL_acts_r10 : List Cond := [Cond.methodLink RX1 84 yX3_payForBag, Cond.instanceMethod yX3_payForBag, Cond.selects RX3 yX3_payForBag yX3_payForBag, Cond.code yX3_payForBag cX3_payForBag 5 (some .int), Cond.static yX6_bandOf, Cond.code yX6_bandOf cX6_bandOf 1 (some .int), Cond.methodLink RX1 68 yX1_rowOfGreatestGain, Cond.instanceMethod yX1_rowOfGreatestGain, Cond.selects RX1 yX1_rowOfGreatestGain yX1_rowOfGreatestGain, Cond.code yX1_rowOfGreatestGain cX1_rowOfGreatestGain 4 (some .int), Cond.methodLink RX1 73 yX1_take, Cond.instanceMethod yX1_take, Cond.selects RX1 yX1_take yX1_take, Cond.code yX1_take cX1_take 4 none, Cond.methodLink RX1 94 Lib.Math.min.name, Cond.static Lib.Math.min.name, Cond.initialized "java/lang/Math", Cond.code Lib.Math.min.name Lib.Math.min.code 2 (some .int), Cond.fieldLink RX1 9 "CupReceipts$Delivery" "rows" "[I", Cond.fieldLink RX1 15 "CupReceipts$Delivery" "bags" "[I", Cond.methodLink RX3 113 yX0_drop, Cond.instanceMethod yX0_drop, Cond.selects RX0 yX0_drop yX0_drop, Cond.code yX0_drop cX0_drop 3 none]
def wsL_acts_r11 : List Cond := [Cond.methodLink RX0 23 yX0_isOpen, Cond.methodLink RL 70 yX6_buyBack, Cond.instanceMethod yX6_buyBack, Cond.selects RX6 yX6_buyBack yX6_buyBack, Cond.code yX6_buyBack cX6_buyBack 3 (some .int), Cond.methodLink RX6 68 yX3_buyContractBack, Cond.instanceMethod yX3_buyContractBack, Cond.selects RX3 yX3_buyContractBack yX3_buyContractBack, Cond.code yX3_buyContractBack cX3_buyContractBack 4 (some .int), Cond.methodLink RL 73 yL_close, Cond.static yL_close, Cond.code yL_close cL_close 4 none, Cond.methodLink RL 77 yL_gives, Cond.static yL_gives, Cond.code yL_gives cL_gives 13 (some .int), Cond.constant RL 27 (2000000), Cond.methodLink RL 28 yL_gain, Cond.static yL_gain, Cond.code yL_gain cL_gain 5 (some .int), Cond.methodLink RL 15 yL_paid, Cond.static yL_paid, Cond.code yL_paid cL_paid 7 (some .int), Cond.methodLink RL 19 yL_band, Cond.static yL_band]
def wsL_acts_r12 : List Cond := [Cond.code yL_band cL_band 1 (some .int), Cond.methodLink RL 81 yL_paidAll, Cond.static yL_paidAll, Cond.code yL_paidAll cL_paidAll 10 (some .int), Cond.methodLink RL 85 yX6_pass, Cond.instanceMethod yX6_pass, Cond.selects RX6 yX6_pass yX6_pass, Cond.code yX6_pass cX6_pass 2 (some .int), Cond.methodLink RX6 75 yX3_passMonths, Cond.instanceMethod yX3_passMonths, Cond.selects RX3 yX3_passMonths yX3_passMonths, Cond.code yX3_passMonths cX3_passMonths 3 (some .int), Cond.methodLink RX3 137 yX0_dropBefore, Cond.instanceMethod yX0_dropBefore, Cond.selects RX0 yX0_dropBefore yX0_dropBefore, Cond.code yX0_dropBefore cX0_dropBefore 4 (some .int), Cond.methodLink RL 88 yX6_worth, Cond.instanceMethod yX6_worth, Cond.selects RX6 yX6_worth yX6_worth, Cond.code yX6_worth cX6_worth 3 (some .int), Cond.methodLink RX6 62 yX3_changeWorth, Cond.instanceMethod yX3_changeWorth, Cond.selects RX3 yX3_changeWorth yX3_changeWorth, Cond.code yX3_changeWorth cX3_changeWorth 4 (some .int)]
def wsL_acts_r13 : List Cond := [Cond.methodLink RL 91 yX6_set, Cond.instanceMethod yX6_set, Cond.selects RX6 yX6_set yX6_set, Cond.code yX6_set cX6_set 3 (some .int), Cond.methodLink RX6 78 yX3_changeSetting, Cond.instanceMethod yX3_changeSetting, Cond.selects RX3 yX3_changeSetting yX3_changeSetting, Cond.code yX3_changeSetting cX3_changeSetting 4 (some .int), Cond.fieldLink RX3 146 "CupReceipts$Contracts" "size" "I"]
def wsL_acts : List Cond := .code yL_acts cL_acts 12 (some .boolean) :: ((wsL_acts_r1 ++ (wsL_acts_r2 ++ (wsL_acts_r3 ++ (wsL_acts_r4 ++ (wsL_acts_r5 ++ (wsL_acts_r6 ++ (wsL_acts_r7 ++ (wsL_acts_r8 ++ (wsL_acts_r9 ++ (wsL_acts_r10 ++ (wsL_acts_r11 ++ (wsL_acts_r12 ++ wsL_acts_r13)))))))))))) ++ wsX60 ++ wsX30 ++ wsX40 ++ wsX00 ++ wsX20 ++ wsX10)
def wsL_isSo_r1 : List Cond := [Cond.constant RL 44 (-2000000001), Cond.constant RL 106 (-2000000004), Cond.methodLink RL 9 yL_cup, Cond.static yL_cup, Cond.initialized RL, Cond.code yL_cup cL_cup 4 (some .int), Cond.methodLink RL 94 yX6_numberOf, Cond.instanceMethod yX6_numberOf, Cond.selects RX6 yX6_numberOf yX6_numberOf, Cond.initialized RX6, Cond.code yX6_numberOf cX6_numberOf 2 (some .int), Cond.constant RX6 90 (-2000000001), Cond.fieldLink RX6 10 "CupReceipts" "house" "LCupReceipts$House;", Cond.fieldLink RX6 81 "CupReceipts$House" "lots" "LCupReceipts$Lots;", Cond.fieldLink RX6 94 "CupReceipts$Lots" "size" "I", Cond.fieldLink RX6 98 "CupReceipts$Lots" "numbers" "[I", Cond.constant RX6 102 (-2000000004), Cond.methodLink RL 97 yX6_lotOf, Cond.instanceMethod yX6_lotOf, Cond.selects RX6 yX6_lotOf yX6_lotOf, Cond.code yX6_lotOf cX6_lotOf 4 (some .int), Cond.methodLink RX6 85 yX4_rowOf, Cond.instanceMethod yX4_rowOf, Cond.selects RX4 yX4_rowOf yX4_rowOf]
def wsL_isSo_r2 : List Cond := [Cond.initialized RX4, Cond.code yX4_rowOf cX4_rowOf 3 (some .int), Cond.fieldLink RX4 24 "CupReceipts$Lots" "size" "I", Cond.fieldLink RX4 9 "CupReceipts$Lots" "numbers" "[I", Cond.methodLink RX6 91 yX3_tellOfLot, Cond.instanceMethod yX3_tellOfLot, Cond.selects RX3 yX3_tellOfLot yX3_tellOfLot, Cond.initialized RX3, Cond.code yX3_tellOfLot cX3_tellOfLot 3 (some .int), Cond.fieldLink RX3 12 "CupReceipts$House" "lots" "LCupReceipts$Lots;", Cond.fieldLink RX3 79 "CupReceipts$Lots" "bags" "[I", Cond.fieldLink RX3 88 "CupReceipts$Lots" "cups" "[I", Cond.fieldLink RX3 91 "CupReceipts$Lots" "months" "[I", Cond.fieldLink RX3 50 "CupReceipts$House" "month" "I", Cond.fieldLink RX3 34 "CupReceipts$House" "worths" "[I", Cond.constant RX3 70 (-2000000001), Cond.methodLink RX3 94 yX4_cupAt, Cond.instanceMethod yX4_cupAt, Cond.selects RX4 yX4_cupAt yX4_cupAt, Cond.code yX4_cupAt cX4_cupAt 4 (some .int), Cond.fieldLink RX4 18 "CupReceipts$Lots" "cups" "[I", Cond.fieldLink RX4 21 "CupReceipts$Lots" "months" "[I", Cond.static yX6_bandOf, Cond.code yX6_bandOf cX6_bandOf 1 (some .int)]
def wsL_isSo_r3 : List Cond := [Cond.methodLink RX3 157 yX4_monthsTooOld, Cond.instanceMethod yX4_monthsTooOld, Cond.selects RX4 yX4_monthsTooOld yX4_monthsTooOld, Cond.code yX4_monthsTooOld cX4_monthsTooOld 4 (some .int), Cond.methodLink RL 19 yL_band, Cond.static yL_band, Cond.code yL_band cL_band 1 (some .int), Cond.methodLink RL 100 yX6_count, Cond.instanceMethod yX6_count, Cond.selects RX6 yX6_count yX6_count, Cond.code yX6_count cX6_count 2 (some .int), Cond.fieldLink RX6 172 "CupReceipts$House" "settings" "[I", Cond.fieldLink RX6 22 "CupReceipts" "history" "LCupReceipts$History;", Cond.fieldLink RX6 185 "CupReceipts$History" "states" "I", Cond.fieldLink RX6 36 "CupReceipts" "orders" "LCupReceipts$Orders;", Cond.fieldLink RX6 188 "CupReceipts$Orders" "length" "I", Cond.methodLink RX6 122 yX6_isWithin, Cond.static yX6_isWithin, Cond.code yX6_isWithin cX6_isWithin 3 (some .boolean), Cond.methodLink RX6 191 yX3_tellCount, Cond.instanceMethod yX3_tellCount, Cond.selects RX3 yX3_tellCount yX3_tellCount, Cond.code yX3_tellCount cX3_tellCount 2 (some .int), Cond.fieldLink RX3 160 "CupReceipts$Lots" "size" "I"]
def wsL_isSo_r4 : List Cond := [Cond.fieldLink RX3 21 "CupReceipts$House" "contracts" "LCupReceipts$Contracts;", Cond.fieldLink RX3 146 "CupReceipts$Contracts" "size" "I", Cond.fieldLink RX3 54 "CupReceipts$House" "account" "I", Cond.fieldLink RX3 57 "CupReceipts$House" "contractsMet" "I", Cond.fieldLink RX3 60 "CupReceipts$House" "contractsFailed" "I", Cond.fieldLink RX3 63 "CupReceipts$House" "bagsGiven" "I", Cond.fieldLink RX3 168 "CupReceipts$Lots" "made" "I", Cond.methodLink RX3 161 yX4_allBags, Cond.instanceMethod yX4_allBags, Cond.selects RX4 yX4_allBags yX4_allBags, Cond.code yX4_allBags cX4_allBags 3 (some .int), Cond.fieldLink RX4 15 "CupReceipts$Lots" "bags" "[I", Cond.methodLink RX3 165 yX4_bagsToGive, Cond.instanceMethod yX4_bagsToGive, Cond.selects RX4 yX4_bagsToGive yX4_bagsToGive, Cond.code yX4_bagsToGive cX4_bagsToGive 4 (some .int), Cond.methodLink RX4 36 yX4_cupAt, Cond.methodLink RL 103 yX6_contractOf, Cond.instanceMethod yX6_contractOf, Cond.selects RX6 yX6_contractOf yX6_contractOf, Cond.code yX6_contractOf cX6_contractOf 3 (some .int), Cond.fieldLink RX6 103 "CupReceipts$House" "contracts" "LCupReceipts$Contracts;", Cond.fieldLink RX6 113 "CupReceipts$Contracts" "months" "[I", Cond.fieldLink RX6 116 "CupReceipts$Contracts" "prices" "[I"]
def wsL_isSo_r5 : List Cond := [Cond.fieldLink RX6 119 "CupReceipts$House" "month" "I", Cond.methodLink RX6 107 yX0_isOpen, Cond.instanceMethod yX0_isOpen, Cond.selects RX0 yX0_isOpen yX0_isOpen, Cond.initialized RX0, Cond.code yX0_isOpen cX0_isOpen 2 (some .boolean), Cond.fieldLink RX0 18 "CupReceipts$Contracts" "size" "I"]
def wsL_isSo : List Cond := .code yL_isSo cL_isSo 11 (some .boolean) :: ((wsL_isSo_r1 ++ (wsL_isSo_r2 ++ (wsL_isSo_r3 ++ (wsL_isSo_r4 ++ wsL_isSo_r5)))) ++ wsX60 ++ wsX30 ++ wsX40 ++ wsX20 ++ wsX50 ++ wsX00)
def wsL_law_r1 : List Cond := [Cond.classLink RL 32 RX6, Cond.instantiable RX6 5, Cond.initialized RX6, Cond.arrayClass .int, Cond.constant RL 8 (2147483647), Cond.constant RL 44 (-2000000001), Cond.methodLink RL 107 yX6_init, Cond.instanceMethod yX6_init, Cond.code yX6_init cX6_init 1 none, Cond.methodLink RX6 1 objectInit, Cond.instanceMethod objectInit, Cond.code objectInit ⟨#[0xb1]⟩ 1 none, Cond.classLink RX6 7 RX3, Cond.instantiable RX3 9, Cond.initialized RX3, Cond.fieldLink RX6 10 "CupReceipts" "house" "LCupReceipts$House;", Cond.fieldLink RX6 16 "CupReceipts" "trial" "LCupReceipts$House;", Cond.classLink RX6 19 RX2, Cond.instantiable RX2 2, Cond.initialized RX2, Cond.fieldLink RX6 22 "CupReceipts" "history" "LCupReceipts$History;", Cond.classLink RX6 26 RX1, Cond.instantiable RX1 12, Cond.initialized RX1]
def wsL_law_r2 : List Cond := [Cond.fieldLink RX6 29 "CupReceipts" "delivery" "LCupReceipts$Delivery;", Cond.classLink RX6 33 RX5, Cond.instantiable RX5 8, Cond.initialized RX5, Cond.fieldLink RX6 36 "CupReceipts" "orders" "LCupReceipts$Orders;", Cond.instanceMethod yX3_init, Cond.code yX3_init cX3_init 1 none, Cond.methodLink RX3 3 objectInit, Cond.classLink RX3 9 RX4, Cond.instantiable RX4 6, Cond.initialized RX4, Cond.fieldLink RX3 12 "CupReceipts$House" "lots" "LCupReceipts$Lots;", Cond.classLink RX3 18 RX0, Cond.instantiable RX0 3, Cond.initialized RX0, Cond.fieldLink RX3 21 "CupReceipts$House" "contracts" "LCupReceipts$Contracts;", Cond.methodLink RX3 29 ⟨"[I", "clone", "()Ljava/lang/Object;"⟩, Cond.sameMethod "[I" "java/lang/Object" "clone" "()Ljava/lang/Object;", Cond.native ⟨"java/lang/Object", "clone", "()Ljava/lang/Object;"⟩, Cond.instanceMethod ⟨"java/lang/Object", "clone", "()Ljava/lang/Object;"⟩, Cond.selects "[I" ⟨"[I", "clone", "()Ljava/lang/Object;"⟩ ⟨"java/lang/Object", "clone", "()Ljava/lang/Object;"⟩, Cond.classLink RX3 30 "[I", Cond.fieldLink RX3 34 "CupReceipts$House" "worths" "[I", Cond.fieldLink RX3 40 "CupReceipts$House" "settings" "[I"]
def wsL_law_r3 : List Cond := [Cond.instanceMethod yX4_init, Cond.code yX4_init cX4_init 1 none, Cond.methodLink RX4 3 objectInit, Cond.fieldLink RX4 9 "CupReceipts$Lots" "numbers" "[I", Cond.fieldLink RX4 15 "CupReceipts$Lots" "bags" "[I", Cond.fieldLink RX4 18 "CupReceipts$Lots" "cups" "[I", Cond.fieldLink RX4 21 "CupReceipts$Lots" "months" "[I", Cond.instanceMethod yX0_init, Cond.code yX0_init cX0_init 1 none, Cond.methodLink RX0 3 objectInit, Cond.fieldLink RX0 9 "CupReceipts$Contracts" "months" "[I", Cond.fieldLink RX0 15 "CupReceipts$Contracts" "prices" "[I", Cond.methodLink RX6 21 yX2_init, Cond.instanceMethod yX2_init, Cond.code yX2_init cX2_init 2 none, Cond.methodLink RX2 3 objectInit, Cond.classLink RX2 9 RX3, Cond.fieldLink RX2 11 "CupReceipts$History" "rooms" "[LCupReceipts$House;", Cond.instanceMethod yX1_init, Cond.code yX1_init cX1_init 1 none, Cond.methodLink RX1 3 objectInit, Cond.fieldLink RX1 9 "CupReceipts$Delivery" "rows" "[I", Cond.fieldLink RX1 15 "CupReceipts$Delivery" "bags" "[I", Cond.arrayClass .boolean]
def wsL_law_r4 : List Cond := [Cond.fieldLink RX1 18 "CupReceipts$Delivery" "waiting" "[Z", Cond.fieldLink RX1 22 "CupReceipts$Delivery" "cups" "[I", Cond.fieldLink RX1 25 "CupReceipts$Delivery" "pays" "[I", Cond.fieldLink RX1 28 "CupReceipts$Delivery" "gains" "[I", Cond.instanceMethod yX5_init, Cond.code yX5_init cX5_init 1 none, Cond.methodLink RX5 3 objectInit, Cond.arrayClass .char, Cond.fieldLink RX5 9 "CupReceipts$Orders" "signs" "[C", Cond.fieldLink RX5 15 "CupReceipts$Orders" "numbers" "[I", Cond.methodLink RL 108 yL_isSo, Cond.static yL_isSo, Cond.initialized RL, Cond.code yL_isSo cL_isSo 11 (some .boolean), Cond.constant RL 106 (-2000000004), Cond.methodLink RL 9 yL_cup, Cond.static yL_cup, Cond.code yL_cup cL_cup 4 (some .int), Cond.methodLink RL 94 yX6_numberOf, Cond.instanceMethod yX6_numberOf, Cond.selects RX6 yX6_numberOf yX6_numberOf, Cond.code yX6_numberOf cX6_numberOf 2 (some .int), Cond.constant RX6 90 (-2000000001), Cond.fieldLink RX6 81 "CupReceipts$House" "lots" "LCupReceipts$Lots;"]
def wsL_law_r5 : List Cond := [Cond.fieldLink RX6 94 "CupReceipts$Lots" "size" "I", Cond.fieldLink RX6 98 "CupReceipts$Lots" "numbers" "[I", Cond.constant RX6 102 (-2000000004), Cond.methodLink RL 97 yX6_lotOf, Cond.instanceMethod yX6_lotOf, Cond.selects RX6 yX6_lotOf yX6_lotOf, Cond.code yX6_lotOf cX6_lotOf 4 (some .int), Cond.methodLink RX6 85 yX4_rowOf, Cond.instanceMethod yX4_rowOf, Cond.selects RX4 yX4_rowOf yX4_rowOf, Cond.code yX4_rowOf cX4_rowOf 3 (some .int), Cond.fieldLink RX4 24 "CupReceipts$Lots" "size" "I", Cond.methodLink RX6 91 yX3_tellOfLot, Cond.instanceMethod yX3_tellOfLot, Cond.selects RX3 yX3_tellOfLot yX3_tellOfLot, Cond.code yX3_tellOfLot cX3_tellOfLot 3 (some .int), Cond.fieldLink RX3 79 "CupReceipts$Lots" "bags" "[I", Cond.fieldLink RX3 88 "CupReceipts$Lots" "cups" "[I", Cond.fieldLink RX3 91 "CupReceipts$Lots" "months" "[I", Cond.fieldLink RX3 50 "CupReceipts$House" "month" "I", Cond.constant RX3 70 (-2000000001), Cond.methodLink RX3 94 yX4_cupAt, Cond.instanceMethod yX4_cupAt, Cond.selects RX4 yX4_cupAt yX4_cupAt]
def wsL_law_r6 : List Cond := [Cond.code yX4_cupAt cX4_cupAt 4 (some .int), Cond.static yX6_bandOf, Cond.code yX6_bandOf cX6_bandOf 1 (some .int), Cond.methodLink RX3 157 yX4_monthsTooOld, Cond.instanceMethod yX4_monthsTooOld, Cond.selects RX4 yX4_monthsTooOld yX4_monthsTooOld, Cond.code yX4_monthsTooOld cX4_monthsTooOld 4 (some .int), Cond.methodLink RL 19 yL_band, Cond.static yL_band, Cond.code yL_band cL_band 1 (some .int), Cond.methodLink RL 100 yX6_count, Cond.instanceMethod yX6_count, Cond.selects RX6 yX6_count yX6_count, Cond.code yX6_count cX6_count 2 (some .int), Cond.fieldLink RX6 172 "CupReceipts$House" "settings" "[I", Cond.fieldLink RX6 185 "CupReceipts$History" "states" "I", Cond.fieldLink RX6 188 "CupReceipts$Orders" "length" "I", Cond.methodLink RX6 122 yX6_isWithin, Cond.static yX6_isWithin, Cond.code yX6_isWithin cX6_isWithin 3 (some .boolean), Cond.methodLink RX6 191 yX3_tellCount, Cond.instanceMethod yX3_tellCount, Cond.selects RX3 yX3_tellCount yX3_tellCount, Cond.code yX3_tellCount cX3_tellCount 2 (some .int)]
def wsL_law_r7 : List Cond := [Cond.fieldLink RX3 160 "CupReceipts$Lots" "size" "I", Cond.fieldLink RX3 146 "CupReceipts$Contracts" "size" "I", Cond.fieldLink RX3 54 "CupReceipts$House" "account" "I", Cond.fieldLink RX3 57 "CupReceipts$House" "contractsMet" "I", Cond.fieldLink RX3 60 "CupReceipts$House" "contractsFailed" "I", Cond.fieldLink RX3 63 "CupReceipts$House" "bagsGiven" "I", Cond.fieldLink RX3 168 "CupReceipts$Lots" "made" "I", Cond.methodLink RX3 161 yX4_allBags, Cond.instanceMethod yX4_allBags, Cond.selects RX4 yX4_allBags yX4_allBags, Cond.code yX4_allBags cX4_allBags 3 (some .int), Cond.methodLink RX3 165 yX4_bagsToGive, Cond.instanceMethod yX4_bagsToGive, Cond.selects RX4 yX4_bagsToGive yX4_bagsToGive, Cond.code yX4_bagsToGive cX4_bagsToGive 4 (some .int), Cond.methodLink RX4 36 yX4_cupAt, Cond.methodLink RL 103 yX6_contractOf, Cond.instanceMethod yX6_contractOf, Cond.selects RX6 yX6_contractOf yX6_contractOf, Cond.code yX6_contractOf cX6_contractOf 3 (some .int), Cond.fieldLink RX6 103 "CupReceipts$House" "contracts" "LCupReceipts$Contracts;", Cond.fieldLink RX6 113 "CupReceipts$Contracts" "months" "[I", Cond.fieldLink RX6 116 "CupReceipts$Contracts" "prices" "[I", Cond.fieldLink RX6 119 "CupReceipts$House" "month" "I"]
def wsL_law_r8 : List Cond := [Cond.methodLink RX6 107 yX0_isOpen, Cond.instanceMethod yX0_isOpen, Cond.selects RX0 yX0_isOpen yX0_isOpen, Cond.code yX0_isOpen cX0_isOpen 2 (some .boolean), Cond.fieldLink RX0 18 "CupReceipts$Contracts" "size" "I", Cond.methodLink RL 112 yL_cell, Cond.static yL_cell, Cond.code yL_cell cL_cell 2 (some .int), Cond.constant RL 7 (40503), Cond.methodLink RL 116 yL_acts, Cond.static yL_acts, Cond.code yL_acts cL_acts 12 (some .boolean), Cond.constant RL 56 (10000000), Cond.constant RL 51 (-2000000002), Cond.constant RL 37 (-2000000003), Cond.methodLink RL 57 yL_low, Cond.static yL_low, Cond.code yL_low cL_low 2 (some .int), Cond.methodLink RL 60 yL_lots, Cond.static yL_lots, Cond.code yL_lots cL_lots 13 (some .boolean), Cond.methodLink RL 31 yX6_lot, Cond.instanceMethod yX6_lot, Cond.selects RX6 yX6_lot yX6_lot]
def wsL_law_r9 : List Cond := [Cond.code yX6_lot cX6_lot 3 (some .int), Cond.methodLink RX6 40 yX3_copyFrom, Cond.instanceMethod yX3_copyFrom, Cond.selects RX3 yX3_copyFrom yX3_copyFrom, Cond.code yX3_copyFrom cX3_copyFrom 3 none, Cond.methodLink RX3 43 yX4_copyFrom, Cond.instanceMethod yX4_copyFrom, Cond.selects RX4 yX4_copyFrom yX4_copyFrom, Cond.code yX4_copyFrom cX4_copyFrom 3 none, Cond.fieldLink RX4 28 "CupReceipts$Lots" "made" "I", Cond.methodLink RX3 47 yX0_copyFrom, Cond.instanceMethod yX0_copyFrom, Cond.selects RX0 yX0_copyFrom yX0_copyFrom, Cond.code yX0_copyFrom cX0_copyFrom 3 none, Cond.methodLink RX6 44 yX3_bringLot, Cond.instanceMethod yX3_bringLot, Cond.selects RX3 yX3_bringLot yX3_bringLot, Cond.code yX3_bringLot cX3_bringLot 3 (some .int), Cond.methodLink RX3 71 yX4_add, Cond.instanceMethod yX4_add, Cond.selects RX4 yX4_add yX4_add, Cond.code yX4_add cX4_add 4 (some .int), Cond.constant RX4 35 (-2000000003), Cond.methodLink RX4 31 yX4_isFull]
def wsL_law_r10 : List Cond := [Cond.instanceMethod yX4_isFull, Cond.selects RX4 yX4_isFull yX4_isFull, Cond.code yX4_isFull cX4_isFull 1 (some .boolean), Cond.methodLink RX6 48 yX6_accept, Cond.instanceMethod yX6_accept, Cond.selects RX6 yX6_accept yX6_accept, Cond.code yX6_accept cX6_accept 2 (some .int), Cond.methodLink RX6 217 yX6_isError, Cond.static yX6_isError, Cond.code yX6_isError cX6_isError 1 (some .boolean), Cond.methodLink RX6 220 yX2_record, Cond.instanceMethod yX2_record, Cond.selects RX2 yX2_record yX2_record, Cond.code yX2_record cX2_record 2 none, Cond.fieldLink RX2 18 "CupReceipts$History" "states" "I", Cond.methodLink RX2 22 yX2_dropOldest, Cond.instanceMethod yX2_dropOldest, Cond.selects RX2 yX2_dropOldest yX2_dropOldest, Cond.code yX2_dropOldest cX2_dropOldest 3 none, Cond.methodLink RX2 25 yX3_copyFrom, Cond.methodLink RL 38 yL_makes, Cond.static yL_makes, Cond.code yL_makes cL_makes 6 (some .int), Cond.methodLink RL 41 yX6_part]
def wsL_law_r11 : List Cond := [Cond.instanceMethod yX6_part, Cond.selects RX6 yX6_part yX6_part, Cond.code yX6_part cX6_part 3 (some .int), Cond.methodLink RX6 52 yX3_partLot, Cond.instanceMethod yX3_partLot, Cond.selects RX3 yX3_partLot yX3_partLot, Cond.code yX3_partLot cX3_partLot 4 (some .int), Cond.constant RX3 82 (-2000000002), Cond.constant RX3 87 (-2000000003), Cond.methodLink RX3 75 yX4_rowOf, Cond.methodLink RX3 83 yX4_isFull, Cond.methodLink RL 45 yX6_cup, Cond.instanceMethod yX6_cup, Cond.selects RX6 yX6_cup yX6_cup, Cond.code yX6_cup cX6_cup 2 (some .int), Cond.methodLink RX6 59 yX3_cupAnew, Cond.instanceMethod yX3_cupAnew, Cond.selects RX3 yX3_cupAnew yX3_cupAnew, Cond.code yX3_cupAnew cX3_cupAnew 3 (some .int), Cond.methodLink RL 47 yX6_blend, Cond.instanceMethod yX6_blend, Cond.selects RX6 yX6_blend yX6_blend, Cond.code yX6_blend cX6_blend 5 (some .int), Cond.methodLink RX6 55 yX3_blendLots]
def wsL_law_r12 : List Cond := [Cond.instanceMethod yX3_blendLots, Cond.selects RX3 yX3_blendLots yX3_blendLots, Cond.code yX3_blendLots cX3_blendLots 11 (some .int), Cond.methodLink RX3 98 yX4_dropEmpty, Cond.instanceMethod yX4_dropEmpty, Cond.selects RX4 yX4_dropEmpty yX4_dropEmpty, Cond.code yX4_dropEmpty cX4_dropEmpty 3 none, Cond.methodLink RL 52 yL_takes, Cond.static yL_takes, Cond.code yL_takes cL_takes 6 none, Cond.methodLink RL 23 yL_find, Cond.static yL_find, Cond.code yL_find cL_find 4 (some .int), Cond.methodLink RL 64 yX6_sell, Cond.instanceMethod yX6_sell, Cond.selects RX6 yX6_sell yX6_sell, Cond.code yX6_sell cX6_sell 3 (some .int), Cond.methodLink RX6 65 yX3_sellContract, Cond.instanceMethod yX3_sellContract, Cond.selects RX3 yX3_sellContract yX3_sellContract, Cond.code yX3_sellContract cX3_sellContract 3 (some .int), Cond.methodLink RX3 101 yX3_isDeliveryMonth, Cond.instanceMethod yX3_isDeliveryMonth, Cond.selects RX3 yX3_isDeliveryMonth yX3_isDeliveryMonth]
def wsL_law_r13 : List Cond := [Cond.code yX3_isDeliveryMonth cX3_isDeliveryMonth 2 (some .boolean), Cond.methodLink RX3 149 yJ9_floorMod_7cf53, Cond.static yJ9_floorMod_7cf53, Cond.initialized RJ9, Cond.code yJ9_floorMod_7cf53 cJ9_floorMod_7cf53 3 (some .int), Cond.methodLink RX3 105 yX0_add, Cond.instanceMethod yX0_add, Cond.selects RX0 yX0_add yX0_add, Cond.code yX0_add cX0_add 3 (some .int), Cond.constant RX0 22 (-2000000003), Cond.methodLink RL 67 yX6_meet, Cond.instanceMethod yX6_meet, Cond.selects RX6 yX6_meet yX6_meet, Cond.code yX6_meet cX6_meet 2 (some .int), Cond.methodLink RX6 71 yX3_meetContract, Cond.instanceMethod yX3_meetContract, Cond.selects RX3 yX3_meetContract yX3_meetContract, Cond.code yX3_meetContract cX3_meetContract 4 (some .int), Cond.fieldLink RX3 117 "CupReceipts$Contracts" "months" "[I", Cond.fieldLink RX3 110 "CupReceipts$Contracts" "prices" "[I", Cond.fieldLink RX3 124 "CupReceipts$Delivery" "missing" "I", Cond.fieldLink RX3 127 "CupReceipts$Delivery" "places" "I", Cond.fieldLink RX3 130 "CupReceipts$Delivery" "rows" "[I", Cond.fieldLink RX3 133 "CupReceipts$Delivery" "bags" "[I"]
def wsL_law_r14 : List Cond := [Cond.fieldLink RX3 134 "CupReceipts$Delivery" "pay" "I", Cond.methodLink RX3 107 yX0_isOpen, Cond.methodLink RX3 118 yX1_plan, Cond.instanceMethod yX1_plan, Cond.selects RX1 yX1_plan yX1_plan, Cond.code yX1_plan cX1_plan 6 none, Cond.fieldLink RX1 35 "CupReceipts$Delivery" "places" "I", Cond.fieldLink RX1 39 "CupReceipts$House" "settings" "[I", Cond.fieldLink RX1 44 "CupReceipts$Delivery" "missing" "I", Cond.fieldLink RX1 47 "CupReceipts$Delivery" "pay" "I", Cond.fieldLink RX1 50 "CupReceipts$Delivery" "gain" "I", Cond.fieldLink RX1 53 "CupReceipts$Delivery" "sumOfCups" "I", Cond.fieldLink RX1 56 "CupReceipts$Delivery" "usedUp" "I", Cond.fieldLink RX1 59 "CupReceipts$House" "lots" "LCupReceipts$Lots;", Cond.fieldLink RX1 63 "CupReceipts$Lots" "size" "I", Cond.fieldLink RX1 72 "CupReceipts$Lots" "bags" "[I", Cond.methodLink RX1 31 yX1_rate, Cond.instanceMethod yX1_rate, Cond.selects RX1 yX1_rate yX1_rate, Cond.code yX1_rate cX1_rate 6 none, Cond.fieldLink RX1 88 "CupReceipts$House" "worths" "[I", Cond.methodLink RX1 77 yX4_cupAt, Cond.methodLink RX1 81 yX4_monthsTooOld, Cond.methodLink RX1 84 yX3_payForBag]
def wsL_law_r15 : List Cond := [Cond.instanceMethod yX3_payForBag, Cond.selects RX3 yX3_payForBag yX3_payForBag, Cond.code yX3_payForBag cX3_payForBag 5 (some .int), Cond.methodLink RX1 68 yX1_rowOfGreatestGain, Cond.instanceMethod yX1_rowOfGreatestGain, Cond.selects RX1 yX1_rowOfGreatestGain yX1_rowOfGreatestGain, Cond.code yX1_rowOfGreatestGain cX1_rowOfGreatestGain 4 (some .int), Cond.methodLink RX1 73 yX1_take, Cond.instanceMethod yX1_take, Cond.selects RX1 yX1_take yX1_take, Cond.code yX1_take cX1_take 4 none, Cond.methodLink RX1 94 Lib.Math.min.name, Cond.static Lib.Math.min.name, Cond.initialized "java/lang/Math", Cond.code Lib.Math.min.name Lib.Math.min.code 2 (some .int), Cond.methodLink RX3 113 yX0_drop, Cond.instanceMethod yX0_drop, Cond.selects RX0 yX0_drop yX0_drop, Cond.code yX0_drop cX0_drop 3 none, Cond.methodLink RX0 23 yX0_isOpen, Cond.methodLink RL 70 yX6_buyBack, Cond.instanceMethod yX6_buyBack, Cond.selects RX6 yX6_buyBack yX6_buyBack, Cond.code yX6_buyBack cX6_buyBack 3 (some .int)]
def wsL_law_r16 : List Cond := [Cond.methodLink RX6 68 yX3_buyContractBack, Cond.instanceMethod yX3_buyContractBack, Cond.selects RX3 yX3_buyContractBack yX3_buyContractBack, Cond.code yX3_buyContractBack cX3_buyContractBack 4 (some .int), Cond.methodLink RL 73 yL_close, Cond.static yL_close, Cond.code yL_close cL_close 4 none, Cond.methodLink RL 77 yL_gives, Cond.static yL_gives, Cond.code yL_gives cL_gives 13 (some .int), Cond.constant RL 27 (2000000), Cond.methodLink RL 28 yL_gain, Cond.static yL_gain, Cond.code yL_gain cL_gain 5 (some .int), Cond.methodLink RL 15 yL_paid, Cond.static yL_paid, Cond.code yL_paid cL_paid 7 (some .int), Cond.methodLink RL 81 yL_paidAll, Cond.static yL_paidAll, Cond.code yL_paidAll cL_paidAll 10 (some .int), Cond.methodLink RL 85 yX6_pass, Cond.instanceMethod yX6_pass, Cond.selects RX6 yX6_pass yX6_pass, Cond.code yX6_pass cX6_pass 2 (some .int)]
def wsL_law_r17 : List Cond := [Cond.methodLink RX6 75 yX3_passMonths, Cond.instanceMethod yX3_passMonths, Cond.selects RX3 yX3_passMonths yX3_passMonths, Cond.code yX3_passMonths cX3_passMonths 3 (some .int), Cond.methodLink RX3 137 yX0_dropBefore, Cond.instanceMethod yX0_dropBefore, Cond.selects RX0 yX0_dropBefore yX0_dropBefore, Cond.code yX0_dropBefore cX0_dropBefore 4 (some .int), Cond.methodLink RL 88 yX6_worth, Cond.instanceMethod yX6_worth, Cond.selects RX6 yX6_worth yX6_worth, Cond.code yX6_worth cX6_worth 3 (some .int), Cond.methodLink RX6 62 yX3_changeWorth, Cond.instanceMethod yX3_changeWorth, Cond.selects RX3 yX3_changeWorth yX3_changeWorth, Cond.code yX3_changeWorth cX3_changeWorth 4 (some .int), Cond.methodLink RL 91 yX6_set, Cond.instanceMethod yX6_set, Cond.selects RX6 yX6_set yX6_set, Cond.code yX6_set cX6_set 3 (some .int), Cond.methodLink RX6 78 yX3_changeSetting, Cond.instanceMethod yX3_changeSetting, Cond.selects RX3 yX3_changeSetting yX3_changeSetting, Cond.code yX3_changeSetting cX3_changeSetting 4 (some .int)]
def wsL_law : List Cond := (wsL_law_r1 ++ (wsL_law_r2 ++ (wsL_law_r3 ++ (wsL_law_r4 ++ (wsL_law_r5 ++ (wsL_law_r6 ++ (wsL_law_r7 ++ (wsL_law_r8 ++ (wsL_law_r9 ++ (wsL_law_r10 ++ (wsL_law_r11 ++ (wsL_law_r12 ++ (wsL_law_r13 ++ (wsL_law_r14 ++ (wsL_law_r15 ++ (wsL_law_r16 ++ wsL_law_r17)))))))))))))))) ++ wsX60 ++ wsX30 ++ wsX20 ++ wsX10 ++ wsX50 ++ wsX40 ++ wsX00 ++ ([] : List Cond)
abbrev vwCl : List vw_C := [(RX0, TX0, 3), (RX1, TX1, 12), (RX2, TX2, 2), (RX3, TX3, 9), (RX4, TX4, 6), (RX5, TX5, 8), (RX6, TX6, 5)]
end
section
theorem dX0_init_0 : decode cX0_init 0 = .ok (.aload_n 0, 1) := by decide +kernel
theorem dX0_init_1 : decode cX0_init 1 = .ok (.invokespecial 3, 3) := by decide +kernel
theorem dX0_init_4 : decode cX0_init 4 = .ok (.aload_n 0, 1) := by decide +kernel
theorem dX0_init_5 : decode cX0_init 5 = .ok (.bipush 6, 2) := by decide +kernel
theorem dX0_init_7 : decode cX0_init 7 = .ok (.newarray .int, 2) := by decide +kernel
theorem dX0_init_9 : decode cX0_init 9 = .ok (.putfield 9, 3) := by decide +kernel
theorem dX0_init_12 : decode cX0_init 12 = .ok (.aload_n 0, 1) := by decide +kernel
theorem dX0_init_13 : decode cX0_init 13 = .ok (.bipush 6, 2) := by decide +kernel
theorem dX0_init_15 : decode cX0_init 15 = .ok (.newarray .int, 2) := by decide +kernel
theorem dX0_init_17 : decode cX0_init 17 = .ok (.putfield 15, 3) := by decide +kernel
theorem dX0_init_20 : decode cX0_init 20 = .ok (.return_, 1) := by decide +kernel
theorem dX0_copyFrom_0 : decode cX0_copyFrom 0 = .ok (.iconst 0, 1) := by decide +kernel
theorem dX0_copyFrom_1 : decode cX0_copyFrom 1 = .ok (.istore_n 2, 1) := by decide +kernel
theorem dX0_copyFrom_2 : decode cX0_copyFrom 2 = .ok (.iload_n 2, 1) := by decide +kernel
theorem dX0_copyFrom_3 : decode cX0_copyFrom 3 = .ok (.bipush 6, 2) := by decide +kernel
theorem dX0_copyFrom_5 : decode cX0_copyFrom 5 = .ok (.if_icmp .ge 33, 3) := by decide +kernel
theorem dX0_copyFrom_8 : decode cX0_copyFrom 8 = .ok (.aload_n 0, 1) := by decide +kernel
theorem dX0_copyFrom_9 : decode cX0_copyFrom 9 = .ok (.getfield 9, 3) := by decide +kernel
theorem dX0_copyFrom_12 : decode cX0_copyFrom 12 = .ok (.iload_n 2, 1) := by decide +kernel
theorem dX0_copyFrom_13 : decode cX0_copyFrom 13 = .ok (.aload_n 1, 1) := by decide +kernel
theorem dX0_copyFrom_14 : decode cX0_copyFrom 14 = .ok (.getfield 9, 3) := by decide +kernel
theorem dX0_copyFrom_17 : decode cX0_copyFrom 17 = .ok (.iload_n 2, 1) := by decide +kernel
theorem dX0_copyFrom_18 : decode cX0_copyFrom 18 = .ok (.iaload, 1) := by decide +kernel
theorem dX0_copyFrom_19 : decode cX0_copyFrom 19 = .ok (.iastore, 1) := by decide +kernel
theorem dX0_copyFrom_20 : decode cX0_copyFrom 20 = .ok (.aload_n 0, 1) := by decide +kernel
theorem dX0_copyFrom_21 : decode cX0_copyFrom 21 = .ok (.getfield 15, 3) := by decide +kernel
theorem dX0_copyFrom_24 : decode cX0_copyFrom 24 = .ok (.iload_n 2, 1) := by decide +kernel
theorem dX0_copyFrom_25 : decode cX0_copyFrom 25 = .ok (.aload_n 1, 1) := by decide +kernel
theorem dX0_copyFrom_26 : decode cX0_copyFrom 26 = .ok (.getfield 15, 3) := by decide +kernel
theorem dX0_copyFrom_29 : decode cX0_copyFrom 29 = .ok (.iload_n 2, 1) := by decide +kernel
theorem dX0_copyFrom_30 : decode cX0_copyFrom 30 = .ok (.iaload, 1) := by decide +kernel
theorem dX0_copyFrom_31 : decode cX0_copyFrom 31 = .ok (.iastore, 1) := by decide +kernel
theorem dX0_copyFrom_32 : decode cX0_copyFrom 32 = .ok (.iinc 2 1, 3) := by decide +kernel
theorem dX0_copyFrom_35 : decode cX0_copyFrom 35 = .ok (.goto (-33), 3) := by decide +kernel
theorem dX0_copyFrom_38 : decode cX0_copyFrom 38 = .ok (.aload_n 0, 1) := by decide +kernel
theorem dX0_copyFrom_39 : decode cX0_copyFrom 39 = .ok (.aload_n 1, 1) := by decide +kernel
theorem dX0_copyFrom_40 : decode cX0_copyFrom 40 = .ok (.getfield 18, 3) := by decide +kernel
theorem dX0_copyFrom_43 : decode cX0_copyFrom 43 = .ok (.putfield 18, 3) := by decide +kernel
theorem dX0_copyFrom_46 : decode cX0_copyFrom 46 = .ok (.return_, 1) := by decide +kernel
theorem dX0_isOpen_0 : decode cX0_isOpen 0 = .ok (.iload_n 1, 1) := by decide +kernel
theorem dX0_isOpen_1 : decode cX0_isOpen 1 = .ok (.ifCond .lt 15, 3) := by decide +kernel
theorem dX0_isOpen_4 : decode cX0_isOpen 4 = .ok (.iload_n 1, 1) := by decide +kernel
theorem dX0_isOpen_5 : decode cX0_isOpen 5 = .ok (.aload_n 0, 1) := by decide +kernel
theorem dX0_isOpen_6 : decode cX0_isOpen 6 = .ok (.getfield 18, 3) := by decide +kernel
theorem dX0_isOpen_9 : decode cX0_isOpen 9 = .ok (.if_icmp .ge 7, 3) := by decide +kernel
theorem dX0_isOpen_12 : decode cX0_isOpen 12 = .ok (.iconst 1, 1) := by decide +kernel
theorem dX0_isOpen_13 : decode cX0_isOpen 13 = .ok (.goto 4, 3) := by decide +kernel
theorem dX0_isOpen_16 : decode cX0_isOpen 16 = .ok (.iconst 0, 1) := by decide +kernel
theorem dX0_isOpen_17 : decode cX0_isOpen 17 = .ok (.ireturn, 1) := by decide +kernel
theorem dX0_add_0 : decode cX0_add 0 = .ok (.aload_n 0, 1) := by decide +kernel
theorem dX0_add_1 : decode cX0_add 1 = .ok (.getfield 18, 3) := by decide +kernel
theorem dX0_add_4 : decode cX0_add 4 = .ok (.bipush 6, 2) := by decide +kernel
theorem dX0_add_6 : decode cX0_add 6 = .ok (.if_icmp .lt 6, 3) := by decide +kernel
theorem dX0_add_9 : decode cX0_add 9 = .ok (.ldc 22, 2) := by decide +kernel
theorem dX0_add_11 : decode cX0_add 11 = .ok (.ireturn, 1) := by decide +kernel
theorem dX0_add_12 : decode cX0_add 12 = .ok (.aload_n 0, 1) := by decide +kernel
theorem dX0_add_13 : decode cX0_add 13 = .ok (.getfield 9, 3) := by decide +kernel
theorem dX0_add_16 : decode cX0_add 16 = .ok (.aload_n 0, 1) := by decide +kernel
theorem dX0_add_17 : decode cX0_add 17 = .ok (.getfield 18, 3) := by decide +kernel
theorem dX0_add_20 : decode cX0_add 20 = .ok (.iload_n 1, 1) := by decide +kernel
theorem dX0_add_21 : decode cX0_add 21 = .ok (.iastore, 1) := by decide +kernel
theorem dX0_add_22 : decode cX0_add 22 = .ok (.aload_n 0, 1) := by decide +kernel
theorem dX0_add_23 : decode cX0_add 23 = .ok (.getfield 15, 3) := by decide +kernel
theorem dX0_add_26 : decode cX0_add 26 = .ok (.aload_n 0, 1) := by decide +kernel
theorem dX0_add_27 : decode cX0_add 27 = .ok (.getfield 18, 3) := by decide +kernel
theorem dX0_add_30 : decode cX0_add 30 = .ok (.iload_n 2, 1) := by decide +kernel
theorem dX0_add_31 : decode cX0_add 31 = .ok (.iastore, 1) := by decide +kernel
theorem dX0_add_32 : decode cX0_add 32 = .ok (.aload_n 0, 1) := by decide +kernel
theorem dX0_add_33 : decode cX0_add 33 = .ok (.dup, 1) := by decide +kernel
theorem dX0_add_34 : decode cX0_add 34 = .ok (.getfield 18, 3) := by decide +kernel
theorem dX0_add_37 : decode cX0_add 37 = .ok (.iconst 1, 1) := by decide +kernel
theorem dX0_add_38 : decode cX0_add 38 = .ok (.iadd, 1) := by decide +kernel
theorem dX0_add_39 : decode cX0_add 39 = .ok (.putfield 18, 3) := by decide +kernel
theorem dX0_add_42 : decode cX0_add 42 = .ok (.aload_n 0, 1) := by decide +kernel
theorem dX0_add_43 : decode cX0_add 43 = .ok (.getfield 18, 3) := by decide +kernel
theorem dX0_add_46 : decode cX0_add 46 = .ok (.iconst 1, 1) := by decide +kernel
theorem dX0_add_47 : decode cX0_add 47 = .ok (.isub, 1) := by decide +kernel
theorem dX0_add_48 : decode cX0_add 48 = .ok (.ireturn, 1) := by decide +kernel
set_option maxRecDepth 20000 in
theorem ggX0_drop_X0_isOpen : GoodIn wsX0_drop wsX0_isOpen := goodIn_r _ [8, 1, 9, 10, 11] (by decide +kernel) (by decide +kernel)
set_option maxRecDepth 20000 in
theorem gX0_drop_X0_isOpen : GoodIn wsX0_drop (wsV RX0 23 RX0 yX0_isOpen wsX0_isOpen) := goodIn_app (goodIn_of _ (by decide +kernel)) ggX0_drop_X0_isOpen
theorem dX0_drop_0 : decode cX0_drop 0 = .ok (.aload_n 0, 1) := by decide +kernel
theorem dX0_drop_1 : decode cX0_drop 1 = .ok (.iload_n 1, 1) := by decide +kernel
theorem dX0_drop_2 : decode cX0_drop 2 = .ok (.invokevirtual 23, 3) := by decide +kernel
theorem dX0_drop_5 : decode cX0_drop 5 = .ok (.ifCond .ne 4, 3) := by decide +kernel
theorem dX0_drop_8 : decode cX0_drop 8 = .ok (.return_, 1) := by decide +kernel
theorem dX0_drop_9 : decode cX0_drop 9 = .ok (.iload_n 1, 1) := by decide +kernel
theorem dX0_drop_10 : decode cX0_drop 10 = .ok (.iconst 1, 1) := by decide +kernel
theorem dX0_drop_11 : decode cX0_drop 11 = .ok (.iadd, 1) := by decide +kernel
theorem dX0_drop_12 : decode cX0_drop 12 = .ok (.istore_n 2, 1) := by decide +kernel
theorem dX0_drop_13 : decode cX0_drop 13 = .ok (.iload_n 2, 1) := by decide +kernel
theorem dX0_drop_14 : decode cX0_drop 14 = .ok (.aload_n 0, 1) := by decide +kernel
theorem dX0_drop_15 : decode cX0_drop 15 = .ok (.getfield 18, 3) := by decide +kernel
theorem dX0_drop_18 : decode cX0_drop 18 = .ok (.if_icmp .ge 37, 3) := by decide +kernel
theorem dX0_drop_21 : decode cX0_drop 21 = .ok (.aload_n 0, 1) := by decide +kernel
theorem dX0_drop_22 : decode cX0_drop 22 = .ok (.getfield 9, 3) := by decide +kernel
theorem dX0_drop_25 : decode cX0_drop 25 = .ok (.iload_n 2, 1) := by decide +kernel
theorem dX0_drop_26 : decode cX0_drop 26 = .ok (.iconst 1, 1) := by decide +kernel
theorem dX0_drop_27 : decode cX0_drop 27 = .ok (.isub, 1) := by decide +kernel
theorem dX0_drop_28 : decode cX0_drop 28 = .ok (.aload_n 0, 1) := by decide +kernel
theorem dX0_drop_29 : decode cX0_drop 29 = .ok (.getfield 9, 3) := by decide +kernel
theorem dX0_drop_32 : decode cX0_drop 32 = .ok (.iload_n 2, 1) := by decide +kernel
theorem dX0_drop_33 : decode cX0_drop 33 = .ok (.iaload, 1) := by decide +kernel
theorem dX0_drop_34 : decode cX0_drop 34 = .ok (.iastore, 1) := by decide +kernel
theorem dX0_drop_35 : decode cX0_drop 35 = .ok (.aload_n 0, 1) := by decide +kernel
theorem dX0_drop_36 : decode cX0_drop 36 = .ok (.getfield 15, 3) := by decide +kernel
theorem dX0_drop_39 : decode cX0_drop 39 = .ok (.iload_n 2, 1) := by decide +kernel
theorem dX0_drop_40 : decode cX0_drop 40 = .ok (.iconst 1, 1) := by decide +kernel
theorem dX0_drop_41 : decode cX0_drop 41 = .ok (.isub, 1) := by decide +kernel
theorem dX0_drop_42 : decode cX0_drop 42 = .ok (.aload_n 0, 1) := by decide +kernel
theorem dX0_drop_43 : decode cX0_drop 43 = .ok (.getfield 15, 3) := by decide +kernel
theorem dX0_drop_46 : decode cX0_drop 46 = .ok (.iload_n 2, 1) := by decide +kernel
theorem dX0_drop_47 : decode cX0_drop 47 = .ok (.iaload, 1) := by decide +kernel
theorem dX0_drop_48 : decode cX0_drop 48 = .ok (.iastore, 1) := by decide +kernel
theorem dX0_drop_49 : decode cX0_drop 49 = .ok (.iinc 2 1, 3) := by decide +kernel
theorem dX0_drop_52 : decode cX0_drop 52 = .ok (.goto (-39), 3) := by decide +kernel
theorem dX0_drop_55 : decode cX0_drop 55 = .ok (.aload_n 0, 1) := by decide +kernel
theorem dX0_drop_56 : decode cX0_drop 56 = .ok (.dup, 1) := by decide +kernel
theorem dX0_drop_57 : decode cX0_drop 57 = .ok (.getfield 18, 3) := by decide +kernel
theorem dX0_drop_60 : decode cX0_drop 60 = .ok (.iconst 1, 1) := by decide +kernel
theorem dX0_drop_61 : decode cX0_drop 61 = .ok (.isub, 1) := by decide +kernel
theorem dX0_drop_62 : decode cX0_drop 62 = .ok (.putfield 18, 3) := by decide +kernel
theorem dX0_drop_65 : decode cX0_drop 65 = .ok (.return_, 1) := by decide +kernel
theorem dX0_dropBefore_0 : decode cX0_dropBefore 0 = .ok (.iconst 0, 1) := by decide +kernel
theorem dX0_dropBefore_1 : decode cX0_dropBefore 1 = .ok (.istore_n 2, 1) := by decide +kernel
theorem dX0_dropBefore_2 : decode cX0_dropBefore 2 = .ok (.iconst 0, 1) := by decide +kernel
theorem dX0_dropBefore_3 : decode cX0_dropBefore 3 = .ok (.istore_n 3, 1) := by decide +kernel
theorem dX0_dropBefore_4 : decode cX0_dropBefore 4 = .ok (.iload_n 3, 1) := by decide +kernel
theorem dX0_dropBefore_5 : decode cX0_dropBefore 5 = .ok (.aload_n 0, 1) := by decide +kernel
theorem dX0_dropBefore_6 : decode cX0_dropBefore 6 = .ok (.getfield 18, 3) := by decide +kernel
theorem dX0_dropBefore_9 : decode cX0_dropBefore 9 = .ok (.if_icmp .ge 46, 3) := by decide +kernel
theorem dX0_dropBefore_12 : decode cX0_dropBefore 12 = .ok (.aload_n 0, 1) := by decide +kernel
theorem dX0_dropBefore_13 : decode cX0_dropBefore 13 = .ok (.getfield 9, 3) := by decide +kernel
theorem dX0_dropBefore_16 : decode cX0_dropBefore 16 = .ok (.iload_n 3, 1) := by decide +kernel
theorem dX0_dropBefore_17 : decode cX0_dropBefore 17 = .ok (.iaload, 1) := by decide +kernel
theorem dX0_dropBefore_18 : decode cX0_dropBefore 18 = .ok (.iload_n 1, 1) := by decide +kernel
theorem dX0_dropBefore_19 : decode cX0_dropBefore 19 = .ok (.if_icmp .lt 30, 3) := by decide +kernel
theorem dX0_dropBefore_22 : decode cX0_dropBefore 22 = .ok (.aload_n 0, 1) := by decide +kernel
theorem dX0_dropBefore_23 : decode cX0_dropBefore 23 = .ok (.getfield 9, 3) := by decide +kernel
theorem dX0_dropBefore_26 : decode cX0_dropBefore 26 = .ok (.iload_n 2, 1) := by decide +kernel
theorem dX0_dropBefore_27 : decode cX0_dropBefore 27 = .ok (.aload_n 0, 1) := by decide +kernel
theorem dX0_dropBefore_28 : decode cX0_dropBefore 28 = .ok (.getfield 9, 3) := by decide +kernel
theorem dX0_dropBefore_31 : decode cX0_dropBefore 31 = .ok (.iload_n 3, 1) := by decide +kernel
theorem dX0_dropBefore_32 : decode cX0_dropBefore 32 = .ok (.iaload, 1) := by decide +kernel
theorem dX0_dropBefore_33 : decode cX0_dropBefore 33 = .ok (.iastore, 1) := by decide +kernel
theorem dX0_dropBefore_34 : decode cX0_dropBefore 34 = .ok (.aload_n 0, 1) := by decide +kernel
theorem dX0_dropBefore_35 : decode cX0_dropBefore 35 = .ok (.getfield 15, 3) := by decide +kernel
theorem dX0_dropBefore_38 : decode cX0_dropBefore 38 = .ok (.iload_n 2, 1) := by decide +kernel
theorem dX0_dropBefore_39 : decode cX0_dropBefore 39 = .ok (.aload_n 0, 1) := by decide +kernel
theorem dX0_dropBefore_40 : decode cX0_dropBefore 40 = .ok (.getfield 15, 3) := by decide +kernel
theorem dX0_dropBefore_43 : decode cX0_dropBefore 43 = .ok (.iload_n 3, 1) := by decide +kernel
theorem dX0_dropBefore_44 : decode cX0_dropBefore 44 = .ok (.iaload, 1) := by decide +kernel
theorem dX0_dropBefore_45 : decode cX0_dropBefore 45 = .ok (.iastore, 1) := by decide +kernel
theorem dX0_dropBefore_46 : decode cX0_dropBefore 46 = .ok (.iinc 2 1, 3) := by decide +kernel
theorem dX0_dropBefore_49 : decode cX0_dropBefore 49 = .ok (.iinc 3 1, 3) := by decide +kernel
theorem dX0_dropBefore_52 : decode cX0_dropBefore 52 = .ok (.goto (-48), 3) := by decide +kernel
theorem dX0_dropBefore_55 : decode cX0_dropBefore 55 = .ok (.aload_n 0, 1) := by decide +kernel
theorem dX0_dropBefore_56 : decode cX0_dropBefore 56 = .ok (.getfield 18, 3) := by decide +kernel
theorem dX0_dropBefore_59 : decode cX0_dropBefore 59 = .ok (.iload_n 2, 1) := by decide +kernel
theorem dX0_dropBefore_60 : decode cX0_dropBefore 60 = .ok (.isub, 1) := by decide +kernel
theorem dX0_dropBefore_61 : decode cX0_dropBefore 61 = .ok (.istore_n 3, 1) := by decide +kernel
theorem dX0_dropBefore_62 : decode cX0_dropBefore 62 = .ok (.aload_n 0, 1) := by decide +kernel
theorem dX0_dropBefore_63 : decode cX0_dropBefore 63 = .ok (.iload_n 2, 1) := by decide +kernel
theorem dX0_dropBefore_64 : decode cX0_dropBefore 64 = .ok (.putfield 18, 3) := by decide +kernel
theorem dX0_dropBefore_67 : decode cX0_dropBefore 67 = .ok (.iload_n 3, 1) := by decide +kernel
theorem dX0_dropBefore_68 : decode cX0_dropBefore 68 = .ok (.ireturn, 1) := by decide +kernel
theorem dX1_init_0 : decode cX1_init 0 = .ok (.aload_n 0, 1) := by decide +kernel
theorem dX1_init_1 : decode cX1_init 1 = .ok (.invokespecial 3, 3) := by decide +kernel
theorem dX1_init_4 : decode cX1_init 4 = .ok (.aload_n 0, 1) := by decide +kernel
theorem dX1_init_5 : decode cX1_init 5 = .ok (.bipush 12, 2) := by decide +kernel
theorem dX1_init_7 : decode cX1_init 7 = .ok (.newarray .int, 2) := by decide +kernel
theorem dX1_init_9 : decode cX1_init 9 = .ok (.putfield 9, 3) := by decide +kernel
theorem dX1_init_12 : decode cX1_init 12 = .ok (.aload_n 0, 1) := by decide +kernel
theorem dX1_init_13 : decode cX1_init 13 = .ok (.bipush 12, 2) := by decide +kernel
theorem dX1_init_15 : decode cX1_init 15 = .ok (.newarray .int, 2) := by decide +kernel
theorem dX1_init_17 : decode cX1_init 17 = .ok (.putfield 15, 3) := by decide +kernel
theorem dX1_init_20 : decode cX1_init 20 = .ok (.aload_n 0, 1) := by decide +kernel
theorem dX1_init_21 : decode cX1_init 21 = .ok (.bipush 12, 2) := by decide +kernel
theorem dX1_init_23 : decode cX1_init 23 = .ok (.newarray .boolean, 2) := by decide +kernel
theorem dX1_init_25 : decode cX1_init 25 = .ok (.putfield 18, 3) := by decide +kernel
theorem dX1_init_28 : decode cX1_init 28 = .ok (.aload_n 0, 1) := by decide +kernel
theorem dX1_init_29 : decode cX1_init 29 = .ok (.bipush 12, 2) := by decide +kernel
theorem dX1_init_31 : decode cX1_init 31 = .ok (.newarray .int, 2) := by decide +kernel
theorem dX1_init_33 : decode cX1_init 33 = .ok (.putfield 22, 3) := by decide +kernel
theorem dX1_init_36 : decode cX1_init 36 = .ok (.aload_n 0, 1) := by decide +kernel
theorem dX1_init_37 : decode cX1_init 37 = .ok (.bipush 12, 2) := by decide +kernel
theorem dX1_init_39 : decode cX1_init 39 = .ok (.newarray .int, 2) := by decide +kernel
theorem dX1_init_41 : decode cX1_init 41 = .ok (.putfield 25, 3) := by decide +kernel
theorem dX1_init_44 : decode cX1_init 44 = .ok (.aload_n 0, 1) := by decide +kernel
theorem dX1_init_45 : decode cX1_init 45 = .ok (.bipush 12, 2) := by decide +kernel
theorem dX1_init_47 : decode cX1_init 47 = .ok (.newarray .int, 2) := by decide +kernel
theorem dX1_init_49 : decode cX1_init 49 = .ok (.putfield 28, 3) := by decide +kernel
theorem dX1_init_52 : decode cX1_init 52 = .ok (.return_, 1) := by decide +kernel
set_option maxRecDepth 20000 in
theorem ggX1_plan_X1_rate : GoodIn wsX1_plan wsX1_rate := goodIn_r _ [15, 8, 9, 16, 17, 18, 19, 20, 21, 22, 23, 24, 25, 26, 27, 28, 29, 30, 31, 32, 33, 34, 35, 36, 37, 38, 39, 40, 67, 68, 69, 70, 71, 72, 73, 74, 75, 76, 77, 78, 79, 80, 81, 55, 56, 57, 58, 59, 60, 61, 62, 63, 64, 65, 66] (by decide +kernel) (by decide +kernel)
set_option maxRecDepth 20000 in
theorem gX1_plan_X1_rate : GoodIn wsX1_plan (wsV RX1 31 RX1 yX1_rate wsX1_rate) := goodIn_app (goodIn_of _ (by decide +kernel)) ggX1_plan_X1_rate
set_option maxRecDepth 20000 in
theorem ggX1_plan_X1_rowOfGreatestGain : GoodIn wsX1_plan wsX1_rowOfGreatestGain := goodIn_r _ [44, 16, 19, 55, 56, 57, 58, 59, 60, 61, 62, 63, 64, 65, 66] (by decide +kernel) (by decide +kernel)
set_option maxRecDepth 20000 in
theorem gX1_plan_X1_rowOfGreatestGain : GoodIn wsX1_plan (wsV RX1 68 RX1 yX1_rowOfGreatestGain wsX1_rowOfGreatestGain) := goodIn_app (goodIn_of _ (by decide +kernel)) ggX1_plan_X1_rowOfGreatestGain
set_option maxRecDepth 20000 in
theorem ggX1_plan_X1_take : GoodIn wsX1_plan wsX1_take := goodIn_r _ [48, 1, 3, 49, 50, 51, 52, 53, 54, 4, 18, 5, 19, 6, 17, 7, 16, 55, 56, 57, 58, 59, 60, 61, 62, 63, 64, 65, 66] (by decide +kernel) (by decide +kernel)
set_option maxRecDepth 20000 in
theorem gX1_plan_X1_take : GoodIn wsX1_plan (wsV RX1 73 RX1 yX1_take wsX1_take) := goodIn_app (goodIn_of _ (by decide +kernel)) ggX1_plan_X1_take
theorem dX1_plan_0 : decode cX1_plan 0 = .ok (.aload_n 0, 1) := by decide +kernel
theorem dX1_plan_1 : decode cX1_plan 1 = .ok (.aload_n 1, 1) := by decide +kernel
theorem dX1_plan_2 : decode cX1_plan 2 = .ok (.iload_n 2, 1) := by decide +kernel
theorem dX1_plan_3 : decode cX1_plan 3 = .ok (.iload_n 3, 1) := by decide +kernel
theorem dX1_plan_4 : decode cX1_plan 4 = .ok (.invokevirtual 31, 3) := by decide +kernel
theorem dX1_plan_7 : decode cX1_plan 7 = .ok (.aload_n 0, 1) := by decide +kernel
theorem dX1_plan_8 : decode cX1_plan 8 = .ok (.iconst 0, 1) := by decide +kernel
theorem dX1_plan_9 : decode cX1_plan 9 = .ok (.putfield 35, 3) := by decide +kernel
theorem dX1_plan_12 : decode cX1_plan 12 = .ok (.aload_n 0, 1) := by decide +kernel
theorem dX1_plan_13 : decode cX1_plan 13 = .ok (.aload_n 1, 1) := by decide +kernel
theorem dX1_plan_14 : decode cX1_plan 14 = .ok (.getfield 39, 3) := by decide +kernel
theorem dX1_plan_17 : decode cX1_plan 17 = .ok (.iconst 0, 1) := by decide +kernel
theorem dX1_plan_18 : decode cX1_plan 18 = .ok (.iaload, 1) := by decide +kernel
theorem dX1_plan_19 : decode cX1_plan 19 = .ok (.putfield 44, 3) := by decide +kernel
theorem dX1_plan_22 : decode cX1_plan 22 = .ok (.aload_n 0, 1) := by decide +kernel
theorem dX1_plan_23 : decode cX1_plan 23 = .ok (.iconst 0, 1) := by decide +kernel
theorem dX1_plan_24 : decode cX1_plan 24 = .ok (.putfield 47, 3) := by decide +kernel
theorem dX1_plan_27 : decode cX1_plan 27 = .ok (.aload_n 0, 1) := by decide +kernel
theorem dX1_plan_28 : decode cX1_plan 28 = .ok (.iconst 0, 1) := by decide +kernel
theorem dX1_plan_29 : decode cX1_plan 29 = .ok (.putfield 50, 3) := by decide +kernel
theorem dX1_plan_32 : decode cX1_plan 32 = .ok (.aload_n 0, 1) := by decide +kernel
theorem dX1_plan_33 : decode cX1_plan 33 = .ok (.iconst 0, 1) := by decide +kernel
theorem dX1_plan_34 : decode cX1_plan 34 = .ok (.putfield 53, 3) := by decide +kernel
theorem dX1_plan_37 : decode cX1_plan 37 = .ok (.aload_n 0, 1) := by decide +kernel
theorem dX1_plan_38 : decode cX1_plan 38 = .ok (.iconst 0, 1) := by decide +kernel
theorem dX1_plan_39 : decode cX1_plan 39 = .ok (.putfield 56, 3) := by decide +kernel
theorem dX1_plan_42 : decode cX1_plan 42 = .ok (.iconst 0, 1) := by decide +kernel
theorem dX1_plan_43 : decode cX1_plan 43 = .ok (.istore 4, 2) := by decide +kernel
theorem dX1_plan_45 : decode cX1_plan 45 = .ok (.iload 4, 2) := by decide +kernel
theorem dX1_plan_47 : decode cX1_plan 47 = .ok (.bipush 12, 2) := by decide +kernel
theorem dX1_plan_49 : decode cX1_plan 49 = .ok (.if_icmp .ge 50, 3) := by decide +kernel
theorem dX1_plan_52 : decode cX1_plan 52 = .ok (.aload_n 0, 1) := by decide +kernel
theorem dX1_plan_53 : decode cX1_plan 53 = .ok (.getfield 44, 3) := by decide +kernel
theorem dX1_plan_56 : decode cX1_plan 56 = .ok (.ifCond .le 43, 3) := by decide +kernel
theorem dX1_plan_59 : decode cX1_plan 59 = .ok (.aload_n 0, 1) := by decide +kernel
theorem dX1_plan_60 : decode cX1_plan 60 = .ok (.aload_n 1, 1) := by decide +kernel
theorem dX1_plan_61 : decode cX1_plan 61 = .ok (.getfield 59, 3) := by decide +kernel
theorem dX1_plan_64 : decode cX1_plan 64 = .ok (.getfield 63, 3) := by decide +kernel
theorem dX1_plan_67 : decode cX1_plan 67 = .ok (.invokevirtual 68, 3) := by decide +kernel
theorem dX1_plan_70 : decode cX1_plan 70 = .ok (.istore 5, 2) := by decide +kernel
theorem dX1_plan_72 : decode cX1_plan 72 = .ok (.iload 5, 2) := by decide +kernel
theorem dX1_plan_74 : decode cX1_plan 74 = .ok (.ifCond .lt 19, 3) := by decide +kernel
theorem dX1_plan_77 : decode cX1_plan 77 = .ok (.aload_n 0, 1) := by decide +kernel
theorem dX1_plan_78 : decode cX1_plan 78 = .ok (.iload 5, 2) := by decide +kernel
theorem dX1_plan_80 : decode cX1_plan 80 = .ok (.aload_n 1, 1) := by decide +kernel
theorem dX1_plan_81 : decode cX1_plan 81 = .ok (.getfield 59, 3) := by decide +kernel
theorem dX1_plan_84 : decode cX1_plan 84 = .ok (.getfield 72, 3) := by decide +kernel
theorem dX1_plan_87 : decode cX1_plan 87 = .ok (.iload 5, 2) := by decide +kernel
theorem dX1_plan_89 : decode cX1_plan 89 = .ok (.iaload, 1) := by decide +kernel
theorem dX1_plan_90 : decode cX1_plan 90 = .ok (.invokevirtual 73, 3) := by decide +kernel
theorem dX1_plan_93 : decode cX1_plan 93 = .ok (.iinc 4 1, 3) := by decide +kernel
theorem dX1_plan_96 : decode cX1_plan 96 = .ok (.goto (-51), 3) := by decide +kernel
theorem dX1_plan_99 : decode cX1_plan 99 = .ok (.return_, 1) := by decide +kernel
set_option maxRecDepth 20000 in
theorem ggX1_rate_X4_cupAt : GoodIn wsX1_rate wsX4_cupAt := goodIn_r _ [12, 13, 14, 37, 38, 39, 40, 41, 42] (by decide +kernel) (by decide +kernel)
set_option maxRecDepth 20000 in
theorem gX1_rate_X4_cupAt : GoodIn wsX1_rate (wsV RX1 77 RX4 yX4_cupAt wsX4_cupAt) := goodIn_app (goodIn_of _ (by decide +kernel)) ggX1_rate_X4_cupAt
set_option maxRecDepth 20000 in
theorem ggX1_rate_X4_monthsTooOld : GoodIn wsX1_rate wsX4_monthsTooOld := goodIn_r _ [18, 14, 37, 38, 39, 40, 41, 42] (by decide +kernel) (by decide +kernel)
set_option maxRecDepth 20000 in
theorem gX1_rate_X4_monthsTooOld : GoodIn wsX1_rate (wsV RX1 81 RX4 yX4_monthsTooOld wsX4_monthsTooOld) := goodIn_app (goodIn_of _ (by decide +kernel)) ggX1_rate_X4_monthsTooOld
set_option maxRecDepth 20000 in
theorem ggX1_rate_X3_payForBag : GoodIn wsX1_rate wsX3_payForBag := goodIn_r _ [23, 24, 28, 29, 30, 31, 32, 33, 34, 35, 36] (by decide +kernel) (by decide +kernel)
set_option maxRecDepth 20000 in
theorem gX1_rate_X3_payForBag : GoodIn wsX1_rate (wsV RX1 84 RX3 yX3_payForBag wsX3_payForBag) := goodIn_app (goodIn_of _ (by decide +kernel)) ggX1_rate_X3_payForBag
set_option maxRecDepth 20000 in
theorem ggX1_rate_X6_bandOf : GoodIn wsX1_rate wsX6_bandOf := goodIn_r _ [27] (by decide +kernel) (by decide +kernel)
set_option maxRecDepth 20000 in
theorem gX1_rate_X6_bandOf_n91 : GoodIn wsX1_rate (wsX6_bandOf) := ggX1_rate_X6_bandOf
theorem dX1_rate_0 : decode cX1_rate 0 = .ok (.iconst 0, 1) := by decide +kernel
theorem dX1_rate_1 : decode cX1_rate 1 = .ok (.istore 4, 2) := by decide +kernel
theorem dX1_rate_3 : decode cX1_rate 3 = .ok (.iload 4, 2) := by decide +kernel
theorem dX1_rate_5 : decode cX1_rate 5 = .ok (.aload_n 1, 1) := by decide +kernel
theorem dX1_rate_6 : decode cX1_rate 6 = .ok (.getfield 59, 3) := by decide +kernel
theorem dX1_rate_9 : decode cX1_rate 9 = .ok (.getfield 63, 3) := by decide +kernel
theorem dX1_rate_12 : decode cX1_rate 12 = .ok (.if_icmp .ge 98, 3) := by decide +kernel
theorem dX1_rate_15 : decode cX1_rate 15 = .ok (.aload_n 1, 1) := by decide +kernel
theorem dX1_rate_16 : decode cX1_rate 16 = .ok (.getfield 59, 3) := by decide +kernel
theorem dX1_rate_19 : decode cX1_rate 19 = .ok (.iload 4, 2) := by decide +kernel
theorem dX1_rate_21 : decode cX1_rate 21 = .ok (.iload_n 3, 1) := by decide +kernel
theorem dX1_rate_22 : decode cX1_rate 22 = .ok (.invokevirtual 77, 3) := by decide +kernel
theorem dX1_rate_25 : decode cX1_rate 25 = .ok (.istore 5, 2) := by decide +kernel
theorem dX1_rate_27 : decode cX1_rate 27 = .ok (.aload_n 0, 1) := by decide +kernel
theorem dX1_rate_28 : decode cX1_rate 28 = .ok (.getfield 18, 3) := by decide +kernel
theorem dX1_rate_31 : decode cX1_rate 31 = .ok (.iload 4, 2) := by decide +kernel
theorem dX1_rate_33 : decode cX1_rate 33 = .ok (.iload 5, 2) := by decide +kernel
theorem dX1_rate_35 : decode cX1_rate 35 = .ok (.bipush 70, 2) := by decide +kernel
theorem dX1_rate_37 : decode cX1_rate 37 = .ok (.if_icmp .lt 7, 3) := by decide +kernel
theorem dX1_rate_40 : decode cX1_rate 40 = .ok (.iconst 1, 1) := by decide +kernel
theorem dX1_rate_41 : decode cX1_rate 41 = .ok (.goto 4, 3) := by decide +kernel
theorem dX1_rate_44 : decode cX1_rate 44 = .ok (.iconst 0, 1) := by decide +kernel
theorem dX1_rate_45 : decode cX1_rate 45 = .ok (.bastore, 1) := by decide +kernel
theorem dX1_rate_46 : decode cX1_rate 46 = .ok (.aload_n 0, 1) := by decide +kernel
theorem dX1_rate_47 : decode cX1_rate 47 = .ok (.getfield 22, 3) := by decide +kernel
theorem dX1_rate_50 : decode cX1_rate 50 = .ok (.iload 4, 2) := by decide +kernel
theorem dX1_rate_52 : decode cX1_rate 52 = .ok (.iload 5, 2) := by decide +kernel
theorem dX1_rate_54 : decode cX1_rate 54 = .ok (.iastore, 1) := by decide +kernel
theorem dX1_rate_55 : decode cX1_rate 55 = .ok (.aload_n 0, 1) := by decide +kernel
theorem dX1_rate_56 : decode cX1_rate 56 = .ok (.getfield 25, 3) := by decide +kernel
theorem dX1_rate_59 : decode cX1_rate 59 = .ok (.iload 4, 2) := by decide +kernel
theorem dX1_rate_61 : decode cX1_rate 61 = .ok (.aload_n 1, 1) := by decide +kernel
theorem dX1_rate_62 : decode cX1_rate 62 = .ok (.iload_n 2, 1) := by decide +kernel
theorem dX1_rate_63 : decode cX1_rate 63 = .ok (.iload 5, 2) := by decide +kernel
theorem dX1_rate_65 : decode cX1_rate 65 = .ok (.aload_n 1, 1) := by decide +kernel
theorem dX1_rate_66 : decode cX1_rate 66 = .ok (.getfield 59, 3) := by decide +kernel
theorem dX1_rate_69 : decode cX1_rate 69 = .ok (.iload 4, 2) := by decide +kernel
theorem dX1_rate_71 : decode cX1_rate 71 = .ok (.iload_n 3, 1) := by decide +kernel
theorem dX1_rate_72 : decode cX1_rate 72 = .ok (.invokevirtual 81, 3) := by decide +kernel
theorem dX1_rate_75 : decode cX1_rate 75 = .ok (.invokevirtual 84, 3) := by decide +kernel
theorem dX1_rate_78 : decode cX1_rate 78 = .ok (.iastore, 1) := by decide +kernel
theorem dX1_rate_79 : decode cX1_rate 79 = .ok (.aload_n 0, 1) := by decide +kernel
theorem dX1_rate_80 : decode cX1_rate 80 = .ok (.getfield 28, 3) := by decide +kernel
theorem dX1_rate_83 : decode cX1_rate 83 = .ok (.iload 4, 2) := by decide +kernel
theorem dX1_rate_85 : decode cX1_rate 85 = .ok (.aload_n 0, 1) := by decide +kernel
theorem dX1_rate_86 : decode cX1_rate 86 = .ok (.getfield 25, 3) := by decide +kernel
theorem dX1_rate_89 : decode cX1_rate 89 = .ok (.iload 4, 2) := by decide +kernel
theorem dX1_rate_91 : decode cX1_rate 91 = .ok (.iaload, 1) := by decide +kernel
theorem dX1_rate_92 : decode cX1_rate 92 = .ok (.aload_n 1, 1) := by decide +kernel
theorem dX1_rate_93 : decode cX1_rate 93 = .ok (.getfield 88, 3) := by decide +kernel
theorem dX1_rate_96 : decode cX1_rate 96 = .ok (.iload 5, 2) := by decide +kernel
theorem dX1_rate_98 : decode cX1_rate 98 = .ok (.invokestatic 91, 3) := by decide +kernel
theorem dX1_rate_101 : decode cX1_rate 101 = .ok (.iaload, 1) := by decide +kernel
theorem dX1_rate_102 : decode cX1_rate 102 = .ok (.isub, 1) := by decide +kernel
theorem dX1_rate_103 : decode cX1_rate 103 = .ok (.iastore, 1) := by decide +kernel
theorem dX1_rate_104 : decode cX1_rate 104 = .ok (.iinc 4 1, 3) := by decide +kernel
theorem dX1_rate_107 : decode cX1_rate 107 = .ok (.goto (-104), 3) := by decide +kernel
theorem dX1_rate_110 : decode cX1_rate 110 = .ok (.return_, 1) := by decide +kernel
theorem dX1_rowOfGreatestGain_0 : decode cX1_rowOfGreatestGain 0 = .ok (.iconst (-1), 1) := by decide +kernel
theorem dX1_rowOfGreatestGain_1 : decode cX1_rowOfGreatestGain 1 = .ok (.istore_n 2, 1) := by decide +kernel
theorem dX1_rowOfGreatestGain_2 : decode cX1_rowOfGreatestGain 2 = .ok (.iconst 0, 1) := by decide +kernel
theorem dX1_rowOfGreatestGain_3 : decode cX1_rowOfGreatestGain 3 = .ok (.istore_n 3, 1) := by decide +kernel
theorem dX1_rowOfGreatestGain_4 : decode cX1_rowOfGreatestGain 4 = .ok (.iload_n 3, 1) := by decide +kernel
theorem dX1_rowOfGreatestGain_5 : decode cX1_rowOfGreatestGain 5 = .ok (.iload_n 1, 1) := by decide +kernel
theorem dX1_rowOfGreatestGain_6 : decode cX1_rowOfGreatestGain 6 = .ok (.if_icmp .ge 39, 3) := by decide +kernel
theorem dX1_rowOfGreatestGain_9 : decode cX1_rowOfGreatestGain 9 = .ok (.aload_n 0, 1) := by decide +kernel
theorem dX1_rowOfGreatestGain_10 : decode cX1_rowOfGreatestGain 10 = .ok (.getfield 18, 3) := by decide +kernel
theorem dX1_rowOfGreatestGain_13 : decode cX1_rowOfGreatestGain 13 = .ok (.iload_n 3, 1) := by decide +kernel
theorem dX1_rowOfGreatestGain_14 : decode cX1_rowOfGreatestGain 14 = .ok (.baload, 1) := by decide +kernel
theorem dX1_rowOfGreatestGain_15 : decode cX1_rowOfGreatestGain 15 = .ok (.ifCond .eq 24, 3) := by decide +kernel
theorem dX1_rowOfGreatestGain_18 : decode cX1_rowOfGreatestGain 18 = .ok (.iload_n 2, 1) := by decide +kernel
theorem dX1_rowOfGreatestGain_19 : decode cX1_rowOfGreatestGain 19 = .ok (.ifCond .lt 18, 3) := by decide +kernel
theorem dX1_rowOfGreatestGain_22 : decode cX1_rowOfGreatestGain 22 = .ok (.aload_n 0, 1) := by decide +kernel
theorem dX1_rowOfGreatestGain_23 : decode cX1_rowOfGreatestGain 23 = .ok (.getfield 28, 3) := by decide +kernel
theorem dX1_rowOfGreatestGain_26 : decode cX1_rowOfGreatestGain 26 = .ok (.iload_n 3, 1) := by decide +kernel
theorem dX1_rowOfGreatestGain_27 : decode cX1_rowOfGreatestGain 27 = .ok (.iaload, 1) := by decide +kernel
theorem dX1_rowOfGreatestGain_28 : decode cX1_rowOfGreatestGain 28 = .ok (.aload_n 0, 1) := by decide +kernel
theorem dX1_rowOfGreatestGain_29 : decode cX1_rowOfGreatestGain 29 = .ok (.getfield 28, 3) := by decide +kernel
theorem dX1_rowOfGreatestGain_32 : decode cX1_rowOfGreatestGain 32 = .ok (.iload_n 2, 1) := by decide +kernel
theorem dX1_rowOfGreatestGain_33 : decode cX1_rowOfGreatestGain 33 = .ok (.iaload, 1) := by decide +kernel
theorem dX1_rowOfGreatestGain_34 : decode cX1_rowOfGreatestGain 34 = .ok (.if_icmp .le 5, 3) := by decide +kernel
theorem dX1_rowOfGreatestGain_37 : decode cX1_rowOfGreatestGain 37 = .ok (.iload_n 3, 1) := by decide +kernel
theorem dX1_rowOfGreatestGain_38 : decode cX1_rowOfGreatestGain 38 = .ok (.istore_n 2, 1) := by decide +kernel
theorem dX1_rowOfGreatestGain_39 : decode cX1_rowOfGreatestGain 39 = .ok (.iinc 3 1, 3) := by decide +kernel
theorem dX1_rowOfGreatestGain_42 : decode cX1_rowOfGreatestGain 42 = .ok (.goto (-38), 3) := by decide +kernel
theorem dX1_rowOfGreatestGain_45 : decode cX1_rowOfGreatestGain 45 = .ok (.iload_n 2, 1) := by decide +kernel
theorem dX1_rowOfGreatestGain_46 : decode cX1_rowOfGreatestGain 46 = .ok (.ireturn, 1) := by decide +kernel
theorem dX1_take_0 : decode cX1_take 0 = .ok (.aload_n 0, 1) := by decide +kernel
theorem dX1_take_1 : decode cX1_take 1 = .ok (.getfield 35, 3) := by decide +kernel
theorem dX1_take_4 : decode cX1_take 4 = .ok (.bipush 12, 2) := by decide +kernel
theorem dX1_take_6 : decode cX1_take 6 = .ok (.if_icmp .lt 4, 3) := by decide +kernel
theorem dX1_take_9 : decode cX1_take 9 = .ok (.return_, 1) := by decide +kernel
theorem dX1_take_10 : decode cX1_take 10 = .ok (.aload_n 0, 1) := by decide +kernel
theorem dX1_take_11 : decode cX1_take 11 = .ok (.getfield 44, 3) := by decide +kernel
theorem dX1_take_14 : decode cX1_take 14 = .ok (.iload_n 2, 1) := by decide +kernel
theorem dX1_take_15 : decode cX1_take 15 = .ok (.invokestatic 94, 3) := by decide +kernel
theorem dX1_take_18 : decode cX1_take 18 = .ok (.istore_n 3, 1) := by decide +kernel
theorem dX1_take_19 : decode cX1_take 19 = .ok (.aload_n 0, 1) := by decide +kernel
theorem dX1_take_20 : decode cX1_take 20 = .ok (.getfield 9, 3) := by decide +kernel
theorem dX1_take_23 : decode cX1_take 23 = .ok (.aload_n 0, 1) := by decide +kernel
theorem dX1_take_24 : decode cX1_take 24 = .ok (.getfield 35, 3) := by decide +kernel
theorem dX1_take_27 : decode cX1_take 27 = .ok (.iload_n 1, 1) := by decide +kernel
theorem dX1_take_28 : decode cX1_take 28 = .ok (.iastore, 1) := by decide +kernel
theorem dX1_take_29 : decode cX1_take 29 = .ok (.aload_n 0, 1) := by decide +kernel
theorem dX1_take_30 : decode cX1_take 30 = .ok (.getfield 15, 3) := by decide +kernel
theorem dX1_take_33 : decode cX1_take 33 = .ok (.aload_n 0, 1) := by decide +kernel
theorem dX1_take_34 : decode cX1_take 34 = .ok (.getfield 35, 3) := by decide +kernel
theorem dX1_take_37 : decode cX1_take 37 = .ok (.iload_n 3, 1) := by decide +kernel
theorem dX1_take_38 : decode cX1_take 38 = .ok (.iastore, 1) := by decide +kernel
theorem dX1_take_39 : decode cX1_take 39 = .ok (.aload_n 0, 1) := by decide +kernel
theorem dX1_take_40 : decode cX1_take 40 = .ok (.dup, 1) := by decide +kernel
theorem dX1_take_41 : decode cX1_take 41 = .ok (.getfield 35, 3) := by decide +kernel
theorem dX1_take_44 : decode cX1_take 44 = .ok (.iconst 1, 1) := by decide +kernel
theorem dX1_take_45 : decode cX1_take 45 = .ok (.iadd, 1) := by decide +kernel
theorem dX1_take_46 : decode cX1_take 46 = .ok (.putfield 35, 3) := by decide +kernel
theorem dX1_take_49 : decode cX1_take 49 = .ok (.aload_n 0, 1) := by decide +kernel
theorem dX1_take_50 : decode cX1_take 50 = .ok (.dup, 1) := by decide +kernel
theorem dX1_take_51 : decode cX1_take 51 = .ok (.getfield 44, 3) := by decide +kernel
theorem dX1_take_54 : decode cX1_take 54 = .ok (.iload_n 3, 1) := by decide +kernel
theorem dX1_take_55 : decode cX1_take 55 = .ok (.isub, 1) := by decide +kernel
theorem dX1_take_56 : decode cX1_take 56 = .ok (.putfield 44, 3) := by decide +kernel
theorem dX1_take_59 : decode cX1_take 59 = .ok (.aload_n 0, 1) := by decide +kernel
theorem dX1_take_60 : decode cX1_take 60 = .ok (.dup, 1) := by decide +kernel
theorem dX1_take_61 : decode cX1_take 61 = .ok (.getfield 47, 3) := by decide +kernel
theorem dX1_take_64 : decode cX1_take 64 = .ok (.iload_n 3, 1) := by decide +kernel
theorem dX1_take_65 : decode cX1_take 65 = .ok (.aload_n 0, 1) := by decide +kernel
theorem dX1_take_66 : decode cX1_take 66 = .ok (.getfield 25, 3) := by decide +kernel
theorem dX1_take_69 : decode cX1_take 69 = .ok (.iload_n 1, 1) := by decide +kernel
theorem dX1_take_70 : decode cX1_take 70 = .ok (.iaload, 1) := by decide +kernel
theorem dX1_take_71 : decode cX1_take 71 = .ok (.imul, 1) := by decide +kernel
theorem dX1_take_72 : decode cX1_take 72 = .ok (.iadd, 1) := by decide +kernel
theorem dX1_take_73 : decode cX1_take 73 = .ok (.putfield 47, 3) := by decide +kernel
theorem dX1_take_76 : decode cX1_take 76 = .ok (.aload_n 0, 1) := by decide +kernel
theorem dX1_take_77 : decode cX1_take 77 = .ok (.dup, 1) := by decide +kernel
theorem dX1_take_78 : decode cX1_take 78 = .ok (.getfield 50, 3) := by decide +kernel
theorem dX1_take_81 : decode cX1_take 81 = .ok (.iload_n 3, 1) := by decide +kernel
theorem dX1_take_82 : decode cX1_take 82 = .ok (.aload_n 0, 1) := by decide +kernel
theorem dX1_take_83 : decode cX1_take 83 = .ok (.getfield 28, 3) := by decide +kernel
theorem dX1_take_86 : decode cX1_take 86 = .ok (.iload_n 1, 1) := by decide +kernel
theorem dX1_take_87 : decode cX1_take 87 = .ok (.iaload, 1) := by decide +kernel
theorem dX1_take_88 : decode cX1_take 88 = .ok (.imul, 1) := by decide +kernel
theorem dX1_take_89 : decode cX1_take 89 = .ok (.iadd, 1) := by decide +kernel
theorem dX1_take_90 : decode cX1_take 90 = .ok (.putfield 50, 3) := by decide +kernel
theorem dX1_take_93 : decode cX1_take 93 = .ok (.aload_n 0, 1) := by decide +kernel
theorem dX1_take_94 : decode cX1_take 94 = .ok (.dup, 1) := by decide +kernel
theorem dX1_take_95 : decode cX1_take 95 = .ok (.getfield 53, 3) := by decide +kernel
theorem dX1_take_98 : decode cX1_take 98 = .ok (.iload_n 3, 1) := by decide +kernel
theorem dX1_take_99 : decode cX1_take 99 = .ok (.aload_n 0, 1) := by decide +kernel
theorem dX1_take_100 : decode cX1_take 100 = .ok (.getfield 22, 3) := by decide +kernel
theorem dX1_take_103 : decode cX1_take 103 = .ok (.iload_n 1, 1) := by decide +kernel
theorem dX1_take_104 : decode cX1_take 104 = .ok (.iaload, 1) := by decide +kernel
theorem dX1_take_105 : decode cX1_take 105 = .ok (.imul, 1) := by decide +kernel
theorem dX1_take_106 : decode cX1_take 106 = .ok (.iadd, 1) := by decide +kernel
theorem dX1_take_107 : decode cX1_take 107 = .ok (.putfield 53, 3) := by decide +kernel
theorem dX1_take_110 : decode cX1_take 110 = .ok (.iload_n 3, 1) := by decide +kernel
theorem dX1_take_111 : decode cX1_take 111 = .ok (.iload_n 2, 1) := by decide +kernel
theorem dX1_take_112 : decode cX1_take 112 = .ok (.if_icmp .ne 13, 3) := by decide +kernel
theorem dX1_take_115 : decode cX1_take 115 = .ok (.aload_n 0, 1) := by decide +kernel
theorem dX1_take_116 : decode cX1_take 116 = .ok (.dup, 1) := by decide +kernel
theorem dX1_take_117 : decode cX1_take 117 = .ok (.getfield 56, 3) := by decide +kernel
theorem dX1_take_120 : decode cX1_take 120 = .ok (.iconst 1, 1) := by decide +kernel
theorem dX1_take_121 : decode cX1_take 121 = .ok (.iadd, 1) := by decide +kernel
theorem dX1_take_122 : decode cX1_take 122 = .ok (.putfield 56, 3) := by decide +kernel
theorem dX1_take_125 : decode cX1_take 125 = .ok (.aload_n 0, 1) := by decide +kernel
theorem dX1_take_126 : decode cX1_take 126 = .ok (.getfield 18, 3) := by decide +kernel
theorem dX1_take_129 : decode cX1_take 129 = .ok (.iload_n 1, 1) := by decide +kernel
theorem dX1_take_130 : decode cX1_take 130 = .ok (.iconst 0, 1) := by decide +kernel
theorem dX1_take_131 : decode cX1_take 131 = .ok (.bastore, 1) := by decide +kernel
theorem dX1_take_132 : decode cX1_take 132 = .ok (.return_, 1) := by decide +kernel
set_option maxRecDepth 20000 in
theorem ggX2_init_X3_init : GoodIn wsX2_init wsX3_init := goodIn_r _ [9, 10, 2, 3, 11, 12, 13, 14, 15, 16, 17, 18, 19, 20, 21, 22, 23, 24, 25, 26, 27, 28, 29, 30, 31, 32, 33, 34, 35, 36, 37, 38, 39, 51, 52, 53, 54, 55, 56, 42, 43, 44, 45, 46, 47, 48, 49, 50, 57, 58, 59] (by decide +kernel) (by decide +kernel)
set_option maxRecDepth 20000 in
theorem gX2_init_X3_init_n17 : GoodIn wsX2_init (wsX3_init) := ggX2_init_X3_init
theorem dX2_init_0 : decode cX2_init 0 = .ok (.aload_n 0, 1) := by decide +kernel
theorem dX2_init_1 : decode cX2_init 1 = .ok (.invokespecial 3, 3) := by decide +kernel
theorem dX2_init_4 : decode cX2_init 4 = .ok (.aload_n 0, 1) := by decide +kernel
theorem dX2_init_5 : decode cX2_init 5 = .ok (.iconst 4, 1) := by decide +kernel
theorem dX2_init_6 : decode cX2_init 6 = .ok (.anewarray 9, 3) := by decide +kernel
theorem dX2_init_9 : decode cX2_init 9 = .ok (.putfield 11, 3) := by decide +kernel
theorem dX2_init_12 : decode cX2_init 12 = .ok (.iconst 0, 1) := by decide +kernel
theorem dX2_init_13 : decode cX2_init 13 = .ok (.istore_n 1, 1) := by decide +kernel
theorem dX2_init_14 : decode cX2_init 14 = .ok (.iload_n 1, 1) := by decide +kernel
theorem dX2_init_15 : decode cX2_init 15 = .ok (.iconst 4, 1) := by decide +kernel
theorem dX2_init_16 : decode cX2_init 16 = .ok (.if_icmp .ge 22, 3) := by decide +kernel
theorem dX2_init_19 : decode cX2_init 19 = .ok (.aload_n 0, 1) := by decide +kernel
theorem dX2_init_20 : decode cX2_init 20 = .ok (.getfield 11, 3) := by decide +kernel
theorem dX2_init_23 : decode cX2_init 23 = .ok (.iload_n 1, 1) := by decide +kernel
theorem dX2_init_24 : decode cX2_init 24 = .ok (.new 9, 3) := by decide +kernel
theorem dX2_init_27 : decode cX2_init 27 = .ok (.dup, 1) := by decide +kernel
theorem dX2_init_28 : decode cX2_init 28 = .ok (.invokespecial 17, 3) := by decide +kernel
theorem dX2_init_31 : decode cX2_init 31 = .ok (.aastore, 1) := by decide +kernel
theorem dX2_init_32 : decode cX2_init 32 = .ok (.iinc 1 1, 3) := by decide +kernel
theorem dX2_init_35 : decode cX2_init 35 = .ok (.goto (-21), 3) := by decide +kernel
theorem dX2_init_38 : decode cX2_init 38 = .ok (.return_, 1) := by decide +kernel
set_option maxRecDepth 20000 in
theorem ggX2_record_X2_dropOldest : GoodIn wsX2_record wsX2_dropOldest := goodIn_r _ [7, 2, 1, 41, 42] (by decide +kernel) (by decide +kernel)
set_option maxRecDepth 20000 in
theorem gX2_record_X2_dropOldest : GoodIn wsX2_record (wsV RX2 22 RX2 yX2_dropOldest wsX2_dropOldest) := goodIn_app (goodIn_of _ (by decide +kernel)) ggX2_record_X2_dropOldest
set_option maxRecDepth 20000 in
theorem ggX2_record_X3_copyFrom : GoodIn wsX2_record wsX3_copyFrom := goodIn_r _ [12, 13, 14, 15, 16, 17, 18, 19, 20, 21, 22, 23, 24, 25, 26, 27, 28, 29, 30, 31, 32, 33, 34, 35, 36, 37, 38, 39, 40, 43, 44, 45, 46, 47, 48, 49, 50, 51, 52, 53, 54, 55, 56, 57, 58, 59, 60] (by decide +kernel) (by decide +kernel)
set_option maxRecDepth 20000 in
theorem gX2_record_X3_copyFrom : GoodIn wsX2_record (wsV RX2 25 RX3 yX3_copyFrom wsX3_copyFrom) := goodIn_app (goodIn_of _ (by decide +kernel)) ggX2_record_X3_copyFrom
theorem dX2_record_0 : decode cX2_record 0 = .ok (.aload_n 0, 1) := by decide +kernel
theorem dX2_record_1 : decode cX2_record 1 = .ok (.getfield 18, 3) := by decide +kernel
theorem dX2_record_4 : decode cX2_record 4 = .ok (.iconst 4, 1) := by decide +kernel
theorem dX2_record_5 : decode cX2_record 5 = .ok (.if_icmp .lt 7, 3) := by decide +kernel
theorem dX2_record_8 : decode cX2_record 8 = .ok (.aload_n 0, 1) := by decide +kernel
theorem dX2_record_9 : decode cX2_record 9 = .ok (.invokevirtual 22, 3) := by decide +kernel
theorem dX2_record_12 : decode cX2_record 12 = .ok (.aload_n 0, 1) := by decide +kernel
theorem dX2_record_13 : decode cX2_record 13 = .ok (.getfield 11, 3) := by decide +kernel
theorem dX2_record_16 : decode cX2_record 16 = .ok (.aload_n 0, 1) := by decide +kernel
theorem dX2_record_17 : decode cX2_record 17 = .ok (.getfield 18, 3) := by decide +kernel
theorem dX2_record_20 : decode cX2_record 20 = .ok (.aaload, 1) := by decide +kernel
theorem dX2_record_21 : decode cX2_record 21 = .ok (.aload_n 1, 1) := by decide +kernel
theorem dX2_record_22 : decode cX2_record 22 = .ok (.invokevirtual 25, 3) := by decide +kernel
theorem dX2_record_25 : decode cX2_record 25 = .ok (.aload_n 0, 1) := by decide +kernel
theorem dX2_record_26 : decode cX2_record 26 = .ok (.dup, 1) := by decide +kernel
theorem dX2_record_27 : decode cX2_record 27 = .ok (.getfield 18, 3) := by decide +kernel
theorem dX2_record_30 : decode cX2_record 30 = .ok (.iconst 1, 1) := by decide +kernel
theorem dX2_record_31 : decode cX2_record 31 = .ok (.iadd, 1) := by decide +kernel
theorem dX2_record_32 : decode cX2_record 32 = .ok (.putfield 18, 3) := by decide +kernel
theorem dX2_record_35 : decode cX2_record 35 = .ok (.return_, 1) := by decide +kernel
theorem dX2_dropOldest_0 : decode cX2_dropOldest 0 = .ok (.aload_n 0, 1) := by decide +kernel
theorem dX2_dropOldest_1 : decode cX2_dropOldest 1 = .ok (.getfield 11, 3) := by decide +kernel
theorem dX2_dropOldest_4 : decode cX2_dropOldest 4 = .ok (.iconst 0, 1) := by decide +kernel
theorem dX2_dropOldest_5 : decode cX2_dropOldest 5 = .ok (.aaload, 1) := by decide +kernel
theorem dX2_dropOldest_6 : decode cX2_dropOldest 6 = .ok (.astore_n 1, 1) := by decide +kernel
theorem dX2_dropOldest_7 : decode cX2_dropOldest 7 = .ok (.iconst 1, 1) := by decide +kernel
theorem dX2_dropOldest_8 : decode cX2_dropOldest 8 = .ok (.istore_n 2, 1) := by decide +kernel
theorem dX2_dropOldest_9 : decode cX2_dropOldest 9 = .ok (.iload_n 2, 1) := by decide +kernel
theorem dX2_dropOldest_10 : decode cX2_dropOldest 10 = .ok (.iconst 4, 1) := by decide +kernel
theorem dX2_dropOldest_11 : decode cX2_dropOldest 11 = .ok (.if_icmp .ge 23, 3) := by decide +kernel
theorem dX2_dropOldest_14 : decode cX2_dropOldest 14 = .ok (.aload_n 0, 1) := by decide +kernel
theorem dX2_dropOldest_15 : decode cX2_dropOldest 15 = .ok (.getfield 11, 3) := by decide +kernel
theorem dX2_dropOldest_18 : decode cX2_dropOldest 18 = .ok (.iload_n 2, 1) := by decide +kernel
theorem dX2_dropOldest_19 : decode cX2_dropOldest 19 = .ok (.iconst 1, 1) := by decide +kernel
theorem dX2_dropOldest_20 : decode cX2_dropOldest 20 = .ok (.isub, 1) := by decide +kernel
theorem dX2_dropOldest_21 : decode cX2_dropOldest 21 = .ok (.aload_n 0, 1) := by decide +kernel
theorem dX2_dropOldest_22 : decode cX2_dropOldest 22 = .ok (.getfield 11, 3) := by decide +kernel
theorem dX2_dropOldest_25 : decode cX2_dropOldest 25 = .ok (.iload_n 2, 1) := by decide +kernel
theorem dX2_dropOldest_26 : decode cX2_dropOldest 26 = .ok (.aaload, 1) := by decide +kernel
theorem dX2_dropOldest_27 : decode cX2_dropOldest 27 = .ok (.aastore, 1) := by decide +kernel
theorem dX2_dropOldest_28 : decode cX2_dropOldest 28 = .ok (.iinc 2 1, 3) := by decide +kernel
theorem dX2_dropOldest_31 : decode cX2_dropOldest 31 = .ok (.goto (-22), 3) := by decide +kernel
theorem dX2_dropOldest_34 : decode cX2_dropOldest 34 = .ok (.aload_n 0, 1) := by decide +kernel
theorem dX2_dropOldest_35 : decode cX2_dropOldest 35 = .ok (.getfield 11, 3) := by decide +kernel
theorem dX2_dropOldest_38 : decode cX2_dropOldest 38 = .ok (.iconst 3, 1) := by decide +kernel
theorem dX2_dropOldest_39 : decode cX2_dropOldest 39 = .ok (.aload_n 1, 1) := by decide +kernel
theorem dX2_dropOldest_40 : decode cX2_dropOldest 40 = .ok (.aastore, 1) := by decide +kernel
theorem dX2_dropOldest_41 : decode cX2_dropOldest 41 = .ok (.aload_n 0, 1) := by decide +kernel
theorem dX2_dropOldest_42 : decode cX2_dropOldest 42 = .ok (.iconst 3, 1) := by decide +kernel
theorem dX2_dropOldest_43 : decode cX2_dropOldest 43 = .ok (.putfield 18, 3) := by decide +kernel
theorem dX2_dropOldest_46 : decode cX2_dropOldest 46 = .ok (.return_, 1) := by decide +kernel
set_option maxRecDepth 20000 in
theorem ggX3_init_X4_init : GoodIn wsX3_init wsX4_init := goodIn_r _ [21, 22, 2, 3, 23, 24, 25, 26, 27, 33, 34, 35, 36, 37, 38] (by decide +kernel) (by decide +kernel)
set_option maxRecDepth 20000 in
theorem gX3_init_X4_init_n11 : GoodIn wsX3_init (wsX4_init) := ggX3_init_X4_init
set_option maxRecDepth 20000 in
theorem ggX3_init_X0_init : GoodIn wsX3_init wsX0_init := goodIn_r _ [29, 30, 2, 3, 23, 31, 32, 48, 49, 50] (by decide +kernel) (by decide +kernel)
set_option maxRecDepth 20000 in
theorem gX3_init_X0_init_n20 : GoodIn wsX3_init (wsX0_init) := ggX3_init_X0_init
theorem dX3_init_0 : decode cX3_init 0 = .ok (.aload_n 0, 1) := by decide +kernel
theorem dX3_init_1 : decode cX3_init 1 = .ok (.invokespecial 3, 3) := by decide +kernel
theorem dX3_init_4 : decode cX3_init 4 = .ok (.aload_n 0, 1) := by decide +kernel
theorem dX3_init_5 : decode cX3_init 5 = .ok (.new 9, 3) := by decide +kernel
theorem dX3_init_8 : decode cX3_init 8 = .ok (.dup, 1) := by decide +kernel
theorem dX3_init_9 : decode cX3_init 9 = .ok (.invokespecial 11, 3) := by decide +kernel
theorem dX3_init_12 : decode cX3_init 12 = .ok (.putfield 12, 3) := by decide +kernel
theorem dX3_init_15 : decode cX3_init 15 = .ok (.aload_n 0, 1) := by decide +kernel
theorem dX3_init_16 : decode cX3_init 16 = .ok (.new 18, 3) := by decide +kernel
theorem dX3_init_19 : decode cX3_init 19 = .ok (.dup, 1) := by decide +kernel
theorem dX3_init_20 : decode cX3_init 20 = .ok (.invokespecial 20, 3) := by decide +kernel
theorem dX3_init_23 : decode cX3_init 23 = .ok (.putfield 21, 3) := by decide +kernel
theorem dX3_init_26 : decode cX3_init 26 = .ok (.aload_n 0, 1) := by decide +kernel
theorem dX3_init_27 : decode cX3_init 27 = .ok (.getstatic 25, 3) := by decide +kernel
theorem dX3_init_30 : decode cX3_init 30 = .ok (.invokevirtual 29, 3) := by decide +kernel
theorem dX3_init_33 : decode cX3_init 33 = .ok (.checkcast 30, 3) := by decide +kernel
theorem dX3_init_36 : decode cX3_init 36 = .ok (.putfield 34, 3) := by decide +kernel
theorem dX3_init_39 : decode cX3_init 39 = .ok (.aload_n 0, 1) := by decide +kernel
theorem dX3_init_40 : decode cX3_init 40 = .ok (.getstatic 37, 3) := by decide +kernel
theorem dX3_init_43 : decode cX3_init 43 = .ok (.invokevirtual 29, 3) := by decide +kernel
theorem dX3_init_46 : decode cX3_init 46 = .ok (.checkcast 30, 3) := by decide +kernel
theorem dX3_init_49 : decode cX3_init 49 = .ok (.putfield 40, 3) := by decide +kernel
theorem dX3_init_52 : decode cX3_init 52 = .ok (.return_, 1) := by decide +kernel
set_option maxRecDepth 20000 in
theorem ggX3_copyFrom_X4_copyFrom : GoodIn wsX3_copyFrom wsX4_copyFrom := goodIn_r _ [14, 15, 16, 17, 18, 19, 20, 38, 39, 40, 41, 42, 43] (by decide +kernel) (by decide +kernel)
set_option maxRecDepth 20000 in
theorem gX3_copyFrom_X4_copyFrom : GoodIn wsX3_copyFrom (wsV RX3 43 RX4 yX4_copyFrom wsX4_copyFrom) := goodIn_app (goodIn_of _ (by decide +kernel)) ggX3_copyFrom_X4_copyFrom
set_option maxRecDepth 20000 in
theorem ggX3_copyFrom_X0_copyFrom : GoodIn wsX3_copyFrom wsX0_copyFrom := goodIn_r _ [25, 26, 27, 28, 44, 45, 46] (by decide +kernel) (by decide +kernel)
set_option maxRecDepth 20000 in
theorem gX3_copyFrom_X0_copyFrom : GoodIn wsX3_copyFrom (wsV RX3 47 RX0 yX0_copyFrom wsX0_copyFrom) := goodIn_app (goodIn_of _ (by decide +kernel)) ggX3_copyFrom_X0_copyFrom
theorem dX3_copyFrom_0 : decode cX3_copyFrom 0 = .ok (.aload_n 0, 1) := by decide +kernel
theorem dX3_copyFrom_1 : decode cX3_copyFrom 1 = .ok (.getfield 12, 3) := by decide +kernel
theorem dX3_copyFrom_4 : decode cX3_copyFrom 4 = .ok (.aload_n 1, 1) := by decide +kernel
theorem dX3_copyFrom_5 : decode cX3_copyFrom 5 = .ok (.getfield 12, 3) := by decide +kernel
theorem dX3_copyFrom_8 : decode cX3_copyFrom 8 = .ok (.invokevirtual 43, 3) := by decide +kernel
theorem dX3_copyFrom_11 : decode cX3_copyFrom 11 = .ok (.aload_n 0, 1) := by decide +kernel
theorem dX3_copyFrom_12 : decode cX3_copyFrom 12 = .ok (.getfield 21, 3) := by decide +kernel
theorem dX3_copyFrom_15 : decode cX3_copyFrom 15 = .ok (.aload_n 1, 1) := by decide +kernel
theorem dX3_copyFrom_16 : decode cX3_copyFrom 16 = .ok (.getfield 21, 3) := by decide +kernel
theorem dX3_copyFrom_19 : decode cX3_copyFrom 19 = .ok (.invokevirtual 47, 3) := by decide +kernel
theorem dX3_copyFrom_22 : decode cX3_copyFrom 22 = .ok (.iconst 0, 1) := by decide +kernel
theorem dX3_copyFrom_23 : decode cX3_copyFrom 23 = .ok (.istore_n 2, 1) := by decide +kernel
theorem dX3_copyFrom_24 : decode cX3_copyFrom 24 = .ok (.iload_n 2, 1) := by decide +kernel
theorem dX3_copyFrom_25 : decode cX3_copyFrom 25 = .ok (.iconst 4, 1) := by decide +kernel
theorem dX3_copyFrom_26 : decode cX3_copyFrom 26 = .ok (.if_icmp .ge 21, 3) := by decide +kernel
theorem dX3_copyFrom_29 : decode cX3_copyFrom 29 = .ok (.aload_n 0, 1) := by decide +kernel
theorem dX3_copyFrom_30 : decode cX3_copyFrom 30 = .ok (.getfield 34, 3) := by decide +kernel
theorem dX3_copyFrom_33 : decode cX3_copyFrom 33 = .ok (.iload_n 2, 1) := by decide +kernel
theorem dX3_copyFrom_34 : decode cX3_copyFrom 34 = .ok (.aload_n 1, 1) := by decide +kernel
theorem dX3_copyFrom_35 : decode cX3_copyFrom 35 = .ok (.getfield 34, 3) := by decide +kernel
theorem dX3_copyFrom_38 : decode cX3_copyFrom 38 = .ok (.iload_n 2, 1) := by decide +kernel
theorem dX3_copyFrom_39 : decode cX3_copyFrom 39 = .ok (.iaload, 1) := by decide +kernel
theorem dX3_copyFrom_40 : decode cX3_copyFrom 40 = .ok (.iastore, 1) := by decide +kernel
theorem dX3_copyFrom_41 : decode cX3_copyFrom 41 = .ok (.iinc 2 1, 3) := by decide +kernel
theorem dX3_copyFrom_44 : decode cX3_copyFrom 44 = .ok (.goto (-20), 3) := by decide +kernel
theorem dX3_copyFrom_47 : decode cX3_copyFrom 47 = .ok (.iconst 0, 1) := by decide +kernel
theorem dX3_copyFrom_48 : decode cX3_copyFrom 48 = .ok (.istore_n 2, 1) := by decide +kernel
theorem dX3_copyFrom_49 : decode cX3_copyFrom 49 = .ok (.iload_n 2, 1) := by decide +kernel
theorem dX3_copyFrom_50 : decode cX3_copyFrom 50 = .ok (.iconst 5, 1) := by decide +kernel
theorem dX3_copyFrom_51 : decode cX3_copyFrom 51 = .ok (.if_icmp .ge 21, 3) := by decide +kernel
theorem dX3_copyFrom_54 : decode cX3_copyFrom 54 = .ok (.aload_n 0, 1) := by decide +kernel
theorem dX3_copyFrom_55 : decode cX3_copyFrom 55 = .ok (.getfield 40, 3) := by decide +kernel
theorem dX3_copyFrom_58 : decode cX3_copyFrom 58 = .ok (.iload_n 2, 1) := by decide +kernel
theorem dX3_copyFrom_59 : decode cX3_copyFrom 59 = .ok (.aload_n 1, 1) := by decide +kernel
theorem dX3_copyFrom_60 : decode cX3_copyFrom 60 = .ok (.getfield 40, 3) := by decide +kernel
theorem dX3_copyFrom_63 : decode cX3_copyFrom 63 = .ok (.iload_n 2, 1) := by decide +kernel
theorem dX3_copyFrom_64 : decode cX3_copyFrom 64 = .ok (.iaload, 1) := by decide +kernel
theorem dX3_copyFrom_65 : decode cX3_copyFrom 65 = .ok (.iastore, 1) := by decide +kernel
theorem dX3_copyFrom_66 : decode cX3_copyFrom 66 = .ok (.iinc 2 1, 3) := by decide +kernel
theorem dX3_copyFrom_69 : decode cX3_copyFrom 69 = .ok (.goto (-20), 3) := by decide +kernel
theorem dX3_copyFrom_72 : decode cX3_copyFrom 72 = .ok (.aload_n 0, 1) := by decide +kernel
theorem dX3_copyFrom_73 : decode cX3_copyFrom 73 = .ok (.aload_n 1, 1) := by decide +kernel
theorem dX3_copyFrom_74 : decode cX3_copyFrom 74 = .ok (.getfield 50, 3) := by decide +kernel
theorem dX3_copyFrom_77 : decode cX3_copyFrom 77 = .ok (.putfield 50, 3) := by decide +kernel
theorem dX3_copyFrom_80 : decode cX3_copyFrom 80 = .ok (.aload_n 0, 1) := by decide +kernel
theorem dX3_copyFrom_81 : decode cX3_copyFrom 81 = .ok (.aload_n 1, 1) := by decide +kernel
theorem dX3_copyFrom_82 : decode cX3_copyFrom 82 = .ok (.getfield 54, 3) := by decide +kernel
theorem dX3_copyFrom_85 : decode cX3_copyFrom 85 = .ok (.putfield 54, 3) := by decide +kernel
theorem dX3_copyFrom_88 : decode cX3_copyFrom 88 = .ok (.aload_n 0, 1) := by decide +kernel
theorem dX3_copyFrom_89 : decode cX3_copyFrom 89 = .ok (.aload_n 1, 1) := by decide +kernel
theorem dX3_copyFrom_90 : decode cX3_copyFrom 90 = .ok (.getfield 57, 3) := by decide +kernel
theorem dX3_copyFrom_93 : decode cX3_copyFrom 93 = .ok (.putfield 57, 3) := by decide +kernel
theorem dX3_copyFrom_96 : decode cX3_copyFrom 96 = .ok (.aload_n 0, 1) := by decide +kernel
theorem dX3_copyFrom_97 : decode cX3_copyFrom 97 = .ok (.aload_n 1, 1) := by decide +kernel
theorem dX3_copyFrom_98 : decode cX3_copyFrom 98 = .ok (.getfield 60, 3) := by decide +kernel
theorem dX3_copyFrom_101 : decode cX3_copyFrom 101 = .ok (.putfield 60, 3) := by decide +kernel
theorem dX3_copyFrom_104 : decode cX3_copyFrom 104 = .ok (.aload_n 0, 1) := by decide +kernel
theorem dX3_copyFrom_105 : decode cX3_copyFrom 105 = .ok (.aload_n 1, 1) := by decide +kernel
theorem dX3_copyFrom_106 : decode cX3_copyFrom 106 = .ok (.getfield 63, 3) := by decide +kernel
theorem dX3_copyFrom_109 : decode cX3_copyFrom 109 = .ok (.putfield 63, 3) := by decide +kernel
theorem dX3_copyFrom_112 : decode cX3_copyFrom 112 = .ok (.return_, 1) := by decide +kernel
set_option maxRecDepth 20000 in
theorem ggX3_bringLot_X6_isWithin : GoodIn wsX3_bringLot wsX6_isWithin := goodIn_r _ [6] (by decide +kernel) (by decide +kernel)
set_option maxRecDepth 20000 in
theorem gX3_bringLot_X6_isWithin_n66 : GoodIn wsX3_bringLot (wsX6_isWithin) := ggX3_bringLot_X6_isWithin
set_option maxRecDepth 20000 in
theorem ggX3_bringLot_X4_add : GoodIn wsX3_bringLot wsX4_add := goodIn_r _ [11, 12, 13, 14, 15, 16, 17, 18, 19, 20, 21, 10, 22, 32, 33, 34, 35, 36, 37] (by decide +kernel) (by decide +kernel)
set_option maxRecDepth 20000 in
theorem gX3_bringLot_X4_add : GoodIn wsX3_bringLot (wsV RX3 71 RX4 yX4_add wsX4_add) := goodIn_app (goodIn_of _ (by decide +kernel)) ggX3_bringLot_X4_add
theorem dX3_bringLot_0 : decode cX3_bringLot 0 = .ok (.iload_n 1, 1) := by decide +kernel
theorem dX3_bringLot_1 : decode cX3_bringLot 1 = .ok (.iconst 1, 1) := by decide +kernel
theorem dX3_bringLot_2 : decode cX3_bringLot 2 = .ok (.sipush 999, 3) := by decide +kernel
theorem dX3_bringLot_5 : decode cX3_bringLot 5 = .ok (.invokestatic 66, 3) := by decide +kernel
theorem dX3_bringLot_8 : decode cX3_bringLot 8 = .ok (.ifCond .eq 14, 3) := by decide +kernel
theorem dX3_bringLot_11 : decode cX3_bringLot 11 = .ok (.iload_n 2, 1) := by decide +kernel
theorem dX3_bringLot_12 : decode cX3_bringLot 12 = .ok (.bipush 60, 2) := by decide +kernel
theorem dX3_bringLot_14 : decode cX3_bringLot 14 = .ok (.bipush 100, 2) := by decide +kernel
theorem dX3_bringLot_16 : decode cX3_bringLot 16 = .ok (.invokestatic 66, 3) := by decide +kernel
theorem dX3_bringLot_19 : decode cX3_bringLot 19 = .ok (.ifCond .ne 6, 3) := by decide +kernel
theorem dX3_bringLot_22 : decode cX3_bringLot 22 = .ok (.ldc 70, 2) := by decide +kernel
theorem dX3_bringLot_24 : decode cX3_bringLot 24 = .ok (.ireturn, 1) := by decide +kernel
theorem dX3_bringLot_25 : decode cX3_bringLot 25 = .ok (.aload_n 0, 1) := by decide +kernel
theorem dX3_bringLot_26 : decode cX3_bringLot 26 = .ok (.getfield 12, 3) := by decide +kernel
theorem dX3_bringLot_29 : decode cX3_bringLot 29 = .ok (.iload_n 1, 1) := by decide +kernel
theorem dX3_bringLot_30 : decode cX3_bringLot 30 = .ok (.iload_n 2, 1) := by decide +kernel
theorem dX3_bringLot_31 : decode cX3_bringLot 31 = .ok (.aload_n 0, 1) := by decide +kernel
theorem dX3_bringLot_32 : decode cX3_bringLot 32 = .ok (.getfield 50, 3) := by decide +kernel
theorem dX3_bringLot_35 : decode cX3_bringLot 35 = .ok (.invokevirtual 71, 3) := by decide +kernel
theorem dX3_bringLot_38 : decode cX3_bringLot 38 = .ok (.ireturn, 1) := by decide +kernel
set_option maxRecDepth 20000 in
theorem ggX3_partLot_X4_rowOf : GoodIn wsX3_partLot wsX4_rowOf := goodIn_r _ [12, 13, 14, 38, 39, 40, 41, 42, 43] (by decide +kernel) (by decide +kernel)
set_option maxRecDepth 20000 in
theorem gX3_partLot_X4_rowOf : GoodIn wsX3_partLot (wsV RX3 75 RX4 yX4_rowOf wsX4_rowOf) := goodIn_app (goodIn_of _ (by decide +kernel)) ggX3_partLot_X4_rowOf
set_option maxRecDepth 20000 in
theorem ggX3_partLot_X4_isFull : GoodIn wsX3_partLot wsX4_isFull := goodIn_r _ [18, 13, 38, 39, 40, 41, 42, 43] (by decide +kernel) (by decide +kernel)
set_option maxRecDepth 20000 in
theorem gX3_partLot_X4_isFull : GoodIn wsX3_partLot (wsV RX3 83 RX4 yX4_isFull wsX4_isFull) := goodIn_app (goodIn_of _ (by decide +kernel)) ggX3_partLot_X4_isFull
set_option maxRecDepth 20000 in
theorem ggX3_partLot_X4_add : GoodIn wsX3_partLot wsX4_add := goodIn_r _ [22, 23, 14, 13, 24, 25, 26, 27, 28, 16, 17, 11, 18, 38, 39, 40, 41, 42, 43] (by decide +kernel) (by decide +kernel)
set_option maxRecDepth 20000 in
theorem gX3_partLot_X4_add : GoodIn wsX3_partLot (wsV RX3 71 RX4 yX4_add wsX4_add) := goodIn_app (goodIn_of _ (by decide +kernel)) ggX3_partLot_X4_add
theorem dX3_partLot_0 : decode cX3_partLot 0 = .ok (.aload_n 0, 1) := by decide +kernel
theorem dX3_partLot_1 : decode cX3_partLot 1 = .ok (.getfield 12, 3) := by decide +kernel
theorem dX3_partLot_4 : decode cX3_partLot 4 = .ok (.iload_n 1, 1) := by decide +kernel
theorem dX3_partLot_5 : decode cX3_partLot 5 = .ok (.invokevirtual 75, 3) := by decide +kernel
theorem dX3_partLot_8 : decode cX3_partLot 8 = .ok (.istore_n 3, 1) := by decide +kernel
theorem dX3_partLot_9 : decode cX3_partLot 9 = .ok (.iload_n 3, 1) := by decide +kernel
theorem dX3_partLot_10 : decode cX3_partLot 10 = .ok (.ifCond .lt 8, 3) := by decide +kernel
theorem dX3_partLot_13 : decode cX3_partLot 13 = .ok (.iload_n 2, 1) := by decide +kernel
theorem dX3_partLot_14 : decode cX3_partLot 14 = .ok (.iconst 1, 1) := by decide +kernel
theorem dX3_partLot_15 : decode cX3_partLot 15 = .ok (.if_icmp .ge 6, 3) := by decide +kernel
theorem dX3_partLot_18 : decode cX3_partLot 18 = .ok (.ldc 70, 2) := by decide +kernel
theorem dX3_partLot_20 : decode cX3_partLot 20 = .ok (.ireturn, 1) := by decide +kernel
theorem dX3_partLot_21 : decode cX3_partLot 21 = .ok (.aload_n 0, 1) := by decide +kernel
theorem dX3_partLot_22 : decode cX3_partLot 22 = .ok (.getfield 12, 3) := by decide +kernel
theorem dX3_partLot_25 : decode cX3_partLot 25 = .ok (.getfield 79, 3) := by decide +kernel
theorem dX3_partLot_28 : decode cX3_partLot 28 = .ok (.iload_n 3, 1) := by decide +kernel
theorem dX3_partLot_29 : decode cX3_partLot 29 = .ok (.iaload, 1) := by decide +kernel
theorem dX3_partLot_30 : decode cX3_partLot 30 = .ok (.iload_n 2, 1) := by decide +kernel
theorem dX3_partLot_31 : decode cX3_partLot 31 = .ok (.if_icmp .gt 6, 3) := by decide +kernel
theorem dX3_partLot_34 : decode cX3_partLot 34 = .ok (.ldc 82, 2) := by decide +kernel
theorem dX3_partLot_36 : decode cX3_partLot 36 = .ok (.ireturn, 1) := by decide +kernel
theorem dX3_partLot_37 : decode cX3_partLot 37 = .ok (.aload_n 0, 1) := by decide +kernel
theorem dX3_partLot_38 : decode cX3_partLot 38 = .ok (.getfield 12, 3) := by decide +kernel
theorem dX3_partLot_41 : decode cX3_partLot 41 = .ok (.invokevirtual 83, 3) := by decide +kernel
theorem dX3_partLot_44 : decode cX3_partLot 44 = .ok (.ifCond .eq 6, 3) := by decide +kernel
theorem dX3_partLot_47 : decode cX3_partLot 47 = .ok (.ldc 87, 2) := by decide +kernel
theorem dX3_partLot_49 : decode cX3_partLot 49 = .ok (.ireturn, 1) := by decide +kernel
theorem dX3_partLot_50 : decode cX3_partLot 50 = .ok (.aload_n 0, 1) := by decide +kernel
theorem dX3_partLot_51 : decode cX3_partLot 51 = .ok (.getfield 12, 3) := by decide +kernel
theorem dX3_partLot_54 : decode cX3_partLot 54 = .ok (.getfield 79, 3) := by decide +kernel
theorem dX3_partLot_57 : decode cX3_partLot 57 = .ok (.iload_n 3, 1) := by decide +kernel
theorem dX3_partLot_58 : decode cX3_partLot 58 = .ok (.dup2, 1) := by decide +kernel
theorem dX3_partLot_59 : decode cX3_partLot 59 = .ok (.iaload, 1) := by decide +kernel
theorem dX3_partLot_60 : decode cX3_partLot 60 = .ok (.iload_n 2, 1) := by decide +kernel
theorem dX3_partLot_61 : decode cX3_partLot 61 = .ok (.isub, 1) := by decide +kernel
theorem dX3_partLot_62 : decode cX3_partLot 62 = .ok (.iastore, 1) := by decide +kernel
theorem dX3_partLot_63 : decode cX3_partLot 63 = .ok (.aload_n 0, 1) := by decide +kernel
theorem dX3_partLot_64 : decode cX3_partLot 64 = .ok (.getfield 12, 3) := by decide +kernel
theorem dX3_partLot_67 : decode cX3_partLot 67 = .ok (.iload_n 2, 1) := by decide +kernel
theorem dX3_partLot_68 : decode cX3_partLot 68 = .ok (.aload_n 0, 1) := by decide +kernel
theorem dX3_partLot_69 : decode cX3_partLot 69 = .ok (.getfield 12, 3) := by decide +kernel
theorem dX3_partLot_72 : decode cX3_partLot 72 = .ok (.getfield 88, 3) := by decide +kernel
theorem dX3_partLot_75 : decode cX3_partLot 75 = .ok (.iload_n 3, 1) := by decide +kernel
theorem dX3_partLot_76 : decode cX3_partLot 76 = .ok (.iaload, 1) := by decide +kernel
theorem dX3_partLot_77 : decode cX3_partLot 77 = .ok (.aload_n 0, 1) := by decide +kernel
theorem dX3_partLot_78 : decode cX3_partLot 78 = .ok (.getfield 12, 3) := by decide +kernel
theorem dX3_partLot_81 : decode cX3_partLot 81 = .ok (.getfield 91, 3) := by decide +kernel
theorem dX3_partLot_84 : decode cX3_partLot 84 = .ok (.iload_n 3, 1) := by decide +kernel
theorem dX3_partLot_85 : decode cX3_partLot 85 = .ok (.iaload, 1) := by decide +kernel
theorem dX3_partLot_86 : decode cX3_partLot 86 = .ok (.invokevirtual 71, 3) := by decide +kernel
theorem dX3_partLot_89 : decode cX3_partLot 89 = .ok (.ireturn, 1) := by decide +kernel
set_option maxRecDepth 20000 in
theorem ggX3_blendLots_X4_rowOf : GoodIn wsX3_blendLots wsX4_rowOf := goodIn_r _ [11, 12, 13, 45, 46, 47, 48, 49, 50] (by decide +kernel) (by decide +kernel)
set_option maxRecDepth 20000 in
theorem gX3_blendLots_X4_rowOf : GoodIn wsX3_blendLots (wsV RX3 75 RX4 yX4_rowOf wsX4_rowOf) := goodIn_app (goodIn_of _ (by decide +kernel)) ggX3_blendLots_X4_rowOf
set_option maxRecDepth 20000 in
theorem ggX3_blendLots_X4_isFull : GoodIn wsX3_blendLots wsX4_isFull := goodIn_r _ [17, 12, 45, 46, 47, 48, 49, 50] (by decide +kernel) (by decide +kernel)
set_option maxRecDepth 20000 in
theorem gX3_blendLots_X4_isFull : GoodIn wsX3_blendLots (wsV RX3 83 RX4 yX4_isFull wsX4_isFull) := goodIn_app (goodIn_of _ (by decide +kernel)) ggX3_blendLots_X4_isFull
set_option maxRecDepth 20000 in
theorem ggX3_blendLots_X4_cupAt : GoodIn wsX3_blendLots wsX4_cupAt := goodIn_r _ [21, 22, 23, 45, 46, 47, 48, 49, 50] (by decide +kernel) (by decide +kernel)
set_option maxRecDepth 20000 in
theorem gX3_blendLots_X4_cupAt : GoodIn wsX3_blendLots (wsV RX3 94 RX4 yX4_cupAt wsX4_cupAt) := goodIn_app (goodIn_of _ (by decide +kernel)) ggX3_blendLots_X4_cupAt
set_option maxRecDepth 20000 in
theorem ggX3_blendLots_X4_dropEmpty : GoodIn wsX3_blendLots wsX4_dropEmpty := goodIn_r _ [27, 12, 28, 13, 22, 23, 45, 46, 47, 48, 49, 50] (by decide +kernel) (by decide +kernel)
set_option maxRecDepth 20000 in
theorem gX3_blendLots_X4_dropEmpty : GoodIn wsX3_blendLots (wsV RX3 98 RX4 yX4_dropEmpty wsX4_dropEmpty) := goodIn_app (goodIn_of _ (by decide +kernel)) ggX3_blendLots_X4_dropEmpty
set_option maxRecDepth 20000 in
theorem ggX3_blendLots_X4_add : GoodIn wsX3_blendLots wsX4_add := goodIn_r _ [32, 33, 13, 12, 34, 28, 22, 23, 35, 15, 16, 10, 17, 45, 46, 47, 48, 49, 50] (by decide +kernel) (by decide +kernel)
set_option maxRecDepth 20000 in
theorem gX3_blendLots_X4_add : GoodIn wsX3_blendLots (wsV RX3 71 RX4 yX4_add wsX4_add) := goodIn_app (goodIn_of _ (by decide +kernel)) ggX3_blendLots_X4_add
theorem dX3_blendLots_0 : decode cX3_blendLots 0 = .ok (.aload_n 0, 1) := by decide +kernel
theorem dX3_blendLots_1 : decode cX3_blendLots 1 = .ok (.getfield 12, 3) := by decide +kernel
theorem dX3_blendLots_4 : decode cX3_blendLots 4 = .ok (.iload_n 1, 1) := by decide +kernel
theorem dX3_blendLots_5 : decode cX3_blendLots 5 = .ok (.invokevirtual 75, 3) := by decide +kernel
theorem dX3_blendLots_8 : decode cX3_blendLots 8 = .ok (.istore 5, 2) := by decide +kernel
theorem dX3_blendLots_10 : decode cX3_blendLots 10 = .ok (.aload_n 0, 1) := by decide +kernel
theorem dX3_blendLots_11 : decode cX3_blendLots 11 = .ok (.getfield 12, 3) := by decide +kernel
theorem dX3_blendLots_14 : decode cX3_blendLots 14 = .ok (.iload_n 3, 1) := by decide +kernel
theorem dX3_blendLots_15 : decode cX3_blendLots 15 = .ok (.invokevirtual 75, 3) := by decide +kernel
theorem dX3_blendLots_18 : decode cX3_blendLots 18 = .ok (.istore 6, 2) := by decide +kernel
theorem dX3_blendLots_20 : decode cX3_blendLots 20 = .ok (.iload 5, 2) := by decide +kernel
theorem dX3_blendLots_22 : decode cX3_blendLots 22 = .ok (.ifCond .lt 26, 3) := by decide +kernel
theorem dX3_blendLots_25 : decode cX3_blendLots 25 = .ok (.iload 6, 2) := by decide +kernel
theorem dX3_blendLots_27 : decode cX3_blendLots 27 = .ok (.ifCond .lt 21, 3) := by decide +kernel
theorem dX3_blendLots_30 : decode cX3_blendLots 30 = .ok (.iload 5, 2) := by decide +kernel
theorem dX3_blendLots_32 : decode cX3_blendLots 32 = .ok (.iload 6, 2) := by decide +kernel
theorem dX3_blendLots_34 : decode cX3_blendLots 34 = .ok (.if_icmp .eq 14, 3) := by decide +kernel
theorem dX3_blendLots_37 : decode cX3_blendLots 37 = .ok (.iload_n 2, 1) := by decide +kernel
theorem dX3_blendLots_38 : decode cX3_blendLots 38 = .ok (.iconst 1, 1) := by decide +kernel
theorem dX3_blendLots_39 : decode cX3_blendLots 39 = .ok (.if_icmp .lt 9, 3) := by decide +kernel
theorem dX3_blendLots_42 : decode cX3_blendLots 42 = .ok (.iload 4, 2) := by decide +kernel
theorem dX3_blendLots_44 : decode cX3_blendLots 44 = .ok (.iconst 1, 1) := by decide +kernel
theorem dX3_blendLots_45 : decode cX3_blendLots 45 = .ok (.if_icmp .ge 6, 3) := by decide +kernel
theorem dX3_blendLots_48 : decode cX3_blendLots 48 = .ok (.ldc 70, 2) := by decide +kernel
theorem dX3_blendLots_50 : decode cX3_blendLots 50 = .ok (.ireturn, 1) := by decide +kernel
theorem dX3_blendLots_51 : decode cX3_blendLots 51 = .ok (.iload_n 2, 1) := by decide +kernel
theorem dX3_blendLots_52 : decode cX3_blendLots 52 = .ok (.aload_n 0, 1) := by decide +kernel
theorem dX3_blendLots_53 : decode cX3_blendLots 53 = .ok (.getfield 12, 3) := by decide +kernel
theorem dX3_blendLots_56 : decode cX3_blendLots 56 = .ok (.getfield 79, 3) := by decide +kernel
theorem dX3_blendLots_59 : decode cX3_blendLots 59 = .ok (.iload 5, 2) := by decide +kernel
theorem dX3_blendLots_61 : decode cX3_blendLots 61 = .ok (.iaload, 1) := by decide +kernel
theorem dX3_blendLots_62 : decode cX3_blendLots 62 = .ok (.if_icmp .gt 18, 3) := by decide +kernel
theorem dX3_blendLots_65 : decode cX3_blendLots 65 = .ok (.iload 4, 2) := by decide +kernel
theorem dX3_blendLots_67 : decode cX3_blendLots 67 = .ok (.aload_n 0, 1) := by decide +kernel
theorem dX3_blendLots_68 : decode cX3_blendLots 68 = .ok (.getfield 12, 3) := by decide +kernel
theorem dX3_blendLots_71 : decode cX3_blendLots 71 = .ok (.getfield 79, 3) := by decide +kernel
theorem dX3_blendLots_74 : decode cX3_blendLots 74 = .ok (.iload 6, 2) := by decide +kernel
theorem dX3_blendLots_76 : decode cX3_blendLots 76 = .ok (.iaload, 1) := by decide +kernel
theorem dX3_blendLots_77 : decode cX3_blendLots 77 = .ok (.if_icmp .le 6, 3) := by decide +kernel
theorem dX3_blendLots_80 : decode cX3_blendLots 80 = .ok (.ldc 82, 2) := by decide +kernel
theorem dX3_blendLots_82 : decode cX3_blendLots 82 = .ok (.ireturn, 1) := by decide +kernel
theorem dX3_blendLots_83 : decode cX3_blendLots 83 = .ok (.iload_n 2, 1) := by decide +kernel
theorem dX3_blendLots_84 : decode cX3_blendLots 84 = .ok (.iload 4, 2) := by decide +kernel
theorem dX3_blendLots_86 : decode cX3_blendLots 86 = .ok (.iadd, 1) := by decide +kernel
theorem dX3_blendLots_87 : decode cX3_blendLots 87 = .ok (.istore 7, 2) := by decide +kernel
theorem dX3_blendLots_89 : decode cX3_blendLots 89 = .ok (.iload_n 2, 1) := by decide +kernel
theorem dX3_blendLots_90 : decode cX3_blendLots 90 = .ok (.aload_n 0, 1) := by decide +kernel
theorem dX3_blendLots_91 : decode cX3_blendLots 91 = .ok (.getfield 12, 3) := by decide +kernel
theorem dX3_blendLots_94 : decode cX3_blendLots 94 = .ok (.getfield 79, 3) := by decide +kernel
theorem dX3_blendLots_97 : decode cX3_blendLots 97 = .ok (.iload 5, 2) := by decide +kernel
theorem dX3_blendLots_99 : decode cX3_blendLots 99 = .ok (.iaload, 1) := by decide +kernel
theorem dX3_blendLots_100 : decode cX3_blendLots 100 = .ok (.if_icmp .ne 7, 3) := by decide +kernel
theorem dX3_blendLots_103 : decode cX3_blendLots 103 = .ok (.iconst 1, 1) := by decide +kernel
theorem dX3_blendLots_104 : decode cX3_blendLots 104 = .ok (.goto 4, 3) := by decide +kernel
theorem dX3_blendLots_107 : decode cX3_blendLots 107 = .ok (.iconst 0, 1) := by decide +kernel
theorem dX3_blendLots_108 : decode cX3_blendLots 108 = .ok (.istore 8, 2) := by decide +kernel
theorem dX3_blendLots_110 : decode cX3_blendLots 110 = .ok (.iload 4, 2) := by decide +kernel
theorem dX3_blendLots_112 : decode cX3_blendLots 112 = .ok (.aload_n 0, 1) := by decide +kernel
theorem dX3_blendLots_113 : decode cX3_blendLots 113 = .ok (.getfield 12, 3) := by decide +kernel
theorem dX3_blendLots_116 : decode cX3_blendLots 116 = .ok (.getfield 79, 3) := by decide +kernel
theorem dX3_blendLots_119 : decode cX3_blendLots 119 = .ok (.iload 6, 2) := by decide +kernel
theorem dX3_blendLots_121 : decode cX3_blendLots 121 = .ok (.iaload, 1) := by decide +kernel
theorem dX3_blendLots_122 : decode cX3_blendLots 122 = .ok (.if_icmp .ne 7, 3) := by decide +kernel
theorem dX3_blendLots_125 : decode cX3_blendLots 125 = .ok (.iconst 1, 1) := by decide +kernel
theorem dX3_blendLots_126 : decode cX3_blendLots 126 = .ok (.goto 4, 3) := by decide +kernel
theorem dX3_blendLots_129 : decode cX3_blendLots 129 = .ok (.iconst 0, 1) := by decide +kernel
theorem dX3_blendLots_130 : decode cX3_blendLots 130 = .ok (.istore 9, 2) := by decide +kernel
theorem dX3_blendLots_132 : decode cX3_blendLots 132 = .ok (.iload 7, 2) := by decide +kernel
theorem dX3_blendLots_134 : decode cX3_blendLots 134 = .ok (.sipush 9999, 3) := by decide +kernel
theorem dX3_blendLots_137 : decode cX3_blendLots 137 = .ok (.if_icmp .gt 23, 3) := by decide +kernel
theorem dX3_blendLots_140 : decode cX3_blendLots 140 = .ok (.aload_n 0, 1) := by decide +kernel
theorem dX3_blendLots_141 : decode cX3_blendLots 141 = .ok (.getfield 12, 3) := by decide +kernel
theorem dX3_blendLots_144 : decode cX3_blendLots 144 = .ok (.invokevirtual 83, 3) := by decide +kernel
theorem dX3_blendLots_147 : decode cX3_blendLots 147 = .ok (.ifCond .eq 16, 3) := by decide +kernel
theorem dX3_blendLots_150 : decode cX3_blendLots 150 = .ok (.iload 8, 2) := by decide +kernel
theorem dX3_blendLots_152 : decode cX3_blendLots 152 = .ok (.ifCond .ne 11, 3) := by decide +kernel
theorem dX3_blendLots_155 : decode cX3_blendLots 155 = .ok (.iload 9, 2) := by decide +kernel
theorem dX3_blendLots_157 : decode cX3_blendLots 157 = .ok (.ifCond .ne 6, 3) := by decide +kernel
theorem dX3_blendLots_160 : decode cX3_blendLots 160 = .ok (.ldc 87, 2) := by decide +kernel
theorem dX3_blendLots_162 : decode cX3_blendLots 162 = .ok (.ireturn, 1) := by decide +kernel
theorem dX3_blendLots_163 : decode cX3_blendLots 163 = .ok (.iload_n 2, 1) := by decide +kernel
theorem dX3_blendLots_164 : decode cX3_blendLots 164 = .ok (.aload_n 0, 1) := by decide +kernel
theorem dX3_blendLots_165 : decode cX3_blendLots 165 = .ok (.getfield 12, 3) := by decide +kernel
theorem dX3_blendLots_168 : decode cX3_blendLots 168 = .ok (.iload 5, 2) := by decide +kernel
theorem dX3_blendLots_170 : decode cX3_blendLots 170 = .ok (.aload_n 0, 1) := by decide +kernel
theorem dX3_blendLots_171 : decode cX3_blendLots 171 = .ok (.getfield 50, 3) := by decide +kernel
theorem dX3_blendLots_174 : decode cX3_blendLots 174 = .ok (.invokevirtual 94, 3) := by decide +kernel
theorem dX3_blendLots_177 : decode cX3_blendLots 177 = .ok (.imul, 1) := by decide +kernel
theorem dX3_blendLots_178 : decode cX3_blendLots 178 = .ok (.iload 4, 2) := by decide +kernel
theorem dX3_blendLots_180 : decode cX3_blendLots 180 = .ok (.aload_n 0, 1) := by decide +kernel
theorem dX3_blendLots_181 : decode cX3_blendLots 181 = .ok (.getfield 12, 3) := by decide +kernel
theorem dX3_blendLots_184 : decode cX3_blendLots 184 = .ok (.iload 6, 2) := by decide +kernel
theorem dX3_blendLots_186 : decode cX3_blendLots 186 = .ok (.aload_n 0, 1) := by decide +kernel
theorem dX3_blendLots_187 : decode cX3_blendLots 187 = .ok (.getfield 50, 3) := by decide +kernel
theorem dX3_blendLots_190 : decode cX3_blendLots 190 = .ok (.invokevirtual 94, 3) := by decide +kernel
theorem dX3_blendLots_193 : decode cX3_blendLots 193 = .ok (.imul, 1) := by decide +kernel
theorem dX3_blendLots_194 : decode cX3_blendLots 194 = .ok (.iadd, 1) := by decide +kernel
theorem dX3_blendLots_195 : decode cX3_blendLots 195 = .ok (.istore 10, 2) := by decide +kernel
theorem dX3_blendLots_197 : decode cX3_blendLots 197 = .ok (.aload_n 0, 1) := by decide +kernel
theorem dX3_blendLots_198 : decode cX3_blendLots 198 = .ok (.getfield 12, 3) := by decide +kernel
theorem dX3_blendLots_201 : decode cX3_blendLots 201 = .ok (.getfield 79, 3) := by decide +kernel
theorem dX3_blendLots_204 : decode cX3_blendLots 204 = .ok (.iload 5, 2) := by decide +kernel
theorem dX3_blendLots_206 : decode cX3_blendLots 206 = .ok (.dup2, 1) := by decide +kernel
theorem dX3_blendLots_207 : decode cX3_blendLots 207 = .ok (.iaload, 1) := by decide +kernel
theorem dX3_blendLots_208 : decode cX3_blendLots 208 = .ok (.iload_n 2, 1) := by decide +kernel
theorem dX3_blendLots_209 : decode cX3_blendLots 209 = .ok (.isub, 1) := by decide +kernel
theorem dX3_blendLots_210 : decode cX3_blendLots 210 = .ok (.iastore, 1) := by decide +kernel
theorem dX3_blendLots_211 : decode cX3_blendLots 211 = .ok (.aload_n 0, 1) := by decide +kernel
theorem dX3_blendLots_212 : decode cX3_blendLots 212 = .ok (.getfield 12, 3) := by decide +kernel
theorem dX3_blendLots_215 : decode cX3_blendLots 215 = .ok (.getfield 79, 3) := by decide +kernel
theorem dX3_blendLots_218 : decode cX3_blendLots 218 = .ok (.iload 6, 2) := by decide +kernel
theorem dX3_blendLots_220 : decode cX3_blendLots 220 = .ok (.dup2, 1) := by decide +kernel
theorem dX3_blendLots_221 : decode cX3_blendLots 221 = .ok (.iaload, 1) := by decide +kernel
theorem dX3_blendLots_222 : decode cX3_blendLots 222 = .ok (.iload 4, 2) := by decide +kernel
theorem dX3_blendLots_224 : decode cX3_blendLots 224 = .ok (.isub, 1) := by decide +kernel
theorem dX3_blendLots_225 : decode cX3_blendLots 225 = .ok (.iastore, 1) := by decide +kernel
theorem dX3_blendLots_226 : decode cX3_blendLots 226 = .ok (.aload_n 0, 1) := by decide +kernel
theorem dX3_blendLots_227 : decode cX3_blendLots 227 = .ok (.getfield 12, 3) := by decide +kernel
theorem dX3_blendLots_230 : decode cX3_blendLots 230 = .ok (.invokevirtual 98, 3) := by decide +kernel
theorem dX3_blendLots_233 : decode cX3_blendLots 233 = .ok (.aload_n 0, 1) := by decide +kernel
theorem dX3_blendLots_234 : decode cX3_blendLots 234 = .ok (.getfield 12, 3) := by decide +kernel
theorem dX3_blendLots_237 : decode cX3_blendLots 237 = .ok (.iload 7, 2) := by decide +kernel
theorem dX3_blendLots_239 : decode cX3_blendLots 239 = .ok (.iload 10, 2) := by decide +kernel
theorem dX3_blendLots_241 : decode cX3_blendLots 241 = .ok (.iload 7, 2) := by decide +kernel
theorem dX3_blendLots_243 : decode cX3_blendLots 243 = .ok (.idiv, 1) := by decide +kernel
theorem dX3_blendLots_244 : decode cX3_blendLots 244 = .ok (.aload_n 0, 1) := by decide +kernel
theorem dX3_blendLots_245 : decode cX3_blendLots 245 = .ok (.getfield 50, 3) := by decide +kernel
theorem dX3_blendLots_248 : decode cX3_blendLots 248 = .ok (.invokevirtual 71, 3) := by decide +kernel
theorem dX3_blendLots_251 : decode cX3_blendLots 251 = .ok (.ireturn, 1) := by decide +kernel
set_option maxRecDepth 20000 in
theorem ggX3_cupAnew_X4_rowOf : GoodIn wsX3_cupAnew wsX4_rowOf := goodIn_r _ [12, 13, 14, 30, 31, 32, 33, 34, 35] (by decide +kernel) (by decide +kernel)
set_option maxRecDepth 20000 in
theorem gX3_cupAnew_X4_rowOf : GoodIn wsX3_cupAnew (wsV RX3 75 RX4 yX4_rowOf wsX4_rowOf) := goodIn_app (goodIn_of _ (by decide +kernel)) ggX3_cupAnew_X4_rowOf
set_option maxRecDepth 20000 in
theorem ggX3_cupAnew_X4_cupAt : GoodIn wsX3_cupAnew wsX4_cupAt := goodIn_r _ [18, 19, 20, 30, 31, 32, 33, 34, 35] (by decide +kernel) (by decide +kernel)
set_option maxRecDepth 20000 in
theorem gX3_cupAnew_X4_cupAt : GoodIn wsX3_cupAnew (wsV RX3 94 RX4 yX4_cupAt wsX4_cupAt) := goodIn_app (goodIn_of _ (by decide +kernel)) ggX3_cupAnew_X4_cupAt
theorem dX3_cupAnew_0 : decode cX3_cupAnew 0 = .ok (.aload_n 0, 1) := by decide +kernel
theorem dX3_cupAnew_1 : decode cX3_cupAnew 1 = .ok (.getfield 12, 3) := by decide +kernel
theorem dX3_cupAnew_4 : decode cX3_cupAnew 4 = .ok (.iload_n 1, 1) := by decide +kernel
theorem dX3_cupAnew_5 : decode cX3_cupAnew 5 = .ok (.invokevirtual 75, 3) := by decide +kernel
theorem dX3_cupAnew_8 : decode cX3_cupAnew 8 = .ok (.istore_n 2, 1) := by decide +kernel
theorem dX3_cupAnew_9 : decode cX3_cupAnew 9 = .ok (.iload_n 2, 1) := by decide +kernel
theorem dX3_cupAnew_10 : decode cX3_cupAnew 10 = .ok (.ifCond .ge 6, 3) := by decide +kernel
theorem dX3_cupAnew_13 : decode cX3_cupAnew 13 = .ok (.ldc 70, 2) := by decide +kernel
theorem dX3_cupAnew_15 : decode cX3_cupAnew 15 = .ok (.ireturn, 1) := by decide +kernel
theorem dX3_cupAnew_16 : decode cX3_cupAnew 16 = .ok (.aload_n 0, 1) := by decide +kernel
theorem dX3_cupAnew_17 : decode cX3_cupAnew 17 = .ok (.getfield 12, 3) := by decide +kernel
theorem dX3_cupAnew_20 : decode cX3_cupAnew 20 = .ok (.getfield 79, 3) := by decide +kernel
theorem dX3_cupAnew_23 : decode cX3_cupAnew 23 = .ok (.iload_n 2, 1) := by decide +kernel
theorem dX3_cupAnew_24 : decode cX3_cupAnew 24 = .ok (.iaload, 1) := by decide +kernel
theorem dX3_cupAnew_25 : decode cX3_cupAnew 25 = .ok (.iconst 1, 1) := by decide +kernel
theorem dX3_cupAnew_26 : decode cX3_cupAnew 26 = .ok (.if_icmp .gt 6, 3) := by decide +kernel
theorem dX3_cupAnew_29 : decode cX3_cupAnew 29 = .ok (.ldc 82, 2) := by decide +kernel
theorem dX3_cupAnew_31 : decode cX3_cupAnew 31 = .ok (.ireturn, 1) := by decide +kernel
theorem dX3_cupAnew_32 : decode cX3_cupAnew 32 = .ok (.aload_n 0, 1) := by decide +kernel
theorem dX3_cupAnew_33 : decode cX3_cupAnew 33 = .ok (.getfield 12, 3) := by decide +kernel
theorem dX3_cupAnew_36 : decode cX3_cupAnew 36 = .ok (.getfield 79, 3) := by decide +kernel
theorem dX3_cupAnew_39 : decode cX3_cupAnew 39 = .ok (.iload_n 2, 1) := by decide +kernel
theorem dX3_cupAnew_40 : decode cX3_cupAnew 40 = .ok (.dup2, 1) := by decide +kernel
theorem dX3_cupAnew_41 : decode cX3_cupAnew 41 = .ok (.iaload, 1) := by decide +kernel
theorem dX3_cupAnew_42 : decode cX3_cupAnew 42 = .ok (.iconst 1, 1) := by decide +kernel
theorem dX3_cupAnew_43 : decode cX3_cupAnew 43 = .ok (.isub, 1) := by decide +kernel
theorem dX3_cupAnew_44 : decode cX3_cupAnew 44 = .ok (.iastore, 1) := by decide +kernel
theorem dX3_cupAnew_45 : decode cX3_cupAnew 45 = .ok (.aload_n 0, 1) := by decide +kernel
theorem dX3_cupAnew_46 : decode cX3_cupAnew 46 = .ok (.getfield 12, 3) := by decide +kernel
theorem dX3_cupAnew_49 : decode cX3_cupAnew 49 = .ok (.getfield 88, 3) := by decide +kernel
theorem dX3_cupAnew_52 : decode cX3_cupAnew 52 = .ok (.iload_n 2, 1) := by decide +kernel
theorem dX3_cupAnew_53 : decode cX3_cupAnew 53 = .ok (.aload_n 0, 1) := by decide +kernel
theorem dX3_cupAnew_54 : decode cX3_cupAnew 54 = .ok (.getfield 12, 3) := by decide +kernel
theorem dX3_cupAnew_57 : decode cX3_cupAnew 57 = .ok (.iload_n 2, 1) := by decide +kernel
theorem dX3_cupAnew_58 : decode cX3_cupAnew 58 = .ok (.aload_n 0, 1) := by decide +kernel
theorem dX3_cupAnew_59 : decode cX3_cupAnew 59 = .ok (.getfield 50, 3) := by decide +kernel
theorem dX3_cupAnew_62 : decode cX3_cupAnew 62 = .ok (.invokevirtual 94, 3) := by decide +kernel
theorem dX3_cupAnew_65 : decode cX3_cupAnew 65 = .ok (.iastore, 1) := by decide +kernel
theorem dX3_cupAnew_66 : decode cX3_cupAnew 66 = .ok (.aload_n 0, 1) := by decide +kernel
theorem dX3_cupAnew_67 : decode cX3_cupAnew 67 = .ok (.getfield 12, 3) := by decide +kernel
theorem dX3_cupAnew_70 : decode cX3_cupAnew 70 = .ok (.getfield 91, 3) := by decide +kernel
theorem dX3_cupAnew_73 : decode cX3_cupAnew 73 = .ok (.iload_n 2, 1) := by decide +kernel
theorem dX3_cupAnew_74 : decode cX3_cupAnew 74 = .ok (.aload_n 0, 1) := by decide +kernel
theorem dX3_cupAnew_75 : decode cX3_cupAnew 75 = .ok (.getfield 50, 3) := by decide +kernel
theorem dX3_cupAnew_78 : decode cX3_cupAnew 78 = .ok (.iastore, 1) := by decide +kernel
theorem dX3_cupAnew_79 : decode cX3_cupAnew 79 = .ok (.aload_n 0, 1) := by decide +kernel
theorem dX3_cupAnew_80 : decode cX3_cupAnew 80 = .ok (.getfield 12, 3) := by decide +kernel
theorem dX3_cupAnew_83 : decode cX3_cupAnew 83 = .ok (.getfield 88, 3) := by decide +kernel
theorem dX3_cupAnew_86 : decode cX3_cupAnew 86 = .ok (.iload_n 2, 1) := by decide +kernel
theorem dX3_cupAnew_87 : decode cX3_cupAnew 87 = .ok (.iaload, 1) := by decide +kernel
theorem dX3_cupAnew_88 : decode cX3_cupAnew 88 = .ok (.ireturn, 1) := by decide +kernel
set_option maxRecDepth 20000 in
theorem ggX3_changeWorth_X6_isWithin : GoodIn wsX3_changeWorth wsX6_isWithin := goodIn_r _ [5] (by decide +kernel) (by decide +kernel)
set_option maxRecDepth 20000 in
theorem gX3_changeWorth_X6_isWithin_n66 : GoodIn wsX3_changeWorth (wsX6_isWithin) := ggX3_changeWorth_X6_isWithin
theorem dX3_changeWorth_0 : decode cX3_changeWorth 0 = .ok (.iload_n 1, 1) := by decide +kernel
theorem dX3_changeWorth_1 : decode cX3_changeWorth 1 = .ok (.iconst 0, 1) := by decide +kernel
theorem dX3_changeWorth_2 : decode cX3_changeWorth 2 = .ok (.iconst 3, 1) := by decide +kernel
theorem dX3_changeWorth_3 : decode cX3_changeWorth 3 = .ok (.invokestatic 66, 3) := by decide +kernel
theorem dX3_changeWorth_6 : decode cX3_changeWorth 6 = .ok (.ifCond .eq 14, 3) := by decide +kernel
theorem dX3_changeWorth_9 : decode cX3_changeWorth 9 = .ok (.iload_n 2, 1) := by decide +kernel
theorem dX3_changeWorth_10 : decode cX3_changeWorth 10 = .ok (.iconst 1, 1) := by decide +kernel
theorem dX3_changeWorth_11 : decode cX3_changeWorth 11 = .ok (.sipush 999, 3) := by decide +kernel
theorem dX3_changeWorth_14 : decode cX3_changeWorth 14 = .ok (.invokestatic 66, 3) := by decide +kernel
theorem dX3_changeWorth_17 : decode cX3_changeWorth 17 = .ok (.ifCond .ne 6, 3) := by decide +kernel
theorem dX3_changeWorth_20 : decode cX3_changeWorth 20 = .ok (.ldc 70, 2) := by decide +kernel
theorem dX3_changeWorth_22 : decode cX3_changeWorth 22 = .ok (.ireturn, 1) := by decide +kernel
theorem dX3_changeWorth_23 : decode cX3_changeWorth 23 = .ok (.aload_n 0, 1) := by decide +kernel
theorem dX3_changeWorth_24 : decode cX3_changeWorth 24 = .ok (.getfield 34, 3) := by decide +kernel
theorem dX3_changeWorth_27 : decode cX3_changeWorth 27 = .ok (.iload_n 1, 1) := by decide +kernel
theorem dX3_changeWorth_28 : decode cX3_changeWorth 28 = .ok (.iaload, 1) := by decide +kernel
theorem dX3_changeWorth_29 : decode cX3_changeWorth 29 = .ok (.istore_n 3, 1) := by decide +kernel
theorem dX3_changeWorth_30 : decode cX3_changeWorth 30 = .ok (.aload_n 0, 1) := by decide +kernel
theorem dX3_changeWorth_31 : decode cX3_changeWorth 31 = .ok (.getfield 34, 3) := by decide +kernel
theorem dX3_changeWorth_34 : decode cX3_changeWorth 34 = .ok (.iload_n 1, 1) := by decide +kernel
theorem dX3_changeWorth_35 : decode cX3_changeWorth 35 = .ok (.iload_n 2, 1) := by decide +kernel
theorem dX3_changeWorth_36 : decode cX3_changeWorth 36 = .ok (.iastore, 1) := by decide +kernel
theorem dX3_changeWorth_37 : decode cX3_changeWorth 37 = .ok (.iload_n 3, 1) := by decide +kernel
theorem dX3_changeWorth_38 : decode cX3_changeWorth 38 = .ok (.ireturn, 1) := by decide +kernel
set_option maxRecDepth 20000 in
theorem ggX3_sellContract_X6_isWithin : GoodIn wsX3_sellContract wsX6_isWithin := goodIn_r _ [7] (by decide +kernel) (by decide +kernel)
set_option maxRecDepth 20000 in
theorem gX3_sellContract_X6_isWithin_n66 : GoodIn wsX3_sellContract (wsX6_isWithin) := ggX3_sellContract_X6_isWithin
set_option maxRecDepth 20000 in
theorem ggX3_sellContract_X3_isDeliveryMonth : GoodIn wsX3_sellContract wsX3_isDeliveryMonth := goodIn_r _ [12, 13, 14, 15, 16, 17, 27, 28, 29, 30, 31, 32, 33, 34, 35] (by decide +kernel) (by decide +kernel)
set_option maxRecDepth 20000 in
theorem gX3_sellContract_X3_isDeliveryMonth : GoodIn wsX3_sellContract (wsV RX3 101 RX3 yX3_isDeliveryMonth wsX3_isDeliveryMonth) := goodIn_app (goodIn_of _ (by decide +kernel)) ggX3_sellContract_X3_isDeliveryMonth
set_option maxRecDepth 20000 in
theorem ggX3_sellContract_X0_add : GoodIn wsX3_sellContract wsX0_add := goodIn_r _ [22, 23, 24, 25, 26, 36, 37, 38] (by decide +kernel) (by decide +kernel)
set_option maxRecDepth 20000 in
theorem gX3_sellContract_X0_add : GoodIn wsX3_sellContract (wsV RX3 105 RX0 yX0_add wsX0_add) := goodIn_app (goodIn_of _ (by decide +kernel)) ggX3_sellContract_X0_add
theorem dX3_sellContract_0 : decode cX3_sellContract 0 = .ok (.iload_n 1, 1) := by decide +kernel
theorem dX3_sellContract_1 : decode cX3_sellContract 1 = .ok (.iconst 0, 1) := by decide +kernel
theorem dX3_sellContract_2 : decode cX3_sellContract 2 = .ok (.sipush 999, 3) := by decide +kernel
theorem dX3_sellContract_5 : decode cX3_sellContract 5 = .ok (.invokestatic 66, 3) := by decide +kernel
theorem dX3_sellContract_8 : decode cX3_sellContract 8 = .ok (.ifCond .eq 14, 3) := by decide +kernel
theorem dX3_sellContract_11 : decode cX3_sellContract 11 = .ok (.iload_n 2, 1) := by decide +kernel
theorem dX3_sellContract_12 : decode cX3_sellContract 12 = .ok (.iconst 1, 1) := by decide +kernel
theorem dX3_sellContract_13 : decode cX3_sellContract 13 = .ok (.sipush 999, 3) := by decide +kernel
theorem dX3_sellContract_16 : decode cX3_sellContract 16 = .ok (.invokestatic 66, 3) := by decide +kernel
theorem dX3_sellContract_19 : decode cX3_sellContract 19 = .ok (.ifCond .ne 6, 3) := by decide +kernel
theorem dX3_sellContract_22 : decode cX3_sellContract 22 = .ok (.ldc 70, 2) := by decide +kernel
theorem dX3_sellContract_24 : decode cX3_sellContract 24 = .ok (.ireturn, 1) := by decide +kernel
theorem dX3_sellContract_25 : decode cX3_sellContract 25 = .ok (.iload_n 1, 1) := by decide +kernel
theorem dX3_sellContract_26 : decode cX3_sellContract 26 = .ok (.aload_n 0, 1) := by decide +kernel
theorem dX3_sellContract_27 : decode cX3_sellContract 27 = .ok (.getfield 50, 3) := by decide +kernel
theorem dX3_sellContract_30 : decode cX3_sellContract 30 = .ok (.if_icmp .lt 11, 3) := by decide +kernel
theorem dX3_sellContract_33 : decode cX3_sellContract 33 = .ok (.aload_n 0, 1) := by decide +kernel
theorem dX3_sellContract_34 : decode cX3_sellContract 34 = .ok (.iload_n 1, 1) := by decide +kernel
theorem dX3_sellContract_35 : decode cX3_sellContract 35 = .ok (.invokevirtual 101, 3) := by decide +kernel
theorem dX3_sellContract_38 : decode cX3_sellContract 38 = .ok (.ifCond .ne 6, 3) := by decide +kernel
theorem dX3_sellContract_41 : decode cX3_sellContract 41 = .ok (.ldc 82, 2) := by decide +kernel
theorem dX3_sellContract_43 : decode cX3_sellContract 43 = .ok (.ireturn, 1) := by decide +kernel
theorem dX3_sellContract_44 : decode cX3_sellContract 44 = .ok (.aload_n 0, 1) := by decide +kernel
theorem dX3_sellContract_45 : decode cX3_sellContract 45 = .ok (.getfield 21, 3) := by decide +kernel
theorem dX3_sellContract_48 : decode cX3_sellContract 48 = .ok (.iload_n 1, 1) := by decide +kernel
theorem dX3_sellContract_49 : decode cX3_sellContract 49 = .ok (.iload_n 2, 1) := by decide +kernel
theorem dX3_sellContract_50 : decode cX3_sellContract 50 = .ok (.invokevirtual 105, 3) := by decide +kernel
theorem dX3_sellContract_53 : decode cX3_sellContract 53 = .ok (.ireturn, 1) := by decide +kernel
set_option maxRecDepth 20000 in
theorem ggX3_buyContractBack_X0_isOpen : GoodIn wsX3_buyContractBack wsX0_isOpen := goodIn_r _ [10, 11, 31, 32, 33] (by decide +kernel) (by decide +kernel)
set_option maxRecDepth 20000 in
theorem gX3_buyContractBack_X0_isOpen : GoodIn wsX3_buyContractBack (wsV RX3 107 RX0 yX0_isOpen wsX0_isOpen) := goodIn_app (goodIn_of _ (by decide +kernel)) ggX3_buyContractBack_X0_isOpen
set_option maxRecDepth 20000 in
theorem ggX3_buyContractBack_X6_isWithin : GoodIn wsX3_buyContractBack wsX6_isWithin := goodIn_r _ [14] (by decide +kernel) (by decide +kernel)
set_option maxRecDepth 20000 in
theorem gX3_buyContractBack_X6_isWithin_n66 : GoodIn wsX3_buyContractBack (wsX6_isWithin) := ggX3_buyContractBack_X6_isWithin
set_option maxRecDepth 20000 in
theorem ggX3_buyContractBack_X0_drop : GoodIn wsX3_buyContractBack wsX0_drop := goodIn_r _ [18, 11, 19, 20, 21, 7, 8, 9, 10, 31, 32, 33] (by decide +kernel) (by decide +kernel)
set_option maxRecDepth 20000 in
theorem gX3_buyContractBack_X0_drop : GoodIn wsX3_buyContractBack (wsV RX3 113 RX0 yX0_drop wsX0_drop) := goodIn_app (goodIn_of _ (by decide +kernel)) ggX3_buyContractBack_X0_drop
theorem dX3_buyContractBack_0 : decode cX3_buyContractBack 0 = .ok (.aload_n 0, 1) := by decide +kernel
theorem dX3_buyContractBack_1 : decode cX3_buyContractBack 1 = .ok (.getfield 21, 3) := by decide +kernel
theorem dX3_buyContractBack_4 : decode cX3_buyContractBack 4 = .ok (.iload_n 1, 1) := by decide +kernel
theorem dX3_buyContractBack_5 : decode cX3_buyContractBack 5 = .ok (.invokevirtual 107, 3) := by decide +kernel
theorem dX3_buyContractBack_8 : decode cX3_buyContractBack 8 = .ok (.ifCond .eq 14, 3) := by decide +kernel
theorem dX3_buyContractBack_11 : decode cX3_buyContractBack 11 = .ok (.iload_n 2, 1) := by decide +kernel
theorem dX3_buyContractBack_12 : decode cX3_buyContractBack 12 = .ok (.iconst 1, 1) := by decide +kernel
theorem dX3_buyContractBack_13 : decode cX3_buyContractBack 13 = .ok (.sipush 999, 3) := by decide +kernel
theorem dX3_buyContractBack_16 : decode cX3_buyContractBack 16 = .ok (.invokestatic 66, 3) := by decide +kernel
theorem dX3_buyContractBack_19 : decode cX3_buyContractBack 19 = .ok (.ifCond .ne 6, 3) := by decide +kernel
theorem dX3_buyContractBack_22 : decode cX3_buyContractBack 22 = .ok (.ldc 70, 2) := by decide +kernel
theorem dX3_buyContractBack_24 : decode cX3_buyContractBack 24 = .ok (.ireturn, 1) := by decide +kernel
theorem dX3_buyContractBack_25 : decode cX3_buyContractBack 25 = .ok (.aload_n 0, 1) := by decide +kernel
theorem dX3_buyContractBack_26 : decode cX3_buyContractBack 26 = .ok (.getfield 40, 3) := by decide +kernel
theorem dX3_buyContractBack_29 : decode cX3_buyContractBack 29 = .ok (.iconst 0, 1) := by decide +kernel
theorem dX3_buyContractBack_30 : decode cX3_buyContractBack 30 = .ok (.iaload, 1) := by decide +kernel
theorem dX3_buyContractBack_31 : decode cX3_buyContractBack 31 = .ok (.aload_n 0, 1) := by decide +kernel
theorem dX3_buyContractBack_32 : decode cX3_buyContractBack 32 = .ok (.getfield 21, 3) := by decide +kernel
theorem dX3_buyContractBack_35 : decode cX3_buyContractBack 35 = .ok (.getfield 110, 3) := by decide +kernel
theorem dX3_buyContractBack_38 : decode cX3_buyContractBack 38 = .ok (.iload_n 1, 1) := by decide +kernel
theorem dX3_buyContractBack_39 : decode cX3_buyContractBack 39 = .ok (.iaload, 1) := by decide +kernel
theorem dX3_buyContractBack_40 : decode cX3_buyContractBack 40 = .ok (.iload_n 2, 1) := by decide +kernel
theorem dX3_buyContractBack_41 : decode cX3_buyContractBack 41 = .ok (.isub, 1) := by decide +kernel
theorem dX3_buyContractBack_42 : decode cX3_buyContractBack 42 = .ok (.imul, 1) := by decide +kernel
theorem dX3_buyContractBack_43 : decode cX3_buyContractBack 43 = .ok (.istore_n 3, 1) := by decide +kernel
theorem dX3_buyContractBack_44 : decode cX3_buyContractBack 44 = .ok (.aload_n 0, 1) := by decide +kernel
theorem dX3_buyContractBack_45 : decode cX3_buyContractBack 45 = .ok (.dup, 1) := by decide +kernel
theorem dX3_buyContractBack_46 : decode cX3_buyContractBack 46 = .ok (.getfield 54, 3) := by decide +kernel
theorem dX3_buyContractBack_49 : decode cX3_buyContractBack 49 = .ok (.iload_n 3, 1) := by decide +kernel
theorem dX3_buyContractBack_50 : decode cX3_buyContractBack 50 = .ok (.iadd, 1) := by decide +kernel
theorem dX3_buyContractBack_51 : decode cX3_buyContractBack 51 = .ok (.putfield 54, 3) := by decide +kernel
theorem dX3_buyContractBack_54 : decode cX3_buyContractBack 54 = .ok (.aload_n 0, 1) := by decide +kernel
theorem dX3_buyContractBack_55 : decode cX3_buyContractBack 55 = .ok (.getfield 21, 3) := by decide +kernel
theorem dX3_buyContractBack_58 : decode cX3_buyContractBack 58 = .ok (.iload_n 1, 1) := by decide +kernel
theorem dX3_buyContractBack_59 : decode cX3_buyContractBack 59 = .ok (.invokevirtual 113, 3) := by decide +kernel
theorem dX3_buyContractBack_62 : decode cX3_buyContractBack 62 = .ok (.iload_n 3, 1) := by decide +kernel
theorem dX3_buyContractBack_63 : decode cX3_buyContractBack 63 = .ok (.ireturn, 1) := by decide +kernel
set_option maxRecDepth 20000 in
theorem ggX3_meetContract_X0_isOpen : GoodIn wsX3_meetContract wsX0_isOpen := goodIn_r _ [22, 23, 104, 105, 106] (by decide +kernel) (by decide +kernel)
set_option maxRecDepth 20000 in
theorem gX3_meetContract_X0_isOpen : GoodIn wsX3_meetContract (wsV RX3 107 RX0 yX0_isOpen wsX0_isOpen) := goodIn_app (goodIn_of _ (by decide +kernel)) ggX3_meetContract_X0_isOpen
set_option maxRecDepth 20000 in
theorem ggX3_meetContract_X1_plan : GoodIn wsX3_meetContract wsX1_plan := goodIn_r _ [28, 29, 30, 31, 32, 33, 34, 35, 36, 37, 38, 39, 40, 41, 27, 42, 43, 44, 45, 46, 47, 48, 49, 50, 51, 52, 53, 54, 55, 56, 57, 58, 59, 60, 61, 62, 63, 17, 64, 65, 66, 67, 68, 69, 70, 71, 72, 73, 74, 75, 76, 77, 78, 79, 80, 107, 108, 109, 110, 111, 112, 113, 114, 115, 116, 117, 118, 95, 96, 97, 98, 99, 100, 101, 102, 103, 119, 120, 121, 122, 123, 124] (by decide +kernel) (by decide +kernel)
set_option maxRecDepth 20000 in
theorem gX3_meetContract_X1_plan : GoodIn wsX3_meetContract (wsV RX3 118 RX1 yX1_plan wsX1_plan) := goodIn_app (goodIn_of _ (by decide +kernel)) ggX3_meetContract_X1_plan
set_option maxRecDepth 20000 in
theorem ggX3_meetContract_X4_dropEmpty : GoodIn wsX3_meetContract wsX4_dropEmpty := goodIn_r _ [84, 85, 86, 87, 53, 54, 119, 120, 121, 122, 123, 124] (by decide +kernel) (by decide +kernel)
set_option maxRecDepth 20000 in
theorem gX3_meetContract_X4_dropEmpty : GoodIn wsX3_meetContract (wsV RX3 98 RX4 yX4_dropEmpty wsX4_dropEmpty) := goodIn_app (goodIn_of _ (by decide +kernel)) ggX3_meetContract_X4_dropEmpty
set_option maxRecDepth 20000 in
theorem ggX3_meetContract_X0_drop : GoodIn wsX3_meetContract wsX0_drop := goodIn_r _ [91, 23, 92, 93, 94, 19, 20, 21, 22, 104, 105, 106] (by decide +kernel) (by decide +kernel)
set_option maxRecDepth 20000 in
theorem gX3_meetContract_X0_drop : GoodIn wsX3_meetContract (wsV RX3 113 RX0 yX0_drop wsX0_drop) := goodIn_app (goodIn_of _ (by decide +kernel)) ggX3_meetContract_X0_drop
theorem dX3_meetContract_0 : decode cX3_meetContract 0 = .ok (.aload_n 0, 1) := by decide +kernel
theorem dX3_meetContract_1 : decode cX3_meetContract 1 = .ok (.getfield 21, 3) := by decide +kernel
theorem dX3_meetContract_4 : decode cX3_meetContract 4 = .ok (.iload_n 1, 1) := by decide +kernel
theorem dX3_meetContract_5 : decode cX3_meetContract 5 = .ok (.invokevirtual 107, 3) := by decide +kernel
theorem dX3_meetContract_8 : decode cX3_meetContract 8 = .ok (.ifCond .ne 6, 3) := by decide +kernel
theorem dX3_meetContract_11 : decode cX3_meetContract 11 = .ok (.ldc 70, 2) := by decide +kernel
theorem dX3_meetContract_13 : decode cX3_meetContract 13 = .ok (.ireturn, 1) := by decide +kernel
theorem dX3_meetContract_14 : decode cX3_meetContract 14 = .ok (.aload_n 0, 1) := by decide +kernel
theorem dX3_meetContract_15 : decode cX3_meetContract 15 = .ok (.getfield 21, 3) := by decide +kernel
theorem dX3_meetContract_18 : decode cX3_meetContract 18 = .ok (.getfield 117, 3) := by decide +kernel
theorem dX3_meetContract_21 : decode cX3_meetContract 21 = .ok (.iload_n 1, 1) := by decide +kernel
theorem dX3_meetContract_22 : decode cX3_meetContract 22 = .ok (.iaload, 1) := by decide +kernel
theorem dX3_meetContract_23 : decode cX3_meetContract 23 = .ok (.aload_n 0, 1) := by decide +kernel
theorem dX3_meetContract_24 : decode cX3_meetContract 24 = .ok (.getfield 50, 3) := by decide +kernel
theorem dX3_meetContract_27 : decode cX3_meetContract 27 = .ok (.if_icmp .eq 6, 3) := by decide +kernel
theorem dX3_meetContract_30 : decode cX3_meetContract 30 = .ok (.ldc 82, 2) := by decide +kernel
theorem dX3_meetContract_32 : decode cX3_meetContract 32 = .ok (.ireturn, 1) := by decide +kernel
theorem dX3_meetContract_33 : decode cX3_meetContract 33 = .ok (.aload_n 2, 1) := by decide +kernel
theorem dX3_meetContract_34 : decode cX3_meetContract 34 = .ok (.aload_n 0, 1) := by decide +kernel
theorem dX3_meetContract_35 : decode cX3_meetContract 35 = .ok (.aload_n 0, 1) := by decide +kernel
theorem dX3_meetContract_36 : decode cX3_meetContract 36 = .ok (.getfield 21, 3) := by decide +kernel
theorem dX3_meetContract_39 : decode cX3_meetContract 39 = .ok (.getfield 110, 3) := by decide +kernel
theorem dX3_meetContract_42 : decode cX3_meetContract 42 = .ok (.iload_n 1, 1) := by decide +kernel
theorem dX3_meetContract_43 : decode cX3_meetContract 43 = .ok (.iaload, 1) := by decide +kernel
theorem dX3_meetContract_44 : decode cX3_meetContract 44 = .ok (.aload_n 0, 1) := by decide +kernel
theorem dX3_meetContract_45 : decode cX3_meetContract 45 = .ok (.getfield 50, 3) := by decide +kernel
theorem dX3_meetContract_48 : decode cX3_meetContract 48 = .ok (.invokevirtual 118, 3) := by decide +kernel
theorem dX3_meetContract_51 : decode cX3_meetContract 51 = .ok (.aload_n 2, 1) := by decide +kernel
theorem dX3_meetContract_52 : decode cX3_meetContract 52 = .ok (.getfield 124, 3) := by decide +kernel
theorem dX3_meetContract_55 : decode cX3_meetContract 55 = .ok (.ifCond .le 6, 3) := by decide +kernel
theorem dX3_meetContract_58 : decode cX3_meetContract 58 = .ok (.ldc 82, 2) := by decide +kernel
theorem dX3_meetContract_60 : decode cX3_meetContract 60 = .ok (.ireturn, 1) := by decide +kernel
theorem dX3_meetContract_61 : decode cX3_meetContract 61 = .ok (.iconst 0, 1) := by decide +kernel
theorem dX3_meetContract_62 : decode cX3_meetContract 62 = .ok (.istore_n 3, 1) := by decide +kernel
theorem dX3_meetContract_63 : decode cX3_meetContract 63 = .ok (.iload_n 3, 1) := by decide +kernel
theorem dX3_meetContract_64 : decode cX3_meetContract 64 = .ok (.aload_n 2, 1) := by decide +kernel
theorem dX3_meetContract_65 : decode cX3_meetContract 65 = .ok (.getfield 127, 3) := by decide +kernel
theorem dX3_meetContract_68 : decode cX3_meetContract 68 = .ok (.if_icmp .ge 32, 3) := by decide +kernel
theorem dX3_meetContract_71 : decode cX3_meetContract 71 = .ok (.aload_n 0, 1) := by decide +kernel
theorem dX3_meetContract_72 : decode cX3_meetContract 72 = .ok (.getfield 12, 3) := by decide +kernel
theorem dX3_meetContract_75 : decode cX3_meetContract 75 = .ok (.getfield 79, 3) := by decide +kernel
theorem dX3_meetContract_78 : decode cX3_meetContract 78 = .ok (.aload_n 2, 1) := by decide +kernel
theorem dX3_meetContract_79 : decode cX3_meetContract 79 = .ok (.getfield 130, 3) := by decide +kernel
theorem dX3_meetContract_82 : decode cX3_meetContract 82 = .ok (.iload_n 3, 1) := by decide +kernel
theorem dX3_meetContract_83 : decode cX3_meetContract 83 = .ok (.iaload, 1) := by decide +kernel
theorem dX3_meetContract_84 : decode cX3_meetContract 84 = .ok (.dup2, 1) := by decide +kernel
theorem dX3_meetContract_85 : decode cX3_meetContract 85 = .ok (.iaload, 1) := by decide +kernel
theorem dX3_meetContract_86 : decode cX3_meetContract 86 = .ok (.aload_n 2, 1) := by decide +kernel
theorem dX3_meetContract_87 : decode cX3_meetContract 87 = .ok (.getfield 133, 3) := by decide +kernel
theorem dX3_meetContract_90 : decode cX3_meetContract 90 = .ok (.iload_n 3, 1) := by decide +kernel
theorem dX3_meetContract_91 : decode cX3_meetContract 91 = .ok (.iaload, 1) := by decide +kernel
theorem dX3_meetContract_92 : decode cX3_meetContract 92 = .ok (.isub, 1) := by decide +kernel
theorem dX3_meetContract_93 : decode cX3_meetContract 93 = .ok (.iastore, 1) := by decide +kernel
theorem dX3_meetContract_94 : decode cX3_meetContract 94 = .ok (.iinc 3 1, 3) := by decide +kernel
theorem dX3_meetContract_97 : decode cX3_meetContract 97 = .ok (.goto (-34), 3) := by decide +kernel
theorem dX3_meetContract_100 : decode cX3_meetContract 100 = .ok (.aload_n 0, 1) := by decide +kernel
theorem dX3_meetContract_101 : decode cX3_meetContract 101 = .ok (.getfield 12, 3) := by decide +kernel
theorem dX3_meetContract_104 : decode cX3_meetContract 104 = .ok (.invokevirtual 98, 3) := by decide +kernel
theorem dX3_meetContract_107 : decode cX3_meetContract 107 = .ok (.aload_n 0, 1) := by decide +kernel
theorem dX3_meetContract_108 : decode cX3_meetContract 108 = .ok (.getfield 21, 3) := by decide +kernel
theorem dX3_meetContract_111 : decode cX3_meetContract 111 = .ok (.iload_n 1, 1) := by decide +kernel
theorem dX3_meetContract_112 : decode cX3_meetContract 112 = .ok (.invokevirtual 113, 3) := by decide +kernel
theorem dX3_meetContract_115 : decode cX3_meetContract 115 = .ok (.aload_n 0, 1) := by decide +kernel
theorem dX3_meetContract_116 : decode cX3_meetContract 116 = .ok (.dup, 1) := by decide +kernel
theorem dX3_meetContract_117 : decode cX3_meetContract 117 = .ok (.getfield 54, 3) := by decide +kernel
theorem dX3_meetContract_120 : decode cX3_meetContract 120 = .ok (.aload_n 2, 1) := by decide +kernel
theorem dX3_meetContract_121 : decode cX3_meetContract 121 = .ok (.getfield 134, 3) := by decide +kernel
theorem dX3_meetContract_124 : decode cX3_meetContract 124 = .ok (.iadd, 1) := by decide +kernel
theorem dX3_meetContract_125 : decode cX3_meetContract 125 = .ok (.putfield 54, 3) := by decide +kernel
theorem dX3_meetContract_128 : decode cX3_meetContract 128 = .ok (.aload_n 0, 1) := by decide +kernel
theorem dX3_meetContract_129 : decode cX3_meetContract 129 = .ok (.dup, 1) := by decide +kernel
theorem dX3_meetContract_130 : decode cX3_meetContract 130 = .ok (.getfield 57, 3) := by decide +kernel
theorem dX3_meetContract_133 : decode cX3_meetContract 133 = .ok (.iconst 1, 1) := by decide +kernel
theorem dX3_meetContract_134 : decode cX3_meetContract 134 = .ok (.iadd, 1) := by decide +kernel
theorem dX3_meetContract_135 : decode cX3_meetContract 135 = .ok (.putfield 57, 3) := by decide +kernel
theorem dX3_meetContract_138 : decode cX3_meetContract 138 = .ok (.aload_n 0, 1) := by decide +kernel
theorem dX3_meetContract_139 : decode cX3_meetContract 139 = .ok (.dup, 1) := by decide +kernel
theorem dX3_meetContract_140 : decode cX3_meetContract 140 = .ok (.getfield 63, 3) := by decide +kernel
theorem dX3_meetContract_143 : decode cX3_meetContract 143 = .ok (.aload_n 0, 1) := by decide +kernel
theorem dX3_meetContract_144 : decode cX3_meetContract 144 = .ok (.getfield 40, 3) := by decide +kernel
theorem dX3_meetContract_147 : decode cX3_meetContract 147 = .ok (.iconst 0, 1) := by decide +kernel
theorem dX3_meetContract_148 : decode cX3_meetContract 148 = .ok (.iaload, 1) := by decide +kernel
theorem dX3_meetContract_149 : decode cX3_meetContract 149 = .ok (.iadd, 1) := by decide +kernel
theorem dX3_meetContract_150 : decode cX3_meetContract 150 = .ok (.putfield 63, 3) := by decide +kernel
theorem dX3_meetContract_153 : decode cX3_meetContract 153 = .ok (.aload_n 2, 1) := by decide +kernel
theorem dX3_meetContract_154 : decode cX3_meetContract 154 = .ok (.getfield 134, 3) := by decide +kernel
theorem dX3_meetContract_157 : decode cX3_meetContract 157 = .ok (.ireturn, 1) := by decide +kernel
set_option maxRecDepth 20000 in
theorem ggX3_passMonths_X6_isWithin : GoodIn wsX3_passMonths wsX6_isWithin := goodIn_r _ [10] (by decide +kernel) (by decide +kernel)
set_option maxRecDepth 20000 in
theorem gX3_passMonths_X6_isWithin_n66 : GoodIn wsX3_passMonths (wsX6_isWithin) := ggX3_passMonths_X6_isWithin
set_option maxRecDepth 20000 in
theorem ggX3_passMonths_X0_dropBefore : GoodIn wsX3_passMonths wsX0_dropBefore := goodIn_r _ [15, 16, 17, 18, 28, 29, 30] (by decide +kernel) (by decide +kernel)
set_option maxRecDepth 20000 in
theorem gX3_passMonths_X0_dropBefore : GoodIn wsX3_passMonths (wsV RX3 137 RX0 yX0_dropBefore wsX0_dropBefore) := goodIn_app (goodIn_of _ (by decide +kernel)) ggX3_passMonths_X0_dropBefore
theorem dX3_passMonths_0 : decode cX3_passMonths 0 = .ok (.iload_n 1, 1) := by decide +kernel
theorem dX3_passMonths_1 : decode cX3_passMonths 1 = .ok (.iconst 1, 1) := by decide +kernel
theorem dX3_passMonths_2 : decode cX3_passMonths 2 = .ok (.bipush 24, 2) := by decide +kernel
theorem dX3_passMonths_4 : decode cX3_passMonths 4 = .ok (.invokestatic 66, 3) := by decide +kernel
theorem dX3_passMonths_7 : decode cX3_passMonths 7 = .ok (.ifCond .ne 6, 3) := by decide +kernel
theorem dX3_passMonths_10 : decode cX3_passMonths 10 = .ok (.ldc 70, 2) := by decide +kernel
theorem dX3_passMonths_12 : decode cX3_passMonths 12 = .ok (.ireturn, 1) := by decide +kernel
theorem dX3_passMonths_13 : decode cX3_passMonths 13 = .ok (.aload_n 0, 1) := by decide +kernel
theorem dX3_passMonths_14 : decode cX3_passMonths 14 = .ok (.getfield 50, 3) := by decide +kernel
theorem dX3_passMonths_17 : decode cX3_passMonths 17 = .ok (.iload_n 1, 1) := by decide +kernel
theorem dX3_passMonths_18 : decode cX3_passMonths 18 = .ok (.iadd, 1) := by decide +kernel
theorem dX3_passMonths_19 : decode cX3_passMonths 19 = .ok (.sipush 999, 3) := by decide +kernel
theorem dX3_passMonths_22 : decode cX3_passMonths 22 = .ok (.if_icmp .le 6, 3) := by decide +kernel
theorem dX3_passMonths_25 : decode cX3_passMonths 25 = .ok (.ldc 87, 2) := by decide +kernel
theorem dX3_passMonths_27 : decode cX3_passMonths 27 = .ok (.ireturn, 1) := by decide +kernel
theorem dX3_passMonths_28 : decode cX3_passMonths 28 = .ok (.aload_n 0, 1) := by decide +kernel
theorem dX3_passMonths_29 : decode cX3_passMonths 29 = .ok (.dup, 1) := by decide +kernel
theorem dX3_passMonths_30 : decode cX3_passMonths 30 = .ok (.getfield 50, 3) := by decide +kernel
theorem dX3_passMonths_33 : decode cX3_passMonths 33 = .ok (.iload_n 1, 1) := by decide +kernel
theorem dX3_passMonths_34 : decode cX3_passMonths 34 = .ok (.iadd, 1) := by decide +kernel
theorem dX3_passMonths_35 : decode cX3_passMonths 35 = .ok (.putfield 50, 3) := by decide +kernel
theorem dX3_passMonths_38 : decode cX3_passMonths 38 = .ok (.aload_n 0, 1) := by decide +kernel
theorem dX3_passMonths_39 : decode cX3_passMonths 39 = .ok (.getfield 21, 3) := by decide +kernel
theorem dX3_passMonths_42 : decode cX3_passMonths 42 = .ok (.aload_n 0, 1) := by decide +kernel
theorem dX3_passMonths_43 : decode cX3_passMonths 43 = .ok (.getfield 50, 3) := by decide +kernel
theorem dX3_passMonths_46 : decode cX3_passMonths 46 = .ok (.invokevirtual 137, 3) := by decide +kernel
theorem dX3_passMonths_49 : decode cX3_passMonths 49 = .ok (.istore_n 2, 1) := by decide +kernel
theorem dX3_passMonths_50 : decode cX3_passMonths 50 = .ok (.aload_n 0, 1) := by decide +kernel
theorem dX3_passMonths_51 : decode cX3_passMonths 51 = .ok (.dup, 1) := by decide +kernel
theorem dX3_passMonths_52 : decode cX3_passMonths 52 = .ok (.getfield 60, 3) := by decide +kernel
theorem dX3_passMonths_55 : decode cX3_passMonths 55 = .ok (.iload_n 2, 1) := by decide +kernel
theorem dX3_passMonths_56 : decode cX3_passMonths 56 = .ok (.iadd, 1) := by decide +kernel
theorem dX3_passMonths_57 : decode cX3_passMonths 57 = .ok (.putfield 60, 3) := by decide +kernel
theorem dX3_passMonths_60 : decode cX3_passMonths 60 = .ok (.aload_n 0, 1) := by decide +kernel
theorem dX3_passMonths_61 : decode cX3_passMonths 61 = .ok (.dup, 1) := by decide +kernel
theorem dX3_passMonths_62 : decode cX3_passMonths 62 = .ok (.getfield 54, 3) := by decide +kernel
theorem dX3_passMonths_65 : decode cX3_passMonths 65 = .ok (.iload_n 2, 1) := by decide +kernel
theorem dX3_passMonths_66 : decode cX3_passMonths 66 = .ok (.aload_n 0, 1) := by decide +kernel
theorem dX3_passMonths_67 : decode cX3_passMonths 67 = .ok (.getfield 40, 3) := by decide +kernel
theorem dX3_passMonths_70 : decode cX3_passMonths 70 = .ok (.iconst 0, 1) := by decide +kernel
theorem dX3_passMonths_71 : decode cX3_passMonths 71 = .ok (.iaload, 1) := by decide +kernel
theorem dX3_passMonths_72 : decode cX3_passMonths 72 = .ok (.imul, 1) := by decide +kernel
theorem dX3_passMonths_73 : decode cX3_passMonths 73 = .ok (.aload_n 0, 1) := by decide +kernel
theorem dX3_passMonths_74 : decode cX3_passMonths 74 = .ok (.getfield 40, 3) := by decide +kernel
theorem dX3_passMonths_77 : decode cX3_passMonths 77 = .ok (.iconst 4, 1) := by decide +kernel
theorem dX3_passMonths_78 : decode cX3_passMonths 78 = .ok (.iaload, 1) := by decide +kernel
theorem dX3_passMonths_79 : decode cX3_passMonths 79 = .ok (.imul, 1) := by decide +kernel
theorem dX3_passMonths_80 : decode cX3_passMonths 80 = .ok (.isub, 1) := by decide +kernel
theorem dX3_passMonths_81 : decode cX3_passMonths 81 = .ok (.putfield 54, 3) := by decide +kernel
theorem dX3_passMonths_84 : decode cX3_passMonths 84 = .ok (.iload_n 2, 1) := by decide +kernel
theorem dX3_passMonths_85 : decode cX3_passMonths 85 = .ok (.ireturn, 1) := by decide +kernel
set_option maxRecDepth 20000 in
theorem ggX3_changeSetting_X6_isWithin : GoodIn wsX3_changeSetting wsX6_isWithin := goodIn_r _ [8] (by decide +kernel) (by decide +kernel)
set_option maxRecDepth 20000 in
theorem gX3_changeSetting_X6_isWithin_n66 : GoodIn wsX3_changeSetting (wsX6_isWithin) := ggX3_changeSetting_X6_isWithin
theorem dX3_changeSetting_0 : decode cX3_changeSetting 0 = .ok (.iload_n 1, 1) := by decide +kernel
theorem dX3_changeSetting_1 : decode cX3_changeSetting 1 = .ok (.iconst 0, 1) := by decide +kernel
theorem dX3_changeSetting_2 : decode cX3_changeSetting 2 = .ok (.iconst 4, 1) := by decide +kernel
theorem dX3_changeSetting_3 : decode cX3_changeSetting 3 = .ok (.invokestatic 66, 3) := by decide +kernel
theorem dX3_changeSetting_6 : decode cX3_changeSetting 6 = .ok (.ifCond .eq 20, 3) := by decide +kernel
theorem dX3_changeSetting_9 : decode cX3_changeSetting 9 = .ok (.iload_n 2, 1) := by decide +kernel
theorem dX3_changeSetting_10 : decode cX3_changeSetting 10 = .ok (.getstatic 140, 3) := by decide +kernel
theorem dX3_changeSetting_13 : decode cX3_changeSetting 13 = .ok (.iload_n 1, 1) := by decide +kernel
theorem dX3_changeSetting_14 : decode cX3_changeSetting 14 = .ok (.iaload, 1) := by decide +kernel
theorem dX3_changeSetting_15 : decode cX3_changeSetting 15 = .ok (.getstatic 143, 3) := by decide +kernel
theorem dX3_changeSetting_18 : decode cX3_changeSetting 18 = .ok (.iload_n 1, 1) := by decide +kernel
theorem dX3_changeSetting_19 : decode cX3_changeSetting 19 = .ok (.iaload, 1) := by decide +kernel
theorem dX3_changeSetting_20 : decode cX3_changeSetting 20 = .ok (.invokestatic 66, 3) := by decide +kernel
theorem dX3_changeSetting_23 : decode cX3_changeSetting 23 = .ok (.ifCond .ne 6, 3) := by decide +kernel
theorem dX3_changeSetting_26 : decode cX3_changeSetting 26 = .ok (.ldc 70, 2) := by decide +kernel
theorem dX3_changeSetting_28 : decode cX3_changeSetting 28 = .ok (.ireturn, 1) := by decide +kernel
theorem dX3_changeSetting_29 : decode cX3_changeSetting 29 = .ok (.iload_n 1, 1) := by decide +kernel
theorem dX3_changeSetting_30 : decode cX3_changeSetting 30 = .ok (.ifCond .ne 16, 3) := by decide +kernel
theorem dX3_changeSetting_33 : decode cX3_changeSetting 33 = .ok (.aload_n 0, 1) := by decide +kernel
theorem dX3_changeSetting_34 : decode cX3_changeSetting 34 = .ok (.getfield 21, 3) := by decide +kernel
theorem dX3_changeSetting_37 : decode cX3_changeSetting 37 = .ok (.getfield 146, 3) := by decide +kernel
theorem dX3_changeSetting_40 : decode cX3_changeSetting 40 = .ok (.ifCond .le 6, 3) := by decide +kernel
theorem dX3_changeSetting_43 : decode cX3_changeSetting 43 = .ok (.ldc 82, 2) := by decide +kernel
theorem dX3_changeSetting_45 : decode cX3_changeSetting 45 = .ok (.ireturn, 1) := by decide +kernel
theorem dX3_changeSetting_46 : decode cX3_changeSetting 46 = .ok (.aload_n 0, 1) := by decide +kernel
theorem dX3_changeSetting_47 : decode cX3_changeSetting 47 = .ok (.getfield 40, 3) := by decide +kernel
theorem dX3_changeSetting_50 : decode cX3_changeSetting 50 = .ok (.iload_n 1, 1) := by decide +kernel
theorem dX3_changeSetting_51 : decode cX3_changeSetting 51 = .ok (.iaload, 1) := by decide +kernel
theorem dX3_changeSetting_52 : decode cX3_changeSetting 52 = .ok (.istore_n 3, 1) := by decide +kernel
theorem dX3_changeSetting_53 : decode cX3_changeSetting 53 = .ok (.aload_n 0, 1) := by decide +kernel
theorem dX3_changeSetting_54 : decode cX3_changeSetting 54 = .ok (.getfield 40, 3) := by decide +kernel
theorem dX3_changeSetting_57 : decode cX3_changeSetting 57 = .ok (.iload_n 1, 1) := by decide +kernel
theorem dX3_changeSetting_58 : decode cX3_changeSetting 58 = .ok (.iload_n 2, 1) := by decide +kernel
theorem dX3_changeSetting_59 : decode cX3_changeSetting 59 = .ok (.iastore, 1) := by decide +kernel
theorem dX3_changeSetting_60 : decode cX3_changeSetting 60 = .ok (.iload_n 3, 1) := by decide +kernel
theorem dX3_changeSetting_61 : decode cX3_changeSetting 61 = .ok (.ireturn, 1) := by decide +kernel
set_option maxRecDepth 20000 in
theorem ggX3_isDeliveryMonth_J9_floorMod_7cf53 : GoodIn wsX3_isDeliveryMonth wsJ9_floorMod_7cf53 := goodIn_r _ [5] (by decide +kernel) (by decide +kernel)
set_option maxRecDepth 20000 in
theorem gX3_isDeliveryMonth_J9_floorMod_7cf53 : GoodIn wsX3_isDeliveryMonth (va_wsS RX3 149 yJ9_floorMod_7cf53 wsJ9_floorMod_7cf53) := goodIn_app (goodIn_of _ (by decide +kernel)) ggX3_isDeliveryMonth_J9_floorMod_7cf53
theorem dX3_isDeliveryMonth_0 : decode cX3_isDeliveryMonth 0 = .ok (.aload_n 0, 1) := by decide +kernel
theorem dX3_isDeliveryMonth_1 : decode cX3_isDeliveryMonth 1 = .ok (.getfield 40, 3) := by decide +kernel
theorem dX3_isDeliveryMonth_4 : decode cX3_isDeliveryMonth 4 = .ok (.iconst 1, 1) := by decide +kernel
theorem dX3_isDeliveryMonth_5 : decode cX3_isDeliveryMonth 5 = .ok (.iaload, 1) := by decide +kernel
theorem dX3_isDeliveryMonth_6 : decode cX3_isDeliveryMonth 6 = .ok (.iload_n 1, 1) := by decide +kernel
theorem dX3_isDeliveryMonth_7 : decode cX3_isDeliveryMonth 7 = .ok (.bipush 12, 2) := by decide +kernel
theorem dX3_isDeliveryMonth_9 : decode cX3_isDeliveryMonth 9 = .ok (.invokestatic 149, 3) := by decide +kernel
theorem dX3_isDeliveryMonth_12 : decode cX3_isDeliveryMonth 12 = .ok (.ishr, 1) := by decide +kernel
theorem dX3_isDeliveryMonth_13 : decode cX3_isDeliveryMonth 13 = .ok (.iconst 1, 1) := by decide +kernel
theorem dX3_isDeliveryMonth_14 : decode cX3_isDeliveryMonth 14 = .ok (.iand, 1) := by decide +kernel
theorem dX3_isDeliveryMonth_15 : decode cX3_isDeliveryMonth 15 = .ok (.iconst 1, 1) := by decide +kernel
theorem dX3_isDeliveryMonth_16 : decode cX3_isDeliveryMonth 16 = .ok (.if_icmp .ne 7, 3) := by decide +kernel
theorem dX3_isDeliveryMonth_19 : decode cX3_isDeliveryMonth 19 = .ok (.iconst 1, 1) := by decide +kernel
theorem dX3_isDeliveryMonth_20 : decode cX3_isDeliveryMonth 20 = .ok (.goto 4, 3) := by decide +kernel
theorem dX3_isDeliveryMonth_23 : decode cX3_isDeliveryMonth 23 = .ok (.iconst 0, 1) := by decide +kernel
theorem dX3_isDeliveryMonth_24 : decode cX3_isDeliveryMonth 24 = .ok (.ireturn, 1) := by decide +kernel
theorem dX3_payForBag_0 : decode cX3_payForBag 0 = .ok (.iload_n 1, 1) := by decide +kernel
theorem dX3_payForBag_1 : decode cX3_payForBag 1 = .ok (.iload_n 2, 1) := by decide +kernel
theorem dX3_payForBag_2 : decode cX3_payForBag 2 = .ok (.bipush 80, 2) := by decide +kernel
theorem dX3_payForBag_4 : decode cX3_payForBag 4 = .ok (.isub, 1) := by decide +kernel
theorem dX3_payForBag_5 : decode cX3_payForBag 5 = .ok (.aload_n 0, 1) := by decide +kernel
theorem dX3_payForBag_6 : decode cX3_payForBag 6 = .ok (.getfield 40, 3) := by decide +kernel
theorem dX3_payForBag_9 : decode cX3_payForBag 9 = .ok (.iconst 2, 1) := by decide +kernel
theorem dX3_payForBag_10 : decode cX3_payForBag 10 = .ok (.iaload, 1) := by decide +kernel
theorem dX3_payForBag_11 : decode cX3_payForBag 11 = .ok (.imul, 1) := by decide +kernel
theorem dX3_payForBag_12 : decode cX3_payForBag 12 = .ok (.iadd, 1) := by decide +kernel
theorem dX3_payForBag_13 : decode cX3_payForBag 13 = .ok (.aload_n 0, 1) := by decide +kernel
theorem dX3_payForBag_14 : decode cX3_payForBag 14 = .ok (.getfield 40, 3) := by decide +kernel
theorem dX3_payForBag_17 : decode cX3_payForBag 17 = .ok (.iconst 3, 1) := by decide +kernel
theorem dX3_payForBag_18 : decode cX3_payForBag 18 = .ok (.iaload, 1) := by decide +kernel
theorem dX3_payForBag_19 : decode cX3_payForBag 19 = .ok (.iload_n 3, 1) := by decide +kernel
theorem dX3_payForBag_20 : decode cX3_payForBag 20 = .ok (.imul, 1) := by decide +kernel
theorem dX3_payForBag_21 : decode cX3_payForBag 21 = .ok (.isub, 1) := by decide +kernel
theorem dX3_payForBag_22 : decode cX3_payForBag 22 = .ok (.istore 4, 2) := by decide +kernel
theorem dX3_payForBag_24 : decode cX3_payForBag 24 = .ok (.iload 4, 2) := by decide +kernel
theorem dX3_payForBag_26 : decode cX3_payForBag 26 = .ok (.iconst 1, 1) := by decide +kernel
theorem dX3_payForBag_27 : decode cX3_payForBag 27 = .ok (.if_icmp .ge 7, 3) := by decide +kernel
theorem dX3_payForBag_30 : decode cX3_payForBag 30 = .ok (.iconst 1, 1) := by decide +kernel
theorem dX3_payForBag_31 : decode cX3_payForBag 31 = .ok (.goto 5, 3) := by decide +kernel
theorem dX3_payForBag_34 : decode cX3_payForBag 34 = .ok (.iload 4, 2) := by decide +kernel
theorem dX3_payForBag_36 : decode cX3_payForBag 36 = .ok (.ireturn, 1) := by decide +kernel
set_option maxRecDepth 20000 in
theorem ggX3_tellOfLot_X4_cupAt : GoodIn wsX3_tellOfLot wsX4_cupAt := goodIn_r _ [12, 13, 14, 31, 32, 33, 34, 35, 36] (by decide +kernel) (by decide +kernel)
set_option maxRecDepth 20000 in
theorem gX3_tellOfLot_X4_cupAt : GoodIn wsX3_tellOfLot (wsV RX3 94 RX4 yX4_cupAt wsX4_cupAt) := goodIn_app (goodIn_of _ (by decide +kernel)) ggX3_tellOfLot_X4_cupAt
set_option maxRecDepth 20000 in
theorem ggX3_tellOfLot_X6_bandOf : GoodIn wsX3_tellOfLot wsX6_bandOf := goodIn_r _ [17] (by decide +kernel) (by decide +kernel)
set_option maxRecDepth 20000 in
theorem gX3_tellOfLot_X6_bandOf_n154 : GoodIn wsX3_tellOfLot (wsX6_bandOf) := ggX3_tellOfLot_X6_bandOf
set_option maxRecDepth 20000 in
theorem ggX3_tellOfLot_X4_monthsTooOld : GoodIn wsX3_tellOfLot wsX4_monthsTooOld := goodIn_r _ [21, 14, 31, 32, 33, 34, 35, 36] (by decide +kernel) (by decide +kernel)
set_option maxRecDepth 20000 in
theorem gX3_tellOfLot_X4_monthsTooOld : GoodIn wsX3_tellOfLot (wsV RX3 157 RX4 yX4_monthsTooOld wsX4_monthsTooOld) := goodIn_app (goodIn_of _ (by decide +kernel)) ggX3_tellOfLot_X4_monthsTooOld
theorem dX3_tellOfLot_0 : decode cX3_tellOfLot 0 = .ok (.iload_n 2, 1) := by decide +kernel
theorem dX3_tellOfLot_1 : decode cX3_tellOfLot 1 = .ok (.tableswitch 136 0 6 #[43, 53, 63, 73, 86, 107, 120], 43) := by decide +kernel
theorem dX3_tellOfLot_44 : decode cX3_tellOfLot 44 = .ok (.aload_n 0, 1) := by decide +kernel
theorem dX3_tellOfLot_45 : decode cX3_tellOfLot 45 = .ok (.getfield 12, 3) := by decide +kernel
theorem dX3_tellOfLot_48 : decode cX3_tellOfLot 48 = .ok (.getfield 79, 3) := by decide +kernel
theorem dX3_tellOfLot_51 : decode cX3_tellOfLot 51 = .ok (.iload_n 1, 1) := by decide +kernel
theorem dX3_tellOfLot_52 : decode cX3_tellOfLot 52 = .ok (.iaload, 1) := by decide +kernel
theorem dX3_tellOfLot_53 : decode cX3_tellOfLot 53 = .ok (.ireturn, 1) := by decide +kernel
theorem dX3_tellOfLot_54 : decode cX3_tellOfLot 54 = .ok (.aload_n 0, 1) := by decide +kernel
theorem dX3_tellOfLot_55 : decode cX3_tellOfLot 55 = .ok (.getfield 12, 3) := by decide +kernel
theorem dX3_tellOfLot_58 : decode cX3_tellOfLot 58 = .ok (.getfield 88, 3) := by decide +kernel
theorem dX3_tellOfLot_61 : decode cX3_tellOfLot 61 = .ok (.iload_n 1, 1) := by decide +kernel
theorem dX3_tellOfLot_62 : decode cX3_tellOfLot 62 = .ok (.iaload, 1) := by decide +kernel
theorem dX3_tellOfLot_63 : decode cX3_tellOfLot 63 = .ok (.ireturn, 1) := by decide +kernel
theorem dX3_tellOfLot_64 : decode cX3_tellOfLot 64 = .ok (.aload_n 0, 1) := by decide +kernel
theorem dX3_tellOfLot_65 : decode cX3_tellOfLot 65 = .ok (.getfield 12, 3) := by decide +kernel
theorem dX3_tellOfLot_68 : decode cX3_tellOfLot 68 = .ok (.getfield 91, 3) := by decide +kernel
theorem dX3_tellOfLot_71 : decode cX3_tellOfLot 71 = .ok (.iload_n 1, 1) := by decide +kernel
theorem dX3_tellOfLot_72 : decode cX3_tellOfLot 72 = .ok (.iaload, 1) := by decide +kernel
theorem dX3_tellOfLot_73 : decode cX3_tellOfLot 73 = .ok (.ireturn, 1) := by decide +kernel
theorem dX3_tellOfLot_74 : decode cX3_tellOfLot 74 = .ok (.aload_n 0, 1) := by decide +kernel
theorem dX3_tellOfLot_75 : decode cX3_tellOfLot 75 = .ok (.getfield 12, 3) := by decide +kernel
theorem dX3_tellOfLot_78 : decode cX3_tellOfLot 78 = .ok (.iload_n 1, 1) := by decide +kernel
theorem dX3_tellOfLot_79 : decode cX3_tellOfLot 79 = .ok (.aload_n 0, 1) := by decide +kernel
theorem dX3_tellOfLot_80 : decode cX3_tellOfLot 80 = .ok (.getfield 50, 3) := by decide +kernel
theorem dX3_tellOfLot_83 : decode cX3_tellOfLot 83 = .ok (.invokevirtual 94, 3) := by decide +kernel
theorem dX3_tellOfLot_86 : decode cX3_tellOfLot 86 = .ok (.ireturn, 1) := by decide +kernel
theorem dX3_tellOfLot_87 : decode cX3_tellOfLot 87 = .ok (.aload_n 0, 1) := by decide +kernel
theorem dX3_tellOfLot_88 : decode cX3_tellOfLot 88 = .ok (.getfield 34, 3) := by decide +kernel
theorem dX3_tellOfLot_91 : decode cX3_tellOfLot 91 = .ok (.aload_n 0, 1) := by decide +kernel
theorem dX3_tellOfLot_92 : decode cX3_tellOfLot 92 = .ok (.getfield 12, 3) := by decide +kernel
theorem dX3_tellOfLot_95 : decode cX3_tellOfLot 95 = .ok (.iload_n 1, 1) := by decide +kernel
theorem dX3_tellOfLot_96 : decode cX3_tellOfLot 96 = .ok (.aload_n 0, 1) := by decide +kernel
theorem dX3_tellOfLot_97 : decode cX3_tellOfLot 97 = .ok (.getfield 50, 3) := by decide +kernel
theorem dX3_tellOfLot_100 : decode cX3_tellOfLot 100 = .ok (.invokevirtual 94, 3) := by decide +kernel
theorem dX3_tellOfLot_103 : decode cX3_tellOfLot 103 = .ok (.invokestatic 154, 3) := by decide +kernel
theorem dX3_tellOfLot_106 : decode cX3_tellOfLot 106 = .ok (.iaload, 1) := by decide +kernel
theorem dX3_tellOfLot_107 : decode cX3_tellOfLot 107 = .ok (.ireturn, 1) := by decide +kernel
theorem dX3_tellOfLot_108 : decode cX3_tellOfLot 108 = .ok (.aload_n 0, 1) := by decide +kernel
theorem dX3_tellOfLot_109 : decode cX3_tellOfLot 109 = .ok (.getfield 12, 3) := by decide +kernel
theorem dX3_tellOfLot_112 : decode cX3_tellOfLot 112 = .ok (.iload_n 1, 1) := by decide +kernel
theorem dX3_tellOfLot_113 : decode cX3_tellOfLot 113 = .ok (.aload_n 0, 1) := by decide +kernel
theorem dX3_tellOfLot_114 : decode cX3_tellOfLot 114 = .ok (.getfield 50, 3) := by decide +kernel
theorem dX3_tellOfLot_117 : decode cX3_tellOfLot 117 = .ok (.invokevirtual 157, 3) := by decide +kernel
theorem dX3_tellOfLot_120 : decode cX3_tellOfLot 120 = .ok (.ireturn, 1) := by decide +kernel
theorem dX3_tellOfLot_121 : decode cX3_tellOfLot 121 = .ok (.aload_n 0, 1) := by decide +kernel
theorem dX3_tellOfLot_122 : decode cX3_tellOfLot 122 = .ok (.getfield 12, 3) := by decide +kernel
theorem dX3_tellOfLot_125 : decode cX3_tellOfLot 125 = .ok (.iload_n 1, 1) := by decide +kernel
theorem dX3_tellOfLot_126 : decode cX3_tellOfLot 126 = .ok (.aload_n 0, 1) := by decide +kernel
theorem dX3_tellOfLot_127 : decode cX3_tellOfLot 127 = .ok (.getfield 50, 3) := by decide +kernel
theorem dX3_tellOfLot_130 : decode cX3_tellOfLot 130 = .ok (.invokevirtual 94, 3) := by decide +kernel
theorem dX3_tellOfLot_133 : decode cX3_tellOfLot 133 = .ok (.invokestatic 154, 3) := by decide +kernel
theorem dX3_tellOfLot_136 : decode cX3_tellOfLot 136 = .ok (.ireturn, 1) := by decide +kernel
theorem dX3_tellOfLot_137 : decode cX3_tellOfLot 137 = .ok (.ldc 70, 2) := by decide +kernel
theorem dX3_tellOfLot_139 : decode cX3_tellOfLot 139 = .ok (.ireturn, 1) := by decide +kernel
set_option maxRecDepth 20000 in
theorem ggX3_tellCount_X4_allBags : GoodIn wsX3_tellCount wsX4_allBags := goodIn_r _ [16, 17, 18, 38, 39, 40, 41, 42, 43] (by decide +kernel) (by decide +kernel)
set_option maxRecDepth 20000 in
theorem gX3_tellCount_X4_allBags : GoodIn wsX3_tellCount (wsV RX3 161 RX4 yX4_allBags wsX4_allBags) := goodIn_app (goodIn_of _ (by decide +kernel)) ggX3_tellCount_X4_allBags
set_option maxRecDepth 20000 in
theorem ggX3_tellCount_X4_bagsToGive : GoodIn wsX3_tellCount wsX4_bagsToGive := goodIn_r _ [22, 17, 18, 23, 24, 25, 15, 26, 27, 28, 38, 39, 40, 41, 42, 43] (by decide +kernel) (by decide +kernel)
set_option maxRecDepth 20000 in
theorem gX3_tellCount_X4_bagsToGive : GoodIn wsX3_tellCount (wsV RX3 165 RX4 yX4_bagsToGive wsX4_bagsToGive) := goodIn_app (goodIn_of _ (by decide +kernel)) ggX3_tellCount_X4_bagsToGive
theorem dX3_tellCount_0 : decode cX3_tellCount 0 = .ok (.iload_n 1, 1) := by decide +kernel
theorem dX3_tellCount_1 : decode cX3_tellCount 1 = .ok (.tableswitch 124 0 9 #[55, 63, 71, 76, 84, 89, 94, 99, 104, 116], 55) := by decide +kernel
theorem dX3_tellCount_56 : decode cX3_tellCount 56 = .ok (.aload_n 0, 1) := by decide +kernel
theorem dX3_tellCount_57 : decode cX3_tellCount 57 = .ok (.getfield 12, 3) := by decide +kernel
theorem dX3_tellCount_60 : decode cX3_tellCount 60 = .ok (.getfield 160, 3) := by decide +kernel
theorem dX3_tellCount_63 : decode cX3_tellCount 63 = .ok (.ireturn, 1) := by decide +kernel
theorem dX3_tellCount_64 : decode cX3_tellCount 64 = .ok (.aload_n 0, 1) := by decide +kernel
theorem dX3_tellCount_65 : decode cX3_tellCount 65 = .ok (.getfield 12, 3) := by decide +kernel
theorem dX3_tellCount_68 : decode cX3_tellCount 68 = .ok (.invokevirtual 161, 3) := by decide +kernel
theorem dX3_tellCount_71 : decode cX3_tellCount 71 = .ok (.ireturn, 1) := by decide +kernel
theorem dX3_tellCount_72 : decode cX3_tellCount 72 = .ok (.aload_n 0, 1) := by decide +kernel
theorem dX3_tellCount_73 : decode cX3_tellCount 73 = .ok (.getfield 50, 3) := by decide +kernel
theorem dX3_tellCount_76 : decode cX3_tellCount 76 = .ok (.ireturn, 1) := by decide +kernel
theorem dX3_tellCount_77 : decode cX3_tellCount 77 = .ok (.aload_n 0, 1) := by decide +kernel
theorem dX3_tellCount_78 : decode cX3_tellCount 78 = .ok (.getfield 21, 3) := by decide +kernel
theorem dX3_tellCount_81 : decode cX3_tellCount 81 = .ok (.getfield 146, 3) := by decide +kernel
theorem dX3_tellCount_84 : decode cX3_tellCount 84 = .ok (.ireturn, 1) := by decide +kernel
theorem dX3_tellCount_85 : decode cX3_tellCount 85 = .ok (.aload_n 0, 1) := by decide +kernel
theorem dX3_tellCount_86 : decode cX3_tellCount 86 = .ok (.getfield 54, 3) := by decide +kernel
theorem dX3_tellCount_89 : decode cX3_tellCount 89 = .ok (.ireturn, 1) := by decide +kernel
theorem dX3_tellCount_90 : decode cX3_tellCount 90 = .ok (.aload_n 0, 1) := by decide +kernel
theorem dX3_tellCount_91 : decode cX3_tellCount 91 = .ok (.getfield 57, 3) := by decide +kernel
theorem dX3_tellCount_94 : decode cX3_tellCount 94 = .ok (.ireturn, 1) := by decide +kernel
theorem dX3_tellCount_95 : decode cX3_tellCount 95 = .ok (.aload_n 0, 1) := by decide +kernel
theorem dX3_tellCount_96 : decode cX3_tellCount 96 = .ok (.getfield 60, 3) := by decide +kernel
theorem dX3_tellCount_99 : decode cX3_tellCount 99 = .ok (.ireturn, 1) := by decide +kernel
theorem dX3_tellCount_100 : decode cX3_tellCount 100 = .ok (.aload_n 0, 1) := by decide +kernel
theorem dX3_tellCount_101 : decode cX3_tellCount 101 = .ok (.getfield 63, 3) := by decide +kernel
theorem dX3_tellCount_104 : decode cX3_tellCount 104 = .ok (.ireturn, 1) := by decide +kernel
theorem dX3_tellCount_105 : decode cX3_tellCount 105 = .ok (.aload_n 0, 1) := by decide +kernel
theorem dX3_tellCount_106 : decode cX3_tellCount 106 = .ok (.getfield 12, 3) := by decide +kernel
theorem dX3_tellCount_109 : decode cX3_tellCount 109 = .ok (.aload_n 0, 1) := by decide +kernel
theorem dX3_tellCount_110 : decode cX3_tellCount 110 = .ok (.getfield 50, 3) := by decide +kernel
theorem dX3_tellCount_113 : decode cX3_tellCount 113 = .ok (.invokevirtual 165, 3) := by decide +kernel
theorem dX3_tellCount_116 : decode cX3_tellCount 116 = .ok (.ireturn, 1) := by decide +kernel
theorem dX3_tellCount_117 : decode cX3_tellCount 117 = .ok (.aload_n 0, 1) := by decide +kernel
theorem dX3_tellCount_118 : decode cX3_tellCount 118 = .ok (.getfield 12, 3) := by decide +kernel
theorem dX3_tellCount_121 : decode cX3_tellCount 121 = .ok (.getfield 168, 3) := by decide +kernel
theorem dX3_tellCount_124 : decode cX3_tellCount 124 = .ok (.ireturn, 1) := by decide +kernel
theorem dX3_tellCount_125 : decode cX3_tellCount 125 = .ok (.ldc 70, 2) := by decide +kernel
theorem dX3_tellCount_127 : decode cX3_tellCount 127 = .ok (.ireturn, 1) := by decide +kernel
theorem dX4_init_0 : decode cX4_init 0 = .ok (.aload_n 0, 1) := by decide +kernel
theorem dX4_init_1 : decode cX4_init 1 = .ok (.invokespecial 3, 3) := by decide +kernel
theorem dX4_init_4 : decode cX4_init 4 = .ok (.aload_n 0, 1) := by decide +kernel
theorem dX4_init_5 : decode cX4_init 5 = .ok (.bipush 12, 2) := by decide +kernel
theorem dX4_init_7 : decode cX4_init 7 = .ok (.newarray .int, 2) := by decide +kernel
theorem dX4_init_9 : decode cX4_init 9 = .ok (.putfield 9, 3) := by decide +kernel
theorem dX4_init_12 : decode cX4_init 12 = .ok (.aload_n 0, 1) := by decide +kernel
theorem dX4_init_13 : decode cX4_init 13 = .ok (.bipush 12, 2) := by decide +kernel
theorem dX4_init_15 : decode cX4_init 15 = .ok (.newarray .int, 2) := by decide +kernel
theorem dX4_init_17 : decode cX4_init 17 = .ok (.putfield 15, 3) := by decide +kernel
theorem dX4_init_20 : decode cX4_init 20 = .ok (.aload_n 0, 1) := by decide +kernel
theorem dX4_init_21 : decode cX4_init 21 = .ok (.bipush 12, 2) := by decide +kernel
theorem dX4_init_23 : decode cX4_init 23 = .ok (.newarray .int, 2) := by decide +kernel
theorem dX4_init_25 : decode cX4_init 25 = .ok (.putfield 18, 3) := by decide +kernel
theorem dX4_init_28 : decode cX4_init 28 = .ok (.aload_n 0, 1) := by decide +kernel
theorem dX4_init_29 : decode cX4_init 29 = .ok (.bipush 12, 2) := by decide +kernel
theorem dX4_init_31 : decode cX4_init 31 = .ok (.newarray .int, 2) := by decide +kernel
theorem dX4_init_33 : decode cX4_init 33 = .ok (.putfield 21, 3) := by decide +kernel
theorem dX4_init_36 : decode cX4_init 36 = .ok (.return_, 1) := by decide +kernel
theorem dX4_copyFrom_0 : decode cX4_copyFrom 0 = .ok (.iconst 0, 1) := by decide +kernel
theorem dX4_copyFrom_1 : decode cX4_copyFrom 1 = .ok (.istore_n 2, 1) := by decide +kernel
theorem dX4_copyFrom_2 : decode cX4_copyFrom 2 = .ok (.iload_n 2, 1) := by decide +kernel
theorem dX4_copyFrom_3 : decode cX4_copyFrom 3 = .ok (.bipush 12, 2) := by decide +kernel
theorem dX4_copyFrom_5 : decode cX4_copyFrom 5 = .ok (.if_icmp .ge 57, 3) := by decide +kernel
theorem dX4_copyFrom_8 : decode cX4_copyFrom 8 = .ok (.aload_n 0, 1) := by decide +kernel
theorem dX4_copyFrom_9 : decode cX4_copyFrom 9 = .ok (.getfield 9, 3) := by decide +kernel
theorem dX4_copyFrom_12 : decode cX4_copyFrom 12 = .ok (.iload_n 2, 1) := by decide +kernel
theorem dX4_copyFrom_13 : decode cX4_copyFrom 13 = .ok (.aload_n 1, 1) := by decide +kernel
theorem dX4_copyFrom_14 : decode cX4_copyFrom 14 = .ok (.getfield 9, 3) := by decide +kernel
theorem dX4_copyFrom_17 : decode cX4_copyFrom 17 = .ok (.iload_n 2, 1) := by decide +kernel
theorem dX4_copyFrom_18 : decode cX4_copyFrom 18 = .ok (.iaload, 1) := by decide +kernel
theorem dX4_copyFrom_19 : decode cX4_copyFrom 19 = .ok (.iastore, 1) := by decide +kernel
theorem dX4_copyFrom_20 : decode cX4_copyFrom 20 = .ok (.aload_n 0, 1) := by decide +kernel
theorem dX4_copyFrom_21 : decode cX4_copyFrom 21 = .ok (.getfield 15, 3) := by decide +kernel
theorem dX4_copyFrom_24 : decode cX4_copyFrom 24 = .ok (.iload_n 2, 1) := by decide +kernel
theorem dX4_copyFrom_25 : decode cX4_copyFrom 25 = .ok (.aload_n 1, 1) := by decide +kernel
theorem dX4_copyFrom_26 : decode cX4_copyFrom 26 = .ok (.getfield 15, 3) := by decide +kernel
theorem dX4_copyFrom_29 : decode cX4_copyFrom 29 = .ok (.iload_n 2, 1) := by decide +kernel
theorem dX4_copyFrom_30 : decode cX4_copyFrom 30 = .ok (.iaload, 1) := by decide +kernel
theorem dX4_copyFrom_31 : decode cX4_copyFrom 31 = .ok (.iastore, 1) := by decide +kernel
theorem dX4_copyFrom_32 : decode cX4_copyFrom 32 = .ok (.aload_n 0, 1) := by decide +kernel
theorem dX4_copyFrom_33 : decode cX4_copyFrom 33 = .ok (.getfield 18, 3) := by decide +kernel
theorem dX4_copyFrom_36 : decode cX4_copyFrom 36 = .ok (.iload_n 2, 1) := by decide +kernel
theorem dX4_copyFrom_37 : decode cX4_copyFrom 37 = .ok (.aload_n 1, 1) := by decide +kernel
theorem dX4_copyFrom_38 : decode cX4_copyFrom 38 = .ok (.getfield 18, 3) := by decide +kernel
theorem dX4_copyFrom_41 : decode cX4_copyFrom 41 = .ok (.iload_n 2, 1) := by decide +kernel
theorem dX4_copyFrom_42 : decode cX4_copyFrom 42 = .ok (.iaload, 1) := by decide +kernel
theorem dX4_copyFrom_43 : decode cX4_copyFrom 43 = .ok (.iastore, 1) := by decide +kernel
theorem dX4_copyFrom_44 : decode cX4_copyFrom 44 = .ok (.aload_n 0, 1) := by decide +kernel
theorem dX4_copyFrom_45 : decode cX4_copyFrom 45 = .ok (.getfield 21, 3) := by decide +kernel
theorem dX4_copyFrom_48 : decode cX4_copyFrom 48 = .ok (.iload_n 2, 1) := by decide +kernel
theorem dX4_copyFrom_49 : decode cX4_copyFrom 49 = .ok (.aload_n 1, 1) := by decide +kernel
theorem dX4_copyFrom_50 : decode cX4_copyFrom 50 = .ok (.getfield 21, 3) := by decide +kernel
theorem dX4_copyFrom_53 : decode cX4_copyFrom 53 = .ok (.iload_n 2, 1) := by decide +kernel
theorem dX4_copyFrom_54 : decode cX4_copyFrom 54 = .ok (.iaload, 1) := by decide +kernel
theorem dX4_copyFrom_55 : decode cX4_copyFrom 55 = .ok (.iastore, 1) := by decide +kernel
theorem dX4_copyFrom_56 : decode cX4_copyFrom 56 = .ok (.iinc 2 1, 3) := by decide +kernel
theorem dX4_copyFrom_59 : decode cX4_copyFrom 59 = .ok (.goto (-57), 3) := by decide +kernel
theorem dX4_copyFrom_62 : decode cX4_copyFrom 62 = .ok (.aload_n 0, 1) := by decide +kernel
theorem dX4_copyFrom_63 : decode cX4_copyFrom 63 = .ok (.aload_n 1, 1) := by decide +kernel
theorem dX4_copyFrom_64 : decode cX4_copyFrom 64 = .ok (.getfield 24, 3) := by decide +kernel
theorem dX4_copyFrom_67 : decode cX4_copyFrom 67 = .ok (.putfield 24, 3) := by decide +kernel
theorem dX4_copyFrom_70 : decode cX4_copyFrom 70 = .ok (.aload_n 0, 1) := by decide +kernel
theorem dX4_copyFrom_71 : decode cX4_copyFrom 71 = .ok (.aload_n 1, 1) := by decide +kernel
theorem dX4_copyFrom_72 : decode cX4_copyFrom 72 = .ok (.getfield 28, 3) := by decide +kernel
theorem dX4_copyFrom_75 : decode cX4_copyFrom 75 = .ok (.putfield 28, 3) := by decide +kernel
theorem dX4_copyFrom_78 : decode cX4_copyFrom 78 = .ok (.return_, 1) := by decide +kernel
theorem dX4_rowOf_0 : decode cX4_rowOf 0 = .ok (.iconst 0, 1) := by decide +kernel
theorem dX4_rowOf_1 : decode cX4_rowOf 1 = .ok (.istore_n 2, 1) := by decide +kernel
theorem dX4_rowOf_2 : decode cX4_rowOf 2 = .ok (.iload_n 2, 1) := by decide +kernel
theorem dX4_rowOf_3 : decode cX4_rowOf 3 = .ok (.aload_n 0, 1) := by decide +kernel
theorem dX4_rowOf_4 : decode cX4_rowOf 4 = .ok (.getfield 24, 3) := by decide +kernel
theorem dX4_rowOf_7 : decode cX4_rowOf 7 = .ok (.if_icmp .ge 21, 3) := by decide +kernel
theorem dX4_rowOf_10 : decode cX4_rowOf 10 = .ok (.aload_n 0, 1) := by decide +kernel
theorem dX4_rowOf_11 : decode cX4_rowOf 11 = .ok (.getfield 9, 3) := by decide +kernel
theorem dX4_rowOf_14 : decode cX4_rowOf 14 = .ok (.iload_n 2, 1) := by decide +kernel
theorem dX4_rowOf_15 : decode cX4_rowOf 15 = .ok (.iaload, 1) := by decide +kernel
theorem dX4_rowOf_16 : decode cX4_rowOf 16 = .ok (.iload_n 1, 1) := by decide +kernel
theorem dX4_rowOf_17 : decode cX4_rowOf 17 = .ok (.if_icmp .ne 5, 3) := by decide +kernel
theorem dX4_rowOf_20 : decode cX4_rowOf 20 = .ok (.iload_n 2, 1) := by decide +kernel
theorem dX4_rowOf_21 : decode cX4_rowOf 21 = .ok (.ireturn, 1) := by decide +kernel
theorem dX4_rowOf_22 : decode cX4_rowOf 22 = .ok (.iinc 2 1, 3) := by decide +kernel
theorem dX4_rowOf_25 : decode cX4_rowOf 25 = .ok (.goto (-23), 3) := by decide +kernel
theorem dX4_rowOf_28 : decode cX4_rowOf 28 = .ok (.iconst (-1), 1) := by decide +kernel
theorem dX4_rowOf_29 : decode cX4_rowOf 29 = .ok (.ireturn, 1) := by decide +kernel
theorem dX4_isFull_0 : decode cX4_isFull 0 = .ok (.aload_n 0, 1) := by decide +kernel
theorem dX4_isFull_1 : decode cX4_isFull 1 = .ok (.getfield 24, 3) := by decide +kernel
theorem dX4_isFull_4 : decode cX4_isFull 4 = .ok (.bipush 12, 2) := by decide +kernel
theorem dX4_isFull_6 : decode cX4_isFull 6 = .ok (.if_icmp .lt 7, 3) := by decide +kernel
theorem dX4_isFull_9 : decode cX4_isFull 9 = .ok (.iconst 1, 1) := by decide +kernel
theorem dX4_isFull_10 : decode cX4_isFull 10 = .ok (.goto 4, 3) := by decide +kernel
theorem dX4_isFull_13 : decode cX4_isFull 13 = .ok (.iconst 0, 1) := by decide +kernel
theorem dX4_isFull_14 : decode cX4_isFull 14 = .ok (.ireturn, 1) := by decide +kernel
set_option maxRecDepth 20000 in
theorem ggX4_add_X4_isFull : GoodIn wsX4_add wsX4_isFull := goodIn_r _ [12, 3, 13, 14, 15, 16, 17, 18] (by decide +kernel) (by decide +kernel)
set_option maxRecDepth 20000 in
theorem gX4_add_X4_isFull : GoodIn wsX4_add (wsV RX4 31 RX4 yX4_isFull wsX4_isFull) := goodIn_app (goodIn_of _ (by decide +kernel)) ggX4_add_X4_isFull
theorem dX4_add_0 : decode cX4_add 0 = .ok (.aload_n 0, 1) := by decide +kernel
theorem dX4_add_1 : decode cX4_add 1 = .ok (.invokevirtual 31, 3) := by decide +kernel
theorem dX4_add_4 : decode cX4_add 4 = .ok (.ifCond .eq 6, 3) := by decide +kernel
theorem dX4_add_7 : decode cX4_add 7 = .ok (.ldc 35, 2) := by decide +kernel
theorem dX4_add_9 : decode cX4_add 9 = .ok (.ireturn, 1) := by decide +kernel
theorem dX4_add_10 : decode cX4_add 10 = .ok (.aload_n 0, 1) := by decide +kernel
theorem dX4_add_11 : decode cX4_add 11 = .ok (.getfield 9, 3) := by decide +kernel
theorem dX4_add_14 : decode cX4_add 14 = .ok (.aload_n 0, 1) := by decide +kernel
theorem dX4_add_15 : decode cX4_add 15 = .ok (.getfield 24, 3) := by decide +kernel
theorem dX4_add_18 : decode cX4_add 18 = .ok (.aload_n 0, 1) := by decide +kernel
theorem dX4_add_19 : decode cX4_add 19 = .ok (.getfield 28, 3) := by decide +kernel
theorem dX4_add_22 : decode cX4_add 22 = .ok (.iastore, 1) := by decide +kernel
theorem dX4_add_23 : decode cX4_add 23 = .ok (.aload_n 0, 1) := by decide +kernel
theorem dX4_add_24 : decode cX4_add 24 = .ok (.getfield 15, 3) := by decide +kernel
theorem dX4_add_27 : decode cX4_add 27 = .ok (.aload_n 0, 1) := by decide +kernel
theorem dX4_add_28 : decode cX4_add 28 = .ok (.getfield 24, 3) := by decide +kernel
theorem dX4_add_31 : decode cX4_add 31 = .ok (.iload_n 1, 1) := by decide +kernel
theorem dX4_add_32 : decode cX4_add 32 = .ok (.iastore, 1) := by decide +kernel
theorem dX4_add_33 : decode cX4_add 33 = .ok (.aload_n 0, 1) := by decide +kernel
theorem dX4_add_34 : decode cX4_add 34 = .ok (.getfield 18, 3) := by decide +kernel
theorem dX4_add_37 : decode cX4_add 37 = .ok (.aload_n 0, 1) := by decide +kernel
theorem dX4_add_38 : decode cX4_add 38 = .ok (.getfield 24, 3) := by decide +kernel
theorem dX4_add_41 : decode cX4_add 41 = .ok (.iload_n 2, 1) := by decide +kernel
theorem dX4_add_42 : decode cX4_add 42 = .ok (.iastore, 1) := by decide +kernel
theorem dX4_add_43 : decode cX4_add 43 = .ok (.aload_n 0, 1) := by decide +kernel
theorem dX4_add_44 : decode cX4_add 44 = .ok (.getfield 21, 3) := by decide +kernel
theorem dX4_add_47 : decode cX4_add 47 = .ok (.aload_n 0, 1) := by decide +kernel
theorem dX4_add_48 : decode cX4_add 48 = .ok (.getfield 24, 3) := by decide +kernel
theorem dX4_add_51 : decode cX4_add 51 = .ok (.iload_n 3, 1) := by decide +kernel
theorem dX4_add_52 : decode cX4_add 52 = .ok (.iastore, 1) := by decide +kernel
theorem dX4_add_53 : decode cX4_add 53 = .ok (.aload_n 0, 1) := by decide +kernel
theorem dX4_add_54 : decode cX4_add 54 = .ok (.dup, 1) := by decide +kernel
theorem dX4_add_55 : decode cX4_add 55 = .ok (.getfield 24, 3) := by decide +kernel
theorem dX4_add_58 : decode cX4_add 58 = .ok (.iconst 1, 1) := by decide +kernel
theorem dX4_add_59 : decode cX4_add 59 = .ok (.iadd, 1) := by decide +kernel
theorem dX4_add_60 : decode cX4_add 60 = .ok (.putfield 24, 3) := by decide +kernel
theorem dX4_add_63 : decode cX4_add 63 = .ok (.aload_n 0, 1) := by decide +kernel
theorem dX4_add_64 : decode cX4_add 64 = .ok (.dup, 1) := by decide +kernel
theorem dX4_add_65 : decode cX4_add 65 = .ok (.getfield 28, 3) := by decide +kernel
theorem dX4_add_68 : decode cX4_add 68 = .ok (.iconst 1, 1) := by decide +kernel
theorem dX4_add_69 : decode cX4_add 69 = .ok (.iadd, 1) := by decide +kernel
theorem dX4_add_70 : decode cX4_add 70 = .ok (.putfield 28, 3) := by decide +kernel
theorem dX4_add_73 : decode cX4_add 73 = .ok (.aload_n 0, 1) := by decide +kernel
theorem dX4_add_74 : decode cX4_add 74 = .ok (.getfield 28, 3) := by decide +kernel
theorem dX4_add_77 : decode cX4_add 77 = .ok (.iconst 1, 1) := by decide +kernel
theorem dX4_add_78 : decode cX4_add 78 = .ok (.isub, 1) := by decide +kernel
theorem dX4_add_79 : decode cX4_add 79 = .ok (.ireturn, 1) := by decide +kernel
theorem dX4_dropEmpty_0 : decode cX4_dropEmpty 0 = .ok (.iconst 0, 1) := by decide +kernel
theorem dX4_dropEmpty_1 : decode cX4_dropEmpty 1 = .ok (.istore_n 1, 1) := by decide +kernel
theorem dX4_dropEmpty_2 : decode cX4_dropEmpty 2 = .ok (.iconst 0, 1) := by decide +kernel
theorem dX4_dropEmpty_3 : decode cX4_dropEmpty 3 = .ok (.istore_n 2, 1) := by decide +kernel
theorem dX4_dropEmpty_4 : decode cX4_dropEmpty 4 = .ok (.iload_n 2, 1) := by decide +kernel
theorem dX4_dropEmpty_5 : decode cX4_dropEmpty 5 = .ok (.aload_n 0, 1) := by decide +kernel
theorem dX4_dropEmpty_6 : decode cX4_dropEmpty 6 = .ok (.getfield 24, 3) := by decide +kernel
theorem dX4_dropEmpty_9 : decode cX4_dropEmpty 9 = .ok (.if_icmp .ge 69, 3) := by decide +kernel
theorem dX4_dropEmpty_12 : decode cX4_dropEmpty 12 = .ok (.aload_n 0, 1) := by decide +kernel
theorem dX4_dropEmpty_13 : decode cX4_dropEmpty 13 = .ok (.getfield 15, 3) := by decide +kernel
theorem dX4_dropEmpty_16 : decode cX4_dropEmpty 16 = .ok (.iload_n 2, 1) := by decide +kernel
theorem dX4_dropEmpty_17 : decode cX4_dropEmpty 17 = .ok (.iaload, 1) := by decide +kernel
theorem dX4_dropEmpty_18 : decode cX4_dropEmpty 18 = .ok (.ifCond .le 54, 3) := by decide +kernel
theorem dX4_dropEmpty_21 : decode cX4_dropEmpty 21 = .ok (.aload_n 0, 1) := by decide +kernel
theorem dX4_dropEmpty_22 : decode cX4_dropEmpty 22 = .ok (.getfield 9, 3) := by decide +kernel
theorem dX4_dropEmpty_25 : decode cX4_dropEmpty 25 = .ok (.iload_n 1, 1) := by decide +kernel
theorem dX4_dropEmpty_26 : decode cX4_dropEmpty 26 = .ok (.aload_n 0, 1) := by decide +kernel
theorem dX4_dropEmpty_27 : decode cX4_dropEmpty 27 = .ok (.getfield 9, 3) := by decide +kernel
theorem dX4_dropEmpty_30 : decode cX4_dropEmpty 30 = .ok (.iload_n 2, 1) := by decide +kernel
theorem dX4_dropEmpty_31 : decode cX4_dropEmpty 31 = .ok (.iaload, 1) := by decide +kernel
theorem dX4_dropEmpty_32 : decode cX4_dropEmpty 32 = .ok (.iastore, 1) := by decide +kernel
theorem dX4_dropEmpty_33 : decode cX4_dropEmpty 33 = .ok (.aload_n 0, 1) := by decide +kernel
theorem dX4_dropEmpty_34 : decode cX4_dropEmpty 34 = .ok (.getfield 15, 3) := by decide +kernel
theorem dX4_dropEmpty_37 : decode cX4_dropEmpty 37 = .ok (.iload_n 1, 1) := by decide +kernel
theorem dX4_dropEmpty_38 : decode cX4_dropEmpty 38 = .ok (.aload_n 0, 1) := by decide +kernel
theorem dX4_dropEmpty_39 : decode cX4_dropEmpty 39 = .ok (.getfield 15, 3) := by decide +kernel
theorem dX4_dropEmpty_42 : decode cX4_dropEmpty 42 = .ok (.iload_n 2, 1) := by decide +kernel
theorem dX4_dropEmpty_43 : decode cX4_dropEmpty 43 = .ok (.iaload, 1) := by decide +kernel
theorem dX4_dropEmpty_44 : decode cX4_dropEmpty 44 = .ok (.iastore, 1) := by decide +kernel
theorem dX4_dropEmpty_45 : decode cX4_dropEmpty 45 = .ok (.aload_n 0, 1) := by decide +kernel
theorem dX4_dropEmpty_46 : decode cX4_dropEmpty 46 = .ok (.getfield 18, 3) := by decide +kernel
theorem dX4_dropEmpty_49 : decode cX4_dropEmpty 49 = .ok (.iload_n 1, 1) := by decide +kernel
theorem dX4_dropEmpty_50 : decode cX4_dropEmpty 50 = .ok (.aload_n 0, 1) := by decide +kernel
theorem dX4_dropEmpty_51 : decode cX4_dropEmpty 51 = .ok (.getfield 18, 3) := by decide +kernel
theorem dX4_dropEmpty_54 : decode cX4_dropEmpty 54 = .ok (.iload_n 2, 1) := by decide +kernel
theorem dX4_dropEmpty_55 : decode cX4_dropEmpty 55 = .ok (.iaload, 1) := by decide +kernel
theorem dX4_dropEmpty_56 : decode cX4_dropEmpty 56 = .ok (.iastore, 1) := by decide +kernel
theorem dX4_dropEmpty_57 : decode cX4_dropEmpty 57 = .ok (.aload_n 0, 1) := by decide +kernel
theorem dX4_dropEmpty_58 : decode cX4_dropEmpty 58 = .ok (.getfield 21, 3) := by decide +kernel
theorem dX4_dropEmpty_61 : decode cX4_dropEmpty 61 = .ok (.iload_n 1, 1) := by decide +kernel
theorem dX4_dropEmpty_62 : decode cX4_dropEmpty 62 = .ok (.aload_n 0, 1) := by decide +kernel
theorem dX4_dropEmpty_63 : decode cX4_dropEmpty 63 = .ok (.getfield 21, 3) := by decide +kernel
theorem dX4_dropEmpty_66 : decode cX4_dropEmpty 66 = .ok (.iload_n 2, 1) := by decide +kernel
theorem dX4_dropEmpty_67 : decode cX4_dropEmpty 67 = .ok (.iaload, 1) := by decide +kernel
theorem dX4_dropEmpty_68 : decode cX4_dropEmpty 68 = .ok (.iastore, 1) := by decide +kernel
theorem dX4_dropEmpty_69 : decode cX4_dropEmpty 69 = .ok (.iinc 1 1, 3) := by decide +kernel
theorem dX4_dropEmpty_72 : decode cX4_dropEmpty 72 = .ok (.iinc 2 1, 3) := by decide +kernel
theorem dX4_dropEmpty_75 : decode cX4_dropEmpty 75 = .ok (.goto (-71), 3) := by decide +kernel
theorem dX4_dropEmpty_78 : decode cX4_dropEmpty 78 = .ok (.aload_n 0, 1) := by decide +kernel
theorem dX4_dropEmpty_79 : decode cX4_dropEmpty 79 = .ok (.iload_n 1, 1) := by decide +kernel
theorem dX4_dropEmpty_80 : decode cX4_dropEmpty 80 = .ok (.putfield 24, 3) := by decide +kernel
theorem dX4_dropEmpty_83 : decode cX4_dropEmpty 83 = .ok (.return_, 1) := by decide +kernel
theorem dX4_cupAt_0 : decode cX4_cupAt 0 = .ok (.aload_n 0, 1) := by decide +kernel
theorem dX4_cupAt_1 : decode cX4_cupAt 1 = .ok (.getfield 18, 3) := by decide +kernel
theorem dX4_cupAt_4 : decode cX4_cupAt 4 = .ok (.iload_n 1, 1) := by decide +kernel
theorem dX4_cupAt_5 : decode cX4_cupAt 5 = .ok (.iaload, 1) := by decide +kernel
theorem dX4_cupAt_6 : decode cX4_cupAt 6 = .ok (.iload_n 2, 1) := by decide +kernel
theorem dX4_cupAt_7 : decode cX4_cupAt 7 = .ok (.aload_n 0, 1) := by decide +kernel
theorem dX4_cupAt_8 : decode cX4_cupAt 8 = .ok (.getfield 21, 3) := by decide +kernel
theorem dX4_cupAt_11 : decode cX4_cupAt 11 = .ok (.iload_n 1, 1) := by decide +kernel
theorem dX4_cupAt_12 : decode cX4_cupAt 12 = .ok (.iaload, 1) := by decide +kernel
theorem dX4_cupAt_13 : decode cX4_cupAt 13 = .ok (.isub, 1) := by decide +kernel
theorem dX4_cupAt_14 : decode cX4_cupAt 14 = .ok (.iconst 4, 1) := by decide +kernel
theorem dX4_cupAt_15 : decode cX4_cupAt 15 = .ok (.idiv, 1) := by decide +kernel
theorem dX4_cupAt_16 : decode cX4_cupAt 16 = .ok (.isub, 1) := by decide +kernel
theorem dX4_cupAt_17 : decode cX4_cupAt 17 = .ok (.istore_n 3, 1) := by decide +kernel
theorem dX4_cupAt_18 : decode cX4_cupAt 18 = .ok (.iload_n 3, 1) := by decide +kernel
theorem dX4_cupAt_19 : decode cX4_cupAt 19 = .ok (.bipush 60, 2) := by decide +kernel
theorem dX4_cupAt_21 : decode cX4_cupAt 21 = .ok (.if_icmp .ge 8, 3) := by decide +kernel
theorem dX4_cupAt_24 : decode cX4_cupAt 24 = .ok (.bipush 60, 2) := by decide +kernel
theorem dX4_cupAt_26 : decode cX4_cupAt 26 = .ok (.goto 4, 3) := by decide +kernel
theorem dX4_cupAt_29 : decode cX4_cupAt 29 = .ok (.iload_n 3, 1) := by decide +kernel
theorem dX4_cupAt_30 : decode cX4_cupAt 30 = .ok (.ireturn, 1) := by decide +kernel
theorem dX4_monthsTooOld_0 : decode cX4_monthsTooOld 0 = .ok (.iload_n 2, 1) := by decide +kernel
theorem dX4_monthsTooOld_1 : decode cX4_monthsTooOld 1 = .ok (.aload_n 0, 1) := by decide +kernel
theorem dX4_monthsTooOld_2 : decode cX4_monthsTooOld 2 = .ok (.getfield 21, 3) := by decide +kernel
theorem dX4_monthsTooOld_5 : decode cX4_monthsTooOld 5 = .ok (.iload_n 1, 1) := by decide +kernel
theorem dX4_monthsTooOld_6 : decode cX4_monthsTooOld 6 = .ok (.iaload, 1) := by decide +kernel
theorem dX4_monthsTooOld_7 : decode cX4_monthsTooOld 7 = .ok (.isub, 1) := by decide +kernel
theorem dX4_monthsTooOld_8 : decode cX4_monthsTooOld 8 = .ok (.iconst 3, 1) := by decide +kernel
theorem dX4_monthsTooOld_9 : decode cX4_monthsTooOld 9 = .ok (.isub, 1) := by decide +kernel
theorem dX4_monthsTooOld_10 : decode cX4_monthsTooOld 10 = .ok (.istore_n 3, 1) := by decide +kernel
theorem dX4_monthsTooOld_11 : decode cX4_monthsTooOld 11 = .ok (.iload_n 3, 1) := by decide +kernel
theorem dX4_monthsTooOld_12 : decode cX4_monthsTooOld 12 = .ok (.ifCond .ge 7, 3) := by decide +kernel
theorem dX4_monthsTooOld_15 : decode cX4_monthsTooOld 15 = .ok (.iconst 0, 1) := by decide +kernel
theorem dX4_monthsTooOld_16 : decode cX4_monthsTooOld 16 = .ok (.goto 4, 3) := by decide +kernel
theorem dX4_monthsTooOld_19 : decode cX4_monthsTooOld 19 = .ok (.iload_n 3, 1) := by decide +kernel
theorem dX4_monthsTooOld_20 : decode cX4_monthsTooOld 20 = .ok (.ireturn, 1) := by decide +kernel
theorem dX4_allBags_0 : decode cX4_allBags 0 = .ok (.iconst 0, 1) := by decide +kernel
theorem dX4_allBags_1 : decode cX4_allBags 1 = .ok (.istore_n 1, 1) := by decide +kernel
theorem dX4_allBags_2 : decode cX4_allBags 2 = .ok (.iconst 0, 1) := by decide +kernel
theorem dX4_allBags_3 : decode cX4_allBags 3 = .ok (.istore_n 2, 1) := by decide +kernel
theorem dX4_allBags_4 : decode cX4_allBags 4 = .ok (.iload_n 2, 1) := by decide +kernel
theorem dX4_allBags_5 : decode cX4_allBags 5 = .ok (.aload_n 0, 1) := by decide +kernel
theorem dX4_allBags_6 : decode cX4_allBags 6 = .ok (.getfield 24, 3) := by decide +kernel
theorem dX4_allBags_9 : decode cX4_allBags 9 = .ok (.if_icmp .ge 18, 3) := by decide +kernel
theorem dX4_allBags_12 : decode cX4_allBags 12 = .ok (.iload_n 1, 1) := by decide +kernel
theorem dX4_allBags_13 : decode cX4_allBags 13 = .ok (.aload_n 0, 1) := by decide +kernel
theorem dX4_allBags_14 : decode cX4_allBags 14 = .ok (.getfield 15, 3) := by decide +kernel
theorem dX4_allBags_17 : decode cX4_allBags 17 = .ok (.iload_n 2, 1) := by decide +kernel
theorem dX4_allBags_18 : decode cX4_allBags 18 = .ok (.iaload, 1) := by decide +kernel
theorem dX4_allBags_19 : decode cX4_allBags 19 = .ok (.iadd, 1) := by decide +kernel
theorem dX4_allBags_20 : decode cX4_allBags 20 = .ok (.istore_n 1, 1) := by decide +kernel
theorem dX4_allBags_21 : decode cX4_allBags 21 = .ok (.iinc 2 1, 3) := by decide +kernel
theorem dX4_allBags_24 : decode cX4_allBags 24 = .ok (.goto (-20), 3) := by decide +kernel
theorem dX4_allBags_27 : decode cX4_allBags 27 = .ok (.iload_n 1, 1) := by decide +kernel
theorem dX4_allBags_28 : decode cX4_allBags 28 = .ok (.ireturn, 1) := by decide +kernel
set_option maxRecDepth 20000 in
theorem ggX4_bagsToGive_X4_cupAt : GoodIn wsX4_bagsToGive wsX4_cupAt := goodIn_r _ [7, 8, 9, 10, 11, 12, 13, 14, 15] (by decide +kernel) (by decide +kernel)
set_option maxRecDepth 20000 in
theorem gX4_bagsToGive_X4_cupAt : GoodIn wsX4_bagsToGive (wsV RX4 36 RX4 yX4_cupAt wsX4_cupAt) := goodIn_app (goodIn_of _ (by decide +kernel)) ggX4_bagsToGive_X4_cupAt
theorem dX4_bagsToGive_0 : decode cX4_bagsToGive 0 = .ok (.iconst 0, 1) := by decide +kernel
theorem dX4_bagsToGive_1 : decode cX4_bagsToGive 1 = .ok (.istore_n 2, 1) := by decide +kernel
theorem dX4_bagsToGive_2 : decode cX4_bagsToGive 2 = .ok (.iconst 0, 1) := by decide +kernel
theorem dX4_bagsToGive_3 : decode cX4_bagsToGive 3 = .ok (.istore_n 3, 1) := by decide +kernel
theorem dX4_bagsToGive_4 : decode cX4_bagsToGive 4 = .ok (.iload_n 3, 1) := by decide +kernel
theorem dX4_bagsToGive_5 : decode cX4_bagsToGive 5 = .ok (.aload_n 0, 1) := by decide +kernel
theorem dX4_bagsToGive_6 : decode cX4_bagsToGive 6 = .ok (.getfield 24, 3) := by decide +kernel
theorem dX4_bagsToGive_9 : decode cX4_bagsToGive 9 = .ok (.if_icmp .ge 29, 3) := by decide +kernel
theorem dX4_bagsToGive_12 : decode cX4_bagsToGive 12 = .ok (.aload_n 0, 1) := by decide +kernel
theorem dX4_bagsToGive_13 : decode cX4_bagsToGive 13 = .ok (.iload_n 3, 1) := by decide +kernel
theorem dX4_bagsToGive_14 : decode cX4_bagsToGive 14 = .ok (.iload_n 1, 1) := by decide +kernel
theorem dX4_bagsToGive_15 : decode cX4_bagsToGive 15 = .ok (.invokevirtual 36, 3) := by decide +kernel
theorem dX4_bagsToGive_18 : decode cX4_bagsToGive 18 = .ok (.bipush 70, 2) := by decide +kernel
theorem dX4_bagsToGive_20 : decode cX4_bagsToGive 20 = .ok (.if_icmp .lt 12, 3) := by decide +kernel
theorem dX4_bagsToGive_23 : decode cX4_bagsToGive 23 = .ok (.iload_n 2, 1) := by decide +kernel
theorem dX4_bagsToGive_24 : decode cX4_bagsToGive 24 = .ok (.aload_n 0, 1) := by decide +kernel
theorem dX4_bagsToGive_25 : decode cX4_bagsToGive 25 = .ok (.getfield 15, 3) := by decide +kernel
theorem dX4_bagsToGive_28 : decode cX4_bagsToGive 28 = .ok (.iload_n 3, 1) := by decide +kernel
theorem dX4_bagsToGive_29 : decode cX4_bagsToGive 29 = .ok (.iaload, 1) := by decide +kernel
theorem dX4_bagsToGive_30 : decode cX4_bagsToGive 30 = .ok (.iadd, 1) := by decide +kernel
theorem dX4_bagsToGive_31 : decode cX4_bagsToGive 31 = .ok (.istore_n 2, 1) := by decide +kernel
theorem dX4_bagsToGive_32 : decode cX4_bagsToGive 32 = .ok (.iinc 3 1, 3) := by decide +kernel
theorem dX4_bagsToGive_35 : decode cX4_bagsToGive 35 = .ok (.goto (-31), 3) := by decide +kernel
theorem dX4_bagsToGive_38 : decode cX4_bagsToGive 38 = .ok (.iload_n 2, 1) := by decide +kernel
theorem dX4_bagsToGive_39 : decode cX4_bagsToGive 39 = .ok (.ireturn, 1) := by decide +kernel
end
section
theorem dX5_init_0 : decode cX5_init 0 = .ok (.aload_n 0, 1) := by decide +kernel
theorem dX5_init_1 : decode cX5_init 1 = .ok (.invokespecial 3, 3) := by decide +kernel
theorem dX5_init_4 : decode cX5_init 4 = .ok (.aload_n 0, 1) := by decide +kernel
theorem dX5_init_5 : decode cX5_init 5 = .ok (.bipush 60, 2) := by decide +kernel
theorem dX5_init_7 : decode cX5_init 7 = .ok (.newarray .char, 2) := by decide +kernel
theorem dX5_init_9 : decode cX5_init 9 = .ok (.putfield 9, 3) := by decide +kernel
theorem dX5_init_12 : decode cX5_init 12 = .ok (.aload_n 0, 1) := by decide +kernel
theorem dX5_init_13 : decode cX5_init 13 = .ok (.iconst 4, 1) := by decide +kernel
theorem dX5_init_14 : decode cX5_init 14 = .ok (.newarray .int, 2) := by decide +kernel
theorem dX5_init_16 : decode cX5_init 16 = .ok (.putfield 15, 3) := by decide +kernel
theorem dX5_init_19 : decode cX5_init 19 = .ok (.return_, 1) := by decide +kernel
set_option maxRecDepth 20000 in
theorem ggX6_init_X3_init : GoodIn wsX6_init wsX3_init := goodIn_r _ [22, 23, 2, 3, 24, 25, 26, 27, 28, 29, 30, 31, 32, 33, 34, 35, 36, 37, 38, 39, 40, 41, 42, 43, 44, 45, 46, 47, 48, 49, 50, 51, 52, 111, 112, 113, 114, 115, 116, 75, 76, 77, 78, 79, 80, 81, 82, 83, 117, 118, 119] (by decide +kernel) (by decide +kernel)
set_option maxRecDepth 20000 in
theorem gX6_init_X3_init_n9 : GoodIn wsX6_init (wsX3_init) := ggX6_init_X3_init
set_option maxRecDepth 20000 in
theorem ggX6_init_X2_init : GoodIn wsX6_init wsX2_init := goodIn_r _ [55, 56, 2, 3, 57, 58, 5, 6, 21, 22, 23, 24, 25, 26, 27, 28, 29, 30, 31, 32, 33, 34, 35, 36, 37, 38, 39, 40, 41, 42, 43, 44, 45, 46, 47, 48, 49, 50, 51, 52, 89, 90, 75, 76, 77, 78, 79, 80, 81, 82, 83, 111, 112, 113, 114, 115, 116, 117, 118, 119] (by decide +kernel) (by decide +kernel)
set_option maxRecDepth 20000 in
theorem gX6_init_X2_init : GoodIn wsX6_init (wsX2_init) := ggX6_init_X2_init
set_option maxRecDepth 20000 in
theorem ggX6_init_X1_init : GoodIn wsX6_init wsX1_init := goodIn_r _ [60, 61, 2, 3, 43, 62, 63, 64, 65, 66, 67, 68, 91, 92, 93, 94, 95, 96, 97, 98, 99, 100, 101, 102] (by decide +kernel) (by decide +kernel)
set_option maxRecDepth 20000 in
theorem gX6_init_X1_init_n28 : GoodIn wsX6_init (wsX1_init) := ggX6_init_X1_init
set_option maxRecDepth 20000 in
theorem ggX6_init_X5_init : GoodIn wsX6_init wsX5_init := goodIn_r _ [70, 71, 2, 3, 72, 73, 43, 74, 103, 104, 105, 106, 107, 108, 109, 110] (by decide +kernel) (by decide +kernel)
set_option maxRecDepth 20000 in
theorem gX6_init_X5_init_n35 : GoodIn wsX6_init (wsX5_init) := ggX6_init_X5_init
theorem dX6_init_0 : decode cX6_init 0 = .ok (.aload_n 0, 1) := by decide +kernel
theorem dX6_init_1 : decode cX6_init 1 = .ok (.invokespecial 1, 3) := by decide +kernel
theorem dX6_init_4 : decode cX6_init 4 = .ok (.aload_n 0, 1) := by decide +kernel
theorem dX6_init_5 : decode cX6_init 5 = .ok (.new 7, 3) := by decide +kernel
theorem dX6_init_8 : decode cX6_init 8 = .ok (.dup, 1) := by decide +kernel
theorem dX6_init_9 : decode cX6_init 9 = .ok (.invokespecial 9, 3) := by decide +kernel
theorem dX6_init_12 : decode cX6_init 12 = .ok (.putfield 10, 3) := by decide +kernel
theorem dX6_init_15 : decode cX6_init 15 = .ok (.aload_n 0, 1) := by decide +kernel
theorem dX6_init_16 : decode cX6_init 16 = .ok (.new 7, 3) := by decide +kernel
theorem dX6_init_19 : decode cX6_init 19 = .ok (.dup, 1) := by decide +kernel
theorem dX6_init_20 : decode cX6_init 20 = .ok (.invokespecial 9, 3) := by decide +kernel
theorem dX6_init_23 : decode cX6_init 23 = .ok (.putfield 16, 3) := by decide +kernel
theorem dX6_init_26 : decode cX6_init 26 = .ok (.aload_n 0, 1) := by decide +kernel
theorem dX6_init_27 : decode cX6_init 27 = .ok (.new 19, 3) := by decide +kernel
theorem dX6_init_30 : decode cX6_init 30 = .ok (.dup, 1) := by decide +kernel
theorem dX6_init_31 : decode cX6_init 31 = .ok (.invokespecial 21, 3) := by decide +kernel
theorem dX6_init_34 : decode cX6_init 34 = .ok (.putfield 22, 3) := by decide +kernel
theorem dX6_init_37 : decode cX6_init 37 = .ok (.aload_n 0, 1) := by decide +kernel
theorem dX6_init_38 : decode cX6_init 38 = .ok (.new 26, 3) := by decide +kernel
theorem dX6_init_41 : decode cX6_init 41 = .ok (.dup, 1) := by decide +kernel
theorem dX6_init_42 : decode cX6_init 42 = .ok (.invokespecial 28, 3) := by decide +kernel
theorem dX6_init_45 : decode cX6_init 45 = .ok (.putfield 29, 3) := by decide +kernel
theorem dX6_init_48 : decode cX6_init 48 = .ok (.aload_n 0, 1) := by decide +kernel
theorem dX6_init_49 : decode cX6_init 49 = .ok (.new 33, 3) := by decide +kernel
theorem dX6_init_52 : decode cX6_init 52 = .ok (.dup, 1) := by decide +kernel
theorem dX6_init_53 : decode cX6_init 53 = .ok (.invokespecial 35, 3) := by decide +kernel
theorem dX6_init_56 : decode cX6_init 56 = .ok (.putfield 36, 3) := by decide +kernel
theorem dX6_init_59 : decode cX6_init 59 = .ok (.return_, 1) := by decide +kernel
set_option maxRecDepth 20000 in
theorem ggX6_lot_X3_copyFrom : GoodIn wsX6_lot wsX3_copyFrom := goodIn_r _ [7, 8, 9, 10, 11, 12, 13, 14, 15, 16, 17, 18, 19, 20, 21, 22, 23, 24, 25, 26, 27, 28, 29, 30, 31, 32, 33, 34, 35, 81, 82, 83, 84, 85, 86, 87, 88, 89, 90, 91, 92, 93, 94, 95, 96, 97, 98] (by decide +kernel) (by decide +kernel)
set_option maxRecDepth 20000 in
theorem gX6_lot_X3_copyFrom : GoodIn wsX6_lot (wsV RX6 40 RX3 yX3_copyFrom wsX3_copyFrom) := goodIn_app (goodIn_of _ (by decide +kernel)) ggX6_lot_X3_copyFrom
set_option maxRecDepth 20000 in
theorem ggX6_lot_X3_bringLot : GoodIn wsX6_lot wsX3_bringLot := goodIn_r _ [39, 40, 8, 12, 41, 42, 43, 44, 45, 46, 20, 47, 48, 22, 26, 27, 23, 24, 25, 49, 50, 51, 52, 81, 82, 83, 84, 85, 86, 87, 88, 89, 90, 91, 92, 93, 94, 95] (by decide +kernel) (by decide +kernel)
set_option maxRecDepth 20000 in
theorem gX6_lot_X3_bringLot : GoodIn wsX6_lot (wsV RX6 44 RX3 yX3_bringLot wsX3_bringLot) := goodIn_app (goodIn_of _ (by decide +kernel)) ggX6_lot_X3_bringLot
set_option maxRecDepth 20000 in
theorem ggX6_lot_X6_accept : GoodIn wsX6_lot wsX6_accept := goodIn_r _ [56, 57, 2, 1, 58, 59, 42, 60, 61, 62, 63, 41, 43, 64, 65, 66, 67, 68, 69, 70, 71, 72, 73, 74, 75, 4, 5, 6, 7, 8, 9, 10, 11, 12, 13, 14, 15, 16, 17, 18, 19, 20, 21, 22, 23, 24, 25, 26, 27, 28, 29, 30, 31, 32, 33, 34, 35, 3, 76, 77, 78, 79, 80, 99, 100, 81, 82, 83, 84, 85, 86, 87, 88, 89, 90, 91, 92, 93, 94, 95, 96, 97, 98] (by decide +kernel) (by decide +kernel)
set_option maxRecDepth 20000 in
theorem gX6_lot_X6_accept : GoodIn wsX6_lot (wsV RX6 48 RX6 yX6_accept wsX6_accept) := goodIn_app (goodIn_of _ (by decide +kernel)) ggX6_lot_X6_accept
theorem dX6_lot_0 : decode cX6_lot 0 = .ok (.aload_n 0, 1) := by decide +kernel
theorem dX6_lot_1 : decode cX6_lot 1 = .ok (.getfield 16, 3) := by decide +kernel
theorem dX6_lot_4 : decode cX6_lot 4 = .ok (.aload_n 0, 1) := by decide +kernel
theorem dX6_lot_5 : decode cX6_lot 5 = .ok (.getfield 10, 3) := by decide +kernel
theorem dX6_lot_8 : decode cX6_lot 8 = .ok (.invokevirtual 40, 3) := by decide +kernel
theorem dX6_lot_11 : decode cX6_lot 11 = .ok (.aload_n 0, 1) := by decide +kernel
theorem dX6_lot_12 : decode cX6_lot 12 = .ok (.aload_n 0, 1) := by decide +kernel
theorem dX6_lot_13 : decode cX6_lot 13 = .ok (.getfield 16, 3) := by decide +kernel
theorem dX6_lot_16 : decode cX6_lot 16 = .ok (.iload_n 1, 1) := by decide +kernel
theorem dX6_lot_17 : decode cX6_lot 17 = .ok (.iload_n 2, 1) := by decide +kernel
theorem dX6_lot_18 : decode cX6_lot 18 = .ok (.invokevirtual 44, 3) := by decide +kernel
theorem dX6_lot_21 : decode cX6_lot 21 = .ok (.invokevirtual 48, 3) := by decide +kernel
theorem dX6_lot_24 : decode cX6_lot 24 = .ok (.ireturn, 1) := by decide +kernel
set_option maxRecDepth 20000 in
theorem ggX6_part_X3_copyFrom : GoodIn wsX6_part wsX3_copyFrom := goodIn_r _ [7, 8, 9, 10, 11, 12, 13, 14, 15, 16, 17, 18, 19, 20, 21, 22, 23, 24, 25, 26, 27, 28, 29, 30, 31, 32, 33, 34, 35, 91, 92, 93, 94, 95, 96, 97, 98, 99, 100, 101, 102, 103, 104, 105, 106, 107, 108] (by decide +kernel) (by decide +kernel)
set_option maxRecDepth 20000 in
theorem gX6_part_X3_copyFrom : GoodIn wsX6_part (wsV RX6 40 RX3 yX3_copyFrom wsX3_copyFrom) := goodIn_app (goodIn_of _ (by decide +kernel)) ggX6_part_X3_copyFrom
set_option maxRecDepth 20000 in
theorem ggX6_part_X3_partLot : GoodIn wsX6_part wsX3_partLot := goodIn_r _ [39, 8, 40, 41, 42, 43, 44, 45, 46, 47, 48, 20, 49, 26, 22, 50, 51, 52, 53, 54, 55, 56, 57, 58, 27, 23, 24, 25, 59, 91, 92, 93, 94, 95, 96, 97, 98, 99, 100, 101, 102, 103, 104, 105] (by decide +kernel) (by decide +kernel)
set_option maxRecDepth 20000 in
theorem gX6_part_X3_partLot : GoodIn wsX6_part (wsV RX6 52 RX3 yX3_partLot wsX3_partLot) := goodIn_app (goodIn_of _ (by decide +kernel)) ggX6_part_X3_partLot
set_option maxRecDepth 20000 in
theorem ggX6_part_X6_accept : GoodIn wsX6_part wsX6_accept := goodIn_r _ [64, 65, 2, 1, 66, 67, 63, 68, 69, 70, 71, 72, 73, 74, 75, 76, 77, 78, 79, 80, 81, 82, 83, 84, 85, 4, 5, 6, 7, 8, 9, 10, 11, 12, 13, 14, 15, 16, 17, 18, 19, 20, 21, 22, 23, 24, 25, 26, 27, 28, 29, 30, 31, 32, 33, 34, 35, 3, 86, 87, 88, 89, 90, 109, 110, 91, 92, 93, 94, 95, 96, 97, 98, 99, 100, 101, 102, 103, 104, 105, 106, 107, 108] (by decide +kernel) (by decide +kernel)
set_option maxRecDepth 20000 in
theorem gX6_part_X6_accept : GoodIn wsX6_part (wsV RX6 48 RX6 yX6_accept wsX6_accept) := goodIn_app (goodIn_of _ (by decide +kernel)) ggX6_part_X6_accept
theorem dX6_part_0 : decode cX6_part 0 = .ok (.aload_n 0, 1) := by decide +kernel
theorem dX6_part_1 : decode cX6_part 1 = .ok (.getfield 16, 3) := by decide +kernel
theorem dX6_part_4 : decode cX6_part 4 = .ok (.aload_n 0, 1) := by decide +kernel
theorem dX6_part_5 : decode cX6_part 5 = .ok (.getfield 10, 3) := by decide +kernel
theorem dX6_part_8 : decode cX6_part 8 = .ok (.invokevirtual 40, 3) := by decide +kernel
theorem dX6_part_11 : decode cX6_part 11 = .ok (.aload_n 0, 1) := by decide +kernel
theorem dX6_part_12 : decode cX6_part 12 = .ok (.aload_n 0, 1) := by decide +kernel
theorem dX6_part_13 : decode cX6_part 13 = .ok (.getfield 16, 3) := by decide +kernel
theorem dX6_part_16 : decode cX6_part 16 = .ok (.iload_n 1, 1) := by decide +kernel
theorem dX6_part_17 : decode cX6_part 17 = .ok (.iload_n 2, 1) := by decide +kernel
theorem dX6_part_18 : decode cX6_part 18 = .ok (.invokevirtual 52, 3) := by decide +kernel
theorem dX6_part_21 : decode cX6_part 21 = .ok (.invokevirtual 48, 3) := by decide +kernel
theorem dX6_part_24 : decode cX6_part 24 = .ok (.ireturn, 1) := by decide +kernel
set_option maxRecDepth 20000 in
theorem ggX6_blend_X3_copyFrom : GoodIn wsX6_blend wsX3_copyFrom := goodIn_r _ [7, 8, 9, 10, 11, 12, 13, 14, 15, 16, 17, 18, 19, 20, 21, 22, 23, 24, 25, 26, 27, 28, 29, 30, 31, 32, 33, 34, 35, 97, 98, 99, 100, 101, 102, 103, 104, 105, 106, 107, 108, 109, 110, 111, 112, 113, 114] (by decide +kernel) (by decide +kernel)
set_option maxRecDepth 20000 in
theorem gX6_blend_X3_copyFrom : GoodIn wsX6_blend (wsV RX6 40 RX3 yX3_copyFrom wsX3_copyFrom) := goodIn_app (goodIn_of _ (by decide +kernel)) ggX6_blend_X3_copyFrom
set_option maxRecDepth 20000 in
theorem ggX6_blend_X3_blendLots : GoodIn wsX6_blend wsX3_blendLots := goodIn_r _ [39, 8, 40, 41, 42, 43, 12, 44, 45, 46, 20, 47, 26, 22, 48, 49, 50, 51, 52, 53, 54, 55, 24, 25, 56, 57, 58, 59, 23, 60, 61, 62, 63, 64, 27, 65, 97, 98, 99, 100, 101, 102, 103, 104, 105, 106, 107, 108, 109, 110, 111] (by decide +kernel) (by decide +kernel)
set_option maxRecDepth 20000 in
theorem gX6_blend_X3_blendLots : GoodIn wsX6_blend (wsV RX6 55 RX3 yX3_blendLots wsX3_blendLots) := goodIn_app (goodIn_of _ (by decide +kernel)) ggX6_blend_X3_blendLots
set_option maxRecDepth 20000 in
theorem ggX6_blend_X6_accept : GoodIn wsX6_blend wsX6_accept := goodIn_r _ [70, 71, 2, 1, 72, 73, 69, 74, 75, 76, 77, 78, 79, 80, 81, 82, 83, 84, 85, 86, 87, 88, 89, 90, 91, 4, 5, 6, 7, 8, 9, 10, 11, 12, 13, 14, 15, 16, 17, 18, 19, 20, 21, 22, 23, 24, 25, 26, 27, 28, 29, 30, 31, 32, 33, 34, 35, 3, 92, 93, 94, 95, 96, 115, 116, 97, 98, 99, 100, 101, 102, 103, 104, 105, 106, 107, 108, 109, 110, 111, 112, 113, 114] (by decide +kernel) (by decide +kernel)
set_option maxRecDepth 20000 in
theorem gX6_blend_X6_accept : GoodIn wsX6_blend (wsV RX6 48 RX6 yX6_accept wsX6_accept) := goodIn_app (goodIn_of _ (by decide +kernel)) ggX6_blend_X6_accept
theorem dX6_blend_0 : decode cX6_blend 0 = .ok (.aload_n 0, 1) := by decide +kernel
theorem dX6_blend_1 : decode cX6_blend 1 = .ok (.getfield 16, 3) := by decide +kernel
theorem dX6_blend_4 : decode cX6_blend 4 = .ok (.aload_n 0, 1) := by decide +kernel
theorem dX6_blend_5 : decode cX6_blend 5 = .ok (.getfield 10, 3) := by decide +kernel
theorem dX6_blend_8 : decode cX6_blend 8 = .ok (.invokevirtual 40, 3) := by decide +kernel
theorem dX6_blend_11 : decode cX6_blend 11 = .ok (.aload_n 0, 1) := by decide +kernel
theorem dX6_blend_12 : decode cX6_blend 12 = .ok (.aload_n 0, 1) := by decide +kernel
theorem dX6_blend_13 : decode cX6_blend 13 = .ok (.getfield 16, 3) := by decide +kernel
theorem dX6_blend_16 : decode cX6_blend 16 = .ok (.iload_n 1, 1) := by decide +kernel
theorem dX6_blend_17 : decode cX6_blend 17 = .ok (.iload_n 2, 1) := by decide +kernel
theorem dX6_blend_18 : decode cX6_blend 18 = .ok (.iload_n 3, 1) := by decide +kernel
theorem dX6_blend_19 : decode cX6_blend 19 = .ok (.iload 4, 2) := by decide +kernel
theorem dX6_blend_21 : decode cX6_blend 21 = .ok (.invokevirtual 55, 3) := by decide +kernel
theorem dX6_blend_24 : decode cX6_blend 24 = .ok (.invokevirtual 48, 3) := by decide +kernel
theorem dX6_blend_27 : decode cX6_blend 27 = .ok (.ireturn, 1) := by decide +kernel
set_option maxRecDepth 20000 in
theorem ggX6_cup_X3_copyFrom : GoodIn wsX6_cup wsX3_copyFrom := goodIn_r _ [7, 8, 9, 10, 11, 12, 13, 14, 15, 16, 17, 18, 19, 20, 21, 22, 23, 24, 25, 26, 27, 28, 29, 30, 31, 32, 33, 34, 35, 84, 85, 86, 87, 88, 89, 90, 91, 92, 93, 94, 95, 96, 97, 98, 99, 100, 101] (by decide +kernel) (by decide +kernel)
set_option maxRecDepth 20000 in
theorem gX6_cup_X3_copyFrom : GoodIn wsX6_cup (wsV RX6 40 RX3 yX3_copyFrom wsX3_copyFrom) := goodIn_app (goodIn_of _ (by decide +kernel)) ggX6_cup_X3_copyFrom
set_option maxRecDepth 20000 in
theorem ggX6_cup_X3_cupAnew : GoodIn wsX6_cup wsX3_cupAnew := goodIn_r _ [39, 8, 40, 41, 42, 43, 12, 44, 45, 46, 47, 20, 48, 26, 22, 49, 50, 51, 52, 24, 25, 84, 85, 86, 87, 88, 89, 90, 91, 92, 93, 94, 95, 96, 97, 98] (by decide +kernel) (by decide +kernel)
set_option maxRecDepth 20000 in
theorem gX6_cup_X3_cupAnew : GoodIn wsX6_cup (wsV RX6 59 RX3 yX3_cupAnew wsX3_cupAnew) := goodIn_app (goodIn_of _ (by decide +kernel)) ggX6_cup_X3_cupAnew
set_option maxRecDepth 20000 in
theorem ggX6_cup_X6_accept : GoodIn wsX6_cup wsX6_accept := goodIn_r _ [57, 58, 2, 1, 59, 60, 56, 61, 62, 63, 64, 65, 66, 67, 68, 69, 70, 71, 72, 73, 74, 75, 76, 77, 78, 4, 5, 6, 7, 8, 9, 10, 11, 12, 13, 14, 15, 16, 17, 18, 19, 20, 21, 22, 23, 24, 25, 26, 27, 28, 29, 30, 31, 32, 33, 34, 35, 3, 79, 80, 81, 82, 83, 102, 103, 84, 85, 86, 87, 88, 89, 90, 91, 92, 93, 94, 95, 96, 97, 98, 99, 100, 101] (by decide +kernel) (by decide +kernel)
set_option maxRecDepth 20000 in
theorem gX6_cup_X6_accept : GoodIn wsX6_cup (wsV RX6 48 RX6 yX6_accept wsX6_accept) := goodIn_app (goodIn_of _ (by decide +kernel)) ggX6_cup_X6_accept
theorem dX6_cup_0 : decode cX6_cup 0 = .ok (.aload_n 0, 1) := by decide +kernel
theorem dX6_cup_1 : decode cX6_cup 1 = .ok (.getfield 16, 3) := by decide +kernel
theorem dX6_cup_4 : decode cX6_cup 4 = .ok (.aload_n 0, 1) := by decide +kernel
theorem dX6_cup_5 : decode cX6_cup 5 = .ok (.getfield 10, 3) := by decide +kernel
theorem dX6_cup_8 : decode cX6_cup 8 = .ok (.invokevirtual 40, 3) := by decide +kernel
theorem dX6_cup_11 : decode cX6_cup 11 = .ok (.aload_n 0, 1) := by decide +kernel
theorem dX6_cup_12 : decode cX6_cup 12 = .ok (.aload_n 0, 1) := by decide +kernel
theorem dX6_cup_13 : decode cX6_cup 13 = .ok (.getfield 16, 3) := by decide +kernel
theorem dX6_cup_16 : decode cX6_cup 16 = .ok (.iload_n 1, 1) := by decide +kernel
theorem dX6_cup_17 : decode cX6_cup 17 = .ok (.invokevirtual 59, 3) := by decide +kernel
theorem dX6_cup_20 : decode cX6_cup 20 = .ok (.invokevirtual 48, 3) := by decide +kernel
theorem dX6_cup_23 : decode cX6_cup 23 = .ok (.ireturn, 1) := by decide +kernel
set_option maxRecDepth 20000 in
theorem ggX6_worth_X3_copyFrom : GoodIn wsX6_worth wsX3_copyFrom := goodIn_r _ [7, 8, 9, 10, 11, 12, 13, 14, 15, 16, 17, 18, 19, 20, 21, 22, 23, 24, 25, 26, 27, 28, 29, 30, 31, 32, 33, 34, 35, 72, 73, 74, 75, 76, 77, 78, 79, 80, 81, 82, 83, 84, 85, 86, 87, 88, 89] (by decide +kernel) (by decide +kernel)
set_option maxRecDepth 20000 in
theorem gX6_worth_X3_copyFrom : GoodIn wsX6_worth (wsV RX6 40 RX3 yX3_copyFrom wsX3_copyFrom) := goodIn_app (goodIn_of _ (by decide +kernel)) ggX6_worth_X3_copyFrom
set_option maxRecDepth 20000 in
theorem ggX6_worth_X3_changeWorth : GoodIn wsX6_worth wsX3_changeWorth := goodIn_r _ [39, 40, 10, 41, 42, 43, 72, 73, 74, 75, 76, 77, 78, 79, 80] (by decide +kernel) (by decide +kernel)
set_option maxRecDepth 20000 in
theorem gX6_worth_X3_changeWorth : GoodIn wsX6_worth (wsV RX6 62 RX3 yX3_changeWorth wsX3_changeWorth) := goodIn_app (goodIn_of _ (by decide +kernel)) ggX6_worth_X3_changeWorth
set_option maxRecDepth 20000 in
theorem ggX6_worth_X6_accept : GoodIn wsX6_worth wsX6_accept := goodIn_r _ [47, 48, 2, 1, 49, 50, 42, 51, 52, 53, 54, 41, 43, 55, 56, 57, 58, 59, 60, 61, 62, 63, 64, 65, 66, 4, 5, 6, 7, 8, 9, 10, 11, 12, 13, 14, 15, 16, 17, 18, 19, 20, 21, 22, 23, 24, 25, 26, 27, 28, 29, 30, 31, 32, 33, 34, 35, 3, 67, 68, 69, 70, 71, 90, 91, 72, 73, 74, 75, 76, 77, 78, 79, 80, 81, 82, 83, 84, 85, 86, 87, 88, 89] (by decide +kernel) (by decide +kernel)
set_option maxRecDepth 20000 in
theorem gX6_worth_X6_accept : GoodIn wsX6_worth (wsV RX6 48 RX6 yX6_accept wsX6_accept) := goodIn_app (goodIn_of _ (by decide +kernel)) ggX6_worth_X6_accept
theorem dX6_worth_0 : decode cX6_worth 0 = .ok (.aload_n 0, 1) := by decide +kernel
theorem dX6_worth_1 : decode cX6_worth 1 = .ok (.getfield 16, 3) := by decide +kernel
theorem dX6_worth_4 : decode cX6_worth 4 = .ok (.aload_n 0, 1) := by decide +kernel
theorem dX6_worth_5 : decode cX6_worth 5 = .ok (.getfield 10, 3) := by decide +kernel
theorem dX6_worth_8 : decode cX6_worth 8 = .ok (.invokevirtual 40, 3) := by decide +kernel
theorem dX6_worth_11 : decode cX6_worth 11 = .ok (.aload_n 0, 1) := by decide +kernel
theorem dX6_worth_12 : decode cX6_worth 12 = .ok (.aload_n 0, 1) := by decide +kernel
theorem dX6_worth_13 : decode cX6_worth 13 = .ok (.getfield 16, 3) := by decide +kernel
theorem dX6_worth_16 : decode cX6_worth 16 = .ok (.iload_n 1, 1) := by decide +kernel
theorem dX6_worth_17 : decode cX6_worth 17 = .ok (.iload_n 2, 1) := by decide +kernel
theorem dX6_worth_18 : decode cX6_worth 18 = .ok (.invokevirtual 62, 3) := by decide +kernel
theorem dX6_worth_21 : decode cX6_worth 21 = .ok (.invokevirtual 48, 3) := by decide +kernel
theorem dX6_worth_24 : decode cX6_worth 24 = .ok (.ireturn, 1) := by decide +kernel
set_option maxRecDepth 20000 in
theorem ggX6_sell_X3_copyFrom : GoodIn wsX6_sell wsX3_copyFrom := goodIn_r _ [7, 8, 9, 10, 11, 12, 13, 14, 15, 16, 17, 18, 19, 20, 21, 22, 23, 24, 25, 26, 27, 28, 29, 30, 31, 32, 33, 34, 35, 86, 87, 88, 89, 90, 91, 92, 93, 94, 95, 96, 97, 98, 99, 100, 101, 102, 103] (by decide +kernel) (by decide +kernel)
set_option maxRecDepth 20000 in
theorem gX6_sell_X3_copyFrom : GoodIn wsX6_sell (wsV RX6 40 RX3 yX3_copyFrom wsX3_copyFrom) := goodIn_app (goodIn_of _ (by decide +kernel)) ggX6_sell_X3_copyFrom
set_option maxRecDepth 20000 in
theorem ggX6_sell_X3_sellContract : GoodIn wsX6_sell wsX3_sellContract := goodIn_r _ [39, 40, 12, 41, 9, 42, 43, 44, 45, 46, 47, 6, 48, 11, 49, 50, 51, 52, 53, 54, 55, 31, 56, 35, 57, 33, 34, 86, 87, 88, 89, 90, 91, 92, 93, 94, 101, 102, 103] (by decide +kernel) (by decide +kernel)
set_option maxRecDepth 20000 in
theorem gX6_sell_X3_sellContract : GoodIn wsX6_sell (wsV RX6 65 RX3 yX3_sellContract wsX3_sellContract) := goodIn_app (goodIn_of _ (by decide +kernel)) ggX6_sell_X3_sellContract
set_option maxRecDepth 20000 in
theorem ggX6_sell_X6_accept : GoodIn wsX6_sell wsX6_accept := goodIn_r _ [61, 62, 2, 1, 63, 64, 43, 65, 66, 67, 68, 42, 44, 69, 70, 71, 72, 73, 74, 75, 76, 77, 78, 79, 80, 4, 5, 6, 7, 8, 9, 10, 11, 12, 13, 14, 15, 16, 17, 18, 19, 20, 21, 22, 23, 24, 25, 26, 27, 28, 29, 30, 31, 32, 33, 34, 35, 3, 81, 82, 83, 84, 85, 104, 105, 86, 87, 88, 89, 90, 91, 92, 93, 94, 95, 96, 97, 98, 99, 100, 101, 102, 103] (by decide +kernel) (by decide +kernel)
set_option maxRecDepth 20000 in
theorem gX6_sell_X6_accept : GoodIn wsX6_sell (wsV RX6 48 RX6 yX6_accept wsX6_accept) := goodIn_app (goodIn_of _ (by decide +kernel)) ggX6_sell_X6_accept
theorem dX6_sell_0 : decode cX6_sell 0 = .ok (.aload_n 0, 1) := by decide +kernel
theorem dX6_sell_1 : decode cX6_sell 1 = .ok (.getfield 16, 3) := by decide +kernel
theorem dX6_sell_4 : decode cX6_sell 4 = .ok (.aload_n 0, 1) := by decide +kernel
theorem dX6_sell_5 : decode cX6_sell 5 = .ok (.getfield 10, 3) := by decide +kernel
theorem dX6_sell_8 : decode cX6_sell 8 = .ok (.invokevirtual 40, 3) := by decide +kernel
theorem dX6_sell_11 : decode cX6_sell 11 = .ok (.aload_n 0, 1) := by decide +kernel
theorem dX6_sell_12 : decode cX6_sell 12 = .ok (.aload_n 0, 1) := by decide +kernel
theorem dX6_sell_13 : decode cX6_sell 13 = .ok (.getfield 16, 3) := by decide +kernel
theorem dX6_sell_16 : decode cX6_sell 16 = .ok (.iload_n 1, 1) := by decide +kernel
theorem dX6_sell_17 : decode cX6_sell 17 = .ok (.iload_n 2, 1) := by decide +kernel
theorem dX6_sell_18 : decode cX6_sell 18 = .ok (.invokevirtual 65, 3) := by decide +kernel
theorem dX6_sell_21 : decode cX6_sell 21 = .ok (.invokevirtual 48, 3) := by decide +kernel
theorem dX6_sell_24 : decode cX6_sell 24 = .ok (.ireturn, 1) := by decide +kernel
set_option maxRecDepth 20000 in
theorem ggX6_buyBack_X3_copyFrom : GoodIn wsX6_buyBack wsX3_copyFrom := goodIn_r _ [7, 8, 9, 10, 11, 12, 13, 14, 15, 16, 17, 18, 19, 20, 21, 22, 23, 24, 25, 26, 27, 28, 29, 30, 31, 32, 33, 34, 35, 82, 83, 84, 85, 86, 87, 88, 89, 90, 91, 92, 93, 94, 95, 96, 97, 98, 99] (by decide +kernel) (by decide +kernel)
set_option maxRecDepth 20000 in
theorem gX6_buyBack_X3_copyFrom : GoodIn wsX6_buyBack (wsV RX6 40 RX3 yX3_copyFrom wsX3_copyFrom) := goodIn_app (goodIn_of _ (by decide +kernel)) ggX6_buyBack_X3_copyFrom
set_option maxRecDepth 20000 in
theorem ggX6_buyBack_X3_buyContractBack : GoodIn wsX6_buyBack wsX3_buyContractBack := goodIn_r _ [39, 9, 40, 11, 41, 13, 42, 43, 44, 31, 45, 35, 46, 47, 48, 49, 50, 51, 52, 33, 34, 53, 82, 83, 84, 85, 86, 87, 88, 89, 90, 97, 98, 99] (by decide +kernel) (by decide +kernel)
set_option maxRecDepth 20000 in
theorem gX6_buyBack_X3_buyContractBack : GoodIn wsX6_buyBack (wsV RX6 68 RX3 yX3_buyContractBack wsX3_buyContractBack) := goodIn_app (goodIn_of _ (by decide +kernel)) ggX6_buyBack_X3_buyContractBack
set_option maxRecDepth 20000 in
theorem ggX6_buyBack_X6_accept : GoodIn wsX6_buyBack wsX6_accept := goodIn_r _ [57, 58, 2, 1, 59, 60, 47, 61, 62, 63, 64, 46, 48, 65, 66, 67, 68, 69, 70, 71, 72, 73, 74, 75, 76, 4, 5, 6, 7, 8, 9, 10, 11, 12, 13, 14, 15, 16, 17, 18, 19, 20, 21, 22, 23, 24, 25, 26, 27, 28, 29, 30, 31, 32, 33, 34, 35, 3, 77, 78, 79, 80, 81, 100, 101, 82, 83, 84, 85, 86, 87, 88, 89, 90, 91, 92, 93, 94, 95, 96, 97, 98, 99] (by decide +kernel) (by decide +kernel)
set_option maxRecDepth 20000 in
theorem gX6_buyBack_X6_accept : GoodIn wsX6_buyBack (wsV RX6 48 RX6 yX6_accept wsX6_accept) := goodIn_app (goodIn_of _ (by decide +kernel)) ggX6_buyBack_X6_accept
theorem dX6_buyBack_0 : decode cX6_buyBack 0 = .ok (.aload_n 0, 1) := by decide +kernel
theorem dX6_buyBack_1 : decode cX6_buyBack 1 = .ok (.getfield 16, 3) := by decide +kernel
theorem dX6_buyBack_4 : decode cX6_buyBack 4 = .ok (.aload_n 0, 1) := by decide +kernel
theorem dX6_buyBack_5 : decode cX6_buyBack 5 = .ok (.getfield 10, 3) := by decide +kernel
theorem dX6_buyBack_8 : decode cX6_buyBack 8 = .ok (.invokevirtual 40, 3) := by decide +kernel
theorem dX6_buyBack_11 : decode cX6_buyBack 11 = .ok (.aload_n 0, 1) := by decide +kernel
theorem dX6_buyBack_12 : decode cX6_buyBack 12 = .ok (.aload_n 0, 1) := by decide +kernel
theorem dX6_buyBack_13 : decode cX6_buyBack 13 = .ok (.getfield 16, 3) := by decide +kernel
theorem dX6_buyBack_16 : decode cX6_buyBack 16 = .ok (.iload_n 1, 1) := by decide +kernel
theorem dX6_buyBack_17 : decode cX6_buyBack 17 = .ok (.iload_n 2, 1) := by decide +kernel
theorem dX6_buyBack_18 : decode cX6_buyBack 18 = .ok (.invokevirtual 68, 3) := by decide +kernel
theorem dX6_buyBack_21 : decode cX6_buyBack 21 = .ok (.invokevirtual 48, 3) := by decide +kernel
theorem dX6_buyBack_24 : decode cX6_buyBack 24 = .ok (.ireturn, 1) := by decide +kernel
set_option maxRecDepth 20000 in
theorem ggX6_meet_X3_copyFrom : GoodIn wsX6_meet wsX3_copyFrom := goodIn_r _ [8, 9, 10, 11, 12, 13, 14, 15, 16, 17, 18, 19, 20, 21, 22, 23, 24, 25, 26, 27, 28, 29, 30, 31, 32, 33, 34, 35, 36, 147, 148, 149, 150, 151, 152, 153, 154, 155, 156, 157, 158, 159, 160, 161, 162, 163, 164] (by decide +kernel) (by decide +kernel)
set_option maxRecDepth 20000 in
theorem gX6_meet_X3_copyFrom : GoodIn wsX6_meet (wsV RX6 40 RX3 yX3_copyFrom wsX3_copyFrom) := goodIn_app (goodIn_of _ (by decide +kernel)) ggX6_meet_X3_copyFrom
set_option maxRecDepth 20000 in
theorem ggX6_meet_X3_meetContract : GoodIn wsX6_meet wsX3_meetContract := goodIn_r _ [40, 10, 41, 42, 13, 43, 44, 45, 46, 9, 47, 48, 49, 14, 50, 15, 17, 12, 51, 52, 53, 32, 54, 36, 55, 56, 57, 58, 59, 60, 61, 62, 63, 64, 65, 66, 67, 68, 69, 70, 71, 72, 73, 74, 75, 76, 77, 78, 79, 80, 81, 21, 82, 25, 26, 83, 84, 85, 86, 87, 88, 89, 7, 90, 91, 92, 93, 94, 95, 96, 97, 98, 99, 100, 101, 102, 103, 104, 105, 106, 107, 108, 109, 110, 111, 27, 24, 23, 112, 113, 114, 115, 34, 35, 116, 147, 148, 149, 150, 151, 152, 153, 154, 155, 162, 163, 164, 165, 166, 167, 168, 169, 170, 171, 172, 173, 174, 175, 176, 156, 157, 158, 159, 160, 161] (by decide +kernel) (by decide +kernel)
set_option maxRecDepth 20000 in
theorem gX6_meet_X3_meetContract : GoodIn wsX6_meet (wsV RX6 71 RX3 yX3_meetContract wsX3_meetContract) := goodIn_app (goodIn_of _ (by decide +kernel)) ggX6_meet_X3_meetContract
set_option maxRecDepth 20000 in
theorem ggX6_meet_X6_accept : GoodIn wsX6_meet wsX6_accept := goodIn_r _ [120, 121, 2, 1, 122, 123, 92, 124, 125, 126, 127, 128, 129, 130, 131, 132, 133, 134, 135, 136, 137, 138, 139, 140, 141, 5, 6, 7, 8, 9, 10, 11, 12, 13, 14, 15, 16, 17, 18, 19, 20, 21, 22, 23, 24, 25, 26, 27, 28, 29, 30, 31, 32, 33, 34, 35, 36, 4, 142, 143, 144, 145, 146, 177, 178, 147, 148, 149, 150, 151, 152, 153, 154, 155, 156, 157, 158, 159, 160, 161, 162, 163, 164] (by decide +kernel) (by decide +kernel)
set_option maxRecDepth 20000 in
theorem gX6_meet_X6_accept : GoodIn wsX6_meet (wsV RX6 48 RX6 yX6_accept wsX6_accept) := goodIn_app (goodIn_of _ (by decide +kernel)) ggX6_meet_X6_accept
theorem dX6_meet_0 : decode cX6_meet 0 = .ok (.aload_n 0, 1) := by decide +kernel
theorem dX6_meet_1 : decode cX6_meet 1 = .ok (.getfield 16, 3) := by decide +kernel
theorem dX6_meet_4 : decode cX6_meet 4 = .ok (.aload_n 0, 1) := by decide +kernel
theorem dX6_meet_5 : decode cX6_meet 5 = .ok (.getfield 10, 3) := by decide +kernel
theorem dX6_meet_8 : decode cX6_meet 8 = .ok (.invokevirtual 40, 3) := by decide +kernel
theorem dX6_meet_11 : decode cX6_meet 11 = .ok (.aload_n 0, 1) := by decide +kernel
theorem dX6_meet_12 : decode cX6_meet 12 = .ok (.aload_n 0, 1) := by decide +kernel
theorem dX6_meet_13 : decode cX6_meet 13 = .ok (.getfield 16, 3) := by decide +kernel
theorem dX6_meet_16 : decode cX6_meet 16 = .ok (.iload_n 1, 1) := by decide +kernel
theorem dX6_meet_17 : decode cX6_meet 17 = .ok (.aload_n 0, 1) := by decide +kernel
theorem dX6_meet_18 : decode cX6_meet 18 = .ok (.getfield 29, 3) := by decide +kernel
theorem dX6_meet_21 : decode cX6_meet 21 = .ok (.invokevirtual 71, 3) := by decide +kernel
theorem dX6_meet_24 : decode cX6_meet 24 = .ok (.invokevirtual 48, 3) := by decide +kernel
theorem dX6_meet_27 : decode cX6_meet 27 = .ok (.ireturn, 1) := by decide +kernel
set_option maxRecDepth 20000 in
theorem ggX6_pass_X3_copyFrom : GoodIn wsX6_pass wsX3_copyFrom := goodIn_r _ [7, 8, 9, 10, 11, 12, 13, 14, 15, 16, 17, 18, 19, 20, 21, 22, 23, 24, 25, 26, 27, 28, 29, 30, 31, 32, 33, 34, 35, 77, 78, 79, 80, 81, 82, 83, 84, 85, 86, 87, 88, 89, 90, 91, 92, 93, 94] (by decide +kernel) (by decide +kernel)
set_option maxRecDepth 20000 in
theorem gX6_pass_X3_copyFrom : GoodIn wsX6_pass (wsV RX6 40 RX3 yX3_copyFrom wsX3_copyFrom) := goodIn_app (goodIn_of _ (by decide +kernel)) ggX6_pass_X3_copyFrom
set_option maxRecDepth 20000 in
theorem ggX6_pass_X3_passMonths : GoodIn wsX6_pass wsX3_passMonths := goodIn_r _ [39, 40, 12, 41, 9, 15, 13, 11, 42, 43, 44, 45, 46, 47, 31, 48, 35, 33, 34, 77, 78, 79, 80, 81, 82, 83, 84, 85, 92, 93, 94] (by decide +kernel) (by decide +kernel)
set_option maxRecDepth 20000 in
theorem gX6_pass_X3_passMonths : GoodIn wsX6_pass (wsV RX6 75 RX3 yX3_passMonths wsX3_passMonths) := goodIn_app (goodIn_of _ (by decide +kernel)) ggX6_pass_X3_passMonths
set_option maxRecDepth 20000 in
theorem ggX6_pass_X6_accept : GoodIn wsX6_pass wsX6_accept := goodIn_r _ [52, 53, 2, 1, 54, 55, 43, 56, 57, 58, 59, 42, 44, 60, 61, 62, 63, 64, 65, 66, 67, 68, 69, 70, 71, 4, 5, 6, 7, 8, 9, 10, 11, 12, 13, 14, 15, 16, 17, 18, 19, 20, 21, 22, 23, 24, 25, 26, 27, 28, 29, 30, 31, 32, 33, 34, 35, 3, 72, 73, 74, 75, 76, 95, 96, 77, 78, 79, 80, 81, 82, 83, 84, 85, 86, 87, 88, 89, 90, 91, 92, 93, 94] (by decide +kernel) (by decide +kernel)
set_option maxRecDepth 20000 in
theorem gX6_pass_X6_accept : GoodIn wsX6_pass (wsV RX6 48 RX6 yX6_accept wsX6_accept) := goodIn_app (goodIn_of _ (by decide +kernel)) ggX6_pass_X6_accept
theorem dX6_pass_0 : decode cX6_pass 0 = .ok (.aload_n 0, 1) := by decide +kernel
theorem dX6_pass_1 : decode cX6_pass 1 = .ok (.getfield 16, 3) := by decide +kernel
theorem dX6_pass_4 : decode cX6_pass 4 = .ok (.aload_n 0, 1) := by decide +kernel
theorem dX6_pass_5 : decode cX6_pass 5 = .ok (.getfield 10, 3) := by decide +kernel
theorem dX6_pass_8 : decode cX6_pass 8 = .ok (.invokevirtual 40, 3) := by decide +kernel
theorem dX6_pass_11 : decode cX6_pass 11 = .ok (.aload_n 0, 1) := by decide +kernel
theorem dX6_pass_12 : decode cX6_pass 12 = .ok (.aload_n 0, 1) := by decide +kernel
theorem dX6_pass_13 : decode cX6_pass 13 = .ok (.getfield 16, 3) := by decide +kernel
theorem dX6_pass_16 : decode cX6_pass 16 = .ok (.iload_n 1, 1) := by decide +kernel
theorem dX6_pass_17 : decode cX6_pass 17 = .ok (.invokevirtual 75, 3) := by decide +kernel
theorem dX6_pass_20 : decode cX6_pass 20 = .ok (.invokevirtual 48, 3) := by decide +kernel
theorem dX6_pass_23 : decode cX6_pass 23 = .ok (.ireturn, 1) := by decide +kernel
set_option maxRecDepth 20000 in
theorem ggX6_set_X3_copyFrom : GoodIn wsX6_set wsX3_copyFrom := goodIn_r _ [7, 8, 9, 10, 11, 12, 13, 14, 15, 16, 17, 18, 19, 20, 21, 22, 23, 24, 25, 26, 27, 28, 29, 30, 31, 32, 33, 34, 35, 74, 75, 76, 77, 78, 79, 80, 81, 82, 83, 84, 85, 86, 87, 88, 89, 90, 91] (by decide +kernel) (by decide +kernel)
set_option maxRecDepth 20000 in
theorem gX6_set_X3_copyFrom : GoodIn wsX6_set (wsV RX6 40 RX3 yX3_copyFrom wsX3_copyFrom) := goodIn_app (goodIn_of _ (by decide +kernel)) ggX6_set_X3_copyFrom
set_option maxRecDepth 20000 in
theorem ggX6_set_X3_changeSetting : GoodIn wsX6_set wsX3_changeSetting := goodIn_r _ [39, 40, 9, 41, 42, 11, 43, 44, 45, 74, 75, 76, 77, 78, 79, 80, 81, 82, 89, 90, 91] (by decide +kernel) (by decide +kernel)
set_option maxRecDepth 20000 in
theorem gX6_set_X3_changeSetting : GoodIn wsX6_set (wsV RX6 78 RX3 yX3_changeSetting wsX3_changeSetting) := goodIn_app (goodIn_of _ (by decide +kernel)) ggX6_set_X3_changeSetting
set_option maxRecDepth 20000 in
theorem ggX6_set_X6_accept : GoodIn wsX6_set wsX6_accept := goodIn_r _ [49, 50, 2, 1, 51, 52, 44, 53, 54, 55, 56, 43, 45, 57, 58, 59, 60, 61, 62, 63, 64, 65, 66, 67, 68, 4, 5, 6, 7, 8, 9, 10, 11, 12, 13, 14, 15, 16, 17, 18, 19, 20, 21, 22, 23, 24, 25, 26, 27, 28, 29, 30, 31, 32, 33, 34, 35, 3, 69, 70, 71, 72, 73, 92, 93, 74, 75, 76, 77, 78, 79, 80, 81, 82, 83, 84, 85, 86, 87, 88, 89, 90, 91] (by decide +kernel) (by decide +kernel)
set_option maxRecDepth 20000 in
theorem gX6_set_X6_accept : GoodIn wsX6_set (wsV RX6 48 RX6 yX6_accept wsX6_accept) := goodIn_app (goodIn_of _ (by decide +kernel)) ggX6_set_X6_accept
theorem dX6_set_0 : decode cX6_set 0 = .ok (.aload_n 0, 1) := by decide +kernel
theorem dX6_set_1 : decode cX6_set 1 = .ok (.getfield 16, 3) := by decide +kernel
theorem dX6_set_4 : decode cX6_set 4 = .ok (.aload_n 0, 1) := by decide +kernel
theorem dX6_set_5 : decode cX6_set 5 = .ok (.getfield 10, 3) := by decide +kernel
theorem dX6_set_8 : decode cX6_set 8 = .ok (.invokevirtual 40, 3) := by decide +kernel
theorem dX6_set_11 : decode cX6_set 11 = .ok (.aload_n 0, 1) := by decide +kernel
theorem dX6_set_12 : decode cX6_set 12 = .ok (.aload_n 0, 1) := by decide +kernel
theorem dX6_set_13 : decode cX6_set 13 = .ok (.getfield 16, 3) := by decide +kernel
theorem dX6_set_16 : decode cX6_set 16 = .ok (.iload_n 1, 1) := by decide +kernel
theorem dX6_set_17 : decode cX6_set 17 = .ok (.iload_n 2, 1) := by decide +kernel
theorem dX6_set_18 : decode cX6_set 18 = .ok (.invokevirtual 78, 3) := by decide +kernel
theorem dX6_set_21 : decode cX6_set 21 = .ok (.invokevirtual 48, 3) := by decide +kernel
theorem dX6_set_24 : decode cX6_set 24 = .ok (.ireturn, 1) := by decide +kernel
set_option maxRecDepth 20000 in
theorem ggX6_lotOf_X4_rowOf : GoodIn wsX6_lotOf wsX4_rowOf := goodIn_r _ [8, 9, 10, 50, 51, 52, 53, 54, 55] (by decide +kernel) (by decide +kernel)
set_option maxRecDepth 20000 in
theorem gX6_lotOf_X4_rowOf : GoodIn wsX6_lotOf (wsV RX6 85 RX4 yX4_rowOf wsX4_rowOf) := goodIn_app (goodIn_of _ (by decide +kernel)) ggX6_lotOf_X4_rowOf
set_option maxRecDepth 20000 in
theorem ggX6_lotOf_X3_tellOfLot : GoodIn wsX6_lotOf wsX3_tellOfLot := goodIn_r _ [15, 16, 17, 18, 19, 20, 21, 22, 23, 24, 25, 7, 26, 27, 28, 29, 30, 31, 32, 33, 34, 35, 41, 42, 43, 44, 45, 46, 47, 48, 49, 50, 51, 52, 53, 54, 55] (by decide +kernel) (by decide +kernel)
set_option maxRecDepth 20000 in
theorem gX6_lotOf_X3_tellOfLot : GoodIn wsX6_lotOf (wsV RX6 91 RX3 yX3_tellOfLot wsX3_tellOfLot) := goodIn_app (goodIn_of _ (by decide +kernel)) ggX6_lotOf_X3_tellOfLot
theorem dX6_lotOf_0 : decode cX6_lotOf 0 = .ok (.aload_n 0, 1) := by decide +kernel
theorem dX6_lotOf_1 : decode cX6_lotOf 1 = .ok (.getfield 10, 3) := by decide +kernel
theorem dX6_lotOf_4 : decode cX6_lotOf 4 = .ok (.getfield 81, 3) := by decide +kernel
theorem dX6_lotOf_7 : decode cX6_lotOf 7 = .ok (.iload_n 1, 1) := by decide +kernel
theorem dX6_lotOf_8 : decode cX6_lotOf 8 = .ok (.invokevirtual 85, 3) := by decide +kernel
theorem dX6_lotOf_11 : decode cX6_lotOf 11 = .ok (.istore_n 3, 1) := by decide +kernel
theorem dX6_lotOf_12 : decode cX6_lotOf 12 = .ok (.iload_n 3, 1) := by decide +kernel
theorem dX6_lotOf_13 : decode cX6_lotOf 13 = .ok (.ifCond .ge 8, 3) := by decide +kernel
theorem dX6_lotOf_16 : decode cX6_lotOf 16 = .ok (.ldc 90, 2) := by decide +kernel
theorem dX6_lotOf_18 : decode cX6_lotOf 18 = .ok (.goto 12, 3) := by decide +kernel
theorem dX6_lotOf_21 : decode cX6_lotOf 21 = .ok (.aload_n 0, 1) := by decide +kernel
theorem dX6_lotOf_22 : decode cX6_lotOf 22 = .ok (.getfield 10, 3) := by decide +kernel
theorem dX6_lotOf_25 : decode cX6_lotOf 25 = .ok (.iload_n 3, 1) := by decide +kernel
theorem dX6_lotOf_26 : decode cX6_lotOf 26 = .ok (.iload_n 2, 1) := by decide +kernel
theorem dX6_lotOf_27 : decode cX6_lotOf 27 = .ok (.invokevirtual 91, 3) := by decide +kernel
theorem dX6_lotOf_30 : decode cX6_lotOf 30 = .ok (.ireturn, 1) := by decide +kernel
theorem dX6_numberOf_0 : decode cX6_numberOf 0 = .ok (.iload_n 1, 1) := by decide +kernel
theorem dX6_numberOf_1 : decode cX6_numberOf 1 = .ok (.ifCond .ge 6, 3) := by decide +kernel
theorem dX6_numberOf_4 : decode cX6_numberOf 4 = .ok (.ldc 90, 2) := by decide +kernel
theorem dX6_numberOf_6 : decode cX6_numberOf 6 = .ok (.ireturn, 1) := by decide +kernel
theorem dX6_numberOf_7 : decode cX6_numberOf 7 = .ok (.iload_n 1, 1) := by decide +kernel
theorem dX6_numberOf_8 : decode cX6_numberOf 8 = .ok (.aload_n 0, 1) := by decide +kernel
theorem dX6_numberOf_9 : decode cX6_numberOf 9 = .ok (.getfield 10, 3) := by decide +kernel
theorem dX6_numberOf_12 : decode cX6_numberOf 12 = .ok (.getfield 81, 3) := by decide +kernel
theorem dX6_numberOf_15 : decode cX6_numberOf 15 = .ok (.getfield 94, 3) := by decide +kernel
theorem dX6_numberOf_18 : decode cX6_numberOf 18 = .ok (.if_icmp .ge 18, 3) := by decide +kernel
theorem dX6_numberOf_21 : decode cX6_numberOf 21 = .ok (.aload_n 0, 1) := by decide +kernel
theorem dX6_numberOf_22 : decode cX6_numberOf 22 = .ok (.getfield 10, 3) := by decide +kernel
theorem dX6_numberOf_25 : decode cX6_numberOf 25 = .ok (.getfield 81, 3) := by decide +kernel
theorem dX6_numberOf_28 : decode cX6_numberOf 28 = .ok (.getfield 98, 3) := by decide +kernel
theorem dX6_numberOf_31 : decode cX6_numberOf 31 = .ok (.iload_n 1, 1) := by decide +kernel
theorem dX6_numberOf_32 : decode cX6_numberOf 32 = .ok (.iaload, 1) := by decide +kernel
theorem dX6_numberOf_33 : decode cX6_numberOf 33 = .ok (.goto 5, 3) := by decide +kernel
theorem dX6_numberOf_36 : decode cX6_numberOf 36 = .ok (.ldc 102, 2) := by decide +kernel
theorem dX6_numberOf_38 : decode cX6_numberOf 38 = .ok (.ireturn, 1) := by decide +kernel
set_option maxRecDepth 20000 in
theorem ggX6_contractOf_X0_isOpen : GoodIn wsX6_contractOf wsX0_isOpen := goodIn_r _ [11, 12, 27, 28, 29] (by decide +kernel) (by decide +kernel)
set_option maxRecDepth 20000 in
theorem gX6_contractOf_X0_isOpen : GoodIn wsX6_contractOf (wsV RX6 107 RX0 yX0_isOpen wsX0_isOpen) := goodIn_app (goodIn_of _ (by decide +kernel)) ggX6_contractOf_X0_isOpen
theorem dX6_contractOf_0 : decode cX6_contractOf 0 = .ok (.aload_n 0, 1) := by decide +kernel
theorem dX6_contractOf_1 : decode cX6_contractOf 1 = .ok (.getfield 10, 3) := by decide +kernel
theorem dX6_contractOf_4 : decode cX6_contractOf 4 = .ok (.getfield 103, 3) := by decide +kernel
theorem dX6_contractOf_7 : decode cX6_contractOf 7 = .ok (.iload_n 1, 1) := by decide +kernel
theorem dX6_contractOf_8 : decode cX6_contractOf 8 = .ok (.invokevirtual 107, 3) := by decide +kernel
theorem dX6_contractOf_11 : decode cX6_contractOf 11 = .ok (.ifCond .ne 6, 3) := by decide +kernel
theorem dX6_contractOf_14 : decode cX6_contractOf 14 = .ok (.ldc 90, 2) := by decide +kernel
theorem dX6_contractOf_16 : decode cX6_contractOf 16 = .ok (.ireturn, 1) := by decide +kernel
theorem dX6_contractOf_17 : decode cX6_contractOf 17 = .ok (.iload_n 2, 1) := by decide +kernel
theorem dX6_contractOf_18 : decode cX6_contractOf 18 = .ok (.tableswitch 73 0 2 #[26, 39, 52], 26) := by decide +kernel
theorem dX6_contractOf_44 : decode cX6_contractOf 44 = .ok (.aload_n 0, 1) := by decide +kernel
theorem dX6_contractOf_45 : decode cX6_contractOf 45 = .ok (.getfield 10, 3) := by decide +kernel
theorem dX6_contractOf_48 : decode cX6_contractOf 48 = .ok (.getfield 103, 3) := by decide +kernel
theorem dX6_contractOf_51 : decode cX6_contractOf 51 = .ok (.getfield 113, 3) := by decide +kernel
theorem dX6_contractOf_54 : decode cX6_contractOf 54 = .ok (.iload_n 1, 1) := by decide +kernel
theorem dX6_contractOf_55 : decode cX6_contractOf 55 = .ok (.iaload, 1) := by decide +kernel
theorem dX6_contractOf_56 : decode cX6_contractOf 56 = .ok (.ireturn, 1) := by decide +kernel
theorem dX6_contractOf_57 : decode cX6_contractOf 57 = .ok (.aload_n 0, 1) := by decide +kernel
theorem dX6_contractOf_58 : decode cX6_contractOf 58 = .ok (.getfield 10, 3) := by decide +kernel
theorem dX6_contractOf_61 : decode cX6_contractOf 61 = .ok (.getfield 103, 3) := by decide +kernel
theorem dX6_contractOf_64 : decode cX6_contractOf 64 = .ok (.getfield 116, 3) := by decide +kernel
theorem dX6_contractOf_67 : decode cX6_contractOf 67 = .ok (.iload_n 1, 1) := by decide +kernel
theorem dX6_contractOf_68 : decode cX6_contractOf 68 = .ok (.iaload, 1) := by decide +kernel
theorem dX6_contractOf_69 : decode cX6_contractOf 69 = .ok (.ireturn, 1) := by decide +kernel
theorem dX6_contractOf_70 : decode cX6_contractOf 70 = .ok (.aload_n 0, 1) := by decide +kernel
theorem dX6_contractOf_71 : decode cX6_contractOf 71 = .ok (.getfield 10, 3) := by decide +kernel
theorem dX6_contractOf_74 : decode cX6_contractOf 74 = .ok (.getfield 103, 3) := by decide +kernel
theorem dX6_contractOf_77 : decode cX6_contractOf 77 = .ok (.getfield 113, 3) := by decide +kernel
theorem dX6_contractOf_80 : decode cX6_contractOf 80 = .ok (.iload_n 1, 1) := by decide +kernel
theorem dX6_contractOf_81 : decode cX6_contractOf 81 = .ok (.iaload, 1) := by decide +kernel
theorem dX6_contractOf_82 : decode cX6_contractOf 82 = .ok (.aload_n 0, 1) := by decide +kernel
theorem dX6_contractOf_83 : decode cX6_contractOf 83 = .ok (.getfield 10, 3) := by decide +kernel
theorem dX6_contractOf_86 : decode cX6_contractOf 86 = .ok (.getfield 119, 3) := by decide +kernel
theorem dX6_contractOf_89 : decode cX6_contractOf 89 = .ok (.isub, 1) := by decide +kernel
theorem dX6_contractOf_90 : decode cX6_contractOf 90 = .ok (.ireturn, 1) := by decide +kernel
theorem dX6_contractOf_91 : decode cX6_contractOf 91 = .ok (.ldc 90, 2) := by decide +kernel
theorem dX6_contractOf_93 : decode cX6_contractOf 93 = .ok (.ireturn, 1) := by decide +kernel
set_option maxRecDepth 20000 in
theorem ggX6_count_X6_isWithin : GoodIn wsX6_count wsX6_isWithin := goodIn_r _ [10] (by decide +kernel) (by decide +kernel)
set_option maxRecDepth 20000 in
theorem gX6_count_X6_isWithin : GoodIn wsX6_count (va_wsS RX6 122 yX6_isWithin wsX6_isWithin) := goodIn_app (goodIn_of _ (by decide +kernel)) ggX6_count_X6_isWithin
set_option maxRecDepth 20000 in
theorem ggX6_count_X3_tellCount : GoodIn wsX6_count wsX3_tellCount := goodIn_r _ [15, 16, 17, 18, 19, 20, 21, 22, 23, 24, 25, 26, 27, 28, 29, 30, 31, 32, 33, 34, 35, 36, 37, 38, 39, 40, 41, 42, 43, 49, 50, 51, 52, 53, 54, 55, 56, 57, 68, 69, 70, 71, 72, 73, 74, 75, 76] (by decide +kernel) (by decide +kernel)
set_option maxRecDepth 20000 in
theorem gX6_count_X3_tellCount : GoodIn wsX6_count (wsV RX6 191 RX3 yX3_tellCount wsX3_tellCount) := goodIn_app (goodIn_of _ (by decide +kernel)) ggX6_count_X3_tellCount
theorem dX6_count_0 : decode cX6_count 0 = .ok (.iload_n 1, 1) := by decide +kernel
theorem dX6_count_1 : decode cX6_count 1 = .ok (.bipush 20, 2) := by decide +kernel
theorem dX6_count_3 : decode cX6_count 3 = .ok (.bipush 24, 2) := by decide +kernel
theorem dX6_count_5 : decode cX6_count 5 = .ok (.invokestatic 122, 3) := by decide +kernel
theorem dX6_count_8 : decode cX6_count 8 = .ok (.ifCond .eq 16, 3) := by decide +kernel
theorem dX6_count_11 : decode cX6_count 11 = .ok (.aload_n 0, 1) := by decide +kernel
theorem dX6_count_12 : decode cX6_count 12 = .ok (.getfield 10, 3) := by decide +kernel
theorem dX6_count_15 : decode cX6_count 15 = .ok (.getfield 172, 3) := by decide +kernel
theorem dX6_count_18 : decode cX6_count 18 = .ok (.iload_n 1, 1) := by decide +kernel
theorem dX6_count_19 : decode cX6_count 19 = .ok (.bipush 20, 2) := by decide +kernel
theorem dX6_count_21 : decode cX6_count 21 = .ok (.isub, 1) := by decide +kernel
theorem dX6_count_22 : decode cX6_count 22 = .ok (.iaload, 1) := by decide +kernel
theorem dX6_count_23 : decode cX6_count 23 = .ok (.ireturn, 1) := by decide +kernel
theorem dX6_count_24 : decode cX6_count 24 = .ok (.iload_n 1, 1) := by decide +kernel
theorem dX6_count_25 : decode cX6_count 25 = .ok (.lookupswitch 43 #[(10, 27), (11, 35)], 27) := by decide +kernel
theorem dX6_count_52 : decode cX6_count 52 = .ok (.aload_n 0, 1) := by decide +kernel
theorem dX6_count_53 : decode cX6_count 53 = .ok (.getfield 22, 3) := by decide +kernel
theorem dX6_count_56 : decode cX6_count 56 = .ok (.getfield 185, 3) := by decide +kernel
theorem dX6_count_59 : decode cX6_count 59 = .ok (.ireturn, 1) := by decide +kernel
theorem dX6_count_60 : decode cX6_count 60 = .ok (.aload_n 0, 1) := by decide +kernel
theorem dX6_count_61 : decode cX6_count 61 = .ok (.getfield 36, 3) := by decide +kernel
theorem dX6_count_64 : decode cX6_count 64 = .ok (.getfield 188, 3) := by decide +kernel
theorem dX6_count_67 : decode cX6_count 67 = .ok (.ireturn, 1) := by decide +kernel
theorem dX6_count_68 : decode cX6_count 68 = .ok (.aload_n 0, 1) := by decide +kernel
theorem dX6_count_69 : decode cX6_count 69 = .ok (.getfield 10, 3) := by decide +kernel
theorem dX6_count_72 : decode cX6_count 72 = .ok (.iload_n 1, 1) := by decide +kernel
theorem dX6_count_73 : decode cX6_count 73 = .ok (.invokevirtual 191, 3) := by decide +kernel
theorem dX6_count_76 : decode cX6_count 76 = .ok (.ireturn, 1) := by decide +kernel
set_option maxRecDepth 20000 in
theorem ggX6_accept_X6_isError : GoodIn wsX6_accept wsX6_isError := goodIn_r _ [7, 8, 9, 10, 11, 6, 12] (by decide +kernel) (by decide +kernel)
set_option maxRecDepth 20000 in
theorem gX6_accept_X6_isError : GoodIn wsX6_accept (va_wsS RX6 217 yX6_isError wsX6_isError) := goodIn_app (goodIn_of _ (by decide +kernel)) ggX6_accept_X6_isError
set_option maxRecDepth 20000 in
theorem ggX6_accept_X2_record : GoodIn wsX6_accept wsX2_record := goodIn_r _ [17, 18, 19, 20, 21, 22, 16, 23, 24, 25, 26, 27, 28, 29, 30, 31, 32, 33, 34, 35, 36, 37, 38, 39, 40, 41, 42, 43, 44, 45, 46, 47, 48, 49, 50, 51, 52, 53, 54, 55, 56, 63, 64, 65, 66, 67, 68, 69, 70, 71, 72, 73, 74, 75, 76, 77, 78, 79, 80, 81, 82] (by decide +kernel) (by decide +kernel)
set_option maxRecDepth 20000 in
theorem gX6_accept_X2_record : GoodIn wsX6_accept (wsV RX6 220 RX2 yX2_record wsX2_record) := goodIn_app (goodIn_of _ (by decide +kernel)) ggX6_accept_X2_record
set_option maxRecDepth 20000 in
theorem ggX6_accept_X3_copyFrom : GoodIn wsX6_accept wsX3_copyFrom := goodIn_r _ [28, 29, 30, 31, 32, 33, 34, 35, 36, 37, 38, 39, 40, 41, 42, 43, 44, 45, 46, 47, 48, 49, 50, 51, 52, 53, 54, 55, 56, 65, 66, 67, 68, 69, 70, 71, 72, 73, 74, 75, 76, 77, 78, 79, 80, 81, 82] (by decide +kernel) (by decide +kernel)
set_option maxRecDepth 20000 in
theorem gX6_accept_X3_copyFrom : GoodIn wsX6_accept (wsV RX6 40 RX3 yX3_copyFrom wsX3_copyFrom) := goodIn_app (goodIn_of _ (by decide +kernel)) ggX6_accept_X3_copyFrom
theorem dX6_accept_0 : decode cX6_accept 0 = .ok (.iload_n 1, 1) := by decide +kernel
theorem dX6_accept_1 : decode cX6_accept 1 = .ok (.invokestatic 217, 3) := by decide +kernel
theorem dX6_accept_4 : decode cX6_accept 4 = .ok (.ifCond .ne 25, 3) := by decide +kernel
theorem dX6_accept_7 : decode cX6_accept 7 = .ok (.aload_n 0, 1) := by decide +kernel
theorem dX6_accept_8 : decode cX6_accept 8 = .ok (.getfield 22, 3) := by decide +kernel
theorem dX6_accept_11 : decode cX6_accept 11 = .ok (.aload_n 0, 1) := by decide +kernel
theorem dX6_accept_12 : decode cX6_accept 12 = .ok (.getfield 10, 3) := by decide +kernel
theorem dX6_accept_15 : decode cX6_accept 15 = .ok (.invokevirtual 220, 3) := by decide +kernel
theorem dX6_accept_18 : decode cX6_accept 18 = .ok (.aload_n 0, 1) := by decide +kernel
theorem dX6_accept_19 : decode cX6_accept 19 = .ok (.getfield 10, 3) := by decide +kernel
theorem dX6_accept_22 : decode cX6_accept 22 = .ok (.aload_n 0, 1) := by decide +kernel
theorem dX6_accept_23 : decode cX6_accept 23 = .ok (.getfield 16, 3) := by decide +kernel
theorem dX6_accept_26 : decode cX6_accept 26 = .ok (.invokevirtual 40, 3) := by decide +kernel
theorem dX6_accept_29 : decode cX6_accept 29 = .ok (.iload_n 1, 1) := by decide +kernel
theorem dX6_accept_30 : decode cX6_accept 30 = .ok (.ireturn, 1) := by decide +kernel
theorem dX6_isWithin_0 : decode cX6_isWithin 0 = .ok (.iload_n 0, 1) := by decide +kernel
theorem dX6_isWithin_1 : decode cX6_isWithin 1 = .ok (.iload_n 1, 1) := by decide +kernel
theorem dX6_isWithin_2 : decode cX6_isWithin 2 = .ok (.if_icmp .lt 12, 3) := by decide +kernel
theorem dX6_isWithin_5 : decode cX6_isWithin 5 = .ok (.iload_n 0, 1) := by decide +kernel
theorem dX6_isWithin_6 : decode cX6_isWithin 6 = .ok (.iload_n 2, 1) := by decide +kernel
theorem dX6_isWithin_7 : decode cX6_isWithin 7 = .ok (.if_icmp .gt 7, 3) := by decide +kernel
theorem dX6_isWithin_10 : decode cX6_isWithin 10 = .ok (.iconst 1, 1) := by decide +kernel
theorem dX6_isWithin_11 : decode cX6_isWithin 11 = .ok (.goto 4, 3) := by decide +kernel
theorem dX6_isWithin_14 : decode cX6_isWithin 14 = .ok (.iconst 0, 1) := by decide +kernel
theorem dX6_isWithin_15 : decode cX6_isWithin 15 = .ok (.ireturn, 1) := by decide +kernel
set_option maxRecDepth 20000 in
theorem ggX6_isError_X6_isWithin : GoodIn wsX6_isError wsX6_isWithin := goodIn_r _ [6] (by decide +kernel) (by decide +kernel)
set_option maxRecDepth 20000 in
theorem gX6_isError_X6_isWithin : GoodIn wsX6_isError (va_wsS RX6 122 yX6_isWithin wsX6_isWithin) := goodIn_app (goodIn_of _ (by decide +kernel)) ggX6_isError_X6_isWithin
theorem dX6_isError_0 : decode cX6_isError 0 = .ok (.iload_n 0, 1) := by decide +kernel
theorem dX6_isError_1 : decode cX6_isError 1 = .ok (.ldc 102, 2) := by decide +kernel
theorem dX6_isError_3 : decode cX6_isError 3 = .ok (.ldc 90, 2) := by decide +kernel
theorem dX6_isError_5 : decode cX6_isError 5 = .ok (.invokestatic 122, 3) := by decide +kernel
theorem dX6_isError_8 : decode cX6_isError 8 = .ok (.ireturn, 1) := by decide +kernel
theorem dX6_bandOf_0 : decode cX6_bandOf 0 = .ok (.iload_n 0, 1) := by decide +kernel
theorem dX6_bandOf_1 : decode cX6_bandOf 1 = .ok (.bipush 70, 2) := by decide +kernel
theorem dX6_bandOf_3 : decode cX6_bandOf 3 = .ok (.if_icmp .ge 5, 3) := by decide +kernel
theorem dX6_bandOf_6 : decode cX6_bandOf 6 = .ok (.iconst 0, 1) := by decide +kernel
theorem dX6_bandOf_7 : decode cX6_bandOf 7 = .ok (.ireturn, 1) := by decide +kernel
theorem dX6_bandOf_8 : decode cX6_bandOf 8 = .ok (.iload_n 0, 1) := by decide +kernel
theorem dX6_bandOf_9 : decode cX6_bandOf 9 = .ok (.bipush 80, 2) := by decide +kernel
theorem dX6_bandOf_11 : decode cX6_bandOf 11 = .ok (.if_icmp .ge 5, 3) := by decide +kernel
theorem dX6_bandOf_14 : decode cX6_bandOf 14 = .ok (.iconst 1, 1) := by decide +kernel
theorem dX6_bandOf_15 : decode cX6_bandOf 15 = .ok (.ireturn, 1) := by decide +kernel
theorem dX6_bandOf_16 : decode cX6_bandOf 16 = .ok (.iload_n 0, 1) := by decide +kernel
theorem dX6_bandOf_17 : decode cX6_bandOf 17 = .ok (.bipush 90, 2) := by decide +kernel
theorem dX6_bandOf_19 : decode cX6_bandOf 19 = .ok (.if_icmp .ge 7, 3) := by decide +kernel
theorem dX6_bandOf_22 : decode cX6_bandOf 22 = .ok (.iconst 2, 1) := by decide +kernel
theorem dX6_bandOf_23 : decode cX6_bandOf 23 = .ok (.goto 4, 3) := by decide +kernel
theorem dX6_bandOf_26 : decode cX6_bandOf 26 = .ok (.iconst 3, 1) := by decide +kernel
theorem dX6_bandOf_27 : decode cX6_bandOf 27 = .ok (.ireturn, 1) := by decide +kernel
end
section
theorem dJ9_floorMod_7cf53_0 : decode cJ9_floorMod_7cf53 0 = .ok (.iload_n 0, 1) := by decide +kernel
theorem dJ9_floorMod_7cf53_1 : decode cJ9_floorMod_7cf53 1 = .ok (.iload_n 1, 1) := by decide +kernel
theorem dJ9_floorMod_7cf53_2 : decode cJ9_floorMod_7cf53 2 = .ok (.irem, 1) := by decide +kernel
theorem dJ9_floorMod_7cf53_3 : decode cJ9_floorMod_7cf53 3 = .ok (.istore_n 2, 1) := by decide +kernel
theorem dJ9_floorMod_7cf53_4 : decode cJ9_floorMod_7cf53 4 = .ok (.iload_n 0, 1) := by decide +kernel
theorem dJ9_floorMod_7cf53_5 : decode cJ9_floorMod_7cf53 5 = .ok (.iload_n 1, 1) := by decide +kernel
theorem dJ9_floorMod_7cf53_6 : decode cJ9_floorMod_7cf53 6 = .ok (.ixor, 1) := by decide +kernel
theorem dJ9_floorMod_7cf53_7 : decode cJ9_floorMod_7cf53 7 = .ok (.ifCond .ge 11, 3) := by decide +kernel
theorem dJ9_floorMod_7cf53_10 : decode cJ9_floorMod_7cf53 10 = .ok (.iload_n 2, 1) := by decide +kernel
theorem dJ9_floorMod_7cf53_11 : decode cJ9_floorMod_7cf53 11 = .ok (.ifCond .eq 7, 3) := by decide +kernel
theorem dJ9_floorMod_7cf53_14 : decode cJ9_floorMod_7cf53 14 = .ok (.iload_n 2, 1) := by decide +kernel
theorem dJ9_floorMod_7cf53_15 : decode cJ9_floorMod_7cf53 15 = .ok (.iload_n 1, 1) := by decide +kernel
theorem dJ9_floorMod_7cf53_16 : decode cJ9_floorMod_7cf53 16 = .ok (.iadd, 1) := by decide +kernel
theorem dJ9_floorMod_7cf53_17 : decode cJ9_floorMod_7cf53 17 = .ok (.ireturn, 1) := by decide +kernel
theorem dJ9_floorMod_7cf53_18 : decode cJ9_floorMod_7cf53 18 = .ok (.iload_n 2, 1) := by decide +kernel
theorem dJ9_floorMod_7cf53_19 : decode cJ9_floorMod_7cf53 19 = .ok (.ireturn, 1) := by decide +kernel
theorem dJ9_min_7cf53_0 : decode cJ9_min_7cf53 0 = .ok (.iload_n 0, 1) := by decide +kernel
theorem dJ9_min_7cf53_1 : decode cJ9_min_7cf53 1 = .ok (.iload_n 1, 1) := by decide +kernel
theorem dJ9_min_7cf53_2 : decode cJ9_min_7cf53 2 = .ok (.if_icmp .gt 7, 3) := by decide +kernel
theorem dJ9_min_7cf53_5 : decode cJ9_min_7cf53 5 = .ok (.iload_n 0, 1) := by decide +kernel
theorem dJ9_min_7cf53_6 : decode cJ9_min_7cf53 6 = .ok (.goto 4, 3) := by decide +kernel
theorem dJ9_min_7cf53_9 : decode cJ9_min_7cf53 9 = .ok (.iload_n 1, 1) := by decide +kernel
theorem dJ9_min_7cf53_10 : decode cJ9_min_7cf53 10 = .ok (.ireturn, 1) := by decide +kernel
end
section
/-! ===== the state of an object: component (the field's slot), index, int; worlds of the claim's objects ===== -/
abbrev cr_V : Type := Nat → Nat → Int32
def cr_c (v : cr_V) (c : Nat) (f : Nat → Int32) : cr_V := fun k => cond (Nat.beq k c) f (v k)
abbrev cr_i (v : cr_V) (c : Nat) (x : Int32) : cr_V := cr_c v c (fun _ => x)
abbrev cr_a (v : cr_V) (c : Nat) (k : Nat) (x : Int32) : cr_V := cr_c v c (upd (v c) k x)
/-- an index's number, under a name that nothing unfolds -/
theorem cr_xE : ∃ f : Int32 → Nat, ∀ i, f i = i.toNatClampNeg := ⟨_, fun _ => rfl⟩
noncomputable def cr_x : Int32 → Nat := Classical.choose cr_xE
theorem cr_xe (i : Int32) : i.toNatClampNeg = cr_x i := (Classical.choose_spec cr_xE i).symm
def cr_in (i : Int32) (n : Nat) : Bool := decide (¬ (i < 0 ∨ n ≤ i.toNatClampNeg))
theorem cr_in_of {i : Int32} {n : Nat} (h : cr_in i n = true) : vp_in i n := of_decide_eq_true (p := ¬ (i < 0 ∨ n ≤ i.toNatClampNeg)) h
abbrev cr_TY (ct : Nat → ClassId) : List (ClassId × FieldType) := [(ct 0, .int), (ct 1, .boolean), (ct 2, .char), (ct 3, .object "CupReceipts$House")]
abbrev cr_wK (ct : Nat → ClassId) (a : Nat → Nat) (v : cr_V) : va_W := [(a 0, .inr (0, [.ref (a 1), .ref (a 2), .int (v 2 0)])), (a 1, .inl (ct 0, 6, .inl (v 0))), (a 2, .inl (ct 0, 6, .inl (v 1)))]
abbrev cr_wL (ct : Nat → ClassId) (a : Nat → Nat) (v : cr_V) : va_W := [(a 0, .inr (4, [.ref (a 1), .ref (a 2), .ref (a 3), .ref (a 4), .int (v 4 0), .int (v 5 0)])), (a 1, .inl (ct 0, 12, .inl (v 0))), (a 2, .inl (ct 0, 12, .inl (v 1))), (a 3, .inl (ct 0, 12, .inl (v 2))), (a 4, .inl (ct 0, 12, .inl (v 3)))]
abbrev cr_wH (ct : Nat → ClassId) (a aL aK : Nat → Nat) (v vL vK : cr_V) : va_W := [(a 0, .inr (3, [.ref (aL 0), .ref (aK 0), .ref (a 3), .ref (a 4), .int (v 4 0), .int (v 5 0), .int (v 6 0), .int (v 7 0), .int (v 8 0)])), (a 3, .inl (ct 0, 4, .inl (v 2))), (a 4, .inl (ct 0, 5, .inl (v 3)))] ++ (cr_wL ct aL vL ++ cr_wK ct aK vK)
abbrev cr_wD (ct : Nat → ClassId) (a : Nat → Nat) (v : cr_V) : va_W := [(a 0, .inr (1, [.ref (a 1), .ref (a 2), .int (v 2 0), .int (v 3 0), .int (v 4 0), .int (v 5 0), .int (v 6 0), .int (v 7 0), .ref (a 9), .ref (a 10), .ref (a 11), .ref (a 12)])), (a 1, .inl (ct 0, 12, .inl (v 0))), (a 2, .inl (ct 0, 12, .inl (v 1))), (a 9, .inl (ct 1, 12, .inl (v 8))), (a 10, .inl (ct 0, 12, .inl (v 9))), (a 11, .inl (ct 0, 12, .inl (v 10))), (a 12, .inl (ct 0, 12, .inl (v 11)))]
abbrev cr_wO (ct : Nat → ClassId) (a : Nat → Nat) (v : cr_V) : va_W := [(a 0, .inr (5, [.ref (a 1), .int (v 1 0), .int (v 2 0), .int (v 3 0), .int (v 4 0), .int (v 5 0), .int (v 6 0), .ref (a 8)])), (a 1, .inl (ct 2, 60, .inl (v 0))), (a 8, .inl (ct 0, 4, .inl (v 7)))]
abbrev cr_wR (ct : Nat → ClassId) (a : Nat → Nat) (v : cr_V) (r : Nat → Nat → Nat → Nat) (x : Nat → Nat → cr_V) : va_W := [(a 0, .inr (2, [.ref (a 1), .int (v 1 0)])), (a 1, .inl (ct 3, 4, .inr (.inr (.inr (.inr (fun j => some (r j 0 0)))))))] ++ (cr_wH ct (r 0 0) (r 0 1) (r 0 2) (x 0 0) (x 0 1) (x 0 2) ++ (cr_wH ct (r 1 0) (r 1 1) (r 1 2) (x 1 0) (x 1 1) (x 1 2) ++ (cr_wH ct (r 2 0) (r 2 1) (r 2 2) (x 2 0) (x 2 1) (x 2 2) ++ cr_wH ct (r 3 0) (r 3 1) (r 3 2) (x 3 0) (x 3 1) (x 3 2))))
abbrev cr_wX (ct : Nat → ClassId) (a : Nat → Nat → Nat) (r : Nat → Nat → Nat → Nat) (h hl hk t tl tk hs : cr_V) (x : Nat → Nat → cr_V) (d o : cr_V) : va_W := (a 0 0, .inr (6, [.ref (a 1 0), .ref (a 4 0), .ref (a 7 0), .ref (a 8 0), .ref (a 9 0)])) :: (cr_wH ct (a 1) (a 2) (a 3) h hl hk ++ (cr_wH ct (a 4) (a 5) (a 6) t tl tk ++ (cr_wR ct (a 7) hs r x ++ (cr_wD ct (a 8) d ++ cr_wO ct (a 9) o))))
abbrev cr_wA (ct : Nat → ClassId) (a : Nat → Nat) (v : cr_V) : va_W := [(a 0, .inl (ct 0, 81, .inl (v 0)))]
abbrev cr_wM (ct : Nat → ClassId) (a : Nat → Nat) (v : cr_V) : va_W := [(a 0, .inr (7, [.ref (a 1), .ref (a 2), .ref (a 3), .int (v 3 0), .int (v 4 0), .ref (a 6), .int (v 6 0), .ref (a 8), .ref (a 9), .int (v 9 0), .int (v 10 0), .int (v 11 0), .int (v 12 0), .int (v 13 0), .int (v 14 0), .int (v 15 0), .int (v 16 0), .ref (a 18)])), (a 1, .inl (ct 0, 81, .inl (v 0))), (a 2, .inl (ct 0, 324, .inl (v 1))), (a 3, .inl (ct 0, 81, .inl (v 2))), (a 6, .inl (ct 0, 60, .inl (v 5))), (a 8, .inl (ct 0, 12, .inl (v 7))), (a 9, .inl (ct 0, 12, .inl (v 8))), (a 18, .inl (ct 0, 4, .inl (v 17)))]
/-- the private methods of the outer class that nested classes call -/
def cr_NW (U : State) : Prop := va_Nw (.methodLinkNest RX1 91 yX6_bandOf "CupReceipts") U ∧ va_Nw (.methodLinkNest RX3 154 yX6_bandOf "CupReceipts") U ∧ va_Nw (.methodLinkNest RX3 66 yX6_isWithin "CupReceipts") U ∧ True
theorem cr_NW.warm {s U : State} (hW : s.WarmedH U.vm) (h : cr_NW s) : cr_NW U := ⟨va_Nw.warmM hW h.1, va_Nw.warmM hW h.2.1, va_Nw.warmM hW h.2.2.1, trivial⟩
theorem cr_NW.same {u U : State} (e : u.vm = U.vm) (h : cr_NW u) : cr_NW U := ⟨va_Nw.same rfl e h.1, va_Nw.same rfl e h.2.1, va_Nw.same rfl e h.2.2.1, trivial⟩
/-- what holds in a method's body all along -/
def cr_Cx (p : Program) (s : State) (m : MethodId) (meth : Method) (c : Code) (args : Array Value) (own : String) (Ts : List Cond) (cc : ByteArray) (nL : Nat) (ret : Option FieldType) (D : va_G) (ct : Nat → ClassId) : Prop :=
  p.tables.exec = Jvm.exec ∧ c.code = cc ∧ c.maxLocals = nL ∧ s.vm.findClass own = some m.cls ∧ (∀ w ∈ Ts, w.before args s = true) ∧ meth.sig.returnType = ret ∧ meth.locks = false ∧ va_K D vwCl (cr_TY ct) s ∧ cr_NW s
/-- a world at a heap, and what of it was written since the start -/
def cr_wd (D : va_G) (A : Nat → Prop) (s : State) (ws : va_W) (H : Heap) (locs : List Loc) : Prop := va_P D vwCl ws H ∧ va_D A ws ∧ va_S A s.heap H locs ∧ ∀ q : Nat, s.heap.size ≤ q → A q
abbrev cr_no : Nat → Prop := fun _ => False
/-- a contract's start: a method that only reads, one that writes -/
abbrev cr_pR (D : va_G) (ct : Nat → ClassId) (wc : va_W) (av : List Value) : Array Value → State → Prop := va_Pc av (fun U => va_P D vwCl wc U.heap ∧ va_K D vwCl (cr_TY ct) U ∧ cr_NW U)
abbrev cr_pW (D : va_G) (ct : Nat → ClassId) (wc : va_W) (sz : Nat) (av : List Value) : Array Value → State → Prop := va_Pc av (fun U => U.heap.size = sz ∧ va_P D vwCl wc U.heap ∧ va_K D vwCl (cr_TY ct) U ∧ va_D (fun _ => True) wc ∧ cr_NW U)
abbrev cr_at (D : va_G) (A : Nat → Prop) (ws : va_W) (t : State) : Prop := va_P D vwCl ws t.heap ∧ va_D A ws
abbrev cr_QR (post : Int32 → Prop) : Array Value → State → Outcome → State → Prop := va_Qi (fun r (_ : Unit) => post r) (fun _ _ => True) cr_no
abbrev cr_QW {S : Type} (D : va_G) (wc : va_W) (sz : Nat) (post : Int32 → S → Prop) (w : S → va_W) : Array Value → State → Outcome → State → Prop := va_Qi post (fun u t => cr_at D (va_A wc sz) (w u) t) (va_A wc sz)
abbrev cr_QV {S : Type} (D : va_G) (wc : va_W) (sz : Nat) (post : S → Prop) (w : S → va_W) : Array Value → State → Outcome → State → Prop := va_Qv post (fun u t => cr_at D (va_A wc sz) (w u) t) (va_A wc sz)
theorem cr_metR {l : Launch} {y : MethodName} {ws ws' : List Cond} {rm : Room} {cc : ByteArray} {maxL : Nat} {ret : Option FieldType} {own : String} {D : va_G} {ct : Nat → ClassId} {wc : va_W} {av : List Value} {Qc : Array Value → State → Outcome → State → Prop}
    (hy : plainName y.cls = true) (hw : ws = Cond.code y cc maxL ret :: ws') (ho : y.cls = own) (hn : (lg_sl av).length ≤ maxL)
    (body : ∀ (p : Program) (e : Env) (s : State) (m : MethodId) (args : Array Value) (below : List Frame) (meth : Method) (c : Code) (ls : Array Slot), cr_Cx p s m meth c args own ws cc maxL ret D ct → va_P D vwCl wc s.heap → va_S cr_no s.heap s.heap [] → lv_has ls maxL (lv_args 0 av) →
      W p l e rm s m args below meth c s.heap [] 0 0 (MQ below Qc args s 0 0 cr_no) (F0 m 0 ls [])) : Met l y ws rm (cr_pR D ct wc av) Qc 0 0 cr_no := by
  refine Met.ofW (cc := cc) (maxL := maxL) (ret := ret) hy hw ?_
  intro p e s m args below meth c s₁ B hml hv
  obtain ⟨rfl, hP, hK, hN⟩ := hv
  subst ho
  have hl := lv_entry av (n := maxL) hn
  rw [lg_entry_eq]
  exact body p e s m _ below meth c _ ⟨B.exec, B.bytes, hml, findClass_of_methodNamed B.named, atoms_spec (ws := ws) B.pre, B.returns, B.notSynchronized, hK, hN⟩ hP va_S.rf hl
theorem cr_metW {l : Launch} {y : MethodName} {ws ws' : List Cond} {rm : Room} {cc : ByteArray} {maxL : Nat} {ret : Option FieldType} {own : String} {D : va_G} {ct : Nat → ClassId} {wc : va_W} {sz : Nat} {av : List Value} {Qc : (Nat → Prop) → Array Value → State → Outcome → State → Prop}
    (hy : plainName y.cls = true) (hw : ws = Cond.code y cc maxL ret :: ws') (ho : y.cls = own) (hn : (lg_sl av).length ≤ maxL)
    (body : ∀ (p : Program) (e : Env) (s : State) (m : MethodId) (args : Array Value) (below : List Frame) (meth : Method) (c : Code) (ls : Array Slot) (A : Nat → Prop), cr_Cx p s m meth c args own ws cc maxL ret D ct → cr_wd D A s wc s.heap [] → lv_has ls maxL (lv_args 0 av) →
      W p l e rm s m args below meth c s.heap [] 0 0 (MQ below (Qc A) args s 0 0 A) (F0 m 0 ls [])) : Met l y ws rm (cr_pW D ct wc sz av) (Qc (va_A wc sz)) 0 0 (va_A wc sz) := by
  refine Met.ofW (cc := cc) (maxL := maxL) (ret := ret) hy hw ?_
  intro p e s m args below meth c s₁ B hml hv
  obtain ⟨rfl, hsz, hP, hK, hD0, hN⟩ := hv
  subst ho; subst hsz
  have hl := lv_entry av (n := maxL) hn
  rw [lg_entry_eq]
  exact body p e s m _ below meth c _ _ ⟨B.exec, B.bytes, hml, findClass_of_methodNamed B.named, atoms_spec (ws := ws) B.pre, B.returns, B.notSynchronized, hK, hN⟩ ⟨hP, hD0.self, va_S.rf, fun q h => Or.inr h⟩ hl
section CR
variable {p : Program} {l : Launch} {e : Env} {R : Room} {s : State} {m : MethodId} {args : Array Value} {below : List Frame} {meth : Method} {c : Code} {H : Heap} {locs : List Loc} {cells slots : Nat} {Q : State → Prop}
variable {own : String} {Ts : List Cond} {cc : ByteArray} {nL : Nat} {ret : Option FieldType} {D : va_G} {ct : Nat → ClassId} {A : Nat → Prop} {ws : va_W} {pc : Nat} {ls : Array Slot} {rest : List Value} {a : Nat}
theorem cr_get (C : cr_Cx p s m meth c args own Ts cc nL ret D ct) (hP : va_P D vwCl ws H) (q0 : Nat) {ci : Nat} {fs : List Value} (he : ws[q0]? = some (a, .inr (ci, fs))) {Cn : String} {T : u_T} {N : Nat} (hc : vwCl[ci]? = some (Cn, T, N)) (k : Nat) (hk : k < N) (hin : ∀ w ∈ u_ws Cn T N, w ∈ Ts) {index : Nat}
    (hlink : Cond.fieldLink own index (T k).1 (T k).2.1 (T k).2.2.1 ∈ Ts) {v : Value} (hv : fs[k]? = some v) (hdg : decode cc pc = .ok (.getfield index, 3))
    (kk : W p l e R s m args below meth c H locs cells slots Q (F0 m (pc + 3) ls (v :: rest))) : W p l e R s m args below meth c H locs cells slots Q (F0 m pc ls (.ref a :: rest)) := by
  obtain ⟨hx, hb, -, hown, hts, -, -, hK, -⟩ := C
  exact va_get hx hb hts hin hown hK hP q0 he hc k hk (hts _ hlink) (fun _ h9 => h9) hv hdg kk
theorem cr_put (C : cr_Cx p s m meth c args own Ts cc nL ret D ct) (hW : cr_wd D A s ws H locs) (q0 : Nat) {ci : Nat} {fs : List Value} (he : ws[q0]? = some (a, .inr (ci, fs))) {Cn : String} {T : u_T} {N : Nat} (hc : vwCl[ci]? = some (Cn, T, N)) (ty0 : Nat → FieldType) (hty : ∀ k, k < N → parseFieldDescriptor (T k).2.2.1 = some (ty0 k)) (hnm : ∀ a, a < N → ∀ b, b < N → a ≠ b → (T a).2.1 ≠ (T b).2.1)
    (k : Nat) (hk : k < N) (hin : ∀ w ∈ u_ws Cn T N, w ∈ Ts) {index : Nat} (hlink : Cond.fieldLink own index (T k).1 (T k).2.1 (T k).2.2.1 ∈ Ts) (hfin : (T k).2.2.2 = false) {ty : FieldType} (hd : ty0 k = ty) {x : Int32} (hn : narrow ty (.int x) = .int x) (hfit : fits ty (.int x) = true) (hl : k < fs.length) {w' : va_W} (hw : ws.set q0 (a, .inr (ci, fs.set k (.int x))) = w') (hdg : decode cc pc = .ok (.putfield index, 3))
    (kk : ∀ (H1 : Heap) (locs1 : List Loc), cr_wd D A s w' H1 locs1 → W p l e R s m args below meth c H1 locs1 cells slots Q (F0 m (pc + 3) ls rest)) : W p l e R s m args below meth c H locs cells slots Q (F0 m pc ls (.int x :: .ref a :: rest)) := by
  obtain ⟨hx, hb, -, hown, hts, -, -, hK, -⟩ := C
  obtain ⟨hP, hD, hS, hA⟩ := hW
  subst hw
  exact va_put hx hb hts hin ty0 hty hnm hown hK hP hD hS q0 he hc k hk (hts _ hlink) (fun _ h9 => h9) hfin (by rw [hty k hk, hd]) hn hfit hl hdg (fun H1 locs1 h1 h2 h3 => kk H1 locs1 ⟨h1, h2, h3, hA⟩)
theorem cr_ald (C : cr_Cx p s m meth c args own Ts cc nL ret D ct) (hP : va_P D vwCl ws H) (q0 : Nat) {n : Nat} {f : Nat → Int32} (ha : ws[q0]? = some (a, .inl (ct 0, n, .inl f))) {i : Int32} {k : Nat} (hin : cr_in i n = true) (hk : i.toNatClampNeg = k) (hdg : decode cc pc = .ok (.iaload, 1))
    (kk : W p l e R s m args below meth c H locs cells slots Q (F0 m (pc + 1) ls (.int (f k) :: rest))) : W p l e R s m args below meth c H locs cells slots Q (F0 m pc ls (.int i :: .ref a :: rest)) := by
  subst hk
  exact va_iald C.1 C.2.1 C.2.2.2.2.2.2.2.1 hP q0 0 ha rfl (cr_in_of hin) hdg kk
theorem cr_zald (C : cr_Cx p s m meth c args own Ts cc nL ret D ct) (hP : va_P D vwCl ws H) (q0 : Nat) {n : Nat} {f : Nat → Int32} (ha : ws[q0]? = some (a, .inl (ct 1, n, .inl f))) {i : Int32} {k : Nat} (hin : cr_in i n = true) (hk : i.toNatClampNeg = k) (hdg : decode cc pc = .ok (.baload, 1))
    (kk : W p l e R s m args below meth c H locs cells slots Q (F0 m (pc + 1) ls (.int (f k) :: rest))) : W p l e R s m args below meth c H locs cells slots Q (F0 m pc ls (.int i :: .ref a :: rest)) := by
  subst hk
  exact va_zald C.1 C.2.1 C.2.2.2.2.2.2.2.1 hP q0 1 ha rfl (cr_in_of hin) hdg kk
theorem cr_cald (C : cr_Cx p s m meth c args own Ts cc nL ret D ct) (hP : va_P D vwCl ws H) (q0 : Nat) {n : Nat} {f : Nat → Int32} (ha : ws[q0]? = some (a, .inl (ct 2, n, .inl f))) {i : Int32} {k : Nat} (hin : cr_in i n = true) (hk : i.toNatClampNeg = k) (hdg : decode cc pc = .ok (.caload, 1))
    (kk : W p l e R s m args below meth c H locs cells slots Q (F0 m (pc + 1) ls (.int (f k) :: rest))) : W p l e R s m args below meth c H locs cells slots Q (F0 m pc ls (.int i :: .ref a :: rest)) := by
  subst hk
  exact va_cald C.1 C.2.1 C.2.2.2.2.2.2.2.1 hP q0 2 ha rfl (cr_in_of hin) hdg kk
theorem cr_ast (C : cr_Cx p s m meth c args own Ts cc nL ret D ct) (hW : cr_wd D A s ws H locs) (q0 : Nat) {n : Nat} {f : Nat → Int32} (ha : ws[q0]? = some (a, .inl (ct 0, n, .inl f))) {i x : Int32} {k : Nat} (hin : cr_in i n = true) (hk : i.toNatClampNeg = k) {w' : va_W} (hw : ws.set q0 (a, .inl (ct 0, n, .inl (upd f k x))) = w') (hdg : decode cc pc = .ok (.iastore, 1))
    (kk : ∀ (H1 : Heap) (locs1 : List Loc), cr_wd D A s w' H1 locs1 → W p l e R s m args below meth c H1 locs1 cells slots Q (F0 m (pc + 1) ls rest)) : W p l e R s m args below meth c H locs cells slots Q (F0 m pc ls (.int x :: .int i :: .ref a :: rest)) := by
  obtain ⟨hP, hD, hS, hA⟩ := hW
  subst hw; subst hk
  exact va_iast C.1 C.2.1 C.2.2.2.2.2.2.2.1 hP hD hS q0 0 ha rfl (cr_in_of hin) hdg (fun H1 locs1 h1 h2 h3 => kk H1 locs1 ⟨h1, h2, h3, hA⟩)
theorem cr_zast (C : cr_Cx p s m meth c args own Ts cc nL ret D ct) (hW : cr_wd D A s ws H locs) (q0 : Nat) {n : Nat} {f : Nat → Int32} (ha : ws[q0]? = some (a, .inl (ct 1, n, .inl f))) {i x : Int32} {k : Nat} (hin : cr_in i n = true) (hk : i.toNatClampNeg = k) {w' : va_W} (hw : ws.set q0 (a, .inl (ct 1, n, .inl (upd f k (vp_nar .boolean x)))) = w') (hdg : decode cc pc = .ok (.bastore, 1))
    (kk : ∀ (H1 : Heap) (locs1 : List Loc), cr_wd D A s w' H1 locs1 → W p l e R s m args below meth c H1 locs1 cells slots Q (F0 m (pc + 1) ls rest)) : W p l e R s m args below meth c H locs cells slots Q (F0 m pc ls (.int x :: .int i :: .ref a :: rest)) := by
  obtain ⟨hP, hD, hS, hA⟩ := hW
  subst hw; subst hk
  exact va_zast C.1 C.2.1 C.2.2.2.2.2.2.2.1 hP hD hS q0 1 ha rfl (cr_in_of hin) hdg (fun H1 locs1 h1 h2 h3 => kk H1 locs1 ⟨h1, h2, h3, hA⟩)
theorem cr_cast (C : cr_Cx p s m meth c args own Ts cc nL ret D ct) (hW : cr_wd D A s ws H locs) (q0 : Nat) {n : Nat} {f : Nat → Int32} (ha : ws[q0]? = some (a, .inl (ct 2, n, .inl f))) {i x : Int32} {k : Nat} (hin : cr_in i n = true) (hk : i.toNatClampNeg = k) {w' : va_W} (hw : ws.set q0 (a, .inl (ct 2, n, .inl (upd f k (vp_nar .char x)))) = w') (hdg : decode cc pc = .ok (.castore, 1))
    (kk : ∀ (H1 : Heap) (locs1 : List Loc), cr_wd D A s w' H1 locs1 → W p l e R s m args below meth c H1 locs1 cells slots Q (F0 m (pc + 1) ls rest)) : W p l e R s m args below meth c H locs cells slots Q (F0 m pc ls (.int x :: .int i :: .ref a :: rest)) := by
  obtain ⟨hP, hD, hS, hA⟩ := hW
  subst hw; subst hk
  exact va_cast C.1 C.2.1 C.2.2.2.2.2.2.2.1 hP hD hS q0 2 ha rfl (cr_in_of hin) hdg (fun H1 locs1 h1 h2 h3 => kk H1 locs1 ⟨h1, h2, h3, hA⟩)
theorem cr_ldc (C : cr_Cx p s m meth c args own Ts cc nL ret D ct) {index : Nat} {v : Int32} (hconst : Cond.constant own index v ∈ Ts) (hdg : decode cc pc = .ok (.ldc index, 2)) (k : W p l e R s m args below meth c H locs cells slots Q (F0 m (pc + 2) ls (.int v :: rest))) : W p l e R s m args below meth c H locs cells slots Q (F0 m pc ls rest) :=
  lv_ldc C.1 C.2.1 C.2.2.2.1 (C.2.2.2.2.1 _ hconst) hdg k
-- the ends
theorem cr_retR (C : cr_Cx p s m meth c args own Ts cc nL (some .int) D ct) (hS : va_S cr_no s.heap H locs) {post : Int32 → Prop} {v : Int32} (hq : post v) (hdg : decode cc pc = .ok (.ireturn, 1)) : W p l e R s m args below meth c H locs cells slots (MQ below (cr_QR post) args s cells slots cr_no) (F0 m pc ls [.int v]) :=
  W.iret C.1 C.2.1 C.2.2.2.2.2.1 (fun t ht _ => ⟨⟨v, (), rfl, hq, trivial⟩, hS.F ht⟩) hS.2.2 hdg C.2.2.2.2.2.2.1
theorem cr_retRz {ty : FieldType} (C : cr_Cx p s m meth c args own Ts cc nL (some ty) D ct) (hS : va_S cr_no s.heap H locs) {post : Int32 → Prop} {v : Int32} (hn : narrow ty (.int v) = .int v) (hq : post v) (hdg : decode cc pc = .ok (.ireturn, 1)) : W p l e R s m args below meth c H locs cells slots (MQ below (cr_QR post) args s cells slots cr_no) (F0 m pc ls [.int v]) :=
  W.zret C.1 C.2.1 C.2.2.2.2.2.1 hn (fun t ht _ => ⟨⟨v, (), rfl, hq, trivial⟩, hS.F ht⟩) hS.2.2 hdg C.2.2.2.2.2.2.1
theorem cr_retW {S : Type} (C : cr_Cx p s m meth c args own Ts cc nL (some .int) D ct) {post : Int32 → S → Prop} {w : S → va_W} (u : S) (hW : cr_wd D A s (w u) H locs) {v : Int32} (hq : post v u) (hdg : decode cc pc = .ok (.ireturn, 1)) : W p l e R s m args below meth c H locs cells slots (MQ below (va_Qi post (fun u t => cr_at D A (w u) t) A) args s cells slots A) (F0 m pc ls [.int v]) :=
  W.iret C.1 C.2.1 C.2.2.2.2.2.1 (fun t ht _ => ⟨⟨v, u, rfl, hq, by rw [ht]; exact hW.1, hW.2.1⟩, hW.2.2.1.F ht⟩) hW.2.2.1.2.2 hdg C.2.2.2.2.2.2.1
theorem cr_retWz {S : Type} {ty : FieldType} (C : cr_Cx p s m meth c args own Ts cc nL (some ty) D ct) {post : Int32 → S → Prop} {w : S → va_W} (u : S) (hW : cr_wd D A s (w u) H locs) {v : Int32} (hn : narrow ty (.int v) = .int v) (hq : post v u) (hdg : decode cc pc = .ok (.ireturn, 1)) : W p l e R s m args below meth c H locs cells slots (MQ below (va_Qi post (fun u t => cr_at D A (w u) t) A) args s cells slots A) (F0 m pc ls [.int v]) :=
  W.zret C.1 C.2.1 C.2.2.2.2.2.1 hn (fun t ht _ => ⟨⟨v, u, rfl, hq, by rw [ht]; exact hW.1, hW.2.1⟩, hW.2.2.1.F ht⟩) hW.2.2.1.2.2 hdg C.2.2.2.2.2.2.1
theorem cr_retV {S : Type} (C : cr_Cx p s m meth c args own Ts cc nL none D ct) {post : S → Prop} {w : S → va_W} (u : S) (hW : cr_wd D A s (w u) H locs) (hq : post u) (hdg : decode cc pc = .ok (.return_, 1)) : W p l e R s m args below meth c H locs cells slots (MQ below (va_Qv post (fun u t => cr_at D A (w u) t) A) args s cells slots A) (F0 m pc ls []) :=
  W.vret C.1 C.2.1 C.2.2.2.2.2.1 (fun t ht _ => ⟨⟨u, rfl, hq, by rw [ht]; exact hW.1, hW.2.1⟩, hW.2.2.1.F ht⟩) hW.2.2.1.2.2 hdg C.2.2.2.2.2.2.1
end CR
end
section
theorem cr_blindR {D : va_G} {ct : Nat → ClassId} {wc : va_W} {av : List Value} : FrameBlind (cr_pR D ct wc av) := fun a U g mk q => by
  obtain ⟨q0, q1, q2, q3⟩ := q
  exact ⟨q0, q1, va_K.moved (u := U) (U := U.calling g mk a) (Vm.Alike.refl U.vm) q2, cr_NW.same (u := U) (U := U.calling g mk a) rfl q3⟩
theorem cr_blindW {D : va_G} {ct : Nat → ClassId} {wc : va_W} {sz : Nat} {av : List Value} : FrameBlind (cr_pW D ct wc sz av) := fun a U g mk q => by
  obtain ⟨q0, q1, q2, q3, q4, q5⟩ := q
  exact ⟨q0, q1, q2, va_K.moved (u := U) (U := U.calling g mk a) (Vm.Alike.refl U.vm) q3, q4, cr_NW.same (u := U) (U := U.calling g mk a) rfl q5⟩
section CRC
variable {p : Program} {l : Launch} {e : Env} {R : Room} {s : State} {m : MethodId} {args : Array Value} {below : List Frame} {meth : Method} {c : Code} {H : Heap} {locs : List Loc} {cells slots : Nat} {Q : State → Prop}
variable {own : String} {Ts : List Cond} {cc : ByteArray} {nL : Nat} {ret : Option FieldType} {D : va_G} {ct : Nat → ClassId} {A : Nat → Prop} {ws : va_W} {pc : Nat} {ls : Array Slot} {rest st : List Value} {b : Nat}
variable {y : MethodName} {bytes : ByteArray} {maxL n index : Nat} {rt : Option FieldType} {wy : List Cond} {rm : Room} {Cn : String} {As : List Value} {wc : va_W} {ci : Nat} {fs : List Value} {T : u_T} {N : Nat}
/-- a method that only reads, called by one that only reads -/
theorem cr_vR {post : Int32 → Prop} (C : cr_Cx p s m meth c args own Ts cc nL ret D ct) (hP : va_P D vwCl ws H) (hS : va_S A s.heap H locs) (hM : Met l y wy rm (cr_pR D ct wc (.ref b :: As)) (cr_QR post) 0 0 cr_no) (cw : CallW R s args own Cn index y bytes maxL rt wy rm 0 0 n) (is : List Nat) (hs : is.filterMap (fun i => ws[i]?) = wc) (q0 : Nat) (he : ws[q0]? = some (b, .inr (ci, fs))) (hc : vwCl[ci]? = some (Cn, T, N))
    (hn : As.length = n) (hls : ls.size = nL) (hst : st = As.reverse ++ .ref b :: rest) (hr : (rest.map fun v => v.category).sum ≤ 8) (hdg : decode cc pc = .ok (.invokevirtual index, 3)) (hf : cells ≤ R.cells ∧ slots ≤ R.slots)
    (kk : ∀ (r : Int32) (H1 : Heap) (locs1 : List Loc), post r → va_P D vwCl ws H1 → va_S A s.heap H1 locs1 → W p l e R s m args below meth c H1 locs1 cells slots Q (F0 m (pc + 3) ls (.int r :: rest))) : W p l e R s m args below meth c H locs cells slots Q (F0 m pc ls st) := by
  obtain ⟨hx, hb, hml, hown, hts, -, -, hK, hN⟩ := C
  refine va_calli (va_runV (As := As) (rest := rest) ⟨hx, hb, hml, hown, hts⟩ hM cw ⟨cr_blindR, va_recv hK hP hc he, fun U hU hW => ⟨rfl, by rw [hU]; exact hP.sub is hs, va_K.moved hW.alike hK, cr_NW.warm hW hN⟩⟩ rfl hn hls hst (lv_room hr) hdg hf) hS (fun q _ h => h.elim) (fun q h => h.elim) (fun r u t H1 locs1 ht hvm hw hB hz1 hk1 hS1 => ?_)
  exact kk r H1 locs1 hw (hP.kept fun k q hq => hk1 q.1 (hP k q hq).lt (fun z => z)) hS1
theorem cr_vRw {post : Int32 → Prop} (C : cr_Cx p s m meth c args own Ts cc nL ret D ct) (hW : cr_wd D A s ws H locs) (hM : Met l y wy rm (cr_pR D ct wc (.ref b :: As)) (cr_QR post) 0 0 cr_no) (cw : CallW R s args own Cn index y bytes maxL rt wy rm 0 0 n) (is : List Nat) (hs : is.filterMap (fun i => ws[i]?) = wc) (q0 : Nat) (he : ws[q0]? = some (b, .inr (ci, fs))) (hc : vwCl[ci]? = some (Cn, T, N))
    (hn : As.length = n) (hls : ls.size = nL) (hst : st = As.reverse ++ .ref b :: rest) (hr : (rest.map fun v => v.category).sum ≤ 8) (hdg : decode cc pc = .ok (.invokevirtual index, 3)) (hf : cells ≤ R.cells ∧ slots ≤ R.slots)
    (kk : ∀ (r : Int32) (H1 : Heap) (locs1 : List Loc), post r → cr_wd D A s ws H1 locs1 → W p l e R s m args below meth c H1 locs1 cells slots Q (F0 m (pc + 3) ls (.int r :: rest))) : W p l e R s m args below meth c H locs cells slots Q (F0 m pc ls st) :=
  cr_vR C hW.1 hW.2.2.1 hM cw is hs q0 he hc hn hls hst hr hdg hf (fun r H1 locs1 h1 h2 h3 => kk r H1 locs1 h1 ⟨h2, hW.2.1, h3, hW.2.2.2⟩)
/-- a static method of ints -/
theorem cr_sR {post : Int32 → Prop} (C : cr_Cx p s m meth c args own Ts cc nL ret D ct) (hP : va_P D vwCl ws H) (hS : va_S A s.heap H locs) (hM : Met l y wy rm (cr_pR D ct [] As) (cr_QR post) 0 0 cr_no) (cw : CallB R s args own index y bytes maxL rt wy rm 0 0 n ∧ (Cond.static y).before args s = true)
    (hn : As.length = n) (hls : ls.size = nL) (hst : st = As.reverse ++ rest) (hr : (rest.map fun v => v.category).sum ≤ 8) (hdg : decode cc pc = .ok (.invokestatic index, 3)) (hf : cells ≤ R.cells ∧ slots ≤ R.slots)
    (kk : ∀ (r : Int32) (H1 : Heap) (locs1 : List Loc), post r → va_P D vwCl ws H1 → va_S A s.heap H1 locs1 → W p l e R s m args below meth c H1 locs1 cells slots Q (F0 m (pc + 3) ls (.int r :: rest))) : W p l e R s m args below meth c H locs cells slots Q (F0 m pc ls st) := by
  obtain ⟨hx, hb, hml, hown, hts, -, -, hK, hN⟩ := C
  refine va_calli (va_runS (As := As) (rest := rest) ⟨hx, hb, hml, hown, hts⟩ hM cw ⟨cr_blindR, fun U hU hW => ⟨rfl, fun k q hk => by simp at hk, va_K.moved hW.alike hK, cr_NW.warm hW hN⟩⟩ rfl hn hls hst (lv_room hr) hdg hf) hS (fun q _ h => h.elim) (fun q h => h.elim) (fun r u t H1 locs1 ht hvm hw hB hz1 hk1 hS1 => ?_)
  exact kk r H1 locs1 hw (hP.kept fun k q hq => hk1 q.1 (hP k q hq).lt (fun z => z)) hS1
theorem cr_sRw {post : Int32 → Prop} (C : cr_Cx p s m meth c args own Ts cc nL ret D ct) (hW : cr_wd D A s ws H locs) (hM : Met l y wy rm (cr_pR D ct [] As) (cr_QR post) 0 0 cr_no) (cw : CallB R s args own index y bytes maxL rt wy rm 0 0 n ∧ (Cond.static y).before args s = true)
    (hn : As.length = n) (hls : ls.size = nL) (hst : st = As.reverse ++ rest) (hr : (rest.map fun v => v.category).sum ≤ 8) (hdg : decode cc pc = .ok (.invokestatic index, 3)) (hf : cells ≤ R.cells ∧ slots ≤ R.slots)
    (kk : ∀ (r : Int32) (H1 : Heap) (locs1 : List Loc), post r → cr_wd D A s ws H1 locs1 → W p l e R s m args below meth c H1 locs1 cells slots Q (F0 m (pc + 3) ls (.int r :: rest))) : W p l e R s m args below meth c H locs cells slots Q (F0 m pc ls st) :=
  cr_sR C hW.1 hW.2.2.1 hM cw hn hls hst hr hdg hf (fun r H1 locs1 h1 h2 h3 => kk r H1 locs1 h1 ⟨h2, hW.2.1, h3, hW.2.2.2⟩)
/-- a static method of the nest's host -/
theorem cr_nR {post : Int32 → Prop} {host : String} (C : cr_Cx p s m meth c args own Ts cc nL ret D ct) (hP : va_P D vwCl ws H) (hS : va_S A s.heap H locs) (hM : Met l y wy rm (cr_pR D ct [] As) (cr_QR post) 0 0 cr_no) (cw : va_CN R s args own index y host bytes maxL rt wy rm 0 0 n ∧ (Cond.static y).before args s = true ∧ True)
    (hn : As.length = n) (hls : ls.size = nL) (hst : st = As.reverse ++ rest) (hr : (rest.map fun v => v.category).sum ≤ 8) (hdg : decode cc pc = .ok (.invokestatic index, 3)) (hf : cells ≤ R.cells ∧ slots ≤ R.slots)
    (kk : ∀ (r : Int32) (H1 : Heap) (locs1 : List Loc), post r → va_P D vwCl ws H1 → va_S A s.heap H1 locs1 → W p l e R s m args below meth c H1 locs1 cells slots Q (F0 m (pc + 3) ls (.int r :: rest))) : W p l e R s m args below meth c H locs cells slots Q (F0 m pc ls st) := by
  obtain ⟨hx, hb, hml, hown, hts, -, -, hK, hN⟩ := C
  refine va_calli (va_runSN (As := As) (rest := rest) ⟨hx, hb, hml, hown, hts⟩ hM cw ⟨cr_blindR, fun U hU hW => ⟨rfl, fun k q hk => by simp at hk, va_K.moved hW.alike hK, cr_NW.warm hW hN⟩⟩ rfl hn hls hst (lv_room hr) hdg hf) hS (fun q _ h => h.elim) (fun q h => h.elim) (fun r u t H1 locs1 ht hvm hw hB hz1 hk1 hS1 => ?_)
  exact kk r H1 locs1 hw (hP.kept fun k q hq => hk1 q.1 (hP k q hq).lt (fun z => z)) hS1
theorem cr_nRw {post : Int32 → Prop} {host : String} (C : cr_Cx p s m meth c args own Ts cc nL ret D ct) (hW : cr_wd D A s ws H locs) (hM : Met l y wy rm (cr_pR D ct [] As) (cr_QR post) 0 0 cr_no) (cw : va_CN R s args own index y host bytes maxL rt wy rm 0 0 n ∧ (Cond.static y).before args s = true ∧ True)
    (hn : As.length = n) (hls : ls.size = nL) (hst : st = As.reverse ++ rest) (hr : (rest.map fun v => v.category).sum ≤ 8) (hdg : decode cc pc = .ok (.invokestatic index, 3)) (hf : cells ≤ R.cells ∧ slots ≤ R.slots)
    (kk : ∀ (r : Int32) (H1 : Heap) (locs1 : List Loc), post r → cr_wd D A s ws H1 locs1 → W p l e R s m args below meth c H1 locs1 cells slots Q (F0 m (pc + 3) ls (.int r :: rest))) : W p l e R s m args below meth c H locs cells slots Q (F0 m pc ls st) :=
  cr_nR C hW.1 hW.2.2.1 hM cw hn hls hst hr hdg hf (fun r H1 locs1 h1 h2 h3 => kk r H1 locs1 h1 ⟨h2, hW.2.1, h3, hW.2.2.2⟩)
/-- what a callee's world becomes, beside the rest, in the caller's own order -/
theorem cr_back {wr w1 w2 : va_W} {H1 : Heap} {locs1 : List Loc} (hW : cr_wd D A s ws H locs) (isC isR pm : List Nat) (hC : isC.map (fun i => ws[i]?) = wc.map some) (hR : isR.map (fun i => ws[i]?) = wr.map some) (hn : va_nd isR = true) (hdis : ∀ i ∈ isR, i ∉ isC) (hpm : pm.map (fun i => (wr ++ w1)[i]?) = w2.map some) (hnp : va_nd pm = true)
    (hk : ∀ q : Nat, q < H.size → ¬ va_A wc H.size q → H1[q]? = H[q]?) (hF : ∀ q, va_A wc H.size q → A q) (hP1 : va_P D vwCl w1 H1) (hD1 : va_D (va_A wc H.size) w1) (hS1 : va_S A s.heap H1 locs1) : cr_wd D A s w2 H1 locs1 := by
  obtain ⟨hP, hD, hS, hA⟩ := hW
  obtain ⟨hP2, hD2⟩ := va_join hP hD isC isR hC hR hn hdis hk hF hP1 hD1
  refine ⟨fun k q hq => ?_, hD2.sub pm hnp hpm, hS1, hA⟩
  have h1 : (pm.map (fun i => (wr ++ w1)[i]?))[k]? = some (some q) := by rw [hpm, List.getElem?_map, hq]; rfl
  rw [List.getElem?_map] at h1
  cases hi : pm[k]? with
  | none => rw [hi] at h1; cases h1
  | some i => rw [hi] at h1; exact hP2 i q (Option.some.inj h1)
/-- a method that writes -/
theorem cr_vW {S : Type} {post : Int32 → S → Prop} {w1 : S → va_W} {wr : va_W} (C : cr_Cx p s m meth c args own Ts cc nL ret D ct) (hW : cr_wd D A s ws H locs) (hM : Met l y wy rm (cr_pW D ct wc H.size (.ref b :: As)) (cr_QW D wc H.size post w1) 0 0 (va_A wc H.size)) (cw : CallW R s args own Cn index y bytes maxL rt wy rm 0 0 n) (isC isR pm : List Nat) (w2 : S → va_W)
    (hC : isC.map (fun i => ws[i]?) = wc.map some) (hR : isR.map (fun i => ws[i]?) = wr.map some) (hpm : ∀ u, pm.map (fun i => (wr ++ w1 u)[i]?) = (w2 u).map some) (hnd : va_nd isC = true ∧ va_nd isR = true ∧ va_nd pm = true ∧ ∀ i ∈ isR, i ∉ isC) (q0 : Nat) (he : ws[q0]? = some (b, .inr (ci, fs))) (hc : vwCl[ci]? = some (Cn, T, N))
    (hn : As.length = n) (hls : ls.size = nL) (hst : st = As.reverse ++ .ref b :: rest) (hr : (rest.map fun v => v.category).sum ≤ 8) (hdg : decode cc pc = .ok (.invokevirtual index, 3)) (hf : cells ≤ R.cells ∧ slots ≤ R.slots)
    (kk : ∀ (r : Int32) (u : S) (H1 : Heap) (locs1 : List Loc), post r u → cr_wd D A s (w2 u) H1 locs1 → W p l e R s m args below meth c H1 locs1 cells slots Q (F0 m (pc + 3) ls (.int r :: rest))) : W p l e R s m args below meth c H locs cells slots Q (F0 m pc ls st) := by
  obtain ⟨hx, hb, hml, hown, hts, -, -, hK, hN⟩ := C
  have hF : ∀ q, va_A wc H.size q → A q := va_free hW.2.1 hW.2.2.1 hW.2.2.2 isC hC
  have hD0 : va_D (fun _ => True) wc := (hW.2.1.sub isC hnd.1 hC).weaken (fun _ _ _ _ => trivial)
  have hP0 : va_P D vwCl wc H := by
    intro k q hq
    have h1 : (isC.map (fun i => ws[i]?))[k]? = some (some q) := by rw [hC, List.getElem?_map, hq]; rfl
    rw [List.getElem?_map] at h1
    cases hi : isC[k]? with
    | none => rw [hi] at h1; cases h1
    | some i => rw [hi] at h1; exact hW.1 i q (Option.some.inj h1)
  refine va_calli (va_runV (As := As) (rest := rest) ⟨hx, hb, hml, hown, hts⟩ hM cw ⟨cr_blindW, va_recv hK hW.1 hc he, fun U hU hWm => ⟨rfl, by rw [hU], by rw [hU]; exact hP0, va_K.moved hWm.alike hK, hD0, cr_NW.warm hWm hN⟩⟩ rfl hn hls hst (lv_room hr) hdg hf) hW.2.2.1 (fun q _ h => hF q h) hF (fun r u t H1 locs1 ht hvm hw hB hz1 hk1 hS1 => ?_)
  exact kk r u H1 locs1 hw (cr_back hW isC isR pm hC hR hnd.2.1 hnd.2.2.2 (hpm u) hnd.2.2.1 hk1 hF (by rw [← ht]; exact hB.1) hB.2 hS1)
theorem cr_vV {S : Type} {post : S → Prop} {w1 : S → va_W} {wr : va_W} (C : cr_Cx p s m meth c args own Ts cc nL ret D ct) (hW : cr_wd D A s ws H locs) (hM : Met l y wy rm (cr_pW D ct wc H.size (.ref b :: As)) (cr_QV D wc H.size post w1) 0 0 (va_A wc H.size)) (cw : CallW R s args own Cn index y bytes maxL rt wy rm 0 0 n) (isC isR pm : List Nat) (w2 : S → va_W)
    (hC : isC.map (fun i => ws[i]?) = wc.map some) (hR : isR.map (fun i => ws[i]?) = wr.map some) (hpm : ∀ u, pm.map (fun i => (wr ++ w1 u)[i]?) = (w2 u).map some) (hnd : va_nd isC = true ∧ va_nd isR = true ∧ va_nd pm = true ∧ ∀ i ∈ isR, i ∉ isC) (q0 : Nat) (he : ws[q0]? = some (b, .inr (ci, fs))) (hc : vwCl[ci]? = some (Cn, T, N))
    (hn : As.length = n) (hls : ls.size = nL) (hst : st = As.reverse ++ .ref b :: rest) (hr : (rest.map fun v => v.category).sum ≤ 8) (hdg : decode cc pc = .ok (.invokevirtual index, 3)) (hf : cells ≤ R.cells ∧ slots ≤ R.slots)
    (kk : ∀ (u : S) (H1 : Heap) (locs1 : List Loc), post u → cr_wd D A s (w2 u) H1 locs1 → W p l e R s m args below meth c H1 locs1 cells slots Q (F0 m (pc + 3) ls rest)) : W p l e R s m args below meth c H locs cells slots Q (F0 m pc ls st) := by
  obtain ⟨hx, hb, hml, hown, hts, -, -, hK, hN⟩ := C
  have hF : ∀ q, va_A wc H.size q → A q := va_free hW.2.1 hW.2.2.1 hW.2.2.2 isC hC
  have hD0 : va_D (fun _ => True) wc := (hW.2.1.sub isC hnd.1 hC).weaken (fun _ _ _ _ => trivial)
  have hP0 : va_P D vwCl wc H := by
    intro k q hq
    have h1 : (isC.map (fun i => ws[i]?))[k]? = some (some q) := by rw [hC, List.getElem?_map, hq]; rfl
    rw [List.getElem?_map] at h1
    cases hi : isC[k]? with
    | none => rw [hi] at h1; cases h1
    | some i => rw [hi] at h1; exact hW.1 i q (Option.some.inj h1)
  refine va_callv (va_runV (As := As) (rest := rest) ⟨hx, hb, hml, hown, hts⟩ hM cw ⟨cr_blindW, va_recv hK hW.1 hc he, fun U hU hWm => ⟨rfl, by rw [hU], by rw [hU]; exact hP0, va_K.moved hWm.alike hK, hD0, cr_NW.warm hWm hN⟩⟩ rfl hn hls hst (lv_room hr) hdg hf) hW.2.2.1 (fun q _ h => hF q h) hF (fun u t H1 locs1 ht hvm hw hB hz1 hk1 hS1 => ?_)
  exact kk u H1 locs1 hw (cr_back hW isC isR pm hC hR hnd.2.1 hnd.2.2.2 (hpm u) hnd.2.2.1 hk1 hF (by rw [← ht]; exact hB.1) hB.2 hS1)
end CRC
end
section
theorem cr_ifn {α : Type} {c : Prop} [Decidable c] {x : Option α} {o : α} (h : (if c then x else none) = some o) : c ∧ x = some o := by
  by_cases hc : c
  · rw [if_pos hc] at h; exact ⟨hc, h⟩
  · rw [if_neg hc] at h; cases h
theorem cr_ifz {α : Type} {c : Prop} [Decidable c] {x : Option α} {o : α} (h : (if c then none else x) = some o) : ¬ c ∧ x = some o := by
  by_cases hc : c
  · rw [if_pos hc] at h; cases h
  · rw [if_neg hc] at h; exact ⟨hc, h⟩
theorem cr_bind {α β : Type} {x : Option α} {f : α → Option β} {o : β} (h : x.bind f = some o) : ∃ q, x = some q ∧ f q = some o := Option.bind_eq_some_iff.mp h
theorem cr_ne {x k : Int32} {n : Int} (hk : k.toInt = n) (h : ¬ x = k) : x.toInt ≠ n := fun e => h (Int32.toInt_inj.mp (e.trans hk.symm))
def cr_bool (v : Int32) : Bool := decide (v = 0 ∨ v = 1)
theorem cr_boolN {v : Int32} (h : cr_bool v = true) : narrow .boolean (.int v) = .int v := by
  rcases of_decide_eq_true h with h | h <;> subst h <;> rfl
def cr_char (v : Int32) : Bool := decide (narrow .char (.int v) = .int v)
theorem cr_charN {v : Int32} (h : cr_char v = true) : narrow .char (.int v) = .int v := of_decide_eq_true h
def cr_num (r : UInt32) : Bool := decide (r &&& 0x7fffffff ≤ 0x7f800000)
theorem cr_numN {r : UInt32} (h : cr_num r = true) : vf_n32 r := of_decide_eq_true (p := r &&& 0x7fffffff ≤ 0x7f800000) h
theorem cr_all {ws : va_W} {isR : List Nat} (h : isR.all (fun i => decide (i < ws.length)) = true) : isR.map (fun i => ws[i]?) = (isR.filterMap (fun i => ws[i]?)).map some := by
  induction isR with
  | nil => rfl
  | cons i l ih =>
    simp only [List.all_cons, Bool.and_eq_true, decide_eq_true_eq] at h
    obtain ⟨x, hx⟩ : ∃ x, ws[i]? = some x := ⟨ws[i], by simp [h.1]⟩
    rw [List.map_cons, ih h.2, List.filterMap_cons, hx, List.map_cons]
section CRQ
variable {p : Program} {l : Launch} {e : Env} {R : Room} {s : State} {m : MethodId} {args : Array Value} {below : List Frame} {meth : Method} {c : Code} {H : Heap} {locs : List Loc} {cells slots : Nat} {Q : State → Prop}
variable {own : String} {Ts : List Cond} {cc : ByteArray} {nL : Nat} {ret : Option FieldType} {D : va_G} {ct : Nat → ClassId} {A : Nat → Prop} {ws : va_W} {pc : Nat} {ls : Array Slot} {rest st : List Value} {b : Nat}
variable {y : MethodName} {bytes : ByteArray} {maxL n index : Nat} {rt : Option FieldType} {wy : List Cond} {rm : Room} {Cn : String} {As : List Value} {wc : va_W} {ci : Nat} {fs : List Value} {T : u_T} {N : Nat}
theorem cr_vRq {q : Int32} (C : cr_Cx p s m meth c args own Ts cc nL ret D ct) (hP : va_P D vwCl ws H) (hS : va_S A s.heap H locs) (hM : Met l y wy rm (cr_pR D ct wc (.ref b :: As)) (cr_QR (fun r => r = q)) 0 0 cr_no) (cw : CallW R s args own Cn index y bytes maxL rt wy rm 0 0 n) (is : List Nat) (hs : is.filterMap (fun i => ws[i]?) = wc) (q0 : Nat) (he : ws[q0]? = some (b, .inr (ci, fs))) (hc : vwCl[ci]? = some (Cn, T, N))
    (hn : As.length = n) (hls : ls.size = nL) (hst : st = As.reverse ++ .ref b :: rest) (hr : (rest.map fun v => v.category).sum ≤ 8) (hdg : decode cc pc = .ok (.invokevirtual index, 3)) (hf : cells ≤ R.cells ∧ slots ≤ R.slots)
    (kk : ∀ (H1 : Heap) (locs1 : List Loc), va_P D vwCl ws H1 → va_S A s.heap H1 locs1 → W p l e R s m args below meth c H1 locs1 cells slots Q (F0 m (pc + 3) ls (.int q :: rest))) : W p l e R s m args below meth c H locs cells slots Q (F0 m pc ls st) :=
  cr_vR C hP hS hM cw is hs q0 he hc hn hls hst hr hdg hf (fun r H1 locs1 h1 h2 h3 => by subst h1; exact kk H1 locs1 h2 h3)
theorem cr_vRwq {q : Int32} (C : cr_Cx p s m meth c args own Ts cc nL ret D ct) (hW : cr_wd D A s ws H locs) (hM : Met l y wy rm (cr_pR D ct wc (.ref b :: As)) (cr_QR (fun r => r = q)) 0 0 cr_no) (cw : CallW R s args own Cn index y bytes maxL rt wy rm 0 0 n) (is : List Nat) (hs : is.filterMap (fun i => ws[i]?) = wc) (q0 : Nat) (he : ws[q0]? = some (b, .inr (ci, fs))) (hc : vwCl[ci]? = some (Cn, T, N))
    (hn : As.length = n) (hls : ls.size = nL) (hst : st = As.reverse ++ .ref b :: rest) (hr : (rest.map fun v => v.category).sum ≤ 8) (hdg : decode cc pc = .ok (.invokevirtual index, 3)) (hf : cells ≤ R.cells ∧ slots ≤ R.slots)
    (kk : ∀ (H1 : Heap) (locs1 : List Loc), cr_wd D A s ws H1 locs1 → W p l e R s m args below meth c H1 locs1 cells slots Q (F0 m (pc + 3) ls (.int q :: rest))) : W p l e R s m args below meth c H locs cells slots Q (F0 m pc ls st) :=
  cr_vRw C hW hM cw is hs q0 he hc hn hls hst hr hdg hf (fun r H1 locs1 h1 h2 => by subst h1; exact kk H1 locs1 h2)
theorem cr_sRq {q : Int32} (C : cr_Cx p s m meth c args own Ts cc nL ret D ct) (hP : va_P D vwCl ws H) (hS : va_S A s.heap H locs) (hM : Met l y wy rm (cr_pR D ct [] As) (cr_QR (fun r => r = q)) 0 0 cr_no) (cw : CallB R s args own index y bytes maxL rt wy rm 0 0 n ∧ (Cond.static y).before args s = true)
    (hn : As.length = n) (hls : ls.size = nL) (hst : st = As.reverse ++ rest) (hr : (rest.map fun v => v.category).sum ≤ 8) (hdg : decode cc pc = .ok (.invokestatic index, 3)) (hf : cells ≤ R.cells ∧ slots ≤ R.slots)
    (kk : ∀ (H1 : Heap) (locs1 : List Loc), va_P D vwCl ws H1 → va_S A s.heap H1 locs1 → W p l e R s m args below meth c H1 locs1 cells slots Q (F0 m (pc + 3) ls (.int q :: rest))) : W p l e R s m args below meth c H locs cells slots Q (F0 m pc ls st) :=
  cr_sR C hP hS hM cw hn hls hst hr hdg hf (fun r H1 locs1 h1 h2 h3 => by subst h1; exact kk H1 locs1 h2 h3)
theorem cr_sRwq {q : Int32} (C : cr_Cx p s m meth c args own Ts cc nL ret D ct) (hW : cr_wd D A s ws H locs) (hM : Met l y wy rm (cr_pR D ct [] As) (cr_QR (fun r => r = q)) 0 0 cr_no) (cw : CallB R s args own index y bytes maxL rt wy rm 0 0 n ∧ (Cond.static y).before args s = true)
    (hn : As.length = n) (hls : ls.size = nL) (hst : st = As.reverse ++ rest) (hr : (rest.map fun v => v.category).sum ≤ 8) (hdg : decode cc pc = .ok (.invokestatic index, 3)) (hf : cells ≤ R.cells ∧ slots ≤ R.slots)
    (kk : ∀ (H1 : Heap) (locs1 : List Loc), cr_wd D A s ws H1 locs1 → W p l e R s m args below meth c H1 locs1 cells slots Q (F0 m (pc + 3) ls (.int q :: rest))) : W p l e R s m args below meth c H locs cells slots Q (F0 m pc ls st) :=
  cr_sRw C hW hM cw hn hls hst hr hdg hf (fun r H1 locs1 h1 h2 => by subst h1; exact kk H1 locs1 h2)
theorem cr_nRq {q : Int32} {host : String} (C : cr_Cx p s m meth c args own Ts cc nL ret D ct) (hP : va_P D vwCl ws H) (hS : va_S A s.heap H locs) (hM : Met l y wy rm (cr_pR D ct [] As) (cr_QR (fun r => r = q)) 0 0 cr_no) (cw : va_CN R s args own index y host bytes maxL rt wy rm 0 0 n ∧ (Cond.static y).before args s = true ∧ True)
    (hn : As.length = n) (hls : ls.size = nL) (hst : st = As.reverse ++ rest) (hr : (rest.map fun v => v.category).sum ≤ 8) (hdg : decode cc pc = .ok (.invokestatic index, 3)) (hf : cells ≤ R.cells ∧ slots ≤ R.slots)
    (kk : ∀ (H1 : Heap) (locs1 : List Loc), va_P D vwCl ws H1 → va_S A s.heap H1 locs1 → W p l e R s m args below meth c H1 locs1 cells slots Q (F0 m (pc + 3) ls (.int q :: rest))) : W p l e R s m args below meth c H locs cells slots Q (F0 m pc ls st) :=
  cr_nR C hP hS hM cw hn hls hst hr hdg hf (fun r H1 locs1 h1 h2 h3 => by subst h1; exact kk H1 locs1 h2 h3)
theorem cr_nRwq {q : Int32} {host : String} (C : cr_Cx p s m meth c args own Ts cc nL ret D ct) (hW : cr_wd D A s ws H locs) (hM : Met l y wy rm (cr_pR D ct [] As) (cr_QR (fun r => r = q)) 0 0 cr_no) (cw : va_CN R s args own index y host bytes maxL rt wy rm 0 0 n ∧ (Cond.static y).before args s = true ∧ True)
    (hn : As.length = n) (hls : ls.size = nL) (hst : st = As.reverse ++ rest) (hr : (rest.map fun v => v.category).sum ≤ 8) (hdg : decode cc pc = .ok (.invokestatic index, 3)) (hf : cells ≤ R.cells ∧ slots ≤ R.slots)
    (kk : ∀ (H1 : Heap) (locs1 : List Loc), cr_wd D A s ws H1 locs1 → W p l e R s m args below meth c H1 locs1 cells slots Q (F0 m (pc + 3) ls (.int q :: rest))) : W p l e R s m args below meth c H locs cells slots Q (F0 m pc ls st) :=
  cr_nRw C hW hM cw hn hls hst hr hdg hf (fun r H1 locs1 h1 h2 => by subst h1; exact kk H1 locs1 h2)
theorem cr_vWq {S : Type} {q : Int32 × S} {w1 : S → va_W} (C : cr_Cx p s m meth c args own Ts cc nL ret D ct) (hW : cr_wd D A s ws H locs) (hM : Met l y wy rm (cr_pW D ct wc H.size (.ref b :: As)) (cr_QW D wc H.size (fun r u => (r, u) = q) w1) 0 0 (va_A wc H.size)) (cw : CallW R s args own Cn index y bytes maxL rt wy rm 0 0 n) (isC isR pm : List Nat) (w2 : va_W)
    (hC : isC.map (fun i => ws[i]?) = wc.map some) (hR : isR.all (fun i => decide (i < ws.length)) = true) (hpm : pm.map (fun i => (isR.filterMap (fun i => ws[i]?) ++ w1 q.2)[i]?) = w2.map some) (hnd : va_nd isC = true ∧ va_nd isR = true ∧ va_nd pm = true ∧ ∀ i ∈ isR, i ∉ isC) (q0 : Nat) (he : ws[q0]? = some (b, .inr (ci, fs))) (hc : vwCl[ci]? = some (Cn, T, N))
    (hn : As.length = n) (hls : ls.size = nL) (hst : st = As.reverse ++ .ref b :: rest) (hr : (rest.map fun v => v.category).sum ≤ 8) (hdg : decode cc pc = .ok (.invokevirtual index, 3)) (hf : cells ≤ R.cells ∧ slots ≤ R.slots)
    (kk : ∀ (H1 : Heap) (locs1 : List Loc), cr_wd D A s w2 H1 locs1 → W p l e R s m args below meth c H1 locs1 cells slots Q (F0 m (pc + 3) ls (.int q.1 :: rest))) : W p l e R s m args below meth c H locs cells slots Q (F0 m pc ls st) := by
  obtain ⟨hx, hb, hml, hown, hts, -, -, hK, hN⟩ := C
  have hF : ∀ q, va_A wc H.size q → A q := va_free hW.2.1 hW.2.2.1 hW.2.2.2 isC hC
  have hD0 : va_D (fun _ => True) wc := (hW.2.1.sub isC hnd.1 hC).weaken (fun _ _ _ _ => trivial)
  have hP0 : va_P D vwCl wc H := by
    intro k q hq
    have h1 : (isC.map (fun i => ws[i]?))[k]? = some (some q) := by rw [hC, List.getElem?_map, hq]; rfl
    rw [List.getElem?_map] at h1
    cases hi : isC[k]? with
    | none => rw [hi] at h1; cases h1
    | some i => rw [hi] at h1; exact hW.1 i q (Option.some.inj h1)
  refine va_calli (va_runV (As := As) (rest := rest) ⟨hx, hb, hml, hown, hts⟩ hM cw ⟨cr_blindW, va_recv hK hW.1 hc he, fun U hU hWm => ⟨rfl, by rw [hU], by rw [hU]; exact hP0, va_K.moved hWm.alike hK, hD0, cr_NW.warm hWm hN⟩⟩ rfl hn hls hst (lv_room hr) hdg hf) hW.2.2.1 (fun q _ h => hF q h) hF (fun r u t H1 locs1 ht hvm hw hB hz1 hk1 hS1 => ?_)
  subst hw
  exact kk H1 locs1 (cr_back hW isC isR pm hC (cr_all hR) hnd.2.1 hnd.2.2.2 hpm hnd.2.2.1 hk1 hF (by rw [← ht]; exact hB.1) hB.2 hS1)
theorem cr_vVq {S : Type} {q : S} {w1 : S → va_W} (C : cr_Cx p s m meth c args own Ts cc nL ret D ct) (hW : cr_wd D A s ws H locs) (hM : Met l y wy rm (cr_pW D ct wc H.size (.ref b :: As)) (cr_QV D wc H.size (fun u => u = q) w1) 0 0 (va_A wc H.size)) (cw : CallW R s args own Cn index y bytes maxL rt wy rm 0 0 n) (isC isR pm : List Nat) (w2 : va_W)
    (hC : isC.map (fun i => ws[i]?) = wc.map some) (hR : isR.all (fun i => decide (i < ws.length)) = true) (hpm : pm.map (fun i => (isR.filterMap (fun i => ws[i]?) ++ w1 q)[i]?) = w2.map some) (hnd : va_nd isC = true ∧ va_nd isR = true ∧ va_nd pm = true ∧ ∀ i ∈ isR, i ∉ isC) (q0 : Nat) (he : ws[q0]? = some (b, .inr (ci, fs))) (hc : vwCl[ci]? = some (Cn, T, N))
    (hn : As.length = n) (hls : ls.size = nL) (hst : st = As.reverse ++ .ref b :: rest) (hr : (rest.map fun v => v.category).sum ≤ 8) (hdg : decode cc pc = .ok (.invokevirtual index, 3)) (hf : cells ≤ R.cells ∧ slots ≤ R.slots)
    (kk : ∀ (H1 : Heap) (locs1 : List Loc), cr_wd D A s w2 H1 locs1 → W p l e R s m args below meth c H1 locs1 cells slots Q (F0 m (pc + 3) ls rest)) : W p l e R s m args below meth c H locs cells slots Q (F0 m pc ls st) := by
  obtain ⟨hx, hb, hml, hown, hts, -, -, hK, hN⟩ := C
  have hF : ∀ q, va_A wc H.size q → A q := va_free hW.2.1 hW.2.2.1 hW.2.2.2 isC hC
  have hD0 : va_D (fun _ => True) wc := (hW.2.1.sub isC hnd.1 hC).weaken (fun _ _ _ _ => trivial)
  have hP0 : va_P D vwCl wc H := by
    intro k q hq
    have h1 : (isC.map (fun i => ws[i]?))[k]? = some (some q) := by rw [hC, List.getElem?_map, hq]; rfl
    rw [List.getElem?_map] at h1
    cases hi : isC[k]? with
    | none => rw [hi] at h1; cases h1
    | some i => rw [hi] at h1; exact hW.1 i q (Option.some.inj h1)
  refine va_callv (va_runV (As := As) (rest := rest) ⟨hx, hb, hml, hown, hts⟩ hM cw ⟨cr_blindW, va_recv hK hW.1 hc he, fun U hU hWm => ⟨rfl, by rw [hU], by rw [hU]; exact hP0, va_K.moved hWm.alike hK, hD0, cr_NW.warm hWm hN⟩⟩ rfl hn hls hst (lv_room hr) hdg hf) hW.2.2.1 (fun q _ h => hF q h) hF (fun u t H1 locs1 ht hvm hw hB hz1 hk1 hS1 => ?_)
  subst hw
  exact kk H1 locs1 (cr_back hW isC isR pm hC (cr_all hR) hnd.2.1 hnd.2.2.2 hpm hnd.2.2.1 hk1 hF (by rw [← ht]; exact hB.1) hB.2 hS1)
end CRQ
section CRS
variable {p : Program} {l : Launch} {e : Env} {R : Room} {s : State} {m : MethodId} {args : Array Value} {below : List Frame} {meth : Method} {c : Code} {H : Heap} {locs : List Loc} {cells slots : Nat} {Q : State → Prop}
variable {own : String} {Ts : List Cond} {cc : ByteArray} {nL : Nat} {ret : Option FieldType} {D : va_G} {ct : Nat → ClassId} {A : Nat → Prop} {ws : va_W} {pc : Nat} {ls : Array Slot} {rest st : List Value}
variable {y : MethodName} {bytes : ByteArray} {maxL n index : Nat} {rt : Option FieldType} {wy : List Cond} {rm : Room} {As : List Value} {wc : va_W}
theorem cr_sVq {S : Type} {q : S} {w1 : S → va_W} (C : cr_Cx p s m meth c args own Ts cc nL ret D ct) (hW : cr_wd D A s ws H locs) (hM : Met l y wy rm (cr_pW D ct wc H.size As) (cr_QV D wc H.size (fun u => u = q) w1) 0 0 (va_A wc H.size)) (cw : CallB R s args own index y bytes maxL rt wy rm 0 0 n ∧ (Cond.static y).before args s = true) (isC isR pm : List Nat) (w2 : va_W)
    (hC : isC.map (fun i => ws[i]?) = wc.map some) (hR : isR.all (fun i => decide (i < ws.length)) = true) (hpm : pm.map (fun i => (isR.filterMap (fun i => ws[i]?) ++ w1 q)[i]?) = w2.map some) (hnd : va_nd isC = true ∧ va_nd isR = true ∧ va_nd pm = true ∧ ∀ i ∈ isR, i ∉ isC)
    (hn : As.length = n) (hls : ls.size = nL) (hst : st = As.reverse ++ rest) (hr : (rest.map fun v => v.category).sum ≤ 8) (hdg : decode cc pc = .ok (.invokestatic index, 3)) (hf : cells ≤ R.cells ∧ slots ≤ R.slots)
    (kk : ∀ (H1 : Heap) (locs1 : List Loc), cr_wd D A s w2 H1 locs1 → W p l e R s m args below meth c H1 locs1 cells slots Q (F0 m (pc + 3) ls rest)) : W p l e R s m args below meth c H locs cells slots Q (F0 m pc ls st) := by
  obtain ⟨hx, hb, hml, hown, hts, -, -, hK, hN⟩ := C
  have hF : ∀ q, va_A wc H.size q → A q := va_free hW.2.1 hW.2.2.1 hW.2.2.2 isC hC
  have hD0 : va_D (fun _ => True) wc := (hW.2.1.sub isC hnd.1 hC).weaken (fun _ _ _ _ => trivial)
  have hP0 : va_P D vwCl wc H := by
    intro k q hq
    have h1 : (isC.map (fun i => ws[i]?))[k]? = some (some q) := by rw [hC, List.getElem?_map, hq]; rfl
    rw [List.getElem?_map] at h1
    cases hi : isC[k]? with
    | none => rw [hi] at h1; cases h1
    | some i => rw [hi] at h1; exact hW.1 i q (Option.some.inj h1)
  refine va_callv (va_runS (As := As) (rest := rest) ⟨hx, hb, hml, hown, hts⟩ hM cw ⟨cr_blindW, fun U hU hWm => ⟨rfl, by rw [hU], by rw [hU]; exact hP0, va_K.moved hWm.alike hK, hD0, cr_NW.warm hWm hN⟩⟩ rfl hn hls hst (lv_room hr) hdg hf) hW.2.2.1 (fun q _ h => hF q h) hF (fun u t H1 locs1 ht hvm hw hB hz1 hk1 hS1 => ?_)
  subst hw
  exact kk H1 locs1 (cr_back hW isC isR pm hC (cr_all hR) hnd.2.1 hnd.2.2.2 hpm hnd.2.2.1 hk1 hF (by rw [← ht]; exact hB.1) hB.2 hS1)
end CRS
/-- a method of a JDK class that has entries, but none for this one -/
theorem cr_metRF {l : Launch} {y : MethodName} {ws ws' : List Cond} {rm : Room} {cc : ByteArray} {maxL : Nat} {ret : Option FieldType} {own : String} {D : va_G} {ct : Nat → ClassId} {wc : va_W} {av : List Value} {Qc : Array Value → State → Outcome → State → Prop}
    (hy : plainFor y = true) (hw : ws = Cond.code y cc maxL ret :: ws') (ho : y.cls = own) (hn : (lg_sl av).length ≤ maxL)
    (body : ∀ (p : Program) (e : Env) (s : State) (m : MethodId) (args : Array Value) (below : List Frame) (meth : Method) (c : Code) (ls : Array Slot), cr_Cx p s m meth c args own ws cc maxL ret D ct → va_P D vwCl wc s.heap → va_S cr_no s.heap s.heap [] → lv_has ls maxL (lv_args 0 av) →
      W p l e rm s m args below meth c s.heap [] 0 0 (MQ below Qc args s 0 0 cr_no) (F0 m 0 ls [])) : Met l y ws rm (cr_pR D ct wc av) Qc 0 0 cr_no := by
  refine va_MetF (cc := cc) (maxL := maxL) (ret := ret) hy hw ?_
  intro p e s m args below meth c s₁ B hml hv
  obtain ⟨rfl, hP, hK, hN⟩ := hv
  subst ho
  have hl := lv_entry av (n := maxL) hn
  rw [lg_entry_eq]
  exact body p e s m _ below meth c _ ⟨B.exec, B.bytes, hml, findClass_of_methodNamed B.named, atoms_spec (ws := ws) B.pre, B.returns, B.notSynchronized, hK, hN⟩ hP va_S.rf hl
section CRT
variable {p : Program} {l : Launch} {e : Env} {R : Room} {s : State} {m : MethodId} {args : Array Value} {below : List Frame} {meth : Method} {c : Code} {H : Heap} {locs : List Loc} {cells slots : Nat} {Q : State → Prop} {cc : ByteArray} {pc : Nat} {ls : Array Slot} {rest : List Value}
theorem cr_tabD (hexec : p.tables.exec = Jvm.exec) (hb : c.code = cc) {dflt lo hi : Int} {offs : Array Int} {len : Nat} {x : Int32} {tgt : Nat} (hdg : decode cc pc = .ok (.tableswitch dflt lo hi offs, len)) (h : (x.toInt < lo ∨ hi < x.toInt) ∨ (¬ x.toInt < lo ∧ ¬ hi < x.toInt ∧ offs[(x.toInt - lo).toNat]? = some dflt)) (ht : (pc : Int) + dflt = (tgt : Int))
    (k : W p l e R s m args below meth c H locs cells slots Q (F0 m tgt ls rest)) : W p l e R s m args below meth c H locs cells slots Q (F0 m pc ls (.int x :: rest)) := by
  rcases h with h | ⟨h1, h2, h3⟩
  · exact lv_tableOut hexec hb hdg h ht k
  · exact lv_tableIn hexec hb hdg h1 h2 h3 ht k
end CRT
end
section
noncomputable def f_X4_rowOf_2  : Nat → cr_V → Int32 → Int32 → Option (Int32)
  | 0, _, _, _ => none
  | n + 1, vl, x1, x2 => if (vl 4 0) ≤ x2 then (some (-1)) else (if cr_in x2 12 = true then if (vl 0 (cr_x x2)) = x1 then (some x2) else (f_X4_rowOf_2 n vl x1 (x2 + 1)) else none)
noncomputable def f_X4_rowOf (vl : cr_V) (x1 : Int32) : Option (Int32) := f_X4_rowOf_2 10100 vl x1 0

noncomputable def f_X4_isFull (vl : cr_V)  : Option (Int32) := if (vl 4 0) < 12 then (some 0) else (some 1)

noncomputable def f_X4_add (vl : cr_V) (x1 : Int32) (x2 : Int32) (x3 : Int32) : Option (Int32 × cr_V) := (f_X4_isFull vl).bind fun q1 => if q1 = 0 then (if cr_in (vl 4 0) 12 = true then some ((((vl 5 0) + 1) - 1), (cr_i (cr_i (cr_a (cr_a (cr_a (cr_a vl 0 (cr_x (vl 4 0)) (vl 5 0)) 1 (cr_x (vl 4 0)) x1) 2 (cr_x (vl 4 0)) x2) 3 (cr_x (vl 4 0)) x3) 4 ((vl 4 0) + 1)) 5 ((vl 5 0) + 1))) else none) else (some ((-2000000003), vl))

noncomputable def f_X4_copyFrom_2  : Nat → cr_V → cr_V → Int32 → Option (cr_V)
  | 0, _, _, _ => none
  | n + 1, vl, vl2, x2 => if 12 ≤ x2 then (some (cr_i (cr_i vl 4 (vl2 4 0)) 5 (vl2 5 0))) else (if cr_in x2 12 = true then f_X4_copyFrom_2 n (cr_a (cr_a (cr_a (cr_a vl 0 (cr_x x2) (vl2 0 (cr_x x2))) 1 (cr_x x2) (vl2 1 (cr_x x2))) 2 (cr_x x2) (vl2 2 (cr_x x2))) 3 (cr_x x2) (vl2 3 (cr_x x2))) vl2 (x2 + 1) else none)
noncomputable def f_X4_copyFrom (vl : cr_V) (vl2 : cr_V)  : Option (cr_V) := f_X4_copyFrom_2 10100 vl vl2 0

noncomputable def f_X4_dropEmpty_72 (k4_ : cr_V → Int32 → Int32 → Option (cr_V)) (vl : cr_V) (x1 : Int32) (x2 : Int32) : Option (cr_V) := k4_ vl x1 (x2 + 1)
noncomputable def f_X4_dropEmpty_4  : Nat → cr_V → Int32 → Int32 → Option (cr_V)
  | 0, _, _, _ => none
  | n + 1, vl, x1, x2 => if (vl 4 0) ≤ x2 then (some (cr_i vl 4 x1)) else (if cr_in x2 12 = true then if (vl 1 (cr_x x2)) ≤ 0 then (f_X4_dropEmpty_72 (f_X4_dropEmpty_4 n) vl x1 x2) else (if cr_in x1 12 = true then f_X4_dropEmpty_72 (f_X4_dropEmpty_4 n) (cr_a (cr_a (cr_a (cr_a vl 0 (cr_x x1) (vl 0 (cr_x x2))) 1 (cr_x x1) (vl 1 (cr_x x2))) 2 (cr_x x1) (vl 2 (cr_x x2))) 3 (cr_x x1) (vl 3 (cr_x x2))) (x1 + 1) x2 else none) else none)
noncomputable def f_X4_dropEmpty (vl : cr_V)  : Option (cr_V) := f_X4_dropEmpty_4 10100 vl 0 0

noncomputable def f_X4_cupAt (vl : cr_V) (x1 : Int32) (x2 : Int32) : Option (Int32) := if cr_in x1 12 = true then if 60 ≤ ((vl 2 (cr_x x1)) - ((x2 - (vl 3 (cr_x x1))) / 4)) then (some ((vl 2 (cr_x x1)) - ((x2 - (vl 3 (cr_x x1))) / 4))) else (some 60) else none

noncomputable def f_X4_monthsTooOld (vl : cr_V) (x1 : Int32) (x2 : Int32) : Option (Int32) := if cr_in x1 12 = true then if 0 ≤ ((x2 - (vl 3 (cr_x x1))) - 3) then (some ((x2 - (vl 3 (cr_x x1))) - 3)) else (some 0) else none

noncomputable def f_X4_allBags_4  : Nat → cr_V → Int32 → Int32 → Option (Int32)
  | 0, _, _, _ => none
  | n + 1, vl, x1, x2 => if (vl 4 0) ≤ x2 then (some x1) else (if cr_in x2 12 = true then f_X4_allBags_4 n vl (x1 + (vl 1 (cr_x x2))) (x2 + 1) else none)
noncomputable def f_X4_allBags (vl : cr_V)  : Option (Int32) := f_X4_allBags_4 10100 vl 0 0

noncomputable def f_X4_bagsToGive_32 (k4_ : cr_V → Int32 → Int32 → Int32 → Option (Int32)) (vl : cr_V) (x1 : Int32) (x2 : Int32) (x3 : Int32) : Option (Int32) := k4_ vl x1 x2 (x3 + 1)
noncomputable def f_X4_bagsToGive_4  : Nat → cr_V → Int32 → Int32 → Int32 → Option (Int32)
  | 0, _, _, _, _ => none
  | n + 1, vl, x1, x2, x3 => if (vl 4 0) ≤ x3 then (some x2) else ((f_X4_cupAt vl x3 x1).bind fun q2 => if q2 < 70 then (f_X4_bagsToGive_32 (f_X4_bagsToGive_4 n) vl x1 x2 x3) else (if cr_in x3 12 = true then f_X4_bagsToGive_32 (f_X4_bagsToGive_4 n) vl x1 (x2 + (vl 1 (cr_x x3))) x3 else none))
noncomputable def f_X4_bagsToGive (vl : cr_V) (x1 : Int32) : Option (Int32) := f_X4_bagsToGive_4 10100 vl x1 0 0

noncomputable def f_X0_copyFrom_2  : Nat → cr_V → cr_V → Int32 → Option (cr_V)
  | 0, _, _, _ => none
  | n + 1, vk, vk2, x2 => if 6 ≤ x2 then (some (cr_i vk 2 (vk2 2 0))) else (if cr_in x2 6 = true then f_X0_copyFrom_2 n (cr_a (cr_a vk 0 (cr_x x2) (vk2 0 (cr_x x2))) 1 (cr_x x2) (vk2 1 (cr_x x2))) vk2 (x2 + 1) else none)
noncomputable def f_X0_copyFrom (vk : cr_V) (vk2 : cr_V)  : Option (cr_V) := f_X0_copyFrom_2 10100 vk vk2 0

noncomputable def f_X0_isOpen (vk : cr_V) (x1 : Int32) : Option (Int32) := if x1 < 0 then (some 0) else (if (vk 2 0) ≤ x1 then (some 0) else (some 1))

noncomputable def f_X0_add (vk : cr_V) (x1 : Int32) (x2 : Int32) : Option (Int32 × cr_V) := if (vk 2 0) < 6 then (if cr_in (vk 2 0) 6 = true then some ((((vk 2 0) + 1) - 1), (cr_i (cr_a (cr_a vk 0 (cr_x (vk 2 0)) x1) 1 (cr_x (vk 2 0)) x2) 2 ((vk 2 0) + 1))) else none) else (some ((-2000000003), vk))

noncomputable def f_X0_drop_13  : Nat → cr_V → Int32 → Option (cr_V)
  | 0, _, _ => none
  | n + 1, vk, x2 => if (vk 2 0) ≤ x2 then (some (cr_i vk 2 ((vk 2 0) - 1))) else (if cr_in x2 6 = true then if cr_in (x2 - 1) 6 = true then f_X0_drop_13 n (cr_a (cr_a vk 0 (cr_x (x2 - 1)) (vk 0 (cr_x x2))) 1 (cr_x (x2 - 1)) (vk 1 (cr_x x2))) (x2 + 1) else none else none)
noncomputable def f_X0_drop (vk : cr_V) (x1 : Int32) : Option (cr_V) := (f_X0_isOpen vk x1).bind fun q4 => if q4 = 0 then (some vk) else (f_X0_drop_13 10100 vk (x1 + 1))

noncomputable def f_X0_dropBefore_49 (k4_ : cr_V → Int32 → Int32 → Int32 → Option (Int32 × cr_V)) (vk : cr_V) (x1 : Int32) (x2 : Int32) (x3 : Int32) : Option (Int32 × cr_V) := k4_ vk x1 x2 (x3 + 1)
noncomputable def f_X0_dropBefore_4  : Nat → cr_V → Int32 → Int32 → Int32 → Option (Int32 × cr_V)
  | 0, _, _, _, _ => none
  | n + 1, vk, x1, x2, x3 => if (vk 2 0) ≤ x3 then (some (((vk 2 0) - x2), (cr_i vk 2 x2))) else (if cr_in x3 6 = true then if (vk 0 (cr_x x3)) < x1 then (f_X0_dropBefore_49 (f_X0_dropBefore_4 n) vk x1 x2 x3) else (if cr_in x2 6 = true then f_X0_dropBefore_49 (f_X0_dropBefore_4 n) (cr_a (cr_a vk 0 (cr_x x2) (vk 0 (cr_x x3))) 1 (cr_x x2) (vk 1 (cr_x x3))) x1 (x2 + 1) x3 else none) else none)
noncomputable def f_X0_dropBefore (vk : cr_V) (x1 : Int32) : Option (Int32 × cr_V) := f_X0_dropBefore_4 10100 vk x1 0 0
end
section
noncomputable def f_X3_payForBag (vh : cr_V) (vl : cr_V) (vk : cr_V) (x1 : Int32) (x2 : Int32) (x3 : Int32) : Option (Int32) := if 1 ≤ ((x1 + ((x2 - 80) * (vh 3 2))) - ((vh 3 3) * x3)) then (some ((x1 + ((x2 - 80) * (vh 3 2))) - ((vh 3 3) * x3))) else (some 1)

noncomputable def f_X6_bandOf  (x0 : Int32) : Option (Int32) := if 70 ≤ x0 then (if 80 ≤ x0 then (if 90 ≤ x0 then (some 3) else (some 2)) else (some 1)) else (some 0)

noncomputable def f_X1_rate_45 (k3_ : cr_V → cr_V → cr_V → cr_V → Int32 → Int32 → Int32 → Option (cr_V)) (vd : cr_V) (vh : cr_V) (vl : cr_V) (vk : cr_V) (x2 : Int32) (x3 : Int32) (x4 : Int32) (x5 : Int32) (s0 : Int32) (s1 : Int32) : Option (cr_V) := if cr_in s1 12 = true then if cr_in x4 12 = true then (f_X4_monthsTooOld vl x4 x3).bind fun q3 => (f_X3_payForBag vh vl vk x2 x5 q3).bind fun q4 => (f_X6_bandOf x5).bind fun q5 => if cr_in q5 4 = true then k3_ (cr_a (cr_a (cr_a (cr_a vd 8 (cr_x s1) (vp_nar .boolean s0)) 9 (cr_x x4) x5) 10 (cr_x x4) q4) 11 (cr_x x4) (((cr_a vd 10 (cr_x x4) q4) 10 (cr_x x4)) - (vh 2 (cr_x q5)))) vh vl vk x2 x3 (x4 + 1) else none else none else none
noncomputable def f_X1_rate_3  : Nat → cr_V → cr_V → cr_V → cr_V → Int32 → Int32 → Int32 → Option (cr_V)
  | 0, _, _, _, _, _, _, _ => none
  | n + 1, vd, vh, vl, vk, x2, x3, x4 => if (vl 4 0) ≤ x4 then (some vd) else ((f_X4_cupAt vl x4 x3).bind fun q8 => if q8 < 70 then (f_X1_rate_45 (f_X1_rate_3 n) vd vh vl vk x2 x3 x4 q8 0 x4) else (f_X1_rate_45 (f_X1_rate_3 n) vd vh vl vk x2 x3 x4 q8 1 x4))
noncomputable def f_X1_rate (vd : cr_V) (vh : cr_V) (vl : cr_V) (vk : cr_V) (x2 : Int32) (x3 : Int32) : Option (cr_V) := f_X1_rate_3 10100 vd vh vl vk x2 x3 0

noncomputable def f_X1_rowOfGreatestGain_39 (k4_ : cr_V → Int32 → Int32 → Int32 → Option (Int32)) (vd : cr_V) (x1 : Int32) (x2 : Int32) (x3 : Int32) : Option (Int32) := k4_ vd x1 x2 (x3 + 1)
noncomputable def f_X1_rowOfGreatestGain_37 (k4_ : cr_V → Int32 → Int32 → Int32 → Option (Int32)) (vd : cr_V) (x1 : Int32) (x3 : Int32) : Option (Int32) := f_X1_rowOfGreatestGain_39 k4_ vd x1 x3 x3
noncomputable def f_X1_rowOfGreatestGain_4  : Nat → cr_V → Int32 → Int32 → Int32 → Option (Int32)
  | 0, _, _, _, _ => none
  | n + 1, vd, x1, x2, x3 => if x1 ≤ x3 then (some x2) else (if cr_in x3 12 = true then if (vd 8 (cr_x x3)) = 0 then (f_X1_rowOfGreatestGain_39 (f_X1_rowOfGreatestGain_4 n) vd x1 x2 x3) else (if x2 < 0 then (f_X1_rowOfGreatestGain_37 (f_X1_rowOfGreatestGain_4 n) vd x1 x3) else (if cr_in x2 12 = true then if (vd 11 (cr_x x3)) ≤ (vd 11 (cr_x x2)) then (f_X1_rowOfGreatestGain_39 (f_X1_rowOfGreatestGain_4 n) vd x1 x2 x3) else (f_X1_rowOfGreatestGain_37 (f_X1_rowOfGreatestGain_4 n) vd x1 x3) else none)) else none)
noncomputable def f_X1_rowOfGreatestGain (vd : cr_V) (x1 : Int32) : Option (Int32) := f_X1_rowOfGreatestGain_4 10100 vd x1 (-1) 0

noncomputable def f_X1_take_125  (vd : cr_V) (x1 : Int32) : Option (cr_V) := if cr_in x1 12 = true then some (cr_a vd 8 (cr_x x1) (vp_nar .boolean 0)) else none
noncomputable def f_X1_take (vd : cr_V) (x1 : Int32) (x2 : Int32) : Option (cr_V) := if (vd 2 0) < 12 then (if cr_in (vd 2 0) 12 = true then if cr_in x1 12 = true then if (if x2 < (vd 3 0) then x2 else (vd 3 0)) = x2 then (f_X1_take_125 (cr_i (cr_i (cr_i (cr_i (cr_i (cr_i (cr_a (cr_a vd 0 (cr_x (vd 2 0)) x1) 1 (cr_x (vd 2 0)) (if x2 < (vd 3 0) then x2 else (vd 3 0))) 2 ((vd 2 0) + 1)) 3 ((vd 3 0) - (if x2 < (vd 3 0) then x2 else (vd 3 0)))) 4 ((vd 4 0) + ((if x2 < (vd 3 0) then x2 else (vd 3 0)) * (vd 10 (cr_x x1))))) 5 ((vd 5 0) + ((if x2 < (vd 3 0) then x2 else (vd 3 0)) * (vd 11 (cr_x x1))))) 6 ((vd 6 0) + ((if x2 < (vd 3 0) then x2 else (vd 3 0)) * (vd 9 (cr_x x1))))) 7 ((vd 7 0) + 1)) x1) else (f_X1_take_125 (cr_i (cr_i (cr_i (cr_i (cr_i (cr_a (cr_a vd 0 (cr_x (vd 2 0)) x1) 1 (cr_x (vd 2 0)) (if x2 < (vd 3 0) then x2 else (vd 3 0))) 2 ((vd 2 0) + 1)) 3 ((vd 3 0) - (if x2 < (vd 3 0) then x2 else (vd 3 0)))) 4 ((vd 4 0) + ((if x2 < (vd 3 0) then x2 else (vd 3 0)) * (vd 10 (cr_x x1))))) 5 ((vd 5 0) + ((if x2 < (vd 3 0) then x2 else (vd 3 0)) * (vd 11 (cr_x x1))))) 6 ((vd 6 0) + ((if x2 < (vd 3 0) then x2 else (vd 3 0)) * (vd 9 (cr_x x1))))) x1) else none else none) else (some vd)

noncomputable def f_X1_plan_93 (k45_ : cr_V → cr_V → cr_V → cr_V → Int32 → Option (cr_V)) (vd : cr_V) (vh : cr_V) (vl : cr_V) (vk : cr_V) (x4 : Int32) : Option (cr_V) := k45_ vd vh vl vk (x4 + 1)
noncomputable def f_X1_plan_45  : Nat → cr_V → cr_V → cr_V → cr_V → Int32 → Option (cr_V)
  | 0, _, _, _, _, _ => none
  | n + 1, vd, vh, vl, vk, x4 => if 12 ≤ x4 then (some vd) else (if (vd 3 0) ≤ 0 then (some vd) else ((f_X1_rowOfGreatestGain vd (vl 4 0)).bind fun q3 => if q3 < 0 then (f_X1_plan_93 (f_X1_plan_45 n) vd vh vl vk x4) else (if cr_in q3 12 = true then (f_X1_take vd q3 (vl 1 (cr_x q3))).bind fun q6 => f_X1_plan_93 (f_X1_plan_45 n) q6 vh vl vk x4 else none)))
noncomputable def f_X1_plan (vd : cr_V) (vh : cr_V) (vl : cr_V) (vk : cr_V) (x2 : Int32) (x3 : Int32) : Option (cr_V) := (f_X1_rate vd vh vl vk x2 x3).bind fun q7 => f_X1_plan_45 10100 (cr_i (cr_i (cr_i (cr_i (cr_i (cr_i q7 2 0) 3 (vh 3 0)) 4 0) 5 0) 6 0) 7 0) vh vl vk 0

noncomputable def f_X3_copyFrom_49  : Nat → cr_V → cr_V → cr_V → cr_V → cr_V → cr_V → Int32 → Option (cr_V × cr_V × cr_V)
  | 0, _, _, _, _, _, _, _ => none
  | n + 1, vh, vl, vk, vh2, vl2, vk2, x2 => if 5 ≤ x2 then (some (cr_i (cr_i (cr_i (cr_i (cr_i vh 4 (vh2 4 0)) 5 (vh2 5 0)) 6 (vh2 6 0)) 7 (vh2 7 0)) 8 (vh2 8 0), vl, vk)) else (if cr_in x2 5 = true then f_X3_copyFrom_49 n (cr_a vh 3 (cr_x x2) (vh2 3 (cr_x x2))) vl vk vh2 vl2 vk2 (x2 + 1) else none)
noncomputable def f_X3_copyFrom_24  : Nat → cr_V → cr_V → cr_V → cr_V → cr_V → cr_V → Int32 → Option (cr_V × cr_V × cr_V)
  | 0, _, _, _, _, _, _, _ => none
  | n + 1, vh, vl, vk, vh2, vl2, vk2, x2 => if 4 ≤ x2 then (f_X3_copyFrom_49 10100 vh vl vk vh2 vl2 vk2 0) else (if cr_in x2 4 = true then f_X3_copyFrom_24 n (cr_a vh 2 (cr_x x2) (vh2 2 (cr_x x2))) vl vk vh2 vl2 vk2 (x2 + 1) else none)
noncomputable def f_X3_copyFrom (vh : cr_V) (vl : cr_V) (vk : cr_V) (vh2 : cr_V) (vl2 : cr_V) (vk2 : cr_V)  : Option (cr_V × cr_V × cr_V) := (f_X4_copyFrom vl vl2).bind fun q5 => (f_X0_copyFrom vk vk2).bind fun q6 => f_X3_copyFrom_24 10100 vh q5 q6 vh2 vl2 vk2 0

noncomputable def f_X6_isWithin  (x0 : Int32) (x1 : Int32) (x2 : Int32) : Option (Int32) := if x0 < x1 then (some 0) else (if x2 < x0 then (some 0) else (some 1))

noncomputable def f_X3_bringLot (vh : cr_V) (vl : cr_V) (vk : cr_V) (x1 : Int32) (x2 : Int32) : Option (Int32 × cr_V) := (f_X6_isWithin x1 1 999).bind fun q1 => if q1 = 0 then (some ((-2000000001), vl)) else ((f_X6_isWithin x2 60 100).bind fun q3 => if q3 = 0 then (some ((-2000000001), vl)) else ((f_X4_add vl x1 x2 (vh 4 0)).bind fun q5 => some (q5.1, q5.2)))

noncomputable def f_X3_partLot (vh : cr_V) (vl : cr_V) (vk : cr_V) (x1 : Int32) (x2 : Int32) : Option (Int32 × cr_V) := (f_X4_rowOf vl x1).bind fun q1 => if q1 < 0 then (some ((-2000000001), vl)) else (if 1 ≤ x2 then (if cr_in q1 12 = true then if x2 < (vl 1 (cr_x q1)) then ((f_X4_isFull vl).bind fun q6 => if q6 = 0 then ((f_X4_add (cr_a vl 1 (cr_x q1) ((vl 1 (cr_x q1)) - x2)) x2 (vl 2 (cr_x q1)) (vl 3 (cr_x q1))).bind fun q8 => some (q8.1, q8.2)) else (some ((-2000000003), vl))) else (some ((-2000000002), vl)) else none) else (some ((-2000000001), vl)))

noncomputable def f_X3_blendLots_163  (vh : cr_V) (vl : cr_V) (vk : cr_V) (x2 : Int32) (x4 : Int32) (x5 : Int32) (x6 : Int32) (x7 : Int32) : Option (Int32 × cr_V) := (f_X4_cupAt vl x5 (vh 4 0)).bind fun q1 => (f_X4_cupAt vl x6 (vh 4 0)).bind fun q2 => if cr_in x5 12 = true then if cr_in x6 12 = true then (f_X4_dropEmpty (cr_a (cr_a vl 1 (cr_x x5) ((vl 1 (cr_x x5)) - x2)) 1 (cr_x x6) (((cr_a vl 1 (cr_x x5) ((vl 1 (cr_x x5)) - x2)) 1 (cr_x x6)) - x4))).bind fun q5 => if x7 = 0 then none else (f_X4_add q5 x7 (((x2 * q1) + (x4 * q2)) / x7) (vh 4 0)).bind fun q7 => some (q7.1, q7.2) else none else none
noncomputable def f_X3_blendLots_130  (vh : cr_V) (vl : cr_V) (vk : cr_V) (x2 : Int32) (x4 : Int32) (x5 : Int32) (x6 : Int32) (x7 : Int32) (x8 : Int32) (s0 : Int32) : Option (Int32 × cr_V) := if 9999 < x7 then (some ((-2000000003), vl)) else ((f_X4_isFull vl).bind fun q9 => if q9 = 0 then (f_X3_blendLots_163 vh vl vk x2 x4 x5 x6 x7) else (if x8 = 0 then (if s0 = 0 then (some ((-2000000003), vl)) else (f_X3_blendLots_163 vh vl vk x2 x4 x5 x6 x7)) else (f_X3_blendLots_163 vh vl vk x2 x4 x5 x6 x7)))
noncomputable def f_X3_blendLots_108  (vh : cr_V) (vl : cr_V) (vk : cr_V) (x2 : Int32) (x4 : Int32) (x5 : Int32) (x6 : Int32) (x7 : Int32) (s0 : Int32) : Option (Int32 × cr_V) := if cr_in x6 12 = true then if x4 = (vl 1 (cr_x x6)) then (f_X3_blendLots_130 vh vl vk x2 x4 x5 x6 x7 s0 1) else (f_X3_blendLots_130 vh vl vk x2 x4 x5 x6 x7 s0 0) else none
noncomputable def f_X3_blendLots (vh : cr_V) (vl : cr_V) (vk : cr_V) (x1 : Int32) (x2 : Int32) (x3 : Int32) (x4 : Int32) : Option (Int32 × cr_V) := (f_X4_rowOf vl x1).bind fun q15 => (f_X4_rowOf vl x3).bind fun q16 => if q15 < 0 then (some ((-2000000001), vl)) else (if q16 < 0 then (some ((-2000000001), vl)) else (if q15 = q16 then (some ((-2000000001), vl)) else (if x2 < 1 then (some ((-2000000001), vl)) else (if 1 ≤ x4 then (if cr_in q15 12 = true then if (vl 1 (cr_x q15)) < x2 then (some ((-2000000002), vl)) else (if cr_in q16 12 = true then if x4 ≤ (vl 1 (cr_x q16)) then (if x2 = (vl 1 (cr_x q15)) then (f_X3_blendLots_108 vh vl vk x2 x4 q15 q16 (x2 + x4) 1) else (f_X3_blendLots_108 vh vl vk x2 x4 q15 q16 (x2 + x4) 0)) else (some ((-2000000002), vl)) else none) else none) else (some ((-2000000001), vl))))))

noncomputable def f_X3_cupAnew (vh : cr_V) (vl : cr_V) (vk : cr_V) (x1 : Int32) : Option (Int32 × cr_V) := (f_X4_rowOf vl x1).bind fun q1 => if 0 ≤ q1 then (if cr_in q1 12 = true then if 1 < (vl 1 (cr_x q1)) then ((f_X4_cupAt (cr_a vl 1 (cr_x q1) ((vl 1 (cr_x q1)) - 1)) q1 (vh 4 0)).bind fun q5 => some (((cr_a vl 2 (cr_x q1) q5) 2 (cr_x q1)), (cr_a (cr_a (cr_a vl 1 (cr_x q1) ((vl 1 (cr_x q1)) - 1)) 2 (cr_x q1) q5) 3 (cr_x q1) (vh 4 0)))) else (some ((-2000000002), vl)) else none) else (some ((-2000000001), vl))

noncomputable def f_X3_changeWorth (vh : cr_V) (vl : cr_V) (vk : cr_V) (x1 : Int32) (x2 : Int32) : Option (Int32 × cr_V) := (f_X6_isWithin x1 0 3).bind fun q1 => if q1 = 0 then (some ((-2000000001), vh)) else ((f_X6_isWithin x2 1 999).bind fun q3 => if q3 = 0 then (some ((-2000000001), vh)) else (if cr_in x1 4 = true then some ((vh 2 (cr_x x1)), (cr_a vh 2 (cr_x x1) x2)) else none))

noncomputable def f_J9_floorMod_7cf53  (x0 : Int32) (x1 : Int32) : Option (Int32) := if x1 = 0 then none else if 0 ≤ (x0 ^^^ x1) then (some (x0 - x0 / x1 * x1)) else (if (x0 - x0 / x1 * x1) = 0 then (some (x0 - x0 / x1 * x1)) else (some ((x0 - x0 / x1 * x1) + x1)))

noncomputable def f_X3_isDeliveryMonth (vh : cr_V) (vl : cr_V) (vk : cr_V) (x1 : Int32) : Option (Int32) := (f_J9_floorMod_7cf53 x1 12).bind fun q1 => if (((vh 3 1) >>> (q1 &&& 31)) &&& 1) = 1 then (some 1) else (some 0)

noncomputable def f_X3_sellContract (vh : cr_V) (vl : cr_V) (vk : cr_V) (x1 : Int32) (x2 : Int32) : Option (Int32 × cr_V) := (f_X6_isWithin x1 0 999).bind fun q1 => if q1 = 0 then (some ((-2000000001), vk)) else ((f_X6_isWithin x2 1 999).bind fun q3 => if q3 = 0 then (some ((-2000000001), vk)) else (if x1 < (vh 4 0) then (some ((-2000000002), vk)) else ((f_X3_isDeliveryMonth vh vl vk x1).bind fun q6 => if q6 = 0 then (some ((-2000000002), vk)) else ((f_X0_add vk x1 x2).bind fun q8 => some (q8.1, q8.2)))))

noncomputable def f_X3_buyContractBack (vh : cr_V) (vl : cr_V) (vk : cr_V) (x1 : Int32) (x2 : Int32) : Option (Int32 × cr_V × cr_V) := (f_X0_isOpen vk x1).bind fun q1 => if q1 = 0 then (some ((-2000000001), vh, vk)) else ((f_X6_isWithin x2 1 999).bind fun q3 => if q3 = 0 then (some ((-2000000001), vh, vk)) else (if cr_in x1 6 = true then (f_X0_drop vk x1).bind fun q6 => some (((vh 3 0) * ((vk 1 (cr_x x1)) - x2)), cr_i vh 5 ((vh 5 0) + ((vh 3 0) * ((vk 1 (cr_x x1)) - x2))), q6) else none))

noncomputable def f_X3_meetContract_63  : Nat → cr_V → cr_V → cr_V → cr_V → Int32 → Int32 → Option (Int32 × cr_V × cr_V × cr_V × cr_V)
  | 0, _, _, _, _, _, _ => none
  | n + 1, vh, vl, vk, vd, x1, x3 => if (vd 2 0) ≤ x3 then ((f_X4_dropEmpty vl).bind fun q2 => (f_X0_drop vk x1).bind fun q3 => some ((vd 4 0), cr_i (cr_i (cr_i vh 5 ((vh 5 0) + (vd 4 0))) 6 ((vh 6 0) + 1)) 8 ((vh 8 0) + (vh 3 0)), q2, q3, vd)) else (if cr_in x3 12 = true then if cr_in (vd 0 (cr_x x3)) 12 = true then f_X3_meetContract_63 n vh (cr_a vl 1 (cr_x (vd 0 (cr_x x3))) ((vl 1 (cr_x (vd 0 (cr_x x3)))) - (vd 1 (cr_x x3)))) vk vd x1 (x3 + 1) else none else none)
noncomputable def f_X3_meetContract (vh : cr_V) (vl : cr_V) (vk : cr_V) (vd : cr_V) (x1 : Int32) : Option (Int32 × cr_V × cr_V × cr_V × cr_V) := (f_X0_isOpen vk x1).bind fun q6 => if q6 = 0 then (some ((-2000000001), vh, vl, vk, vd)) else (if cr_in x1 6 = true then if (vk 0 (cr_x x1)) = (vh 4 0) then ((f_X1_plan vd vh vl vk (vk 1 (cr_x x1)) (vh 4 0)).bind fun q10 => if (q10 3 0) ≤ 0 then (f_X3_meetContract_63 10100 vh vl vk q10 x1 0) else (some ((-2000000002), vh, vl, vk, q10))) else (some ((-2000000002), vh, vl, vk, vd)) else none)

noncomputable def f_X3_passMonths (vh : cr_V) (vl : cr_V) (vk : cr_V) (x1 : Int32) : Option (Int32 × cr_V × cr_V) := (f_X6_isWithin x1 1 24).bind fun q1 => if q1 = 0 then (some ((-2000000001), vh, vk)) else (if ((vh 4 0) + x1) ≤ 999 then ((f_X0_dropBefore vk ((vh 4 0) + x1)).bind fun q4 => some (q4.1, cr_i (cr_i (cr_i vh 4 ((vh 4 0) + x1)) 7 ((vh 7 0) + q4.1)) 5 ((vh 5 0) - ((q4.1 * (vh 3 0)) * (vh 3 4))), q4.2)) else (some ((-2000000003), vh, vk)))

noncomputable def f_X3_tellOfLot (vh : cr_V) (vl : cr_V) (vk : cr_V) (x1 : Int32) (x2 : Int32) : Option (Int32) := if x2 = 0 then (if cr_in x1 12 = true then some (vl 1 (cr_x x1)) else none) else (if x2 = 1 then (if cr_in x1 12 = true then some (vl 2 (cr_x x1)) else none) else (if x2 = 2 then (if cr_in x1 12 = true then some (vl 3 (cr_x x1)) else none) else (if x2 = 3 then ((f_X4_cupAt vl x1 (vh 4 0)).bind fun q8 => some q8) else (if x2 = 4 then ((f_X4_cupAt vl x1 (vh 4 0)).bind fun q10 => (f_X6_bandOf q10).bind fun q11 => if cr_in q11 4 = true then some (vh 2 (cr_x q11)) else none) else (if x2 = 5 then ((f_X4_monthsTooOld vl x1 (vh 4 0)).bind fun q14 => some q14) else (if x2 = 6 then ((f_X4_cupAt vl x1 (vh 4 0)).bind fun q16 => (f_X6_bandOf q16).bind fun q17 => some q17) else (some (-2000000001))))))))

noncomputable def f_X3_tellCount (vh : cr_V) (vl : cr_V) (vk : cr_V) (x1 : Int32) : Option (Int32) := if x1 = 0 then (some (vl 4 0)) else (if x1 = 1 then ((f_X4_allBags vl).bind fun q3 => some q3) else (if x1 = 2 then (some (vh 4 0)) else (if x1 = 3 then (some (vk 2 0)) else (if x1 = 4 then (some (vh 5 0)) else (if x1 = 5 then (some (vh 6 0)) else (if x1 = 6 then (some (vh 7 0)) else (if x1 = 7 then (some (vh 8 0)) else (if x1 = 8 then ((f_X4_bagsToGive vl (vh 4 0)).bind fun q11 => some q11) else (if x1 = 9 then (some (vl 5 0)) else (some (-2000000001)))))))))))

noncomputable def f_X6_isError  (x0 : Int32) : Option (Int32) := (f_X6_isWithin x0 (-2000000004) (-2000000001)).bind fun q1 => if cr_bool q1 = true then some q1 else none
end
section
/-- the rooms, moved on by one place -/
def cr_rot {α : Type} (x : Nat → α) : Nat → α := fun j => cond (Nat.beq j 0) (x 1) (cond (Nat.beq j 1) (x 2) (cond (Nat.beq j 2) (x 3) (cond (Nat.beq j 3) (x 0) (x j))))
def cr_setR (x : Nat → Nat → cr_V) (k : Nat) (h l c : cr_V) : Nat → Nat → cr_V := fun j => cond (Nat.beq j k) (fun i => cond (Nat.beq i 0) h (cond (Nat.beq i 1) l c)) (x j)
noncomputable def f_X2_dropOldest (vs : cr_V) (vx : Nat → Nat → cr_V) : Option (cr_V × (Nat → Nat → cr_V)) := some (cr_i vs 1 3, cr_rot vx)
noncomputable def f_X2_record_12 (vs : cr_V) (vx : Nat → Nat → cr_V) (vh vl vk : cr_V) : Option (cr_V × (Nat → Nat → cr_V)) := if cr_in (vs 1 0) 4 = true then (f_X3_copyFrom (vx (cr_x (vs 1 0)) 0) (vx (cr_x (vs 1 0)) 1) (vx (cr_x (vs 1 0)) 2) vh vl vk).bind fun q => some (cr_i vs 1 ((vs 1 0) + 1), cr_setR vx (cr_x (vs 1 0)) q.1 q.2.1 q.2.2) else none
noncomputable def f_X2_record (vs : cr_V) (vx : Nat → Nat → cr_V) (vh vl vk : cr_V) : Option (cr_V × (Nat → Nat → cr_V)) := if (vs 1 0) < 4 then f_X2_record_12 vs vx vh vl vk else (f_X2_dropOldest vs vx).bind fun q => f_X2_record_12 q.1 q.2 vh vl vk
noncomputable def f_X2_restoreLatest (vs : cr_V) (vx : Nat → Nat → cr_V) (vh vl vk : cr_V) : Option (cr_V × cr_V × cr_V × cr_V) := if (vs 1 0) ≤ 0 then some (vs, vh, vl, vk) else if cr_in ((vs 1 0) - 1) 4 = true then (f_X3_copyFrom vh vl vk (vx (cr_x ((vs 1 0) - 1)) 0) (vx (cr_x ((vs 1 0) - 1)) 1) (vx (cr_x ((vs 1 0) - 1)) 2)).bind fun q => some (cr_i vs 1 ((vs 1 0) - 1), q.1, q.2.1, q.2.2) else none
end
section
abbrev cr_wX0 (ct : Nat → ClassId) (a : Nat → Nat → Nat) : va_W := [(a 0 0, .inr (6, [.ref (a 1 0), .ref (a 4 0), .ref (a 7 0), .ref (a 8 0), .ref (a 9 0)]))]
/-! worlds as rows of blocks: a call takes some blocks and gives them back -/
theorem cr_nodup {ws : va_W} : (∀ (i j : Nat) (p q : Nat × va_E), ws[i]? = some p → ws[j]? = some q → p.1 = q.1 → i = j) ↔ (ws.map Prod.fst).Nodup := by
  unfold List.Nodup
  rw [List.pairwise_iff_getElem]
  constructor
  · intro h i j hi hj hij he
    simp only [List.length_map] at hi hj
    simp only [List.getElem_map] at he
    have := h i j ws[i] ws[j] (by simp [hi]) (by simp [hj]) he
    omega
  · intro h i j p q hi hj he
    obtain ⟨h1, h2⟩ := List.getElem?_eq_some_iff.mp hi
    obtain ⟨h3, h4⟩ := List.getElem?_eq_some_iff.mp hj
    rcases Nat.lt_trichotomy i j with h5 | h5 | h5
    · have := h i j (by simpa using h1) (by simpa using h3) h5
      simp only [List.getElem_map, h2, h4] at this
      exact absurd he this
    · exact h5
    · have := h j i (by simpa using h3) (by simpa using h1) h5
      simp only [List.getElem_map, h2, h4] at this
      exact absurd he.symm this
theorem cr_permP {D : va_G} {cl : List vw_C} {ws w' : va_W} {H : Heap} (h : va_P D cl ws H) (hp : w'.Perm ws) : va_P D cl w' H := by
  intro k q hk
  obtain ⟨i, hi⟩ := List.getElem?_of_mem (hp.mem_iff.mp (List.mem_of_getElem? hk))
  exact h i q hi
theorem cr_permD {A : Nat → Prop} {ws w' : va_W} (h : va_D A ws) (hp : w'.Perm ws) : va_D A w' := by
  refine ⟨cr_nodup.mpr ((hp.map Prod.fst).nodup_iff.mpr (cr_nodup.mp h.1)), fun k q hk => ?_⟩
  obtain ⟨i, hi⟩ := List.getElem?_of_mem (hp.mem_iff.mp (List.mem_of_getElem? hk))
  exact h.2 i q hi
theorem cr_rangeF {α : Type} (L : List α) : (List.range L.length).filterMap (fun i => L[i]?) = L := by
  induction L with
  | nil => rfl
  | cons x L ih =>
    rw [List.length_cons, List.range_succ_eq_map, List.filterMap_cons, List.filterMap_map]
    show x :: _ = _
    congr 1
theorem cr_blk {Ls : List va_W} {n : Nat} (ps : List Nat) (hn : Ls.length = n) (hp : ps.Perm (List.range n)) : (ps.filterMap (fun i => Ls[i]?)).flatten.Perm Ls.flatten := by
  subst hn
  have h := hp.filterMap (fun i => Ls[i]?)
  rw [cr_rangeF] at h
  exact h.flatten
section CRB
variable {p : Program} {l : Launch} {e : Env} {R : Room} {s : State} {m : MethodId} {args : Array Value} {below : List Frame} {meth : Method} {c : Code} {H : Heap} {locs : List Loc} {cells slots : Nat} {Q : State → Prop}
variable {own : String} {Ts : List Cond} {cc : ByteArray} {nL : Nat} {ret : Option FieldType} {D : va_G} {ct : Nat → ClassId} {A : Nat → Prop} {ws : va_W} {pc : Nat} {ls : Array Slot} {rest st : List Value} {a b : Nat}
variable {y : MethodName} {bytes : ByteArray} {maxL n index nb : Nat} {rt : Option FieldType} {wy : List Cond} {rm : Room} {Cn : String} {As : List Value} {wc : va_W} {ci : Nat} {fs : List Value} {T : u_T} {N : Nat}
theorem cr_wd.perm {w' : va_W} (hW : cr_wd D A s ws H locs) (hp : w'.Perm ws) : cr_wd D A s w' H locs := ⟨cr_permP hW.1 hp, cr_permD hW.2.1 hp, hW.2.2.1, hW.2.2.2⟩
/-- what a callee's world becomes, beside the rest -/
theorem cr_backP {wr w1 w2 : va_W} {H1 : Heap} {locs1 : List Loc} (hW : cr_wd D A s (wc ++ wr) H locs) (hp : w2.Perm (w1 ++ wr))
    (hk : ∀ q : Nat, q < H.size → ¬ va_A wc H.size q → H1[q]? = H[q]?) (hF : ∀ q, va_A wc H.size q → A q) (hP1 : va_P D vwCl w1 H1) (hD1 : va_D (va_A wc H.size) w1) (hS1 : va_S A s.heap H1 locs1) : cr_wd D A s w2 H1 locs1 := by
  obtain ⟨hP, hD, hS, hA⟩ := hW
  have hmem : ∀ q ∈ wr, ∃ k, (wc ++ wr)[wc.length + k]? = some q ∧ wr[k]? = some q := fun q hq => by
    obtain ⟨k, hk⟩ := List.getElem?_of_mem hq
    exact ⟨k, by rw [List.getElem?_append_right (by omega)]; simpa using hk, hk⟩
  have apart : ∀ (k : Nat) (q : Nat × va_E), wr[k]? = some q → q.1 < H.size ∧ ¬ va_A wc H.size q.1 := by
    intro k q hq
    have h1 : (wc ++ wr)[wc.length + k]? = some q := by rw [List.getElem?_append_right (by omega)]; simpa using hq
    have hl := (hP _ q h1).lt
    refine ⟨hl, fun h => ?_⟩
    rcases h with ⟨k2, e, h⟩ | h
    · have hk2 : k2 < wc.length := (List.getElem?_eq_some_iff.mp h).1
      have h2 : (wc ++ wr)[k2]? = some (q.1, e) := by rw [List.getElem?_append_left hk2]; exact h
      have := hD.1 _ _ q (q.1, e) h1 h2 rfl
      omega
    · omega
  have hPr : va_P D vwCl wr H1 := fun k q hq => by
    have h1 : (wc ++ wr)[wc.length + k]? = some q := by rw [List.getElem?_append_right (by omega)]; simpa using hq
    exact (hP _ q h1).kept (hk q.1 (apart k q hq).1 (apart k q hq).2)
  have hDr : va_D A wr := by
    refine ⟨fun i j p q hi hj hpq => ?_, fun k q hq => ?_⟩
    · have h1 : (wc ++ wr)[wc.length + i]? = some p := by rw [List.getElem?_append_right (by omega)]; simpa using hi
      have h2 : (wc ++ wr)[wc.length + j]? = some q := by rw [List.getElem?_append_right (by omega)]; simpa using hj
      have := hD.1 _ _ p q h1 h2 hpq
      omega
    · have h1 : (wc ++ wr)[wc.length + k]? = some q := by rw [List.getElem?_append_right (by omega)]; simpa using hq
      exact hD.2 _ q h1
  refine ⟨cr_permP (va_P.app hP1 hPr) hp, cr_permD (va_D.app (hD1.weaken (fun k q _ h => hF q.1 h)) hDr (fun i j x y hx hy hxy => ?_)) hp, hS1, hA⟩
  exact (apart j y hy).2 (by rw [← hxy]; exact hD1.2 i x hx)
theorem cr_sub0 {wr : va_W} (hW : cr_wd D A s (wc ++ wr) H locs) : va_P D vwCl wc H ∧ va_D (fun _ => True) wc ∧ ∀ q, va_A wc H.size q → A q := by
  obtain ⟨hP, hD, hS, hA⟩ := hW
  have key : ∀ (k : Nat) (q : Nat × va_E), wc[k]? = some q → (wc ++ wr)[k]? = some q := fun k q hq => by rw [List.getElem?_append_left (List.getElem?_eq_some_iff.mp hq).1]; exact hq
  refine ⟨fun k q hq => hP k q (key k q hq), ⟨fun i j p q hi hj h => hD.1 i j p q (key i p hi) (key j q hj) h, fun _ _ _ => trivial⟩, fun q h => ?_⟩
  rcases h with ⟨k, e, h⟩ | h
  · exact hD.2 k (q, e) (key k _ h)
  · exact hA q (Nat.le_trans hS.1 h)
theorem cr_vVB {S : Type} {q : S} {w1 : S → va_W} (C : cr_Cx p s m meth c args own Ts cc nL ret D ct) (hW : cr_wd D A s ws H locs) (hM : Met l y wy rm (cr_pW D ct wc H.size (.ref b :: As)) (cr_QV D wc H.size (fun u : S => u = q) w1) 0 0 (va_A wc H.size)) (cw : CallW R s args own Cn index y bytes maxL rt wy rm 0 0 n) (bC bR : List Nat) (Ls : List va_W) (w2 : va_W) (L2 : List va_W)
    (hL : Ls.length = nb ∧ Ls.flatten = ws) (hL2 : (L2).length = nb ∧ (L2).flatten = w2) (hwc : (bC.filterMap (fun i => Ls[i]?)).flatten = wc) (hw1 : (bC.filterMap (fun i => (L2)[i]?)).flatten = w1 q) (hwr : bR.filterMap (fun i => (L2)[i]?) = bR.filterMap (fun i => Ls[i]?)) (hps : (bC ++ bR).Perm (List.range nb)) (q0 : Nat) (he : ws[q0]? = some (b, .inr (ci, fs))) (hc : vwCl[ci]? = some (Cn, T, N))
    (hn : As.length = n) (hls : ls.size = nL) (hst : st = As.reverse ++ .ref b :: rest) (hr : (rest.map fun v => v.category).sum ≤ 8) (hdg : decode cc pc = .ok (.invokevirtual index, 3)) (hf : cells ≤ R.cells ∧ slots ≤ R.slots)
    (kk : ∀ (H1 : Heap) (locs1 : List Loc), cr_wd D A s (w2) H1 locs1 → W p l e R s m args below meth c H1 locs1 cells slots Q (F0 m (pc + 3) ls rest)) : W p l e R s m args below meth c H locs cells slots Q (F0 m pc ls st) := by
  obtain ⟨hx, hb, hml, hown, hts, -, -, hK, hN⟩ := C
  have hp1 := cr_blk (bC ++ bR) hL.1 hps
  rw [List.filterMap_append, List.flatten_append, hL.2, hwc] at hp1
  have hWc := hW.perm hp1
  obtain ⟨hP0, hD0, hF⟩ := cr_sub0 hWc
  refine va_callv (va_runV (As := As) (rest := rest) ⟨hx, hb, hml, hown, hts⟩ hM cw ⟨cr_blindW, va_recv hK hW.1 hc he, fun U hU hWm => ⟨rfl, by rw [hU], by rw [hU]; exact hP0, va_K.moved hWm.alike hK, hD0, cr_NW.warm hWm hN⟩⟩ rfl hn hls hst (lv_room hr) hdg hf) hW.2.2.1 (fun q _ h => hF q h) hF (fun u t H1 locs1 ht hvm hw hB hz1 hk1 hS1 => ?_)
  subst hw
  have hp2 := cr_blk (bC ++ bR) (hL2).1 hps
  rw [List.filterMap_append, List.flatten_append, (hL2).2, hw1, hwr] at hp2
  exact kk H1 locs1 (cr_backP hWc hp2.symm hk1 hF (by rw [← ht]; exact hB.1) hB.2 hS1)
theorem cr_vWB {S : Type} {q : Int32 × S} {w1 : S → va_W} (C : cr_Cx p s m meth c args own Ts cc nL ret D ct) (hW : cr_wd D A s ws H locs) (hM : Met l y wy rm (cr_pW D ct wc H.size (.ref b :: As)) (cr_QW D wc H.size (fun r (u : S) => (r, u) = q) w1) 0 0 (va_A wc H.size)) (cw : CallW R s args own Cn index y bytes maxL rt wy rm 0 0 n) (bC bR : List Nat) (Ls : List va_W) (w2 : va_W) (L2 : List va_W)
    (hL : Ls.length = nb ∧ Ls.flatten = ws) (hL2 : (L2).length = nb ∧ (L2).flatten = w2) (hwc : (bC.filterMap (fun i => Ls[i]?)).flatten = wc) (hw1 : (bC.filterMap (fun i => (L2)[i]?)).flatten = w1 q.2) (hwr : bR.filterMap (fun i => (L2)[i]?) = bR.filterMap (fun i => Ls[i]?)) (hps : (bC ++ bR).Perm (List.range nb)) (q0 : Nat) (he : ws[q0]? = some (b, .inr (ci, fs))) (hc : vwCl[ci]? = some (Cn, T, N))
    (hn : As.length = n) (hls : ls.size = nL) (hst : st = As.reverse ++ .ref b :: rest) (hr : (rest.map fun v => v.category).sum ≤ 8) (hdg : decode cc pc = .ok (.invokevirtual index, 3)) (hf : cells ≤ R.cells ∧ slots ≤ R.slots)
    (kk : ∀ (H1 : Heap) (locs1 : List Loc), cr_wd D A s (w2) H1 locs1 → W p l e R s m args below meth c H1 locs1 cells slots Q (F0 m (pc + 3) ls (.int q.1 :: rest))) : W p l e R s m args below meth c H locs cells slots Q (F0 m pc ls st) := by
  obtain ⟨hx, hb, hml, hown, hts, -, -, hK, hN⟩ := C
  have hp1 := cr_blk (bC ++ bR) hL.1 hps
  rw [List.filterMap_append, List.flatten_append, hL.2, hwc] at hp1
  have hWc := hW.perm hp1
  obtain ⟨hP0, hD0, hF⟩ := cr_sub0 hWc
  refine va_calli (va_runV (As := As) (rest := rest) ⟨hx, hb, hml, hown, hts⟩ hM cw ⟨cr_blindW, va_recv hK hW.1 hc he, fun U hU hWm => ⟨rfl, by rw [hU], by rw [hU]; exact hP0, va_K.moved hWm.alike hK, hD0, cr_NW.warm hWm hN⟩⟩ rfl hn hls hst (lv_room hr) hdg hf) hW.2.2.1 (fun q _ h => hF q h) hF (fun r u t H1 locs1 ht hvm hw hB hz1 hk1 hS1 => ?_)
  subst hw
  have hp2 := cr_blk (bC ++ bR) (hL2).1 hps
  rw [List.filterMap_append, List.flatten_append, (hL2).2, hw1, hwr] at hp2
  exact kk H1 locs1 (cr_backP hWc hp2.symm hk1 hF (by rw [← ht]; exact hB.1) hB.2 hS1)
theorem cr_vVBr {S X : Type} {q : S} {w1 : X × S → va_W} (C : cr_Cx p s m meth c args own Ts cc nL ret D ct) (hW : cr_wd D A s ws H locs) (hM : Met l y wy rm (cr_pW D ct wc H.size (.ref b :: As)) (cr_QV D wc H.size (fun u : X × S => u.2 = q) w1) 0 0 (va_A wc H.size)) (cw : CallW R s args own Cn index y bytes maxL rt wy rm 0 0 n) (bC bR : List Nat) (Ls : List va_W) (w2 : X → va_W) (L2 : X → List va_W)
    (hL : Ls.length = nb ∧ Ls.flatten = ws) (hL2 : ∀ x, (L2 x).length = nb ∧ (L2 x).flatten = w2 x) (hwc : (bC.filterMap (fun i => Ls[i]?)).flatten = wc) (hw1 : ∀ x, (bC.filterMap (fun i => (L2 x)[i]?)).flatten = w1 (x, q)) (hwr : ∀ x, bR.filterMap (fun i => (L2 x)[i]?) = bR.filterMap (fun i => Ls[i]?)) (hps : (bC ++ bR).Perm (List.range nb)) (q0 : Nat) (he : ws[q0]? = some (b, .inr (ci, fs))) (hc : vwCl[ci]? = some (Cn, T, N))
    (hn : As.length = n) (hls : ls.size = nL) (hst : st = As.reverse ++ .ref b :: rest) (hr : (rest.map fun v => v.category).sum ≤ 8) (hdg : decode cc pc = .ok (.invokevirtual index, 3)) (hf : cells ≤ R.cells ∧ slots ≤ R.slots)
    (kk : ∀ (x : X) (H1 : Heap) (locs1 : List Loc), cr_wd D A s (w2 x) H1 locs1 → W p l e R s m args below meth c H1 locs1 cells slots Q (F0 m (pc + 3) ls rest)) : W p l e R s m args below meth c H locs cells slots Q (F0 m pc ls st) := by
  obtain ⟨hx, hb, hml, hown, hts, -, -, hK, hN⟩ := C
  have hp1 := cr_blk (bC ++ bR) hL.1 hps
  rw [List.filterMap_append, List.flatten_append, hL.2, hwc] at hp1
  have hWc := hW.perm hp1
  obtain ⟨hP0, hD0, hF⟩ := cr_sub0 hWc
  refine va_callv (va_runV (As := As) (rest := rest) ⟨hx, hb, hml, hown, hts⟩ hM cw ⟨cr_blindW, va_recv hK hW.1 hc he, fun U hU hWm => ⟨rfl, by rw [hU], by rw [hU]; exact hP0, va_K.moved hWm.alike hK, hD0, cr_NW.warm hWm hN⟩⟩ rfl hn hls hst (lv_room hr) hdg hf) hW.2.2.1 (fun q _ h => hF q h) hF (fun u t H1 locs1 ht hvm hw hB hz1 hk1 hS1 => ?_)
  obtain ⟨x, u⟩ := u
  dsimp only at hw
  subst hw
  have hp2 := cr_blk (bC ++ bR) (hL2 x).1 hps
  rw [List.filterMap_append, List.flatten_append, (hL2 x).2, hw1 x, hwr x] at hp2
  exact kk x H1 locs1 (cr_backP hWc hp2.symm hk1 hF (by rw [← ht]; exact hB.1) hB.2 hS1)
theorem cr_vWBr {S X : Type} {q : Int32 × S} {w1 : X × S → va_W} (C : cr_Cx p s m meth c args own Ts cc nL ret D ct) (hW : cr_wd D A s ws H locs) (hM : Met l y wy rm (cr_pW D ct wc H.size (.ref b :: As)) (cr_QW D wc H.size (fun r (u : X × S) => (r, u.2) = q) w1) 0 0 (va_A wc H.size)) (cw : CallW R s args own Cn index y bytes maxL rt wy rm 0 0 n) (bC bR : List Nat) (Ls : List va_W) (w2 : X → va_W) (L2 : X → List va_W)
    (hL : Ls.length = nb ∧ Ls.flatten = ws) (hL2 : ∀ x, (L2 x).length = nb ∧ (L2 x).flatten = w2 x) (hwc : (bC.filterMap (fun i => Ls[i]?)).flatten = wc) (hw1 : ∀ x, (bC.filterMap (fun i => (L2 x)[i]?)).flatten = w1 (x, q.2)) (hwr : ∀ x, bR.filterMap (fun i => (L2 x)[i]?) = bR.filterMap (fun i => Ls[i]?)) (hps : (bC ++ bR).Perm (List.range nb)) (q0 : Nat) (he : ws[q0]? = some (b, .inr (ci, fs))) (hc : vwCl[ci]? = some (Cn, T, N))
    (hn : As.length = n) (hls : ls.size = nL) (hst : st = As.reverse ++ .ref b :: rest) (hr : (rest.map fun v => v.category).sum ≤ 8) (hdg : decode cc pc = .ok (.invokevirtual index, 3)) (hf : cells ≤ R.cells ∧ slots ≤ R.slots)
    (kk : ∀ (x : X) (H1 : Heap) (locs1 : List Loc), cr_wd D A s (w2 x) H1 locs1 → W p l e R s m args below meth c H1 locs1 cells slots Q (F0 m (pc + 3) ls (.int q.1 :: rest))) : W p l e R s m args below meth c H locs cells slots Q (F0 m pc ls st) := by
  obtain ⟨hx, hb, hml, hown, hts, -, -, hK, hN⟩ := C
  have hp1 := cr_blk (bC ++ bR) hL.1 hps
  rw [List.filterMap_append, List.flatten_append, hL.2, hwc] at hp1
  have hWc := hW.perm hp1
  obtain ⟨hP0, hD0, hF⟩ := cr_sub0 hWc
  refine va_calli (va_runV (As := As) (rest := rest) ⟨hx, hb, hml, hown, hts⟩ hM cw ⟨cr_blindW, va_recv hK hW.1 hc he, fun U hU hWm => ⟨rfl, by rw [hU], by rw [hU]; exact hP0, va_K.moved hWm.alike hK, hD0, cr_NW.warm hWm hN⟩⟩ rfl hn hls hst (lv_room hr) hdg hf) hW.2.2.1 (fun q _ h => hF q h) hF (fun r u t H1 locs1 ht hvm hw hB hz1 hk1 hS1 => ?_)
  obtain ⟨x, u⟩ := u
  dsimp only at hw
  subst hw
  have hp2 := cr_blk (bC ++ bR) (hL2 x).1 hps
  rw [List.filterMap_append, List.flatten_append, (hL2 x).2, hw1 x, hwr x] at hp2
  exact kk x H1 locs1 (cr_backP hWc hp2.symm hk1 hF (by rw [← ht]; exact hB.1) hB.2 hS1)
end CRB
end
section
noncomputable def f_X6_accept (vh : cr_V) (vl : cr_V) (vk : cr_V) (vt : cr_V) (vtl : cr_V) (vtk : cr_V) (vs : cr_V) (vx : Nat → Nat → cr_V) (vd : cr_V) (vo : cr_V) (x1 : Int32) : Option (Int32 × cr_V × cr_V × cr_V × cr_V × (Nat → Nat → cr_V)) := (f_X6_isError x1).bind fun q1 => if q1 = 0 then ((f_X2_record vs vx vh vl vk).bind fun q3 => (f_X3_copyFrom vh vl vk vt vtl vtk).bind fun q4 => some (x1, q4.1, q4.2.1, q4.2.2, q3.1, q3.2)) else (some (x1, vh, vl, vk, vs, vx))

noncomputable def f_X6_lot (vh : cr_V) (vl : cr_V) (vk : cr_V) (vt : cr_V) (vtl : cr_V) (vtk : cr_V) (vs : cr_V) (vx : Nat → Nat → cr_V) (vd : cr_V) (vo : cr_V) (x1 : Int32) (x2 : Int32) : Option (Int32 × cr_V × cr_V × cr_V × cr_V × cr_V × cr_V × cr_V × (Nat → Nat → cr_V)) := (f_X3_copyFrom vt vtl vtk vh vl vk).bind fun q1 => (f_X3_bringLot q1.1 q1.2.1 q1.2.2 x1 x2).bind fun q2 => (f_X6_accept vh vl vk q1.1 q2.2 q1.2.2 vs vx vd vo q2.1).bind fun q3 => some (q3.1, q3.2.1, q3.2.2.1, q3.2.2.2.1, q1.1, q2.2, q1.2.2, q3.2.2.2.2.1, q3.2.2.2.2.2)

noncomputable def f_X6_part (vh : cr_V) (vl : cr_V) (vk : cr_V) (vt : cr_V) (vtl : cr_V) (vtk : cr_V) (vs : cr_V) (vx : Nat → Nat → cr_V) (vd : cr_V) (vo : cr_V) (x1 : Int32) (x2 : Int32) : Option (Int32 × cr_V × cr_V × cr_V × cr_V × cr_V × cr_V × cr_V × (Nat → Nat → cr_V)) := (f_X3_copyFrom vt vtl vtk vh vl vk).bind fun q1 => (f_X3_partLot q1.1 q1.2.1 q1.2.2 x1 x2).bind fun q2 => (f_X6_accept vh vl vk q1.1 q2.2 q1.2.2 vs vx vd vo q2.1).bind fun q3 => some (q3.1, q3.2.1, q3.2.2.1, q3.2.2.2.1, q1.1, q2.2, q1.2.2, q3.2.2.2.2.1, q3.2.2.2.2.2)

noncomputable def f_X6_blend (vh : cr_V) (vl : cr_V) (vk : cr_V) (vt : cr_V) (vtl : cr_V) (vtk : cr_V) (vs : cr_V) (vx : Nat → Nat → cr_V) (vd : cr_V) (vo : cr_V) (x1 : Int32) (x2 : Int32) (x3 : Int32) (x4 : Int32) : Option (Int32 × cr_V × cr_V × cr_V × cr_V × cr_V × cr_V × cr_V × (Nat → Nat → cr_V)) := (f_X3_copyFrom vt vtl vtk vh vl vk).bind fun q1 => (f_X3_blendLots q1.1 q1.2.1 q1.2.2 x1 x2 x3 x4).bind fun q2 => (f_X6_accept vh vl vk q1.1 q2.2 q1.2.2 vs vx vd vo q2.1).bind fun q3 => some (q3.1, q3.2.1, q3.2.2.1, q3.2.2.2.1, q1.1, q2.2, q1.2.2, q3.2.2.2.2.1, q3.2.2.2.2.2)

noncomputable def f_X6_cup (vh : cr_V) (vl : cr_V) (vk : cr_V) (vt : cr_V) (vtl : cr_V) (vtk : cr_V) (vs : cr_V) (vx : Nat → Nat → cr_V) (vd : cr_V) (vo : cr_V) (x1 : Int32) : Option (Int32 × cr_V × cr_V × cr_V × cr_V × cr_V × cr_V × cr_V × (Nat → Nat → cr_V)) := (f_X3_copyFrom vt vtl vtk vh vl vk).bind fun q1 => (f_X3_cupAnew q1.1 q1.2.1 q1.2.2 x1).bind fun q2 => (f_X6_accept vh vl vk q1.1 q2.2 q1.2.2 vs vx vd vo q2.1).bind fun q3 => some (q3.1, q3.2.1, q3.2.2.1, q3.2.2.2.1, q1.1, q2.2, q1.2.2, q3.2.2.2.2.1, q3.2.2.2.2.2)

noncomputable def f_X6_worth (vh : cr_V) (vl : cr_V) (vk : cr_V) (vt : cr_V) (vtl : cr_V) (vtk : cr_V) (vs : cr_V) (vx : Nat → Nat → cr_V) (vd : cr_V) (vo : cr_V) (x1 : Int32) (x2 : Int32) : Option (Int32 × cr_V × cr_V × cr_V × cr_V × cr_V × cr_V × cr_V × (Nat → Nat → cr_V)) := (f_X3_copyFrom vt vtl vtk vh vl vk).bind fun q1 => (f_X3_changeWorth q1.1 q1.2.1 q1.2.2 x1 x2).bind fun q2 => (f_X6_accept vh vl vk q2.2 q1.2.1 q1.2.2 vs vx vd vo q2.1).bind fun q3 => some (q3.1, q3.2.1, q3.2.2.1, q3.2.2.2.1, q2.2, q1.2.1, q1.2.2, q3.2.2.2.2.1, q3.2.2.2.2.2)

noncomputable def f_X6_sell (vh : cr_V) (vl : cr_V) (vk : cr_V) (vt : cr_V) (vtl : cr_V) (vtk : cr_V) (vs : cr_V) (vx : Nat → Nat → cr_V) (vd : cr_V) (vo : cr_V) (x1 : Int32) (x2 : Int32) : Option (Int32 × cr_V × cr_V × cr_V × cr_V × cr_V × cr_V × cr_V × (Nat → Nat → cr_V)) := (f_X3_copyFrom vt vtl vtk vh vl vk).bind fun q1 => (f_X3_sellContract q1.1 q1.2.1 q1.2.2 x1 x2).bind fun q2 => (f_X6_accept vh vl vk q1.1 q1.2.1 q2.2 vs vx vd vo q2.1).bind fun q3 => some (q3.1, q3.2.1, q3.2.2.1, q3.2.2.2.1, q1.1, q1.2.1, q2.2, q3.2.2.2.2.1, q3.2.2.2.2.2)

noncomputable def f_X6_buyBack (vh : cr_V) (vl : cr_V) (vk : cr_V) (vt : cr_V) (vtl : cr_V) (vtk : cr_V) (vs : cr_V) (vx : Nat → Nat → cr_V) (vd : cr_V) (vo : cr_V) (x1 : Int32) (x2 : Int32) : Option (Int32 × cr_V × cr_V × cr_V × cr_V × cr_V × cr_V × cr_V × (Nat → Nat → cr_V)) := (f_X3_copyFrom vt vtl vtk vh vl vk).bind fun q1 => (f_X3_buyContractBack q1.1 q1.2.1 q1.2.2 x1 x2).bind fun q2 => (f_X6_accept vh vl vk q2.2.1 q1.2.1 q2.2.2 vs vx vd vo q2.1).bind fun q3 => some (q3.1, q3.2.1, q3.2.2.1, q3.2.2.2.1, q2.2.1, q1.2.1, q2.2.2, q3.2.2.2.2.1, q3.2.2.2.2.2)

noncomputable def f_X6_meet (vh : cr_V) (vl : cr_V) (vk : cr_V) (vt : cr_V) (vtl : cr_V) (vtk : cr_V) (vs : cr_V) (vx : Nat → Nat → cr_V) (vd : cr_V) (vo : cr_V) (x1 : Int32) : Option (Int32 × cr_V × cr_V × cr_V × cr_V × cr_V × cr_V × cr_V × (Nat → Nat → cr_V) × cr_V) := (f_X3_copyFrom vt vtl vtk vh vl vk).bind fun q1 => (f_X3_meetContract q1.1 q1.2.1 q1.2.2 vd x1).bind fun q2 => (f_X6_accept vh vl vk q2.2.1 q2.2.2.1 q2.2.2.2.1 vs vx q2.2.2.2.2 vo q2.1).bind fun q3 => some (q3.1, q3.2.1, q3.2.2.1, q3.2.2.2.1, q2.2.1, q2.2.2.1, q2.2.2.2.1, q3.2.2.2.2.1, q3.2.2.2.2.2, q2.2.2.2.2)

noncomputable def f_X6_pass (vh : cr_V) (vl : cr_V) (vk : cr_V) (vt : cr_V) (vtl : cr_V) (vtk : cr_V) (vs : cr_V) (vx : Nat → Nat → cr_V) (vd : cr_V) (vo : cr_V) (x1 : Int32) : Option (Int32 × cr_V × cr_V × cr_V × cr_V × cr_V × cr_V × cr_V × (Nat → Nat → cr_V)) := (f_X3_copyFrom vt vtl vtk vh vl vk).bind fun q1 => (f_X3_passMonths q1.1 q1.2.1 q1.2.2 x1).bind fun q2 => (f_X6_accept vh vl vk q2.2.1 q1.2.1 q2.2.2 vs vx vd vo q2.1).bind fun q3 => some (q3.1, q3.2.1, q3.2.2.1, q3.2.2.2.1, q2.2.1, q1.2.1, q2.2.2, q3.2.2.2.2.1, q3.2.2.2.2.2)

noncomputable def f_X6_lotOf (vh : cr_V) (vl : cr_V) (vk : cr_V) (vt : cr_V) (vtl : cr_V) (vtk : cr_V) (vs : cr_V) (vx : Nat → Nat → cr_V) (vd : cr_V) (vo : cr_V) (x1 : Int32) (x2 : Int32) : Option (Int32) := (f_X4_rowOf vl x1).bind fun q1 => if 0 ≤ q1 then ((f_X3_tellOfLot vh vl vk q1 x2).bind fun q3 => some q3) else (some (-2000000001))

noncomputable def f_X6_numberOf (vh : cr_V) (vl : cr_V) (vk : cr_V) (vt : cr_V) (vtl : cr_V) (vtk : cr_V) (vs : cr_V) (vx : Nat → Nat → cr_V) (vd : cr_V) (vo : cr_V) (x1 : Int32) : Option (Int32) := if 0 ≤ x1 then (if (vl 4 0) ≤ x1 then (some (-2000000004)) else (if cr_in x1 12 = true then some (vl 0 (cr_x x1)) else none)) else (some (-2000000001))

noncomputable def f_X6_contractOf (vh : cr_V) (vl : cr_V) (vk : cr_V) (vt : cr_V) (vtl : cr_V) (vtk : cr_V) (vs : cr_V) (vx : Nat → Nat → cr_V) (vd : cr_V) (vo : cr_V) (x1 : Int32) (x2 : Int32) : Option (Int32) := (f_X0_isOpen vk x1).bind fun q1 => if q1 = 0 then (some (-2000000001)) else (if x2 = 0 then (if cr_in x1 6 = true then some (vk 0 (cr_x x1)) else none) else (if x2 = 1 then (if cr_in x1 6 = true then some (vk 1 (cr_x x1)) else none) else (if x2 = 2 then (if cr_in x1 6 = true then some ((vk 0 (cr_x x1)) - (vh 4 0)) else none) else (some (-2000000001)))))

noncomputable def f_X6_count (vh : cr_V) (vl : cr_V) (vk : cr_V) (vt : cr_V) (vtl : cr_V) (vtk : cr_V) (vs : cr_V) (vx : Nat → Nat → cr_V) (vd : cr_V) (vo : cr_V) (x1 : Int32) : Option (Int32) := (f_X6_isWithin x1 20 24).bind fun q1 => if q1 = 0 then (if x1 = 10 then (some (vs 1 0)) else (if x1 = 11 then (some (vo 1 0)) else ((f_X3_tellCount vh vl vk x1).bind fun q5 => some q5))) else (if cr_in (x1 - 20) 5 = true then some (vh 3 (cr_x (x1 - 20))) else none)
end
section
/-! the static arrays of the outer class -/
def cr_least : Nat → Int32 := fun j => if j < 2 then 1 else 0
def cr_most : Nat → Int32 := fun j => if j = 0 then 250 else if j = 1 then 4095 else if j = 4 then 999 else 50
def cr_NF (U : State) : Prop := va_Nw (.fieldLinkNest RX3 140 "CupReceipts" "LEAST_SETTINGS" "[I" "CupReceipts") U ∧ va_Nw (.fieldLinkNest RX3 143 "CupReceipts" "MOST_SETTINGS" "[I" "CupReceipts") U
theorem cr_NF.warm {s U : State} (hW : s.WarmedH U.vm) (h : cr_NF s) : cr_NF U := ⟨va_Nw.warmF hW h.1, va_Nw.warmF hW h.2⟩
theorem cr_NF.same {u U : State} (e : u.vm = U.vm) (h : cr_NF u) : cr_NF U := ⟨va_Nw.same rfl e h.1, va_Nw.same rfl e h.2⟩
def cr_ST (A : Nat → Prop) (U : State) (H : Heap) : Prop := ∃ t1 t2 : Nat, va_Z "CupReceipts" "LEAST_SETTINGS" "[I" (.ref t1) A U H ∧ va_T .int t1 5 (fun j => .int (cr_least j)) A U H ∧ va_Z "CupReceipts" "MOST_SETTINGS" "[I" (.ref t2) A U H ∧ va_T .int t2 5 (fun j => .int (cr_most j)) A U H
theorem cr_ST.go {A B : Nat → Prop} {s U : State} {H : Heap} {locs : List Loc} (h : cr_ST A s s.heap) (hS : va_S A s.heap H locs) (hAB : ∀ q, B q → A q) (hW : s.vm.Alike U.vm) (hU : U.heap = H) : cr_ST B U U.heap := by
  obtain ⟨t1, t2, h1, h2, h3, h4⟩ := h
  have hq : ∀ a : Nat, a < s.heap.size → ¬ A a → H[a]? = s.heap[a]? := hS.2.1
  rw [hU]
  exact ⟨t1, t2, ((h1.kept hq).narrow hAB).moved hW, ((h2.kept hq).narrow hAB).moved hW, ((h3.kept hq).narrow hAB).moved hW, ((h4.kept hq).narrow hAB).moved hW⟩
theorem cr_ST.blind {A : Nat → Prop} {U U' : State} {H : Heap} (h : cr_ST A U H) (hv : U.vm = U'.vm) : cr_ST A U' H := by
  obtain ⟨t1, t2, h1, h2, h3, h4⟩ := h
  have ha : U.vm.Alike U'.vm := by rw [hv]; exact Vm.Alike.refl _
  exact ⟨t1, t2, h1.moved ha, h2.moved ha, h3.moved ha, h4.moved ha⟩
abbrev cr_pS (D : va_G) (ct : Nat → ClassId) (wc : va_W) (sz : Nat) (av : List Value) : Array Value → State → Prop := va_Pc av (fun U => U.heap.size = sz ∧ va_P D vwCl wc U.heap ∧ va_K D vwCl (cr_TY ct) U ∧ va_D (fun _ => True) wc ∧ cr_NW U ∧ cr_NF U ∧ cr_ST (va_A wc sz) U U.heap)
theorem cr_blindS {D : va_G} {ct : Nat → ClassId} {wc : va_W} {sz : Nat} {av : List Value} : FrameBlind (cr_pS D ct wc sz av) := fun a U g mk q => by
  obtain ⟨q0, q1, q2, q3, q4, q5, q6, q7⟩ := q
  exact ⟨q0, q1, q2, va_K.moved (u := U) (U := U.calling g mk a) (Vm.Alike.refl U.vm) q3, q4, cr_NW.same (u := U) (U := U.calling g mk a) rfl q5, cr_NF.same (u := U) (U := U.calling g mk a) rfl q6, cr_ST.blind (U' := U.calling g mk a) q7 rfl⟩
theorem cr_metS {l : Launch} {y : MethodName} {ws ws' : List Cond} {rm : Room} {cc : ByteArray} {maxL : Nat} {ret : Option FieldType} {own : String} {D : va_G} {ct : Nat → ClassId} {wc : va_W} {sz : Nat} {av : List Value} {Qc : (Nat → Prop) → Array Value → State → Outcome → State → Prop}
    (hy : plainName y.cls = true) (hw : ws = Cond.code y cc maxL ret :: ws') (ho : y.cls = own) (hn : (lg_sl av).length ≤ maxL)
    (body : ∀ (p : Program) (e : Env) (s : State) (m : MethodId) (args : Array Value) (below : List Frame) (meth : Method) (c : Code) (ls : Array Slot) (A : Nat → Prop), cr_NF s → cr_ST A s s.heap → cr_Cx p s m meth c args own ws cc maxL ret D ct → cr_wd D A s wc s.heap [] → lv_has ls maxL (lv_args 0 av) →
      W p l e rm s m args below meth c s.heap [] 0 0 (MQ below (Qc A) args s 0 0 A) (F0 m 0 ls [])) : Met l y ws rm (cr_pS D ct wc sz av) (Qc (va_A wc sz)) 0 0 (va_A wc sz) := by
  refine Met.ofW (cc := cc) (maxL := maxL) (ret := ret) hy hw ?_
  intro p e s m args below meth c s₁ B hml hv
  obtain ⟨rfl, hsz, hP, hK, hD0, hN, hNF, hST⟩ := hv
  subst ho; subst hsz
  have hl := lv_entry av (n := maxL) hn
  rw [lg_entry_eq]
  exact body p e s m _ below meth c _ _ hNF hST ⟨B.exec, B.bytes, hml, findClass_of_methodNamed B.named, atoms_spec (ws := ws) B.pre, B.returns, B.notSynchronized, hK, hN⟩ ⟨hP, hD0.self, va_S.rf, fun q h => Or.inr h⟩ hl
section CRST
variable {p : Program} {l : Launch} {e : Env} {R : Room} {s : State} {m : MethodId} {args : Array Value} {below : List Frame} {meth : Method} {c : Code} {H : Heap} {locs : List Loc} {cells slots : Nat} {Q : State → Prop}
variable {own : String} {Ts : List Cond} {cc : ByteArray} {nL : Nat} {ret : Option FieldType} {D : va_G} {ct : Nat → ClassId} {A : Nat → Prop} {ws : va_W} {pc : Nat} {ls : Array Slot} {rest st : List Value} {a b : Nat}
variable {y : MethodName} {bytes : ByteArray} {maxL n index nb : Nat} {rt : Option FieldType} {wy : List Cond} {rm : Room} {Cn : String} {As : List Value} {wc : va_W} {ci : Nat} {fs : List Value} {T : u_T} {N : Nat}
theorem cr_vSB {S : Type} {q : Int32 × S} {w1 : S → va_W} (hNF : cr_NF s) (hST : cr_ST A s s.heap) (C : cr_Cx p s m meth c args own Ts cc nL ret D ct) (hW : cr_wd D A s ws H locs) (hM : Met l y wy rm (cr_pS D ct wc H.size (.ref b :: As)) (cr_QW D wc H.size (fun r (u : S) => (r, u) = q) w1) 0 0 (va_A wc H.size)) (cw : CallW R s args own Cn index y bytes maxL rt wy rm 0 0 n) (bC bR : List Nat) (Ls : List va_W) (w2 : va_W) (L2 : List va_W)
    (hL : Ls.length = nb ∧ Ls.flatten = ws) (hL2 : L2.length = nb ∧ L2.flatten = w2) (hwc : (bC.filterMap (fun i => Ls[i]?)).flatten = wc) (hw1 : (bC.filterMap (fun i => L2[i]?)).flatten = w1 q.2) (hwr : bR.filterMap (fun i => L2[i]?) = bR.filterMap (fun i => Ls[i]?)) (hps : (bC ++ bR).Perm (List.range nb)) (q0 : Nat) (he : ws[q0]? = some (b, .inr (ci, fs))) (hc : vwCl[ci]? = some (Cn, T, N))
    (hn : As.length = n) (hls : ls.size = nL) (hst : st = As.reverse ++ .ref b :: rest) (hr : (rest.map fun v => v.category).sum ≤ 8) (hdg : decode cc pc = .ok (.invokevirtual index, 3)) (hf : cells ≤ R.cells ∧ slots ≤ R.slots)
    (kk : ∀ (H1 : Heap) (locs1 : List Loc), cr_wd D A s w2 H1 locs1 → W p l e R s m args below meth c H1 locs1 cells slots Q (F0 m (pc + 3) ls (.int q.1 :: rest))) : W p l e R s m args below meth c H locs cells slots Q (F0 m pc ls st) := by
  obtain ⟨hx, hb, hml, hown, hts, -, -, hK, hN⟩ := C
  have hp1 := cr_blk (bC ++ bR) hL.1 hps
  rw [List.filterMap_append, List.flatten_append, hL.2, hwc] at hp1
  have hWc := hW.perm hp1
  obtain ⟨hP0, hD0, hF⟩ := cr_sub0 hWc
  refine va_calli (va_runV (As := As) (rest := rest) ⟨hx, hb, hml, hown, hts⟩ hM cw ⟨cr_blindS, va_recv hK hW.1 hc he, fun U hU hWm => ⟨rfl, by rw [hU], by rw [hU]; exact hP0, va_K.moved hWm.alike hK, hD0, cr_NW.warm hWm hN, cr_NF.warm hWm hNF, cr_ST.go hST hW.2.2.1 hF hWm.alike hU⟩⟩ rfl hn hls hst (lv_room hr) hdg hf) hW.2.2.1 (fun q _ h => hF q h) hF (fun r u t H1 locs1 ht hvm hw hB hz1 hk1 hS1 => ?_)
  subst hw
  have hp2 := cr_blk (bC ++ bR) hL2.1 hps
  rw [List.filterMap_append, List.flatten_append, hL2.2, hw1, hwr] at hp2
  exact kk H1 locs1 (cr_backP hWc hp2.symm hk1 hF (by rw [← ht]; exact hB.1) hB.2 hS1)
end CRST
end
section
noncomputable def f_X3_changeSetting_46  (vh : cr_V) (vl : cr_V) (vk : cr_V) (x1 : Int32) (x2 : Int32) : Option (Int32 × cr_V) := if cr_in x1 5 = true then some ((vh 3 (cr_x x1)), (cr_a vh 3 (cr_x x1) x2)) else none
noncomputable def f_X3_changeSetting (vh : cr_V) (vl : cr_V) (vk : cr_V) (x1 : Int32) (x2 : Int32) : Option (Int32 × cr_V) := (f_X6_isWithin x1 0 4).bind fun q2 => if q2 = 0 then (some ((-2000000001), vh)) else (if cr_in x1 5 = true then (f_X6_isWithin x2 (cr_least (cr_x x1)) (cr_most (cr_x x1))).bind fun q5 => if q5 = 0 then (some ((-2000000001), vh)) else (if x1 = 0 then (if (vk 2 0) ≤ 0 then (f_X3_changeSetting_46 vh vl vk x1 x2) else (some ((-2000000002), vh))) else (f_X3_changeSetting_46 vh vl vk x1 x2)) else none)

noncomputable def f_X6_set (vh : cr_V) (vl : cr_V) (vk : cr_V) (vt : cr_V) (vtl : cr_V) (vtk : cr_V) (vs : cr_V) (vx : Nat → Nat → cr_V) (vd : cr_V) (vo : cr_V) (x1 : Int32) (x2 : Int32) : Option (Int32 × cr_V × cr_V × cr_V × cr_V × cr_V × cr_V × cr_V × (Nat → Nat → cr_V)) := (f_X3_copyFrom vt vtl vtk vh vl vk).bind fun q1 => (f_X3_changeSetting q1.1 q1.2.1 q1.2.2 x1 x2).bind fun q2 => (f_X6_accept vh vl vk q2.2 q1.2.1 q1.2.2 vs vx vd vo q2.1).bind fun q3 => some (q3.1, q3.2.1, q3.2.2.1, q3.2.2.2.1, q2.2, q1.2.1, q1.2.2, q3.2.2.2.2.1, q3.2.2.2.2.2)
end
section
set_option maxHeartbeats 4000000 in
set_option maxRecDepth 100000 in
theorem m_X4_rowOf (L : Launch) (D : va_G) (ct : Nat → ClassId) (al : Nat → Nat) (vl : cr_V) (x1 : Int32) (out : Int32) (hE : f_X4_rowOf vl x1 = some out) : Met L yX4_rowOf wsX4_rowOf ({ frames := 0, cells := 0, slots := 0, locals := 0 } : Room) (cr_pR D ct (cr_wL ct al vl) [.ref (al 0), .int x1]) (cr_QR (fun r => r = out)) 0 0 cr_no := by
  have k0 : (Cond.fieldLink RX4 24 "CupReceipts$Lots" "size" "I") ∈ wsX4_rowOf := List.mem_of_getElem? (i := 1) rfl
  have k1 : (Cond.fieldLink RX4 9 "CupReceipts$Lots" "numbers" "[I") ∈ wsX4_rowOf := List.mem_of_getElem? (i := 2) rfl
  have hinX4 : ∀ w ∈ wsX40, w ∈ wsX4_rowOf := fun w h => List.mem_cons_of_mem _ (List.mem_append_right _ h)
  refine cr_metR (by decide) rfl rfl (Nat.le_of_ble_eq_true rfl) ?_
  intro p e s m args below meth c ls C hP hS hl
  obtain ⟨hx, hb, hml, hown, hts, hr, hlocks, hK, hN⟩ := id C
  have hl : lv_has ls 3 [(0, .ref (al 0)), (1, .int x1)] := hl
  have n2 :  ∀ (n : Nat), ∀ (vl : cr_V) (x1 : Int32) (x2 : Int32) (hE : f_X4_rowOf_2  n vl x1 x2 = some out) (H : Heap) (locs : List Loc) (ls : Array Slot) (hP : va_P D vwCl (cr_wL ct al vl) H) (hS : va_S cr_no s.heap H locs) (hl : lv_has ls 3 [(0, .ref (al 0)), (1, .int x1), (2, .int x2)]), W p L e ({ frames := 0, cells := 0, slots := 0, locals := 0 } : Room) s m args below meth c H locs 0 0 (MQ below (cr_QR (fun r => r = out)) args s 0 0 cr_no) (F0 m 2 ls []) := by
    intro  n
    induction n with
    | zero =>
      intro vl x1 x2 hE
      cases hE
    | succ n ih =>
      intro vl x1 x2 hE H locs ls hP hS hl
      replace hE : (if (vl 4 0) ≤ x2 then (some (-1)) else (if cr_in x2 12 = true then if (vl 0 (cr_x x2)) = x1 then (some x2) else (f_X4_rowOf_2 n vl x1 (x2 + 1)) else none)) = some out := hE
      refine lv_iload_n hx hb dX4_rowOf_2 rfl (lv_at hl 2 rfl) ?_
      refine lv_aload_n hx hb dX4_rowOf_3 rfl (lv_at hl 0 rfl) ?_
      refine cr_get C hP 0 rfl rfl 4 (by decide) hinX4 k0 (v := .int (vl 4 0)) rfl dX4_rowOf_4 ?_
      refine lv_icmp_ge (tgt := 28) hx hb dX4_rowOf_7 (by decide) (fun c1 => ?_) (fun c1 => ?_)
      · rw [if_pos c1] at hE
        refine lv_iconst (v := (-1)) hx hb dX4_rowOf_28 (by decide) ?_
        exact cr_retR C hS (Option.some.inj hE) dX4_rowOf_29
      · rw [if_neg c1] at hE
        refine lv_aload_n hx hb dX4_rowOf_10 rfl (lv_at hl 0 rfl) ?_
        refine cr_get C hP 0 rfl rfl 0 (by decide) hinX4 k1 (v := .ref (al 1)) rfl dX4_rowOf_11 ?_
        refine lv_iload_n hx hb dX4_rowOf_14 rfl (lv_at hl 2 rfl) ?_
        obtain ⟨i2, hE⟩ := cr_ifn hE
        refine cr_ald C hP 1 (f := vl 0) (k := cr_x x2) rfl i2 (cr_xe _) dX4_rowOf_15 ?_
        refine lv_iload_n hx hb dX4_rowOf_16 rfl (lv_at hl 1 rfl) ?_
        refine lv_icmp_ne (tgt := 22) hx hb dX4_rowOf_17 (by decide) (fun c3 => ?_) (fun c3 => ?_)
        · rw [if_neg c3] at hE
          refine lv_iinc (v := x2 + 1) (lv' := [(2, .int (x2 + 1)), (0, .ref (al 0)), (1, .int x1)]) hx hb dX4_rowOf_22 hl (k := 2) rfl (by first | rfl | decide) (by decide) rfl (fun ls hl => ?_)
          refine lv_goto (tgt := 2) hx hb dX4_rowOf_25 (by decide) ?_
          exact ih vl x1 (x2 + 1) hE _ _ _ hP hS (lv_sub hl [1, 2, 0] rfl)
        · rw [if_pos c3] at hE
          refine lv_iload_n hx hb dX4_rowOf_20 rfl (lv_at hl 2 rfl) ?_
          exact cr_retR C hS (Option.some.inj hE) dX4_rowOf_21
  replace hE : (f_X4_rowOf_2 10100 vl x1 0) = some out := hE
  refine lv_iconst (v := 0) hx hb dX4_rowOf_0 (by decide) ?_
  refine lv_istore_n (lv' := [(2, .int 0), (0, .ref (al 0)), (1, .int x1)]) hx hb dX4_rowOf_1 rfl hl (by decide) rfl (fun ls hl => ?_)
  exact n2 10100 vl x1 0 hE _ _ _ hP hS (lv_sub hl [1, 2, 0] rfl)

set_option maxHeartbeats 4000000 in
set_option maxRecDepth 100000 in
theorem m_X4_isFull (L : Launch) (D : va_G) (ct : Nat → ClassId) (al : Nat → Nat) (vl : cr_V)  (out : Int32) (hE : f_X4_isFull vl = some out) : Met L yX4_isFull wsX4_isFull ({ frames := 0, cells := 0, slots := 0, locals := 0 } : Room) (cr_pR D ct (cr_wL ct al vl) [.ref (al 0)]) (cr_QR (fun r => r = out)) 0 0 cr_no := by
  have k0 : (Cond.fieldLink RX4 24 "CupReceipts$Lots" "size" "I") ∈ wsX4_isFull := List.mem_of_getElem? (i := 1) rfl
  have hinX4 : ∀ w ∈ wsX40, w ∈ wsX4_isFull := fun w h => List.mem_cons_of_mem _ (List.mem_append_right _ h)
  refine cr_metR (by decide) rfl rfl (Nat.le_of_ble_eq_true rfl) ?_
  intro p e s m args below meth c ls C hP hS hl
  obtain ⟨hx, hb, hml, hown, hts, hr, hlocks, hK, hN⟩ := id C
  have hl : lv_has ls 1 [(0, .ref (al 0))] := hl
  replace hE : (if (vl 4 0) < 12 then (some 0) else (some 1)) = some out := hE
  refine lv_aload_n hx hb dX4_isFull_0 rfl (lv_at hl 0 rfl) ?_
  refine cr_get C hP 0 rfl rfl 4 (by decide) hinX4 k0 (v := .int (vl 4 0)) rfl dX4_isFull_1 ?_
  refine lv_bipush (v := 12) hx hb dX4_isFull_4 (by decide) ?_
  refine lv_icmp_lt (tgt := 13) hx hb dX4_isFull_6 (by decide) (fun c1 => ?_) (fun c1 => ?_)
  · rw [if_pos c1] at hE
    refine lv_iconst (v := 0) hx hb dX4_isFull_13 (by decide) ?_
    exact cr_retRz C hS rfl (Option.some.inj hE) dX4_isFull_14
  · rw [if_neg c1] at hE
    refine lv_iconst (v := 1) hx hb dX4_isFull_9 (by decide) ?_
    refine lv_goto (tgt := 14) hx hb dX4_isFull_10 (by decide) ?_
    exact cr_retRz C hS rfl (Option.some.inj hE) dX4_isFull_14

set_option maxHeartbeats 4000000 in
set_option maxRecDepth 100000 in
theorem m_X4_add (L : Launch) (D : va_G) (ct : Nat → ClassId) (al : Nat → Nat) (vl : cr_V) (x1 : Int32) (x2 : Int32) (x3 : Int32) (sz : Nat) (out : Int32 × cr_V) (hE : f_X4_add vl x1 x2 x3 = some out) : Met L yX4_add wsX4_add ({ frames := 1, cells := 0, slots := 0, locals := 20 } : Room) (cr_pW D ct (cr_wL ct al vl) sz [.ref (al 0), .int x1, .int x2, .int x3]) (cr_QW D (cr_wL ct al vl) sz (fun r (u : cr_V) => (r, u) = out) (fun u : cr_V => cr_wL ct al u)) 0 0 (va_A (cr_wL ct al vl) sz) := by
  have k0 : (Cond.fieldLink RX4 9 "CupReceipts$Lots" "numbers" "[I") ∈ wsX4_add := List.mem_of_getElem? (i := 2) rfl
  have k1 : (Cond.fieldLink RX4 24 "CupReceipts$Lots" "size" "I") ∈ wsX4_add := List.mem_of_getElem? (i := 3) rfl
  have k2 : (Cond.fieldLink RX4 28 "CupReceipts$Lots" "made" "I") ∈ wsX4_add := List.mem_of_getElem? (i := 4) rfl
  have k3 : (Cond.fieldLink RX4 15 "CupReceipts$Lots" "bags" "[I") ∈ wsX4_add := List.mem_of_getElem? (i := 5) rfl
  have k4 : (Cond.fieldLink RX4 18 "CupReceipts$Lots" "cups" "[I") ∈ wsX4_add := List.mem_of_getElem? (i := 6) rfl
  have k5 : (Cond.fieldLink RX4 21 "CupReceipts$Lots" "months" "[I") ∈ wsX4_add := List.mem_of_getElem? (i := 7) rfl
  have k6 : (Cond.constant RX4 35 (-2000000003)) ∈ wsX4_add := List.mem_of_getElem? (i := 1) rfl
  have hinX4 : ∀ w ∈ wsX40, w ∈ wsX4_add := fun w h => List.mem_cons_of_mem _ (List.mem_append_right _ h)
  refine cr_metW (Qc := fun A => va_Qi (fun r (u : cr_V) => (r, u) = out) (fun u t => cr_at D A ((fun u : cr_V => cr_wL ct al u) u) t) A) (by decide) rfl rfl (Nat.le_of_ble_eq_true rfl) ?_
  intro p e s m args below meth c ls A C hW hl
  obtain ⟨hx, hb, hml, hown, hts, hr, hlocks, hK, hN⟩ := id C
  have hl : lv_has ls 4 [(0, .ref (al 0)), (1, .int x1), (2, .int x2), (3, .int x3)] := hl
  replace hE : ((f_X4_isFull vl).bind fun q1 => if q1 = 0 then (if cr_in (vl 4 0) 12 = true then some ((((vl 5 0) + 1) - 1), (cr_i (cr_i (cr_a (cr_a (cr_a (cr_a vl 0 (cr_x (vl 4 0)) (vl 5 0)) 1 (cr_x (vl 4 0)) x1) 2 (cr_x (vl 4 0)) x2) 3 (cr_x (vl 4 0)) x3) 4 ((vl 4 0) + 1)) 5 ((vl 5 0) + 1))) else none) else (some ((-2000000003), vl))) = some out := hE
  refine lv_aload_n hx hb dX4_add_0 rfl (lv_at hl 0 rfl) ?_
  obtain ⟨q1, hq1, hE⟩ := cr_bind hE
  refine cr_vRwq (n := 0) (As := []) (rest := []) C hW (m_X4_isFull L D ct al vl q1 hq1) (cwV 0 hts gX4_add_X4_isFull rfl rfl rfl (by decide +kernel) ⟨Nat.le_of_ble_eq_true rfl, Nat.le_of_ble_eq_true rfl⟩) [0, 1, 2, 3, 4] rfl 0 rfl rfl rfl hl.1 rfl (Nat.le_of_ble_eq_true rfl) dX4_add_1 ⟨Nat.zero_le _, Nat.zero_le _⟩ (fun H locs hW => ?_)
  refine lv_if_eq (tgt := 10) hx hb dX4_add_4 (by decide) (fun c2 => ?_) (fun c2 => ?_)
  · rw [if_pos c2] at hE
    refine lv_aload_n hx hb dX4_add_10 rfl (lv_at hl 0 rfl) ?_
    refine cr_get C hW.1 0 rfl rfl 0 (by decide) hinX4 k0 (v := .ref (al 1)) rfl dX4_add_11 ?_
    refine lv_aload_n hx hb dX4_add_14 rfl (lv_at hl 0 rfl) ?_
    refine cr_get C hW.1 0 rfl rfl 4 (by decide) hinX4 k1 (v := .int (vl 4 0)) rfl dX4_add_15 ?_
    refine lv_aload_n hx hb dX4_add_18 rfl (lv_at hl 0 rfl) ?_
    refine cr_get C hW.1 0 rfl rfl 5 (by decide) hinX4 k2 (v := .int (vl 5 0)) rfl dX4_add_19 ?_
    obtain ⟨i3, hE⟩ := cr_ifn hE
    refine cr_ast C hW 1 rfl (k := (cr_x (vl 4 0))) i3 (cr_xe _) (w' := cr_wL ct al (cr_a vl 0 (cr_x (vl 4 0)) (vl 5 0))) rfl dX4_add_22 (fun H locs hW => ?_)
    refine lv_aload_n hx hb dX4_add_23 rfl (lv_at hl 0 rfl) ?_
    refine cr_get C hW.1 0 rfl rfl 1 (by decide) hinX4 k3 (v := .ref (al 2)) rfl dX4_add_24 ?_
    refine lv_aload_n hx hb dX4_add_27 rfl (lv_at hl 0 rfl) ?_
    refine cr_get C hW.1 0 rfl rfl 4 (by decide) hinX4 k1 (v := .int (vl 4 0)) rfl dX4_add_28 ?_
    refine lv_iload_n hx hb dX4_add_31 rfl (lv_at hl 1 rfl) ?_
    refine cr_ast C hW 2 rfl (k := (cr_x (vl 4 0))) i3 (cr_xe _) (w' := cr_wL ct al (cr_a (cr_a vl 0 (cr_x (vl 4 0)) (vl 5 0)) 1 (cr_x (vl 4 0)) x1)) rfl dX4_add_32 (fun H locs hW => ?_)
    refine lv_aload_n hx hb dX4_add_33 rfl (lv_at hl 0 rfl) ?_
    refine cr_get C hW.1 0 rfl rfl 2 (by decide) hinX4 k4 (v := .ref (al 3)) rfl dX4_add_34 ?_
    refine lv_aload_n hx hb dX4_add_37 rfl (lv_at hl 0 rfl) ?_
    refine cr_get C hW.1 0 rfl rfl 4 (by decide) hinX4 k1 (v := .int (vl 4 0)) rfl dX4_add_38 ?_
    refine lv_iload_n hx hb dX4_add_41 rfl (lv_at hl 2 rfl) ?_
    refine cr_ast C hW 3 rfl (k := (cr_x (vl 4 0))) i3 (cr_xe _) (w' := cr_wL ct al (cr_a (cr_a (cr_a vl 0 (cr_x (vl 4 0)) (vl 5 0)) 1 (cr_x (vl 4 0)) x1) 2 (cr_x (vl 4 0)) x2)) rfl dX4_add_42 (fun H locs hW => ?_)
    refine lv_aload_n hx hb dX4_add_43 rfl (lv_at hl 0 rfl) ?_
    refine cr_get C hW.1 0 rfl rfl 3 (by decide) hinX4 k5 (v := .ref (al 4)) rfl dX4_add_44 ?_
    refine lv_aload_n hx hb dX4_add_47 rfl (lv_at hl 0 rfl) ?_
    refine cr_get C hW.1 0 rfl rfl 4 (by decide) hinX4 k1 (v := .int (vl 4 0)) rfl dX4_add_48 ?_
    refine lv_iload_n hx hb dX4_add_51 rfl (lv_at hl 3 rfl) ?_
    refine cr_ast C hW 4 rfl (k := (cr_x (vl 4 0))) i3 (cr_xe _) (w' := cr_wL ct al (cr_a (cr_a (cr_a (cr_a vl 0 (cr_x (vl 4 0)) (vl 5 0)) 1 (cr_x (vl 4 0)) x1) 2 (cr_x (vl 4 0)) x2) 3 (cr_x (vl 4 0)) x3)) rfl dX4_add_52 (fun H locs hW => ?_)
    refine lv_aload_n hx hb dX4_add_53 rfl (lv_at hl 0 rfl) ?_
    refine lv_dup hx hb dX4_add_54 rfl ?_
    refine cr_get C hW.1 0 rfl rfl 4 (by decide) hinX4 k1 (v := .int (vl 4 0)) rfl dX4_add_55 ?_
    refine lv_iconst (v := 1) hx hb dX4_add_58 (by decide) ?_
    refine lv_iadd hx hb dX4_add_59 ?_
    refine cr_put C hW 0 rfl rfl tyX4 tyX4_ok nmX4 4 (by decide) hinX4 k1 rfl rfl rfl rfl (Nat.le_of_ble_eq_true rfl) (w' := cr_wL ct al (cr_i (cr_a (cr_a (cr_a (cr_a vl 0 (cr_x (vl 4 0)) (vl 5 0)) 1 (cr_x (vl 4 0)) x1) 2 (cr_x (vl 4 0)) x2) 3 (cr_x (vl 4 0)) x3) 4 ((vl 4 0) + 1))) rfl dX4_add_60 (fun H locs hW => ?_)
    refine lv_aload_n hx hb dX4_add_63 rfl (lv_at hl 0 rfl) ?_
    refine lv_dup hx hb dX4_add_64 rfl ?_
    refine cr_get C hW.1 0 rfl rfl 5 (by decide) hinX4 k2 (v := .int (vl 5 0)) rfl dX4_add_65 ?_
    refine lv_iconst (v := 1) hx hb dX4_add_68 (by decide) ?_
    refine lv_iadd hx hb dX4_add_69 ?_
    refine cr_put C hW 0 rfl rfl tyX4 tyX4_ok nmX4 5 (by decide) hinX4 k2 rfl rfl rfl rfl (Nat.le_of_ble_eq_true rfl) (w' := cr_wL ct al (cr_i (cr_i (cr_a (cr_a (cr_a (cr_a vl 0 (cr_x (vl 4 0)) (vl 5 0)) 1 (cr_x (vl 4 0)) x1) 2 (cr_x (vl 4 0)) x2) 3 (cr_x (vl 4 0)) x3) 4 ((vl 4 0) + 1)) 5 ((vl 5 0) + 1))) rfl dX4_add_70 (fun H locs hW => ?_)
    refine lv_aload_n hx hb dX4_add_73 rfl (lv_at hl 0 rfl) ?_
    refine cr_get C hW.1 0 rfl rfl 5 (by decide) hinX4 k2 (v := .int ((vl 5 0) + 1)) rfl dX4_add_74 ?_
    refine lv_iconst (v := 1) hx hb dX4_add_77 (by decide) ?_
    refine lv_isub hx hb dX4_add_78 ?_
    exact cr_retW C (w := (fun u : cr_V => cr_wL ct al u)) (cr_i (cr_i (cr_a (cr_a (cr_a (cr_a vl 0 (cr_x (vl 4 0)) (vl 5 0)) 1 (cr_x (vl 4 0)) x1) 2 (cr_x (vl 4 0)) x2) 3 (cr_x (vl 4 0)) x3) 4 ((vl 4 0) + 1)) 5 ((vl 5 0) + 1)) hW (Option.some.inj hE) dX4_add_79
  · rw [if_neg c2] at hE
    refine cr_ldc C k6 dX4_add_7 ?_
    exact cr_retW C (w := (fun u : cr_V => cr_wL ct al u)) vl hW (Option.some.inj hE) dX4_add_9

set_option maxHeartbeats 4000000 in
set_option maxRecDepth 100000 in
theorem m_X4_copyFrom (L : Launch) (D : va_G) (ct : Nat → ClassId) (al : Nat → Nat) (al2 : Nat → Nat) (vl : cr_V) (vl2 : cr_V)  (sz : Nat) (out : cr_V) (hE : f_X4_copyFrom vl vl2 = some out) : Met L yX4_copyFrom wsX4_copyFrom ({ frames := 0, cells := 0, slots := 0, locals := 0 } : Room) (cr_pW D ct (cr_wL ct al vl ++ cr_wL ct al2 vl2) sz [.ref (al 0), .ref (al2 0)]) (cr_QV D (cr_wL ct al vl ++ cr_wL ct al2 vl2) sz (fun u : cr_V => u = out) (fun u : cr_V => cr_wL ct al u ++ cr_wL ct al2 vl2)) 0 0 (va_A (cr_wL ct al vl ++ cr_wL ct al2 vl2) sz) := by
  have k0 : (Cond.fieldLink RX4 24 "CupReceipts$Lots" "size" "I") ∈ wsX4_copyFrom := List.mem_of_getElem? (i := 5) rfl
  have k1 : (Cond.fieldLink RX4 28 "CupReceipts$Lots" "made" "I") ∈ wsX4_copyFrom := List.mem_of_getElem? (i := 6) rfl
  have k2 : (Cond.fieldLink RX4 9 "CupReceipts$Lots" "numbers" "[I") ∈ wsX4_copyFrom := List.mem_of_getElem? (i := 1) rfl
  have k3 : (Cond.fieldLink RX4 15 "CupReceipts$Lots" "bags" "[I") ∈ wsX4_copyFrom := List.mem_of_getElem? (i := 2) rfl
  have k4 : (Cond.fieldLink RX4 18 "CupReceipts$Lots" "cups" "[I") ∈ wsX4_copyFrom := List.mem_of_getElem? (i := 3) rfl
  have k5 : (Cond.fieldLink RX4 21 "CupReceipts$Lots" "months" "[I") ∈ wsX4_copyFrom := List.mem_of_getElem? (i := 4) rfl
  have hinX4 : ∀ w ∈ wsX40, w ∈ wsX4_copyFrom := fun w h => List.mem_cons_of_mem _ (List.mem_append_right _ h)
  refine cr_metW (Qc := fun A => va_Qv (fun u : cr_V => u = out) (fun u t => cr_at D A ((fun u : cr_V => cr_wL ct al u ++ cr_wL ct al2 vl2) u) t) A) (by decide) rfl rfl (Nat.le_of_ble_eq_true rfl) ?_
  intro p e s m args below meth c ls A C hW hl
  obtain ⟨hx, hb, hml, hown, hts, hr, hlocks, hK, hN⟩ := id C
  have hl : lv_has ls 3 [(0, .ref (al 0)), (1, .ref (al2 0))] := hl
  have n2 :  ∀ (n : Nat), ∀ (vl : cr_V) (vl2 : cr_V) (x2 : Int32) (hE : f_X4_copyFrom_2  n vl vl2 x2 = some out) (H : Heap) (locs : List Loc) (ls : Array Slot) (hW : cr_wd D A s (cr_wL ct al vl ++ cr_wL ct al2 vl2) H locs) (hl : lv_has ls 3 [(0, .ref (al 0)), (1, .ref (al2 0)), (2, .int x2)]), W p L e ({ frames := 0, cells := 0, slots := 0, locals := 0 } : Room) s m args below meth c H locs 0 0 (MQ below (va_Qv (fun u : cr_V => u = out) (fun u t => cr_at D A ((fun u : cr_V => cr_wL ct al u ++ cr_wL ct al2 vl2) u) t) A) args s 0 0 A) (F0 m 2 ls []) := by
    intro  n
    induction n with
    | zero =>
      intro vl vl2 x2 hE
      cases hE
    | succ n ih =>
      intro vl vl2 x2 hE H locs ls hW hl
      replace hE : (if 12 ≤ x2 then (some (cr_i (cr_i vl 4 (vl2 4 0)) 5 (vl2 5 0))) else (if cr_in x2 12 = true then f_X4_copyFrom_2 n (cr_a (cr_a (cr_a (cr_a vl 0 (cr_x x2) (vl2 0 (cr_x x2))) 1 (cr_x x2) (vl2 1 (cr_x x2))) 2 (cr_x x2) (vl2 2 (cr_x x2))) 3 (cr_x x2) (vl2 3 (cr_x x2))) vl2 (x2 + 1) else none)) = some out := hE
      refine lv_iload_n hx hb dX4_copyFrom_2 rfl (lv_at hl 2 rfl) ?_
      refine lv_bipush (v := 12) hx hb dX4_copyFrom_3 (by decide) ?_
      refine lv_icmp_ge (tgt := 62) hx hb dX4_copyFrom_5 (by decide) (fun c1 => ?_) (fun c1 => ?_)
      · rw [if_pos c1] at hE
        refine lv_aload_n hx hb dX4_copyFrom_62 rfl (lv_at hl 0 rfl) ?_
        refine lv_aload_n hx hb dX4_copyFrom_63 rfl (lv_at hl 1 rfl) ?_
        refine cr_get C hW.1 5 rfl rfl 4 (by decide) hinX4 k0 (v := .int (vl2 4 0)) rfl dX4_copyFrom_64 ?_
        refine cr_put C hW 0 rfl rfl tyX4 tyX4_ok nmX4 4 (by decide) hinX4 k0 rfl rfl rfl rfl (Nat.le_of_ble_eq_true rfl) (w' := cr_wL ct al (cr_i vl 4 (vl2 4 0)) ++ cr_wL ct al2 vl2) rfl dX4_copyFrom_67 (fun H locs hW => ?_)
        refine lv_aload_n hx hb dX4_copyFrom_70 rfl (lv_at hl 0 rfl) ?_
        refine lv_aload_n hx hb dX4_copyFrom_71 rfl (lv_at hl 1 rfl) ?_
        refine cr_get C hW.1 5 rfl rfl 5 (by decide) hinX4 k1 (v := .int (vl2 5 0)) rfl dX4_copyFrom_72 ?_
        refine cr_put C hW 0 rfl rfl tyX4 tyX4_ok nmX4 5 (by decide) hinX4 k1 rfl rfl rfl rfl (Nat.le_of_ble_eq_true rfl) (w' := cr_wL ct al (cr_i (cr_i vl 4 (vl2 4 0)) 5 (vl2 5 0)) ++ cr_wL ct al2 vl2) rfl dX4_copyFrom_75 (fun H locs hW => ?_)
        exact cr_retV C (w := (fun u : cr_V => cr_wL ct al u ++ cr_wL ct al2 vl2)) (cr_i (cr_i vl 4 (vl2 4 0)) 5 (vl2 5 0)) hW (Option.some.inj hE) dX4_copyFrom_78
      · rw [if_neg c1] at hE
        refine lv_aload_n hx hb dX4_copyFrom_8 rfl (lv_at hl 0 rfl) ?_
        refine cr_get C hW.1 0 rfl rfl 0 (by decide) hinX4 k2 (v := .ref (al 1)) rfl dX4_copyFrom_9 ?_
        refine lv_iload_n hx hb dX4_copyFrom_12 rfl (lv_at hl 2 rfl) ?_
        refine lv_aload_n hx hb dX4_copyFrom_13 rfl (lv_at hl 1 rfl) ?_
        refine cr_get C hW.1 5 rfl rfl 0 (by decide) hinX4 k2 (v := .ref (al2 1)) rfl dX4_copyFrom_14 ?_
        refine lv_iload_n hx hb dX4_copyFrom_17 rfl (lv_at hl 2 rfl) ?_
        obtain ⟨i2, hE⟩ := cr_ifn hE
        refine cr_ald C hW.1 6 (f := vl2 0) (k := cr_x x2) rfl i2 (cr_xe _) dX4_copyFrom_18 ?_
        refine cr_ast C hW 1 rfl (k := (cr_x x2)) i2 (cr_xe _) (w' := cr_wL ct al (cr_a vl 0 (cr_x x2) (vl2 0 (cr_x x2))) ++ cr_wL ct al2 vl2) rfl dX4_copyFrom_19 (fun H locs hW => ?_)
        refine lv_aload_n hx hb dX4_copyFrom_20 rfl (lv_at hl 0 rfl) ?_
        refine cr_get C hW.1 0 rfl rfl 1 (by decide) hinX4 k3 (v := .ref (al 2)) rfl dX4_copyFrom_21 ?_
        refine lv_iload_n hx hb dX4_copyFrom_24 rfl (lv_at hl 2 rfl) ?_
        refine lv_aload_n hx hb dX4_copyFrom_25 rfl (lv_at hl 1 rfl) ?_
        refine cr_get C hW.1 5 rfl rfl 1 (by decide) hinX4 k3 (v := .ref (al2 2)) rfl dX4_copyFrom_26 ?_
        refine lv_iload_n hx hb dX4_copyFrom_29 rfl (lv_at hl 2 rfl) ?_
        refine cr_ald C hW.1 7 (f := vl2 1) (k := cr_x x2) rfl i2 (cr_xe _) dX4_copyFrom_30 ?_
        refine cr_ast C hW 2 rfl (k := (cr_x x2)) i2 (cr_xe _) (w' := cr_wL ct al (cr_a (cr_a vl 0 (cr_x x2) (vl2 0 (cr_x x2))) 1 (cr_x x2) (vl2 1 (cr_x x2))) ++ cr_wL ct al2 vl2) rfl dX4_copyFrom_31 (fun H locs hW => ?_)
        refine lv_aload_n hx hb dX4_copyFrom_32 rfl (lv_at hl 0 rfl) ?_
        refine cr_get C hW.1 0 rfl rfl 2 (by decide) hinX4 k4 (v := .ref (al 3)) rfl dX4_copyFrom_33 ?_
        refine lv_iload_n hx hb dX4_copyFrom_36 rfl (lv_at hl 2 rfl) ?_
        refine lv_aload_n hx hb dX4_copyFrom_37 rfl (lv_at hl 1 rfl) ?_
        refine cr_get C hW.1 5 rfl rfl 2 (by decide) hinX4 k4 (v := .ref (al2 3)) rfl dX4_copyFrom_38 ?_
        refine lv_iload_n hx hb dX4_copyFrom_41 rfl (lv_at hl 2 rfl) ?_
        refine cr_ald C hW.1 8 (f := vl2 2) (k := cr_x x2) rfl i2 (cr_xe _) dX4_copyFrom_42 ?_
        refine cr_ast C hW 3 rfl (k := (cr_x x2)) i2 (cr_xe _) (w' := cr_wL ct al (cr_a (cr_a (cr_a vl 0 (cr_x x2) (vl2 0 (cr_x x2))) 1 (cr_x x2) (vl2 1 (cr_x x2))) 2 (cr_x x2) (vl2 2 (cr_x x2))) ++ cr_wL ct al2 vl2) rfl dX4_copyFrom_43 (fun H locs hW => ?_)
        refine lv_aload_n hx hb dX4_copyFrom_44 rfl (lv_at hl 0 rfl) ?_
        refine cr_get C hW.1 0 rfl rfl 3 (by decide) hinX4 k5 (v := .ref (al 4)) rfl dX4_copyFrom_45 ?_
        refine lv_iload_n hx hb dX4_copyFrom_48 rfl (lv_at hl 2 rfl) ?_
        refine lv_aload_n hx hb dX4_copyFrom_49 rfl (lv_at hl 1 rfl) ?_
        refine cr_get C hW.1 5 rfl rfl 3 (by decide) hinX4 k5 (v := .ref (al2 4)) rfl dX4_copyFrom_50 ?_
        refine lv_iload_n hx hb dX4_copyFrom_53 rfl (lv_at hl 2 rfl) ?_
        refine cr_ald C hW.1 9 (f := vl2 3) (k := cr_x x2) rfl i2 (cr_xe _) dX4_copyFrom_54 ?_
        refine cr_ast C hW 4 rfl (k := (cr_x x2)) i2 (cr_xe _) (w' := cr_wL ct al (cr_a (cr_a (cr_a (cr_a vl 0 (cr_x x2) (vl2 0 (cr_x x2))) 1 (cr_x x2) (vl2 1 (cr_x x2))) 2 (cr_x x2) (vl2 2 (cr_x x2))) 3 (cr_x x2) (vl2 3 (cr_x x2))) ++ cr_wL ct al2 vl2) rfl dX4_copyFrom_55 (fun H locs hW => ?_)
        refine lv_iinc (v := x2 + 1) (lv' := [(2, .int (x2 + 1)), (0, .ref (al 0)), (1, .ref (al2 0))]) hx hb dX4_copyFrom_56 hl (k := 2) rfl (by first | rfl | decide) (by decide) rfl (fun ls hl => ?_)
        refine lv_goto (tgt := 2) hx hb dX4_copyFrom_59 (by decide) ?_
        exact ih (cr_a (cr_a (cr_a (cr_a vl 0 (cr_x x2) (vl2 0 (cr_x x2))) 1 (cr_x x2) (vl2 1 (cr_x x2))) 2 (cr_x x2) (vl2 2 (cr_x x2))) 3 (cr_x x2) (vl2 3 (cr_x x2))) vl2 (x2 + 1) hE _ _ _ hW (lv_sub hl [1, 2, 0] rfl)
  replace hE : (f_X4_copyFrom_2 10100 vl vl2 0) = some out := hE
  refine lv_iconst (v := 0) hx hb dX4_copyFrom_0 (by decide) ?_
  refine lv_istore_n (lv' := [(2, .int 0), (0, .ref (al 0)), (1, .ref (al2 0))]) hx hb dX4_copyFrom_1 rfl hl (by decide) rfl (fun ls hl => ?_)
  exact n2 10100 vl vl2 0 hE _ _ _ hW (lv_sub hl [1, 2, 0] rfl)

set_option maxHeartbeats 4000000 in
set_option maxRecDepth 100000 in
theorem m_X4_dropEmpty (L : Launch) (D : va_G) (ct : Nat → ClassId) (al : Nat → Nat) (vl : cr_V)  (sz : Nat) (out : cr_V) (hE : f_X4_dropEmpty vl = some out) : Met L yX4_dropEmpty wsX4_dropEmpty ({ frames := 0, cells := 0, slots := 0, locals := 0 } : Room) (cr_pW D ct (cr_wL ct al vl) sz [.ref (al 0)]) (cr_QV D (cr_wL ct al vl) sz (fun u : cr_V => u = out) (fun u : cr_V => cr_wL ct al u)) 0 0 (va_A (cr_wL ct al vl) sz) := by
  have k0 : (Cond.fieldLink RX4 24 "CupReceipts$Lots" "size" "I") ∈ wsX4_dropEmpty := List.mem_of_getElem? (i := 1) rfl
  have k1 : (Cond.fieldLink RX4 15 "CupReceipts$Lots" "bags" "[I") ∈ wsX4_dropEmpty := List.mem_of_getElem? (i := 2) rfl
  have k2 : (Cond.fieldLink RX4 9 "CupReceipts$Lots" "numbers" "[I") ∈ wsX4_dropEmpty := List.mem_of_getElem? (i := 3) rfl
  have k3 : (Cond.fieldLink RX4 18 "CupReceipts$Lots" "cups" "[I") ∈ wsX4_dropEmpty := List.mem_of_getElem? (i := 4) rfl
  have k4 : (Cond.fieldLink RX4 21 "CupReceipts$Lots" "months" "[I") ∈ wsX4_dropEmpty := List.mem_of_getElem? (i := 5) rfl
  have hinX4 : ∀ w ∈ wsX40, w ∈ wsX4_dropEmpty := fun w h => List.mem_cons_of_mem _ (List.mem_append_right _ h)
  refine cr_metW (Qc := fun A => va_Qv (fun u : cr_V => u = out) (fun u t => cr_at D A ((fun u : cr_V => cr_wL ct al u) u) t) A) (by decide) rfl rfl (Nat.le_of_ble_eq_true rfl) ?_
  intro p e s m args below meth c ls A C hW hl
  obtain ⟨hx, hb, hml, hown, hts, hr, hlocks, hK, hN⟩ := id C
  have hl : lv_has ls 3 [(0, .ref (al 0))] := hl
  have n72 : ∀ (k4_ : cr_V → Int32 → Int32 → Option (cr_V)) (ih4_ : ∀ (vl : cr_V) (x1 : Int32) (x2 : Int32) (hE : k4_ vl x1 x2 = some out) (H : Heap) (locs : List Loc) (ls : Array Slot) (hW : cr_wd D A s (cr_wL ct al vl) H locs) (hl : lv_has ls 3 [(0, .ref (al 0)), (1, .int x1), (2, .int x2)]), W p L e ({ frames := 0, cells := 0, slots := 0, locals := 0 } : Room) s m args below meth c H locs 0 0 (MQ below (va_Qv (fun u : cr_V => u = out) (fun u t => cr_at D A ((fun u : cr_V => cr_wL ct al u) u) t) A) args s 0 0 A) (F0 m 4 ls [])), ∀ (vl : cr_V) (x1 : Int32) (x2 : Int32) (hE : f_X4_dropEmpty_72 k4_ vl x1 x2 = some out) (H : Heap) (locs : List Loc) (ls : Array Slot) (hW : cr_wd D A s (cr_wL ct al vl) H locs) (hl : lv_has ls 3 [(0, .ref (al 0)), (1, .int x1), (2, .int x2)]), W p L e ({ frames := 0, cells := 0, slots := 0, locals := 0 } : Room) s m args below meth c H locs 0 0 (MQ below (va_Qv (fun u : cr_V => u = out) (fun u t => cr_at D A ((fun u : cr_V => cr_wL ct al u) u) t) A) args s 0 0 A) (F0 m 72 ls []) := by
    intro k4_ ih4_ vl x1 x2 hE H locs ls hW hl
    replace hE : (k4_ vl x1 (x2 + 1)) = some out := hE
    refine lv_iinc (v := x2 + 1) (lv' := [(2, .int (x2 + 1)), (0, .ref (al 0)), (1, .int x1)]) hx hb dX4_dropEmpty_72 hl (k := 2) rfl (by first | rfl | decide) (by decide) rfl (fun ls hl => ?_)
    refine lv_goto (tgt := 4) hx hb dX4_dropEmpty_75 (by decide) ?_
    exact ih4_ vl x1 (x2 + 1) hE _ _ _ hW (lv_sub hl [1, 2, 0] rfl)
  have n4 :  ∀ (n : Nat), ∀ (vl : cr_V) (x1 : Int32) (x2 : Int32) (hE : f_X4_dropEmpty_4  n vl x1 x2 = some out) (H : Heap) (locs : List Loc) (ls : Array Slot) (hW : cr_wd D A s (cr_wL ct al vl) H locs) (hl : lv_has ls 3 [(0, .ref (al 0)), (1, .int x1), (2, .int x2)]), W p L e ({ frames := 0, cells := 0, slots := 0, locals := 0 } : Room) s m args below meth c H locs 0 0 (MQ below (va_Qv (fun u : cr_V => u = out) (fun u t => cr_at D A ((fun u : cr_V => cr_wL ct al u) u) t) A) args s 0 0 A) (F0 m 4 ls []) := by
    intro  n
    induction n with
    | zero =>
      intro vl x1 x2 hE
      cases hE
    | succ n ih =>
      intro vl x1 x2 hE H locs ls hW hl
      replace hE : (if (vl 4 0) ≤ x2 then (some (cr_i vl 4 x1)) else (if cr_in x2 12 = true then if (vl 1 (cr_x x2)) ≤ 0 then (f_X4_dropEmpty_72 (f_X4_dropEmpty_4 n) vl x1 x2) else (if cr_in x1 12 = true then f_X4_dropEmpty_72 (f_X4_dropEmpty_4 n) (cr_a (cr_a (cr_a (cr_a vl 0 (cr_x x1) (vl 0 (cr_x x2))) 1 (cr_x x1) (vl 1 (cr_x x2))) 2 (cr_x x1) (vl 2 (cr_x x2))) 3 (cr_x x1) (vl 3 (cr_x x2))) (x1 + 1) x2 else none) else none)) = some out := hE
      refine lv_iload_n hx hb dX4_dropEmpty_4 rfl (lv_at hl 2 rfl) ?_
      refine lv_aload_n hx hb dX4_dropEmpty_5 rfl (lv_at hl 0 rfl) ?_
      refine cr_get C hW.1 0 rfl rfl 4 (by decide) hinX4 k0 (v := .int (vl 4 0)) rfl dX4_dropEmpty_6 ?_
      refine lv_icmp_ge (tgt := 78) hx hb dX4_dropEmpty_9 (by decide) (fun c1 => ?_) (fun c1 => ?_)
      · rw [if_pos c1] at hE
        refine lv_aload_n hx hb dX4_dropEmpty_78 rfl (lv_at hl 0 rfl) ?_
        refine lv_iload_n hx hb dX4_dropEmpty_79 rfl (lv_at hl 1 rfl) ?_
        refine cr_put C hW 0 rfl rfl tyX4 tyX4_ok nmX4 4 (by decide) hinX4 k0 rfl rfl rfl rfl (Nat.le_of_ble_eq_true rfl) (w' := cr_wL ct al (cr_i vl 4 x1)) rfl dX4_dropEmpty_80 (fun H locs hW => ?_)
        exact cr_retV C (w := (fun u : cr_V => cr_wL ct al u)) (cr_i vl 4 x1) hW (Option.some.inj hE) dX4_dropEmpty_83
      · rw [if_neg c1] at hE
        refine lv_aload_n hx hb dX4_dropEmpty_12 rfl (lv_at hl 0 rfl) ?_
        refine cr_get C hW.1 0 rfl rfl 1 (by decide) hinX4 k1 (v := .ref (al 2)) rfl dX4_dropEmpty_13 ?_
        refine lv_iload_n hx hb dX4_dropEmpty_16 rfl (lv_at hl 2 rfl) ?_
        obtain ⟨i2, hE⟩ := cr_ifn hE
        refine cr_ald C hW.1 2 (f := vl 1) (k := cr_x x2) rfl i2 (cr_xe _) dX4_dropEmpty_17 ?_
        refine lv_if_le (tgt := 72) hx hb dX4_dropEmpty_18 (by decide) (fun c3 => ?_) (fun c3 => ?_)
        · rw [if_pos c3] at hE
          exact n72 (f_X4_dropEmpty_4 n) ih vl x1 x2 hE _ _ _ hW (lv_sub hl [0, 1, 2] rfl)
        · rw [if_neg c3] at hE
          refine lv_aload_n hx hb dX4_dropEmpty_21 rfl (lv_at hl 0 rfl) ?_
          refine cr_get C hW.1 0 rfl rfl 0 (by decide) hinX4 k2 (v := .ref (al 1)) rfl dX4_dropEmpty_22 ?_
          refine lv_iload_n hx hb dX4_dropEmpty_25 rfl (lv_at hl 1 rfl) ?_
          refine lv_aload_n hx hb dX4_dropEmpty_26 rfl (lv_at hl 0 rfl) ?_
          refine cr_get C hW.1 0 rfl rfl 0 (by decide) hinX4 k2 (v := .ref (al 1)) rfl dX4_dropEmpty_27 ?_
          refine lv_iload_n hx hb dX4_dropEmpty_30 rfl (lv_at hl 2 rfl) ?_
          refine cr_ald C hW.1 1 (f := vl 0) (k := cr_x x2) rfl i2 (cr_xe _) dX4_dropEmpty_31 ?_
          obtain ⟨i4, hE⟩ := cr_ifn hE
          refine cr_ast C hW 1 rfl (k := (cr_x x1)) i4 (cr_xe _) (w' := cr_wL ct al (cr_a vl 0 (cr_x x1) (vl 0 (cr_x x2)))) rfl dX4_dropEmpty_32 (fun H locs hW => ?_)
          refine lv_aload_n hx hb dX4_dropEmpty_33 rfl (lv_at hl 0 rfl) ?_
          refine cr_get C hW.1 0 rfl rfl 1 (by decide) hinX4 k1 (v := .ref (al 2)) rfl dX4_dropEmpty_34 ?_
          refine lv_iload_n hx hb dX4_dropEmpty_37 rfl (lv_at hl 1 rfl) ?_
          refine lv_aload_n hx hb dX4_dropEmpty_38 rfl (lv_at hl 0 rfl) ?_
          refine cr_get C hW.1 0 rfl rfl 1 (by decide) hinX4 k1 (v := .ref (al 2)) rfl dX4_dropEmpty_39 ?_
          refine lv_iload_n hx hb dX4_dropEmpty_42 rfl (lv_at hl 2 rfl) ?_
          refine cr_ald C hW.1 2 (f := vl 1) (k := cr_x x2) rfl i2 (cr_xe _) dX4_dropEmpty_43 ?_
          refine cr_ast C hW 2 rfl (k := (cr_x x1)) i4 (cr_xe _) (w' := cr_wL ct al (cr_a (cr_a vl 0 (cr_x x1) (vl 0 (cr_x x2))) 1 (cr_x x1) (vl 1 (cr_x x2)))) rfl dX4_dropEmpty_44 (fun H locs hW => ?_)
          refine lv_aload_n hx hb dX4_dropEmpty_45 rfl (lv_at hl 0 rfl) ?_
          refine cr_get C hW.1 0 rfl rfl 2 (by decide) hinX4 k3 (v := .ref (al 3)) rfl dX4_dropEmpty_46 ?_
          refine lv_iload_n hx hb dX4_dropEmpty_49 rfl (lv_at hl 1 rfl) ?_
          refine lv_aload_n hx hb dX4_dropEmpty_50 rfl (lv_at hl 0 rfl) ?_
          refine cr_get C hW.1 0 rfl rfl 2 (by decide) hinX4 k3 (v := .ref (al 3)) rfl dX4_dropEmpty_51 ?_
          refine lv_iload_n hx hb dX4_dropEmpty_54 rfl (lv_at hl 2 rfl) ?_
          refine cr_ald C hW.1 3 (f := vl 2) (k := cr_x x2) rfl i2 (cr_xe _) dX4_dropEmpty_55 ?_
          refine cr_ast C hW 3 rfl (k := (cr_x x1)) i4 (cr_xe _) (w' := cr_wL ct al (cr_a (cr_a (cr_a vl 0 (cr_x x1) (vl 0 (cr_x x2))) 1 (cr_x x1) (vl 1 (cr_x x2))) 2 (cr_x x1) (vl 2 (cr_x x2)))) rfl dX4_dropEmpty_56 (fun H locs hW => ?_)
          refine lv_aload_n hx hb dX4_dropEmpty_57 rfl (lv_at hl 0 rfl) ?_
          refine cr_get C hW.1 0 rfl rfl 3 (by decide) hinX4 k4 (v := .ref (al 4)) rfl dX4_dropEmpty_58 ?_
          refine lv_iload_n hx hb dX4_dropEmpty_61 rfl (lv_at hl 1 rfl) ?_
          refine lv_aload_n hx hb dX4_dropEmpty_62 rfl (lv_at hl 0 rfl) ?_
          refine cr_get C hW.1 0 rfl rfl 3 (by decide) hinX4 k4 (v := .ref (al 4)) rfl dX4_dropEmpty_63 ?_
          refine lv_iload_n hx hb dX4_dropEmpty_66 rfl (lv_at hl 2 rfl) ?_
          refine cr_ald C hW.1 4 (f := vl 3) (k := cr_x x2) rfl i2 (cr_xe _) dX4_dropEmpty_67 ?_
          refine cr_ast C hW 4 rfl (k := (cr_x x1)) i4 (cr_xe _) (w' := cr_wL ct al (cr_a (cr_a (cr_a (cr_a vl 0 (cr_x x1) (vl 0 (cr_x x2))) 1 (cr_x x1) (vl 1 (cr_x x2))) 2 (cr_x x1) (vl 2 (cr_x x2))) 3 (cr_x x1) (vl 3 (cr_x x2)))) rfl dX4_dropEmpty_68 (fun H locs hW => ?_)
          refine lv_iinc (v := x1 + 1) (lv' := [(1, .int (x1 + 1)), (0, .ref (al 0)), (2, .int x2)]) hx hb dX4_dropEmpty_69 hl (k := 1) rfl (by first | rfl | decide) (by decide) rfl (fun ls hl => ?_)
          exact n72 (f_X4_dropEmpty_4 n) ih (cr_a (cr_a (cr_a (cr_a vl 0 (cr_x x1) (vl 0 (cr_x x2))) 1 (cr_x x1) (vl 1 (cr_x x2))) 2 (cr_x x1) (vl 2 (cr_x x2))) 3 (cr_x x1) (vl 3 (cr_x x2))) (x1 + 1) x2 hE _ _ _ hW (lv_sub hl [1, 0, 2] rfl)
  replace hE : (f_X4_dropEmpty_4 10100 vl 0 0) = some out := hE
  refine lv_iconst (v := 0) hx hb dX4_dropEmpty_0 (by decide) ?_
  refine lv_istore_n (lv' := [(1, .int 0), (0, .ref (al 0))]) hx hb dX4_dropEmpty_1 rfl hl (by decide) rfl (fun ls hl => ?_)
  refine lv_iconst (v := 0) hx hb dX4_dropEmpty_2 (by decide) ?_
  refine lv_istore_n (lv' := [(2, .int 0), (1, .int 0), (0, .ref (al 0))]) hx hb dX4_dropEmpty_3 rfl hl (by decide) rfl (fun ls hl => ?_)
  exact n4 10100 vl 0 0 hE _ _ _ hW (lv_sub hl [2, 1, 0] rfl)

set_option maxHeartbeats 4000000 in
set_option maxRecDepth 100000 in
theorem m_X4_cupAt (L : Launch) (D : va_G) (ct : Nat → ClassId) (al : Nat → Nat) (vl : cr_V) (x1 : Int32) (x2 : Int32) (out : Int32) (hE : f_X4_cupAt vl x1 x2 = some out) : Met L yX4_cupAt wsX4_cupAt ({ frames := 0, cells := 0, slots := 0, locals := 0 } : Room) (cr_pR D ct (cr_wL ct al vl) [.ref (al 0), .int x1, .int x2]) (cr_QR (fun r => r = out)) 0 0 cr_no := by
  have k0 : (Cond.fieldLink RX4 18 "CupReceipts$Lots" "cups" "[I") ∈ wsX4_cupAt := List.mem_of_getElem? (i := 1) rfl
  have k1 : (Cond.fieldLink RX4 21 "CupReceipts$Lots" "months" "[I") ∈ wsX4_cupAt := List.mem_of_getElem? (i := 2) rfl
  have hinX4 : ∀ w ∈ wsX40, w ∈ wsX4_cupAt := fun w h => List.mem_cons_of_mem _ (List.mem_append_right _ h)
  refine cr_metR (by decide) rfl rfl (Nat.le_of_ble_eq_true rfl) ?_
  intro p e s m args below meth c ls C hP hS hl
  obtain ⟨hx, hb, hml, hown, hts, hr, hlocks, hK, hN⟩ := id C
  have hl : lv_has ls 4 [(0, .ref (al 0)), (1, .int x1), (2, .int x2)] := hl
  replace hE : (if cr_in x1 12 = true then if 60 ≤ ((vl 2 (cr_x x1)) - ((x2 - (vl 3 (cr_x x1))) / 4)) then (some ((vl 2 (cr_x x1)) - ((x2 - (vl 3 (cr_x x1))) / 4))) else (some 60) else none) = some out := hE
  refine lv_aload_n hx hb dX4_cupAt_0 rfl (lv_at hl 0 rfl) ?_
  refine cr_get C hP 0 rfl rfl 2 (by decide) hinX4 k0 (v := .ref (al 3)) rfl dX4_cupAt_1 ?_
  refine lv_iload_n hx hb dX4_cupAt_4 rfl (lv_at hl 1 rfl) ?_
  obtain ⟨i1, hE⟩ := cr_ifn hE
  refine cr_ald C hP 3 (f := vl 2) (k := cr_x x1) rfl i1 (cr_xe _) dX4_cupAt_5 ?_
  refine lv_iload_n hx hb dX4_cupAt_6 rfl (lv_at hl 2 rfl) ?_
  refine lv_aload_n hx hb dX4_cupAt_7 rfl (lv_at hl 0 rfl) ?_
  refine cr_get C hP 0 rfl rfl 3 (by decide) hinX4 k1 (v := .ref (al 4)) rfl dX4_cupAt_8 ?_
  refine lv_iload_n hx hb dX4_cupAt_11 rfl (lv_at hl 1 rfl) ?_
  refine cr_ald C hP 4 (f := vl 3) (k := cr_x x1) rfl i1 (cr_xe _) dX4_cupAt_12 ?_
  refine lv_isub hx hb dX4_cupAt_13 ?_
  refine lv_iconst (v := 4) hx hb dX4_cupAt_14 (by decide) ?_
  refine lv_idiv hx hb dX4_cupAt_15 (by decide) ?_
  refine lv_isub hx hb dX4_cupAt_16 ?_
  refine lv_istore_n (lv' := [(3, .int ((vl 2 (cr_x x1)) - ((x2 - (vl 3 (cr_x x1))) / 4))), (0, .ref (al 0)), (1, .int x1), (2, .int x2)]) hx hb dX4_cupAt_17 rfl hl (by decide) rfl (fun ls hl => ?_)
  refine lv_iload_n hx hb dX4_cupAt_18 rfl (lv_at hl 0 rfl) ?_
  refine lv_bipush (v := 60) hx hb dX4_cupAt_19 (by decide) ?_
  refine lv_icmp_ge (tgt := 29) hx hb dX4_cupAt_21 (by decide) (fun c2 => ?_) (fun c2 => ?_)
  · rw [if_pos c2] at hE
    refine lv_iload_n hx hb dX4_cupAt_29 rfl (lv_at hl 0 rfl) ?_
    exact cr_retR C hS (Option.some.inj hE) dX4_cupAt_30
  · rw [if_neg c2] at hE
    refine lv_bipush (v := 60) hx hb dX4_cupAt_24 (by decide) ?_
    refine lv_goto (tgt := 30) hx hb dX4_cupAt_26 (by decide) ?_
    exact cr_retR C hS (Option.some.inj hE) dX4_cupAt_30

set_option maxHeartbeats 4000000 in
set_option maxRecDepth 100000 in
theorem m_X4_monthsTooOld (L : Launch) (D : va_G) (ct : Nat → ClassId) (al : Nat → Nat) (vl : cr_V) (x1 : Int32) (x2 : Int32) (out : Int32) (hE : f_X4_monthsTooOld vl x1 x2 = some out) : Met L yX4_monthsTooOld wsX4_monthsTooOld ({ frames := 0, cells := 0, slots := 0, locals := 0 } : Room) (cr_pR D ct (cr_wL ct al vl) [.ref (al 0), .int x1, .int x2]) (cr_QR (fun r => r = out)) 0 0 cr_no := by
  have k0 : (Cond.fieldLink RX4 21 "CupReceipts$Lots" "months" "[I") ∈ wsX4_monthsTooOld := List.mem_of_getElem? (i := 1) rfl
  have hinX4 : ∀ w ∈ wsX40, w ∈ wsX4_monthsTooOld := fun w h => List.mem_cons_of_mem _ (List.mem_append_right _ h)
  refine cr_metR (by decide) rfl rfl (Nat.le_of_ble_eq_true rfl) ?_
  intro p e s m args below meth c ls C hP hS hl
  obtain ⟨hx, hb, hml, hown, hts, hr, hlocks, hK, hN⟩ := id C
  have hl : lv_has ls 4 [(0, .ref (al 0)), (1, .int x1), (2, .int x2)] := hl
  replace hE : (if cr_in x1 12 = true then if 0 ≤ ((x2 - (vl 3 (cr_x x1))) - 3) then (some ((x2 - (vl 3 (cr_x x1))) - 3)) else (some 0) else none) = some out := hE
  refine lv_iload_n hx hb dX4_monthsTooOld_0 rfl (lv_at hl 2 rfl) ?_
  refine lv_aload_n hx hb dX4_monthsTooOld_1 rfl (lv_at hl 0 rfl) ?_
  refine cr_get C hP 0 rfl rfl 3 (by decide) hinX4 k0 (v := .ref (al 4)) rfl dX4_monthsTooOld_2 ?_
  refine lv_iload_n hx hb dX4_monthsTooOld_5 rfl (lv_at hl 1 rfl) ?_
  obtain ⟨i1, hE⟩ := cr_ifn hE
  refine cr_ald C hP 4 (f := vl 3) (k := cr_x x1) rfl i1 (cr_xe _) dX4_monthsTooOld_6 ?_
  refine lv_isub hx hb dX4_monthsTooOld_7 ?_
  refine lv_iconst (v := 3) hx hb dX4_monthsTooOld_8 (by decide) ?_
  refine lv_isub hx hb dX4_monthsTooOld_9 ?_
  refine lv_istore_n (lv' := [(3, .int ((x2 - (vl 3 (cr_x x1))) - 3)), (0, .ref (al 0)), (1, .int x1), (2, .int x2)]) hx hb dX4_monthsTooOld_10 rfl hl (by decide) rfl (fun ls hl => ?_)
  refine lv_iload_n hx hb dX4_monthsTooOld_11 rfl (lv_at hl 0 rfl) ?_
  refine lv_if_ge (tgt := 19) hx hb dX4_monthsTooOld_12 (by decide) (fun c2 => ?_) (fun c2 => ?_)
  · rw [if_pos c2] at hE
    refine lv_iload_n hx hb dX4_monthsTooOld_19 rfl (lv_at hl 0 rfl) ?_
    exact cr_retR C hS (Option.some.inj hE) dX4_monthsTooOld_20
  · rw [if_neg c2] at hE
    refine lv_iconst (v := 0) hx hb dX4_monthsTooOld_15 (by decide) ?_
    refine lv_goto (tgt := 20) hx hb dX4_monthsTooOld_16 (by decide) ?_
    exact cr_retR C hS (Option.some.inj hE) dX4_monthsTooOld_20

set_option maxHeartbeats 4000000 in
set_option maxRecDepth 100000 in
theorem m_X4_allBags (L : Launch) (D : va_G) (ct : Nat → ClassId) (al : Nat → Nat) (vl : cr_V)  (out : Int32) (hE : f_X4_allBags vl = some out) : Met L yX4_allBags wsX4_allBags ({ frames := 0, cells := 0, slots := 0, locals := 0 } : Room) (cr_pR D ct (cr_wL ct al vl) [.ref (al 0)]) (cr_QR (fun r => r = out)) 0 0 cr_no := by
  have k0 : (Cond.fieldLink RX4 24 "CupReceipts$Lots" "size" "I") ∈ wsX4_allBags := List.mem_of_getElem? (i := 1) rfl
  have k1 : (Cond.fieldLink RX4 15 "CupReceipts$Lots" "bags" "[I") ∈ wsX4_allBags := List.mem_of_getElem? (i := 2) rfl
  have hinX4 : ∀ w ∈ wsX40, w ∈ wsX4_allBags := fun w h => List.mem_cons_of_mem _ (List.mem_append_right _ h)
  refine cr_metR (by decide) rfl rfl (Nat.le_of_ble_eq_true rfl) ?_
  intro p e s m args below meth c ls C hP hS hl
  obtain ⟨hx, hb, hml, hown, hts, hr, hlocks, hK, hN⟩ := id C
  have hl : lv_has ls 3 [(0, .ref (al 0))] := hl
  have n4 :  ∀ (n : Nat), ∀ (vl : cr_V) (x1 : Int32) (x2 : Int32) (hE : f_X4_allBags_4  n vl x1 x2 = some out) (H : Heap) (locs : List Loc) (ls : Array Slot) (hP : va_P D vwCl (cr_wL ct al vl) H) (hS : va_S cr_no s.heap H locs) (hl : lv_has ls 3 [(0, .ref (al 0)), (1, .int x1), (2, .int x2)]), W p L e ({ frames := 0, cells := 0, slots := 0, locals := 0 } : Room) s m args below meth c H locs 0 0 (MQ below (cr_QR (fun r => r = out)) args s 0 0 cr_no) (F0 m 4 ls []) := by
    intro  n
    induction n with
    | zero =>
      intro vl x1 x2 hE
      cases hE
    | succ n ih =>
      intro vl x1 x2 hE H locs ls hP hS hl
      replace hE : (if (vl 4 0) ≤ x2 then (some x1) else (if cr_in x2 12 = true then f_X4_allBags_4 n vl (x1 + (vl 1 (cr_x x2))) (x2 + 1) else none)) = some out := hE
      refine lv_iload_n hx hb dX4_allBags_4 rfl (lv_at hl 2 rfl) ?_
      refine lv_aload_n hx hb dX4_allBags_5 rfl (lv_at hl 0 rfl) ?_
      refine cr_get C hP 0 rfl rfl 4 (by decide) hinX4 k0 (v := .int (vl 4 0)) rfl dX4_allBags_6 ?_
      refine lv_icmp_ge (tgt := 27) hx hb dX4_allBags_9 (by decide) (fun c1 => ?_) (fun c1 => ?_)
      · rw [if_pos c1] at hE
        refine lv_iload_n hx hb dX4_allBags_27 rfl (lv_at hl 1 rfl) ?_
        exact cr_retR C hS (Option.some.inj hE) dX4_allBags_28
      · rw [if_neg c1] at hE
        refine lv_iload_n hx hb dX4_allBags_12 rfl (lv_at hl 1 rfl) ?_
        refine lv_aload_n hx hb dX4_allBags_13 rfl (lv_at hl 0 rfl) ?_
        refine cr_get C hP 0 rfl rfl 1 (by decide) hinX4 k1 (v := .ref (al 2)) rfl dX4_allBags_14 ?_
        refine lv_iload_n hx hb dX4_allBags_17 rfl (lv_at hl 2 rfl) ?_
        obtain ⟨i2, hE⟩ := cr_ifn hE
        refine cr_ald C hP 2 (f := vl 1) (k := cr_x x2) rfl i2 (cr_xe _) dX4_allBags_18 ?_
        refine lv_iadd hx hb dX4_allBags_19 ?_
        refine lv_istore_n (lv' := [(1, .int (x1 + (vl 1 (cr_x x2)))), (0, .ref (al 0)), (2, .int x2)]) hx hb dX4_allBags_20 rfl hl (by decide) rfl (fun ls hl => ?_)
        refine lv_iinc (v := x2 + 1) (lv' := [(2, .int (x2 + 1)), (1, .int (x1 + (vl 1 (cr_x x2)))), (0, .ref (al 0))]) hx hb dX4_allBags_21 hl (k := 2) rfl (by first | rfl | decide) (by decide) rfl (fun ls hl => ?_)
        refine lv_goto (tgt := 4) hx hb dX4_allBags_24 (by decide) ?_
        exact ih vl (x1 + (vl 1 (cr_x x2))) (x2 + 1) hE _ _ _ hP hS (lv_sub hl [2, 1, 0] rfl)
  replace hE : (f_X4_allBags_4 10100 vl 0 0) = some out := hE
  refine lv_iconst (v := 0) hx hb dX4_allBags_0 (by decide) ?_
  refine lv_istore_n (lv' := [(1, .int 0), (0, .ref (al 0))]) hx hb dX4_allBags_1 rfl hl (by decide) rfl (fun ls hl => ?_)
  refine lv_iconst (v := 0) hx hb dX4_allBags_2 (by decide) ?_
  refine lv_istore_n (lv' := [(2, .int 0), (1, .int 0), (0, .ref (al 0))]) hx hb dX4_allBags_3 rfl hl (by decide) rfl (fun ls hl => ?_)
  exact n4 10100 vl 0 0 hE _ _ _ hP hS (lv_sub hl [2, 1, 0] rfl)

set_option maxHeartbeats 4000000 in
set_option maxRecDepth 100000 in
theorem m_X4_bagsToGive (L : Launch) (D : va_G) (ct : Nat → ClassId) (al : Nat → Nat) (vl : cr_V) (x1 : Int32) (out : Int32) (hE : f_X4_bagsToGive vl x1 = some out) : Met L yX4_bagsToGive wsX4_bagsToGive ({ frames := 1, cells := 0, slots := 0, locals := 23 } : Room) (cr_pR D ct (cr_wL ct al vl) [.ref (al 0), .int x1]) (cr_QR (fun r => r = out)) 0 0 cr_no := by
  have k0 : (Cond.fieldLink RX4 24 "CupReceipts$Lots" "size" "I") ∈ wsX4_bagsToGive := List.mem_of_getElem? (i := 1) rfl
  have k1 : (Cond.fieldLink RX4 15 "CupReceipts$Lots" "bags" "[I") ∈ wsX4_bagsToGive := List.mem_of_getElem? (i := 2) rfl
  have hinX4 : ∀ w ∈ wsX40, w ∈ wsX4_bagsToGive := fun w h => List.mem_cons_of_mem _ (List.mem_append_right _ h)
  refine cr_metR (by decide) rfl rfl (Nat.le_of_ble_eq_true rfl) ?_
  intro p e s m args below meth c ls C hP hS hl
  obtain ⟨hx, hb, hml, hown, hts, hr, hlocks, hK, hN⟩ := id C
  have hl : lv_has ls 4 [(0, .ref (al 0)), (1, .int x1)] := hl
  have n32 : ∀ (k4_ : cr_V → Int32 → Int32 → Int32 → Option (Int32)) (ih4_ : ∀ (vl : cr_V) (x1 : Int32) (x2 : Int32) (x3 : Int32) (hE : k4_ vl x1 x2 x3 = some out) (H : Heap) (locs : List Loc) (ls : Array Slot) (hP : va_P D vwCl (cr_wL ct al vl) H) (hS : va_S cr_no s.heap H locs) (hl : lv_has ls 4 [(0, .ref (al 0)), (1, .int x1), (2, .int x2), (3, .int x3)]), W p L e ({ frames := 1, cells := 0, slots := 0, locals := 23 } : Room) s m args below meth c H locs 0 0 (MQ below (cr_QR (fun r => r = out)) args s 0 0 cr_no) (F0 m 4 ls [])), ∀ (vl : cr_V) (x1 : Int32) (x2 : Int32) (x3 : Int32) (hE : f_X4_bagsToGive_32 k4_ vl x1 x2 x3 = some out) (H : Heap) (locs : List Loc) (ls : Array Slot) (hP : va_P D vwCl (cr_wL ct al vl) H) (hS : va_S cr_no s.heap H locs) (hl : lv_has ls 4 [(0, .ref (al 0)), (1, .int x1), (2, .int x2), (3, .int x3)]), W p L e ({ frames := 1, cells := 0, slots := 0, locals := 23 } : Room) s m args below meth c H locs 0 0 (MQ below (cr_QR (fun r => r = out)) args s 0 0 cr_no) (F0 m 32 ls []) := by
    intro k4_ ih4_ vl x1 x2 x3 hE H locs ls hP hS hl
    replace hE : (k4_ vl x1 x2 (x3 + 1)) = some out := hE
    refine lv_iinc (v := x3 + 1) (lv' := [(3, .int (x3 + 1)), (0, .ref (al 0)), (1, .int x1), (2, .int x2)]) hx hb dX4_bagsToGive_32 hl (k := 3) rfl (by first | rfl | decide) (by decide) rfl (fun ls hl => ?_)
    refine lv_goto (tgt := 4) hx hb dX4_bagsToGive_35 (by decide) ?_
    exact ih4_ vl x1 x2 (x3 + 1) hE _ _ _ hP hS (lv_sub hl [1, 2, 3, 0] rfl)
  have n4 :  ∀ (n : Nat), ∀ (vl : cr_V) (x1 : Int32) (x2 : Int32) (x3 : Int32) (hE : f_X4_bagsToGive_4  n vl x1 x2 x3 = some out) (H : Heap) (locs : List Loc) (ls : Array Slot) (hP : va_P D vwCl (cr_wL ct al vl) H) (hS : va_S cr_no s.heap H locs) (hl : lv_has ls 4 [(0, .ref (al 0)), (1, .int x1), (2, .int x2), (3, .int x3)]), W p L e ({ frames := 1, cells := 0, slots := 0, locals := 23 } : Room) s m args below meth c H locs 0 0 (MQ below (cr_QR (fun r => r = out)) args s 0 0 cr_no) (F0 m 4 ls []) := by
    intro  n
    induction n with
    | zero =>
      intro vl x1 x2 x3 hE
      cases hE
    | succ n ih =>
      intro vl x1 x2 x3 hE H locs ls hP hS hl
      replace hE : (if (vl 4 0) ≤ x3 then (some x2) else ((f_X4_cupAt vl x3 x1).bind fun q2 => if q2 < 70 then (f_X4_bagsToGive_32 (f_X4_bagsToGive_4 n) vl x1 x2 x3) else (if cr_in x3 12 = true then f_X4_bagsToGive_32 (f_X4_bagsToGive_4 n) vl x1 (x2 + (vl 1 (cr_x x3))) x3 else none))) = some out := hE
      refine lv_iload_n hx hb dX4_bagsToGive_4 rfl (lv_at hl 3 rfl) ?_
      refine lv_aload_n hx hb dX4_bagsToGive_5 rfl (lv_at hl 0 rfl) ?_
      refine cr_get C hP 0 rfl rfl 4 (by decide) hinX4 k0 (v := .int (vl 4 0)) rfl dX4_bagsToGive_6 ?_
      refine lv_icmp_ge (tgt := 38) hx hb dX4_bagsToGive_9 (by decide) (fun c1 => ?_) (fun c1 => ?_)
      · rw [if_pos c1] at hE
        refine lv_iload_n hx hb dX4_bagsToGive_38 rfl (lv_at hl 2 rfl) ?_
        exact cr_retR C hS (Option.some.inj hE) dX4_bagsToGive_39
      · rw [if_neg c1] at hE
        refine lv_aload_n hx hb dX4_bagsToGive_12 rfl (lv_at hl 0 rfl) ?_
        refine lv_iload_n hx hb dX4_bagsToGive_13 rfl (lv_at hl 3 rfl) ?_
        refine lv_iload_n hx hb dX4_bagsToGive_14 rfl (lv_at hl 1 rfl) ?_
        obtain ⟨q2, hq2, hE⟩ := cr_bind hE
        refine cr_vRq (n := 2) (As := [.int x3, .int x1]) (rest := []) C hP hS (m_X4_cupAt L D ct al vl x3 x1 q2 hq2) (cwV 2 hts gX4_bagsToGive_X4_cupAt rfl rfl rfl (by decide +kernel) ⟨Nat.le_of_ble_eq_true rfl, Nat.le_of_ble_eq_true rfl⟩) [0, 1, 2, 3, 4] rfl 0 rfl rfl rfl hl.1 rfl (Nat.le_of_ble_eq_true rfl) dX4_bagsToGive_15 ⟨Nat.zero_le _, Nat.zero_le _⟩ (fun H locs hP hS => ?_)
        refine lv_bipush (v := 70) hx hb dX4_bagsToGive_18 (by decide) ?_
        refine lv_icmp_lt (tgt := 32) hx hb dX4_bagsToGive_20 (by decide) (fun c3 => ?_) (fun c3 => ?_)
        · rw [if_pos c3] at hE
          exact n32 (f_X4_bagsToGive_4 n) ih vl x1 x2 x3 hE _ _ _ hP hS (lv_sub hl [0, 1, 2, 3] rfl)
        · rw [if_neg c3] at hE
          refine lv_iload_n hx hb dX4_bagsToGive_23 rfl (lv_at hl 2 rfl) ?_
          refine lv_aload_n hx hb dX4_bagsToGive_24 rfl (lv_at hl 0 rfl) ?_
          refine cr_get C hP 0 rfl rfl 1 (by decide) hinX4 k1 (v := .ref (al 2)) rfl dX4_bagsToGive_25 ?_
          refine lv_iload_n hx hb dX4_bagsToGive_28 rfl (lv_at hl 3 rfl) ?_
          obtain ⟨i4, hE⟩ := cr_ifn hE
          refine cr_ald C hP 2 (f := vl 1) (k := cr_x x3) rfl i4 (cr_xe _) dX4_bagsToGive_29 ?_
          refine lv_iadd hx hb dX4_bagsToGive_30 ?_
          refine lv_istore_n (lv' := [(2, .int (x2 + (vl 1 (cr_x x3)))), (0, .ref (al 0)), (1, .int x1), (3, .int x3)]) hx hb dX4_bagsToGive_31 rfl hl (by decide) rfl (fun ls hl => ?_)
          exact n32 (f_X4_bagsToGive_4 n) ih vl x1 (x2 + (vl 1 (cr_x x3))) x3 hE _ _ _ hP hS (lv_sub hl [1, 2, 0, 3] rfl)
  replace hE : (f_X4_bagsToGive_4 10100 vl x1 0 0) = some out := hE
  refine lv_iconst (v := 0) hx hb dX4_bagsToGive_0 (by decide) ?_
  refine lv_istore_n (lv' := [(2, .int 0), (0, .ref (al 0)), (1, .int x1)]) hx hb dX4_bagsToGive_1 rfl hl (by decide) rfl (fun ls hl => ?_)
  refine lv_iconst (v := 0) hx hb dX4_bagsToGive_2 (by decide) ?_
  refine lv_istore_n (lv' := [(3, .int 0), (2, .int 0), (0, .ref (al 0)), (1, .int x1)]) hx hb dX4_bagsToGive_3 rfl hl (by decide) rfl (fun ls hl => ?_)
  exact n4 10100 vl x1 0 0 hE _ _ _ hP hS (lv_sub hl [2, 3, 1, 0] rfl)

set_option maxHeartbeats 4000000 in
set_option maxRecDepth 100000 in
theorem m_X0_copyFrom (L : Launch) (D : va_G) (ct : Nat → ClassId) (ak : Nat → Nat) (ak2 : Nat → Nat) (vk : cr_V) (vk2 : cr_V)  (sz : Nat) (out : cr_V) (hE : f_X0_copyFrom vk vk2 = some out) : Met L yX0_copyFrom wsX0_copyFrom ({ frames := 0, cells := 0, slots := 0, locals := 0 } : Room) (cr_pW D ct (cr_wK ct ak vk ++ cr_wK ct ak2 vk2) sz [.ref (ak 0), .ref (ak2 0)]) (cr_QV D (cr_wK ct ak vk ++ cr_wK ct ak2 vk2) sz (fun u : cr_V => u = out) (fun u : cr_V => cr_wK ct ak u ++ cr_wK ct ak2 vk2)) 0 0 (va_A (cr_wK ct ak vk ++ cr_wK ct ak2 vk2) sz) := by
  have k0 : (Cond.fieldLink RX0 18 "CupReceipts$Contracts" "size" "I") ∈ wsX0_copyFrom := List.mem_of_getElem? (i := 3) rfl
  have k1 : (Cond.fieldLink RX0 9 "CupReceipts$Contracts" "months" "[I") ∈ wsX0_copyFrom := List.mem_of_getElem? (i := 1) rfl
  have k2 : (Cond.fieldLink RX0 15 "CupReceipts$Contracts" "prices" "[I") ∈ wsX0_copyFrom := List.mem_of_getElem? (i := 2) rfl
  have hinX0 : ∀ w ∈ wsX00, w ∈ wsX0_copyFrom := fun w h => List.mem_cons_of_mem _ (List.mem_append_right _ h)
  refine cr_metW (Qc := fun A => va_Qv (fun u : cr_V => u = out) (fun u t => cr_at D A ((fun u : cr_V => cr_wK ct ak u ++ cr_wK ct ak2 vk2) u) t) A) (by decide) rfl rfl (Nat.le_of_ble_eq_true rfl) ?_
  intro p e s m args below meth c ls A C hW hl
  obtain ⟨hx, hb, hml, hown, hts, hr, hlocks, hK, hN⟩ := id C
  have hl : lv_has ls 3 [(0, .ref (ak 0)), (1, .ref (ak2 0))] := hl
  have n2 :  ∀ (n : Nat), ∀ (vk : cr_V) (vk2 : cr_V) (x2 : Int32) (hE : f_X0_copyFrom_2  n vk vk2 x2 = some out) (H : Heap) (locs : List Loc) (ls : Array Slot) (hW : cr_wd D A s (cr_wK ct ak vk ++ cr_wK ct ak2 vk2) H locs) (hl : lv_has ls 3 [(0, .ref (ak 0)), (1, .ref (ak2 0)), (2, .int x2)]), W p L e ({ frames := 0, cells := 0, slots := 0, locals := 0 } : Room) s m args below meth c H locs 0 0 (MQ below (va_Qv (fun u : cr_V => u = out) (fun u t => cr_at D A ((fun u : cr_V => cr_wK ct ak u ++ cr_wK ct ak2 vk2) u) t) A) args s 0 0 A) (F0 m 2 ls []) := by
    intro  n
    induction n with
    | zero =>
      intro vk vk2 x2 hE
      cases hE
    | succ n ih =>
      intro vk vk2 x2 hE H locs ls hW hl
      replace hE : (if 6 ≤ x2 then (some (cr_i vk 2 (vk2 2 0))) else (if cr_in x2 6 = true then f_X0_copyFrom_2 n (cr_a (cr_a vk 0 (cr_x x2) (vk2 0 (cr_x x2))) 1 (cr_x x2) (vk2 1 (cr_x x2))) vk2 (x2 + 1) else none)) = some out := hE
      refine lv_iload_n hx hb dX0_copyFrom_2 rfl (lv_at hl 2 rfl) ?_
      refine lv_bipush (v := 6) hx hb dX0_copyFrom_3 (by decide) ?_
      refine lv_icmp_ge (tgt := 38) hx hb dX0_copyFrom_5 (by decide) (fun c1 => ?_) (fun c1 => ?_)
      · rw [if_pos c1] at hE
        refine lv_aload_n hx hb dX0_copyFrom_38 rfl (lv_at hl 0 rfl) ?_
        refine lv_aload_n hx hb dX0_copyFrom_39 rfl (lv_at hl 1 rfl) ?_
        refine cr_get C hW.1 3 rfl rfl 2 (by decide) hinX0 k0 (v := .int (vk2 2 0)) rfl dX0_copyFrom_40 ?_
        refine cr_put C hW 0 rfl rfl tyX0 tyX0_ok nmX0 2 (by decide) hinX0 k0 rfl rfl rfl rfl (Nat.le_of_ble_eq_true rfl) (w' := cr_wK ct ak (cr_i vk 2 (vk2 2 0)) ++ cr_wK ct ak2 vk2) rfl dX0_copyFrom_43 (fun H locs hW => ?_)
        exact cr_retV C (w := (fun u : cr_V => cr_wK ct ak u ++ cr_wK ct ak2 vk2)) (cr_i vk 2 (vk2 2 0)) hW (Option.some.inj hE) dX0_copyFrom_46
      · rw [if_neg c1] at hE
        refine lv_aload_n hx hb dX0_copyFrom_8 rfl (lv_at hl 0 rfl) ?_
        refine cr_get C hW.1 0 rfl rfl 0 (by decide) hinX0 k1 (v := .ref (ak 1)) rfl dX0_copyFrom_9 ?_
        refine lv_iload_n hx hb dX0_copyFrom_12 rfl (lv_at hl 2 rfl) ?_
        refine lv_aload_n hx hb dX0_copyFrom_13 rfl (lv_at hl 1 rfl) ?_
        refine cr_get C hW.1 3 rfl rfl 0 (by decide) hinX0 k1 (v := .ref (ak2 1)) rfl dX0_copyFrom_14 ?_
        refine lv_iload_n hx hb dX0_copyFrom_17 rfl (lv_at hl 2 rfl) ?_
        obtain ⟨i2, hE⟩ := cr_ifn hE
        refine cr_ald C hW.1 4 (f := vk2 0) (k := cr_x x2) rfl i2 (cr_xe _) dX0_copyFrom_18 ?_
        refine cr_ast C hW 1 rfl (k := (cr_x x2)) i2 (cr_xe _) (w' := cr_wK ct ak (cr_a vk 0 (cr_x x2) (vk2 0 (cr_x x2))) ++ cr_wK ct ak2 vk2) rfl dX0_copyFrom_19 (fun H locs hW => ?_)
        refine lv_aload_n hx hb dX0_copyFrom_20 rfl (lv_at hl 0 rfl) ?_
        refine cr_get C hW.1 0 rfl rfl 1 (by decide) hinX0 k2 (v := .ref (ak 2)) rfl dX0_copyFrom_21 ?_
        refine lv_iload_n hx hb dX0_copyFrom_24 rfl (lv_at hl 2 rfl) ?_
        refine lv_aload_n hx hb dX0_copyFrom_25 rfl (lv_at hl 1 rfl) ?_
        refine cr_get C hW.1 3 rfl rfl 1 (by decide) hinX0 k2 (v := .ref (ak2 2)) rfl dX0_copyFrom_26 ?_
        refine lv_iload_n hx hb dX0_copyFrom_29 rfl (lv_at hl 2 rfl) ?_
        refine cr_ald C hW.1 5 (f := vk2 1) (k := cr_x x2) rfl i2 (cr_xe _) dX0_copyFrom_30 ?_
        refine cr_ast C hW 2 rfl (k := (cr_x x2)) i2 (cr_xe _) (w' := cr_wK ct ak (cr_a (cr_a vk 0 (cr_x x2) (vk2 0 (cr_x x2))) 1 (cr_x x2) (vk2 1 (cr_x x2))) ++ cr_wK ct ak2 vk2) rfl dX0_copyFrom_31 (fun H locs hW => ?_)
        refine lv_iinc (v := x2 + 1) (lv' := [(2, .int (x2 + 1)), (0, .ref (ak 0)), (1, .ref (ak2 0))]) hx hb dX0_copyFrom_32 hl (k := 2) rfl (by first | rfl | decide) (by decide) rfl (fun ls hl => ?_)
        refine lv_goto (tgt := 2) hx hb dX0_copyFrom_35 (by decide) ?_
        exact ih (cr_a (cr_a vk 0 (cr_x x2) (vk2 0 (cr_x x2))) 1 (cr_x x2) (vk2 1 (cr_x x2))) vk2 (x2 + 1) hE _ _ _ hW (lv_sub hl [1, 2, 0] rfl)
  replace hE : (f_X0_copyFrom_2 10100 vk vk2 0) = some out := hE
  refine lv_iconst (v := 0) hx hb dX0_copyFrom_0 (by decide) ?_
  refine lv_istore_n (lv' := [(2, .int 0), (0, .ref (ak 0)), (1, .ref (ak2 0))]) hx hb dX0_copyFrom_1 rfl hl (by decide) rfl (fun ls hl => ?_)
  exact n2 10100 vk vk2 0 hE _ _ _ hW (lv_sub hl [1, 2, 0] rfl)

set_option maxHeartbeats 4000000 in
set_option maxRecDepth 100000 in
theorem m_X0_isOpen (L : Launch) (D : va_G) (ct : Nat → ClassId) (ak : Nat → Nat) (vk : cr_V) (x1 : Int32) (out : Int32) (hE : f_X0_isOpen vk x1 = some out) : Met L yX0_isOpen wsX0_isOpen ({ frames := 0, cells := 0, slots := 0, locals := 0 } : Room) (cr_pR D ct (cr_wK ct ak vk) [.ref (ak 0), .int x1]) (cr_QR (fun r => r = out)) 0 0 cr_no := by
  have k0 : (Cond.fieldLink RX0 18 "CupReceipts$Contracts" "size" "I") ∈ wsX0_isOpen := List.mem_of_getElem? (i := 1) rfl
  have hinX0 : ∀ w ∈ wsX00, w ∈ wsX0_isOpen := fun w h => List.mem_cons_of_mem _ (List.mem_append_right _ h)
  refine cr_metR (by decide) rfl rfl (Nat.le_of_ble_eq_true rfl) ?_
  intro p e s m args below meth c ls C hP hS hl
  obtain ⟨hx, hb, hml, hown, hts, hr, hlocks, hK, hN⟩ := id C
  have hl : lv_has ls 2 [(0, .ref (ak 0)), (1, .int x1)] := hl
  replace hE : (if x1 < 0 then (some 0) else (if (vk 2 0) ≤ x1 then (some 0) else (some 1))) = some out := hE
  refine lv_iload_n hx hb dX0_isOpen_0 rfl (lv_at hl 1 rfl) ?_
  refine lv_if_lt (tgt := 16) hx hb dX0_isOpen_1 (by decide) (fun c1 => ?_) (fun c1 => ?_)
  · rw [if_pos c1] at hE
    refine lv_iconst (v := 0) hx hb dX0_isOpen_16 (by decide) ?_
    exact cr_retRz C hS rfl (Option.some.inj hE) dX0_isOpen_17
  · rw [if_neg c1] at hE
    refine lv_iload_n hx hb dX0_isOpen_4 rfl (lv_at hl 1 rfl) ?_
    refine lv_aload_n hx hb dX0_isOpen_5 rfl (lv_at hl 0 rfl) ?_
    refine cr_get C hP 0 rfl rfl 2 (by decide) hinX0 k0 (v := .int (vk 2 0)) rfl dX0_isOpen_6 ?_
    refine lv_icmp_ge (tgt := 16) hx hb dX0_isOpen_9 (by decide) (fun c2 => ?_) (fun c2 => ?_)
    · rw [if_pos c2] at hE
      refine lv_iconst (v := 0) hx hb dX0_isOpen_16 (by decide) ?_
      exact cr_retRz C hS rfl (Option.some.inj hE) dX0_isOpen_17
    · rw [if_neg c2] at hE
      refine lv_iconst (v := 1) hx hb dX0_isOpen_12 (by decide) ?_
      refine lv_goto (tgt := 17) hx hb dX0_isOpen_13 (by decide) ?_
      exact cr_retRz C hS rfl (Option.some.inj hE) dX0_isOpen_17

set_option maxHeartbeats 4000000 in
set_option maxRecDepth 100000 in
theorem m_X0_add (L : Launch) (D : va_G) (ct : Nat → ClassId) (ak : Nat → Nat) (vk : cr_V) (x1 : Int32) (x2 : Int32) (sz : Nat) (out : Int32 × cr_V) (hE : f_X0_add vk x1 x2 = some out) : Met L yX0_add wsX0_add ({ frames := 0, cells := 0, slots := 0, locals := 0 } : Room) (cr_pW D ct (cr_wK ct ak vk) sz [.ref (ak 0), .int x1, .int x2]) (cr_QW D (cr_wK ct ak vk) sz (fun r (u : cr_V) => (r, u) = out) (fun u : cr_V => cr_wK ct ak u)) 0 0 (va_A (cr_wK ct ak vk) sz) := by
  have k0 : (Cond.fieldLink RX0 18 "CupReceipts$Contracts" "size" "I") ∈ wsX0_add := List.mem_of_getElem? (i := 1) rfl
  have k1 : (Cond.fieldLink RX0 9 "CupReceipts$Contracts" "months" "[I") ∈ wsX0_add := List.mem_of_getElem? (i := 3) rfl
  have k2 : (Cond.fieldLink RX0 15 "CupReceipts$Contracts" "prices" "[I") ∈ wsX0_add := List.mem_of_getElem? (i := 4) rfl
  have k3 : (Cond.constant RX0 22 (-2000000003)) ∈ wsX0_add := List.mem_of_getElem? (i := 2) rfl
  have hinX0 : ∀ w ∈ wsX00, w ∈ wsX0_add := fun w h => List.mem_cons_of_mem _ (List.mem_append_right _ h)
  refine cr_metW (Qc := fun A => va_Qi (fun r (u : cr_V) => (r, u) = out) (fun u t => cr_at D A ((fun u : cr_V => cr_wK ct ak u) u) t) A) (by decide) rfl rfl (Nat.le_of_ble_eq_true rfl) ?_
  intro p e s m args below meth c ls A C hW hl
  obtain ⟨hx, hb, hml, hown, hts, hr, hlocks, hK, hN⟩ := id C
  have hl : lv_has ls 3 [(0, .ref (ak 0)), (1, .int x1), (2, .int x2)] := hl
  replace hE : (if (vk 2 0) < 6 then (if cr_in (vk 2 0) 6 = true then some ((((vk 2 0) + 1) - 1), (cr_i (cr_a (cr_a vk 0 (cr_x (vk 2 0)) x1) 1 (cr_x (vk 2 0)) x2) 2 ((vk 2 0) + 1))) else none) else (some ((-2000000003), vk))) = some out := hE
  refine lv_aload_n hx hb dX0_add_0 rfl (lv_at hl 0 rfl) ?_
  refine cr_get C hW.1 0 rfl rfl 2 (by decide) hinX0 k0 (v := .int (vk 2 0)) rfl dX0_add_1 ?_
  refine lv_bipush (v := 6) hx hb dX0_add_4 (by decide) ?_
  refine lv_icmp_lt (tgt := 12) hx hb dX0_add_6 (by decide) (fun c1 => ?_) (fun c1 => ?_)
  · rw [if_pos c1] at hE
    refine lv_aload_n hx hb dX0_add_12 rfl (lv_at hl 0 rfl) ?_
    refine cr_get C hW.1 0 rfl rfl 0 (by decide) hinX0 k1 (v := .ref (ak 1)) rfl dX0_add_13 ?_
    refine lv_aload_n hx hb dX0_add_16 rfl (lv_at hl 0 rfl) ?_
    refine cr_get C hW.1 0 rfl rfl 2 (by decide) hinX0 k0 (v := .int (vk 2 0)) rfl dX0_add_17 ?_
    refine lv_iload_n hx hb dX0_add_20 rfl (lv_at hl 1 rfl) ?_
    obtain ⟨i2, hE⟩ := cr_ifn hE
    refine cr_ast C hW 1 rfl (k := (cr_x (vk 2 0))) i2 (cr_xe _) (w' := cr_wK ct ak (cr_a vk 0 (cr_x (vk 2 0)) x1)) rfl dX0_add_21 (fun H locs hW => ?_)
    refine lv_aload_n hx hb dX0_add_22 rfl (lv_at hl 0 rfl) ?_
    refine cr_get C hW.1 0 rfl rfl 1 (by decide) hinX0 k2 (v := .ref (ak 2)) rfl dX0_add_23 ?_
    refine lv_aload_n hx hb dX0_add_26 rfl (lv_at hl 0 rfl) ?_
    refine cr_get C hW.1 0 rfl rfl 2 (by decide) hinX0 k0 (v := .int (vk 2 0)) rfl dX0_add_27 ?_
    refine lv_iload_n hx hb dX0_add_30 rfl (lv_at hl 2 rfl) ?_
    refine cr_ast C hW 2 rfl (k := (cr_x (vk 2 0))) i2 (cr_xe _) (w' := cr_wK ct ak (cr_a (cr_a vk 0 (cr_x (vk 2 0)) x1) 1 (cr_x (vk 2 0)) x2)) rfl dX0_add_31 (fun H locs hW => ?_)
    refine lv_aload_n hx hb dX0_add_32 rfl (lv_at hl 0 rfl) ?_
    refine lv_dup hx hb dX0_add_33 rfl ?_
    refine cr_get C hW.1 0 rfl rfl 2 (by decide) hinX0 k0 (v := .int (vk 2 0)) rfl dX0_add_34 ?_
    refine lv_iconst (v := 1) hx hb dX0_add_37 (by decide) ?_
    refine lv_iadd hx hb dX0_add_38 ?_
    refine cr_put C hW 0 rfl rfl tyX0 tyX0_ok nmX0 2 (by decide) hinX0 k0 rfl rfl rfl rfl (Nat.le_of_ble_eq_true rfl) (w' := cr_wK ct ak (cr_i (cr_a (cr_a vk 0 (cr_x (vk 2 0)) x1) 1 (cr_x (vk 2 0)) x2) 2 ((vk 2 0) + 1))) rfl dX0_add_39 (fun H locs hW => ?_)
    refine lv_aload_n hx hb dX0_add_42 rfl (lv_at hl 0 rfl) ?_
    refine cr_get C hW.1 0 rfl rfl 2 (by decide) hinX0 k0 (v := .int ((vk 2 0) + 1)) rfl dX0_add_43 ?_
    refine lv_iconst (v := 1) hx hb dX0_add_46 (by decide) ?_
    refine lv_isub hx hb dX0_add_47 ?_
    exact cr_retW C (w := (fun u : cr_V => cr_wK ct ak u)) (cr_i (cr_a (cr_a vk 0 (cr_x (vk 2 0)) x1) 1 (cr_x (vk 2 0)) x2) 2 ((vk 2 0) + 1)) hW (Option.some.inj hE) dX0_add_48
  · rw [if_neg c1] at hE
    refine cr_ldc C k3 dX0_add_9 ?_
    exact cr_retW C (w := (fun u : cr_V => cr_wK ct ak u)) vk hW (Option.some.inj hE) dX0_add_11

set_option maxHeartbeats 4000000 in
set_option maxRecDepth 100000 in
theorem m_X0_drop (L : Launch) (D : va_G) (ct : Nat → ClassId) (ak : Nat → Nat) (vk : cr_V) (x1 : Int32) (sz : Nat) (out : cr_V) (hE : f_X0_drop vk x1 = some out) : Met L yX0_drop wsX0_drop ({ frames := 1, cells := 0, slots := 0, locals := 21 } : Room) (cr_pW D ct (cr_wK ct ak vk) sz [.ref (ak 0), .int x1]) (cr_QV D (cr_wK ct ak vk) sz (fun u : cr_V => u = out) (fun u : cr_V => cr_wK ct ak u)) 0 0 (va_A (cr_wK ct ak vk) sz) := by
  have k0 : (Cond.fieldLink RX0 18 "CupReceipts$Contracts" "size" "I") ∈ wsX0_drop := List.mem_of_getElem? (i := 1) rfl
  have k1 : (Cond.fieldLink RX0 9 "CupReceipts$Contracts" "months" "[I") ∈ wsX0_drop := List.mem_of_getElem? (i := 2) rfl
  have k2 : (Cond.fieldLink RX0 15 "CupReceipts$Contracts" "prices" "[I") ∈ wsX0_drop := List.mem_of_getElem? (i := 3) rfl
  have hinX0 : ∀ w ∈ wsX00, w ∈ wsX0_drop := fun w h => List.mem_cons_of_mem _ (List.mem_append_right _ h)
  refine cr_metW (Qc := fun A => va_Qv (fun u : cr_V => u = out) (fun u t => cr_at D A ((fun u : cr_V => cr_wK ct ak u) u) t) A) (by decide) rfl rfl (Nat.le_of_ble_eq_true rfl) ?_
  intro p e s m args below meth c ls A C hW hl
  obtain ⟨hx, hb, hml, hown, hts, hr, hlocks, hK, hN⟩ := id C
  have hl : lv_has ls 3 [(0, .ref (ak 0)), (1, .int x1)] := hl
  have n13 :  ∀ (n : Nat), ∀ (vk : cr_V) (x2 : Int32) (hE : f_X0_drop_13  n vk x2 = some out) (H : Heap) (locs : List Loc) (ls : Array Slot) (hW : cr_wd D A s (cr_wK ct ak vk) H locs) (hl : lv_has ls 3 [(0, .ref (ak 0)), (2, .int x2)]), W p L e ({ frames := 1, cells := 0, slots := 0, locals := 21 } : Room) s m args below meth c H locs 0 0 (MQ below (va_Qv (fun u : cr_V => u = out) (fun u t => cr_at D A ((fun u : cr_V => cr_wK ct ak u) u) t) A) args s 0 0 A) (F0 m 13 ls []) := by
    intro  n
    induction n with
    | zero =>
      intro vk x2 hE
      cases hE
    | succ n ih =>
      intro vk x2 hE H locs ls hW hl
      replace hE : (if (vk 2 0) ≤ x2 then (some (cr_i vk 2 ((vk 2 0) - 1))) else (if cr_in x2 6 = true then if cr_in (x2 - 1) 6 = true then f_X0_drop_13 n (cr_a (cr_a vk 0 (cr_x (x2 - 1)) (vk 0 (cr_x x2))) 1 (cr_x (x2 - 1)) (vk 1 (cr_x x2))) (x2 + 1) else none else none)) = some out := hE
      refine lv_iload_n hx hb dX0_drop_13 rfl (lv_at hl 1 rfl) ?_
      refine lv_aload_n hx hb dX0_drop_14 rfl (lv_at hl 0 rfl) ?_
      refine cr_get C hW.1 0 rfl rfl 2 (by decide) hinX0 k0 (v := .int (vk 2 0)) rfl dX0_drop_15 ?_
      refine lv_icmp_ge (tgt := 55) hx hb dX0_drop_18 (by decide) (fun c1 => ?_) (fun c1 => ?_)
      · rw [if_pos c1] at hE
        refine lv_aload_n hx hb dX0_drop_55 rfl (lv_at hl 0 rfl) ?_
        refine lv_dup hx hb dX0_drop_56 rfl ?_
        refine cr_get C hW.1 0 rfl rfl 2 (by decide) hinX0 k0 (v := .int (vk 2 0)) rfl dX0_drop_57 ?_
        refine lv_iconst (v := 1) hx hb dX0_drop_60 (by decide) ?_
        refine lv_isub hx hb dX0_drop_61 ?_
        refine cr_put C hW 0 rfl rfl tyX0 tyX0_ok nmX0 2 (by decide) hinX0 k0 rfl rfl rfl rfl (Nat.le_of_ble_eq_true rfl) (w' := cr_wK ct ak (cr_i vk 2 ((vk 2 0) - 1))) rfl dX0_drop_62 (fun H locs hW => ?_)
        exact cr_retV C (w := (fun u : cr_V => cr_wK ct ak u)) (cr_i vk 2 ((vk 2 0) - 1)) hW (Option.some.inj hE) dX0_drop_65
      · rw [if_neg c1] at hE
        refine lv_aload_n hx hb dX0_drop_21 rfl (lv_at hl 0 rfl) ?_
        refine cr_get C hW.1 0 rfl rfl 0 (by decide) hinX0 k1 (v := .ref (ak 1)) rfl dX0_drop_22 ?_
        refine lv_iload_n hx hb dX0_drop_25 rfl (lv_at hl 1 rfl) ?_
        refine lv_iconst (v := 1) hx hb dX0_drop_26 (by decide) ?_
        refine lv_isub hx hb dX0_drop_27 ?_
        refine lv_aload_n hx hb dX0_drop_28 rfl (lv_at hl 0 rfl) ?_
        refine cr_get C hW.1 0 rfl rfl 0 (by decide) hinX0 k1 (v := .ref (ak 1)) rfl dX0_drop_29 ?_
        refine lv_iload_n hx hb dX0_drop_32 rfl (lv_at hl 1 rfl) ?_
        obtain ⟨i2, hE⟩ := cr_ifn hE
        refine cr_ald C hW.1 1 (f := vk 0) (k := cr_x x2) rfl i2 (cr_xe _) dX0_drop_33 ?_
        obtain ⟨i3, hE⟩ := cr_ifn hE
        refine cr_ast C hW 1 rfl (k := (cr_x (x2 - 1))) i3 (cr_xe _) (w' := cr_wK ct ak (cr_a vk 0 (cr_x (x2 - 1)) (vk 0 (cr_x x2)))) rfl dX0_drop_34 (fun H locs hW => ?_)
        refine lv_aload_n hx hb dX0_drop_35 rfl (lv_at hl 0 rfl) ?_
        refine cr_get C hW.1 0 rfl rfl 1 (by decide) hinX0 k2 (v := .ref (ak 2)) rfl dX0_drop_36 ?_
        refine lv_iload_n hx hb dX0_drop_39 rfl (lv_at hl 1 rfl) ?_
        refine lv_iconst (v := 1) hx hb dX0_drop_40 (by decide) ?_
        refine lv_isub hx hb dX0_drop_41 ?_
        refine lv_aload_n hx hb dX0_drop_42 rfl (lv_at hl 0 rfl) ?_
        refine cr_get C hW.1 0 rfl rfl 1 (by decide) hinX0 k2 (v := .ref (ak 2)) rfl dX0_drop_43 ?_
        refine lv_iload_n hx hb dX0_drop_46 rfl (lv_at hl 1 rfl) ?_
        refine cr_ald C hW.1 2 (f := vk 1) (k := cr_x x2) rfl i2 (cr_xe _) dX0_drop_47 ?_
        refine cr_ast C hW 2 rfl (k := (cr_x (x2 - 1))) i3 (cr_xe _) (w' := cr_wK ct ak (cr_a (cr_a vk 0 (cr_x (x2 - 1)) (vk 0 (cr_x x2))) 1 (cr_x (x2 - 1)) (vk 1 (cr_x x2)))) rfl dX0_drop_48 (fun H locs hW => ?_)
        refine lv_iinc (v := x2 + 1) (lv' := [(2, .int (x2 + 1)), (0, .ref (ak 0))]) hx hb dX0_drop_49 hl (k := 1) rfl (by first | rfl | decide) (by decide) rfl (fun ls hl => ?_)
        refine lv_goto (tgt := 13) hx hb dX0_drop_52 (by decide) ?_
        exact ih (cr_a (cr_a vk 0 (cr_x (x2 - 1)) (vk 0 (cr_x x2))) 1 (cr_x (x2 - 1)) (vk 1 (cr_x x2))) (x2 + 1) hE _ _ _ hW (lv_sub hl [1, 0] rfl)
  replace hE : ((f_X0_isOpen vk x1).bind fun q4 => if q4 = 0 then (some vk) else (f_X0_drop_13 10100 vk (x1 + 1))) = some out := hE
  refine lv_aload_n hx hb dX0_drop_0 rfl (lv_at hl 0 rfl) ?_
  refine lv_iload_n hx hb dX0_drop_1 rfl (lv_at hl 1 rfl) ?_
  obtain ⟨q4, hq4, hE⟩ := cr_bind hE
  refine cr_vRwq (n := 1) (As := [.int x1]) (rest := []) C hW (m_X0_isOpen L D ct ak vk x1 q4 hq4) (cwV 1 hts gX0_drop_X0_isOpen rfl rfl rfl (by decide +kernel) ⟨Nat.le_of_ble_eq_true rfl, Nat.le_of_ble_eq_true rfl⟩) [0, 1, 2] rfl 0 rfl rfl rfl hl.1 rfl (Nat.le_of_ble_eq_true rfl) dX0_drop_2 ⟨Nat.zero_le _, Nat.zero_le _⟩ (fun H locs hW => ?_)
  refine lv_if_ne (tgt := 9) hx hb dX0_drop_5 (by decide) (fun c5 => ?_) (fun c5 => ?_)
  · rw [if_neg c5] at hE
    refine lv_iload_n hx hb dX0_drop_9 rfl (lv_at hl 1 rfl) ?_
    refine lv_iconst (v := 1) hx hb dX0_drop_10 (by decide) ?_
    refine lv_iadd hx hb dX0_drop_11 ?_
    refine lv_istore_n (lv' := [(2, .int (x1 + 1)), (0, .ref (ak 0)), (1, .int x1)]) hx hb dX0_drop_12 rfl hl (by decide) rfl (fun ls hl => ?_)
    exact n13 10100 vk (x1 + 1) hE _ _ _ hW (lv_sub hl [1, 0] rfl)
  · rw [if_pos c5] at hE
    exact cr_retV C (w := (fun u : cr_V => cr_wK ct ak u)) vk hW (Option.some.inj hE) dX0_drop_8

set_option maxHeartbeats 4000000 in
set_option maxRecDepth 100000 in
theorem m_X0_dropBefore (L : Launch) (D : va_G) (ct : Nat → ClassId) (ak : Nat → Nat) (vk : cr_V) (x1 : Int32) (sz : Nat) (out : Int32 × cr_V) (hE : f_X0_dropBefore vk x1 = some out) : Met L yX0_dropBefore wsX0_dropBefore ({ frames := 0, cells := 0, slots := 0, locals := 0 } : Room) (cr_pW D ct (cr_wK ct ak vk) sz [.ref (ak 0), .int x1]) (cr_QW D (cr_wK ct ak vk) sz (fun r (u : cr_V) => (r, u) = out) (fun u : cr_V => cr_wK ct ak u)) 0 0 (va_A (cr_wK ct ak vk) sz) := by
  have k0 : (Cond.fieldLink RX0 18 "CupReceipts$Contracts" "size" "I") ∈ wsX0_dropBefore := List.mem_of_getElem? (i := 1) rfl
  have k1 : (Cond.fieldLink RX0 9 "CupReceipts$Contracts" "months" "[I") ∈ wsX0_dropBefore := List.mem_of_getElem? (i := 2) rfl
  have k2 : (Cond.fieldLink RX0 15 "CupReceipts$Contracts" "prices" "[I") ∈ wsX0_dropBefore := List.mem_of_getElem? (i := 3) rfl
  have hinX0 : ∀ w ∈ wsX00, w ∈ wsX0_dropBefore := fun w h => List.mem_cons_of_mem _ (List.mem_append_right _ h)
  refine cr_metW (Qc := fun A => va_Qi (fun r (u : cr_V) => (r, u) = out) (fun u t => cr_at D A ((fun u : cr_V => cr_wK ct ak u) u) t) A) (by decide) rfl rfl (Nat.le_of_ble_eq_true rfl) ?_
  intro p e s m args below meth c ls A C hW hl
  obtain ⟨hx, hb, hml, hown, hts, hr, hlocks, hK, hN⟩ := id C
  have hl : lv_has ls 4 [(0, .ref (ak 0)), (1, .int x1)] := hl
  have n49 : ∀ (k4_ : cr_V → Int32 → Int32 → Int32 → Option (Int32 × cr_V)) (ih4_ : ∀ (vk : cr_V) (x1 : Int32) (x2 : Int32) (x3 : Int32) (hE : k4_ vk x1 x2 x3 = some out) (H : Heap) (locs : List Loc) (ls : Array Slot) (hW : cr_wd D A s (cr_wK ct ak vk) H locs) (hl : lv_has ls 4 [(0, .ref (ak 0)), (1, .int x1), (2, .int x2), (3, .int x3)]), W p L e ({ frames := 0, cells := 0, slots := 0, locals := 0 } : Room) s m args below meth c H locs 0 0 (MQ below (va_Qi (fun r (u : cr_V) => (r, u) = out) (fun u t => cr_at D A ((fun u : cr_V => cr_wK ct ak u) u) t) A) args s 0 0 A) (F0 m 4 ls [])), ∀ (vk : cr_V) (x1 : Int32) (x2 : Int32) (x3 : Int32) (hE : f_X0_dropBefore_49 k4_ vk x1 x2 x3 = some out) (H : Heap) (locs : List Loc) (ls : Array Slot) (hW : cr_wd D A s (cr_wK ct ak vk) H locs) (hl : lv_has ls 4 [(0, .ref (ak 0)), (1, .int x1), (2, .int x2), (3, .int x3)]), W p L e ({ frames := 0, cells := 0, slots := 0, locals := 0 } : Room) s m args below meth c H locs 0 0 (MQ below (va_Qi (fun r (u : cr_V) => (r, u) = out) (fun u t => cr_at D A ((fun u : cr_V => cr_wK ct ak u) u) t) A) args s 0 0 A) (F0 m 49 ls []) := by
    intro k4_ ih4_ vk x1 x2 x3 hE H locs ls hW hl
    replace hE : (k4_ vk x1 x2 (x3 + 1)) = some out := hE
    refine lv_iinc (v := x3 + 1) (lv' := [(3, .int (x3 + 1)), (0, .ref (ak 0)), (1, .int x1), (2, .int x2)]) hx hb dX0_dropBefore_49 hl (k := 3) rfl (by first | rfl | decide) (by decide) rfl (fun ls hl => ?_)
    refine lv_goto (tgt := 4) hx hb dX0_dropBefore_52 (by decide) ?_
    exact ih4_ vk x1 x2 (x3 + 1) hE _ _ _ hW (lv_sub hl [1, 2, 3, 0] rfl)
  have n4 :  ∀ (n : Nat), ∀ (vk : cr_V) (x1 : Int32) (x2 : Int32) (x3 : Int32) (hE : f_X0_dropBefore_4  n vk x1 x2 x3 = some out) (H : Heap) (locs : List Loc) (ls : Array Slot) (hW : cr_wd D A s (cr_wK ct ak vk) H locs) (hl : lv_has ls 4 [(0, .ref (ak 0)), (1, .int x1), (2, .int x2), (3, .int x3)]), W p L e ({ frames := 0, cells := 0, slots := 0, locals := 0 } : Room) s m args below meth c H locs 0 0 (MQ below (va_Qi (fun r (u : cr_V) => (r, u) = out) (fun u t => cr_at D A ((fun u : cr_V => cr_wK ct ak u) u) t) A) args s 0 0 A) (F0 m 4 ls []) := by
    intro  n
    induction n with
    | zero =>
      intro vk x1 x2 x3 hE
      cases hE
    | succ n ih =>
      intro vk x1 x2 x3 hE H locs ls hW hl
      replace hE : (if (vk 2 0) ≤ x3 then (some (((vk 2 0) - x2), (cr_i vk 2 x2))) else (if cr_in x3 6 = true then if (vk 0 (cr_x x3)) < x1 then (f_X0_dropBefore_49 (f_X0_dropBefore_4 n) vk x1 x2 x3) else (if cr_in x2 6 = true then f_X0_dropBefore_49 (f_X0_dropBefore_4 n) (cr_a (cr_a vk 0 (cr_x x2) (vk 0 (cr_x x3))) 1 (cr_x x2) (vk 1 (cr_x x3))) x1 (x2 + 1) x3 else none) else none)) = some out := hE
      refine lv_iload_n hx hb dX0_dropBefore_4 rfl (lv_at hl 3 rfl) ?_
      refine lv_aload_n hx hb dX0_dropBefore_5 rfl (lv_at hl 0 rfl) ?_
      refine cr_get C hW.1 0 rfl rfl 2 (by decide) hinX0 k0 (v := .int (vk 2 0)) rfl dX0_dropBefore_6 ?_
      refine lv_icmp_ge (tgt := 55) hx hb dX0_dropBefore_9 (by decide) (fun c1 => ?_) (fun c1 => ?_)
      · rw [if_pos c1] at hE
        refine lv_aload_n hx hb dX0_dropBefore_55 rfl (lv_at hl 0 rfl) ?_
        refine cr_get C hW.1 0 rfl rfl 2 (by decide) hinX0 k0 (v := .int (vk 2 0)) rfl dX0_dropBefore_56 ?_
        refine lv_iload_n hx hb dX0_dropBefore_59 rfl (lv_at hl 2 rfl) ?_
        refine lv_isub hx hb dX0_dropBefore_60 ?_
        refine lv_istore_n (lv' := [(3, .int ((vk 2 0) - x2)), (0, .ref (ak 0)), (1, .int x1), (2, .int x2)]) hx hb dX0_dropBefore_61 rfl hl (by decide) rfl (fun ls hl => ?_)
        refine lv_aload_n hx hb dX0_dropBefore_62 rfl (lv_at hl 1 rfl) ?_
        refine lv_iload_n hx hb dX0_dropBefore_63 rfl (lv_at hl 3 rfl) ?_
        refine cr_put C hW 0 rfl rfl tyX0 tyX0_ok nmX0 2 (by decide) hinX0 k0 rfl rfl rfl rfl (Nat.le_of_ble_eq_true rfl) (w' := cr_wK ct ak (cr_i vk 2 x2)) rfl dX0_dropBefore_64 (fun H locs hW => ?_)
        refine lv_iload_n hx hb dX0_dropBefore_67 rfl (lv_at hl 0 rfl) ?_
        exact cr_retW C (w := (fun u : cr_V => cr_wK ct ak u)) (cr_i vk 2 x2) hW (Option.some.inj hE) dX0_dropBefore_68
      · rw [if_neg c1] at hE
        refine lv_aload_n hx hb dX0_dropBefore_12 rfl (lv_at hl 0 rfl) ?_
        refine cr_get C hW.1 0 rfl rfl 0 (by decide) hinX0 k1 (v := .ref (ak 1)) rfl dX0_dropBefore_13 ?_
        refine lv_iload_n hx hb dX0_dropBefore_16 rfl (lv_at hl 3 rfl) ?_
        obtain ⟨i2, hE⟩ := cr_ifn hE
        refine cr_ald C hW.1 1 (f := vk 0) (k := cr_x x3) rfl i2 (cr_xe _) dX0_dropBefore_17 ?_
        refine lv_iload_n hx hb dX0_dropBefore_18 rfl (lv_at hl 1 rfl) ?_
        refine lv_icmp_lt (tgt := 49) hx hb dX0_dropBefore_19 (by decide) (fun c3 => ?_) (fun c3 => ?_)
        · rw [if_pos c3] at hE
          exact n49 (f_X0_dropBefore_4 n) ih vk x1 x2 x3 hE _ _ _ hW (lv_sub hl [0, 1, 2, 3] rfl)
        · rw [if_neg c3] at hE
          refine lv_aload_n hx hb dX0_dropBefore_22 rfl (lv_at hl 0 rfl) ?_
          refine cr_get C hW.1 0 rfl rfl 0 (by decide) hinX0 k1 (v := .ref (ak 1)) rfl dX0_dropBefore_23 ?_
          refine lv_iload_n hx hb dX0_dropBefore_26 rfl (lv_at hl 2 rfl) ?_
          refine lv_aload_n hx hb dX0_dropBefore_27 rfl (lv_at hl 0 rfl) ?_
          refine cr_get C hW.1 0 rfl rfl 0 (by decide) hinX0 k1 (v := .ref (ak 1)) rfl dX0_dropBefore_28 ?_
          refine lv_iload_n hx hb dX0_dropBefore_31 rfl (lv_at hl 3 rfl) ?_
          refine cr_ald C hW.1 1 (f := vk 0) (k := cr_x x3) rfl i2 (cr_xe _) dX0_dropBefore_32 ?_
          obtain ⟨i4, hE⟩ := cr_ifn hE
          refine cr_ast C hW 1 rfl (k := (cr_x x2)) i4 (cr_xe _) (w' := cr_wK ct ak (cr_a vk 0 (cr_x x2) (vk 0 (cr_x x3)))) rfl dX0_dropBefore_33 (fun H locs hW => ?_)
          refine lv_aload_n hx hb dX0_dropBefore_34 rfl (lv_at hl 0 rfl) ?_
          refine cr_get C hW.1 0 rfl rfl 1 (by decide) hinX0 k2 (v := .ref (ak 2)) rfl dX0_dropBefore_35 ?_
          refine lv_iload_n hx hb dX0_dropBefore_38 rfl (lv_at hl 2 rfl) ?_
          refine lv_aload_n hx hb dX0_dropBefore_39 rfl (lv_at hl 0 rfl) ?_
          refine cr_get C hW.1 0 rfl rfl 1 (by decide) hinX0 k2 (v := .ref (ak 2)) rfl dX0_dropBefore_40 ?_
          refine lv_iload_n hx hb dX0_dropBefore_43 rfl (lv_at hl 3 rfl) ?_
          refine cr_ald C hW.1 2 (f := vk 1) (k := cr_x x3) rfl i2 (cr_xe _) dX0_dropBefore_44 ?_
          refine cr_ast C hW 2 rfl (k := (cr_x x2)) i4 (cr_xe _) (w' := cr_wK ct ak (cr_a (cr_a vk 0 (cr_x x2) (vk 0 (cr_x x3))) 1 (cr_x x2) (vk 1 (cr_x x3)))) rfl dX0_dropBefore_45 (fun H locs hW => ?_)
          refine lv_iinc (v := x2 + 1) (lv' := [(2, .int (x2 + 1)), (0, .ref (ak 0)), (1, .int x1), (3, .int x3)]) hx hb dX0_dropBefore_46 hl (k := 2) rfl (by first | rfl | decide) (by decide) rfl (fun ls hl => ?_)
          exact n49 (f_X0_dropBefore_4 n) ih (cr_a (cr_a vk 0 (cr_x x2) (vk 0 (cr_x x3))) 1 (cr_x x2) (vk 1 (cr_x x3))) x1 (x2 + 1) x3 hE _ _ _ hW (lv_sub hl [1, 2, 0, 3] rfl)
  replace hE : (f_X0_dropBefore_4 10100 vk x1 0 0) = some out := hE
  refine lv_iconst (v := 0) hx hb dX0_dropBefore_0 (by decide) ?_
  refine lv_istore_n (lv' := [(2, .int 0), (0, .ref (ak 0)), (1, .int x1)]) hx hb dX0_dropBefore_1 rfl hl (by decide) rfl (fun ls hl => ?_)
  refine lv_iconst (v := 0) hx hb dX0_dropBefore_2 (by decide) ?_
  refine lv_istore_n (lv' := [(3, .int 0), (2, .int 0), (0, .ref (ak 0)), (1, .int x1)]) hx hb dX0_dropBefore_3 rfl hl (by decide) rfl (fun ls hl => ?_)
  exact n4 10100 vk x1 0 0 hE _ _ _ hW (lv_sub hl [2, 3, 1, 0] rfl)
end
section
set_option maxHeartbeats 4000000 in
set_option maxRecDepth 100000 in
theorem m_X3_payForBag (L : Launch) (D : va_G) (ct : Nat → ClassId) (ah : Nat → Nat) (al : Nat → Nat) (ak : Nat → Nat) (vh : cr_V) (vl : cr_V) (vk : cr_V) (x1 : Int32) (x2 : Int32) (x3 : Int32) (out : Int32) (hE : f_X3_payForBag vh vl vk x1 x2 x3 = some out) : Met L yX3_payForBag wsX3_payForBag ({ frames := 0, cells := 0, slots := 0, locals := 0 } : Room) (cr_pR D ct (cr_wH ct ah al ak vh vl vk) [.ref (ah 0), .int x1, .int x2, .int x3]) (cr_QR (fun r => r = out)) 0 0 cr_no := by
  have k0 : (Cond.fieldLink RX3 40 "CupReceipts$House" "settings" "[I") ∈ wsX3_payForBag := List.mem_of_getElem? (i := 1) rfl
  have hinX3 : ∀ w ∈ wsX30, w ∈ wsX3_payForBag := fun w h => List.mem_cons_of_mem _ (List.mem_append_right _ h)
  refine cr_metR (by decide) rfl rfl (Nat.le_of_ble_eq_true rfl) ?_
  intro p e s m args below meth c ls C hP hS hl
  obtain ⟨hx, hb, hml, hown, hts, hr, hlocks, hK, hN⟩ := id C
  have hl : lv_has ls 5 [(0, .ref (ah 0)), (1, .int x1), (2, .int x2), (3, .int x3)] := hl
  replace hE : (if 1 ≤ ((x1 + ((x2 - 80) * (vh 3 2))) - ((vh 3 3) * x3)) then (some ((x1 + ((x2 - 80) * (vh 3 2))) - ((vh 3 3) * x3))) else (some 1)) = some out := hE
  refine lv_iload_n hx hb dX3_payForBag_0 rfl (lv_at hl 1 rfl) ?_
  refine lv_iload_n hx hb dX3_payForBag_1 rfl (lv_at hl 2 rfl) ?_
  refine lv_bipush (v := 80) hx hb dX3_payForBag_2 (by decide) ?_
  refine lv_isub hx hb dX3_payForBag_4 ?_
  refine lv_aload_n hx hb dX3_payForBag_5 rfl (lv_at hl 0 rfl) ?_
  refine cr_get C hP 0 rfl rfl 3 (by decide) hinX3 k0 (v := .ref (ah 4)) rfl dX3_payForBag_6 ?_
  refine lv_iconst (v := 2) hx hb dX3_payForBag_9 (by decide) ?_
  refine cr_ald C hP 2 (f := vh 3) (k := 2) rfl (by decide) (by decide) dX3_payForBag_10 ?_
  refine lv_imul hx hb dX3_payForBag_11 ?_
  refine lv_iadd hx hb dX3_payForBag_12 ?_
  refine lv_aload_n hx hb dX3_payForBag_13 rfl (lv_at hl 0 rfl) ?_
  refine cr_get C hP 0 rfl rfl 3 (by decide) hinX3 k0 (v := .ref (ah 4)) rfl dX3_payForBag_14 ?_
  refine lv_iconst (v := 3) hx hb dX3_payForBag_17 (by decide) ?_
  refine cr_ald C hP 2 (f := vh 3) (k := 3) rfl (by decide) (by decide) dX3_payForBag_18 ?_
  refine lv_iload_n hx hb dX3_payForBag_19 rfl (lv_at hl 3 rfl) ?_
  refine lv_imul hx hb dX3_payForBag_20 ?_
  refine lv_isub hx hb dX3_payForBag_21 ?_
  refine lv_istore (lv' := [(4, .int ((x1 + ((x2 - 80) * (vh 3 2))) - ((vh 3 3) * x3))), (0, .ref (ah 0)), (1, .int x1), (2, .int x2), (3, .int x3)]) hx hb dX3_payForBag_22 hl (by decide) rfl (fun ls hl => ?_)
  refine lv_iload hx hb dX3_payForBag_24 (lv_at hl 0 rfl) ?_
  refine lv_iconst (v := 1) hx hb dX3_payForBag_26 (by decide) ?_
  refine lv_icmp_ge (tgt := 34) hx hb dX3_payForBag_27 (by decide) (fun c1 => ?_) (fun c1 => ?_)
  · rw [if_pos c1] at hE
    refine lv_iload hx hb dX3_payForBag_34 (lv_at hl 0 rfl) ?_
    exact cr_retR C hS (Option.some.inj hE) dX3_payForBag_36
  · rw [if_neg c1] at hE
    refine lv_iconst (v := 1) hx hb dX3_payForBag_30 (by decide) ?_
    refine lv_goto (tgt := 36) hx hb dX3_payForBag_31 (by decide) ?_
    exact cr_retR C hS (Option.some.inj hE) dX3_payForBag_36

set_option maxHeartbeats 4000000 in
set_option maxRecDepth 100000 in
theorem m_X6_bandOf (L : Launch) (D : va_G) (ct : Nat → ClassId)   (x0 : Int32) (out : Int32) (hE : f_X6_bandOf x0 = some out) : Met L yX6_bandOf wsX6_bandOf ({ frames := 0, cells := 0, slots := 0, locals := 0 } : Room) (cr_pR D ct ([]) [.int x0]) (cr_QR (fun r => r = out)) 0 0 cr_no := by
  refine cr_metR (by decide) rfl rfl (Nat.le_of_ble_eq_true rfl) ?_
  intro p e s m args below meth c ls C hP hS hl
  obtain ⟨hx, hb, hml, hown, hts, hr, hlocks, hK, hN⟩ := id C
  have hl : lv_has ls 1 [(0, .int x0)] := hl
  replace hE : (if 70 ≤ x0 then (if 80 ≤ x0 then (if 90 ≤ x0 then (some 3) else (some 2)) else (some 1)) else (some 0)) = some out := hE
  refine lv_iload_n hx hb dX6_bandOf_0 rfl (lv_at hl 0 rfl) ?_
  refine lv_bipush (v := 70) hx hb dX6_bandOf_1 (by decide) ?_
  refine lv_icmp_ge (tgt := 8) hx hb dX6_bandOf_3 (by decide) (fun c1 => ?_) (fun c1 => ?_)
  · rw [if_pos c1] at hE
    refine lv_iload_n hx hb dX6_bandOf_8 rfl (lv_at hl 0 rfl) ?_
    refine lv_bipush (v := 80) hx hb dX6_bandOf_9 (by decide) ?_
    refine lv_icmp_ge (tgt := 16) hx hb dX6_bandOf_11 (by decide) (fun c2 => ?_) (fun c2 => ?_)
    · rw [if_pos c2] at hE
      refine lv_iload_n hx hb dX6_bandOf_16 rfl (lv_at hl 0 rfl) ?_
      refine lv_bipush (v := 90) hx hb dX6_bandOf_17 (by decide) ?_
      refine lv_icmp_ge (tgt := 26) hx hb dX6_bandOf_19 (by decide) (fun c3 => ?_) (fun c3 => ?_)
      · rw [if_pos c3] at hE
        refine lv_iconst (v := 3) hx hb dX6_bandOf_26 (by decide) ?_
        exact cr_retR C hS (Option.some.inj hE) dX6_bandOf_27
      · rw [if_neg c3] at hE
        refine lv_iconst (v := 2) hx hb dX6_bandOf_22 (by decide) ?_
        refine lv_goto (tgt := 27) hx hb dX6_bandOf_23 (by decide) ?_
        exact cr_retR C hS (Option.some.inj hE) dX6_bandOf_27
    · rw [if_neg c2] at hE
      refine lv_iconst (v := 1) hx hb dX6_bandOf_14 (by decide) ?_
      exact cr_retR C hS (Option.some.inj hE) dX6_bandOf_15
  · rw [if_neg c1] at hE
    refine lv_iconst (v := 0) hx hb dX6_bandOf_6 (by decide) ?_
    exact cr_retR C hS (Option.some.inj hE) dX6_bandOf_7

set_option maxHeartbeats 4000000 in
set_option maxRecDepth 100000 in
theorem m_X1_rate (L : Launch) (D : va_G) (ct : Nat → ClassId) (ad : Nat → Nat) (ah : Nat → Nat) (al : Nat → Nat) (ak : Nat → Nat) (vd : cr_V) (vh : cr_V) (vl : cr_V) (vk : cr_V) (x2 : Int32) (x3 : Int32) (sz : Nat) (out : cr_V) (hE : f_X1_rate vd vh vl vk x2 x3 = some out) : Met L yX1_rate wsX1_rate ({ frames := 1, cells := 0, slots := 0, locals := 24 } : Room) (cr_pW D ct (cr_wD ct ad vd ++ cr_wH ct ah al ak vh vl vk) sz [.ref (ad 0), .ref (ah 0), .int x2, .int x3]) (cr_QV D (cr_wD ct ad vd ++ cr_wH ct ah al ak vh vl vk) sz (fun u : cr_V => u = out) (fun u : cr_V => cr_wD ct ad u ++ cr_wH ct ah al ak vh vl vk)) 0 0 (va_A (cr_wD ct ad vd ++ cr_wH ct ah al ak vh vl vk) sz) := by
  have k0 : (Cond.fieldLink RX1 22 "CupReceipts$Delivery" "cups" "[I") ∈ wsX1_rate := List.mem_of_getElem? (i := 4) rfl
  have k1 : (Cond.fieldLink RX1 25 "CupReceipts$Delivery" "pays" "[I") ∈ wsX1_rate := List.mem_of_getElem? (i := 5) rfl
  have k2 : (Cond.fieldLink RX1 59 "CupReceipts$House" "lots" "LCupReceipts$Lots;") ∈ wsX1_rate := List.mem_of_getElem? (i := 1) rfl
  have k3 : (Cond.fieldLink RX1 28 "CupReceipts$Delivery" "gains" "[I") ∈ wsX1_rate := List.mem_of_getElem? (i := 6) rfl
  have k4 : (Cond.fieldLink RX1 88 "CupReceipts$House" "worths" "[I") ∈ wsX1_rate := List.mem_of_getElem? (i := 7) rfl
  have k5 : (Cond.initialized RX6) ∈ wsX1_rate := List.mem_of_getElem? (i := 26) rfl
  have k6 : (Cond.static yX6_bandOf) ∈ wsX1_rate := List.mem_of_getElem? (i := 25) rfl
  have k7 : (Cond.fieldLink RX1 63 "CupReceipts$Lots" "size" "I") ∈ wsX1_rate := List.mem_of_getElem? (i := 2) rfl
  have k8 : (Cond.fieldLink RX1 18 "CupReceipts$Delivery" "waiting" "[Z") ∈ wsX1_rate := List.mem_of_getElem? (i := 3) rfl
  have hinX1 : ∀ w ∈ wsX10, w ∈ wsX1_rate := fun w h => List.mem_cons_of_mem _ (List.mem_append_right _ h)
  have hinX3 : ∀ w ∈ wsX30, w ∈ wsX1_rate := fun w h => List.mem_cons_of_mem _ (List.mem_append_left _ (List.mem_append_left _ (List.mem_append_right _ h)))
  have hinX4 : ∀ w ∈ wsX40, w ∈ wsX1_rate := fun w h => List.mem_cons_of_mem _ (List.mem_append_left _ (List.mem_append_right _ h))
  refine cr_metW (Qc := fun A => va_Qv (fun u : cr_V => u = out) (fun u t => cr_at D A ((fun u : cr_V => cr_wD ct ad u ++ cr_wH ct ah al ak vh vl vk) u) t) A) (by decide) rfl rfl (Nat.le_of_ble_eq_true rfl) ?_
  intro p e s m args below meth c ls A C hW hl
  obtain ⟨hx, hb, hml, hown, hts, hr, hlocks, hK, hN⟩ := id C
  have hl : lv_has ls 6 [(0, .ref (ad 0)), (1, .ref (ah 0)), (2, .int x2), (3, .int x3)] := hl
  have n45 : ∀ (k3_ : cr_V → cr_V → cr_V → cr_V → Int32 → Int32 → Int32 → Option (cr_V)) (ih3_ : ∀ (vd : cr_V) (vh : cr_V) (vl : cr_V) (vk : cr_V) (x2 : Int32) (x3 : Int32) (x4 : Int32) (hE : k3_ vd vh vl vk x2 x3 x4 = some out) (H : Heap) (locs : List Loc) (ls : Array Slot) (hW : cr_wd D A s (cr_wD ct ad vd ++ cr_wH ct ah al ak vh vl vk) H locs) (hl : lv_has ls 6 [(0, .ref (ad 0)), (1, .ref (ah 0)), (2, .int x2), (3, .int x3), (4, .int x4)]), W p L e ({ frames := 1, cells := 0, slots := 0, locals := 24 } : Room) s m args below meth c H locs 0 0 (MQ below (va_Qv (fun u : cr_V => u = out) (fun u t => cr_at D A ((fun u : cr_V => cr_wD ct ad u ++ cr_wH ct ah al ak vh vl vk) u) t) A) args s 0 0 A) (F0 m 3 ls [])), ∀ (vd : cr_V) (vh : cr_V) (vl : cr_V) (vk : cr_V) (x2 : Int32) (x3 : Int32) (x4 : Int32) (x5 : Int32) (s0 : Int32) (s1 : Int32) (hE : f_X1_rate_45 k3_ vd vh vl vk x2 x3 x4 x5 s0 s1 = some out) (H : Heap) (locs : List Loc) (ls : Array Slot) (hW : cr_wd D A s (cr_wD ct ad vd ++ cr_wH ct ah al ak vh vl vk) H locs) (hl : lv_has ls 6 [(0, .ref (ad 0)), (1, .ref (ah 0)), (2, .int x2), (3, .int x3), (4, .int x4), (5, .int x5)]), W p L e ({ frames := 1, cells := 0, slots := 0, locals := 24 } : Room) s m args below meth c H locs 0 0 (MQ below (va_Qv (fun u : cr_V => u = out) (fun u t => cr_at D A ((fun u : cr_V => cr_wD ct ad u ++ cr_wH ct ah al ak vh vl vk) u) t) A) args s 0 0 A) (F0 m 45 ls [.int s0, .int s1, .ref (ad 9)]) := by
    intro k3_ ih3_ vd vh vl vk x2 x3 x4 x5 s0 s1 hE H locs ls hW hl
    replace hE : (if cr_in s1 12 = true then if cr_in x4 12 = true then (f_X4_monthsTooOld vl x4 x3).bind fun q3 => (f_X3_payForBag vh vl vk x2 x5 q3).bind fun q4 => (f_X6_bandOf x5).bind fun q5 => if cr_in q5 4 = true then k3_ (cr_a (cr_a (cr_a (cr_a vd 8 (cr_x s1) (vp_nar .boolean s0)) 9 (cr_x x4) x5) 10 (cr_x x4) q4) 11 (cr_x x4) (((cr_a vd 10 (cr_x x4) q4) 10 (cr_x x4)) - (vh 2 (cr_x q5)))) vh vl vk x2 x3 (x4 + 1) else none else none else none) = some out := hE
    obtain ⟨i1, hE⟩ := cr_ifn hE
    refine cr_zast C hW 3 rfl (k := (cr_x s1)) i1 (cr_xe _) (w' := cr_wD ct ad (cr_a vd 8 (cr_x s1) (vp_nar .boolean s0)) ++ cr_wH ct ah al ak vh vl vk) rfl dX1_rate_45 (fun H locs hW => ?_)
    refine lv_aload_n hx hb dX1_rate_46 rfl (lv_at hl 0 rfl) ?_
    refine cr_get C hW.1 0 rfl rfl 9 (by decide) hinX1 k0 (v := .ref (ad 10)) rfl dX1_rate_47 ?_
    refine lv_iload hx hb dX1_rate_50 (lv_at hl 4 rfl) ?_
    refine lv_iload hx hb dX1_rate_52 (lv_at hl 5 rfl) ?_
    obtain ⟨i2, hE⟩ := cr_ifn hE
    refine cr_ast C hW 4 rfl (k := (cr_x x4)) i2 (cr_xe _) (w' := cr_wD ct ad (cr_a (cr_a vd 8 (cr_x s1) (vp_nar .boolean s0)) 9 (cr_x x4) x5) ++ cr_wH ct ah al ak vh vl vk) rfl dX1_rate_54 (fun H locs hW => ?_)
    refine lv_aload_n hx hb dX1_rate_55 rfl (lv_at hl 0 rfl) ?_
    refine cr_get C hW.1 0 rfl rfl 10 (by decide) hinX1 k1 (v := .ref (ad 11)) rfl dX1_rate_56 ?_
    refine lv_iload hx hb dX1_rate_59 (lv_at hl 4 rfl) ?_
    refine lv_aload_n hx hb dX1_rate_61 rfl (lv_at hl 1 rfl) ?_
    refine lv_iload_n hx hb dX1_rate_62 rfl (lv_at hl 2 rfl) ?_
    refine lv_iload hx hb dX1_rate_63 (lv_at hl 5 rfl) ?_
    refine lv_aload_n hx hb dX1_rate_65 rfl (lv_at hl 1 rfl) ?_
    refine cr_get C hW.1 7 rfl rfl 0 (by decide) hinX3 k2 (v := .ref (al 0)) rfl dX1_rate_66 ?_
    refine lv_iload hx hb dX1_rate_69 (lv_at hl 4 rfl) ?_
    refine lv_iload_n hx hb dX1_rate_71 rfl (lv_at hl 3 rfl) ?_
    obtain ⟨q3, hq3, hE⟩ := cr_bind hE
    refine cr_vRwq (n := 2) (As := [.int x4, .int x3]) (rest := [.int x5, .int x2, .ref (ah 0), .int x4, .ref (ad 11)]) C hW (m_X4_monthsTooOld L D ct al vl x4 x3 q3 hq3) (cwV 2 hts gX1_rate_X4_monthsTooOld rfl rfl rfl (by decide +kernel) ⟨Nat.le_of_ble_eq_true rfl, Nat.le_of_ble_eq_true rfl⟩) [10, 11, 12, 13, 14] rfl 10 rfl rfl rfl hl.1 rfl (Nat.le_of_ble_eq_true rfl) dX1_rate_72 ⟨Nat.zero_le _, Nat.zero_le _⟩ (fun H locs hW => ?_)
    obtain ⟨q4, hq4, hE⟩ := cr_bind hE
    refine cr_vRwq (n := 3) (As := [.int x2, .int x5, .int q3]) (rest := [.int x4, .ref (ad 11)]) C hW (m_X3_payForBag L D ct ah al ak vh vl vk x2 x5 q3 q4 hq4) (cwV 3 hts gX1_rate_X3_payForBag rfl rfl rfl (by decide +kernel) ⟨Nat.le_of_ble_eq_true rfl, Nat.le_of_ble_eq_true rfl⟩) [7, 8, 9, 10, 11, 12, 13, 14, 15, 16, 17] rfl 7 rfl rfl rfl hl.1 rfl (Nat.le_of_ble_eq_true rfl) dX1_rate_75 ⟨Nat.zero_le _, Nat.zero_le _⟩ (fun H locs hW => ?_)
    refine cr_ast C hW 5 rfl (k := (cr_x x4)) i2 (cr_xe _) (w' := cr_wD ct ad (cr_a (cr_a (cr_a vd 8 (cr_x s1) (vp_nar .boolean s0)) 9 (cr_x x4) x5) 10 (cr_x x4) q4) ++ cr_wH ct ah al ak vh vl vk) rfl dX1_rate_78 (fun H locs hW => ?_)
    refine lv_aload_n hx hb dX1_rate_79 rfl (lv_at hl 0 rfl) ?_
    refine cr_get C hW.1 0 rfl rfl 11 (by decide) hinX1 k3 (v := .ref (ad 12)) rfl dX1_rate_80 ?_
    refine lv_iload hx hb dX1_rate_83 (lv_at hl 4 rfl) ?_
    refine lv_aload_n hx hb dX1_rate_85 rfl (lv_at hl 0 rfl) ?_
    refine cr_get C hW.1 0 rfl rfl 10 (by decide) hinX1 k1 (v := .ref (ad 11)) rfl dX1_rate_86 ?_
    refine lv_iload hx hb dX1_rate_89 (lv_at hl 4 rfl) ?_
    refine cr_ald C hW.1 5 (f := (cr_a vd 10 (cr_x x4) q4) 10) (k := cr_x x4) rfl i2 (cr_xe _) dX1_rate_91 ?_
    refine lv_aload_n hx hb dX1_rate_92 rfl (lv_at hl 1 rfl) ?_
    refine cr_get C hW.1 7 rfl rfl 2 (by decide) hinX3 k4 (v := .ref (ah 3)) rfl dX1_rate_93 ?_
    refine lv_iload hx hb dX1_rate_96 (lv_at hl 5 rfl) ?_
    obtain ⟨q5, hq5, hE⟩ := cr_bind hE
    refine cr_nRwq (n := 1) (As := [.int x5]) (rest := [.ref (ah 3), .int ((cr_a vd 10 (cr_x x4) q4) 10 (cr_x x4)), .int x4, .ref (ad 12)]) C hW (m_X6_bandOf L D ct x5 q5 hq5) ⟨va_cnB 1 hts gX1_rate_X6_bandOf_n91 rfl rfl rfl hN.1 (hts _ k5) (by decide +kernel) ⟨Nat.le_of_ble_eq_true rfl, Nat.le_of_ble_eq_true rfl⟩, hts _ k6, trivial⟩ rfl hl.1 rfl (Nat.le_of_ble_eq_true rfl) dX1_rate_98 ⟨Nat.zero_le _, Nat.zero_le _⟩ (fun H locs hW => ?_)
    obtain ⟨i6, hE⟩ := cr_ifn hE
    refine cr_ald C hW.1 8 (f := vh 2) (k := cr_x q5) rfl i6 (cr_xe _) dX1_rate_101 ?_
    refine lv_isub hx hb dX1_rate_102 ?_
    refine cr_ast C hW 6 rfl (k := (cr_x x4)) i2 (cr_xe _) (w' := cr_wD ct ad (cr_a (cr_a (cr_a (cr_a vd 8 (cr_x s1) (vp_nar .boolean s0)) 9 (cr_x x4) x5) 10 (cr_x x4) q4) 11 (cr_x x4) (((cr_a vd 10 (cr_x x4) q4) 10 (cr_x x4)) - (vh 2 (cr_x q5)))) ++ cr_wH ct ah al ak vh vl vk) rfl dX1_rate_103 (fun H locs hW => ?_)
    refine lv_iinc (v := x4 + 1) (lv' := [(4, .int (x4 + 1)), (0, .ref (ad 0)), (1, .ref (ah 0)), (2, .int x2), (3, .int x3), (5, .int x5)]) hx hb dX1_rate_104 hl (k := 4) rfl (by first | rfl | decide) (by decide) rfl (fun ls hl => ?_)
    refine lv_goto (tgt := 3) hx hb dX1_rate_107 (by decide) ?_
    exact ih3_ (cr_a (cr_a (cr_a (cr_a vd 8 (cr_x s1) (vp_nar .boolean s0)) 9 (cr_x x4) x5) 10 (cr_x x4) q4) 11 (cr_x x4) (((cr_a vd 10 (cr_x x4) q4) 10 (cr_x x4)) - (vh 2 (cr_x q5)))) vh vl vk x2 x3 (x4 + 1) hE _ _ _ hW (lv_sub hl [1, 2, 3, 4, 0] rfl)
  have n3 :  ∀ (n : Nat), ∀ (vd : cr_V) (vh : cr_V) (vl : cr_V) (vk : cr_V) (x2 : Int32) (x3 : Int32) (x4 : Int32) (hE : f_X1_rate_3  n vd vh vl vk x2 x3 x4 = some out) (H : Heap) (locs : List Loc) (ls : Array Slot) (hW : cr_wd D A s (cr_wD ct ad vd ++ cr_wH ct ah al ak vh vl vk) H locs) (hl : lv_has ls 6 [(0, .ref (ad 0)), (1, .ref (ah 0)), (2, .int x2), (3, .int x3), (4, .int x4)]), W p L e ({ frames := 1, cells := 0, slots := 0, locals := 24 } : Room) s m args below meth c H locs 0 0 (MQ below (va_Qv (fun u : cr_V => u = out) (fun u t => cr_at D A ((fun u : cr_V => cr_wD ct ad u ++ cr_wH ct ah al ak vh vl vk) u) t) A) args s 0 0 A) (F0 m 3 ls []) := by
    intro  n
    induction n with
    | zero =>
      intro vd vh vl vk x2 x3 x4 hE
      cases hE
    | succ n ih =>
      intro vd vh vl vk x2 x3 x4 hE H locs ls hW hl
      replace hE : (if (vl 4 0) ≤ x4 then (some vd) else ((f_X4_cupAt vl x4 x3).bind fun q8 => if q8 < 70 then (f_X1_rate_45 (f_X1_rate_3 n) vd vh vl vk x2 x3 x4 q8 0 x4) else (f_X1_rate_45 (f_X1_rate_3 n) vd vh vl vk x2 x3 x4 q8 1 x4))) = some out := hE
      refine lv_iload hx hb dX1_rate_3 (lv_at hl 4 rfl) ?_
      refine lv_aload_n hx hb dX1_rate_5 rfl (lv_at hl 1 rfl) ?_
      refine cr_get C hW.1 7 rfl rfl 0 (by decide) hinX3 k2 (v := .ref (al 0)) rfl dX1_rate_6 ?_
      refine cr_get C hW.1 10 rfl rfl 4 (by decide) hinX4 k7 (v := .int (vl 4 0)) rfl dX1_rate_9 ?_
      refine lv_icmp_ge (tgt := 110) hx hb dX1_rate_12 (by decide) (fun c7 => ?_) (fun c7 => ?_)
      · rw [if_pos c7] at hE
        exact cr_retV C (w := (fun u : cr_V => cr_wD ct ad u ++ cr_wH ct ah al ak vh vl vk)) vd hW (Option.some.inj hE) dX1_rate_110
      · rw [if_neg c7] at hE
        refine lv_aload_n hx hb dX1_rate_15 rfl (lv_at hl 1 rfl) ?_
        refine cr_get C hW.1 7 rfl rfl 0 (by decide) hinX3 k2 (v := .ref (al 0)) rfl dX1_rate_16 ?_
        refine lv_iload hx hb dX1_rate_19 (lv_at hl 4 rfl) ?_
        refine lv_iload_n hx hb dX1_rate_21 rfl (lv_at hl 3 rfl) ?_
        obtain ⟨q8, hq8, hE⟩ := cr_bind hE
        refine cr_vRwq (n := 2) (As := [.int x4, .int x3]) (rest := []) C hW (m_X4_cupAt L D ct al vl x4 x3 q8 hq8) (cwV 2 hts gX1_rate_X4_cupAt rfl rfl rfl (by decide +kernel) ⟨Nat.le_of_ble_eq_true rfl, Nat.le_of_ble_eq_true rfl⟩) [10, 11, 12, 13, 14] rfl 10 rfl rfl rfl hl.1 rfl (Nat.le_of_ble_eq_true rfl) dX1_rate_22 ⟨Nat.zero_le _, Nat.zero_le _⟩ (fun H locs hW => ?_)
        refine lv_istore (lv' := [(5, .int q8), (0, .ref (ad 0)), (1, .ref (ah 0)), (2, .int x2), (3, .int x3), (4, .int x4)]) hx hb dX1_rate_25 hl (by decide) rfl (fun ls hl => ?_)
        refine lv_aload_n hx hb dX1_rate_27 rfl (lv_at hl 1 rfl) ?_
        refine cr_get C hW.1 0 rfl rfl 8 (by decide) hinX1 k8 (v := .ref (ad 9)) rfl dX1_rate_28 ?_
        refine lv_iload hx hb dX1_rate_31 (lv_at hl 5 rfl) ?_
        refine lv_iload hx hb dX1_rate_33 (lv_at hl 0 rfl) ?_
        refine lv_bipush (v := 70) hx hb dX1_rate_35 (by decide) ?_
        refine lv_icmp_lt (tgt := 44) hx hb dX1_rate_37 (by decide) (fun c9 => ?_) (fun c9 => ?_)
        · rw [if_pos c9] at hE
          refine lv_iconst (v := 0) hx hb dX1_rate_44 (by decide) ?_
          exact n45 (f_X1_rate_3 n) ih vd vh vl vk x2 x3 x4 q8 0 x4 hE _ _ _ hW (lv_sub hl [1, 2, 3, 4, 5, 0] rfl)
        · rw [if_neg c9] at hE
          refine lv_iconst (v := 1) hx hb dX1_rate_40 (by decide) ?_
          refine lv_goto (tgt := 45) hx hb dX1_rate_41 (by decide) ?_
          exact n45 (f_X1_rate_3 n) ih vd vh vl vk x2 x3 x4 q8 1 x4 hE _ _ _ hW (lv_sub hl [1, 2, 3, 4, 5, 0] rfl)
  replace hE : (f_X1_rate_3 10100 vd vh vl vk x2 x3 0) = some out := hE
  refine lv_iconst (v := 0) hx hb dX1_rate_0 (by decide) ?_
  refine lv_istore (lv' := [(4, .int 0), (0, .ref (ad 0)), (1, .ref (ah 0)), (2, .int x2), (3, .int x3)]) hx hb dX1_rate_1 hl (by decide) rfl (fun ls hl => ?_)
  exact n3 10100 vd vh vl vk x2 x3 0 hE _ _ _ hW (lv_sub hl [1, 2, 3, 4, 0] rfl)

set_option maxHeartbeats 4000000 in
set_option maxRecDepth 100000 in
theorem m_X1_rowOfGreatestGain (L : Launch) (D : va_G) (ct : Nat → ClassId) (ad : Nat → Nat) (vd : cr_V) (x1 : Int32) (out : Int32) (hE : f_X1_rowOfGreatestGain vd x1 = some out) : Met L yX1_rowOfGreatestGain wsX1_rowOfGreatestGain ({ frames := 0, cells := 0, slots := 0, locals := 0 } : Room) (cr_pR D ct (cr_wD ct ad vd) [.ref (ad 0), .int x1]) (cr_QR (fun r => r = out)) 0 0 cr_no := by
  have k0 : (Cond.fieldLink RX1 18 "CupReceipts$Delivery" "waiting" "[Z") ∈ wsX1_rowOfGreatestGain := List.mem_of_getElem? (i := 1) rfl
  have k1 : (Cond.fieldLink RX1 28 "CupReceipts$Delivery" "gains" "[I") ∈ wsX1_rowOfGreatestGain := List.mem_of_getElem? (i := 2) rfl
  have hinX1 : ∀ w ∈ wsX10, w ∈ wsX1_rowOfGreatestGain := fun w h => List.mem_cons_of_mem _ (List.mem_append_right _ h)
  refine cr_metR (by decide) rfl rfl (Nat.le_of_ble_eq_true rfl) ?_
  intro p e s m args below meth c ls C hP hS hl
  obtain ⟨hx, hb, hml, hown, hts, hr, hlocks, hK, hN⟩ := id C
  have hl : lv_has ls 4 [(0, .ref (ad 0)), (1, .int x1)] := hl
  have n39 : ∀ (k4_ : cr_V → Int32 → Int32 → Int32 → Option (Int32)) (ih4_ : ∀ (vd : cr_V) (x1 : Int32) (x2 : Int32) (x3 : Int32) (hE : k4_ vd x1 x2 x3 = some out) (H : Heap) (locs : List Loc) (ls : Array Slot) (hP : va_P D vwCl (cr_wD ct ad vd) H) (hS : va_S cr_no s.heap H locs) (hl : lv_has ls 4 [(0, .ref (ad 0)), (1, .int x1), (2, .int x2), (3, .int x3)]), W p L e ({ frames := 0, cells := 0, slots := 0, locals := 0 } : Room) s m args below meth c H locs 0 0 (MQ below (cr_QR (fun r => r = out)) args s 0 0 cr_no) (F0 m 4 ls [])), ∀ (vd : cr_V) (x1 : Int32) (x2 : Int32) (x3 : Int32) (hE : f_X1_rowOfGreatestGain_39 k4_ vd x1 x2 x3 = some out) (H : Heap) (locs : List Loc) (ls : Array Slot) (hP : va_P D vwCl (cr_wD ct ad vd) H) (hS : va_S cr_no s.heap H locs) (hl : lv_has ls 4 [(0, .ref (ad 0)), (1, .int x1), (2, .int x2), (3, .int x3)]), W p L e ({ frames := 0, cells := 0, slots := 0, locals := 0 } : Room) s m args below meth c H locs 0 0 (MQ below (cr_QR (fun r => r = out)) args s 0 0 cr_no) (F0 m 39 ls []) := by
    intro k4_ ih4_ vd x1 x2 x3 hE H locs ls hP hS hl
    replace hE : (k4_ vd x1 x2 (x3 + 1)) = some out := hE
    refine lv_iinc (v := x3 + 1) (lv' := [(3, .int (x3 + 1)), (0, .ref (ad 0)), (1, .int x1), (2, .int x2)]) hx hb dX1_rowOfGreatestGain_39 hl (k := 3) rfl (by first | rfl | decide) (by decide) rfl (fun ls hl => ?_)
    refine lv_goto (tgt := 4) hx hb dX1_rowOfGreatestGain_42 (by decide) ?_
    exact ih4_ vd x1 x2 (x3 + 1) hE _ _ _ hP hS (lv_sub hl [1, 2, 3, 0] rfl)
  have n37 : ∀ (k4_ : cr_V → Int32 → Int32 → Int32 → Option (Int32)) (ih4_ : ∀ (vd : cr_V) (x1 : Int32) (x2 : Int32) (x3 : Int32) (hE : k4_ vd x1 x2 x3 = some out) (H : Heap) (locs : List Loc) (ls : Array Slot) (hP : va_P D vwCl (cr_wD ct ad vd) H) (hS : va_S cr_no s.heap H locs) (hl : lv_has ls 4 [(0, .ref (ad 0)), (1, .int x1), (2, .int x2), (3, .int x3)]), W p L e ({ frames := 0, cells := 0, slots := 0, locals := 0 } : Room) s m args below meth c H locs 0 0 (MQ below (cr_QR (fun r => r = out)) args s 0 0 cr_no) (F0 m 4 ls [])), ∀ (vd : cr_V) (x1 : Int32) (x3 : Int32) (hE : f_X1_rowOfGreatestGain_37 k4_ vd x1 x3 = some out) (H : Heap) (locs : List Loc) (ls : Array Slot) (hP : va_P D vwCl (cr_wD ct ad vd) H) (hS : va_S cr_no s.heap H locs) (hl : lv_has ls 4 [(0, .ref (ad 0)), (1, .int x1), (3, .int x3)]), W p L e ({ frames := 0, cells := 0, slots := 0, locals := 0 } : Room) s m args below meth c H locs 0 0 (MQ below (cr_QR (fun r => r = out)) args s 0 0 cr_no) (F0 m 37 ls []) := by
    intro k4_ ih4_ vd x1 x3 hE H locs ls hP hS hl
    replace hE : (f_X1_rowOfGreatestGain_39 k4_ vd x1 x3 x3) = some out := hE
    refine lv_iload_n hx hb dX1_rowOfGreatestGain_37 rfl (lv_at hl 2 rfl) ?_
    refine lv_istore_n (lv' := [(2, .int x3), (0, .ref (ad 0)), (1, .int x1), (3, .int x3)]) hx hb dX1_rowOfGreatestGain_38 rfl hl (by decide) rfl (fun ls hl => ?_)
    exact n39 k4_ ih4_ vd x1 x3 x3 hE _ _ _ hP hS (lv_sub hl [1, 2, 0, 3] rfl)
  have n4 :  ∀ (n : Nat), ∀ (vd : cr_V) (x1 : Int32) (x2 : Int32) (x3 : Int32) (hE : f_X1_rowOfGreatestGain_4  n vd x1 x2 x3 = some out) (H : Heap) (locs : List Loc) (ls : Array Slot) (hP : va_P D vwCl (cr_wD ct ad vd) H) (hS : va_S cr_no s.heap H locs) (hl : lv_has ls 4 [(0, .ref (ad 0)), (1, .int x1), (2, .int x2), (3, .int x3)]), W p L e ({ frames := 0, cells := 0, slots := 0, locals := 0 } : Room) s m args below meth c H locs 0 0 (MQ below (cr_QR (fun r => r = out)) args s 0 0 cr_no) (F0 m 4 ls []) := by
    intro  n
    induction n with
    | zero =>
      intro vd x1 x2 x3 hE
      cases hE
    | succ n ih =>
      intro vd x1 x2 x3 hE H locs ls hP hS hl
      replace hE : (if x1 ≤ x3 then (some x2) else (if cr_in x3 12 = true then if (vd 8 (cr_x x3)) = 0 then (f_X1_rowOfGreatestGain_39 (f_X1_rowOfGreatestGain_4 n) vd x1 x2 x3) else (if x2 < 0 then (f_X1_rowOfGreatestGain_37 (f_X1_rowOfGreatestGain_4 n) vd x1 x3) else (if cr_in x2 12 = true then if (vd 11 (cr_x x3)) ≤ (vd 11 (cr_x x2)) then (f_X1_rowOfGreatestGain_39 (f_X1_rowOfGreatestGain_4 n) vd x1 x2 x3) else (f_X1_rowOfGreatestGain_37 (f_X1_rowOfGreatestGain_4 n) vd x1 x3) else none)) else none)) = some out := hE
      refine lv_iload_n hx hb dX1_rowOfGreatestGain_4 rfl (lv_at hl 3 rfl) ?_
      refine lv_iload_n hx hb dX1_rowOfGreatestGain_5 rfl (lv_at hl 1 rfl) ?_
      refine lv_icmp_ge (tgt := 45) hx hb dX1_rowOfGreatestGain_6 (by decide) (fun c1 => ?_) (fun c1 => ?_)
      · rw [if_pos c1] at hE
        refine lv_iload_n hx hb dX1_rowOfGreatestGain_45 rfl (lv_at hl 2 rfl) ?_
        exact cr_retR C hS (Option.some.inj hE) dX1_rowOfGreatestGain_46
      · rw [if_neg c1] at hE
        refine lv_aload_n hx hb dX1_rowOfGreatestGain_9 rfl (lv_at hl 0 rfl) ?_
        refine cr_get C hP 0 rfl rfl 8 (by decide) hinX1 k0 (v := .ref (ad 9)) rfl dX1_rowOfGreatestGain_10 ?_
        refine lv_iload_n hx hb dX1_rowOfGreatestGain_13 rfl (lv_at hl 3 rfl) ?_
        obtain ⟨i2, hE⟩ := cr_ifn hE
        refine cr_zald C hP 3 (f := vd 8) (k := cr_x x3) rfl i2 (cr_xe _) dX1_rowOfGreatestGain_14 ?_
        refine lv_if_eq (tgt := 39) hx hb dX1_rowOfGreatestGain_15 (by decide) (fun c3 => ?_) (fun c3 => ?_)
        · rw [if_pos c3] at hE
          exact n39 (f_X1_rowOfGreatestGain_4 n) ih vd x1 x2 x3 hE _ _ _ hP hS (lv_sub hl [0, 1, 2, 3] rfl)
        · rw [if_neg c3] at hE
          refine lv_iload_n hx hb dX1_rowOfGreatestGain_18 rfl (lv_at hl 2 rfl) ?_
          refine lv_if_lt (tgt := 37) hx hb dX1_rowOfGreatestGain_19 (by decide) (fun c4 => ?_) (fun c4 => ?_)
          · rw [if_pos c4] at hE
            exact n37 (f_X1_rowOfGreatestGain_4 n) ih vd x1 x3 hE _ _ _ hP hS (lv_sub hl [0, 1, 3] rfl)
          · rw [if_neg c4] at hE
            refine lv_aload_n hx hb dX1_rowOfGreatestGain_22 rfl (lv_at hl 0 rfl) ?_
            refine cr_get C hP 0 rfl rfl 11 (by decide) hinX1 k1 (v := .ref (ad 12)) rfl dX1_rowOfGreatestGain_23 ?_
            refine lv_iload_n hx hb dX1_rowOfGreatestGain_26 rfl (lv_at hl 3 rfl) ?_
            refine cr_ald C hP 6 (f := vd 11) (k := cr_x x3) rfl i2 (cr_xe _) dX1_rowOfGreatestGain_27 ?_
            refine lv_aload_n hx hb dX1_rowOfGreatestGain_28 rfl (lv_at hl 0 rfl) ?_
            refine cr_get C hP 0 rfl rfl 11 (by decide) hinX1 k1 (v := .ref (ad 12)) rfl dX1_rowOfGreatestGain_29 ?_
            refine lv_iload_n hx hb dX1_rowOfGreatestGain_32 rfl (lv_at hl 2 rfl) ?_
            obtain ⟨i5, hE⟩ := cr_ifn hE
            refine cr_ald C hP 6 (f := vd 11) (k := cr_x x2) rfl i5 (cr_xe _) dX1_rowOfGreatestGain_33 ?_
            refine lv_icmp_le (tgt := 39) hx hb dX1_rowOfGreatestGain_34 (by decide) (fun c6 => ?_) (fun c6 => ?_)
            · rw [if_pos c6] at hE
              exact n39 (f_X1_rowOfGreatestGain_4 n) ih vd x1 x2 x3 hE _ _ _ hP hS (lv_sub hl [0, 1, 2, 3] rfl)
            · rw [if_neg c6] at hE
              exact n37 (f_X1_rowOfGreatestGain_4 n) ih vd x1 x3 hE _ _ _ hP hS (lv_sub hl [0, 1, 3] rfl)
  replace hE : (f_X1_rowOfGreatestGain_4 10100 vd x1 (-1) 0) = some out := hE
  refine lv_iconst (v := (-1)) hx hb dX1_rowOfGreatestGain_0 (by decide) ?_
  refine lv_istore_n (lv' := [(2, .int (-1)), (0, .ref (ad 0)), (1, .int x1)]) hx hb dX1_rowOfGreatestGain_1 rfl hl (by decide) rfl (fun ls hl => ?_)
  refine lv_iconst (v := 0) hx hb dX1_rowOfGreatestGain_2 (by decide) ?_
  refine lv_istore_n (lv' := [(3, .int 0), (2, .int (-1)), (0, .ref (ad 0)), (1, .int x1)]) hx hb dX1_rowOfGreatestGain_3 rfl hl (by decide) rfl (fun ls hl => ?_)
  exact n4 10100 vd x1 (-1) 0 hE _ _ _ hP hS (lv_sub hl [2, 3, 1, 0] rfl)

set_option maxHeartbeats 4000000 in
set_option maxRecDepth 100000 in
theorem m_X1_take (L : Launch) (D : va_G) (ct : Nat → ClassId) (ad : Nat → Nat) (vd : cr_V) (x1 : Int32) (x2 : Int32) (sz : Nat) (out : cr_V) (hE : f_X1_take vd x1 x2 = some out) : Met L yX1_take wsX1_take ({ frames := 1, cells := 0, slots := 0, locals := 21 } : Room) (cr_pW D ct (cr_wD ct ad vd) sz [.ref (ad 0), .int x1, .int x2]) (cr_QV D (cr_wD ct ad vd) sz (fun u : cr_V => u = out) (fun u : cr_V => cr_wD ct ad u)) 0 0 (va_A (cr_wD ct ad vd) sz) := by
  have k0 : (Cond.fieldLink RX1 18 "CupReceipts$Delivery" "waiting" "[Z") ∈ wsX1_take := List.mem_of_getElem? (i := 16) rfl
  have k1 : (Cond.fieldLink RX1 35 "CupReceipts$Delivery" "places" "I") ∈ wsX1_take := List.mem_of_getElem? (i := 1) rfl
  have k2 : (Cond.fieldLink RX1 44 "CupReceipts$Delivery" "missing" "I") ∈ wsX1_take := List.mem_of_getElem? (i := 2) rfl
  have k3 : (Cond.methodLink RX1 94 Lib.Math.min.name) ∈ wsX1_take := List.mem_of_getElem? (i := 3) rfl
  have k4 : (Cond.static Lib.Math.min.name) ∈ wsX1_take := List.mem_of_getElem? (i := 4) rfl
  have k5 : (Cond.initialized "java/lang/Math") ∈ wsX1_take := List.mem_of_getElem? (i := 5) rfl
  have k6 : (Cond.code Lib.Math.min.name Lib.Math.min.code 2 (some .int)) ∈ wsX1_take := List.mem_of_getElem? (i := 6) rfl
  have k7 : (Cond.fieldLink RX1 9 "CupReceipts$Delivery" "rows" "[I") ∈ wsX1_take := List.mem_of_getElem? (i := 7) rfl
  have k8 : (Cond.fieldLink RX1 15 "CupReceipts$Delivery" "bags" "[I") ∈ wsX1_take := List.mem_of_getElem? (i := 8) rfl
  have k9 : (Cond.fieldLink RX1 47 "CupReceipts$Delivery" "pay" "I") ∈ wsX1_take := List.mem_of_getElem? (i := 9) rfl
  have k10 : (Cond.fieldLink RX1 25 "CupReceipts$Delivery" "pays" "[I") ∈ wsX1_take := List.mem_of_getElem? (i := 10) rfl
  have k11 : (Cond.fieldLink RX1 50 "CupReceipts$Delivery" "gain" "I") ∈ wsX1_take := List.mem_of_getElem? (i := 11) rfl
  have k12 : (Cond.fieldLink RX1 28 "CupReceipts$Delivery" "gains" "[I") ∈ wsX1_take := List.mem_of_getElem? (i := 12) rfl
  have k13 : (Cond.fieldLink RX1 53 "CupReceipts$Delivery" "sumOfCups" "I") ∈ wsX1_take := List.mem_of_getElem? (i := 13) rfl
  have k14 : (Cond.fieldLink RX1 22 "CupReceipts$Delivery" "cups" "[I") ∈ wsX1_take := List.mem_of_getElem? (i := 14) rfl
  have k15 : (Cond.fieldLink RX1 56 "CupReceipts$Delivery" "usedUp" "I") ∈ wsX1_take := List.mem_of_getElem? (i := 15) rfl
  have hinX1 : ∀ w ∈ wsX10, w ∈ wsX1_take := fun w h => List.mem_cons_of_mem _ (List.mem_append_right _ h)
  refine cr_metW (Qc := fun A => va_Qv (fun u : cr_V => u = out) (fun u t => cr_at D A ((fun u : cr_V => cr_wD ct ad u) u) t) A) (by decide) rfl rfl (Nat.le_of_ble_eq_true rfl) ?_
  intro p e s m args below meth c ls A C hW hl
  obtain ⟨hx, hb, hml, hown, hts, hr, hlocks, hK, hN⟩ := id C
  have hl : lv_has ls 4 [(0, .ref (ad 0)), (1, .int x1), (2, .int x2)] := hl
  have n125 :  ∀ (vd : cr_V) (x1 : Int32) (hE : f_X1_take_125  vd x1 = some out) (H : Heap) (locs : List Loc) (ls : Array Slot) (hW : cr_wd D A s (cr_wD ct ad vd) H locs) (hl : lv_has ls 4 [(0, .ref (ad 0)), (1, .int x1)]), W p L e ({ frames := 1, cells := 0, slots := 0, locals := 21 } : Room) s m args below meth c H locs 0 0 (MQ below (va_Qv (fun u : cr_V => u = out) (fun u t => cr_at D A ((fun u : cr_V => cr_wD ct ad u) u) t) A) args s 0 0 A) (F0 m 125 ls []) := by
    intro  vd x1 hE H locs ls hW hl
    replace hE : (if cr_in x1 12 = true then some (cr_a vd 8 (cr_x x1) (vp_nar .boolean 0)) else none) = some out := hE
    refine lv_aload_n hx hb dX1_take_125 rfl (lv_at hl 0 rfl) ?_
    refine cr_get C hW.1 0 rfl rfl 8 (by decide) hinX1 k0 (v := .ref (ad 9)) rfl dX1_take_126 ?_
    refine lv_iload_n hx hb dX1_take_129 rfl (lv_at hl 1 rfl) ?_
    refine lv_iconst (v := 0) hx hb dX1_take_130 (by decide) ?_
    obtain ⟨i1, hE⟩ := cr_ifn hE
    refine cr_zast C hW 3 rfl (k := (cr_x x1)) i1 (cr_xe _) (w' := cr_wD ct ad (cr_a vd 8 (cr_x x1) (vp_nar .boolean 0))) rfl dX1_take_131 (fun H locs hW => ?_)
    exact cr_retV C (w := (fun u : cr_V => cr_wD ct ad u)) (cr_a vd 8 (cr_x x1) (vp_nar .boolean 0)) hW (Option.some.inj hE) dX1_take_132
  replace hE : (if (vd 2 0) < 12 then (if cr_in (vd 2 0) 12 = true then if cr_in x1 12 = true then if (if x2 < (vd 3 0) then x2 else (vd 3 0)) = x2 then (f_X1_take_125 (cr_i (cr_i (cr_i (cr_i (cr_i (cr_i (cr_a (cr_a vd 0 (cr_x (vd 2 0)) x1) 1 (cr_x (vd 2 0)) (if x2 < (vd 3 0) then x2 else (vd 3 0))) 2 ((vd 2 0) + 1)) 3 ((vd 3 0) - (if x2 < (vd 3 0) then x2 else (vd 3 0)))) 4 ((vd 4 0) + ((if x2 < (vd 3 0) then x2 else (vd 3 0)) * (vd 10 (cr_x x1))))) 5 ((vd 5 0) + ((if x2 < (vd 3 0) then x2 else (vd 3 0)) * (vd 11 (cr_x x1))))) 6 ((vd 6 0) + ((if x2 < (vd 3 0) then x2 else (vd 3 0)) * (vd 9 (cr_x x1))))) 7 ((vd 7 0) + 1)) x1) else (f_X1_take_125 (cr_i (cr_i (cr_i (cr_i (cr_i (cr_a (cr_a vd 0 (cr_x (vd 2 0)) x1) 1 (cr_x (vd 2 0)) (if x2 < (vd 3 0) then x2 else (vd 3 0))) 2 ((vd 2 0) + 1)) 3 ((vd 3 0) - (if x2 < (vd 3 0) then x2 else (vd 3 0)))) 4 ((vd 4 0) + ((if x2 < (vd 3 0) then x2 else (vd 3 0)) * (vd 10 (cr_x x1))))) 5 ((vd 5 0) + ((if x2 < (vd 3 0) then x2 else (vd 3 0)) * (vd 11 (cr_x x1))))) 6 ((vd 6 0) + ((if x2 < (vd 3 0) then x2 else (vd 3 0)) * (vd 9 (cr_x x1))))) x1) else none else none) else (some vd)) = some out := hE
  refine lv_aload_n hx hb dX1_take_0 rfl (lv_at hl 0 rfl) ?_
  refine cr_get C hW.1 0 rfl rfl 2 (by decide) hinX1 k1 (v := .int (vd 2 0)) rfl dX1_take_1 ?_
  refine lv_bipush (v := 12) hx hb dX1_take_4 (by decide) ?_
  refine lv_icmp_lt (tgt := 10) hx hb dX1_take_6 (by decide) (fun c2 => ?_) (fun c2 => ?_)
  · rw [if_pos c2] at hE
    refine lv_aload_n hx hb dX1_take_10 rfl (lv_at hl 0 rfl) ?_
    refine cr_get C hW.1 0 rfl rfl 3 (by decide) hinX1 k2 (v := .int (vd 3 0)) rfl dX1_take_11 ?_
    refine lv_iload_n hx hb dX1_take_14 rfl (lv_at hl 2 rfl) ?_
    refine va_mmin hx hb (hml.trans hl.1.symm) hown (hts _ k3) (hts _ k4) (hts _ k5) (hts _ k6) (Nat.le_of_ble_eq_true rfl) (Nat.le_of_ble_eq_true rfl) (Nat.zero_le _) (Nat.zero_le _) dX1_take_15 ?_
    refine lv_istore_n (lv' := [(3, .int (if x2 < (vd 3 0) then x2 else (vd 3 0))), (0, .ref (ad 0)), (1, .int x1), (2, .int x2)]) hx hb dX1_take_18 rfl hl (by decide) rfl (fun ls hl => ?_)
    refine lv_aload_n hx hb dX1_take_19 rfl (lv_at hl 1 rfl) ?_
    refine cr_get C hW.1 0 rfl rfl 0 (by decide) hinX1 k7 (v := .ref (ad 1)) rfl dX1_take_20 ?_
    refine lv_aload_n hx hb dX1_take_23 rfl (lv_at hl 1 rfl) ?_
    refine cr_get C hW.1 0 rfl rfl 2 (by decide) hinX1 k1 (v := .int (vd 2 0)) rfl dX1_take_24 ?_
    refine lv_iload_n hx hb dX1_take_27 rfl (lv_at hl 2 rfl) ?_
    obtain ⟨i3, hE⟩ := cr_ifn hE
    refine cr_ast C hW 1 rfl (k := (cr_x (vd 2 0))) i3 (cr_xe _) (w' := cr_wD ct ad (cr_a vd 0 (cr_x (vd 2 0)) x1)) rfl dX1_take_28 (fun H locs hW => ?_)
    refine lv_aload_n hx hb dX1_take_29 rfl (lv_at hl 1 rfl) ?_
    refine cr_get C hW.1 0 rfl rfl 1 (by decide) hinX1 k8 (v := .ref (ad 2)) rfl dX1_take_30 ?_
    refine lv_aload_n hx hb dX1_take_33 rfl (lv_at hl 1 rfl) ?_
    refine cr_get C hW.1 0 rfl rfl 2 (by decide) hinX1 k1 (v := .int (vd 2 0)) rfl dX1_take_34 ?_
    refine lv_iload_n hx hb dX1_take_37 rfl (lv_at hl 0 rfl) ?_
    refine cr_ast C hW 2 rfl (k := (cr_x (vd 2 0))) i3 (cr_xe _) (w' := cr_wD ct ad (cr_a (cr_a vd 0 (cr_x (vd 2 0)) x1) 1 (cr_x (vd 2 0)) (if x2 < (vd 3 0) then x2 else (vd 3 0)))) rfl dX1_take_38 (fun H locs hW => ?_)
    refine lv_aload_n hx hb dX1_take_39 rfl (lv_at hl 1 rfl) ?_
    refine lv_dup hx hb dX1_take_40 rfl ?_
    refine cr_get C hW.1 0 rfl rfl 2 (by decide) hinX1 k1 (v := .int (vd 2 0)) rfl dX1_take_41 ?_
    refine lv_iconst (v := 1) hx hb dX1_take_44 (by decide) ?_
    refine lv_iadd hx hb dX1_take_45 ?_
    refine cr_put C hW 0 rfl rfl tyX1 tyX1_ok nmX1 2 (by decide) hinX1 k1 rfl rfl rfl rfl (Nat.le_of_ble_eq_true rfl) (w' := cr_wD ct ad (cr_i (cr_a (cr_a vd 0 (cr_x (vd 2 0)) x1) 1 (cr_x (vd 2 0)) (if x2 < (vd 3 0) then x2 else (vd 3 0))) 2 ((vd 2 0) + 1))) rfl dX1_take_46 (fun H locs hW => ?_)
    refine lv_aload_n hx hb dX1_take_49 rfl (lv_at hl 1 rfl) ?_
    refine lv_dup hx hb dX1_take_50 rfl ?_
    refine cr_get C hW.1 0 rfl rfl 3 (by decide) hinX1 k2 (v := .int (vd 3 0)) rfl dX1_take_51 ?_
    refine lv_iload_n hx hb dX1_take_54 rfl (lv_at hl 0 rfl) ?_
    refine lv_isub hx hb dX1_take_55 ?_
    refine cr_put C hW 0 rfl rfl tyX1 tyX1_ok nmX1 3 (by decide) hinX1 k2 rfl rfl rfl rfl (Nat.le_of_ble_eq_true rfl) (w' := cr_wD ct ad (cr_i (cr_i (cr_a (cr_a vd 0 (cr_x (vd 2 0)) x1) 1 (cr_x (vd 2 0)) (if x2 < (vd 3 0) then x2 else (vd 3 0))) 2 ((vd 2 0) + 1)) 3 ((vd 3 0) - (if x2 < (vd 3 0) then x2 else (vd 3 0))))) rfl dX1_take_56 (fun H locs hW => ?_)
    refine lv_aload_n hx hb dX1_take_59 rfl (lv_at hl 1 rfl) ?_
    refine lv_dup hx hb dX1_take_60 rfl ?_
    refine cr_get C hW.1 0 rfl rfl 4 (by decide) hinX1 k9 (v := .int (vd 4 0)) rfl dX1_take_61 ?_
    refine lv_iload_n hx hb dX1_take_64 rfl (lv_at hl 0 rfl) ?_
    refine lv_aload_n hx hb dX1_take_65 rfl (lv_at hl 1 rfl) ?_
    refine cr_get C hW.1 0 rfl rfl 10 (by decide) hinX1 k10 (v := .ref (ad 11)) rfl dX1_take_66 ?_
    refine lv_iload_n hx hb dX1_take_69 rfl (lv_at hl 2 rfl) ?_
    obtain ⟨i4, hE⟩ := cr_ifn hE
    refine cr_ald C hW.1 5 (f := vd 10) (k := cr_x x1) rfl i4 (cr_xe _) dX1_take_70 ?_
    refine lv_imul hx hb dX1_take_71 ?_
    refine lv_iadd hx hb dX1_take_72 ?_
    refine cr_put C hW 0 rfl rfl tyX1 tyX1_ok nmX1 4 (by decide) hinX1 k9 rfl rfl rfl rfl (Nat.le_of_ble_eq_true rfl) (w' := cr_wD ct ad (cr_i (cr_i (cr_i (cr_a (cr_a vd 0 (cr_x (vd 2 0)) x1) 1 (cr_x (vd 2 0)) (if x2 < (vd 3 0) then x2 else (vd 3 0))) 2 ((vd 2 0) + 1)) 3 ((vd 3 0) - (if x2 < (vd 3 0) then x2 else (vd 3 0)))) 4 ((vd 4 0) + ((if x2 < (vd 3 0) then x2 else (vd 3 0)) * (vd 10 (cr_x x1)))))) rfl dX1_take_73 (fun H locs hW => ?_)
    refine lv_aload_n hx hb dX1_take_76 rfl (lv_at hl 1 rfl) ?_
    refine lv_dup hx hb dX1_take_77 rfl ?_
    refine cr_get C hW.1 0 rfl rfl 5 (by decide) hinX1 k11 (v := .int (vd 5 0)) rfl dX1_take_78 ?_
    refine lv_iload_n hx hb dX1_take_81 rfl (lv_at hl 0 rfl) ?_
    refine lv_aload_n hx hb dX1_take_82 rfl (lv_at hl 1 rfl) ?_
    refine cr_get C hW.1 0 rfl rfl 11 (by decide) hinX1 k12 (v := .ref (ad 12)) rfl dX1_take_83 ?_
    refine lv_iload_n hx hb dX1_take_86 rfl (lv_at hl 2 rfl) ?_
    refine cr_ald C hW.1 6 (f := vd 11) (k := cr_x x1) rfl i4 (cr_xe _) dX1_take_87 ?_
    refine lv_imul hx hb dX1_take_88 ?_
    refine lv_iadd hx hb dX1_take_89 ?_
    refine cr_put C hW 0 rfl rfl tyX1 tyX1_ok nmX1 5 (by decide) hinX1 k11 rfl rfl rfl rfl (Nat.le_of_ble_eq_true rfl) (w' := cr_wD ct ad (cr_i (cr_i (cr_i (cr_i (cr_a (cr_a vd 0 (cr_x (vd 2 0)) x1) 1 (cr_x (vd 2 0)) (if x2 < (vd 3 0) then x2 else (vd 3 0))) 2 ((vd 2 0) + 1)) 3 ((vd 3 0) - (if x2 < (vd 3 0) then x2 else (vd 3 0)))) 4 ((vd 4 0) + ((if x2 < (vd 3 0) then x2 else (vd 3 0)) * (vd 10 (cr_x x1))))) 5 ((vd 5 0) + ((if x2 < (vd 3 0) then x2 else (vd 3 0)) * (vd 11 (cr_x x1)))))) rfl dX1_take_90 (fun H locs hW => ?_)
    refine lv_aload_n hx hb dX1_take_93 rfl (lv_at hl 1 rfl) ?_
    refine lv_dup hx hb dX1_take_94 rfl ?_
    refine cr_get C hW.1 0 rfl rfl 6 (by decide) hinX1 k13 (v := .int (vd 6 0)) rfl dX1_take_95 ?_
    refine lv_iload_n hx hb dX1_take_98 rfl (lv_at hl 0 rfl) ?_
    refine lv_aload_n hx hb dX1_take_99 rfl (lv_at hl 1 rfl) ?_
    refine cr_get C hW.1 0 rfl rfl 9 (by decide) hinX1 k14 (v := .ref (ad 10)) rfl dX1_take_100 ?_
    refine lv_iload_n hx hb dX1_take_103 rfl (lv_at hl 2 rfl) ?_
    refine cr_ald C hW.1 4 (f := vd 9) (k := cr_x x1) rfl i4 (cr_xe _) dX1_take_104 ?_
    refine lv_imul hx hb dX1_take_105 ?_
    refine lv_iadd hx hb dX1_take_106 ?_
    refine cr_put C hW 0 rfl rfl tyX1 tyX1_ok nmX1 6 (by decide) hinX1 k13 rfl rfl rfl rfl (Nat.le_of_ble_eq_true rfl) (w' := cr_wD ct ad (cr_i (cr_i (cr_i (cr_i (cr_i (cr_a (cr_a vd 0 (cr_x (vd 2 0)) x1) 1 (cr_x (vd 2 0)) (if x2 < (vd 3 0) then x2 else (vd 3 0))) 2 ((vd 2 0) + 1)) 3 ((vd 3 0) - (if x2 < (vd 3 0) then x2 else (vd 3 0)))) 4 ((vd 4 0) + ((if x2 < (vd 3 0) then x2 else (vd 3 0)) * (vd 10 (cr_x x1))))) 5 ((vd 5 0) + ((if x2 < (vd 3 0) then x2 else (vd 3 0)) * (vd 11 (cr_x x1))))) 6 ((vd 6 0) + ((if x2 < (vd 3 0) then x2 else (vd 3 0)) * (vd 9 (cr_x x1)))))) rfl dX1_take_107 (fun H locs hW => ?_)
    refine lv_iload_n hx hb dX1_take_110 rfl (lv_at hl 0 rfl) ?_
    refine lv_iload_n hx hb dX1_take_111 rfl (lv_at hl 3 rfl) ?_
    refine lv_icmp_ne (tgt := 125) hx hb dX1_take_112 (by decide) (fun c5 => ?_) (fun c5 => ?_)
    · rw [if_neg c5] at hE
      exact n125 (cr_i (cr_i (cr_i (cr_i (cr_i (cr_a (cr_a vd 0 (cr_x (vd 2 0)) x1) 1 (cr_x (vd 2 0)) (if x2 < (vd 3 0) then x2 else (vd 3 0))) 2 ((vd 2 0) + 1)) 3 ((vd 3 0) - (if x2 < (vd 3 0) then x2 else (vd 3 0)))) 4 ((vd 4 0) + ((if x2 < (vd 3 0) then x2 else (vd 3 0)) * (vd 10 (cr_x x1))))) 5 ((vd 5 0) + ((if x2 < (vd 3 0) then x2 else (vd 3 0)) * (vd 11 (cr_x x1))))) 6 ((vd 6 0) + ((if x2 < (vd 3 0) then x2 else (vd 3 0)) * (vd 9 (cr_x x1))))) x1 hE _ _ _ hW (lv_sub hl [1, 2] rfl)
    · rw [if_pos c5] at hE
      refine lv_aload_n hx hb dX1_take_115 rfl (lv_at hl 1 rfl) ?_
      refine lv_dup hx hb dX1_take_116 rfl ?_
      refine cr_get C hW.1 0 rfl rfl 7 (by decide) hinX1 k15 (v := .int (vd 7 0)) rfl dX1_take_117 ?_
      refine lv_iconst (v := 1) hx hb dX1_take_120 (by decide) ?_
      refine lv_iadd hx hb dX1_take_121 ?_
      refine cr_put C hW 0 rfl rfl tyX1 tyX1_ok nmX1 7 (by decide) hinX1 k15 rfl rfl rfl rfl (Nat.le_of_ble_eq_true rfl) (w' := cr_wD ct ad (cr_i (cr_i (cr_i (cr_i (cr_i (cr_i (cr_a (cr_a vd 0 (cr_x (vd 2 0)) x1) 1 (cr_x (vd 2 0)) (if x2 < (vd 3 0) then x2 else (vd 3 0))) 2 ((vd 2 0) + 1)) 3 ((vd 3 0) - (if x2 < (vd 3 0) then x2 else (vd 3 0)))) 4 ((vd 4 0) + ((if x2 < (vd 3 0) then x2 else (vd 3 0)) * (vd 10 (cr_x x1))))) 5 ((vd 5 0) + ((if x2 < (vd 3 0) then x2 else (vd 3 0)) * (vd 11 (cr_x x1))))) 6 ((vd 6 0) + ((if x2 < (vd 3 0) then x2 else (vd 3 0)) * (vd 9 (cr_x x1))))) 7 ((vd 7 0) + 1))) rfl dX1_take_122 (fun H locs hW => ?_)
      exact n125 (cr_i (cr_i (cr_i (cr_i (cr_i (cr_i (cr_a (cr_a vd 0 (cr_x (vd 2 0)) x1) 1 (cr_x (vd 2 0)) (if x2 < (vd 3 0) then x2 else (vd 3 0))) 2 ((vd 2 0) + 1)) 3 ((vd 3 0) - (if x2 < (vd 3 0) then x2 else (vd 3 0)))) 4 ((vd 4 0) + ((if x2 < (vd 3 0) then x2 else (vd 3 0)) * (vd 10 (cr_x x1))))) 5 ((vd 5 0) + ((if x2 < (vd 3 0) then x2 else (vd 3 0)) * (vd 11 (cr_x x1))))) 6 ((vd 6 0) + ((if x2 < (vd 3 0) then x2 else (vd 3 0)) * (vd 9 (cr_x x1))))) 7 ((vd 7 0) + 1)) x1 hE _ _ _ hW (lv_sub hl [1, 2] rfl)
  · rw [if_neg c2] at hE
    exact cr_retV C (w := (fun u : cr_V => cr_wD ct ad u)) vd hW (Option.some.inj hE) dX1_take_9

set_option maxHeartbeats 4000000 in
set_option maxRecDepth 100000 in
theorem m_X1_plan (L : Launch) (D : va_G) (ct : Nat → ClassId) (ad : Nat → Nat) (ah : Nat → Nat) (al : Nat → Nat) (ak : Nat → Nat) (vd : cr_V) (vh : cr_V) (vl : cr_V) (vk : cr_V) (x2 : Int32) (x3 : Int32) (sz : Nat) (out : cr_V) (hE : f_X1_plan vd vh vl vk x2 x3 = some out) : Met L yX1_plan wsX1_plan ({ frames := 2, cells := 0, slots := 0, locals := 49 } : Room) (cr_pW D ct (cr_wD ct ad vd ++ cr_wH ct ah al ak vh vl vk) sz [.ref (ad 0), .ref (ah 0), .int x2, .int x3]) (cr_QV D (cr_wD ct ad vd ++ cr_wH ct ah al ak vh vl vk) sz (fun u : cr_V => u = out) (fun u : cr_V => cr_wD ct ad u ++ cr_wH ct ah al ak vh vl vk)) 0 0 (va_A (cr_wD ct ad vd ++ cr_wH ct ah al ak vh vl vk) sz) := by
  have k0 : (Cond.fieldLink RX1 44 "CupReceipts$Delivery" "missing" "I") ∈ wsX1_plan := List.mem_of_getElem? (i := 3) rfl
  have k1 : (Cond.fieldLink RX1 59 "CupReceipts$House" "lots" "LCupReceipts$Lots;") ∈ wsX1_plan := List.mem_of_getElem? (i := 8) rfl
  have k2 : (Cond.fieldLink RX1 63 "CupReceipts$Lots" "size" "I") ∈ wsX1_plan := List.mem_of_getElem? (i := 9) rfl
  have k3 : (Cond.fieldLink RX1 72 "CupReceipts$Lots" "bags" "[I") ∈ wsX1_plan := List.mem_of_getElem? (i := 10) rfl
  have k4 : (Cond.fieldLink RX1 35 "CupReceipts$Delivery" "places" "I") ∈ wsX1_plan := List.mem_of_getElem? (i := 1) rfl
  have k5 : (Cond.fieldLink RX1 39 "CupReceipts$House" "settings" "[I") ∈ wsX1_plan := List.mem_of_getElem? (i := 2) rfl
  have k6 : (Cond.fieldLink RX1 47 "CupReceipts$Delivery" "pay" "I") ∈ wsX1_plan := List.mem_of_getElem? (i := 4) rfl
  have k7 : (Cond.fieldLink RX1 50 "CupReceipts$Delivery" "gain" "I") ∈ wsX1_plan := List.mem_of_getElem? (i := 5) rfl
  have k8 : (Cond.fieldLink RX1 53 "CupReceipts$Delivery" "sumOfCups" "I") ∈ wsX1_plan := List.mem_of_getElem? (i := 6) rfl
  have k9 : (Cond.fieldLink RX1 56 "CupReceipts$Delivery" "usedUp" "I") ∈ wsX1_plan := List.mem_of_getElem? (i := 7) rfl
  have hinX1 : ∀ w ∈ wsX10, w ∈ wsX1_plan := fun w h => List.mem_cons_of_mem _ (List.mem_append_left _ (List.mem_append_left _ (List.mem_append_right _ h)))
  have hinX3 : ∀ w ∈ wsX30, w ∈ wsX1_plan := fun w h => List.mem_cons_of_mem _ (List.mem_append_left _ (List.mem_append_right _ h))
  have hinX4 : ∀ w ∈ wsX40, w ∈ wsX1_plan := fun w h => List.mem_cons_of_mem _ (List.mem_append_right _ h)
  refine cr_metW (Qc := fun A => va_Qv (fun u : cr_V => u = out) (fun u t => cr_at D A ((fun u : cr_V => cr_wD ct ad u ++ cr_wH ct ah al ak vh vl vk) u) t) A) (by decide) rfl rfl (Nat.le_of_ble_eq_true rfl) ?_
  intro p e s m args below meth c ls A C hW hl
  obtain ⟨hx, hb, hml, hown, hts, hr, hlocks, hK, hN⟩ := id C
  have hl : lv_has ls 6 [(0, .ref (ad 0)), (1, .ref (ah 0)), (2, .int x2), (3, .int x3)] := hl
  have n93 : ∀ (k45_ : cr_V → cr_V → cr_V → cr_V → Int32 → Option (cr_V)) (ih45_ : ∀ (vd : cr_V) (vh : cr_V) (vl : cr_V) (vk : cr_V) (x4 : Int32) (hE : k45_ vd vh vl vk x4 = some out) (H : Heap) (locs : List Loc) (ls : Array Slot) (hW : cr_wd D A s (cr_wD ct ad vd ++ cr_wH ct ah al ak vh vl vk) H locs) (hl : lv_has ls 6 [(0, .ref (ad 0)), (1, .ref (ah 0)), (4, .int x4)]), W p L e ({ frames := 2, cells := 0, slots := 0, locals := 49 } : Room) s m args below meth c H locs 0 0 (MQ below (va_Qv (fun u : cr_V => u = out) (fun u t => cr_at D A ((fun u : cr_V => cr_wD ct ad u ++ cr_wH ct ah al ak vh vl vk) u) t) A) args s 0 0 A) (F0 m 45 ls [])), ∀ (vd : cr_V) (vh : cr_V) (vl : cr_V) (vk : cr_V) (x4 : Int32) (hE : f_X1_plan_93 k45_ vd vh vl vk x4 = some out) (H : Heap) (locs : List Loc) (ls : Array Slot) (hW : cr_wd D A s (cr_wD ct ad vd ++ cr_wH ct ah al ak vh vl vk) H locs) (hl : lv_has ls 6 [(0, .ref (ad 0)), (1, .ref (ah 0)), (4, .int x4)]), W p L e ({ frames := 2, cells := 0, slots := 0, locals := 49 } : Room) s m args below meth c H locs 0 0 (MQ below (va_Qv (fun u : cr_V => u = out) (fun u t => cr_at D A ((fun u : cr_V => cr_wD ct ad u ++ cr_wH ct ah al ak vh vl vk) u) t) A) args s 0 0 A) (F0 m 93 ls []) := by
    intro k45_ ih45_ vd vh vl vk x4 hE H locs ls hW hl
    replace hE : (k45_ vd vh vl vk (x4 + 1)) = some out := hE
    refine lv_iinc (v := x4 + 1) (lv' := [(4, .int (x4 + 1)), (0, .ref (ad 0)), (1, .ref (ah 0))]) hx hb dX1_plan_93 hl (k := 2) rfl (by first | rfl | decide) (by decide) rfl (fun ls hl => ?_)
    refine lv_goto (tgt := 45) hx hb dX1_plan_96 (by decide) ?_
    exact ih45_ vd vh vl vk (x4 + 1) hE _ _ _ hW (lv_sub hl [1, 2, 0] rfl)
  have n45 :  ∀ (n : Nat), ∀ (vd : cr_V) (vh : cr_V) (vl : cr_V) (vk : cr_V) (x4 : Int32) (hE : f_X1_plan_45  n vd vh vl vk x4 = some out) (H : Heap) (locs : List Loc) (ls : Array Slot) (hW : cr_wd D A s (cr_wD ct ad vd ++ cr_wH ct ah al ak vh vl vk) H locs) (hl : lv_has ls 6 [(0, .ref (ad 0)), (1, .ref (ah 0)), (4, .int x4)]), W p L e ({ frames := 2, cells := 0, slots := 0, locals := 49 } : Room) s m args below meth c H locs 0 0 (MQ below (va_Qv (fun u : cr_V => u = out) (fun u t => cr_at D A ((fun u : cr_V => cr_wD ct ad u ++ cr_wH ct ah al ak vh vl vk) u) t) A) args s 0 0 A) (F0 m 45 ls []) := by
    intro  n
    induction n with
    | zero =>
      intro vd vh vl vk x4 hE
      cases hE
    | succ n ih =>
      intro vd vh vl vk x4 hE H locs ls hW hl
      replace hE : (if 12 ≤ x4 then (some vd) else (if (vd 3 0) ≤ 0 then (some vd) else ((f_X1_rowOfGreatestGain vd (vl 4 0)).bind fun q3 => if q3 < 0 then (f_X1_plan_93 (f_X1_plan_45 n) vd vh vl vk x4) else (if cr_in q3 12 = true then (f_X1_take vd q3 (vl 1 (cr_x q3))).bind fun q6 => f_X1_plan_93 (f_X1_plan_45 n) q6 vh vl vk x4 else none)))) = some out := hE
      refine lv_iload hx hb dX1_plan_45 (lv_at hl 2 rfl) ?_
      refine lv_bipush (v := 12) hx hb dX1_plan_47 (by decide) ?_
      refine lv_icmp_ge (tgt := 99) hx hb dX1_plan_49 (by decide) (fun c1 => ?_) (fun c1 => ?_)
      · rw [if_pos c1] at hE
        exact cr_retV C (w := (fun u : cr_V => cr_wD ct ad u ++ cr_wH ct ah al ak vh vl vk)) vd hW (Option.some.inj hE) dX1_plan_99
      · rw [if_neg c1] at hE
        refine lv_aload_n hx hb dX1_plan_52 rfl (lv_at hl 0 rfl) ?_
        refine cr_get C hW.1 0 rfl rfl 3 (by decide) hinX1 k0 (v := .int (vd 3 0)) rfl dX1_plan_53 ?_
        refine lv_if_le (tgt := 99) hx hb dX1_plan_56 (by decide) (fun c2 => ?_) (fun c2 => ?_)
        · rw [if_pos c2] at hE
          exact cr_retV C (w := (fun u : cr_V => cr_wD ct ad u ++ cr_wH ct ah al ak vh vl vk)) vd hW (Option.some.inj hE) dX1_plan_99
        · rw [if_neg c2] at hE
          refine lv_aload_n hx hb dX1_plan_59 rfl (lv_at hl 0 rfl) ?_
          refine lv_aload_n hx hb dX1_plan_60 rfl (lv_at hl 1 rfl) ?_
          refine cr_get C hW.1 7 rfl rfl 0 (by decide) hinX3 k1 (v := .ref (al 0)) rfl dX1_plan_61 ?_
          refine cr_get C hW.1 10 rfl rfl 4 (by decide) hinX4 k2 (v := .int (vl 4 0)) rfl dX1_plan_64 ?_
          obtain ⟨q3, hq3, hE⟩ := cr_bind hE
          refine cr_vRwq (n := 1) (As := [.int (vl 4 0)]) (rest := []) C hW (m_X1_rowOfGreatestGain L D ct ad vd (vl 4 0) q3 hq3) (cwV 1 hts gX1_plan_X1_rowOfGreatestGain rfl rfl rfl (by decide +kernel) ⟨Nat.le_of_ble_eq_true rfl, Nat.le_of_ble_eq_true rfl⟩) [0, 1, 2, 3, 4, 5, 6] rfl 0 rfl rfl rfl hl.1 rfl (Nat.le_of_ble_eq_true rfl) dX1_plan_67 ⟨Nat.zero_le _, Nat.zero_le _⟩ (fun H locs hW => ?_)
          refine lv_istore (lv' := [(5, .int q3), (0, .ref (ad 0)), (1, .ref (ah 0)), (4, .int x4)]) hx hb dX1_plan_70 hl (by decide) rfl (fun ls hl => ?_)
          refine lv_iload hx hb dX1_plan_72 (lv_at hl 0 rfl) ?_
          refine lv_if_lt (tgt := 93) hx hb dX1_plan_74 (by decide) (fun c4 => ?_) (fun c4 => ?_)
          · rw [if_pos c4] at hE
            exact n93 (f_X1_plan_45 n) ih vd vh vl vk x4 hE _ _ _ hW (lv_sub hl [1, 2, 3] rfl)
          · rw [if_neg c4] at hE
            refine lv_aload_n hx hb dX1_plan_77 rfl (lv_at hl 1 rfl) ?_
            refine lv_iload hx hb dX1_plan_78 (lv_at hl 0 rfl) ?_
            refine lv_aload_n hx hb dX1_plan_80 rfl (lv_at hl 2 rfl) ?_
            refine cr_get C hW.1 7 rfl rfl 0 (by decide) hinX3 k1 (v := .ref (al 0)) rfl dX1_plan_81 ?_
            refine cr_get C hW.1 10 rfl rfl 1 (by decide) hinX4 k3 (v := .ref (al 2)) rfl dX1_plan_84 ?_
            refine lv_iload hx hb dX1_plan_87 (lv_at hl 0 rfl) ?_
            obtain ⟨i5, hE⟩ := cr_ifn hE
            refine cr_ald C hW.1 12 (f := vl 1) (k := cr_x q3) rfl i5 (cr_xe _) dX1_plan_89 ?_
            obtain ⟨q6, hq6, hE⟩ := cr_bind hE
            refine cr_vVq (n := 2) (As := [.int q3, .int (vl 1 (cr_x q3))]) (rest := []) C hW (m_X1_take L D ct ad vd q3 (vl 1 (cr_x q3)) _ q6 hq6) (cwV 2 hts gX1_plan_X1_take rfl rfl rfl (by decide +kernel) ⟨Nat.le_of_ble_eq_true rfl, Nat.le_of_ble_eq_true rfl⟩) [0, 1, 2, 3, 4, 5, 6] [7, 8, 9, 10, 11, 12, 13, 14, 15, 16, 17] [11, 12, 13, 14, 15, 16, 17, 0, 1, 2, 3, 4, 5, 6, 7, 8, 9, 10] (cr_wD ct ad q6 ++ cr_wH ct ah al ak vh vl vk) rfl rfl rfl ⟨by decide +kernel, by decide +kernel, by decide +kernel, by decide +kernel⟩ 0 rfl rfl rfl hl.1 rfl (Nat.le_of_ble_eq_true rfl) dX1_plan_90 ⟨Nat.zero_le _, Nat.zero_le _⟩ (fun H locs hW => ?_)
            exact n93 (f_X1_plan_45 n) ih q6 vh vl vk x4 hE _ _ _ hW (lv_sub hl [1, 2, 3] rfl)
  replace hE : ((f_X1_rate vd vh vl vk x2 x3).bind fun q7 => f_X1_plan_45 10100 (cr_i (cr_i (cr_i (cr_i (cr_i (cr_i q7 2 0) 3 (vh 3 0)) 4 0) 5 0) 6 0) 7 0) vh vl vk 0) = some out := hE
  refine lv_aload_n hx hb dX1_plan_0 rfl (lv_at hl 0 rfl) ?_
  refine lv_aload_n hx hb dX1_plan_1 rfl (lv_at hl 1 rfl) ?_
  refine lv_iload_n hx hb dX1_plan_2 rfl (lv_at hl 2 rfl) ?_
  refine lv_iload_n hx hb dX1_plan_3 rfl (lv_at hl 3 rfl) ?_
  obtain ⟨q7, hq7, hE⟩ := cr_bind hE
  refine cr_vVq (n := 3) (As := [.ref (ah 0), .int x2, .int x3]) (rest := []) C hW (m_X1_rate L D ct ad ah al ak vd vh vl vk x2 x3 _ q7 hq7) (cwV 3 hts gX1_plan_X1_rate rfl rfl rfl (by decide +kernel) ⟨Nat.le_of_ble_eq_true rfl, Nat.le_of_ble_eq_true rfl⟩) [0, 1, 2, 3, 4, 5, 6, 7, 8, 9, 10, 11, 12, 13, 14, 15, 16, 17] [] [0, 1, 2, 3, 4, 5, 6, 7, 8, 9, 10, 11, 12, 13, 14, 15, 16, 17] (cr_wD ct ad q7 ++ cr_wH ct ah al ak vh vl vk) rfl rfl rfl ⟨by decide +kernel, by decide +kernel, by decide +kernel, by decide +kernel⟩ 0 rfl rfl rfl hl.1 rfl (Nat.le_of_ble_eq_true rfl) dX1_plan_4 ⟨Nat.zero_le _, Nat.zero_le _⟩ (fun H locs hW => ?_)
  refine lv_aload_n hx hb dX1_plan_7 rfl (lv_at hl 0 rfl) ?_
  refine lv_iconst (v := 0) hx hb dX1_plan_8 (by decide) ?_
  refine cr_put C hW 0 rfl rfl tyX1 tyX1_ok nmX1 2 (by decide) hinX1 k4 rfl rfl rfl rfl (Nat.le_of_ble_eq_true rfl) (w' := cr_wD ct ad (cr_i q7 2 0) ++ cr_wH ct ah al ak vh vl vk) rfl dX1_plan_9 (fun H locs hW => ?_)
  refine lv_aload_n hx hb dX1_plan_12 rfl (lv_at hl 0 rfl) ?_
  refine lv_aload_n hx hb dX1_plan_13 rfl (lv_at hl 1 rfl) ?_
  refine cr_get C hW.1 7 rfl rfl 3 (by decide) hinX3 k5 (v := .ref (ah 4)) rfl dX1_plan_14 ?_
  refine lv_iconst (v := 0) hx hb dX1_plan_17 (by decide) ?_
  refine cr_ald C hW.1 9 (f := vh 3) (k := 0) rfl (by decide) (by decide) dX1_plan_18 ?_
  refine cr_put C hW 0 rfl rfl tyX1 tyX1_ok nmX1 3 (by decide) hinX1 k0 rfl rfl rfl rfl (Nat.le_of_ble_eq_true rfl) (w' := cr_wD ct ad (cr_i (cr_i q7 2 0) 3 (vh 3 0)) ++ cr_wH ct ah al ak vh vl vk) rfl dX1_plan_19 (fun H locs hW => ?_)
  refine lv_aload_n hx hb dX1_plan_22 rfl (lv_at hl 0 rfl) ?_
  refine lv_iconst (v := 0) hx hb dX1_plan_23 (by decide) ?_
  refine cr_put C hW 0 rfl rfl tyX1 tyX1_ok nmX1 4 (by decide) hinX1 k6 rfl rfl rfl rfl (Nat.le_of_ble_eq_true rfl) (w' := cr_wD ct ad (cr_i (cr_i (cr_i q7 2 0) 3 (vh 3 0)) 4 0) ++ cr_wH ct ah al ak vh vl vk) rfl dX1_plan_24 (fun H locs hW => ?_)
  refine lv_aload_n hx hb dX1_plan_27 rfl (lv_at hl 0 rfl) ?_
  refine lv_iconst (v := 0) hx hb dX1_plan_28 (by decide) ?_
  refine cr_put C hW 0 rfl rfl tyX1 tyX1_ok nmX1 5 (by decide) hinX1 k7 rfl rfl rfl rfl (Nat.le_of_ble_eq_true rfl) (w' := cr_wD ct ad (cr_i (cr_i (cr_i (cr_i q7 2 0) 3 (vh 3 0)) 4 0) 5 0) ++ cr_wH ct ah al ak vh vl vk) rfl dX1_plan_29 (fun H locs hW => ?_)
  refine lv_aload_n hx hb dX1_plan_32 rfl (lv_at hl 0 rfl) ?_
  refine lv_iconst (v := 0) hx hb dX1_plan_33 (by decide) ?_
  refine cr_put C hW 0 rfl rfl tyX1 tyX1_ok nmX1 6 (by decide) hinX1 k8 rfl rfl rfl rfl (Nat.le_of_ble_eq_true rfl) (w' := cr_wD ct ad (cr_i (cr_i (cr_i (cr_i (cr_i q7 2 0) 3 (vh 3 0)) 4 0) 5 0) 6 0) ++ cr_wH ct ah al ak vh vl vk) rfl dX1_plan_34 (fun H locs hW => ?_)
  refine lv_aload_n hx hb dX1_plan_37 rfl (lv_at hl 0 rfl) ?_
  refine lv_iconst (v := 0) hx hb dX1_plan_38 (by decide) ?_
  refine cr_put C hW 0 rfl rfl tyX1 tyX1_ok nmX1 7 (by decide) hinX1 k9 rfl rfl rfl rfl (Nat.le_of_ble_eq_true rfl) (w' := cr_wD ct ad (cr_i (cr_i (cr_i (cr_i (cr_i (cr_i q7 2 0) 3 (vh 3 0)) 4 0) 5 0) 6 0) 7 0) ++ cr_wH ct ah al ak vh vl vk) rfl dX1_plan_39 (fun H locs hW => ?_)
  refine lv_iconst (v := 0) hx hb dX1_plan_42 (by decide) ?_
  refine lv_istore (lv' := [(4, .int 0), (0, .ref (ad 0)), (1, .ref (ah 0)), (2, .int x2), (3, .int x3)]) hx hb dX1_plan_43 hl (by decide) rfl (fun ls hl => ?_)
  exact n45 10100 (cr_i (cr_i (cr_i (cr_i (cr_i (cr_i q7 2 0) 3 (vh 3 0)) 4 0) 5 0) 6 0) 7 0) vh vl vk 0 hE _ _ _ hW (lv_sub hl [1, 2, 0] rfl)

set_option maxHeartbeats 4000000 in
set_option maxRecDepth 100000 in
theorem m_X3_copyFrom (L : Launch) (D : va_G) (ct : Nat → ClassId) (ah : Nat → Nat) (al : Nat → Nat) (ak : Nat → Nat) (ah2 : Nat → Nat) (al2 : Nat → Nat) (ak2 : Nat → Nat) (vh : cr_V) (vl : cr_V) (vk : cr_V) (vh2 : cr_V) (vl2 : cr_V) (vk2 : cr_V)  (sz : Nat) (out : cr_V × cr_V × cr_V) (hE : f_X3_copyFrom vh vl vk vh2 vl2 vk2 = some out) : Met L yX3_copyFrom wsX3_copyFrom ({ frames := 1, cells := 0, slots := 0, locals := 22 } : Room) (cr_pW D ct (cr_wH ct ah al ak vh vl vk ++ cr_wH ct ah2 al2 ak2 vh2 vl2 vk2) sz [.ref (ah 0), .ref (ah2 0)]) (cr_QV D (cr_wH ct ah al ak vh vl vk ++ cr_wH ct ah2 al2 ak2 vh2 vl2 vk2) sz (fun u : cr_V × cr_V × cr_V => u = out) (fun u : cr_V × cr_V × cr_V => cr_wH ct ah al ak u.1 u.2.1 u.2.2 ++ cr_wH ct ah2 al2 ak2 vh2 vl2 vk2)) 0 0 (va_A (cr_wH ct ah al ak vh vl vk ++ cr_wH ct ah2 al2 ak2 vh2 vl2 vk2) sz) := by
  have k0 : (Cond.fieldLink RX3 50 "CupReceipts$House" "month" "I") ∈ wsX3_copyFrom := List.mem_of_getElem? (i := 5) rfl
  have k1 : (Cond.fieldLink RX3 54 "CupReceipts$House" "account" "I") ∈ wsX3_copyFrom := List.mem_of_getElem? (i := 6) rfl
  have k2 : (Cond.fieldLink RX3 57 "CupReceipts$House" "contractsMet" "I") ∈ wsX3_copyFrom := List.mem_of_getElem? (i := 7) rfl
  have k3 : (Cond.fieldLink RX3 60 "CupReceipts$House" "contractsFailed" "I") ∈ wsX3_copyFrom := List.mem_of_getElem? (i := 8) rfl
  have k4 : (Cond.fieldLink RX3 63 "CupReceipts$House" "bagsGiven" "I") ∈ wsX3_copyFrom := List.mem_of_getElem? (i := 9) rfl
  have k5 : (Cond.fieldLink RX3 40 "CupReceipts$House" "settings" "[I") ∈ wsX3_copyFrom := List.mem_of_getElem? (i := 4) rfl
  have k6 : (Cond.fieldLink RX3 34 "CupReceipts$House" "worths" "[I") ∈ wsX3_copyFrom := List.mem_of_getElem? (i := 3) rfl
  have k7 : (Cond.fieldLink RX3 12 "CupReceipts$House" "lots" "LCupReceipts$Lots;") ∈ wsX3_copyFrom := List.mem_of_getElem? (i := 1) rfl
  have k8 : (Cond.fieldLink RX3 21 "CupReceipts$House" "contracts" "LCupReceipts$Contracts;") ∈ wsX3_copyFrom := List.mem_of_getElem? (i := 2) rfl
  have hinX3 : ∀ w ∈ wsX30, w ∈ wsX3_copyFrom := fun w h => List.mem_cons_of_mem _ (List.mem_append_left _ (List.mem_append_left _ (List.mem_append_right _ h)))
  refine cr_metW (Qc := fun A => va_Qv (fun u : cr_V × cr_V × cr_V => u = out) (fun u t => cr_at D A ((fun u : cr_V × cr_V × cr_V => cr_wH ct ah al ak u.1 u.2.1 u.2.2 ++ cr_wH ct ah2 al2 ak2 vh2 vl2 vk2) u) t) A) (by decide) rfl rfl (Nat.le_of_ble_eq_true rfl) ?_
  intro p e s m args below meth c ls A C hW hl
  obtain ⟨hx, hb, hml, hown, hts, hr, hlocks, hK, hN⟩ := id C
  have hl : lv_has ls 3 [(0, .ref (ah 0)), (1, .ref (ah2 0))] := hl
  have n49 :  ∀ (n : Nat), ∀ (vh : cr_V) (vl : cr_V) (vk : cr_V) (vh2 : cr_V) (vl2 : cr_V) (vk2 : cr_V) (x2 : Int32) (hE : f_X3_copyFrom_49  n vh vl vk vh2 vl2 vk2 x2 = some out) (H : Heap) (locs : List Loc) (ls : Array Slot) (hW : cr_wd D A s (cr_wH ct ah al ak vh vl vk ++ cr_wH ct ah2 al2 ak2 vh2 vl2 vk2) H locs) (hl : lv_has ls 3 [(0, .ref (ah 0)), (1, .ref (ah2 0)), (2, .int x2)]), W p L e ({ frames := 1, cells := 0, slots := 0, locals := 22 } : Room) s m args below meth c H locs 0 0 (MQ below (va_Qv (fun u : cr_V × cr_V × cr_V => u = out) (fun u t => cr_at D A ((fun u : cr_V × cr_V × cr_V => cr_wH ct ah al ak u.1 u.2.1 u.2.2 ++ cr_wH ct ah2 al2 ak2 vh2 vl2 vk2) u) t) A) args s 0 0 A) (F0 m 49 ls []) := by
    intro  n
    induction n with
    | zero =>
      intro vh vl vk vh2 vl2 vk2 x2 hE
      cases hE
    | succ n ih =>
      intro vh vl vk vh2 vl2 vk2 x2 hE H locs ls hW hl
      replace hE : (if 5 ≤ x2 then (some (cr_i (cr_i (cr_i (cr_i (cr_i vh 4 (vh2 4 0)) 5 (vh2 5 0)) 6 (vh2 6 0)) 7 (vh2 7 0)) 8 (vh2 8 0), vl, vk)) else (if cr_in x2 5 = true then f_X3_copyFrom_49 n (cr_a vh 3 (cr_x x2) (vh2 3 (cr_x x2))) vl vk vh2 vl2 vk2 (x2 + 1) else none)) = some out := hE
      refine lv_iload_n hx hb dX3_copyFrom_49 rfl (lv_at hl 2 rfl) ?_
      refine lv_iconst (v := 5) hx hb dX3_copyFrom_50 (by decide) ?_
      refine lv_icmp_ge (tgt := 72) hx hb dX3_copyFrom_51 (by decide) (fun c1 => ?_) (fun c1 => ?_)
      · rw [if_pos c1] at hE
        refine lv_aload_n hx hb dX3_copyFrom_72 rfl (lv_at hl 0 rfl) ?_
        refine lv_aload_n hx hb dX3_copyFrom_73 rfl (lv_at hl 1 rfl) ?_
        refine cr_get C hW.1 11 rfl rfl 4 (by decide) hinX3 k0 (v := .int (vh2 4 0)) rfl dX3_copyFrom_74 ?_
        refine cr_put C hW 0 rfl rfl tyX3 tyX3_ok nmX3 4 (by decide) hinX3 k0 rfl rfl rfl rfl (Nat.le_of_ble_eq_true rfl) (w' := cr_wH ct ah al ak (cr_i vh 4 (vh2 4 0)) vl vk ++ cr_wH ct ah2 al2 ak2 vh2 vl2 vk2) rfl dX3_copyFrom_77 (fun H locs hW => ?_)
        refine lv_aload_n hx hb dX3_copyFrom_80 rfl (lv_at hl 0 rfl) ?_
        refine lv_aload_n hx hb dX3_copyFrom_81 rfl (lv_at hl 1 rfl) ?_
        refine cr_get C hW.1 11 rfl rfl 5 (by decide) hinX3 k1 (v := .int (vh2 5 0)) rfl dX3_copyFrom_82 ?_
        refine cr_put C hW 0 rfl rfl tyX3 tyX3_ok nmX3 5 (by decide) hinX3 k1 rfl rfl rfl rfl (Nat.le_of_ble_eq_true rfl) (w' := cr_wH ct ah al ak (cr_i (cr_i vh 4 (vh2 4 0)) 5 (vh2 5 0)) vl vk ++ cr_wH ct ah2 al2 ak2 vh2 vl2 vk2) rfl dX3_copyFrom_85 (fun H locs hW => ?_)
        refine lv_aload_n hx hb dX3_copyFrom_88 rfl (lv_at hl 0 rfl) ?_
        refine lv_aload_n hx hb dX3_copyFrom_89 rfl (lv_at hl 1 rfl) ?_
        refine cr_get C hW.1 11 rfl rfl 6 (by decide) hinX3 k2 (v := .int (vh2 6 0)) rfl dX3_copyFrom_90 ?_
        refine cr_put C hW 0 rfl rfl tyX3 tyX3_ok nmX3 6 (by decide) hinX3 k2 rfl rfl rfl rfl (Nat.le_of_ble_eq_true rfl) (w' := cr_wH ct ah al ak (cr_i (cr_i (cr_i vh 4 (vh2 4 0)) 5 (vh2 5 0)) 6 (vh2 6 0)) vl vk ++ cr_wH ct ah2 al2 ak2 vh2 vl2 vk2) rfl dX3_copyFrom_93 (fun H locs hW => ?_)
        refine lv_aload_n hx hb dX3_copyFrom_96 rfl (lv_at hl 0 rfl) ?_
        refine lv_aload_n hx hb dX3_copyFrom_97 rfl (lv_at hl 1 rfl) ?_
        refine cr_get C hW.1 11 rfl rfl 7 (by decide) hinX3 k3 (v := .int (vh2 7 0)) rfl dX3_copyFrom_98 ?_
        refine cr_put C hW 0 rfl rfl tyX3 tyX3_ok nmX3 7 (by decide) hinX3 k3 rfl rfl rfl rfl (Nat.le_of_ble_eq_true rfl) (w' := cr_wH ct ah al ak (cr_i (cr_i (cr_i (cr_i vh 4 (vh2 4 0)) 5 (vh2 5 0)) 6 (vh2 6 0)) 7 (vh2 7 0)) vl vk ++ cr_wH ct ah2 al2 ak2 vh2 vl2 vk2) rfl dX3_copyFrom_101 (fun H locs hW => ?_)
        refine lv_aload_n hx hb dX3_copyFrom_104 rfl (lv_at hl 0 rfl) ?_
        refine lv_aload_n hx hb dX3_copyFrom_105 rfl (lv_at hl 1 rfl) ?_
        refine cr_get C hW.1 11 rfl rfl 8 (by decide) hinX3 k4 (v := .int (vh2 8 0)) rfl dX3_copyFrom_106 ?_
        refine cr_put C hW 0 rfl rfl tyX3 tyX3_ok nmX3 8 (by decide) hinX3 k4 rfl rfl rfl rfl (Nat.le_of_ble_eq_true rfl) (w' := cr_wH ct ah al ak (cr_i (cr_i (cr_i (cr_i (cr_i vh 4 (vh2 4 0)) 5 (vh2 5 0)) 6 (vh2 6 0)) 7 (vh2 7 0)) 8 (vh2 8 0)) vl vk ++ cr_wH ct ah2 al2 ak2 vh2 vl2 vk2) rfl dX3_copyFrom_109 (fun H locs hW => ?_)
        exact cr_retV C (w := (fun u : cr_V × cr_V × cr_V => cr_wH ct ah al ak u.1 u.2.1 u.2.2 ++ cr_wH ct ah2 al2 ak2 vh2 vl2 vk2)) (cr_i (cr_i (cr_i (cr_i (cr_i vh 4 (vh2 4 0)) 5 (vh2 5 0)) 6 (vh2 6 0)) 7 (vh2 7 0)) 8 (vh2 8 0), vl, vk) hW (Option.some.inj hE) dX3_copyFrom_112
      · rw [if_neg c1] at hE
        refine lv_aload_n hx hb dX3_copyFrom_54 rfl (lv_at hl 0 rfl) ?_
        refine cr_get C hW.1 0 rfl rfl 3 (by decide) hinX3 k5 (v := .ref (ah 4)) rfl dX3_copyFrom_55 ?_
        refine lv_iload_n hx hb dX3_copyFrom_58 rfl (lv_at hl 2 rfl) ?_
        refine lv_aload_n hx hb dX3_copyFrom_59 rfl (lv_at hl 1 rfl) ?_
        refine cr_get C hW.1 11 rfl rfl 3 (by decide) hinX3 k5 (v := .ref (ah2 4)) rfl dX3_copyFrom_60 ?_
        refine lv_iload_n hx hb dX3_copyFrom_63 rfl (lv_at hl 2 rfl) ?_
        obtain ⟨i2, hE⟩ := cr_ifn hE
        refine cr_ald C hW.1 13 (f := vh2 3) (k := cr_x x2) rfl i2 (cr_xe _) dX3_copyFrom_64 ?_
        refine cr_ast C hW 2 rfl (k := (cr_x x2)) i2 (cr_xe _) (w' := cr_wH ct ah al ak (cr_a vh 3 (cr_x x2) (vh2 3 (cr_x x2))) vl vk ++ cr_wH ct ah2 al2 ak2 vh2 vl2 vk2) rfl dX3_copyFrom_65 (fun H locs hW => ?_)
        refine lv_iinc (v := x2 + 1) (lv' := [(2, .int (x2 + 1)), (0, .ref (ah 0)), (1, .ref (ah2 0))]) hx hb dX3_copyFrom_66 hl (k := 2) rfl (by first | rfl | decide) (by decide) rfl (fun ls hl => ?_)
        refine lv_goto (tgt := 49) hx hb dX3_copyFrom_69 (by decide) ?_
        exact ih (cr_a vh 3 (cr_x x2) (vh2 3 (cr_x x2))) vl vk vh2 vl2 vk2 (x2 + 1) hE _ _ _ hW (lv_sub hl [1, 2, 0] rfl)
  have n24 :  ∀ (n : Nat), ∀ (vh : cr_V) (vl : cr_V) (vk : cr_V) (vh2 : cr_V) (vl2 : cr_V) (vk2 : cr_V) (x2 : Int32) (hE : f_X3_copyFrom_24  n vh vl vk vh2 vl2 vk2 x2 = some out) (H : Heap) (locs : List Loc) (ls : Array Slot) (hW : cr_wd D A s (cr_wH ct ah al ak vh vl vk ++ cr_wH ct ah2 al2 ak2 vh2 vl2 vk2) H locs) (hl : lv_has ls 3 [(0, .ref (ah 0)), (1, .ref (ah2 0)), (2, .int x2)]), W p L e ({ frames := 1, cells := 0, slots := 0, locals := 22 } : Room) s m args below meth c H locs 0 0 (MQ below (va_Qv (fun u : cr_V × cr_V × cr_V => u = out) (fun u t => cr_at D A ((fun u : cr_V × cr_V × cr_V => cr_wH ct ah al ak u.1 u.2.1 u.2.2 ++ cr_wH ct ah2 al2 ak2 vh2 vl2 vk2) u) t) A) args s 0 0 A) (F0 m 24 ls []) := by
    intro  n
    induction n with
    | zero =>
      intro vh vl vk vh2 vl2 vk2 x2 hE
      cases hE
    | succ n ih =>
      intro vh vl vk vh2 vl2 vk2 x2 hE H locs ls hW hl
      replace hE : (if 4 ≤ x2 then (f_X3_copyFrom_49 10100 vh vl vk vh2 vl2 vk2 0) else (if cr_in x2 4 = true then f_X3_copyFrom_24 n (cr_a vh 2 (cr_x x2) (vh2 2 (cr_x x2))) vl vk vh2 vl2 vk2 (x2 + 1) else none)) = some out := hE
      refine lv_iload_n hx hb dX3_copyFrom_24 rfl (lv_at hl 2 rfl) ?_
      refine lv_iconst (v := 4) hx hb dX3_copyFrom_25 (by decide) ?_
      refine lv_icmp_ge (tgt := 47) hx hb dX3_copyFrom_26 (by decide) (fun c3 => ?_) (fun c3 => ?_)
      · rw [if_pos c3] at hE
        refine lv_iconst (v := 0) hx hb dX3_copyFrom_47 (by decide) ?_
        refine lv_istore_n (lv' := [(2, .int 0), (0, .ref (ah 0)), (1, .ref (ah2 0))]) hx hb dX3_copyFrom_48 rfl hl (by decide) rfl (fun ls hl => ?_)
        exact n49 10100 vh vl vk vh2 vl2 vk2 0 hE _ _ _ hW (lv_sub hl [1, 2, 0] rfl)
      · rw [if_neg c3] at hE
        refine lv_aload_n hx hb dX3_copyFrom_29 rfl (lv_at hl 0 rfl) ?_
        refine cr_get C hW.1 0 rfl rfl 2 (by decide) hinX3 k6 (v := .ref (ah 3)) rfl dX3_copyFrom_30 ?_
        refine lv_iload_n hx hb dX3_copyFrom_33 rfl (lv_at hl 2 rfl) ?_
        refine lv_aload_n hx hb dX3_copyFrom_34 rfl (lv_at hl 1 rfl) ?_
        refine cr_get C hW.1 11 rfl rfl 2 (by decide) hinX3 k6 (v := .ref (ah2 3)) rfl dX3_copyFrom_35 ?_
        refine lv_iload_n hx hb dX3_copyFrom_38 rfl (lv_at hl 2 rfl) ?_
        obtain ⟨i4, hE⟩ := cr_ifn hE
        refine cr_ald C hW.1 12 (f := vh2 2) (k := cr_x x2) rfl i4 (cr_xe _) dX3_copyFrom_39 ?_
        refine cr_ast C hW 1 rfl (k := (cr_x x2)) i4 (cr_xe _) (w' := cr_wH ct ah al ak (cr_a vh 2 (cr_x x2) (vh2 2 (cr_x x2))) vl vk ++ cr_wH ct ah2 al2 ak2 vh2 vl2 vk2) rfl dX3_copyFrom_40 (fun H locs hW => ?_)
        refine lv_iinc (v := x2 + 1) (lv' := [(2, .int (x2 + 1)), (0, .ref (ah 0)), (1, .ref (ah2 0))]) hx hb dX3_copyFrom_41 hl (k := 2) rfl (by first | rfl | decide) (by decide) rfl (fun ls hl => ?_)
        refine lv_goto (tgt := 24) hx hb dX3_copyFrom_44 (by decide) ?_
        exact ih (cr_a vh 2 (cr_x x2) (vh2 2 (cr_x x2))) vl vk vh2 vl2 vk2 (x2 + 1) hE _ _ _ hW (lv_sub hl [1, 2, 0] rfl)
  replace hE : ((f_X4_copyFrom vl vl2).bind fun q5 => (f_X0_copyFrom vk vk2).bind fun q6 => f_X3_copyFrom_24 10100 vh q5 q6 vh2 vl2 vk2 0) = some out := hE
  refine lv_aload_n hx hb dX3_copyFrom_0 rfl (lv_at hl 0 rfl) ?_
  refine cr_get C hW.1 0 rfl rfl 0 (by decide) hinX3 k7 (v := .ref (al 0)) rfl dX3_copyFrom_1 ?_
  refine lv_aload_n hx hb dX3_copyFrom_4 rfl (lv_at hl 1 rfl) ?_
  refine cr_get C hW.1 11 rfl rfl 0 (by decide) hinX3 k7 (v := .ref (al2 0)) rfl dX3_copyFrom_5 ?_
  obtain ⟨q5, hq5, hE⟩ := cr_bind hE
  refine cr_vVq (n := 1) (As := [.ref (al2 0)]) (rest := []) C hW (m_X4_copyFrom L D ct al al2 vl vl2 _ q5 hq5) (cwV 1 hts gX3_copyFrom_X4_copyFrom rfl rfl rfl (by decide +kernel) ⟨Nat.le_of_ble_eq_true rfl, Nat.le_of_ble_eq_true rfl⟩) [3, 4, 5, 6, 7, 14, 15, 16, 17, 18] [0, 1, 2, 8, 9, 10, 11, 12, 13, 19, 20, 21] [0, 1, 2, 12, 13, 14, 15, 16, 3, 4, 5, 6, 7, 8, 17, 18, 19, 20, 21, 9, 10, 11] (cr_wH ct ah al ak vh q5 vk ++ cr_wH ct ah2 al2 ak2 vh2 vl2 vk2) rfl rfl rfl ⟨by decide +kernel, by decide +kernel, by decide +kernel, by decide +kernel⟩ 3 rfl rfl rfl hl.1 rfl (Nat.le_of_ble_eq_true rfl) dX3_copyFrom_8 ⟨Nat.zero_le _, Nat.zero_le _⟩ (fun H locs hW => ?_)
  refine lv_aload_n hx hb dX3_copyFrom_11 rfl (lv_at hl 0 rfl) ?_
  refine cr_get C hW.1 0 rfl rfl 1 (by decide) hinX3 k8 (v := .ref (ak 0)) rfl dX3_copyFrom_12 ?_
  refine lv_aload_n hx hb dX3_copyFrom_15 rfl (lv_at hl 1 rfl) ?_
  refine cr_get C hW.1 11 rfl rfl 1 (by decide) hinX3 k8 (v := .ref (ak2 0)) rfl dX3_copyFrom_16 ?_
  obtain ⟨q6, hq6, hE⟩ := cr_bind hE
  refine cr_vVq (n := 1) (As := [.ref (ak2 0)]) (rest := []) C hW (m_X0_copyFrom L D ct ak ak2 vk vk2 _ q6 hq6) (cwV 1 hts gX3_copyFrom_X0_copyFrom rfl rfl rfl (by decide +kernel) ⟨Nat.le_of_ble_eq_true rfl, Nat.le_of_ble_eq_true rfl⟩) [8, 9, 10, 19, 20, 21] [0, 1, 2, 3, 4, 5, 6, 7, 11, 12, 13, 14, 15, 16, 17, 18] [0, 1, 2, 3, 4, 5, 6, 7, 16, 17, 18, 8, 9, 10, 11, 12, 13, 14, 15, 19, 20, 21] (cr_wH ct ah al ak vh q5 q6 ++ cr_wH ct ah2 al2 ak2 vh2 vl2 vk2) rfl rfl rfl ⟨by decide +kernel, by decide +kernel, by decide +kernel, by decide +kernel⟩ 8 rfl rfl rfl hl.1 rfl (Nat.le_of_ble_eq_true rfl) dX3_copyFrom_19 ⟨Nat.zero_le _, Nat.zero_le _⟩ (fun H locs hW => ?_)
  refine lv_iconst (v := 0) hx hb dX3_copyFrom_22 (by decide) ?_
  refine lv_istore_n (lv' := [(2, .int 0), (0, .ref (ah 0)), (1, .ref (ah2 0))]) hx hb dX3_copyFrom_23 rfl hl (by decide) rfl (fun ls hl => ?_)
  exact n24 10100 vh q5 q6 vh2 vl2 vk2 0 hE _ _ _ hW (lv_sub hl [1, 2, 0] rfl)

set_option maxHeartbeats 4000000 in
set_option maxRecDepth 100000 in
theorem m_X6_isWithin (L : Launch) (D : va_G) (ct : Nat → ClassId)   (x0 : Int32) (x1 : Int32) (x2 : Int32) (out : Int32) (hE : f_X6_isWithin x0 x1 x2 = some out) : Met L yX6_isWithin wsX6_isWithin ({ frames := 0, cells := 0, slots := 0, locals := 0 } : Room) (cr_pR D ct ([]) [.int x0, .int x1, .int x2]) (cr_QR (fun r => r = out)) 0 0 cr_no := by
  refine cr_metR (by decide) rfl rfl (Nat.le_of_ble_eq_true rfl) ?_
  intro p e s m args below meth c ls C hP hS hl
  obtain ⟨hx, hb, hml, hown, hts, hr, hlocks, hK, hN⟩ := id C
  have hl : lv_has ls 3 [(0, .int x0), (1, .int x1), (2, .int x2)] := hl
  replace hE : (if x0 < x1 then (some 0) else (if x2 < x0 then (some 0) else (some 1))) = some out := hE
  refine lv_iload_n hx hb dX6_isWithin_0 rfl (lv_at hl 0 rfl) ?_
  refine lv_iload_n hx hb dX6_isWithin_1 rfl (lv_at hl 1 rfl) ?_
  refine lv_icmp_lt (tgt := 14) hx hb dX6_isWithin_2 (by decide) (fun c1 => ?_) (fun c1 => ?_)
  · rw [if_pos c1] at hE
    refine lv_iconst (v := 0) hx hb dX6_isWithin_14 (by decide) ?_
    exact cr_retRz C hS rfl (Option.some.inj hE) dX6_isWithin_15
  · rw [if_neg c1] at hE
    refine lv_iload_n hx hb dX6_isWithin_5 rfl (lv_at hl 0 rfl) ?_
    refine lv_iload_n hx hb dX6_isWithin_6 rfl (lv_at hl 2 rfl) ?_
    refine lv_icmp_gt (tgt := 14) hx hb dX6_isWithin_7 (by decide) (fun c2 => ?_) (fun c2 => ?_)
    · rw [if_pos c2] at hE
      refine lv_iconst (v := 0) hx hb dX6_isWithin_14 (by decide) ?_
      exact cr_retRz C hS rfl (Option.some.inj hE) dX6_isWithin_15
    · rw [if_neg c2] at hE
      refine lv_iconst (v := 1) hx hb dX6_isWithin_10 (by decide) ?_
      refine lv_goto (tgt := 15) hx hb dX6_isWithin_11 (by decide) ?_
      exact cr_retRz C hS rfl (Option.some.inj hE) dX6_isWithin_15

set_option maxHeartbeats 4000000 in
set_option maxRecDepth 100000 in
theorem m_X3_bringLot (L : Launch) (D : va_G) (ct : Nat → ClassId) (ah : Nat → Nat) (al : Nat → Nat) (ak : Nat → Nat) (vh : cr_V) (vl : cr_V) (vk : cr_V) (x1 : Int32) (x2 : Int32) (sz : Nat) (out : Int32 × cr_V) (hE : f_X3_bringLot vh vl vk x1 x2 = some out) : Met L yX3_bringLot wsX3_bringLot ({ frames := 2, cells := 0, slots := 0, locals := 43 } : Room) (cr_pW D ct (cr_wH ct ah al ak vh vl vk) sz [.ref (ah 0), .int x1, .int x2]) (cr_QW D (cr_wH ct ah al ak vh vl vk) sz (fun r (u : cr_V) => (r, u) = out) (fun u : cr_V => cr_wH ct ah al ak vh u vk)) 0 0 (va_A (cr_wH ct ah al ak vh vl vk) sz) := by
  have k0 : (Cond.initialized RX6) ∈ wsX3_bringLot := List.mem_of_getElem? (i := 5) rfl
  have k1 : (Cond.static yX6_isWithin) ∈ wsX3_bringLot := List.mem_of_getElem? (i := 4) rfl
  have k2 : (Cond.constant RX3 70 (-2000000001)) ∈ wsX3_bringLot := List.mem_of_getElem? (i := 1) rfl
  have k3 : (Cond.fieldLink RX3 12 "CupReceipts$House" "lots" "LCupReceipts$Lots;") ∈ wsX3_bringLot := List.mem_of_getElem? (i := 2) rfl
  have k4 : (Cond.fieldLink RX3 50 "CupReceipts$House" "month" "I") ∈ wsX3_bringLot := List.mem_of_getElem? (i := 3) rfl
  have hinX3 : ∀ w ∈ wsX30, w ∈ wsX3_bringLot := fun w h => List.mem_cons_of_mem _ (List.mem_append_left _ (List.mem_append_right _ h))
  refine cr_metW (Qc := fun A => va_Qi (fun r (u : cr_V) => (r, u) = out) (fun u t => cr_at D A ((fun u : cr_V => cr_wH ct ah al ak vh u vk) u) t) A) (by decide) rfl rfl (Nat.le_of_ble_eq_true rfl) ?_
  intro p e s m args below meth c ls A C hW hl
  obtain ⟨hx, hb, hml, hown, hts, hr, hlocks, hK, hN⟩ := id C
  have hl : lv_has ls 3 [(0, .ref (ah 0)), (1, .int x1), (2, .int x2)] := hl
  replace hE : ((f_X6_isWithin x1 1 999).bind fun q1 => if q1 = 0 then (some ((-2000000001), vl)) else ((f_X6_isWithin x2 60 100).bind fun q3 => if q3 = 0 then (some ((-2000000001), vl)) else ((f_X4_add vl x1 x2 (vh 4 0)).bind fun q5 => some (q5.1, q5.2)))) = some out := hE
  refine lv_iload_n hx hb dX3_bringLot_0 rfl (lv_at hl 1 rfl) ?_
  refine lv_iconst (v := 1) hx hb dX3_bringLot_1 (by decide) ?_
  refine lv_sipush (v := 999) hx hb dX3_bringLot_2 (by decide) ?_
  obtain ⟨q1, hq1, hE⟩ := cr_bind hE
  refine cr_nRwq (n := 3) (As := [.int x1, .int 1, .int 999]) (rest := []) C hW (m_X6_isWithin L D ct x1 1 999 q1 hq1) ⟨va_cnB 3 hts gX3_bringLot_X6_isWithin_n66 rfl rfl rfl hN.2.2.1 (hts _ k0) (by decide +kernel) ⟨Nat.le_of_ble_eq_true rfl, Nat.le_of_ble_eq_true rfl⟩, hts _ k1, trivial⟩ rfl hl.1 rfl (Nat.le_of_ble_eq_true rfl) dX3_bringLot_5 ⟨Nat.zero_le _, Nat.zero_le _⟩ (fun H locs hW => ?_)
  refine lv_if_eq (tgt := 22) hx hb dX3_bringLot_8 (by decide) (fun c2 => ?_) (fun c2 => ?_)
  · rw [if_pos c2] at hE
    refine cr_ldc C k2 dX3_bringLot_22 ?_
    exact cr_retW C (w := (fun u : cr_V => cr_wH ct ah al ak vh u vk)) vl hW (Option.some.inj hE) dX3_bringLot_24
  · rw [if_neg c2] at hE
    refine lv_iload_n hx hb dX3_bringLot_11 rfl (lv_at hl 2 rfl) ?_
    refine lv_bipush (v := 60) hx hb dX3_bringLot_12 (by decide) ?_
    refine lv_bipush (v := 100) hx hb dX3_bringLot_14 (by decide) ?_
    obtain ⟨q3, hq3, hE⟩ := cr_bind hE
    refine cr_nRwq (n := 3) (As := [.int x2, .int 60, .int 100]) (rest := []) C hW (m_X6_isWithin L D ct x2 60 100 q3 hq3) ⟨va_cnB 3 hts gX3_bringLot_X6_isWithin_n66 rfl rfl rfl hN.2.2.1 (hts _ k0) (by decide +kernel) ⟨Nat.le_of_ble_eq_true rfl, Nat.le_of_ble_eq_true rfl⟩, hts _ k1, trivial⟩ rfl hl.1 rfl (Nat.le_of_ble_eq_true rfl) dX3_bringLot_16 ⟨Nat.zero_le _, Nat.zero_le _⟩ (fun H locs hW => ?_)
    refine lv_if_ne (tgt := 25) hx hb dX3_bringLot_19 (by decide) (fun c4 => ?_) (fun c4 => ?_)
    · rw [if_neg c4] at hE
      refine lv_aload_n hx hb dX3_bringLot_25 rfl (lv_at hl 0 rfl) ?_
      refine cr_get C hW.1 0 rfl rfl 0 (by decide) hinX3 k3 (v := .ref (al 0)) rfl dX3_bringLot_26 ?_
      refine lv_iload_n hx hb dX3_bringLot_29 rfl (lv_at hl 1 rfl) ?_
      refine lv_iload_n hx hb dX3_bringLot_30 rfl (lv_at hl 2 rfl) ?_
      refine lv_aload_n hx hb dX3_bringLot_31 rfl (lv_at hl 0 rfl) ?_
      refine cr_get C hW.1 0 rfl rfl 4 (by decide) hinX3 k4 (v := .int (vh 4 0)) rfl dX3_bringLot_32 ?_
      obtain ⟨q5, hq5, hE⟩ := cr_bind hE
      refine cr_vWq (n := 3) (As := [.int x1, .int x2, .int (vh 4 0)]) (rest := []) C hW (m_X4_add L D ct al vl x1 x2 (vh 4 0) _ q5 hq5) (cwV 3 hts gX3_bringLot_X4_add rfl rfl rfl (by decide +kernel) ⟨Nat.le_of_ble_eq_true rfl, Nat.le_of_ble_eq_true rfl⟩) [3, 4, 5, 6, 7] [0, 1, 2, 8, 9, 10] [0, 1, 2, 6, 7, 8, 9, 10, 3, 4, 5] (cr_wH ct ah al ak vh q5.2 vk) rfl rfl rfl ⟨by decide +kernel, by decide +kernel, by decide +kernel, by decide +kernel⟩ 3 rfl rfl rfl hl.1 rfl (Nat.le_of_ble_eq_true rfl) dX3_bringLot_35 ⟨Nat.zero_le _, Nat.zero_le _⟩ (fun H locs hW => ?_)
      exact cr_retW C (w := (fun u : cr_V => cr_wH ct ah al ak vh u vk)) q5.2 hW (Option.some.inj hE) dX3_bringLot_38
    · rw [if_pos c4] at hE
      refine cr_ldc C k2 dX3_bringLot_22 ?_
      exact cr_retW C (w := (fun u : cr_V => cr_wH ct ah al ak vh u vk)) vl hW (Option.some.inj hE) dX3_bringLot_24

set_option maxHeartbeats 4000000 in
set_option maxRecDepth 100000 in
theorem m_X3_partLot (L : Launch) (D : va_G) (ct : Nat → ClassId) (ah : Nat → Nat) (al : Nat → Nat) (ak : Nat → Nat) (vh : cr_V) (vl : cr_V) (vk : cr_V) (x1 : Int32) (x2 : Int32) (sz : Nat) (out : Int32 × cr_V) (hE : f_X3_partLot vh vl vk x1 x2 = some out) : Met L yX3_partLot wsX3_partLot ({ frames := 2, cells := 0, slots := 0, locals := 43 } : Room) (cr_pW D ct (cr_wH ct ah al ak vh vl vk) sz [.ref (ah 0), .int x1, .int x2]) (cr_QW D (cr_wH ct ah al ak vh vl vk) sz (fun r (u : cr_V) => (r, u) = out) (fun u : cr_V => cr_wH ct ah al ak vh u vk)) 0 0 (va_A (cr_wH ct ah al ak vh vl vk) sz) := by
  have k0 : (Cond.fieldLink RX3 12 "CupReceipts$House" "lots" "LCupReceipts$Lots;") ∈ wsX3_partLot := List.mem_of_getElem? (i := 1) rfl
  have k1 : (Cond.constant RX3 70 (-2000000001)) ∈ wsX3_partLot := List.mem_of_getElem? (i := 2) rfl
  have k2 : (Cond.fieldLink RX3 79 "CupReceipts$Lots" "bags" "[I") ∈ wsX3_partLot := List.mem_of_getElem? (i := 3) rfl
  have k3 : (Cond.fieldLink RX3 88 "CupReceipts$Lots" "cups" "[I") ∈ wsX3_partLot := List.mem_of_getElem? (i := 6) rfl
  have k4 : (Cond.fieldLink RX3 91 "CupReceipts$Lots" "months" "[I") ∈ wsX3_partLot := List.mem_of_getElem? (i := 7) rfl
  have k5 : (Cond.constant RX3 87 (-2000000003)) ∈ wsX3_partLot := List.mem_of_getElem? (i := 5) rfl
  have k6 : (Cond.constant RX3 82 (-2000000002)) ∈ wsX3_partLot := List.mem_of_getElem? (i := 4) rfl
  have hinX3 : ∀ w ∈ wsX30, w ∈ wsX3_partLot := fun w h => List.mem_cons_of_mem _ (List.mem_append_left _ (List.mem_append_right _ h))
  have hinX4 : ∀ w ∈ wsX40, w ∈ wsX3_partLot := fun w h => List.mem_cons_of_mem _ (List.mem_append_right _ h)
  refine cr_metW (Qc := fun A => va_Qi (fun r (u : cr_V) => (r, u) = out) (fun u t => cr_at D A ((fun u : cr_V => cr_wH ct ah al ak vh u vk) u) t) A) (by decide) rfl rfl (Nat.le_of_ble_eq_true rfl) ?_
  intro p e s m args below meth c ls A C hW hl
  obtain ⟨hx, hb, hml, hown, hts, hr, hlocks, hK, hN⟩ := id C
  have hl : lv_has ls 4 [(0, .ref (ah 0)), (1, .int x1), (2, .int x2)] := hl
  replace hE : ((f_X4_rowOf vl x1).bind fun q1 => if q1 < 0 then (some ((-2000000001), vl)) else (if 1 ≤ x2 then (if cr_in q1 12 = true then if x2 < (vl 1 (cr_x q1)) then ((f_X4_isFull vl).bind fun q6 => if q6 = 0 then ((f_X4_add (cr_a vl 1 (cr_x q1) ((vl 1 (cr_x q1)) - x2)) x2 (vl 2 (cr_x q1)) (vl 3 (cr_x q1))).bind fun q8 => some (q8.1, q8.2)) else (some ((-2000000003), vl))) else (some ((-2000000002), vl)) else none) else (some ((-2000000001), vl)))) = some out := hE
  refine lv_aload_n hx hb dX3_partLot_0 rfl (lv_at hl 0 rfl) ?_
  refine cr_get C hW.1 0 rfl rfl 0 (by decide) hinX3 k0 (v := .ref (al 0)) rfl dX3_partLot_1 ?_
  refine lv_iload_n hx hb dX3_partLot_4 rfl (lv_at hl 1 rfl) ?_
  obtain ⟨q1, hq1, hE⟩ := cr_bind hE
  refine cr_vRwq (n := 1) (As := [.int x1]) (rest := []) C hW (m_X4_rowOf L D ct al vl x1 q1 hq1) (cwV 1 hts gX3_partLot_X4_rowOf rfl rfl rfl (by decide +kernel) ⟨Nat.le_of_ble_eq_true rfl, Nat.le_of_ble_eq_true rfl⟩) [3, 4, 5, 6, 7] rfl 3 rfl rfl rfl hl.1 rfl (Nat.le_of_ble_eq_true rfl) dX3_partLot_5 ⟨Nat.zero_le _, Nat.zero_le _⟩ (fun H locs hW => ?_)
  refine lv_istore_n (lv' := [(3, .int q1), (0, .ref (ah 0)), (1, .int x1), (2, .int x2)]) hx hb dX3_partLot_8 rfl hl (by decide) rfl (fun ls hl => ?_)
  refine lv_iload_n hx hb dX3_partLot_9 rfl (lv_at hl 0 rfl) ?_
  refine lv_if_lt (tgt := 18) hx hb dX3_partLot_10 (by decide) (fun c2 => ?_) (fun c2 => ?_)
  · rw [if_pos c2] at hE
    refine cr_ldc C k1 dX3_partLot_18 ?_
    exact cr_retW C (w := (fun u : cr_V => cr_wH ct ah al ak vh u vk)) vl hW (Option.some.inj hE) dX3_partLot_20
  · rw [if_neg c2] at hE
    refine lv_iload_n hx hb dX3_partLot_13 rfl (lv_at hl 3 rfl) ?_
    refine lv_iconst (v := 1) hx hb dX3_partLot_14 (by decide) ?_
    refine lv_icmp_ge (tgt := 21) hx hb dX3_partLot_15 (by decide) (fun c3 => ?_) (fun c3 => ?_)
    · rw [if_pos c3] at hE
      refine lv_aload_n hx hb dX3_partLot_21 rfl (lv_at hl 1 rfl) ?_
      refine cr_get C hW.1 0 rfl rfl 0 (by decide) hinX3 k0 (v := .ref (al 0)) rfl dX3_partLot_22 ?_
      refine cr_get C hW.1 3 rfl rfl 1 (by decide) hinX4 k2 (v := .ref (al 2)) rfl dX3_partLot_25 ?_
      refine lv_iload_n hx hb dX3_partLot_28 rfl (lv_at hl 0 rfl) ?_
      obtain ⟨i4, hE⟩ := cr_ifn hE
      refine cr_ald C hW.1 5 (f := vl 1) (k := cr_x q1) rfl i4 (cr_xe _) dX3_partLot_29 ?_
      refine lv_iload_n hx hb dX3_partLot_30 rfl (lv_at hl 3 rfl) ?_
      refine lv_icmp_gt (tgt := 37) hx hb dX3_partLot_31 (by decide) (fun c5 => ?_) (fun c5 => ?_)
      · rw [if_pos c5] at hE
        refine lv_aload_n hx hb dX3_partLot_37 rfl (lv_at hl 1 rfl) ?_
        refine cr_get C hW.1 0 rfl rfl 0 (by decide) hinX3 k0 (v := .ref (al 0)) rfl dX3_partLot_38 ?_
        obtain ⟨q6, hq6, hE⟩ := cr_bind hE
        refine cr_vRwq (n := 0) (As := []) (rest := []) C hW (m_X4_isFull L D ct al vl q6 hq6) (cwV 0 hts gX3_partLot_X4_isFull rfl rfl rfl (by decide +kernel) ⟨Nat.le_of_ble_eq_true rfl, Nat.le_of_ble_eq_true rfl⟩) [3, 4, 5, 6, 7] rfl 3 rfl rfl rfl hl.1 rfl (Nat.le_of_ble_eq_true rfl) dX3_partLot_41 ⟨Nat.zero_le _, Nat.zero_le _⟩ (fun H locs hW => ?_)
        refine lv_if_eq (tgt := 50) hx hb dX3_partLot_44 (by decide) (fun c7 => ?_) (fun c7 => ?_)
        · rw [if_pos c7] at hE
          refine lv_aload_n hx hb dX3_partLot_50 rfl (lv_at hl 1 rfl) ?_
          refine cr_get C hW.1 0 rfl rfl 0 (by decide) hinX3 k0 (v := .ref (al 0)) rfl dX3_partLot_51 ?_
          refine cr_get C hW.1 3 rfl rfl 1 (by decide) hinX4 k2 (v := .ref (al 2)) rfl dX3_partLot_54 ?_
          refine lv_iload_n hx hb dX3_partLot_57 rfl (lv_at hl 0 rfl) ?_
          refine lv_dup2_11 hx hb dX3_partLot_58 rfl rfl ?_
          refine cr_ald C hW.1 5 (f := vl 1) (k := cr_x q1) rfl i4 (cr_xe _) dX3_partLot_59 ?_
          refine lv_iload_n hx hb dX3_partLot_60 rfl (lv_at hl 3 rfl) ?_
          refine lv_isub hx hb dX3_partLot_61 ?_
          refine cr_ast C hW 5 rfl (k := (cr_x q1)) i4 (cr_xe _) (w' := cr_wH ct ah al ak vh (cr_a vl 1 (cr_x q1) ((vl 1 (cr_x q1)) - x2)) vk) rfl dX3_partLot_62 (fun H locs hW => ?_)
          refine lv_aload_n hx hb dX3_partLot_63 rfl (lv_at hl 1 rfl) ?_
          refine cr_get C hW.1 0 rfl rfl 0 (by decide) hinX3 k0 (v := .ref (al 0)) rfl dX3_partLot_64 ?_
          refine lv_iload_n hx hb dX3_partLot_67 rfl (lv_at hl 3 rfl) ?_
          refine lv_aload_n hx hb dX3_partLot_68 rfl (lv_at hl 1 rfl) ?_
          refine cr_get C hW.1 0 rfl rfl 0 (by decide) hinX3 k0 (v := .ref (al 0)) rfl dX3_partLot_69 ?_
          refine cr_get C hW.1 3 rfl rfl 2 (by decide) hinX4 k3 (v := .ref (al 3)) rfl dX3_partLot_72 ?_
          refine lv_iload_n hx hb dX3_partLot_75 rfl (lv_at hl 0 rfl) ?_
          refine cr_ald C hW.1 6 (f := vl 2) (k := cr_x q1) rfl i4 (cr_xe _) dX3_partLot_76 ?_
          refine lv_aload_n hx hb dX3_partLot_77 rfl (lv_at hl 1 rfl) ?_
          refine cr_get C hW.1 0 rfl rfl 0 (by decide) hinX3 k0 (v := .ref (al 0)) rfl dX3_partLot_78 ?_
          refine cr_get C hW.1 3 rfl rfl 3 (by decide) hinX4 k4 (v := .ref (al 4)) rfl dX3_partLot_81 ?_
          refine lv_iload_n hx hb dX3_partLot_84 rfl (lv_at hl 0 rfl) ?_
          refine cr_ald C hW.1 7 (f := vl 3) (k := cr_x q1) rfl i4 (cr_xe _) dX3_partLot_85 ?_
          obtain ⟨q8, hq8, hE⟩ := cr_bind hE
          refine cr_vWq (n := 3) (As := [.int x2, .int (vl 2 (cr_x q1)), .int (vl 3 (cr_x q1))]) (rest := []) C hW (m_X4_add L D ct al (cr_a vl 1 (cr_x q1) ((vl 1 (cr_x q1)) - x2)) x2 (vl 2 (cr_x q1)) (vl 3 (cr_x q1)) _ q8 hq8) (cwV 3 hts gX3_partLot_X4_add rfl rfl rfl (by decide +kernel) ⟨Nat.le_of_ble_eq_true rfl, Nat.le_of_ble_eq_true rfl⟩) [3, 4, 5, 6, 7] [0, 1, 2, 8, 9, 10] [0, 1, 2, 6, 7, 8, 9, 10, 3, 4, 5] (cr_wH ct ah al ak vh q8.2 vk) rfl rfl rfl ⟨by decide +kernel, by decide +kernel, by decide +kernel, by decide +kernel⟩ 3 rfl rfl rfl hl.1 rfl (Nat.le_of_ble_eq_true rfl) dX3_partLot_86 ⟨Nat.zero_le _, Nat.zero_le _⟩ (fun H locs hW => ?_)
          exact cr_retW C (w := (fun u : cr_V => cr_wH ct ah al ak vh u vk)) q8.2 hW (Option.some.inj hE) dX3_partLot_89
        · rw [if_neg c7] at hE
          refine cr_ldc C k5 dX3_partLot_47 ?_
          exact cr_retW C (w := (fun u : cr_V => cr_wH ct ah al ak vh u vk)) vl hW (Option.some.inj hE) dX3_partLot_49
      · rw [if_neg c5] at hE
        refine cr_ldc C k6 dX3_partLot_34 ?_
        exact cr_retW C (w := (fun u : cr_V => cr_wH ct ah al ak vh u vk)) vl hW (Option.some.inj hE) dX3_partLot_36
    · rw [if_neg c3] at hE
      refine cr_ldc C k1 dX3_partLot_18 ?_
      exact cr_retW C (w := (fun u : cr_V => cr_wH ct ah al ak vh u vk)) vl hW (Option.some.inj hE) dX3_partLot_20

set_option maxHeartbeats 4000000 in
set_option maxRecDepth 100000 in
theorem m_X3_blendLots (L : Launch) (D : va_G) (ct : Nat → ClassId) (ah : Nat → Nat) (al : Nat → Nat) (ak : Nat → Nat) (vh : cr_V) (vl : cr_V) (vk : cr_V) (x1 : Int32) (x2 : Int32) (x3 : Int32) (x4 : Int32) (sz : Nat) (out : Int32 × cr_V) (hE : f_X3_blendLots vh vl vk x1 x2 x3 x4 = some out) : Met L yX3_blendLots wsX3_blendLots ({ frames := 2, cells := 0, slots := 0, locals := 43 } : Room) (cr_pW D ct (cr_wH ct ah al ak vh vl vk) sz [.ref (ah 0), .int x1, .int x2, .int x3, .int x4]) (cr_QW D (cr_wH ct ah al ak vh vl vk) sz (fun r (u : cr_V) => (r, u) = out) (fun u : cr_V => cr_wH ct ah al ak vh u vk)) 0 0 (va_A (cr_wH ct ah al ak vh vl vk) sz) := by
  have k0 : (Cond.fieldLink RX3 12 "CupReceipts$House" "lots" "LCupReceipts$Lots;") ∈ wsX3_blendLots := List.mem_of_getElem? (i := 1) rfl
  have k1 : (Cond.fieldLink RX3 50 "CupReceipts$House" "month" "I") ∈ wsX3_blendLots := List.mem_of_getElem? (i := 6) rfl
  have k2 : (Cond.fieldLink RX3 79 "CupReceipts$Lots" "bags" "[I") ∈ wsX3_blendLots := List.mem_of_getElem? (i := 3) rfl
  have k3 : (Cond.constant RX3 87 (-2000000003)) ∈ wsX3_blendLots := List.mem_of_getElem? (i := 5) rfl
  have k4 : (Cond.constant RX3 70 (-2000000001)) ∈ wsX3_blendLots := List.mem_of_getElem? (i := 2) rfl
  have k5 : (Cond.constant RX3 82 (-2000000002)) ∈ wsX3_blendLots := List.mem_of_getElem? (i := 4) rfl
  have hinX3 : ∀ w ∈ wsX30, w ∈ wsX3_blendLots := fun w h => List.mem_cons_of_mem _ (List.mem_append_left _ (List.mem_append_right _ h))
  have hinX4 : ∀ w ∈ wsX40, w ∈ wsX3_blendLots := fun w h => List.mem_cons_of_mem _ (List.mem_append_right _ h)
  refine cr_metW (Qc := fun A => va_Qi (fun r (u : cr_V) => (r, u) = out) (fun u t => cr_at D A ((fun u : cr_V => cr_wH ct ah al ak vh u vk) u) t) A) (by decide) rfl rfl (Nat.le_of_ble_eq_true rfl) ?_
  intro p e s m args below meth c ls A C hW hl
  obtain ⟨hx, hb, hml, hown, hts, hr, hlocks, hK, hN⟩ := id C
  have hl : lv_has ls 11 [(0, .ref (ah 0)), (1, .int x1), (2, .int x2), (3, .int x3), (4, .int x4)] := hl
  have n163 :  ∀ (vh : cr_V) (vl : cr_V) (vk : cr_V) (x2 : Int32) (x4 : Int32) (x5 : Int32) (x6 : Int32) (x7 : Int32) (hE : f_X3_blendLots_163  vh vl vk x2 x4 x5 x6 x7 = some out) (H : Heap) (locs : List Loc) (ls : Array Slot) (hW : cr_wd D A s (cr_wH ct ah al ak vh vl vk) H locs) (hl : lv_has ls 11 [(0, .ref (ah 0)), (2, .int x2), (4, .int x4), (5, .int x5), (6, .int x6), (7, .int x7)]), W p L e ({ frames := 2, cells := 0, slots := 0, locals := 43 } : Room) s m args below meth c H locs 0 0 (MQ below (va_Qi (fun r (u : cr_V) => (r, u) = out) (fun u t => cr_at D A ((fun u : cr_V => cr_wH ct ah al ak vh u vk) u) t) A) args s 0 0 A) (F0 m 163 ls []) := by
    intro  vh vl vk x2 x4 x5 x6 x7 hE H locs ls hW hl
    replace hE : ((f_X4_cupAt vl x5 (vh 4 0)).bind fun q1 => (f_X4_cupAt vl x6 (vh 4 0)).bind fun q2 => if cr_in x5 12 = true then if cr_in x6 12 = true then (f_X4_dropEmpty (cr_a (cr_a vl 1 (cr_x x5) ((vl 1 (cr_x x5)) - x2)) 1 (cr_x x6) (((cr_a vl 1 (cr_x x5) ((vl 1 (cr_x x5)) - x2)) 1 (cr_x x6)) - x4))).bind fun q5 => if x7 = 0 then none else (f_X4_add q5 x7 (((x2 * q1) + (x4 * q2)) / x7) (vh 4 0)).bind fun q7 => some (q7.1, q7.2) else none else none) = some out := hE
    refine lv_iload_n hx hb dX3_blendLots_163 rfl (lv_at hl 1 rfl) ?_
    refine lv_aload_n hx hb dX3_blendLots_164 rfl (lv_at hl 0 rfl) ?_
    refine cr_get C hW.1 0 rfl rfl 0 (by decide) hinX3 k0 (v := .ref (al 0)) rfl dX3_blendLots_165 ?_
    refine lv_iload hx hb dX3_blendLots_168 (lv_at hl 3 rfl) ?_
    refine lv_aload_n hx hb dX3_blendLots_170 rfl (lv_at hl 0 rfl) ?_
    refine cr_get C hW.1 0 rfl rfl 4 (by decide) hinX3 k1 (v := .int (vh 4 0)) rfl dX3_blendLots_171 ?_
    obtain ⟨q1, hq1, hE⟩ := cr_bind hE
    refine cr_vRwq (n := 2) (As := [.int x5, .int (vh 4 0)]) (rest := [.int x2]) C hW (m_X4_cupAt L D ct al vl x5 (vh 4 0) q1 hq1) (cwV 2 hts gX3_blendLots_X4_cupAt rfl rfl rfl (by decide +kernel) ⟨Nat.le_of_ble_eq_true rfl, Nat.le_of_ble_eq_true rfl⟩) [3, 4, 5, 6, 7] rfl 3 rfl rfl rfl hl.1 rfl (Nat.le_of_ble_eq_true rfl) dX3_blendLots_174 ⟨Nat.zero_le _, Nat.zero_le _⟩ (fun H locs hW => ?_)
    refine lv_imul hx hb dX3_blendLots_177 ?_
    refine lv_iload hx hb dX3_blendLots_178 (lv_at hl 2 rfl) ?_
    refine lv_aload_n hx hb dX3_blendLots_180 rfl (lv_at hl 0 rfl) ?_
    refine cr_get C hW.1 0 rfl rfl 0 (by decide) hinX3 k0 (v := .ref (al 0)) rfl dX3_blendLots_181 ?_
    refine lv_iload hx hb dX3_blendLots_184 (lv_at hl 4 rfl) ?_
    refine lv_aload_n hx hb dX3_blendLots_186 rfl (lv_at hl 0 rfl) ?_
    refine cr_get C hW.1 0 rfl rfl 4 (by decide) hinX3 k1 (v := .int (vh 4 0)) rfl dX3_blendLots_187 ?_
    obtain ⟨q2, hq2, hE⟩ := cr_bind hE
    refine cr_vRwq (n := 2) (As := [.int x6, .int (vh 4 0)]) (rest := [.int x4, .int (x2 * q1)]) C hW (m_X4_cupAt L D ct al vl x6 (vh 4 0) q2 hq2) (cwV 2 hts gX3_blendLots_X4_cupAt rfl rfl rfl (by decide +kernel) ⟨Nat.le_of_ble_eq_true rfl, Nat.le_of_ble_eq_true rfl⟩) [3, 4, 5, 6, 7] rfl 3 rfl rfl rfl hl.1 rfl (Nat.le_of_ble_eq_true rfl) dX3_blendLots_190 ⟨Nat.zero_le _, Nat.zero_le _⟩ (fun H locs hW => ?_)
    refine lv_imul hx hb dX3_blendLots_193 ?_
    refine lv_iadd hx hb dX3_blendLots_194 ?_
    refine lv_istore (lv' := [(10, .int ((x2 * q1) + (x4 * q2))), (0, .ref (ah 0)), (2, .int x2), (4, .int x4), (5, .int x5), (6, .int x6), (7, .int x7)]) hx hb dX3_blendLots_195 hl (by decide) rfl (fun ls hl => ?_)
    refine lv_aload_n hx hb dX3_blendLots_197 rfl (lv_at hl 1 rfl) ?_
    refine cr_get C hW.1 0 rfl rfl 0 (by decide) hinX3 k0 (v := .ref (al 0)) rfl dX3_blendLots_198 ?_
    refine cr_get C hW.1 3 rfl rfl 1 (by decide) hinX4 k2 (v := .ref (al 2)) rfl dX3_blendLots_201 ?_
    refine lv_iload hx hb dX3_blendLots_204 (lv_at hl 4 rfl) ?_
    refine lv_dup2_11 hx hb dX3_blendLots_206 rfl rfl ?_
    obtain ⟨i3, hE⟩ := cr_ifn hE
    refine cr_ald C hW.1 5 (f := vl 1) (k := cr_x x5) rfl i3 (cr_xe _) dX3_blendLots_207 ?_
    refine lv_iload_n hx hb dX3_blendLots_208 rfl (lv_at hl 2 rfl) ?_
    refine lv_isub hx hb dX3_blendLots_209 ?_
    refine cr_ast C hW 5 rfl (k := (cr_x x5)) i3 (cr_xe _) (w' := cr_wH ct ah al ak vh (cr_a vl 1 (cr_x x5) ((vl 1 (cr_x x5)) - x2)) vk) rfl dX3_blendLots_210 (fun H locs hW => ?_)
    refine lv_aload_n hx hb dX3_blendLots_211 rfl (lv_at hl 1 rfl) ?_
    refine cr_get C hW.1 0 rfl rfl 0 (by decide) hinX3 k0 (v := .ref (al 0)) rfl dX3_blendLots_212 ?_
    refine cr_get C hW.1 3 rfl rfl 1 (by decide) hinX4 k2 (v := .ref (al 2)) rfl dX3_blendLots_215 ?_
    refine lv_iload hx hb dX3_blendLots_218 (lv_at hl 5 rfl) ?_
    refine lv_dup2_11 hx hb dX3_blendLots_220 rfl rfl ?_
    obtain ⟨i4, hE⟩ := cr_ifn hE
    refine cr_ald C hW.1 5 (f := (cr_a vl 1 (cr_x x5) ((vl 1 (cr_x x5)) - x2)) 1) (k := cr_x x6) rfl i4 (cr_xe _) dX3_blendLots_221 ?_
    refine lv_iload hx hb dX3_blendLots_222 (lv_at hl 3 rfl) ?_
    refine lv_isub hx hb dX3_blendLots_224 ?_
    refine cr_ast C hW 5 rfl (k := (cr_x x6)) i4 (cr_xe _) (w' := cr_wH ct ah al ak vh (cr_a (cr_a vl 1 (cr_x x5) ((vl 1 (cr_x x5)) - x2)) 1 (cr_x x6) (((cr_a vl 1 (cr_x x5) ((vl 1 (cr_x x5)) - x2)) 1 (cr_x x6)) - x4)) vk) rfl dX3_blendLots_225 (fun H locs hW => ?_)
    refine lv_aload_n hx hb dX3_blendLots_226 rfl (lv_at hl 1 rfl) ?_
    refine cr_get C hW.1 0 rfl rfl 0 (by decide) hinX3 k0 (v := .ref (al 0)) rfl dX3_blendLots_227 ?_
    obtain ⟨q5, hq5, hE⟩ := cr_bind hE
    refine cr_vVq (n := 0) (As := []) (rest := []) C hW (m_X4_dropEmpty L D ct al (cr_a (cr_a vl 1 (cr_x x5) ((vl 1 (cr_x x5)) - x2)) 1 (cr_x x6) (((cr_a vl 1 (cr_x x5) ((vl 1 (cr_x x5)) - x2)) 1 (cr_x x6)) - x4)) _ q5 hq5) (cwV 0 hts gX3_blendLots_X4_dropEmpty rfl rfl rfl (by decide +kernel) ⟨Nat.le_of_ble_eq_true rfl, Nat.le_of_ble_eq_true rfl⟩) [3, 4, 5, 6, 7] [0, 1, 2, 8, 9, 10] [0, 1, 2, 6, 7, 8, 9, 10, 3, 4, 5] (cr_wH ct ah al ak vh q5 vk) rfl rfl rfl ⟨by decide +kernel, by decide +kernel, by decide +kernel, by decide +kernel⟩ 3 rfl rfl rfl hl.1 rfl (Nat.le_of_ble_eq_true rfl) dX3_blendLots_230 ⟨Nat.zero_le _, Nat.zero_le _⟩ (fun H locs hW => ?_)
    refine lv_aload_n hx hb dX3_blendLots_233 rfl (lv_at hl 1 rfl) ?_
    refine cr_get C hW.1 0 rfl rfl 0 (by decide) hinX3 k0 (v := .ref (al 0)) rfl dX3_blendLots_234 ?_
    refine lv_iload hx hb dX3_blendLots_237 (lv_at hl 6 rfl) ?_
    refine lv_iload hx hb dX3_blendLots_239 (lv_at hl 0 rfl) ?_
    refine lv_iload hx hb dX3_blendLots_241 (lv_at hl 6 rfl) ?_
    obtain ⟨z6, hE⟩ := cr_ifz hE
    refine lv_idiv hx hb dX3_blendLots_243 z6 ?_
    refine lv_aload_n hx hb dX3_blendLots_244 rfl (lv_at hl 1 rfl) ?_
    refine cr_get C hW.1 0 rfl rfl 4 (by decide) hinX3 k1 (v := .int (vh 4 0)) rfl dX3_blendLots_245 ?_
    obtain ⟨q7, hq7, hE⟩ := cr_bind hE
    refine cr_vWq (n := 3) (As := [.int x7, .int (((x2 * q1) + (x4 * q2)) / x7), .int (vh 4 0)]) (rest := []) C hW (m_X4_add L D ct al q5 x7 (((x2 * q1) + (x4 * q2)) / x7) (vh 4 0) _ q7 hq7) (cwV 3 hts gX3_blendLots_X4_add rfl rfl rfl (by decide +kernel) ⟨Nat.le_of_ble_eq_true rfl, Nat.le_of_ble_eq_true rfl⟩) [3, 4, 5, 6, 7] [0, 1, 2, 8, 9, 10] [0, 1, 2, 6, 7, 8, 9, 10, 3, 4, 5] (cr_wH ct ah al ak vh q7.2 vk) rfl rfl rfl ⟨by decide +kernel, by decide +kernel, by decide +kernel, by decide +kernel⟩ 3 rfl rfl rfl hl.1 rfl (Nat.le_of_ble_eq_true rfl) dX3_blendLots_248 ⟨Nat.zero_le _, Nat.zero_le _⟩ (fun H locs hW => ?_)
    exact cr_retW C (w := (fun u : cr_V => cr_wH ct ah al ak vh u vk)) q7.2 hW (Option.some.inj hE) dX3_blendLots_251
  have n130 :  ∀ (vh : cr_V) (vl : cr_V) (vk : cr_V) (x2 : Int32) (x4 : Int32) (x5 : Int32) (x6 : Int32) (x7 : Int32) (x8 : Int32) (s0 : Int32) (hE : f_X3_blendLots_130  vh vl vk x2 x4 x5 x6 x7 x8 s0 = some out) (H : Heap) (locs : List Loc) (ls : Array Slot) (hW : cr_wd D A s (cr_wH ct ah al ak vh vl vk) H locs) (hl : lv_has ls 11 [(0, .ref (ah 0)), (2, .int x2), (4, .int x4), (5, .int x5), (6, .int x6), (7, .int x7), (8, .int x8)]), W p L e ({ frames := 2, cells := 0, slots := 0, locals := 43 } : Room) s m args below meth c H locs 0 0 (MQ below (va_Qi (fun r (u : cr_V) => (r, u) = out) (fun u t => cr_at D A ((fun u : cr_V => cr_wH ct ah al ak vh u vk) u) t) A) args s 0 0 A) (F0 m 130 ls [.int s0]) := by
    intro  vh vl vk x2 x4 x5 x6 x7 x8 s0 hE H locs ls hW hl
    replace hE : (if 9999 < x7 then (some ((-2000000003), vl)) else ((f_X4_isFull vl).bind fun q9 => if q9 = 0 then (f_X3_blendLots_163 vh vl vk x2 x4 x5 x6 x7) else (if x8 = 0 then (if s0 = 0 then (some ((-2000000003), vl)) else (f_X3_blendLots_163 vh vl vk x2 x4 x5 x6 x7)) else (f_X3_blendLots_163 vh vl vk x2 x4 x5 x6 x7)))) = some out := hE
    refine lv_istore (lv' := [(9, .int s0), (0, .ref (ah 0)), (2, .int x2), (4, .int x4), (5, .int x5), (6, .int x6), (7, .int x7), (8, .int x8)]) hx hb dX3_blendLots_130 hl (by decide) rfl (fun ls hl => ?_)
    refine lv_iload hx hb dX3_blendLots_132 (lv_at hl 6 rfl) ?_
    refine lv_sipush (v := 9999) hx hb dX3_blendLots_134 (by decide) ?_
    refine lv_icmp_gt (tgt := 160) hx hb dX3_blendLots_137 (by decide) (fun c8 => ?_) (fun c8 => ?_)
    · rw [if_pos c8] at hE
      refine cr_ldc C k3 dX3_blendLots_160 ?_
      exact cr_retW C (w := (fun u : cr_V => cr_wH ct ah al ak vh u vk)) vl hW (Option.some.inj hE) dX3_blendLots_162
    · rw [if_neg c8] at hE
      refine lv_aload_n hx hb dX3_blendLots_140 rfl (lv_at hl 1 rfl) ?_
      refine cr_get C hW.1 0 rfl rfl 0 (by decide) hinX3 k0 (v := .ref (al 0)) rfl dX3_blendLots_141 ?_
      obtain ⟨q9, hq9, hE⟩ := cr_bind hE
      refine cr_vRwq (n := 0) (As := []) (rest := []) C hW (m_X4_isFull L D ct al vl q9 hq9) (cwV 0 hts gX3_blendLots_X4_isFull rfl rfl rfl (by decide +kernel) ⟨Nat.le_of_ble_eq_true rfl, Nat.le_of_ble_eq_true rfl⟩) [3, 4, 5, 6, 7] rfl 3 rfl rfl rfl hl.1 rfl (Nat.le_of_ble_eq_true rfl) dX3_blendLots_144 ⟨Nat.zero_le _, Nat.zero_le _⟩ (fun H locs hW => ?_)
      refine lv_if_eq (tgt := 163) hx hb dX3_blendLots_147 (by decide) (fun c10 => ?_) (fun c10 => ?_)
      · rw [if_pos c10] at hE
        exact n163 vh vl vk x2 x4 x5 x6 x7 hE _ _ _ hW (lv_sub hl [1, 2, 3, 4, 5, 6] rfl)
      · rw [if_neg c10] at hE
        refine lv_iload hx hb dX3_blendLots_150 (lv_at hl 7 rfl) ?_
        refine lv_if_ne (tgt := 163) hx hb dX3_blendLots_152 (by decide) (fun c11 => ?_) (fun c11 => ?_)
        · rw [if_neg c11] at hE
          exact n163 vh vl vk x2 x4 x5 x6 x7 hE _ _ _ hW (lv_sub hl [1, 2, 3, 4, 5, 6] rfl)
        · rw [if_pos c11] at hE
          refine lv_iload hx hb dX3_blendLots_155 (lv_at hl 0 rfl) ?_
          refine lv_if_ne (tgt := 163) hx hb dX3_blendLots_157 (by decide) (fun c12 => ?_) (fun c12 => ?_)
          · rw [if_neg c12] at hE
            exact n163 vh vl vk x2 x4 x5 x6 x7 hE _ _ _ hW (lv_sub hl [1, 2, 3, 4, 5, 6] rfl)
          · rw [if_pos c12] at hE
            refine cr_ldc C k3 dX3_blendLots_160 ?_
            exact cr_retW C (w := (fun u : cr_V => cr_wH ct ah al ak vh u vk)) vl hW (Option.some.inj hE) dX3_blendLots_162
  have n108 :  ∀ (vh : cr_V) (vl : cr_V) (vk : cr_V) (x2 : Int32) (x4 : Int32) (x5 : Int32) (x6 : Int32) (x7 : Int32) (s0 : Int32) (hE : f_X3_blendLots_108  vh vl vk x2 x4 x5 x6 x7 s0 = some out) (H : Heap) (locs : List Loc) (ls : Array Slot) (hW : cr_wd D A s (cr_wH ct ah al ak vh vl vk) H locs) (hl : lv_has ls 11 [(0, .ref (ah 0)), (2, .int x2), (4, .int x4), (5, .int x5), (6, .int x6), (7, .int x7)]), W p L e ({ frames := 2, cells := 0, slots := 0, locals := 43 } : Room) s m args below meth c H locs 0 0 (MQ below (va_Qi (fun r (u : cr_V) => (r, u) = out) (fun u t => cr_at D A ((fun u : cr_V => cr_wH ct ah al ak vh u vk) u) t) A) args s 0 0 A) (F0 m 108 ls [.int s0]) := by
    intro  vh vl vk x2 x4 x5 x6 x7 s0 hE H locs ls hW hl
    replace hE : (if cr_in x6 12 = true then if x4 = (vl 1 (cr_x x6)) then (f_X3_blendLots_130 vh vl vk x2 x4 x5 x6 x7 s0 1) else (f_X3_blendLots_130 vh vl vk x2 x4 x5 x6 x7 s0 0) else none) = some out := hE
    refine lv_istore (lv' := [(8, .int s0), (0, .ref (ah 0)), (2, .int x2), (4, .int x4), (5, .int x5), (6, .int x6), (7, .int x7)]) hx hb dX3_blendLots_108 hl (by decide) rfl (fun ls hl => ?_)
    refine lv_iload hx hb dX3_blendLots_110 (lv_at hl 3 rfl) ?_
    refine lv_aload_n hx hb dX3_blendLots_112 rfl (lv_at hl 1 rfl) ?_
    refine cr_get C hW.1 0 rfl rfl 0 (by decide) hinX3 k0 (v := .ref (al 0)) rfl dX3_blendLots_113 ?_
    refine cr_get C hW.1 3 rfl rfl 1 (by decide) hinX4 k2 (v := .ref (al 2)) rfl dX3_blendLots_116 ?_
    refine lv_iload hx hb dX3_blendLots_119 (lv_at hl 5 rfl) ?_
    obtain ⟨i13, hE⟩ := cr_ifn hE
    refine cr_ald C hW.1 5 (f := vl 1) (k := cr_x x6) rfl i13 (cr_xe _) dX3_blendLots_121 ?_
    refine lv_icmp_ne (tgt := 129) hx hb dX3_blendLots_122 (by decide) (fun c14 => ?_) (fun c14 => ?_)
    · rw [if_neg c14] at hE
      refine lv_iconst (v := 0) hx hb dX3_blendLots_129 (by decide) ?_
      exact n130 vh vl vk x2 x4 x5 x6 x7 s0 0 hE _ _ _ hW (lv_sub hl [1, 2, 3, 4, 5, 6, 0] rfl)
    · rw [if_pos c14] at hE
      refine lv_iconst (v := 1) hx hb dX3_blendLots_125 (by decide) ?_
      refine lv_goto (tgt := 130) hx hb dX3_blendLots_126 (by decide) ?_
      exact n130 vh vl vk x2 x4 x5 x6 x7 s0 1 hE _ _ _ hW (lv_sub hl [1, 2, 3, 4, 5, 6, 0] rfl)
  replace hE : ((f_X4_rowOf vl x1).bind fun q15 => (f_X4_rowOf vl x3).bind fun q16 => if q15 < 0 then (some ((-2000000001), vl)) else (if q16 < 0 then (some ((-2000000001), vl)) else (if q15 = q16 then (some ((-2000000001), vl)) else (if x2 < 1 then (some ((-2000000001), vl)) else (if 1 ≤ x4 then (if cr_in q15 12 = true then if (vl 1 (cr_x q15)) < x2 then (some ((-2000000002), vl)) else (if cr_in q16 12 = true then if x4 ≤ (vl 1 (cr_x q16)) then (if x2 = (vl 1 (cr_x q15)) then (f_X3_blendLots_108 vh vl vk x2 x4 q15 q16 (x2 + x4) 1) else (f_X3_blendLots_108 vh vl vk x2 x4 q15 q16 (x2 + x4) 0)) else (some ((-2000000002), vl)) else none) else none) else (some ((-2000000001), vl))))))) = some out := hE
  refine lv_aload_n hx hb dX3_blendLots_0 rfl (lv_at hl 0 rfl) ?_
  refine cr_get C hW.1 0 rfl rfl 0 (by decide) hinX3 k0 (v := .ref (al 0)) rfl dX3_blendLots_1 ?_
  refine lv_iload_n hx hb dX3_blendLots_4 rfl (lv_at hl 1 rfl) ?_
  obtain ⟨q15, hq15, hE⟩ := cr_bind hE
  refine cr_vRwq (n := 1) (As := [.int x1]) (rest := []) C hW (m_X4_rowOf L D ct al vl x1 q15 hq15) (cwV 1 hts gX3_blendLots_X4_rowOf rfl rfl rfl (by decide +kernel) ⟨Nat.le_of_ble_eq_true rfl, Nat.le_of_ble_eq_true rfl⟩) [3, 4, 5, 6, 7] rfl 3 rfl rfl rfl hl.1 rfl (Nat.le_of_ble_eq_true rfl) dX3_blendLots_5 ⟨Nat.zero_le _, Nat.zero_le _⟩ (fun H locs hW => ?_)
  refine lv_istore (lv' := [(5, .int q15), (0, .ref (ah 0)), (1, .int x1), (2, .int x2), (3, .int x3), (4, .int x4)]) hx hb dX3_blendLots_8 hl (by decide) rfl (fun ls hl => ?_)
  refine lv_aload_n hx hb dX3_blendLots_10 rfl (lv_at hl 1 rfl) ?_
  refine cr_get C hW.1 0 rfl rfl 0 (by decide) hinX3 k0 (v := .ref (al 0)) rfl dX3_blendLots_11 ?_
  refine lv_iload_n hx hb dX3_blendLots_14 rfl (lv_at hl 4 rfl) ?_
  obtain ⟨q16, hq16, hE⟩ := cr_bind hE
  refine cr_vRwq (n := 1) (As := [.int x3]) (rest := []) C hW (m_X4_rowOf L D ct al vl x3 q16 hq16) (cwV 1 hts gX3_blendLots_X4_rowOf rfl rfl rfl (by decide +kernel) ⟨Nat.le_of_ble_eq_true rfl, Nat.le_of_ble_eq_true rfl⟩) [3, 4, 5, 6, 7] rfl 3 rfl rfl rfl hl.1 rfl (Nat.le_of_ble_eq_true rfl) dX3_blendLots_15 ⟨Nat.zero_le _, Nat.zero_le _⟩ (fun H locs hW => ?_)
  refine lv_istore (lv' := [(6, .int q16), (5, .int q15), (0, .ref (ah 0)), (1, .int x1), (2, .int x2), (3, .int x3), (4, .int x4)]) hx hb dX3_blendLots_18 hl (by decide) rfl (fun ls hl => ?_)
  refine lv_iload hx hb dX3_blendLots_20 (lv_at hl 1 rfl) ?_
  refine lv_if_lt (tgt := 48) hx hb dX3_blendLots_22 (by decide) (fun c17 => ?_) (fun c17 => ?_)
  · rw [if_pos c17] at hE
    refine cr_ldc C k4 dX3_blendLots_48 ?_
    exact cr_retW C (w := (fun u : cr_V => cr_wH ct ah al ak vh u vk)) vl hW (Option.some.inj hE) dX3_blendLots_50
  · rw [if_neg c17] at hE
    refine lv_iload hx hb dX3_blendLots_25 (lv_at hl 0 rfl) ?_
    refine lv_if_lt (tgt := 48) hx hb dX3_blendLots_27 (by decide) (fun c18 => ?_) (fun c18 => ?_)
    · rw [if_pos c18] at hE
      refine cr_ldc C k4 dX3_blendLots_48 ?_
      exact cr_retW C (w := (fun u : cr_V => cr_wH ct ah al ak vh u vk)) vl hW (Option.some.inj hE) dX3_blendLots_50
    · rw [if_neg c18] at hE
      refine lv_iload hx hb dX3_blendLots_30 (lv_at hl 1 rfl) ?_
      refine lv_iload hx hb dX3_blendLots_32 (lv_at hl 0 rfl) ?_
      refine lv_icmp_eq (tgt := 48) hx hb dX3_blendLots_34 (by decide) (fun c19 => ?_) (fun c19 => ?_)
      · rw [if_pos c19] at hE
        refine cr_ldc C k4 dX3_blendLots_48 ?_
        exact cr_retW C (w := (fun u : cr_V => cr_wH ct ah al ak vh u vk)) vl hW (Option.some.inj hE) dX3_blendLots_50
      · rw [if_neg c19] at hE
        refine lv_iload_n hx hb dX3_blendLots_37 rfl (lv_at hl 4 rfl) ?_
        refine lv_iconst (v := 1) hx hb dX3_blendLots_38 (by decide) ?_
        refine lv_icmp_lt (tgt := 48) hx hb dX3_blendLots_39 (by decide) (fun c20 => ?_) (fun c20 => ?_)
        · rw [if_pos c20] at hE
          refine cr_ldc C k4 dX3_blendLots_48 ?_
          exact cr_retW C (w := (fun u : cr_V => cr_wH ct ah al ak vh u vk)) vl hW (Option.some.inj hE) dX3_blendLots_50
        · rw [if_neg c20] at hE
          refine lv_iload hx hb dX3_blendLots_42 (lv_at hl 6 rfl) ?_
          refine lv_iconst (v := 1) hx hb dX3_blendLots_44 (by decide) ?_
          refine lv_icmp_ge (tgt := 51) hx hb dX3_blendLots_45 (by decide) (fun c21 => ?_) (fun c21 => ?_)
          · rw [if_pos c21] at hE
            refine lv_iload_n hx hb dX3_blendLots_51 rfl (lv_at hl 4 rfl) ?_
            refine lv_aload_n hx hb dX3_blendLots_52 rfl (lv_at hl 2 rfl) ?_
            refine cr_get C hW.1 0 rfl rfl 0 (by decide) hinX3 k0 (v := .ref (al 0)) rfl dX3_blendLots_53 ?_
            refine cr_get C hW.1 3 rfl rfl 1 (by decide) hinX4 k2 (v := .ref (al 2)) rfl dX3_blendLots_56 ?_
            refine lv_iload hx hb dX3_blendLots_59 (lv_at hl 1 rfl) ?_
            obtain ⟨i22, hE⟩ := cr_ifn hE
            refine cr_ald C hW.1 5 (f := vl 1) (k := cr_x q15) rfl i22 (cr_xe _) dX3_blendLots_61 ?_
            refine lv_icmp_gt (tgt := 80) hx hb dX3_blendLots_62 (by decide) (fun c23 => ?_) (fun c23 => ?_)
            · rw [if_pos c23] at hE
              refine cr_ldc C k5 dX3_blendLots_80 ?_
              exact cr_retW C (w := (fun u : cr_V => cr_wH ct ah al ak vh u vk)) vl hW (Option.some.inj hE) dX3_blendLots_82
            · rw [if_neg c23] at hE
              refine lv_iload hx hb dX3_blendLots_65 (lv_at hl 6 rfl) ?_
              refine lv_aload_n hx hb dX3_blendLots_67 rfl (lv_at hl 2 rfl) ?_
              refine cr_get C hW.1 0 rfl rfl 0 (by decide) hinX3 k0 (v := .ref (al 0)) rfl dX3_blendLots_68 ?_
              refine cr_get C hW.1 3 rfl rfl 1 (by decide) hinX4 k2 (v := .ref (al 2)) rfl dX3_blendLots_71 ?_
              refine lv_iload hx hb dX3_blendLots_74 (lv_at hl 0 rfl) ?_
              obtain ⟨i24, hE⟩ := cr_ifn hE
              refine cr_ald C hW.1 5 (f := vl 1) (k := cr_x q16) rfl i24 (cr_xe _) dX3_blendLots_76 ?_
              refine lv_icmp_le (tgt := 83) hx hb dX3_blendLots_77 (by decide) (fun c25 => ?_) (fun c25 => ?_)
              · rw [if_pos c25] at hE
                refine lv_iload_n hx hb dX3_blendLots_83 rfl (lv_at hl 4 rfl) ?_
                refine lv_iload hx hb dX3_blendLots_84 (lv_at hl 6 rfl) ?_
                refine lv_iadd hx hb dX3_blendLots_86 ?_
                refine lv_istore (lv' := [(7, .int (x2 + x4)), (6, .int q16), (5, .int q15), (0, .ref (ah 0)), (1, .int x1), (2, .int x2), (3, .int x3), (4, .int x4)]) hx hb dX3_blendLots_87 hl (by decide) rfl (fun ls hl => ?_)
                refine lv_iload_n hx hb dX3_blendLots_89 rfl (lv_at hl 5 rfl) ?_
                refine lv_aload_n hx hb dX3_blendLots_90 rfl (lv_at hl 3 rfl) ?_
                refine cr_get C hW.1 0 rfl rfl 0 (by decide) hinX3 k0 (v := .ref (al 0)) rfl dX3_blendLots_91 ?_
                refine cr_get C hW.1 3 rfl rfl 1 (by decide) hinX4 k2 (v := .ref (al 2)) rfl dX3_blendLots_94 ?_
                refine lv_iload hx hb dX3_blendLots_97 (lv_at hl 2 rfl) ?_
                refine cr_ald C hW.1 5 (f := vl 1) (k := cr_x q15) rfl i22 (cr_xe _) dX3_blendLots_99 ?_
                refine lv_icmp_ne (tgt := 107) hx hb dX3_blendLots_100 (by decide) (fun c26 => ?_) (fun c26 => ?_)
                · rw [if_neg c26] at hE
                  refine lv_iconst (v := 0) hx hb dX3_blendLots_107 (by decide) ?_
                  exact n108 vh vl vk x2 x4 q15 q16 (x2 + x4) 0 hE _ _ _ hW (lv_sub hl [3, 5, 7, 2, 1, 0] rfl)
                · rw [if_pos c26] at hE
                  refine lv_iconst (v := 1) hx hb dX3_blendLots_103 (by decide) ?_
                  refine lv_goto (tgt := 108) hx hb dX3_blendLots_104 (by decide) ?_
                  exact n108 vh vl vk x2 x4 q15 q16 (x2 + x4) 1 hE _ _ _ hW (lv_sub hl [3, 5, 7, 2, 1, 0] rfl)
              · rw [if_neg c25] at hE
                refine cr_ldc C k5 dX3_blendLots_80 ?_
                exact cr_retW C (w := (fun u : cr_V => cr_wH ct ah al ak vh u vk)) vl hW (Option.some.inj hE) dX3_blendLots_82
          · rw [if_neg c21] at hE
            refine cr_ldc C k4 dX3_blendLots_48 ?_
            exact cr_retW C (w := (fun u : cr_V => cr_wH ct ah al ak vh u vk)) vl hW (Option.some.inj hE) dX3_blendLots_50

set_option maxHeartbeats 4000000 in
set_option maxRecDepth 100000 in
theorem m_X3_cupAnew (L : Launch) (D : va_G) (ct : Nat → ClassId) (ah : Nat → Nat) (al : Nat → Nat) (ak : Nat → Nat) (vh : cr_V) (vl : cr_V) (vk : cr_V) (x1 : Int32) (sz : Nat) (out : Int32 × cr_V) (hE : f_X3_cupAnew vh vl vk x1 = some out) : Met L yX3_cupAnew wsX3_cupAnew ({ frames := 1, cells := 0, slots := 0, locals := 23 } : Room) (cr_pW D ct (cr_wH ct ah al ak vh vl vk) sz [.ref (ah 0), .int x1]) (cr_QW D (cr_wH ct ah al ak vh vl vk) sz (fun r (u : cr_V) => (r, u) = out) (fun u : cr_V => cr_wH ct ah al ak vh u vk)) 0 0 (va_A (cr_wH ct ah al ak vh vl vk) sz) := by
  have k0 : (Cond.fieldLink RX3 12 "CupReceipts$House" "lots" "LCupReceipts$Lots;") ∈ wsX3_cupAnew := List.mem_of_getElem? (i := 1) rfl
  have k1 : (Cond.fieldLink RX3 79 "CupReceipts$Lots" "bags" "[I") ∈ wsX3_cupAnew := List.mem_of_getElem? (i := 3) rfl
  have k2 : (Cond.fieldLink RX3 88 "CupReceipts$Lots" "cups" "[I") ∈ wsX3_cupAnew := List.mem_of_getElem? (i := 5) rfl
  have k3 : (Cond.fieldLink RX3 50 "CupReceipts$House" "month" "I") ∈ wsX3_cupAnew := List.mem_of_getElem? (i := 6) rfl
  have k4 : (Cond.fieldLink RX3 91 "CupReceipts$Lots" "months" "[I") ∈ wsX3_cupAnew := List.mem_of_getElem? (i := 7) rfl
  have k5 : (Cond.constant RX3 82 (-2000000002)) ∈ wsX3_cupAnew := List.mem_of_getElem? (i := 4) rfl
  have k6 : (Cond.constant RX3 70 (-2000000001)) ∈ wsX3_cupAnew := List.mem_of_getElem? (i := 2) rfl
  have hinX3 : ∀ w ∈ wsX30, w ∈ wsX3_cupAnew := fun w h => List.mem_cons_of_mem _ (List.mem_append_left _ (List.mem_append_right _ h))
  have hinX4 : ∀ w ∈ wsX40, w ∈ wsX3_cupAnew := fun w h => List.mem_cons_of_mem _ (List.mem_append_right _ h)
  refine cr_metW (Qc := fun A => va_Qi (fun r (u : cr_V) => (r, u) = out) (fun u t => cr_at D A ((fun u : cr_V => cr_wH ct ah al ak vh u vk) u) t) A) (by decide) rfl rfl (Nat.le_of_ble_eq_true rfl) ?_
  intro p e s m args below meth c ls A C hW hl
  obtain ⟨hx, hb, hml, hown, hts, hr, hlocks, hK, hN⟩ := id C
  have hl : lv_has ls 3 [(0, .ref (ah 0)), (1, .int x1)] := hl
  replace hE : ((f_X4_rowOf vl x1).bind fun q1 => if 0 ≤ q1 then (if cr_in q1 12 = true then if 1 < (vl 1 (cr_x q1)) then ((f_X4_cupAt (cr_a vl 1 (cr_x q1) ((vl 1 (cr_x q1)) - 1)) q1 (vh 4 0)).bind fun q5 => some (((cr_a vl 2 (cr_x q1) q5) 2 (cr_x q1)), (cr_a (cr_a (cr_a vl 1 (cr_x q1) ((vl 1 (cr_x q1)) - 1)) 2 (cr_x q1) q5) 3 (cr_x q1) (vh 4 0)))) else (some ((-2000000002), vl)) else none) else (some ((-2000000001), vl))) = some out := hE
  refine lv_aload_n hx hb dX3_cupAnew_0 rfl (lv_at hl 0 rfl) ?_
  refine cr_get C hW.1 0 rfl rfl 0 (by decide) hinX3 k0 (v := .ref (al 0)) rfl dX3_cupAnew_1 ?_
  refine lv_iload_n hx hb dX3_cupAnew_4 rfl (lv_at hl 1 rfl) ?_
  obtain ⟨q1, hq1, hE⟩ := cr_bind hE
  refine cr_vRwq (n := 1) (As := [.int x1]) (rest := []) C hW (m_X4_rowOf L D ct al vl x1 q1 hq1) (cwV 1 hts gX3_cupAnew_X4_rowOf rfl rfl rfl (by decide +kernel) ⟨Nat.le_of_ble_eq_true rfl, Nat.le_of_ble_eq_true rfl⟩) [3, 4, 5, 6, 7] rfl 3 rfl rfl rfl hl.1 rfl (Nat.le_of_ble_eq_true rfl) dX3_cupAnew_5 ⟨Nat.zero_le _, Nat.zero_le _⟩ (fun H locs hW => ?_)
  refine lv_istore_n (lv' := [(2, .int q1), (0, .ref (ah 0)), (1, .int x1)]) hx hb dX3_cupAnew_8 rfl hl (by decide) rfl (fun ls hl => ?_)
  refine lv_iload_n hx hb dX3_cupAnew_9 rfl (lv_at hl 0 rfl) ?_
  refine lv_if_ge (tgt := 16) hx hb dX3_cupAnew_10 (by decide) (fun c2 => ?_) (fun c2 => ?_)
  · rw [if_pos c2] at hE
    refine lv_aload_n hx hb dX3_cupAnew_16 rfl (lv_at hl 1 rfl) ?_
    refine cr_get C hW.1 0 rfl rfl 0 (by decide) hinX3 k0 (v := .ref (al 0)) rfl dX3_cupAnew_17 ?_
    refine cr_get C hW.1 3 rfl rfl 1 (by decide) hinX4 k1 (v := .ref (al 2)) rfl dX3_cupAnew_20 ?_
    refine lv_iload_n hx hb dX3_cupAnew_23 rfl (lv_at hl 0 rfl) ?_
    obtain ⟨i3, hE⟩ := cr_ifn hE
    refine cr_ald C hW.1 5 (f := vl 1) (k := cr_x q1) rfl i3 (cr_xe _) dX3_cupAnew_24 ?_
    refine lv_iconst (v := 1) hx hb dX3_cupAnew_25 (by decide) ?_
    refine lv_icmp_gt (tgt := 32) hx hb dX3_cupAnew_26 (by decide) (fun c4 => ?_) (fun c4 => ?_)
    · rw [if_pos c4] at hE
      refine lv_aload_n hx hb dX3_cupAnew_32 rfl (lv_at hl 1 rfl) ?_
      refine cr_get C hW.1 0 rfl rfl 0 (by decide) hinX3 k0 (v := .ref (al 0)) rfl dX3_cupAnew_33 ?_
      refine cr_get C hW.1 3 rfl rfl 1 (by decide) hinX4 k1 (v := .ref (al 2)) rfl dX3_cupAnew_36 ?_
      refine lv_iload_n hx hb dX3_cupAnew_39 rfl (lv_at hl 0 rfl) ?_
      refine lv_dup2_11 hx hb dX3_cupAnew_40 rfl rfl ?_
      refine cr_ald C hW.1 5 (f := vl 1) (k := cr_x q1) rfl i3 (cr_xe _) dX3_cupAnew_41 ?_
      refine lv_iconst (v := 1) hx hb dX3_cupAnew_42 (by decide) ?_
      refine lv_isub hx hb dX3_cupAnew_43 ?_
      refine cr_ast C hW 5 rfl (k := (cr_x q1)) i3 (cr_xe _) (w' := cr_wH ct ah al ak vh (cr_a vl 1 (cr_x q1) ((vl 1 (cr_x q1)) - 1)) vk) rfl dX3_cupAnew_44 (fun H locs hW => ?_)
      refine lv_aload_n hx hb dX3_cupAnew_45 rfl (lv_at hl 1 rfl) ?_
      refine cr_get C hW.1 0 rfl rfl 0 (by decide) hinX3 k0 (v := .ref (al 0)) rfl dX3_cupAnew_46 ?_
      refine cr_get C hW.1 3 rfl rfl 2 (by decide) hinX4 k2 (v := .ref (al 3)) rfl dX3_cupAnew_49 ?_
      refine lv_iload_n hx hb dX3_cupAnew_52 rfl (lv_at hl 0 rfl) ?_
      refine lv_aload_n hx hb dX3_cupAnew_53 rfl (lv_at hl 1 rfl) ?_
      refine cr_get C hW.1 0 rfl rfl 0 (by decide) hinX3 k0 (v := .ref (al 0)) rfl dX3_cupAnew_54 ?_
      refine lv_iload_n hx hb dX3_cupAnew_57 rfl (lv_at hl 0 rfl) ?_
      refine lv_aload_n hx hb dX3_cupAnew_58 rfl (lv_at hl 1 rfl) ?_
      refine cr_get C hW.1 0 rfl rfl 4 (by decide) hinX3 k3 (v := .int (vh 4 0)) rfl dX3_cupAnew_59 ?_
      obtain ⟨q5, hq5, hE⟩ := cr_bind hE
      refine cr_vRwq (n := 2) (As := [.int q1, .int (vh 4 0)]) (rest := [.int q1, .ref (al 3)]) C hW (m_X4_cupAt L D ct al (cr_a vl 1 (cr_x q1) ((vl 1 (cr_x q1)) - 1)) q1 (vh 4 0) q5 hq5) (cwV 2 hts gX3_cupAnew_X4_cupAt rfl rfl rfl (by decide +kernel) ⟨Nat.le_of_ble_eq_true rfl, Nat.le_of_ble_eq_true rfl⟩) [3, 4, 5, 6, 7] rfl 3 rfl rfl rfl hl.1 rfl (Nat.le_of_ble_eq_true rfl) dX3_cupAnew_62 ⟨Nat.zero_le _, Nat.zero_le _⟩ (fun H locs hW => ?_)
      refine cr_ast C hW 6 rfl (k := (cr_x q1)) i3 (cr_xe _) (w' := cr_wH ct ah al ak vh (cr_a (cr_a vl 1 (cr_x q1) ((vl 1 (cr_x q1)) - 1)) 2 (cr_x q1) q5) vk) rfl dX3_cupAnew_65 (fun H locs hW => ?_)
      refine lv_aload_n hx hb dX3_cupAnew_66 rfl (lv_at hl 1 rfl) ?_
      refine cr_get C hW.1 0 rfl rfl 0 (by decide) hinX3 k0 (v := .ref (al 0)) rfl dX3_cupAnew_67 ?_
      refine cr_get C hW.1 3 rfl rfl 3 (by decide) hinX4 k4 (v := .ref (al 4)) rfl dX3_cupAnew_70 ?_
      refine lv_iload_n hx hb dX3_cupAnew_73 rfl (lv_at hl 0 rfl) ?_
      refine lv_aload_n hx hb dX3_cupAnew_74 rfl (lv_at hl 1 rfl) ?_
      refine cr_get C hW.1 0 rfl rfl 4 (by decide) hinX3 k3 (v := .int (vh 4 0)) rfl dX3_cupAnew_75 ?_
      refine cr_ast C hW 7 rfl (k := (cr_x q1)) i3 (cr_xe _) (w' := cr_wH ct ah al ak vh (cr_a (cr_a (cr_a vl 1 (cr_x q1) ((vl 1 (cr_x q1)) - 1)) 2 (cr_x q1) q5) 3 (cr_x q1) (vh 4 0)) vk) rfl dX3_cupAnew_78 (fun H locs hW => ?_)
      refine lv_aload_n hx hb dX3_cupAnew_79 rfl (lv_at hl 1 rfl) ?_
      refine cr_get C hW.1 0 rfl rfl 0 (by decide) hinX3 k0 (v := .ref (al 0)) rfl dX3_cupAnew_80 ?_
      refine cr_get C hW.1 3 rfl rfl 2 (by decide) hinX4 k2 (v := .ref (al 3)) rfl dX3_cupAnew_83 ?_
      refine lv_iload_n hx hb dX3_cupAnew_86 rfl (lv_at hl 0 rfl) ?_
      refine cr_ald C hW.1 6 (f := (cr_a vl 2 (cr_x q1) q5) 2) (k := cr_x q1) rfl i3 (cr_xe _) dX3_cupAnew_87 ?_
      exact cr_retW C (w := (fun u : cr_V => cr_wH ct ah al ak vh u vk)) (cr_a (cr_a (cr_a vl 1 (cr_x q1) ((vl 1 (cr_x q1)) - 1)) 2 (cr_x q1) q5) 3 (cr_x q1) (vh 4 0)) hW (Option.some.inj hE) dX3_cupAnew_88
    · rw [if_neg c4] at hE
      refine cr_ldc C k5 dX3_cupAnew_29 ?_
      exact cr_retW C (w := (fun u : cr_V => cr_wH ct ah al ak vh u vk)) vl hW (Option.some.inj hE) dX3_cupAnew_31
  · rw [if_neg c2] at hE
    refine cr_ldc C k6 dX3_cupAnew_13 ?_
    exact cr_retW C (w := (fun u : cr_V => cr_wH ct ah al ak vh u vk)) vl hW (Option.some.inj hE) dX3_cupAnew_15

set_option maxHeartbeats 4000000 in
set_option maxRecDepth 100000 in
theorem m_X3_changeWorth (L : Launch) (D : va_G) (ct : Nat → ClassId) (ah : Nat → Nat) (al : Nat → Nat) (ak : Nat → Nat) (vh : cr_V) (vl : cr_V) (vk : cr_V) (x1 : Int32) (x2 : Int32) (sz : Nat) (out : Int32 × cr_V) (hE : f_X3_changeWorth vh vl vk x1 x2 = some out) : Met L yX3_changeWorth wsX3_changeWorth ({ frames := 1, cells := 0, slots := 0, locals := 22 } : Room) (cr_pW D ct (cr_wH ct ah al ak vh vl vk) sz [.ref (ah 0), .int x1, .int x2]) (cr_QW D (cr_wH ct ah al ak vh vl vk) sz (fun r (u : cr_V) => (r, u) = out) (fun u : cr_V => cr_wH ct ah al ak u vl vk)) 0 0 (va_A (cr_wH ct ah al ak vh vl vk) sz) := by
  have k0 : (Cond.initialized RX6) ∈ wsX3_changeWorth := List.mem_of_getElem? (i := 4) rfl
  have k1 : (Cond.static yX6_isWithin) ∈ wsX3_changeWorth := List.mem_of_getElem? (i := 3) rfl
  have k2 : (Cond.constant RX3 70 (-2000000001)) ∈ wsX3_changeWorth := List.mem_of_getElem? (i := 1) rfl
  have k3 : (Cond.fieldLink RX3 34 "CupReceipts$House" "worths" "[I") ∈ wsX3_changeWorth := List.mem_of_getElem? (i := 2) rfl
  have hinX3 : ∀ w ∈ wsX30, w ∈ wsX3_changeWorth := fun w h => List.mem_cons_of_mem _ (List.mem_append_right _ h)
  refine cr_metW (Qc := fun A => va_Qi (fun r (u : cr_V) => (r, u) = out) (fun u t => cr_at D A ((fun u : cr_V => cr_wH ct ah al ak u vl vk) u) t) A) (by decide) rfl rfl (Nat.le_of_ble_eq_true rfl) ?_
  intro p e s m args below meth c ls A C hW hl
  obtain ⟨hx, hb, hml, hown, hts, hr, hlocks, hK, hN⟩ := id C
  have hl : lv_has ls 4 [(0, .ref (ah 0)), (1, .int x1), (2, .int x2)] := hl
  replace hE : ((f_X6_isWithin x1 0 3).bind fun q1 => if q1 = 0 then (some ((-2000000001), vh)) else ((f_X6_isWithin x2 1 999).bind fun q3 => if q3 = 0 then (some ((-2000000001), vh)) else (if cr_in x1 4 = true then some ((vh 2 (cr_x x1)), (cr_a vh 2 (cr_x x1) x2)) else none))) = some out := hE
  refine lv_iload_n hx hb dX3_changeWorth_0 rfl (lv_at hl 1 rfl) ?_
  refine lv_iconst (v := 0) hx hb dX3_changeWorth_1 (by decide) ?_
  refine lv_iconst (v := 3) hx hb dX3_changeWorth_2 (by decide) ?_
  obtain ⟨q1, hq1, hE⟩ := cr_bind hE
  refine cr_nRwq (n := 3) (As := [.int x1, .int 0, .int 3]) (rest := []) C hW (m_X6_isWithin L D ct x1 0 3 q1 hq1) ⟨va_cnB 3 hts gX3_changeWorth_X6_isWithin_n66 rfl rfl rfl hN.2.2.1 (hts _ k0) (by decide +kernel) ⟨Nat.le_of_ble_eq_true rfl, Nat.le_of_ble_eq_true rfl⟩, hts _ k1, trivial⟩ rfl hl.1 rfl (Nat.le_of_ble_eq_true rfl) dX3_changeWorth_3 ⟨Nat.zero_le _, Nat.zero_le _⟩ (fun H locs hW => ?_)
  refine lv_if_eq (tgt := 20) hx hb dX3_changeWorth_6 (by decide) (fun c2 => ?_) (fun c2 => ?_)
  · rw [if_pos c2] at hE
    refine cr_ldc C k2 dX3_changeWorth_20 ?_
    exact cr_retW C (w := (fun u : cr_V => cr_wH ct ah al ak u vl vk)) vh hW (Option.some.inj hE) dX3_changeWorth_22
  · rw [if_neg c2] at hE
    refine lv_iload_n hx hb dX3_changeWorth_9 rfl (lv_at hl 2 rfl) ?_
    refine lv_iconst (v := 1) hx hb dX3_changeWorth_10 (by decide) ?_
    refine lv_sipush (v := 999) hx hb dX3_changeWorth_11 (by decide) ?_
    obtain ⟨q3, hq3, hE⟩ := cr_bind hE
    refine cr_nRwq (n := 3) (As := [.int x2, .int 1, .int 999]) (rest := []) C hW (m_X6_isWithin L D ct x2 1 999 q3 hq3) ⟨va_cnB 3 hts gX3_changeWorth_X6_isWithin_n66 rfl rfl rfl hN.2.2.1 (hts _ k0) (by decide +kernel) ⟨Nat.le_of_ble_eq_true rfl, Nat.le_of_ble_eq_true rfl⟩, hts _ k1, trivial⟩ rfl hl.1 rfl (Nat.le_of_ble_eq_true rfl) dX3_changeWorth_14 ⟨Nat.zero_le _, Nat.zero_le _⟩ (fun H locs hW => ?_)
    refine lv_if_ne (tgt := 23) hx hb dX3_changeWorth_17 (by decide) (fun c4 => ?_) (fun c4 => ?_)
    · rw [if_neg c4] at hE
      refine lv_aload_n hx hb dX3_changeWorth_23 rfl (lv_at hl 0 rfl) ?_
      refine cr_get C hW.1 0 rfl rfl 2 (by decide) hinX3 k3 (v := .ref (ah 3)) rfl dX3_changeWorth_24 ?_
      refine lv_iload_n hx hb dX3_changeWorth_27 rfl (lv_at hl 1 rfl) ?_
      obtain ⟨i5, hE⟩ := cr_ifn hE
      refine cr_ald C hW.1 1 (f := vh 2) (k := cr_x x1) rfl i5 (cr_xe _) dX3_changeWorth_28 ?_
      refine lv_istore_n (lv' := [(3, .int (vh 2 (cr_x x1))), (0, .ref (ah 0)), (1, .int x1), (2, .int x2)]) hx hb dX3_changeWorth_29 rfl hl (by decide) rfl (fun ls hl => ?_)
      refine lv_aload_n hx hb dX3_changeWorth_30 rfl (lv_at hl 1 rfl) ?_
      refine cr_get C hW.1 0 rfl rfl 2 (by decide) hinX3 k3 (v := .ref (ah 3)) rfl dX3_changeWorth_31 ?_
      refine lv_iload_n hx hb dX3_changeWorth_34 rfl (lv_at hl 2 rfl) ?_
      refine lv_iload_n hx hb dX3_changeWorth_35 rfl (lv_at hl 3 rfl) ?_
      refine cr_ast C hW 1 rfl (k := (cr_x x1)) i5 (cr_xe _) (w' := cr_wH ct ah al ak (cr_a vh 2 (cr_x x1) x2) vl vk) rfl dX3_changeWorth_36 (fun H locs hW => ?_)
      refine lv_iload_n hx hb dX3_changeWorth_37 rfl (lv_at hl 0 rfl) ?_
      exact cr_retW C (w := (fun u : cr_V => cr_wH ct ah al ak u vl vk)) (cr_a vh 2 (cr_x x1) x2) hW (Option.some.inj hE) dX3_changeWorth_38
    · rw [if_pos c4] at hE
      refine cr_ldc C k2 dX3_changeWorth_20 ?_
      exact cr_retW C (w := (fun u : cr_V => cr_wH ct ah al ak u vl vk)) vh hW (Option.some.inj hE) dX3_changeWorth_22

set_option maxHeartbeats 4000000 in
set_option maxRecDepth 100000 in
theorem m_J9_floorMod_7cf53 (L : Launch) (D : va_G) (ct : Nat → ClassId)   (x0 : Int32) (x1 : Int32) (out : Int32) (hE : f_J9_floorMod_7cf53 x0 x1 = some out) : Met L yJ9_floorMod_7cf53 wsJ9_floorMod_7cf53 ({ frames := 0, cells := 0, slots := 0, locals := 0 } : Room) (cr_pR D ct ([]) [.int x0, .int x1]) (cr_QR (fun r => r = out)) 0 0 cr_no := by
  refine cr_metRF (by decide +kernel) rfl rfl (Nat.le_of_ble_eq_true rfl) ?_
  intro p e s m args below meth c ls C hP hS hl
  obtain ⟨hx, hb, hml, hown, hts, hr, hlocks, hK, hN⟩ := id C
  have hl : lv_has ls 3 [(0, .int x0), (1, .int x1)] := hl
  replace hE : (if x1 = 0 then none else if 0 ≤ (x0 ^^^ x1) then (some (x0 - x0 / x1 * x1)) else (if (x0 - x0 / x1 * x1) = 0 then (some (x0 - x0 / x1 * x1)) else (some ((x0 - x0 / x1 * x1) + x1)))) = some out := hE
  refine lv_iload_n hx hb dJ9_floorMod_7cf53_0 rfl (lv_at hl 0 rfl) ?_
  refine lv_iload_n hx hb dJ9_floorMod_7cf53_1 rfl (lv_at hl 1 rfl) ?_
  obtain ⟨z1, hE⟩ := cr_ifz hE
  refine lv_irem hx hb dJ9_floorMod_7cf53_2 z1 ?_
  refine lv_istore_n (lv' := [(2, .int (x0 - x0 / x1 * x1)), (0, .int x0), (1, .int x1)]) hx hb dJ9_floorMod_7cf53_3 rfl hl (by decide) rfl (fun ls hl => ?_)
  refine lv_iload_n hx hb dJ9_floorMod_7cf53_4 rfl (lv_at hl 1 rfl) ?_
  refine lv_iload_n hx hb dJ9_floorMod_7cf53_5 rfl (lv_at hl 2 rfl) ?_
  refine lv_ixor hx hb dJ9_floorMod_7cf53_6 ?_
  refine lv_if_ge (tgt := 18) hx hb dJ9_floorMod_7cf53_7 (by decide) (fun c2 => ?_) (fun c2 => ?_)
  · rw [if_pos c2] at hE
    refine lv_iload_n hx hb dJ9_floorMod_7cf53_18 rfl (lv_at hl 0 rfl) ?_
    exact cr_retR C hS (Option.some.inj hE) dJ9_floorMod_7cf53_19
  · rw [if_neg c2] at hE
    refine lv_iload_n hx hb dJ9_floorMod_7cf53_10 rfl (lv_at hl 0 rfl) ?_
    refine lv_if_eq (tgt := 18) hx hb dJ9_floorMod_7cf53_11 (by decide) (fun c3 => ?_) (fun c3 => ?_)
    · rw [if_pos c3] at hE
      refine lv_iload_n hx hb dJ9_floorMod_7cf53_18 rfl (lv_at hl 0 rfl) ?_
      exact cr_retR C hS (Option.some.inj hE) dJ9_floorMod_7cf53_19
    · rw [if_neg c3] at hE
      refine lv_iload_n hx hb dJ9_floorMod_7cf53_14 rfl (lv_at hl 0 rfl) ?_
      refine lv_iload_n hx hb dJ9_floorMod_7cf53_15 rfl (lv_at hl 2 rfl) ?_
      refine lv_iadd hx hb dJ9_floorMod_7cf53_16 ?_
      exact cr_retR C hS (Option.some.inj hE) dJ9_floorMod_7cf53_17

set_option maxHeartbeats 4000000 in
set_option maxRecDepth 100000 in
theorem m_X3_isDeliveryMonth (L : Launch) (D : va_G) (ct : Nat → ClassId) (ah : Nat → Nat) (al : Nat → Nat) (ak : Nat → Nat) (vh : cr_V) (vl : cr_V) (vk : cr_V) (x1 : Int32) (out : Int32) (hE : f_X3_isDeliveryMonth vh vl vk x1 = some out) : Met L yX3_isDeliveryMonth wsX3_isDeliveryMonth ({ frames := 1, cells := 0, slots := 0, locals := 22 } : Room) (cr_pR D ct (cr_wH ct ah al ak vh vl vk) [.ref (ah 0), .int x1]) (cr_QR (fun r => r = out)) 0 0 cr_no := by
  have k0 : (Cond.fieldLink RX3 40 "CupReceipts$House" "settings" "[I") ∈ wsX3_isDeliveryMonth := List.mem_of_getElem? (i := 1) rfl
  have hinX3 : ∀ w ∈ wsX30, w ∈ wsX3_isDeliveryMonth := fun w h => List.mem_cons_of_mem _ (List.mem_append_right _ h)
  refine cr_metR (by decide) rfl rfl (Nat.le_of_ble_eq_true rfl) ?_
  intro p e s m args below meth c ls C hP hS hl
  obtain ⟨hx, hb, hml, hown, hts, hr, hlocks, hK, hN⟩ := id C
  have hl : lv_has ls 2 [(0, .ref (ah 0)), (1, .int x1)] := hl
  replace hE : ((f_J9_floorMod_7cf53 x1 12).bind fun q1 => if (((vh 3 1) >>> (q1 &&& 31)) &&& 1) = 1 then (some 1) else (some 0)) = some out := hE
  refine lv_aload_n hx hb dX3_isDeliveryMonth_0 rfl (lv_at hl 0 rfl) ?_
  refine cr_get C hP 0 rfl rfl 3 (by decide) hinX3 k0 (v := .ref (ah 4)) rfl dX3_isDeliveryMonth_1 ?_
  refine lv_iconst (v := 1) hx hb dX3_isDeliveryMonth_4 (by decide) ?_
  refine cr_ald C hP 2 (f := vh 3) (k := 1) rfl (by decide) (by decide) dX3_isDeliveryMonth_5 ?_
  refine lv_iload_n hx hb dX3_isDeliveryMonth_6 rfl (lv_at hl 1 rfl) ?_
  refine lv_bipush (v := 12) hx hb dX3_isDeliveryMonth_7 (by decide) ?_
  obtain ⟨q1, hq1, hE⟩ := cr_bind hE
  refine cr_sRq (n := 2) (As := [.int x1, .int 12]) (rest := [.int (vh 3 1)]) C hP hS (m_J9_floorMod_7cf53 L D ct x1 12 q1 hq1) (va_cwS 2 hts gX3_isDeliveryMonth_J9_floorMod_7cf53 rfl rfl rfl (by decide +kernel) ⟨Nat.le_of_ble_eq_true rfl, Nat.le_of_ble_eq_true rfl⟩) rfl hl.1 rfl (Nat.le_of_ble_eq_true rfl) dX3_isDeliveryMonth_9 ⟨Nat.zero_le _, Nat.zero_le _⟩ (fun H locs hP hS => ?_)
  refine lv_ishr hx hb dX3_isDeliveryMonth_12 ?_
  refine lv_iconst (v := 1) hx hb dX3_isDeliveryMonth_13 (by decide) ?_
  refine lv_iand hx hb dX3_isDeliveryMonth_14 ?_
  refine lv_iconst (v := 1) hx hb dX3_isDeliveryMonth_15 (by decide) ?_
  refine lv_icmp_ne (tgt := 23) hx hb dX3_isDeliveryMonth_16 (by decide) (fun c2 => ?_) (fun c2 => ?_)
  · rw [if_neg c2] at hE
    refine lv_iconst (v := 0) hx hb dX3_isDeliveryMonth_23 (by decide) ?_
    exact cr_retRz C hS rfl (Option.some.inj hE) dX3_isDeliveryMonth_24
  · rw [if_pos c2] at hE
    refine lv_iconst (v := 1) hx hb dX3_isDeliveryMonth_19 (by decide) ?_
    refine lv_goto (tgt := 24) hx hb dX3_isDeliveryMonth_20 (by decide) ?_
    exact cr_retRz C hS rfl (Option.some.inj hE) dX3_isDeliveryMonth_24

set_option maxHeartbeats 4000000 in
set_option maxRecDepth 100000 in
theorem m_X3_sellContract (L : Launch) (D : va_G) (ct : Nat → ClassId) (ah : Nat → Nat) (al : Nat → Nat) (ak : Nat → Nat) (vh : cr_V) (vl : cr_V) (vk : cr_V) (x1 : Int32) (x2 : Int32) (sz : Nat) (out : Int32 × cr_V) (hE : f_X3_sellContract vh vl vk x1 x2 = some out) : Met L yX3_sellContract wsX3_sellContract ({ frames := 2, cells := 0, slots := 0, locals := 43 } : Room) (cr_pW D ct (cr_wH ct ah al ak vh vl vk) sz [.ref (ah 0), .int x1, .int x2]) (cr_QW D (cr_wH ct ah al ak vh vl vk) sz (fun r (u : cr_V) => (r, u) = out) (fun u : cr_V => cr_wH ct ah al ak vh vl u)) 0 0 (va_A (cr_wH ct ah al ak vh vl vk) sz) := by
  have k0 : (Cond.initialized RX6) ∈ wsX3_sellContract := List.mem_of_getElem? (i := 6) rfl
  have k1 : (Cond.static yX6_isWithin) ∈ wsX3_sellContract := List.mem_of_getElem? (i := 5) rfl
  have k2 : (Cond.constant RX3 70 (-2000000001)) ∈ wsX3_sellContract := List.mem_of_getElem? (i := 1) rfl
  have k3 : (Cond.fieldLink RX3 50 "CupReceipts$House" "month" "I") ∈ wsX3_sellContract := List.mem_of_getElem? (i := 2) rfl
  have k4 : (Cond.constant RX3 82 (-2000000002)) ∈ wsX3_sellContract := List.mem_of_getElem? (i := 3) rfl
  have k5 : (Cond.fieldLink RX3 21 "CupReceipts$House" "contracts" "LCupReceipts$Contracts;") ∈ wsX3_sellContract := List.mem_of_getElem? (i := 4) rfl
  have hinX3 : ∀ w ∈ wsX30, w ∈ wsX3_sellContract := fun w h => List.mem_cons_of_mem _ (List.mem_append_left _ (List.mem_append_right _ h))
  refine cr_metW (Qc := fun A => va_Qi (fun r (u : cr_V) => (r, u) = out) (fun u t => cr_at D A ((fun u : cr_V => cr_wH ct ah al ak vh vl u) u) t) A) (by decide) rfl rfl (Nat.le_of_ble_eq_true rfl) ?_
  intro p e s m args below meth c ls A C hW hl
  obtain ⟨hx, hb, hml, hown, hts, hr, hlocks, hK, hN⟩ := id C
  have hl : lv_has ls 3 [(0, .ref (ah 0)), (1, .int x1), (2, .int x2)] := hl
  replace hE : ((f_X6_isWithin x1 0 999).bind fun q1 => if q1 = 0 then (some ((-2000000001), vk)) else ((f_X6_isWithin x2 1 999).bind fun q3 => if q3 = 0 then (some ((-2000000001), vk)) else (if x1 < (vh 4 0) then (some ((-2000000002), vk)) else ((f_X3_isDeliveryMonth vh vl vk x1).bind fun q6 => if q6 = 0 then (some ((-2000000002), vk)) else ((f_X0_add vk x1 x2).bind fun q8 => some (q8.1, q8.2)))))) = some out := hE
  refine lv_iload_n hx hb dX3_sellContract_0 rfl (lv_at hl 1 rfl) ?_
  refine lv_iconst (v := 0) hx hb dX3_sellContract_1 (by decide) ?_
  refine lv_sipush (v := 999) hx hb dX3_sellContract_2 (by decide) ?_
  obtain ⟨q1, hq1, hE⟩ := cr_bind hE
  refine cr_nRwq (n := 3) (As := [.int x1, .int 0, .int 999]) (rest := []) C hW (m_X6_isWithin L D ct x1 0 999 q1 hq1) ⟨va_cnB 3 hts gX3_sellContract_X6_isWithin_n66 rfl rfl rfl hN.2.2.1 (hts _ k0) (by decide +kernel) ⟨Nat.le_of_ble_eq_true rfl, Nat.le_of_ble_eq_true rfl⟩, hts _ k1, trivial⟩ rfl hl.1 rfl (Nat.le_of_ble_eq_true rfl) dX3_sellContract_5 ⟨Nat.zero_le _, Nat.zero_le _⟩ (fun H locs hW => ?_)
  refine lv_if_eq (tgt := 22) hx hb dX3_sellContract_8 (by decide) (fun c2 => ?_) (fun c2 => ?_)
  · rw [if_pos c2] at hE
    refine cr_ldc C k2 dX3_sellContract_22 ?_
    exact cr_retW C (w := (fun u : cr_V => cr_wH ct ah al ak vh vl u)) vk hW (Option.some.inj hE) dX3_sellContract_24
  · rw [if_neg c2] at hE
    refine lv_iload_n hx hb dX3_sellContract_11 rfl (lv_at hl 2 rfl) ?_
    refine lv_iconst (v := 1) hx hb dX3_sellContract_12 (by decide) ?_
    refine lv_sipush (v := 999) hx hb dX3_sellContract_13 (by decide) ?_
    obtain ⟨q3, hq3, hE⟩ := cr_bind hE
    refine cr_nRwq (n := 3) (As := [.int x2, .int 1, .int 999]) (rest := []) C hW (m_X6_isWithin L D ct x2 1 999 q3 hq3) ⟨va_cnB 3 hts gX3_sellContract_X6_isWithin_n66 rfl rfl rfl hN.2.2.1 (hts _ k0) (by decide +kernel) ⟨Nat.le_of_ble_eq_true rfl, Nat.le_of_ble_eq_true rfl⟩, hts _ k1, trivial⟩ rfl hl.1 rfl (Nat.le_of_ble_eq_true rfl) dX3_sellContract_16 ⟨Nat.zero_le _, Nat.zero_le _⟩ (fun H locs hW => ?_)
    refine lv_if_ne (tgt := 25) hx hb dX3_sellContract_19 (by decide) (fun c4 => ?_) (fun c4 => ?_)
    · rw [if_neg c4] at hE
      refine lv_iload_n hx hb dX3_sellContract_25 rfl (lv_at hl 1 rfl) ?_
      refine lv_aload_n hx hb dX3_sellContract_26 rfl (lv_at hl 0 rfl) ?_
      refine cr_get C hW.1 0 rfl rfl 4 (by decide) hinX3 k3 (v := .int (vh 4 0)) rfl dX3_sellContract_27 ?_
      refine lv_icmp_lt (tgt := 41) hx hb dX3_sellContract_30 (by decide) (fun c5 => ?_) (fun c5 => ?_)
      · rw [if_pos c5] at hE
        refine cr_ldc C k4 dX3_sellContract_41 ?_
        exact cr_retW C (w := (fun u : cr_V => cr_wH ct ah al ak vh vl u)) vk hW (Option.some.inj hE) dX3_sellContract_43
      · rw [if_neg c5] at hE
        refine lv_aload_n hx hb dX3_sellContract_33 rfl (lv_at hl 0 rfl) ?_
        refine lv_iload_n hx hb dX3_sellContract_34 rfl (lv_at hl 1 rfl) ?_
        obtain ⟨q6, hq6, hE⟩ := cr_bind hE
        refine cr_vRwq (n := 1) (As := [.int x1]) (rest := []) C hW (m_X3_isDeliveryMonth L D ct ah al ak vh vl vk x1 q6 hq6) (cwV 1 hts gX3_sellContract_X3_isDeliveryMonth rfl rfl rfl (by decide +kernel) ⟨Nat.le_of_ble_eq_true rfl, Nat.le_of_ble_eq_true rfl⟩) [0, 1, 2, 3, 4, 5, 6, 7, 8, 9, 10] rfl 0 rfl rfl rfl hl.1 rfl (Nat.le_of_ble_eq_true rfl) dX3_sellContract_35 ⟨Nat.zero_le _, Nat.zero_le _⟩ (fun H locs hW => ?_)
        refine lv_if_ne (tgt := 44) hx hb dX3_sellContract_38 (by decide) (fun c7 => ?_) (fun c7 => ?_)
        · rw [if_neg c7] at hE
          refine lv_aload_n hx hb dX3_sellContract_44 rfl (lv_at hl 0 rfl) ?_
          refine cr_get C hW.1 0 rfl rfl 1 (by decide) hinX3 k5 (v := .ref (ak 0)) rfl dX3_sellContract_45 ?_
          refine lv_iload_n hx hb dX3_sellContract_48 rfl (lv_at hl 1 rfl) ?_
          refine lv_iload_n hx hb dX3_sellContract_49 rfl (lv_at hl 2 rfl) ?_
          obtain ⟨q8, hq8, hE⟩ := cr_bind hE
          refine cr_vWq (n := 2) (As := [.int x1, .int x2]) (rest := []) C hW (m_X0_add L D ct ak vk x1 x2 _ q8 hq8) (cwV 2 hts gX3_sellContract_X0_add rfl rfl rfl (by decide +kernel) ⟨Nat.le_of_ble_eq_true rfl, Nat.le_of_ble_eq_true rfl⟩) [8, 9, 10] [0, 1, 2, 3, 4, 5, 6, 7] [0, 1, 2, 3, 4, 5, 6, 7, 8, 9, 10] (cr_wH ct ah al ak vh vl q8.2) rfl rfl rfl ⟨by decide +kernel, by decide +kernel, by decide +kernel, by decide +kernel⟩ 8 rfl rfl rfl hl.1 rfl (Nat.le_of_ble_eq_true rfl) dX3_sellContract_50 ⟨Nat.zero_le _, Nat.zero_le _⟩ (fun H locs hW => ?_)
          exact cr_retW C (w := (fun u : cr_V => cr_wH ct ah al ak vh vl u)) q8.2 hW (Option.some.inj hE) dX3_sellContract_53
        · rw [if_pos c7] at hE
          refine cr_ldc C k4 dX3_sellContract_41 ?_
          exact cr_retW C (w := (fun u : cr_V => cr_wH ct ah al ak vh vl u)) vk hW (Option.some.inj hE) dX3_sellContract_43
    · rw [if_pos c4] at hE
      refine cr_ldc C k2 dX3_sellContract_22 ?_
      exact cr_retW C (w := (fun u : cr_V => cr_wH ct ah al ak vh vl u)) vk hW (Option.some.inj hE) dX3_sellContract_24

set_option maxHeartbeats 4000000 in
set_option maxRecDepth 100000 in
theorem m_X3_buyContractBack (L : Launch) (D : va_G) (ct : Nat → ClassId) (ah : Nat → Nat) (al : Nat → Nat) (ak : Nat → Nat) (vh : cr_V) (vl : cr_V) (vk : cr_V) (x1 : Int32) (x2 : Int32) (sz : Nat) (out : Int32 × cr_V × cr_V) (hE : f_X3_buyContractBack vh vl vk x1 x2 = some out) : Met L yX3_buyContractBack wsX3_buyContractBack ({ frames := 2, cells := 0, slots := 0, locals := 43 } : Room) (cr_pW D ct (cr_wH ct ah al ak vh vl vk) sz [.ref (ah 0), .int x1, .int x2]) (cr_QW D (cr_wH ct ah al ak vh vl vk) sz (fun r (u : cr_V × cr_V) => (r, u) = out) (fun u : cr_V × cr_V => cr_wH ct ah al ak u.1 vl u.2)) 0 0 (va_A (cr_wH ct ah al ak vh vl vk) sz) := by
  have k0 : (Cond.fieldLink RX3 21 "CupReceipts$House" "contracts" "LCupReceipts$Contracts;") ∈ wsX3_buyContractBack := List.mem_of_getElem? (i := 1) rfl
  have k1 : (Cond.constant RX3 70 (-2000000001)) ∈ wsX3_buyContractBack := List.mem_of_getElem? (i := 2) rfl
  have k2 : (Cond.initialized RX6) ∈ wsX3_buyContractBack := List.mem_of_getElem? (i := 13) rfl
  have k3 : (Cond.static yX6_isWithin) ∈ wsX3_buyContractBack := List.mem_of_getElem? (i := 12) rfl
  have k4 : (Cond.fieldLink RX3 40 "CupReceipts$House" "settings" "[I") ∈ wsX3_buyContractBack := List.mem_of_getElem? (i := 3) rfl
  have k5 : (Cond.fieldLink RX3 110 "CupReceipts$Contracts" "prices" "[I") ∈ wsX3_buyContractBack := List.mem_of_getElem? (i := 4) rfl
  have k6 : (Cond.fieldLink RX3 54 "CupReceipts$House" "account" "I") ∈ wsX3_buyContractBack := List.mem_of_getElem? (i := 5) rfl
  have hinX0 : ∀ w ∈ wsX00, w ∈ wsX3_buyContractBack := fun w h => List.mem_cons_of_mem _ (List.mem_append_right _ h)
  have hinX3 : ∀ w ∈ wsX30, w ∈ wsX3_buyContractBack := fun w h => List.mem_cons_of_mem _ (List.mem_append_left _ (List.mem_append_right _ h))
  refine cr_metW (Qc := fun A => va_Qi (fun r (u : cr_V × cr_V) => (r, u) = out) (fun u t => cr_at D A ((fun u : cr_V × cr_V => cr_wH ct ah al ak u.1 vl u.2) u) t) A) (by decide) rfl rfl (Nat.le_of_ble_eq_true rfl) ?_
  intro p e s m args below meth c ls A C hW hl
  obtain ⟨hx, hb, hml, hown, hts, hr, hlocks, hK, hN⟩ := id C
  have hl : lv_has ls 4 [(0, .ref (ah 0)), (1, .int x1), (2, .int x2)] := hl
  replace hE : ((f_X0_isOpen vk x1).bind fun q1 => if q1 = 0 then (some ((-2000000001), vh, vk)) else ((f_X6_isWithin x2 1 999).bind fun q3 => if q3 = 0 then (some ((-2000000001), vh, vk)) else (if cr_in x1 6 = true then (f_X0_drop vk x1).bind fun q6 => some (((vh 3 0) * ((vk 1 (cr_x x1)) - x2)), cr_i vh 5 ((vh 5 0) + ((vh 3 0) * ((vk 1 (cr_x x1)) - x2))), q6) else none))) = some out := hE
  refine lv_aload_n hx hb dX3_buyContractBack_0 rfl (lv_at hl 0 rfl) ?_
  refine cr_get C hW.1 0 rfl rfl 1 (by decide) hinX3 k0 (v := .ref (ak 0)) rfl dX3_buyContractBack_1 ?_
  refine lv_iload_n hx hb dX3_buyContractBack_4 rfl (lv_at hl 1 rfl) ?_
  obtain ⟨q1, hq1, hE⟩ := cr_bind hE
  refine cr_vRwq (n := 1) (As := [.int x1]) (rest := []) C hW (m_X0_isOpen L D ct ak vk x1 q1 hq1) (cwV 1 hts gX3_buyContractBack_X0_isOpen rfl rfl rfl (by decide +kernel) ⟨Nat.le_of_ble_eq_true rfl, Nat.le_of_ble_eq_true rfl⟩) [8, 9, 10] rfl 8 rfl rfl rfl hl.1 rfl (Nat.le_of_ble_eq_true rfl) dX3_buyContractBack_5 ⟨Nat.zero_le _, Nat.zero_le _⟩ (fun H locs hW => ?_)
  refine lv_if_eq (tgt := 22) hx hb dX3_buyContractBack_8 (by decide) (fun c2 => ?_) (fun c2 => ?_)
  · rw [if_pos c2] at hE
    refine cr_ldc C k1 dX3_buyContractBack_22 ?_
    exact cr_retW C (w := (fun u : cr_V × cr_V => cr_wH ct ah al ak u.1 vl u.2)) (vh, vk) hW (Option.some.inj hE) dX3_buyContractBack_24
  · rw [if_neg c2] at hE
    refine lv_iload_n hx hb dX3_buyContractBack_11 rfl (lv_at hl 2 rfl) ?_
    refine lv_iconst (v := 1) hx hb dX3_buyContractBack_12 (by decide) ?_
    refine lv_sipush (v := 999) hx hb dX3_buyContractBack_13 (by decide) ?_
    obtain ⟨q3, hq3, hE⟩ := cr_bind hE
    refine cr_nRwq (n := 3) (As := [.int x2, .int 1, .int 999]) (rest := []) C hW (m_X6_isWithin L D ct x2 1 999 q3 hq3) ⟨va_cnB 3 hts gX3_buyContractBack_X6_isWithin_n66 rfl rfl rfl hN.2.2.1 (hts _ k2) (by decide +kernel) ⟨Nat.le_of_ble_eq_true rfl, Nat.le_of_ble_eq_true rfl⟩, hts _ k3, trivial⟩ rfl hl.1 rfl (Nat.le_of_ble_eq_true rfl) dX3_buyContractBack_16 ⟨Nat.zero_le _, Nat.zero_le _⟩ (fun H locs hW => ?_)
    refine lv_if_ne (tgt := 25) hx hb dX3_buyContractBack_19 (by decide) (fun c4 => ?_) (fun c4 => ?_)
    · rw [if_neg c4] at hE
      refine lv_aload_n hx hb dX3_buyContractBack_25 rfl (lv_at hl 0 rfl) ?_
      refine cr_get C hW.1 0 rfl rfl 3 (by decide) hinX3 k4 (v := .ref (ah 4)) rfl dX3_buyContractBack_26 ?_
      refine lv_iconst (v := 0) hx hb dX3_buyContractBack_29 (by decide) ?_
      refine cr_ald C hW.1 2 (f := vh 3) (k := 0) rfl (by decide) (by decide) dX3_buyContractBack_30 ?_
      refine lv_aload_n hx hb dX3_buyContractBack_31 rfl (lv_at hl 0 rfl) ?_
      refine cr_get C hW.1 0 rfl rfl 1 (by decide) hinX3 k0 (v := .ref (ak 0)) rfl dX3_buyContractBack_32 ?_
      refine cr_get C hW.1 8 rfl rfl 1 (by decide) hinX0 k5 (v := .ref (ak 2)) rfl dX3_buyContractBack_35 ?_
      refine lv_iload_n hx hb dX3_buyContractBack_38 rfl (lv_at hl 1 rfl) ?_
      obtain ⟨i5, hE⟩ := cr_ifn hE
      refine cr_ald C hW.1 10 (f := vk 1) (k := cr_x x1) rfl i5 (cr_xe _) dX3_buyContractBack_39 ?_
      refine lv_iload_n hx hb dX3_buyContractBack_40 rfl (lv_at hl 2 rfl) ?_
      refine lv_isub hx hb dX3_buyContractBack_41 ?_
      refine lv_imul hx hb dX3_buyContractBack_42 ?_
      refine lv_istore_n (lv' := [(3, .int ((vh 3 0) * ((vk 1 (cr_x x1)) - x2))), (0, .ref (ah 0)), (1, .int x1), (2, .int x2)]) hx hb dX3_buyContractBack_43 rfl hl (by decide) rfl (fun ls hl => ?_)
      refine lv_aload_n hx hb dX3_buyContractBack_44 rfl (lv_at hl 1 rfl) ?_
      refine lv_dup hx hb dX3_buyContractBack_45 rfl ?_
      refine cr_get C hW.1 0 rfl rfl 5 (by decide) hinX3 k6 (v := .int (vh 5 0)) rfl dX3_buyContractBack_46 ?_
      refine lv_iload_n hx hb dX3_buyContractBack_49 rfl (lv_at hl 0 rfl) ?_
      refine lv_iadd hx hb dX3_buyContractBack_50 ?_
      refine cr_put C hW 0 rfl rfl tyX3 tyX3_ok nmX3 5 (by decide) hinX3 k6 rfl rfl rfl rfl (Nat.le_of_ble_eq_true rfl) (w' := cr_wH ct ah al ak (cr_i vh 5 ((vh 5 0) + ((vh 3 0) * ((vk 1 (cr_x x1)) - x2)))) vl vk) rfl dX3_buyContractBack_51 (fun H locs hW => ?_)
      refine lv_aload_n hx hb dX3_buyContractBack_54 rfl (lv_at hl 1 rfl) ?_
      refine cr_get C hW.1 0 rfl rfl 1 (by decide) hinX3 k0 (v := .ref (ak 0)) rfl dX3_buyContractBack_55 ?_
      refine lv_iload_n hx hb dX3_buyContractBack_58 rfl (lv_at hl 2 rfl) ?_
      obtain ⟨q6, hq6, hE⟩ := cr_bind hE
      refine cr_vVq (n := 1) (As := [.int x1]) (rest := []) C hW (m_X0_drop L D ct ak vk x1 _ q6 hq6) (cwV 1 hts gX3_buyContractBack_X0_drop rfl rfl rfl (by decide +kernel) ⟨Nat.le_of_ble_eq_true rfl, Nat.le_of_ble_eq_true rfl⟩) [8, 9, 10] [0, 1, 2, 3, 4, 5, 6, 7] [0, 1, 2, 3, 4, 5, 6, 7, 8, 9, 10] (cr_wH ct ah al ak (cr_i vh 5 ((vh 5 0) + ((vh 3 0) * ((vk 1 (cr_x x1)) - x2)))) vl q6) rfl rfl rfl ⟨by decide +kernel, by decide +kernel, by decide +kernel, by decide +kernel⟩ 8 rfl rfl rfl hl.1 rfl (Nat.le_of_ble_eq_true rfl) dX3_buyContractBack_59 ⟨Nat.zero_le _, Nat.zero_le _⟩ (fun H locs hW => ?_)
      refine lv_iload_n hx hb dX3_buyContractBack_62 rfl (lv_at hl 0 rfl) ?_
      exact cr_retW C (w := (fun u : cr_V × cr_V => cr_wH ct ah al ak u.1 vl u.2)) (cr_i vh 5 ((vh 5 0) + ((vh 3 0) * ((vk 1 (cr_x x1)) - x2))), q6) hW (Option.some.inj hE) dX3_buyContractBack_63
    · rw [if_pos c4] at hE
      refine cr_ldc C k1 dX3_buyContractBack_22 ?_
      exact cr_retW C (w := (fun u : cr_V × cr_V => cr_wH ct ah al ak u.1 vl u.2)) (vh, vk) hW (Option.some.inj hE) dX3_buyContractBack_24

set_option maxHeartbeats 4000000 in
set_option maxRecDepth 100000 in
theorem m_X3_meetContract (L : Launch) (D : va_G) (ct : Nat → ClassId) (ah : Nat → Nat) (al : Nat → Nat) (ak : Nat → Nat) (ad : Nat → Nat) (vh : cr_V) (vl : cr_V) (vk : cr_V) (vd : cr_V) (x1 : Int32) (sz : Nat) (out : Int32 × cr_V × cr_V × cr_V × cr_V) (hE : f_X3_meetContract vh vl vk vd x1 = some out) : Met L yX3_meetContract wsX3_meetContract ({ frames := 3, cells := 0, slots := 0, locals := 74 } : Room) (cr_pW D ct (cr_wH ct ah al ak vh vl vk ++ cr_wD ct ad vd) sz [.ref (ah 0), .int x1, .ref (ad 0)]) (cr_QW D (cr_wH ct ah al ak vh vl vk ++ cr_wD ct ad vd) sz (fun r (u : cr_V × cr_V × cr_V × cr_V) => (r, u) = out) (fun u : cr_V × cr_V × cr_V × cr_V => cr_wH ct ah al ak u.1 u.2.1 u.2.2.1 ++ cr_wD ct ad u.2.2.2)) 0 0 (va_A (cr_wH ct ah al ak vh vl vk ++ cr_wD ct ad vd) sz) := by
  have k0 : (Cond.fieldLink RX3 127 "CupReceipts$Delivery" "places" "I") ∈ wsX3_meetContract := List.mem_of_getElem? (i := 8) rfl
  have k1 : (Cond.fieldLink RX3 12 "CupReceipts$House" "lots" "LCupReceipts$Lots;") ∈ wsX3_meetContract := List.mem_of_getElem? (i := 9) rfl
  have k2 : (Cond.fieldLink RX3 21 "CupReceipts$House" "contracts" "LCupReceipts$Contracts;") ∈ wsX3_meetContract := List.mem_of_getElem? (i := 1) rfl
  have k3 : (Cond.fieldLink RX3 54 "CupReceipts$House" "account" "I") ∈ wsX3_meetContract := List.mem_of_getElem? (i := 13) rfl
  have k4 : (Cond.fieldLink RX3 134 "CupReceipts$Delivery" "pay" "I") ∈ wsX3_meetContract := List.mem_of_getElem? (i := 14) rfl
  have k5 : (Cond.fieldLink RX3 57 "CupReceipts$House" "contractsMet" "I") ∈ wsX3_meetContract := List.mem_of_getElem? (i := 15) rfl
  have k6 : (Cond.fieldLink RX3 63 "CupReceipts$House" "bagsGiven" "I") ∈ wsX3_meetContract := List.mem_of_getElem? (i := 16) rfl
  have k7 : (Cond.fieldLink RX3 40 "CupReceipts$House" "settings" "[I") ∈ wsX3_meetContract := List.mem_of_getElem? (i := 17) rfl
  have k8 : (Cond.fieldLink RX3 79 "CupReceipts$Lots" "bags" "[I") ∈ wsX3_meetContract := List.mem_of_getElem? (i := 10) rfl
  have k9 : (Cond.fieldLink RX3 130 "CupReceipts$Delivery" "rows" "[I") ∈ wsX3_meetContract := List.mem_of_getElem? (i := 11) rfl
  have k10 : (Cond.fieldLink RX3 133 "CupReceipts$Delivery" "bags" "[I") ∈ wsX3_meetContract := List.mem_of_getElem? (i := 12) rfl
  have k11 : (Cond.fieldLink RX3 117 "CupReceipts$Contracts" "months" "[I") ∈ wsX3_meetContract := List.mem_of_getElem? (i := 3) rfl
  have k12 : (Cond.fieldLink RX3 50 "CupReceipts$House" "month" "I") ∈ wsX3_meetContract := List.mem_of_getElem? (i := 4) rfl
  have k13 : (Cond.fieldLink RX3 110 "CupReceipts$Contracts" "prices" "[I") ∈ wsX3_meetContract := List.mem_of_getElem? (i := 6) rfl
  have k14 : (Cond.fieldLink RX3 124 "CupReceipts$Delivery" "missing" "I") ∈ wsX3_meetContract := List.mem_of_getElem? (i := 7) rfl
  have k15 : (Cond.constant RX3 82 (-2000000002)) ∈ wsX3_meetContract := List.mem_of_getElem? (i := 5) rfl
  have k16 : (Cond.constant RX3 70 (-2000000001)) ∈ wsX3_meetContract := List.mem_of_getElem? (i := 2) rfl
  have hinX0 : ∀ w ∈ wsX00, w ∈ wsX3_meetContract := fun w h => List.mem_cons_of_mem _ (List.mem_append_left _ (List.mem_append_left _ (List.mem_append_right _ h)))
  have hinX1 : ∀ w ∈ wsX10, w ∈ wsX3_meetContract := fun w h => List.mem_cons_of_mem _ (List.mem_append_left _ (List.mem_append_right _ h))
  have hinX3 : ∀ w ∈ wsX30, w ∈ wsX3_meetContract := fun w h => List.mem_cons_of_mem _ (List.mem_append_left _ (List.mem_append_left _ (List.mem_append_left _ (List.mem_append_right _ h))))
  have hinX4 : ∀ w ∈ wsX40, w ∈ wsX3_meetContract := fun w h => List.mem_cons_of_mem _ (List.mem_append_right _ h)
  refine cr_metW (Qc := fun A => va_Qi (fun r (u : cr_V × cr_V × cr_V × cr_V) => (r, u) = out) (fun u t => cr_at D A ((fun u : cr_V × cr_V × cr_V × cr_V => cr_wH ct ah al ak u.1 u.2.1 u.2.2.1 ++ cr_wD ct ad u.2.2.2) u) t) A) (by decide) rfl rfl (Nat.le_of_ble_eq_true rfl) ?_
  intro p e s m args below meth c ls A C hW hl
  obtain ⟨hx, hb, hml, hown, hts, hr, hlocks, hK, hN⟩ := id C
  have hl : lv_has ls 4 [(0, .ref (ah 0)), (1, .int x1), (2, .ref (ad 0))] := hl
  have n63 :  ∀ (n : Nat), ∀ (vh : cr_V) (vl : cr_V) (vk : cr_V) (vd : cr_V) (x1 : Int32) (x3 : Int32) (hE : f_X3_meetContract_63  n vh vl vk vd x1 x3 = some out) (H : Heap) (locs : List Loc) (ls : Array Slot) (hW : cr_wd D A s (cr_wH ct ah al ak vh vl vk ++ cr_wD ct ad vd) H locs) (hl : lv_has ls 4 [(0, .ref (ah 0)), (1, .int x1), (2, .ref (ad 0)), (3, .int x3)]), W p L e ({ frames := 3, cells := 0, slots := 0, locals := 74 } : Room) s m args below meth c H locs 0 0 (MQ below (va_Qi (fun r (u : cr_V × cr_V × cr_V × cr_V) => (r, u) = out) (fun u t => cr_at D A ((fun u : cr_V × cr_V × cr_V × cr_V => cr_wH ct ah al ak u.1 u.2.1 u.2.2.1 ++ cr_wD ct ad u.2.2.2) u) t) A) args s 0 0 A) (F0 m 63 ls []) := by
    intro  n
    induction n with
    | zero =>
      intro vh vl vk vd x1 x3 hE
      cases hE
    | succ n ih =>
      intro vh vl vk vd x1 x3 hE H locs ls hW hl
      replace hE : (if (vd 2 0) ≤ x3 then ((f_X4_dropEmpty vl).bind fun q2 => (f_X0_drop vk x1).bind fun q3 => some ((vd 4 0), cr_i (cr_i (cr_i vh 5 ((vh 5 0) + (vd 4 0))) 6 ((vh 6 0) + 1)) 8 ((vh 8 0) + (vh 3 0)), q2, q3, vd)) else (if cr_in x3 12 = true then if cr_in (vd 0 (cr_x x3)) 12 = true then f_X3_meetContract_63 n vh (cr_a vl 1 (cr_x (vd 0 (cr_x x3))) ((vl 1 (cr_x (vd 0 (cr_x x3)))) - (vd 1 (cr_x x3)))) vk vd x1 (x3 + 1) else none else none)) = some out := hE
      refine lv_iload_n hx hb dX3_meetContract_63 rfl (lv_at hl 3 rfl) ?_
      refine lv_aload_n hx hb dX3_meetContract_64 rfl (lv_at hl 2 rfl) ?_
      refine cr_get C hW.1 11 rfl rfl 2 (by decide) hinX1 k0 (v := .int (vd 2 0)) rfl dX3_meetContract_65 ?_
      refine lv_icmp_ge (tgt := 100) hx hb dX3_meetContract_68 (by decide) (fun c1 => ?_) (fun c1 => ?_)
      · rw [if_pos c1] at hE
        refine lv_aload_n hx hb dX3_meetContract_100 rfl (lv_at hl 0 rfl) ?_
        refine cr_get C hW.1 0 rfl rfl 0 (by decide) hinX3 k1 (v := .ref (al 0)) rfl dX3_meetContract_101 ?_
        obtain ⟨q2, hq2, hE⟩ := cr_bind hE
        refine cr_vVq (n := 0) (As := []) (rest := []) C hW (m_X4_dropEmpty L D ct al vl _ q2 hq2) (cwV 0 hts gX3_meetContract_X4_dropEmpty rfl rfl rfl (by decide +kernel) ⟨Nat.le_of_ble_eq_true rfl, Nat.le_of_ble_eq_true rfl⟩) [3, 4, 5, 6, 7] [0, 1, 2, 8, 9, 10, 11, 12, 13, 14, 15, 16, 17] [0, 1, 2, 13, 14, 15, 16, 17, 3, 4, 5, 6, 7, 8, 9, 10, 11, 12] (cr_wH ct ah al ak vh q2 vk ++ cr_wD ct ad vd) rfl rfl rfl ⟨by decide +kernel, by decide +kernel, by decide +kernel, by decide +kernel⟩ 3 rfl rfl rfl hl.1 rfl (Nat.le_of_ble_eq_true rfl) dX3_meetContract_104 ⟨Nat.zero_le _, Nat.zero_le _⟩ (fun H locs hW => ?_)
        refine lv_aload_n hx hb dX3_meetContract_107 rfl (lv_at hl 0 rfl) ?_
        refine cr_get C hW.1 0 rfl rfl 1 (by decide) hinX3 k2 (v := .ref (ak 0)) rfl dX3_meetContract_108 ?_
        refine lv_iload_n hx hb dX3_meetContract_111 rfl (lv_at hl 1 rfl) ?_
        obtain ⟨q3, hq3, hE⟩ := cr_bind hE
        refine cr_vVq (n := 1) (As := [.int x1]) (rest := []) C hW (m_X0_drop L D ct ak vk x1 _ q3 hq3) (cwV 1 hts gX3_meetContract_X0_drop rfl rfl rfl (by decide +kernel) ⟨Nat.le_of_ble_eq_true rfl, Nat.le_of_ble_eq_true rfl⟩) [8, 9, 10] [0, 1, 2, 3, 4, 5, 6, 7, 11, 12, 13, 14, 15, 16, 17] [0, 1, 2, 3, 4, 5, 6, 7, 15, 16, 17, 8, 9, 10, 11, 12, 13, 14] (cr_wH ct ah al ak vh q2 q3 ++ cr_wD ct ad vd) rfl rfl rfl ⟨by decide +kernel, by decide +kernel, by decide +kernel, by decide +kernel⟩ 8 rfl rfl rfl hl.1 rfl (Nat.le_of_ble_eq_true rfl) dX3_meetContract_112 ⟨Nat.zero_le _, Nat.zero_le _⟩ (fun H locs hW => ?_)
        refine lv_aload_n hx hb dX3_meetContract_115 rfl (lv_at hl 0 rfl) ?_
        refine lv_dup hx hb dX3_meetContract_116 rfl ?_
        refine cr_get C hW.1 0 rfl rfl 5 (by decide) hinX3 k3 (v := .int (vh 5 0)) rfl dX3_meetContract_117 ?_
        refine lv_aload_n hx hb dX3_meetContract_120 rfl (lv_at hl 2 rfl) ?_
        refine cr_get C hW.1 11 rfl rfl 4 (by decide) hinX1 k4 (v := .int (vd 4 0)) rfl dX3_meetContract_121 ?_
        refine lv_iadd hx hb dX3_meetContract_124 ?_
        refine cr_put C hW 0 rfl rfl tyX3 tyX3_ok nmX3 5 (by decide) hinX3 k3 rfl rfl rfl rfl (Nat.le_of_ble_eq_true rfl) (w' := cr_wH ct ah al ak (cr_i vh 5 ((vh 5 0) + (vd 4 0))) q2 q3 ++ cr_wD ct ad vd) rfl dX3_meetContract_125 (fun H locs hW => ?_)
        refine lv_aload_n hx hb dX3_meetContract_128 rfl (lv_at hl 0 rfl) ?_
        refine lv_dup hx hb dX3_meetContract_129 rfl ?_
        refine cr_get C hW.1 0 rfl rfl 6 (by decide) hinX3 k5 (v := .int (vh 6 0)) rfl dX3_meetContract_130 ?_
        refine lv_iconst (v := 1) hx hb dX3_meetContract_133 (by decide) ?_
        refine lv_iadd hx hb dX3_meetContract_134 ?_
        refine cr_put C hW 0 rfl rfl tyX3 tyX3_ok nmX3 6 (by decide) hinX3 k5 rfl rfl rfl rfl (Nat.le_of_ble_eq_true rfl) (w' := cr_wH ct ah al ak (cr_i (cr_i vh 5 ((vh 5 0) + (vd 4 0))) 6 ((vh 6 0) + 1)) q2 q3 ++ cr_wD ct ad vd) rfl dX3_meetContract_135 (fun H locs hW => ?_)
        refine lv_aload_n hx hb dX3_meetContract_138 rfl (lv_at hl 0 rfl) ?_
        refine lv_dup hx hb dX3_meetContract_139 rfl ?_
        refine cr_get C hW.1 0 rfl rfl 8 (by decide) hinX3 k6 (v := .int (vh 8 0)) rfl dX3_meetContract_140 ?_
        refine lv_aload_n hx hb dX3_meetContract_143 rfl (lv_at hl 0 rfl) ?_
        refine cr_get C hW.1 0 rfl rfl 3 (by decide) hinX3 k7 (v := .ref (ah 4)) rfl dX3_meetContract_144 ?_
        refine lv_iconst (v := 0) hx hb dX3_meetContract_147 (by decide) ?_
        refine cr_ald C hW.1 2 (f := vh 3) (k := 0) rfl (by decide) (by decide) dX3_meetContract_148 ?_
        refine lv_iadd hx hb dX3_meetContract_149 ?_
        refine cr_put C hW 0 rfl rfl tyX3 tyX3_ok nmX3 8 (by decide) hinX3 k6 rfl rfl rfl rfl (Nat.le_of_ble_eq_true rfl) (w' := cr_wH ct ah al ak (cr_i (cr_i (cr_i vh 5 ((vh 5 0) + (vd 4 0))) 6 ((vh 6 0) + 1)) 8 ((vh 8 0) + (vh 3 0))) q2 q3 ++ cr_wD ct ad vd) rfl dX3_meetContract_150 (fun H locs hW => ?_)
        refine lv_aload_n hx hb dX3_meetContract_153 rfl (lv_at hl 2 rfl) ?_
        refine cr_get C hW.1 11 rfl rfl 4 (by decide) hinX1 k4 (v := .int (vd 4 0)) rfl dX3_meetContract_154 ?_
        exact cr_retW C (w := (fun u : cr_V × cr_V × cr_V × cr_V => cr_wH ct ah al ak u.1 u.2.1 u.2.2.1 ++ cr_wD ct ad u.2.2.2)) (cr_i (cr_i (cr_i vh 5 ((vh 5 0) + (vd 4 0))) 6 ((vh 6 0) + 1)) 8 ((vh 8 0) + (vh 3 0)), q2, q3, vd) hW (Option.some.inj hE) dX3_meetContract_157
      · rw [if_neg c1] at hE
        refine lv_aload_n hx hb dX3_meetContract_71 rfl (lv_at hl 0 rfl) ?_
        refine cr_get C hW.1 0 rfl rfl 0 (by decide) hinX3 k1 (v := .ref (al 0)) rfl dX3_meetContract_72 ?_
        refine cr_get C hW.1 3 rfl rfl 1 (by decide) hinX4 k8 (v := .ref (al 2)) rfl dX3_meetContract_75 ?_
        refine lv_aload_n hx hb dX3_meetContract_78 rfl (lv_at hl 2 rfl) ?_
        refine cr_get C hW.1 11 rfl rfl 0 (by decide) hinX1 k9 (v := .ref (ad 1)) rfl dX3_meetContract_79 ?_
        refine lv_iload_n hx hb dX3_meetContract_82 rfl (lv_at hl 3 rfl) ?_
        obtain ⟨i4, hE⟩ := cr_ifn hE
        refine cr_ald C hW.1 12 (f := vd 0) (k := cr_x x3) rfl i4 (cr_xe _) dX3_meetContract_83 ?_
        refine lv_dup2_11 hx hb dX3_meetContract_84 rfl rfl ?_
        obtain ⟨i5, hE⟩ := cr_ifn hE
        refine cr_ald C hW.1 5 (f := vl 1) (k := cr_x (vd 0 (cr_x x3))) rfl i5 (cr_xe _) dX3_meetContract_85 ?_
        refine lv_aload_n hx hb dX3_meetContract_86 rfl (lv_at hl 2 rfl) ?_
        refine cr_get C hW.1 11 rfl rfl 1 (by decide) hinX1 k10 (v := .ref (ad 2)) rfl dX3_meetContract_87 ?_
        refine lv_iload_n hx hb dX3_meetContract_90 rfl (lv_at hl 3 rfl) ?_
        refine cr_ald C hW.1 13 (f := vd 1) (k := cr_x x3) rfl i4 (cr_xe _) dX3_meetContract_91 ?_
        refine lv_isub hx hb dX3_meetContract_92 ?_
        refine cr_ast C hW 5 rfl (k := (cr_x (vd 0 (cr_x x3)))) i5 (cr_xe _) (w' := cr_wH ct ah al ak vh (cr_a vl 1 (cr_x (vd 0 (cr_x x3))) ((vl 1 (cr_x (vd 0 (cr_x x3)))) - (vd 1 (cr_x x3)))) vk ++ cr_wD ct ad vd) rfl dX3_meetContract_93 (fun H locs hW => ?_)
        refine lv_iinc (v := x3 + 1) (lv' := [(3, .int (x3 + 1)), (0, .ref (ah 0)), (1, .int x1), (2, .ref (ad 0))]) hx hb dX3_meetContract_94 hl (k := 3) rfl (by first | rfl | decide) (by decide) rfl (fun ls hl => ?_)
        refine lv_goto (tgt := 63) hx hb dX3_meetContract_97 (by decide) ?_
        exact ih vh (cr_a vl 1 (cr_x (vd 0 (cr_x x3))) ((vl 1 (cr_x (vd 0 (cr_x x3)))) - (vd 1 (cr_x x3)))) vk vd x1 (x3 + 1) hE _ _ _ hW (lv_sub hl [1, 2, 3, 0] rfl)
  replace hE : ((f_X0_isOpen vk x1).bind fun q6 => if q6 = 0 then (some ((-2000000001), vh, vl, vk, vd)) else (if cr_in x1 6 = true then if (vk 0 (cr_x x1)) = (vh 4 0) then ((f_X1_plan vd vh vl vk (vk 1 (cr_x x1)) (vh 4 0)).bind fun q10 => if (q10 3 0) ≤ 0 then (f_X3_meetContract_63 10100 vh vl vk q10 x1 0) else (some ((-2000000002), vh, vl, vk, q10))) else (some ((-2000000002), vh, vl, vk, vd)) else none)) = some out := hE
  refine lv_aload_n hx hb dX3_meetContract_0 rfl (lv_at hl 0 rfl) ?_
  refine cr_get C hW.1 0 rfl rfl 1 (by decide) hinX3 k2 (v := .ref (ak 0)) rfl dX3_meetContract_1 ?_
  refine lv_iload_n hx hb dX3_meetContract_4 rfl (lv_at hl 1 rfl) ?_
  obtain ⟨q6, hq6, hE⟩ := cr_bind hE
  refine cr_vRwq (n := 1) (As := [.int x1]) (rest := []) C hW (m_X0_isOpen L D ct ak vk x1 q6 hq6) (cwV 1 hts gX3_meetContract_X0_isOpen rfl rfl rfl (by decide +kernel) ⟨Nat.le_of_ble_eq_true rfl, Nat.le_of_ble_eq_true rfl⟩) [8, 9, 10] rfl 8 rfl rfl rfl hl.1 rfl (Nat.le_of_ble_eq_true rfl) dX3_meetContract_5 ⟨Nat.zero_le _, Nat.zero_le _⟩ (fun H locs hW => ?_)
  refine lv_if_ne (tgt := 14) hx hb dX3_meetContract_8 (by decide) (fun c7 => ?_) (fun c7 => ?_)
  · rw [if_neg c7] at hE
    refine lv_aload_n hx hb dX3_meetContract_14 rfl (lv_at hl 0 rfl) ?_
    refine cr_get C hW.1 0 rfl rfl 1 (by decide) hinX3 k2 (v := .ref (ak 0)) rfl dX3_meetContract_15 ?_
    refine cr_get C hW.1 8 rfl rfl 0 (by decide) hinX0 k11 (v := .ref (ak 1)) rfl dX3_meetContract_18 ?_
    refine lv_iload_n hx hb dX3_meetContract_21 rfl (lv_at hl 1 rfl) ?_
    obtain ⟨i8, hE⟩ := cr_ifn hE
    refine cr_ald C hW.1 9 (f := vk 0) (k := cr_x x1) rfl i8 (cr_xe _) dX3_meetContract_22 ?_
    refine lv_aload_n hx hb dX3_meetContract_23 rfl (lv_at hl 0 rfl) ?_
    refine cr_get C hW.1 0 rfl rfl 4 (by decide) hinX3 k12 (v := .int (vh 4 0)) rfl dX3_meetContract_24 ?_
    refine lv_icmp_eq (tgt := 33) hx hb dX3_meetContract_27 (by decide) (fun c9 => ?_) (fun c9 => ?_)
    · rw [if_pos c9] at hE
      refine lv_aload_n hx hb dX3_meetContract_33 rfl (lv_at hl 2 rfl) ?_
      refine lv_aload_n hx hb dX3_meetContract_34 rfl (lv_at hl 0 rfl) ?_
      refine lv_aload_n hx hb dX3_meetContract_35 rfl (lv_at hl 0 rfl) ?_
      refine cr_get C hW.1 0 rfl rfl 1 (by decide) hinX3 k2 (v := .ref (ak 0)) rfl dX3_meetContract_36 ?_
      refine cr_get C hW.1 8 rfl rfl 1 (by decide) hinX0 k13 (v := .ref (ak 2)) rfl dX3_meetContract_39 ?_
      refine lv_iload_n hx hb dX3_meetContract_42 rfl (lv_at hl 1 rfl) ?_
      refine cr_ald C hW.1 10 (f := vk 1) (k := cr_x x1) rfl i8 (cr_xe _) dX3_meetContract_43 ?_
      refine lv_aload_n hx hb dX3_meetContract_44 rfl (lv_at hl 0 rfl) ?_
      refine cr_get C hW.1 0 rfl rfl 4 (by decide) hinX3 k12 (v := .int (vh 4 0)) rfl dX3_meetContract_45 ?_
      obtain ⟨q10, hq10, hE⟩ := cr_bind hE
      refine cr_vVq (n := 3) (As := [.ref (ah 0), .int (vk 1 (cr_x x1)), .int (vh 4 0)]) (rest := []) C hW (m_X1_plan L D ct ad ah al ak vd vh vl vk (vk 1 (cr_x x1)) (vh 4 0) _ q10 hq10) (cwV 3 hts gX3_meetContract_X1_plan rfl rfl rfl (by decide +kernel) ⟨Nat.le_of_ble_eq_true rfl, Nat.le_of_ble_eq_true rfl⟩) [11, 12, 13, 14, 15, 16, 17, 0, 1, 2, 3, 4, 5, 6, 7, 8, 9, 10] [] [7, 8, 9, 10, 11, 12, 13, 14, 15, 16, 17, 0, 1, 2, 3, 4, 5, 6] (cr_wH ct ah al ak vh vl vk ++ cr_wD ct ad q10) rfl rfl rfl ⟨by decide +kernel, by decide +kernel, by decide +kernel, by decide +kernel⟩ 11 rfl rfl rfl hl.1 rfl (Nat.le_of_ble_eq_true rfl) dX3_meetContract_48 ⟨Nat.zero_le _, Nat.zero_le _⟩ (fun H locs hW => ?_)
      refine lv_aload_n hx hb dX3_meetContract_51 rfl (lv_at hl 2 rfl) ?_
      refine cr_get C hW.1 11 rfl rfl 3 (by decide) hinX1 k14 (v := .int (q10 3 0)) rfl dX3_meetContract_52 ?_
      refine lv_if_le (tgt := 61) hx hb dX3_meetContract_55 (by decide) (fun c11 => ?_) (fun c11 => ?_)
      · rw [if_pos c11] at hE
        refine lv_iconst (v := 0) hx hb dX3_meetContract_61 (by decide) ?_
        refine lv_istore_n (lv' := [(3, .int 0), (0, .ref (ah 0)), (1, .int x1), (2, .ref (ad 0))]) hx hb dX3_meetContract_62 rfl hl (by decide) rfl (fun ls hl => ?_)
        exact n63 10100 vh vl vk q10 x1 0 hE _ _ _ hW (lv_sub hl [1, 2, 3, 0] rfl)
      · rw [if_neg c11] at hE
        refine cr_ldc C k15 dX3_meetContract_58 ?_
        exact cr_retW C (w := (fun u : cr_V × cr_V × cr_V × cr_V => cr_wH ct ah al ak u.1 u.2.1 u.2.2.1 ++ cr_wD ct ad u.2.2.2)) (vh, vl, vk, q10) hW (Option.some.inj hE) dX3_meetContract_60
    · rw [if_neg c9] at hE
      refine cr_ldc C k15 dX3_meetContract_30 ?_
      exact cr_retW C (w := (fun u : cr_V × cr_V × cr_V × cr_V => cr_wH ct ah al ak u.1 u.2.1 u.2.2.1 ++ cr_wD ct ad u.2.2.2)) (vh, vl, vk, vd) hW (Option.some.inj hE) dX3_meetContract_32
  · rw [if_pos c7] at hE
    refine cr_ldc C k16 dX3_meetContract_11 ?_
    exact cr_retW C (w := (fun u : cr_V × cr_V × cr_V × cr_V => cr_wH ct ah al ak u.1 u.2.1 u.2.2.1 ++ cr_wD ct ad u.2.2.2)) (vh, vl, vk, vd) hW (Option.some.inj hE) dX3_meetContract_13

set_option maxHeartbeats 4000000 in
set_option maxRecDepth 100000 in
theorem m_X3_passMonths (L : Launch) (D : va_G) (ct : Nat → ClassId) (ah : Nat → Nat) (al : Nat → Nat) (ak : Nat → Nat) (vh : cr_V) (vl : cr_V) (vk : cr_V) (x1 : Int32) (sz : Nat) (out : Int32 × cr_V × cr_V) (hE : f_X3_passMonths vh vl vk x1 = some out) : Met L yX3_passMonths wsX3_passMonths ({ frames := 1, cells := 0, slots := 0, locals := 23 } : Room) (cr_pW D ct (cr_wH ct ah al ak vh vl vk) sz [.ref (ah 0), .int x1]) (cr_QW D (cr_wH ct ah al ak vh vl vk) sz (fun r (u : cr_V × cr_V) => (r, u) = out) (fun u : cr_V × cr_V => cr_wH ct ah al ak u.1 vl u.2)) 0 0 (va_A (cr_wH ct ah al ak vh vl vk) sz) := by
  have k0 : (Cond.initialized RX6) ∈ wsX3_passMonths := List.mem_of_getElem? (i := 9) rfl
  have k1 : (Cond.static yX6_isWithin) ∈ wsX3_passMonths := List.mem_of_getElem? (i := 8) rfl
  have k2 : (Cond.fieldLink RX3 50 "CupReceipts$House" "month" "I") ∈ wsX3_passMonths := List.mem_of_getElem? (i := 2) rfl
  have k3 : (Cond.fieldLink RX3 21 "CupReceipts$House" "contracts" "LCupReceipts$Contracts;") ∈ wsX3_passMonths := List.mem_of_getElem? (i := 4) rfl
  have k4 : (Cond.fieldLink RX3 60 "CupReceipts$House" "contractsFailed" "I") ∈ wsX3_passMonths := List.mem_of_getElem? (i := 5) rfl
  have k5 : (Cond.fieldLink RX3 54 "CupReceipts$House" "account" "I") ∈ wsX3_passMonths := List.mem_of_getElem? (i := 6) rfl
  have k6 : (Cond.fieldLink RX3 40 "CupReceipts$House" "settings" "[I") ∈ wsX3_passMonths := List.mem_of_getElem? (i := 7) rfl
  have k7 : (Cond.constant RX3 87 (-2000000003)) ∈ wsX3_passMonths := List.mem_of_getElem? (i := 3) rfl
  have k8 : (Cond.constant RX3 70 (-2000000001)) ∈ wsX3_passMonths := List.mem_of_getElem? (i := 1) rfl
  have hinX3 : ∀ w ∈ wsX30, w ∈ wsX3_passMonths := fun w h => List.mem_cons_of_mem _ (List.mem_append_left _ (List.mem_append_right _ h))
  refine cr_metW (Qc := fun A => va_Qi (fun r (u : cr_V × cr_V) => (r, u) = out) (fun u t => cr_at D A ((fun u : cr_V × cr_V => cr_wH ct ah al ak u.1 vl u.2) u) t) A) (by decide) rfl rfl (Nat.le_of_ble_eq_true rfl) ?_
  intro p e s m args below meth c ls A C hW hl
  obtain ⟨hx, hb, hml, hown, hts, hr, hlocks, hK, hN⟩ := id C
  have hl : lv_has ls 3 [(0, .ref (ah 0)), (1, .int x1)] := hl
  replace hE : ((f_X6_isWithin x1 1 24).bind fun q1 => if q1 = 0 then (some ((-2000000001), vh, vk)) else (if ((vh 4 0) + x1) ≤ 999 then ((f_X0_dropBefore vk ((vh 4 0) + x1)).bind fun q4 => some (q4.1, cr_i (cr_i (cr_i vh 4 ((vh 4 0) + x1)) 7 ((vh 7 0) + q4.1)) 5 ((vh 5 0) - ((q4.1 * (vh 3 0)) * (vh 3 4))), q4.2)) else (some ((-2000000003), vh, vk)))) = some out := hE
  refine lv_iload_n hx hb dX3_passMonths_0 rfl (lv_at hl 1 rfl) ?_
  refine lv_iconst (v := 1) hx hb dX3_passMonths_1 (by decide) ?_
  refine lv_bipush (v := 24) hx hb dX3_passMonths_2 (by decide) ?_
  obtain ⟨q1, hq1, hE⟩ := cr_bind hE
  refine cr_nRwq (n := 3) (As := [.int x1, .int 1, .int 24]) (rest := []) C hW (m_X6_isWithin L D ct x1 1 24 q1 hq1) ⟨va_cnB 3 hts gX3_passMonths_X6_isWithin_n66 rfl rfl rfl hN.2.2.1 (hts _ k0) (by decide +kernel) ⟨Nat.le_of_ble_eq_true rfl, Nat.le_of_ble_eq_true rfl⟩, hts _ k1, trivial⟩ rfl hl.1 rfl (Nat.le_of_ble_eq_true rfl) dX3_passMonths_4 ⟨Nat.zero_le _, Nat.zero_le _⟩ (fun H locs hW => ?_)
  refine lv_if_ne (tgt := 13) hx hb dX3_passMonths_7 (by decide) (fun c2 => ?_) (fun c2 => ?_)
  · rw [if_neg c2] at hE
    refine lv_aload_n hx hb dX3_passMonths_13 rfl (lv_at hl 0 rfl) ?_
    refine cr_get C hW.1 0 rfl rfl 4 (by decide) hinX3 k2 (v := .int (vh 4 0)) rfl dX3_passMonths_14 ?_
    refine lv_iload_n hx hb dX3_passMonths_17 rfl (lv_at hl 1 rfl) ?_
    refine lv_iadd hx hb dX3_passMonths_18 ?_
    refine lv_sipush (v := 999) hx hb dX3_passMonths_19 (by decide) ?_
    refine lv_icmp_le (tgt := 28) hx hb dX3_passMonths_22 (by decide) (fun c3 => ?_) (fun c3 => ?_)
    · rw [if_pos c3] at hE
      refine lv_aload_n hx hb dX3_passMonths_28 rfl (lv_at hl 0 rfl) ?_
      refine lv_dup hx hb dX3_passMonths_29 rfl ?_
      refine cr_get C hW.1 0 rfl rfl 4 (by decide) hinX3 k2 (v := .int (vh 4 0)) rfl dX3_passMonths_30 ?_
      refine lv_iload_n hx hb dX3_passMonths_33 rfl (lv_at hl 1 rfl) ?_
      refine lv_iadd hx hb dX3_passMonths_34 ?_
      refine cr_put C hW 0 rfl rfl tyX3 tyX3_ok nmX3 4 (by decide) hinX3 k2 rfl rfl rfl rfl (Nat.le_of_ble_eq_true rfl) (w' := cr_wH ct ah al ak (cr_i vh 4 ((vh 4 0) + x1)) vl vk) rfl dX3_passMonths_35 (fun H locs hW => ?_)
      refine lv_aload_n hx hb dX3_passMonths_38 rfl (lv_at hl 0 rfl) ?_
      refine cr_get C hW.1 0 rfl rfl 1 (by decide) hinX3 k3 (v := .ref (ak 0)) rfl dX3_passMonths_39 ?_
      refine lv_aload_n hx hb dX3_passMonths_42 rfl (lv_at hl 0 rfl) ?_
      refine cr_get C hW.1 0 rfl rfl 4 (by decide) hinX3 k2 (v := .int ((vh 4 0) + x1)) rfl dX3_passMonths_43 ?_
      obtain ⟨q4, hq4, hE⟩ := cr_bind hE
      refine cr_vWq (n := 1) (As := [.int ((vh 4 0) + x1)]) (rest := []) C hW (m_X0_dropBefore L D ct ak vk ((vh 4 0) + x1) _ q4 hq4) (cwV 1 hts gX3_passMonths_X0_dropBefore rfl rfl rfl (by decide +kernel) ⟨Nat.le_of_ble_eq_true rfl, Nat.le_of_ble_eq_true rfl⟩) [8, 9, 10] [0, 1, 2, 3, 4, 5, 6, 7] [0, 1, 2, 3, 4, 5, 6, 7, 8, 9, 10] (cr_wH ct ah al ak (cr_i vh 4 ((vh 4 0) + x1)) vl q4.2) rfl rfl rfl ⟨by decide +kernel, by decide +kernel, by decide +kernel, by decide +kernel⟩ 8 rfl rfl rfl hl.1 rfl (Nat.le_of_ble_eq_true rfl) dX3_passMonths_46 ⟨Nat.zero_le _, Nat.zero_le _⟩ (fun H locs hW => ?_)
      refine lv_istore_n (lv' := [(2, .int q4.1), (0, .ref (ah 0)), (1, .int x1)]) hx hb dX3_passMonths_49 rfl hl (by decide) rfl (fun ls hl => ?_)
      refine lv_aload_n hx hb dX3_passMonths_50 rfl (lv_at hl 1 rfl) ?_
      refine lv_dup hx hb dX3_passMonths_51 rfl ?_
      refine cr_get C hW.1 0 rfl rfl 7 (by decide) hinX3 k4 (v := .int (vh 7 0)) rfl dX3_passMonths_52 ?_
      refine lv_iload_n hx hb dX3_passMonths_55 rfl (lv_at hl 0 rfl) ?_
      refine lv_iadd hx hb dX3_passMonths_56 ?_
      refine cr_put C hW 0 rfl rfl tyX3 tyX3_ok nmX3 7 (by decide) hinX3 k4 rfl rfl rfl rfl (Nat.le_of_ble_eq_true rfl) (w' := cr_wH ct ah al ak (cr_i (cr_i vh 4 ((vh 4 0) + x1)) 7 ((vh 7 0) + q4.1)) vl q4.2) rfl dX3_passMonths_57 (fun H locs hW => ?_)
      refine lv_aload_n hx hb dX3_passMonths_60 rfl (lv_at hl 1 rfl) ?_
      refine lv_dup hx hb dX3_passMonths_61 rfl ?_
      refine cr_get C hW.1 0 rfl rfl 5 (by decide) hinX3 k5 (v := .int (vh 5 0)) rfl dX3_passMonths_62 ?_
      refine lv_iload_n hx hb dX3_passMonths_65 rfl (lv_at hl 0 rfl) ?_
      refine lv_aload_n hx hb dX3_passMonths_66 rfl (lv_at hl 1 rfl) ?_
      refine cr_get C hW.1 0 rfl rfl 3 (by decide) hinX3 k6 (v := .ref (ah 4)) rfl dX3_passMonths_67 ?_
      refine lv_iconst (v := 0) hx hb dX3_passMonths_70 (by decide) ?_
      refine cr_ald C hW.1 2 (f := vh 3) (k := 0) rfl (by decide) (by decide) dX3_passMonths_71 ?_
      refine lv_imul hx hb dX3_passMonths_72 ?_
      refine lv_aload_n hx hb dX3_passMonths_73 rfl (lv_at hl 1 rfl) ?_
      refine cr_get C hW.1 0 rfl rfl 3 (by decide) hinX3 k6 (v := .ref (ah 4)) rfl dX3_passMonths_74 ?_
      refine lv_iconst (v := 4) hx hb dX3_passMonths_77 (by decide) ?_
      refine cr_ald C hW.1 2 (f := vh 3) (k := 4) rfl (by decide) (by decide) dX3_passMonths_78 ?_
      refine lv_imul hx hb dX3_passMonths_79 ?_
      refine lv_isub hx hb dX3_passMonths_80 ?_
      refine cr_put C hW 0 rfl rfl tyX3 tyX3_ok nmX3 5 (by decide) hinX3 k5 rfl rfl rfl rfl (Nat.le_of_ble_eq_true rfl) (w' := cr_wH ct ah al ak (cr_i (cr_i (cr_i vh 4 ((vh 4 0) + x1)) 7 ((vh 7 0) + q4.1)) 5 ((vh 5 0) - ((q4.1 * (vh 3 0)) * (vh 3 4)))) vl q4.2) rfl dX3_passMonths_81 (fun H locs hW => ?_)
      refine lv_iload_n hx hb dX3_passMonths_84 rfl (lv_at hl 0 rfl) ?_
      exact cr_retW C (w := (fun u : cr_V × cr_V => cr_wH ct ah al ak u.1 vl u.2)) (cr_i (cr_i (cr_i vh 4 ((vh 4 0) + x1)) 7 ((vh 7 0) + q4.1)) 5 ((vh 5 0) - ((q4.1 * (vh 3 0)) * (vh 3 4))), q4.2) hW (Option.some.inj hE) dX3_passMonths_85
    · rw [if_neg c3] at hE
      refine cr_ldc C k7 dX3_passMonths_25 ?_
      exact cr_retW C (w := (fun u : cr_V × cr_V => cr_wH ct ah al ak u.1 vl u.2)) (vh, vk) hW (Option.some.inj hE) dX3_passMonths_27
  · rw [if_pos c2] at hE
    refine cr_ldc C k8 dX3_passMonths_10 ?_
    exact cr_retW C (w := (fun u : cr_V × cr_V => cr_wH ct ah al ak u.1 vl u.2)) (vh, vk) hW (Option.some.inj hE) dX3_passMonths_12

set_option maxHeartbeats 4000000 in
set_option maxRecDepth 100000 in
theorem m_X3_tellOfLot (L : Launch) (D : va_G) (ct : Nat → ClassId) (ah : Nat → Nat) (al : Nat → Nat) (ak : Nat → Nat) (vh : cr_V) (vl : cr_V) (vk : cr_V) (x1 : Int32) (x2 : Int32) (out : Int32) (hE : f_X3_tellOfLot vh vl vk x1 x2 = some out) : Met L yX3_tellOfLot wsX3_tellOfLot ({ frames := 1, cells := 0, slots := 0, locals := 23 } : Room) (cr_pR D ct (cr_wH ct ah al ak vh vl vk) [.ref (ah 0), .int x1, .int x2]) (cr_QR (fun r => r = out)) 0 0 cr_no := by
  have k0 : (Cond.fieldLink RX3 12 "CupReceipts$House" "lots" "LCupReceipts$Lots;") ∈ wsX3_tellOfLot := List.mem_of_getElem? (i := 1) rfl
  have k1 : (Cond.fieldLink RX3 79 "CupReceipts$Lots" "bags" "[I") ∈ wsX3_tellOfLot := List.mem_of_getElem? (i := 2) rfl
  have k2 : (Cond.fieldLink RX3 88 "CupReceipts$Lots" "cups" "[I") ∈ wsX3_tellOfLot := List.mem_of_getElem? (i := 3) rfl
  have k3 : (Cond.fieldLink RX3 91 "CupReceipts$Lots" "months" "[I") ∈ wsX3_tellOfLot := List.mem_of_getElem? (i := 4) rfl
  have k4 : (Cond.fieldLink RX3 50 "CupReceipts$House" "month" "I") ∈ wsX3_tellOfLot := List.mem_of_getElem? (i := 5) rfl
  have k5 : (Cond.fieldLink RX3 34 "CupReceipts$House" "worths" "[I") ∈ wsX3_tellOfLot := List.mem_of_getElem? (i := 6) rfl
  have k6 : (Cond.initialized RX6) ∈ wsX3_tellOfLot := List.mem_of_getElem? (i := 16) rfl
  have k7 : (Cond.static yX6_bandOf) ∈ wsX3_tellOfLot := List.mem_of_getElem? (i := 15) rfl
  have k8 : (Cond.constant RX3 70 (-2000000001)) ∈ wsX3_tellOfLot := List.mem_of_getElem? (i := 7) rfl
  have hinX3 : ∀ w ∈ wsX30, w ∈ wsX3_tellOfLot := fun w h => List.mem_cons_of_mem _ (List.mem_append_left _ (List.mem_append_right _ h))
  have hinX4 : ∀ w ∈ wsX40, w ∈ wsX3_tellOfLot := fun w h => List.mem_cons_of_mem _ (List.mem_append_right _ h)
  refine cr_metR (by decide) rfl rfl (Nat.le_of_ble_eq_true rfl) ?_
  intro p e s m args below meth c ls C hP hS hl
  obtain ⟨hx, hb, hml, hown, hts, hr, hlocks, hK, hN⟩ := id C
  have hl : lv_has ls 3 [(0, .ref (ah 0)), (1, .int x1), (2, .int x2)] := hl
  replace hE : (if x2 = 0 then (if cr_in x1 12 = true then some (vl 1 (cr_x x1)) else none) else (if x2 = 1 then (if cr_in x1 12 = true then some (vl 2 (cr_x x1)) else none) else (if x2 = 2 then (if cr_in x1 12 = true then some (vl 3 (cr_x x1)) else none) else (if x2 = 3 then ((f_X4_cupAt vl x1 (vh 4 0)).bind fun q8 => some q8) else (if x2 = 4 then ((f_X4_cupAt vl x1 (vh 4 0)).bind fun q10 => (f_X6_bandOf q10).bind fun q11 => if cr_in q11 4 = true then some (vh 2 (cr_x q11)) else none) else (if x2 = 5 then ((f_X4_monthsTooOld vl x1 (vh 4 0)).bind fun q14 => some q14) else (if x2 = 6 then ((f_X4_cupAt vl x1 (vh 4 0)).bind fun q16 => (f_X6_bandOf q16).bind fun q17 => some q17) else (some (-2000000001))))))))) = some out := hE
  refine lv_iload_n hx hb dX3_tellOfLot_0 rfl (lv_at hl 2 rfl) ?_
  by_cases c1 : x2 = 0
  · rw [if_pos c1] at hE
    refine lv_tableIn (tgt := 44) (off := 43) hx hb dX3_tellOfLot_1 (by rw [c1]; decide) (by rw [c1]; decide) (by rw [c1]; rfl) (by decide) ?_
    refine lv_aload_n hx hb dX3_tellOfLot_44 rfl (lv_at hl 0 rfl) ?_
    refine cr_get C hP 0 rfl rfl 0 (by decide) hinX3 k0 (v := .ref (al 0)) rfl dX3_tellOfLot_45 ?_
    refine cr_get C hP 3 rfl rfl 1 (by decide) hinX4 k1 (v := .ref (al 2)) rfl dX3_tellOfLot_48 ?_
    refine lv_iload_n hx hb dX3_tellOfLot_51 rfl (lv_at hl 1 rfl) ?_
    obtain ⟨i2, hE⟩ := cr_ifn hE
    refine cr_ald C hP 5 (f := vl 1) (k := cr_x x1) rfl i2 (cr_xe _) dX3_tellOfLot_52 ?_
    exact cr_retR C hS (Option.some.inj hE) dX3_tellOfLot_53
  · rw [if_neg c1] at hE
    by_cases c3 : x2 = 1
    · rw [if_pos c3] at hE
      refine lv_tableIn (tgt := 54) (off := 53) hx hb dX3_tellOfLot_1 (by rw [c3]; decide) (by rw [c3]; decide) (by rw [c3]; rfl) (by decide) ?_
      refine lv_aload_n hx hb dX3_tellOfLot_54 rfl (lv_at hl 0 rfl) ?_
      refine cr_get C hP 0 rfl rfl 0 (by decide) hinX3 k0 (v := .ref (al 0)) rfl dX3_tellOfLot_55 ?_
      refine cr_get C hP 3 rfl rfl 2 (by decide) hinX4 k2 (v := .ref (al 3)) rfl dX3_tellOfLot_58 ?_
      refine lv_iload_n hx hb dX3_tellOfLot_61 rfl (lv_at hl 1 rfl) ?_
      obtain ⟨i4, hE⟩ := cr_ifn hE
      refine cr_ald C hP 6 (f := vl 2) (k := cr_x x1) rfl i4 (cr_xe _) dX3_tellOfLot_62 ?_
      exact cr_retR C hS (Option.some.inj hE) dX3_tellOfLot_63
    · rw [if_neg c3] at hE
      by_cases c5 : x2 = 2
      · rw [if_pos c5] at hE
        refine lv_tableIn (tgt := 64) (off := 63) hx hb dX3_tellOfLot_1 (by rw [c5]; decide) (by rw [c5]; decide) (by rw [c5]; rfl) (by decide) ?_
        refine lv_aload_n hx hb dX3_tellOfLot_64 rfl (lv_at hl 0 rfl) ?_
        refine cr_get C hP 0 rfl rfl 0 (by decide) hinX3 k0 (v := .ref (al 0)) rfl dX3_tellOfLot_65 ?_
        refine cr_get C hP 3 rfl rfl 3 (by decide) hinX4 k3 (v := .ref (al 4)) rfl dX3_tellOfLot_68 ?_
        refine lv_iload_n hx hb dX3_tellOfLot_71 rfl (lv_at hl 1 rfl) ?_
        obtain ⟨i6, hE⟩ := cr_ifn hE
        refine cr_ald C hP 7 (f := vl 3) (k := cr_x x1) rfl i6 (cr_xe _) dX3_tellOfLot_72 ?_
        exact cr_retR C hS (Option.some.inj hE) dX3_tellOfLot_73
      · rw [if_neg c5] at hE
        by_cases c7 : x2 = 3
        · rw [if_pos c7] at hE
          refine lv_tableIn (tgt := 74) (off := 73) hx hb dX3_tellOfLot_1 (by rw [c7]; decide) (by rw [c7]; decide) (by rw [c7]; rfl) (by decide) ?_
          refine lv_aload_n hx hb dX3_tellOfLot_74 rfl (lv_at hl 0 rfl) ?_
          refine cr_get C hP 0 rfl rfl 0 (by decide) hinX3 k0 (v := .ref (al 0)) rfl dX3_tellOfLot_75 ?_
          refine lv_iload_n hx hb dX3_tellOfLot_78 rfl (lv_at hl 1 rfl) ?_
          refine lv_aload_n hx hb dX3_tellOfLot_79 rfl (lv_at hl 0 rfl) ?_
          refine cr_get C hP 0 rfl rfl 4 (by decide) hinX3 k4 (v := .int (vh 4 0)) rfl dX3_tellOfLot_80 ?_
          obtain ⟨q8, hq8, hE⟩ := cr_bind hE
          refine cr_vRq (n := 2) (As := [.int x1, .int (vh 4 0)]) (rest := []) C hP hS (m_X4_cupAt L D ct al vl x1 (vh 4 0) q8 hq8) (cwV 2 hts gX3_tellOfLot_X4_cupAt rfl rfl rfl (by decide +kernel) ⟨Nat.le_of_ble_eq_true rfl, Nat.le_of_ble_eq_true rfl⟩) [3, 4, 5, 6, 7] rfl 3 rfl rfl rfl hl.1 rfl (Nat.le_of_ble_eq_true rfl) dX3_tellOfLot_83 ⟨Nat.zero_le _, Nat.zero_le _⟩ (fun H locs hP hS => ?_)
          exact cr_retR C hS (Option.some.inj hE) dX3_tellOfLot_86
        · rw [if_neg c7] at hE
          by_cases c9 : x2 = 4
          · rw [if_pos c9] at hE
            refine lv_tableIn (tgt := 87) (off := 86) hx hb dX3_tellOfLot_1 (by rw [c9]; decide) (by rw [c9]; decide) (by rw [c9]; rfl) (by decide) ?_
            refine lv_aload_n hx hb dX3_tellOfLot_87 rfl (lv_at hl 0 rfl) ?_
            refine cr_get C hP 0 rfl rfl 2 (by decide) hinX3 k5 (v := .ref (ah 3)) rfl dX3_tellOfLot_88 ?_
            refine lv_aload_n hx hb dX3_tellOfLot_91 rfl (lv_at hl 0 rfl) ?_
            refine cr_get C hP 0 rfl rfl 0 (by decide) hinX3 k0 (v := .ref (al 0)) rfl dX3_tellOfLot_92 ?_
            refine lv_iload_n hx hb dX3_tellOfLot_95 rfl (lv_at hl 1 rfl) ?_
            refine lv_aload_n hx hb dX3_tellOfLot_96 rfl (lv_at hl 0 rfl) ?_
            refine cr_get C hP 0 rfl rfl 4 (by decide) hinX3 k4 (v := .int (vh 4 0)) rfl dX3_tellOfLot_97 ?_
            obtain ⟨q10, hq10, hE⟩ := cr_bind hE
            refine cr_vRq (n := 2) (As := [.int x1, .int (vh 4 0)]) (rest := [.ref (ah 3)]) C hP hS (m_X4_cupAt L D ct al vl x1 (vh 4 0) q10 hq10) (cwV 2 hts gX3_tellOfLot_X4_cupAt rfl rfl rfl (by decide +kernel) ⟨Nat.le_of_ble_eq_true rfl, Nat.le_of_ble_eq_true rfl⟩) [3, 4, 5, 6, 7] rfl 3 rfl rfl rfl hl.1 rfl (Nat.le_of_ble_eq_true rfl) dX3_tellOfLot_100 ⟨Nat.zero_le _, Nat.zero_le _⟩ (fun H locs hP hS => ?_)
            obtain ⟨q11, hq11, hE⟩ := cr_bind hE
            refine cr_nRq (n := 1) (As := [.int q10]) (rest := [.ref (ah 3)]) C hP hS (m_X6_bandOf L D ct q10 q11 hq11) ⟨va_cnB 1 hts gX3_tellOfLot_X6_bandOf_n154 rfl rfl rfl hN.2.1 (hts _ k6) (by decide +kernel) ⟨Nat.le_of_ble_eq_true rfl, Nat.le_of_ble_eq_true rfl⟩, hts _ k7, trivial⟩ rfl hl.1 rfl (Nat.le_of_ble_eq_true rfl) dX3_tellOfLot_103 ⟨Nat.zero_le _, Nat.zero_le _⟩ (fun H locs hP hS => ?_)
            obtain ⟨i12, hE⟩ := cr_ifn hE
            refine cr_ald C hP 1 (f := vh 2) (k := cr_x q11) rfl i12 (cr_xe _) dX3_tellOfLot_106 ?_
            exact cr_retR C hS (Option.some.inj hE) dX3_tellOfLot_107
          · rw [if_neg c9] at hE
            by_cases c13 : x2 = 5
            · rw [if_pos c13] at hE
              refine lv_tableIn (tgt := 108) (off := 107) hx hb dX3_tellOfLot_1 (by rw [c13]; decide) (by rw [c13]; decide) (by rw [c13]; rfl) (by decide) ?_
              refine lv_aload_n hx hb dX3_tellOfLot_108 rfl (lv_at hl 0 rfl) ?_
              refine cr_get C hP 0 rfl rfl 0 (by decide) hinX3 k0 (v := .ref (al 0)) rfl dX3_tellOfLot_109 ?_
              refine lv_iload_n hx hb dX3_tellOfLot_112 rfl (lv_at hl 1 rfl) ?_
              refine lv_aload_n hx hb dX3_tellOfLot_113 rfl (lv_at hl 0 rfl) ?_
              refine cr_get C hP 0 rfl rfl 4 (by decide) hinX3 k4 (v := .int (vh 4 0)) rfl dX3_tellOfLot_114 ?_
              obtain ⟨q14, hq14, hE⟩ := cr_bind hE
              refine cr_vRq (n := 2) (As := [.int x1, .int (vh 4 0)]) (rest := []) C hP hS (m_X4_monthsTooOld L D ct al vl x1 (vh 4 0) q14 hq14) (cwV 2 hts gX3_tellOfLot_X4_monthsTooOld rfl rfl rfl (by decide +kernel) ⟨Nat.le_of_ble_eq_true rfl, Nat.le_of_ble_eq_true rfl⟩) [3, 4, 5, 6, 7] rfl 3 rfl rfl rfl hl.1 rfl (Nat.le_of_ble_eq_true rfl) dX3_tellOfLot_117 ⟨Nat.zero_le _, Nat.zero_le _⟩ (fun H locs hP hS => ?_)
              exact cr_retR C hS (Option.some.inj hE) dX3_tellOfLot_120
            · rw [if_neg c13] at hE
              by_cases c15 : x2 = 6
              · rw [if_pos c15] at hE
                refine lv_tableIn (tgt := 121) (off := 120) hx hb dX3_tellOfLot_1 (by rw [c15]; decide) (by rw [c15]; decide) (by rw [c15]; rfl) (by decide) ?_
                refine lv_aload_n hx hb dX3_tellOfLot_121 rfl (lv_at hl 0 rfl) ?_
                refine cr_get C hP 0 rfl rfl 0 (by decide) hinX3 k0 (v := .ref (al 0)) rfl dX3_tellOfLot_122 ?_
                refine lv_iload_n hx hb dX3_tellOfLot_125 rfl (lv_at hl 1 rfl) ?_
                refine lv_aload_n hx hb dX3_tellOfLot_126 rfl (lv_at hl 0 rfl) ?_
                refine cr_get C hP 0 rfl rfl 4 (by decide) hinX3 k4 (v := .int (vh 4 0)) rfl dX3_tellOfLot_127 ?_
                obtain ⟨q16, hq16, hE⟩ := cr_bind hE
                refine cr_vRq (n := 2) (As := [.int x1, .int (vh 4 0)]) (rest := []) C hP hS (m_X4_cupAt L D ct al vl x1 (vh 4 0) q16 hq16) (cwV 2 hts gX3_tellOfLot_X4_cupAt rfl rfl rfl (by decide +kernel) ⟨Nat.le_of_ble_eq_true rfl, Nat.le_of_ble_eq_true rfl⟩) [3, 4, 5, 6, 7] rfl 3 rfl rfl rfl hl.1 rfl (Nat.le_of_ble_eq_true rfl) dX3_tellOfLot_130 ⟨Nat.zero_le _, Nat.zero_le _⟩ (fun H locs hP hS => ?_)
                obtain ⟨q17, hq17, hE⟩ := cr_bind hE
                refine cr_nRq (n := 1) (As := [.int q16]) (rest := []) C hP hS (m_X6_bandOf L D ct q16 q17 hq17) ⟨va_cnB 1 hts gX3_tellOfLot_X6_bandOf_n154 rfl rfl rfl hN.2.1 (hts _ k6) (by decide +kernel) ⟨Nat.le_of_ble_eq_true rfl, Nat.le_of_ble_eq_true rfl⟩, hts _ k7, trivial⟩ rfl hl.1 rfl (Nat.le_of_ble_eq_true rfl) dX3_tellOfLot_133 ⟨Nat.zero_le _, Nat.zero_le _⟩ (fun H locs hP hS => ?_)
                exact cr_retR C hS (Option.some.inj hE) dX3_tellOfLot_136
              · rw [if_neg c15] at hE
                refine lv_tableOut (tgt := 137) hx hb dX3_tellOfLot_1 (by have e0 := cr_ne (n := 0) (by decide) c1; have e1 := cr_ne (n := 1) (by decide) c3; have e2 := cr_ne (n := 2) (by decide) c5; have e3 := cr_ne (n := 3) (by decide) c7; have e4 := cr_ne (n := 4) (by decide) c9; have e5 := cr_ne (n := 5) (by decide) c13; have e6 := cr_ne (n := 6) (by decide) c15; omega) (by decide) ?_
                refine cr_ldc C k8 dX3_tellOfLot_137 ?_
                exact cr_retR C hS (Option.some.inj hE) dX3_tellOfLot_139

set_option maxHeartbeats 4000000 in
set_option maxRecDepth 100000 in
theorem m_X3_tellCount (L : Launch) (D : va_G) (ct : Nat → ClassId) (ah : Nat → Nat) (al : Nat → Nat) (ak : Nat → Nat) (vh : cr_V) (vl : cr_V) (vk : cr_V) (x1 : Int32) (out : Int32) (hE : f_X3_tellCount vh vl vk x1 = some out) : Met L yX3_tellCount wsX3_tellCount ({ frames := 2, cells := 0, slots := 0, locals := 46 } : Room) (cr_pR D ct (cr_wH ct ah al ak vh vl vk) [.ref (ah 0), .int x1]) (cr_QR (fun r => r = out)) 0 0 cr_no := by
  have k0 : (Cond.fieldLink RX3 12 "CupReceipts$House" "lots" "LCupReceipts$Lots;") ∈ wsX3_tellCount := List.mem_of_getElem? (i := 1) rfl
  have k1 : (Cond.fieldLink RX3 160 "CupReceipts$Lots" "size" "I") ∈ wsX3_tellCount := List.mem_of_getElem? (i := 2) rfl
  have k2 : (Cond.fieldLink RX3 50 "CupReceipts$House" "month" "I") ∈ wsX3_tellCount := List.mem_of_getElem? (i := 3) rfl
  have k3 : (Cond.fieldLink RX3 21 "CupReceipts$House" "contracts" "LCupReceipts$Contracts;") ∈ wsX3_tellCount := List.mem_of_getElem? (i := 4) rfl
  have k4 : (Cond.fieldLink RX3 146 "CupReceipts$Contracts" "size" "I") ∈ wsX3_tellCount := List.mem_of_getElem? (i := 5) rfl
  have k5 : (Cond.fieldLink RX3 54 "CupReceipts$House" "account" "I") ∈ wsX3_tellCount := List.mem_of_getElem? (i := 6) rfl
  have k6 : (Cond.fieldLink RX3 57 "CupReceipts$House" "contractsMet" "I") ∈ wsX3_tellCount := List.mem_of_getElem? (i := 7) rfl
  have k7 : (Cond.fieldLink RX3 60 "CupReceipts$House" "contractsFailed" "I") ∈ wsX3_tellCount := List.mem_of_getElem? (i := 8) rfl
  have k8 : (Cond.fieldLink RX3 63 "CupReceipts$House" "bagsGiven" "I") ∈ wsX3_tellCount := List.mem_of_getElem? (i := 9) rfl
  have k9 : (Cond.fieldLink RX3 168 "CupReceipts$Lots" "made" "I") ∈ wsX3_tellCount := List.mem_of_getElem? (i := 10) rfl
  have k10 : (Cond.constant RX3 70 (-2000000001)) ∈ wsX3_tellCount := List.mem_of_getElem? (i := 11) rfl
  have hinX0 : ∀ w ∈ wsX00, w ∈ wsX3_tellCount := fun w h => List.mem_cons_of_mem _ (List.mem_append_right _ h)
  have hinX3 : ∀ w ∈ wsX30, w ∈ wsX3_tellCount := fun w h => List.mem_cons_of_mem _ (List.mem_append_left _ (List.mem_append_left _ (List.mem_append_right _ h)))
  have hinX4 : ∀ w ∈ wsX40, w ∈ wsX3_tellCount := fun w h => List.mem_cons_of_mem _ (List.mem_append_left _ (List.mem_append_right _ h))
  refine cr_metR (by decide) rfl rfl (Nat.le_of_ble_eq_true rfl) ?_
  intro p e s m args below meth c ls C hP hS hl
  obtain ⟨hx, hb, hml, hown, hts, hr, hlocks, hK, hN⟩ := id C
  have hl : lv_has ls 2 [(0, .ref (ah 0)), (1, .int x1)] := hl
  replace hE : (if x1 = 0 then (some (vl 4 0)) else (if x1 = 1 then ((f_X4_allBags vl).bind fun q3 => some q3) else (if x1 = 2 then (some (vh 4 0)) else (if x1 = 3 then (some (vk 2 0)) else (if x1 = 4 then (some (vh 5 0)) else (if x1 = 5 then (some (vh 6 0)) else (if x1 = 6 then (some (vh 7 0)) else (if x1 = 7 then (some (vh 8 0)) else (if x1 = 8 then ((f_X4_bagsToGive vl (vh 4 0)).bind fun q11 => some q11) else (if x1 = 9 then (some (vl 5 0)) else (some (-2000000001)))))))))))) = some out := hE
  refine lv_iload_n hx hb dX3_tellCount_0 rfl (lv_at hl 1 rfl) ?_
  by_cases c1 : x1 = 0
  · rw [if_pos c1] at hE
    refine lv_tableIn (tgt := 56) (off := 55) hx hb dX3_tellCount_1 (by rw [c1]; decide) (by rw [c1]; decide) (by rw [c1]; rfl) (by decide) ?_
    refine lv_aload_n hx hb dX3_tellCount_56 rfl (lv_at hl 0 rfl) ?_
    refine cr_get C hP 0 rfl rfl 0 (by decide) hinX3 k0 (v := .ref (al 0)) rfl dX3_tellCount_57 ?_
    refine cr_get C hP 3 rfl rfl 4 (by decide) hinX4 k1 (v := .int (vl 4 0)) rfl dX3_tellCount_60 ?_
    exact cr_retR C hS (Option.some.inj hE) dX3_tellCount_63
  · rw [if_neg c1] at hE
    by_cases c2 : x1 = 1
    · rw [if_pos c2] at hE
      refine lv_tableIn (tgt := 64) (off := 63) hx hb dX3_tellCount_1 (by rw [c2]; decide) (by rw [c2]; decide) (by rw [c2]; rfl) (by decide) ?_
      refine lv_aload_n hx hb dX3_tellCount_64 rfl (lv_at hl 0 rfl) ?_
      refine cr_get C hP 0 rfl rfl 0 (by decide) hinX3 k0 (v := .ref (al 0)) rfl dX3_tellCount_65 ?_
      obtain ⟨q3, hq3, hE⟩ := cr_bind hE
      refine cr_vRq (n := 0) (As := []) (rest := []) C hP hS (m_X4_allBags L D ct al vl q3 hq3) (cwV 0 hts gX3_tellCount_X4_allBags rfl rfl rfl (by decide +kernel) ⟨Nat.le_of_ble_eq_true rfl, Nat.le_of_ble_eq_true rfl⟩) [3, 4, 5, 6, 7] rfl 3 rfl rfl rfl hl.1 rfl (Nat.le_of_ble_eq_true rfl) dX3_tellCount_68 ⟨Nat.zero_le _, Nat.zero_le _⟩ (fun H locs hP hS => ?_)
      exact cr_retR C hS (Option.some.inj hE) dX3_tellCount_71
    · rw [if_neg c2] at hE
      by_cases c4 : x1 = 2
      · rw [if_pos c4] at hE
        refine lv_tableIn (tgt := 72) (off := 71) hx hb dX3_tellCount_1 (by rw [c4]; decide) (by rw [c4]; decide) (by rw [c4]; rfl) (by decide) ?_
        refine lv_aload_n hx hb dX3_tellCount_72 rfl (lv_at hl 0 rfl) ?_
        refine cr_get C hP 0 rfl rfl 4 (by decide) hinX3 k2 (v := .int (vh 4 0)) rfl dX3_tellCount_73 ?_
        exact cr_retR C hS (Option.some.inj hE) dX3_tellCount_76
      · rw [if_neg c4] at hE
        by_cases c5 : x1 = 3
        · rw [if_pos c5] at hE
          refine lv_tableIn (tgt := 77) (off := 76) hx hb dX3_tellCount_1 (by rw [c5]; decide) (by rw [c5]; decide) (by rw [c5]; rfl) (by decide) ?_
          refine lv_aload_n hx hb dX3_tellCount_77 rfl (lv_at hl 0 rfl) ?_
          refine cr_get C hP 0 rfl rfl 1 (by decide) hinX3 k3 (v := .ref (ak 0)) rfl dX3_tellCount_78 ?_
          refine cr_get C hP 8 rfl rfl 2 (by decide) hinX0 k4 (v := .int (vk 2 0)) rfl dX3_tellCount_81 ?_
          exact cr_retR C hS (Option.some.inj hE) dX3_tellCount_84
        · rw [if_neg c5] at hE
          by_cases c6 : x1 = 4
          · rw [if_pos c6] at hE
            refine lv_tableIn (tgt := 85) (off := 84) hx hb dX3_tellCount_1 (by rw [c6]; decide) (by rw [c6]; decide) (by rw [c6]; rfl) (by decide) ?_
            refine lv_aload_n hx hb dX3_tellCount_85 rfl (lv_at hl 0 rfl) ?_
            refine cr_get C hP 0 rfl rfl 5 (by decide) hinX3 k5 (v := .int (vh 5 0)) rfl dX3_tellCount_86 ?_
            exact cr_retR C hS (Option.some.inj hE) dX3_tellCount_89
          · rw [if_neg c6] at hE
            by_cases c7 : x1 = 5
            · rw [if_pos c7] at hE
              refine lv_tableIn (tgt := 90) (off := 89) hx hb dX3_tellCount_1 (by rw [c7]; decide) (by rw [c7]; decide) (by rw [c7]; rfl) (by decide) ?_
              refine lv_aload_n hx hb dX3_tellCount_90 rfl (lv_at hl 0 rfl) ?_
              refine cr_get C hP 0 rfl rfl 6 (by decide) hinX3 k6 (v := .int (vh 6 0)) rfl dX3_tellCount_91 ?_
              exact cr_retR C hS (Option.some.inj hE) dX3_tellCount_94
            · rw [if_neg c7] at hE
              by_cases c8 : x1 = 6
              · rw [if_pos c8] at hE
                refine lv_tableIn (tgt := 95) (off := 94) hx hb dX3_tellCount_1 (by rw [c8]; decide) (by rw [c8]; decide) (by rw [c8]; rfl) (by decide) ?_
                refine lv_aload_n hx hb dX3_tellCount_95 rfl (lv_at hl 0 rfl) ?_
                refine cr_get C hP 0 rfl rfl 7 (by decide) hinX3 k7 (v := .int (vh 7 0)) rfl dX3_tellCount_96 ?_
                exact cr_retR C hS (Option.some.inj hE) dX3_tellCount_99
              · rw [if_neg c8] at hE
                by_cases c9 : x1 = 7
                · rw [if_pos c9] at hE
                  refine lv_tableIn (tgt := 100) (off := 99) hx hb dX3_tellCount_1 (by rw [c9]; decide) (by rw [c9]; decide) (by rw [c9]; rfl) (by decide) ?_
                  refine lv_aload_n hx hb dX3_tellCount_100 rfl (lv_at hl 0 rfl) ?_
                  refine cr_get C hP 0 rfl rfl 8 (by decide) hinX3 k8 (v := .int (vh 8 0)) rfl dX3_tellCount_101 ?_
                  exact cr_retR C hS (Option.some.inj hE) dX3_tellCount_104
                · rw [if_neg c9] at hE
                  by_cases c10 : x1 = 8
                  · rw [if_pos c10] at hE
                    refine lv_tableIn (tgt := 105) (off := 104) hx hb dX3_tellCount_1 (by rw [c10]; decide) (by rw [c10]; decide) (by rw [c10]; rfl) (by decide) ?_
                    refine lv_aload_n hx hb dX3_tellCount_105 rfl (lv_at hl 0 rfl) ?_
                    refine cr_get C hP 0 rfl rfl 0 (by decide) hinX3 k0 (v := .ref (al 0)) rfl dX3_tellCount_106 ?_
                    refine lv_aload_n hx hb dX3_tellCount_109 rfl (lv_at hl 0 rfl) ?_
                    refine cr_get C hP 0 rfl rfl 4 (by decide) hinX3 k2 (v := .int (vh 4 0)) rfl dX3_tellCount_110 ?_
                    obtain ⟨q11, hq11, hE⟩ := cr_bind hE
                    refine cr_vRq (n := 1) (As := [.int (vh 4 0)]) (rest := []) C hP hS (m_X4_bagsToGive L D ct al vl (vh 4 0) q11 hq11) (cwV 1 hts gX3_tellCount_X4_bagsToGive rfl rfl rfl (by decide +kernel) ⟨Nat.le_of_ble_eq_true rfl, Nat.le_of_ble_eq_true rfl⟩) [3, 4, 5, 6, 7] rfl 3 rfl rfl rfl hl.1 rfl (Nat.le_of_ble_eq_true rfl) dX3_tellCount_113 ⟨Nat.zero_le _, Nat.zero_le _⟩ (fun H locs hP hS => ?_)
                    exact cr_retR C hS (Option.some.inj hE) dX3_tellCount_116
                  · rw [if_neg c10] at hE
                    by_cases c12 : x1 = 9
                    · rw [if_pos c12] at hE
                      refine lv_tableIn (tgt := 117) (off := 116) hx hb dX3_tellCount_1 (by rw [c12]; decide) (by rw [c12]; decide) (by rw [c12]; rfl) (by decide) ?_
                      refine lv_aload_n hx hb dX3_tellCount_117 rfl (lv_at hl 0 rfl) ?_
                      refine cr_get C hP 0 rfl rfl 0 (by decide) hinX3 k0 (v := .ref (al 0)) rfl dX3_tellCount_118 ?_
                      refine cr_get C hP 3 rfl rfl 5 (by decide) hinX4 k9 (v := .int (vl 5 0)) rfl dX3_tellCount_121 ?_
                      exact cr_retR C hS (Option.some.inj hE) dX3_tellCount_124
                    · rw [if_neg c12] at hE
                      refine lv_tableOut (tgt := 125) hx hb dX3_tellCount_1 (by have e0 := cr_ne (n := 0) (by decide) c1; have e1 := cr_ne (n := 1) (by decide) c2; have e2 := cr_ne (n := 2) (by decide) c4; have e3 := cr_ne (n := 3) (by decide) c5; have e4 := cr_ne (n := 4) (by decide) c6; have e5 := cr_ne (n := 5) (by decide) c7; have e6 := cr_ne (n := 6) (by decide) c8; have e7 := cr_ne (n := 7) (by decide) c9; have e8 := cr_ne (n := 8) (by decide) c10; have e9 := cr_ne (n := 9) (by decide) c12; omega) (by decide) ?_
                      refine cr_ldc C k10 dX3_tellCount_125 ?_
                      exact cr_retR C hS (Option.some.inj hE) dX3_tellCount_127

set_option maxHeartbeats 4000000 in
set_option maxRecDepth 100000 in
theorem m_X6_isError (L : Launch) (D : va_G) (ct : Nat → ClassId)   (x0 : Int32) (out : Int32) (hE : f_X6_isError x0 = some out) : Met L yX6_isError wsX6_isError ({ frames := 1, cells := 0, slots := 0, locals := 22 } : Room) (cr_pR D ct ([]) [.int x0]) (cr_QR (fun r => r = out)) 0 0 cr_no := by
  have k0 : (Cond.constant RX6 102 (-2000000004)) ∈ wsX6_isError := List.mem_of_getElem? (i := 1) rfl
  have k1 : (Cond.constant RX6 90 (-2000000001)) ∈ wsX6_isError := List.mem_of_getElem? (i := 2) rfl
  refine cr_metR (by decide) rfl rfl (Nat.le_of_ble_eq_true rfl) ?_
  intro p e s m args below meth c ls C hP hS hl
  obtain ⟨hx, hb, hml, hown, hts, hr, hlocks, hK, hN⟩ := id C
  have hl : lv_has ls 1 [(0, .int x0)] := hl
  replace hE : ((f_X6_isWithin x0 (-2000000004) (-2000000001)).bind fun q1 => if cr_bool q1 = true then some q1 else none) = some out := hE
  refine lv_iload_n hx hb dX6_isError_0 rfl (lv_at hl 0 rfl) ?_
  refine cr_ldc C k0 dX6_isError_1 ?_
  refine cr_ldc C k1 dX6_isError_3 ?_
  obtain ⟨q1, hq1, hE⟩ := cr_bind hE
  refine cr_sRq (n := 3) (As := [.int x0, .int (-2000000004), .int (-2000000001)]) (rest := []) C hP hS (m_X6_isWithin L D ct x0 (-2000000004) (-2000000001) q1 hq1) (va_cwS 3 hts gX6_isError_X6_isWithin rfl rfl rfl (by decide +kernel) ⟨Nat.le_of_ble_eq_true rfl, Nat.le_of_ble_eq_true rfl⟩) rfl hl.1 rfl (Nat.le_of_ble_eq_true rfl) dX6_isError_5 ⟨Nat.zero_le _, Nat.zero_le _⟩ (fun H locs hP hS => ?_)
  obtain ⟨z2, hE⟩ := cr_ifn hE
  exact cr_retRz C hS (cr_boolN z2) (Option.some.inj hE) dX6_isError_8
end
section
abbrev cr_wR0 (ct : Nat → ClassId) (a : Nat → Nat) (v : cr_V) (r : Nat → Nat → Nat → Nat) : va_W := [(a 0, .inr (2, [.ref (a 1), .int (v 1 0)])), (a 1, .inl (ct 3, 4, .inr (.inr (.inr (.inr (fun j => some (r j 0 0)))))))]
abbrev cr_wRf (ct : Nat → ClassId) (a : Nat → Nat) (v : cr_V) (f : Nat → Option Nat) (r : Nat → Nat → Nat → Nat) (x : Nat → Nat → cr_V) : va_W := [(a 0, .inr (2, [.ref (a 1), .int (v 1 0)])), (a 1, .inl (ct 3, 4, .inr (.inr (.inr (.inr f)))))] ++ (cr_wH ct (r 0 0) (r 0 1) (r 0 2) (x 0 0) (x 0 1) (x 0 2) ++ (cr_wH ct (r 1 0) (r 1 1) (r 1 2) (x 1 0) (x 1 1) (x 1 2) ++ (cr_wH ct (r 2 0) (r 2 1) (r 2 2) (x 2 0) (x 2 1) (x 2 2) ++ cr_wH ct (r 3 0) (r 3 1) (r 3 2) (x 3 0) (x 3 1) (x 3 2))))
theorem cr_arrE {cI : ClassId} {N : Nat} {f g : Nat → Value} (h : ∀ j, j < N → f j = g j) : arrV cI N f = arrV cI N g := by
  unfold arrV
  congr 1
  apply Array.ext
  · simp
  · intro i h1 h2
    simp at h1 ⊢
    exact h i h1
section CRH
variable {p : Program} {l : Launch} {e : Env} {R : Room} {s : State} {m : MethodId} {args : Array Value} {below : List Frame} {meth : Method} {c : Code} {H : Heap} {locs : List Loc} {cells slots : Nat} {Q : State → Prop}
variable {own : String} {Ts : List Cond} {cc : ByteArray} {nL : Nat} {ret : Option FieldType} {D : va_G} {ct : Nat → ClassId} {A : Nat → Prop} {ws : va_W} {pc : Nat} {ls : Array Slot} {rest st : List Value} {a b : Nat}
variable {y : MethodName} {bytes : ByteArray} {maxL n index : Nat} {rt : Option FieldType} {wy : List Cond} {rm : Room} {Cn : String} {As : List Value} {wc : va_W} {ci : Nat} {fs : List Value} {T : u_T} {N : Nat}
theorem cr_aldq (C : cr_Cx p s m meth c args own Ts cc nL ret D ct) (hP : va_P D vwCl ws H) (q0 : Nat) {n : Nat} {f : Nat → Option Nat} (ha : ws[q0]? = some (a, .inl (ct 3, n, .inr (.inr (.inr (.inr f)))))) {i : Int32} {k v : Nat} (hin : cr_in i n = true) (hk : i.toNatClampNeg = k) (hv : f k = some v) (hdg : decode cc pc = .ok (.aaload, 1))
    (kk : W p l e R s m args below meth c H locs cells slots Q (F0 m (pc + 1) ls (.ref v :: rest))) : W p l e R s m args below meth c H locs cells slots Q (F0 m pc ls (.int i :: .ref a :: rest)) := by
  subst hk
  refine va_aldq C.1 C.2.1 C.2.2.2.2.2.2.2.1 hP q0 3 ha rfl (cr_in_of hin) hdg ?_
  rw [hv]
  exact kk
theorem cr_astq (C : cr_Cx p s m meth c args own Ts cc nL ret D ct) (hW : cr_wd D A s ws H locs) (q0 qk : Nat) {n v : Nat} {vs : List Value} {f : Nat → Option Nat} (ha : ws[q0]? = some (a, .inl (ct 3, n, .inr (.inr (.inr (.inr f)))))) (hv : ws[qk]? = some (v, .inr (3, vs))) {i : Int32} {k : Nat} (hin : cr_in i n = true) (hk : i.toNatClampNeg = k) {w' : va_W} (hw : ws.set q0 (a, .inl (ct 3, n, .inr (.inr (.inr (.inr (va_up f k (some v))))))) = w') (hdg : decode cc pc = .ok (.aastore, 1))
    (kk : ∀ (H1 : Heap) (locs1 : List Loc), cr_wd D A s w' H1 locs1 → W p l e R s m args below meth c H1 locs1 cells slots Q (F0 m (pc + 1) ls rest)) : W p l e R s m args below meth c H locs cells slots Q (F0 m pc ls (.ref v :: .int i :: .ref a :: rest)) := by
  obtain ⟨hP, hD, hS, hA⟩ := hW
  subst hw; subst hk
  exact va_astq C.1 C.2.1 C.2.2.2.2.2.2.2.1 hP hD hS q0 3 qk 3 (r := (RX3, TX3, 9)) ha rfl hv rfl (cr_in_of hin) hdg (fun H1 locs1 h1 h2 h3 => kk H1 locs1 ⟨h1, h2, h3, hA⟩)
theorem cr_wd.refs {q0 : Nat} {n : Nat} {f g : Nat → Option Nat} {w' : va_W} (hW : cr_wd D A s ws H locs) (ha : ws[q0]? = some (a, .inl (ct 3, n, .inr (.inr (.inr (.inr f)))))) (hfg : ∀ j, j < n → f j = g j) (hw : ws.set q0 (a, .inl (ct 3, n, .inr (.inr (.inr (.inr g))))) = w') : cr_wd D A s w' H locs := by
  obtain ⟨hP, hD, hS, hA⟩ := hW
  subst hw
  refine ⟨hP.set hD ha ?_ (fun _ _ => rfl), hD.set ha, hS, hA⟩
  have h1 := hP q0 _ ha
  show H[a]? = some (vp_cell _ _)
  rw [show vp_cell (ct 3) (n, .inr (.inr (.inr (.inr g)))) = vp_cell (ct 3) (n, .inr (.inr (.inr (.inr f)))) from by rw [vp_cell_q, vp_cell_q]; exact cr_arrE fun j hj => by rw [hfg j hj]]
  exact h1

end CRH
set_option maxHeartbeats 4000000 in
set_option maxRecDepth 100000 in
theorem m_X2_dropOldest (L : Launch) (D : va_G) (ct : Nat → ClassId) (as : Nat → Nat) (r : Nat → Nat → Nat → Nat) (vs : cr_V) (vx : Nat → Nat → cr_V) (sz : Nat) (out : cr_V × (Nat → Nat → cr_V)) (hE : f_X2_dropOldest vs vx = some out) : Met L yX2_dropOldest wsX2_dropOldest ({ frames := 0, cells := 0, slots := 0, locals := 0 } : Room) (cr_pW D ct (cr_wR ct as vs r vx) sz [.ref (as 0)]) (cr_QV D (cr_wR ct as vs r vx) sz (fun u : (Nat → Nat → Nat → Nat) × cr_V × (Nat → Nat → cr_V) => u.2 = out) (fun u : (Nat → Nat → Nat → Nat) × cr_V × (Nat → Nat → cr_V) => cr_wR ct as u.2.1 u.1 u.2.2)) 0 0 (va_A (cr_wR ct as vs r vx) sz) := by
  have k0 : (Cond.fieldLink RX2 11 "CupReceipts$History" "rooms" "[LCupReceipts$House;") ∈ wsX2_dropOldest := List.mem_of_getElem? (i := 1) rfl
  have k1 : (Cond.fieldLink RX2 18 "CupReceipts$History" "states" "I") ∈ wsX2_dropOldest := List.mem_of_getElem? (i := 2) rfl
  have hinX2 : ∀ w ∈ wsX20, w ∈ wsX2_dropOldest := fun w h => List.mem_cons_of_mem _ (List.mem_append_right _ h)
  refine cr_metW (Qc := fun A => va_Qv (fun u : (Nat → Nat → Nat → Nat) × cr_V × (Nat → Nat → cr_V) => u.2 = out) (fun u t => cr_at D A ((fun u : (Nat → Nat → Nat → Nat) × cr_V × (Nat → Nat → cr_V) => cr_wR ct as u.2.1 u.1 u.2.2) u) t) A) (by decide) rfl rfl (Nat.le_of_ble_eq_true rfl) ?_
  intro p e s m args below meth c ls A C hW hl
  obtain ⟨hx, hb, hml, hown, hts, hr, hlocks, hK, hN⟩ := id C
  have hl : lv_has ls 3 [(0, .ref (as 0))] := hl
  refine lv_aload_n hx hb dX2_dropOldest_0 rfl (lv_at hl 0 rfl) ?_
  refine cr_get C hW.1 0 rfl rfl 0 (by decide) hinX2 k0 (v := .ref (as 1)) rfl dX2_dropOldest_1 ?_
  refine lv_iconst (v := 0) hx hb dX2_dropOldest_4 (by decide) ?_
  refine cr_aldq C hW.1 1 (k := 0) (v := r 0 0 0) rfl (by decide) (by decide) rfl dX2_dropOldest_5 ?_
  refine lv_astore_n (lv' := [(1, .ref (r 0 0 0)), (0, .ref (as 0))]) hx hb dX2_dropOldest_6 rfl hl (by decide) rfl (fun ls hl => ?_)
  refine lv_iconst (v := 1) hx hb dX2_dropOldest_7 (by decide) ?_
  refine lv_istore_n (lv' := [(2, .int 1), (1, .ref (r 0 0 0)), (0, .ref (as 0))]) hx hb dX2_dropOldest_8 rfl hl (by decide) rfl (fun ls hl => ?_)

  refine lv_iload_n hx hb dX2_dropOldest_9 rfl (lv_at hl 0 rfl) ?_
  refine lv_iconst (v := 4) hx hb dX2_dropOldest_10 (by decide) ?_
  refine lv_icmp_ge (tgt := 34) hx hb dX2_dropOldest_11 (by decide) (fun c1 => absurd c1 (by decide)) (fun c1 => ?_)
  refine lv_aload_n hx hb dX2_dropOldest_14 rfl (lv_at hl 2 rfl) ?_
  refine cr_get C hW.1 0 rfl rfl 0 (by decide) hinX2 k0 (v := .ref (as 1)) rfl dX2_dropOldest_15 ?_
  refine lv_iload_n hx hb dX2_dropOldest_18 rfl (lv_at hl 0 rfl) ?_
  refine lv_iconst (v := 1) hx hb dX2_dropOldest_19 (by decide) ?_
  refine lv_isub hx hb dX2_dropOldest_20 ?_
  refine lv_aload_n hx hb dX2_dropOldest_21 rfl (lv_at hl 2 rfl) ?_
  refine cr_get C hW.1 0 rfl rfl 0 (by decide) hinX2 k0 (v := .ref (as 1)) rfl dX2_dropOldest_22 ?_
  refine lv_iload_n hx hb dX2_dropOldest_25 rfl (lv_at hl 0 rfl) ?_
  refine cr_aldq C hW.1 1 (k := 1) (v := r 1 0 0) rfl (by decide) (by decide) rfl dX2_dropOldest_26 ?_
  refine cr_astq C hW 1 13 rfl rfl (k := 0) (by decide) (by decide) (w' := cr_wRf ct as vs (va_up (fun j => some (r j 0 0)) 0 (some (r 1 0 0))) r vx) rfl dX2_dropOldest_27 (fun H locs hW => ?_)
  refine lv_iinc (v := 2) (lv' := [(2, .int 2), (1, .ref (r 0 0 0)), (0, .ref (as 0))]) hx hb dX2_dropOldest_28 hl (k := 0) rfl (by first | rfl | decide) (by decide) rfl (fun ls hl => ?_)
  refine lv_goto (tgt := 9) hx hb dX2_dropOldest_31 (by decide) ?_
  refine lv_iload_n hx hb dX2_dropOldest_9 rfl (lv_at hl 0 rfl) ?_
  refine lv_iconst (v := 4) hx hb dX2_dropOldest_10 (by decide) ?_
  refine lv_icmp_ge (tgt := 34) hx hb dX2_dropOldest_11 (by decide) (fun c1 => absurd c1 (by decide)) (fun c1 => ?_)
  refine lv_aload_n hx hb dX2_dropOldest_14 rfl (lv_at hl 2 rfl) ?_
  refine cr_get C hW.1 0 rfl rfl 0 (by decide) hinX2 k0 (v := .ref (as 1)) rfl dX2_dropOldest_15 ?_
  refine lv_iload_n hx hb dX2_dropOldest_18 rfl (lv_at hl 0 rfl) ?_
  refine lv_iconst (v := 1) hx hb dX2_dropOldest_19 (by decide) ?_
  refine lv_isub hx hb dX2_dropOldest_20 ?_
  refine lv_aload_n hx hb dX2_dropOldest_21 rfl (lv_at hl 2 rfl) ?_
  refine cr_get C hW.1 0 rfl rfl 0 (by decide) hinX2 k0 (v := .ref (as 1)) rfl dX2_dropOldest_22 ?_
  refine lv_iload_n hx hb dX2_dropOldest_25 rfl (lv_at hl 0 rfl) ?_
  refine cr_aldq C hW.1 1 (k := 2) (v := r 2 0 0) rfl (by decide) (by decide) rfl dX2_dropOldest_26 ?_
  refine cr_astq C hW 1 24 rfl rfl (k := 1) (by decide) (by decide) (w' := cr_wRf ct as vs (va_up (va_up (fun j => some (r j 0 0)) 0 (some (r 1 0 0))) 1 (some (r 2 0 0))) r vx) rfl dX2_dropOldest_27 (fun H locs hW => ?_)
  refine lv_iinc (v := 3) (lv' := [(2, .int 3), (1, .ref (r 0 0 0)), (0, .ref (as 0))]) hx hb dX2_dropOldest_28 hl (k := 0) rfl (by first | rfl | decide) (by decide) rfl (fun ls hl => ?_)
  refine lv_goto (tgt := 9) hx hb dX2_dropOldest_31 (by decide) ?_
  refine lv_iload_n hx hb dX2_dropOldest_9 rfl (lv_at hl 0 rfl) ?_
  refine lv_iconst (v := 4) hx hb dX2_dropOldest_10 (by decide) ?_
  refine lv_icmp_ge (tgt := 34) hx hb dX2_dropOldest_11 (by decide) (fun c1 => absurd c1 (by decide)) (fun c1 => ?_)
  refine lv_aload_n hx hb dX2_dropOldest_14 rfl (lv_at hl 2 rfl) ?_
  refine cr_get C hW.1 0 rfl rfl 0 (by decide) hinX2 k0 (v := .ref (as 1)) rfl dX2_dropOldest_15 ?_
  refine lv_iload_n hx hb dX2_dropOldest_18 rfl (lv_at hl 0 rfl) ?_
  refine lv_iconst (v := 1) hx hb dX2_dropOldest_19 (by decide) ?_
  refine lv_isub hx hb dX2_dropOldest_20 ?_
  refine lv_aload_n hx hb dX2_dropOldest_21 rfl (lv_at hl 2 rfl) ?_
  refine cr_get C hW.1 0 rfl rfl 0 (by decide) hinX2 k0 (v := .ref (as 1)) rfl dX2_dropOldest_22 ?_
  refine lv_iload_n hx hb dX2_dropOldest_25 rfl (lv_at hl 0 rfl) ?_
  refine cr_aldq C hW.1 1 (k := 3) (v := r 3 0 0) rfl (by decide) (by decide) rfl dX2_dropOldest_26 ?_
  refine cr_astq C hW 1 35 rfl rfl (k := 2) (by decide) (by decide) (w' := cr_wRf ct as vs (va_up (va_up (va_up (fun j => some (r j 0 0)) 0 (some (r 1 0 0))) 1 (some (r 2 0 0))) 2 (some (r 3 0 0))) r vx) rfl dX2_dropOldest_27 (fun H locs hW => ?_)
  refine lv_iinc (v := 4) (lv' := [(2, .int 4), (1, .ref (r 0 0 0)), (0, .ref (as 0))]) hx hb dX2_dropOldest_28 hl (k := 0) rfl (by first | rfl | decide) (by decide) rfl (fun ls hl => ?_)
  refine lv_goto (tgt := 9) hx hb dX2_dropOldest_31 (by decide) ?_
  refine lv_iload_n hx hb dX2_dropOldest_9 rfl (lv_at hl 0 rfl) ?_
  refine lv_iconst (v := 4) hx hb dX2_dropOldest_10 (by decide) ?_
  refine lv_icmp_ge (tgt := 34) hx hb dX2_dropOldest_11 (by decide) (fun c1 => ?_) (fun c1 => absurd (by decide) c1)
  refine lv_aload_n hx hb dX2_dropOldest_34 rfl (lv_at hl 2 rfl) ?_
  refine cr_get C hW.1 0 rfl rfl 0 (by decide) hinX2 k0 (v := .ref (as 1)) rfl dX2_dropOldest_35 ?_
  refine lv_iconst (v := 3) hx hb dX2_dropOldest_38 (by decide) ?_
  refine lv_aload_n hx hb dX2_dropOldest_39 rfl (lv_at hl 1 rfl) ?_
  refine cr_astq C hW 1 2 rfl rfl (k := 3) (by decide) (by decide) (w' := cr_wRf ct as vs (va_up (va_up (va_up (va_up (fun j => some (r j 0 0)) 0 (some (r 1 0 0))) 1 (some (r 2 0 0))) 2 (some (r 3 0 0))) 3 (some (r 0 0 0))) r vx) rfl dX2_dropOldest_40 (fun H locs hW => ?_)
  refine lv_aload_n hx hb dX2_dropOldest_41 rfl (lv_at hl 2 rfl) ?_
  refine lv_iconst (v := 3) hx hb dX2_dropOldest_42 (by decide) ?_
  refine cr_put C hW 0 rfl rfl tyX2 tyX2_ok nmX2 1 (by decide) hinX2 k1 rfl rfl rfl rfl (Nat.le_of_ble_eq_true rfl) (w' := cr_wRf ct as (cr_i vs 1 3) (va_up (va_up (va_up (va_up (fun j => some (r j 0 0)) 0 (some (r 1 0 0))) 1 (some (r 2 0 0))) 2 (some (r 3 0 0))) 3 (some (r 0 0 0))) r vx) rfl dX2_dropOldest_43 (fun H locs hW => ?_)
  have hW := hW.refs (q0 := 1) (g := fun j => some (cr_rot r j 0 0)) (w' := cr_wRf ct as (cr_i vs 1 3) (fun j => some (cr_rot r j 0 0)) r vx) rfl (fun j hj => by rcases (show j = 0 ∨ j = 1 ∨ j = 2 ∨ j = 3 by omega) with rfl | rfl | rfl | rfl <;> rfl) rfl
  have hW := hW.perm (w' := cr_wR ct as (cr_i vs 1 3) (cr_rot r) (cr_rot vx)) (cr_blk (n := 5) (Ls := [cr_wR0 ct as (cr_i vs 1 3) (cr_rot r), cr_wH ct (r 0 0) (r 0 1) (r 0 2) (vx 0 0) (vx 0 1) (vx 0 2), cr_wH ct (r 1 0) (r 1 1) (r 1 2) (vx 1 0) (vx 1 1) (vx 1 2), cr_wH ct (r 2 0) (r 2 1) (r 2 2) (vx 2 0) (vx 2 1) (vx 2 2), cr_wH ct (r 3 0) (r 3 1) (r 3 2) (vx 3 0) (vx 3 1) (vx 3 2)]) [0, 2, 3, 4, 1] rfl (by decide))
  exact cr_retV C (w := (fun u : (Nat → Nat → Nat → Nat) × cr_V × (Nat → Nat → cr_V) => cr_wR ct as u.2.1 u.1 u.2.2)) (cr_rot r, cr_i vs 1 3, cr_rot vx) hW (Option.some.inj hE) dX2_dropOldest_46
set_option maxHeartbeats 4000000 in
set_option maxRecDepth 100000 in
theorem m_X2_record (L : Launch) (D : va_G) (ct : Nat → ClassId) (as : Nat → Nat) (ah al ak : Nat → Nat) (r : Nat → Nat → Nat → Nat) (vs : cr_V) (vx : Nat → Nat → cr_V) (vh vl vk : cr_V) (sz : Nat) (out : cr_V × (Nat → Nat → cr_V)) (hE : f_X2_record vs vx vh vl vk = some out) : Met L yX2_record wsX2_record ({ frames := 2, cells := 0, slots := 0, locals := 44 } : Room) (cr_pW D ct (cr_wR ct as vs r vx ++ cr_wH ct ah al ak vh vl vk) sz [.ref (as 0), .ref (ah 0)]) (cr_QV D (cr_wR ct as vs r vx ++ cr_wH ct ah al ak vh vl vk) sz (fun u : (Nat → Nat → Nat → Nat) × cr_V × (Nat → Nat → cr_V) => u.2 = out) (fun u : (Nat → Nat → Nat → Nat) × cr_V × (Nat → Nat → cr_V) => cr_wR ct as u.2.1 u.1 u.2.2 ++ cr_wH ct ah al ak vh vl vk)) 0 0 (va_A (cr_wR ct as vs r vx ++ cr_wH ct ah al ak vh vl vk) sz) := by
  have k0 : (Cond.fieldLink RX2 11 "CupReceipts$History" "rooms" "[LCupReceipts$House;") ∈ wsX2_record := List.mem_of_getElem? (i := 2) rfl
  have k1 : (Cond.fieldLink RX2 18 "CupReceipts$History" "states" "I") ∈ wsX2_record := List.mem_of_getElem? (i := 1) rfl
  have hinX2 : ∀ w ∈ wsX20, w ∈ wsX2_record := fun w h => List.mem_cons_of_mem _ (List.mem_append_left _ (List.mem_append_left _ (List.mem_append_left _ (List.mem_append_right _ h))))
  refine cr_metW (Qc := fun A => va_Qv (fun u : (Nat → Nat → Nat → Nat) × cr_V × (Nat → Nat → cr_V) => u.2 = out) (fun u t => cr_at D A ((fun u : (Nat → Nat → Nat → Nat) × cr_V × (Nat → Nat → cr_V) => cr_wR ct as u.2.1 u.1 u.2.2 ++ cr_wH ct ah al ak vh vl vk) u) t) A) (by decide) rfl rfl (Nat.le_of_ble_eq_true rfl) ?_
  intro p e s m args below meth c ls A C hW hl
  obtain ⟨hx, hb, hml, hown, hts, hr, hlocks, hK, hN⟩ := id C
  have hl : lv_has ls 2 [(0, .ref (as 0)), (1, .ref (ah 0))] := hl
  have n12 : ∀ (vs : cr_V) (vx : Nat → Nat → cr_V) (r : Nat → Nat → Nat → Nat) (hE : f_X2_record_12 vs vx vh vl vk = some out) (H : Heap) (locs : List Loc) (hW : cr_wd D A s (cr_wR ct as vs r vx ++ cr_wH ct ah al ak vh vl vk) H locs), W p L e ({ frames := 2, cells := 0, slots := 0, locals := 44 } : Room) s m args below meth c H locs 0 0 (MQ below (va_Qv (fun u : (Nat → Nat → Nat → Nat) × cr_V × (Nat → Nat → cr_V) => u.2 = out) (fun u t => cr_at D A ((fun u : (Nat → Nat → Nat → Nat) × cr_V × (Nat → Nat → cr_V) => cr_wR ct as u.2.1 u.1 u.2.2 ++ cr_wH ct ah al ak vh vl vk) u) t) A) args s 0 0 A) (F0 m 12 ls []) := by
    intro vs vx r hE H locs hW
    obtain ⟨hi, hE⟩ := cr_ifn hE
    obtain ⟨k, hk4, hk⟩ : ∃ k, k < 4 ∧ cr_x (vs 1 0) = k := ⟨_, by have h := cr_in_of hi; rw [← cr_xe]; exact Nat.not_le.mp fun q => h (Or.inr q), rfl⟩
    rw [hk] at hE
    refine lv_aload_n hx hb dX2_record_12 rfl (lv_at hl 0 rfl) ?_
    refine cr_get C hW.1 0 rfl rfl 0 (by decide) hinX2 k0 (v := .ref (as 1)) rfl dX2_record_13 ?_
    refine lv_aload_n hx hb dX2_record_16 rfl (lv_at hl 0 rfl) ?_
    refine cr_get C hW.1 0 rfl rfl 1 (by decide) hinX2 k1 (v := .int (vs 1 0)) rfl dX2_record_17 ?_
    refine cr_aldq C hW.1 1 (k := k) (v := r k 0 0) rfl hi ((cr_xe _).trans hk) rfl dX2_record_20 ?_
    refine lv_aload_n hx hb dX2_record_21 rfl (lv_at hl 1 rfl) ?_
    obtain ⟨q, hq, hE⟩ := cr_bind hE
    rcases (show k = 0 ∨ k = 1 ∨ k = 2 ∨ k = 3 by omega) with rfl | rfl | rfl | rfl
    · refine cr_vVB (nb := 6) (n := 1) (As := [.ref (ah 0)]) (rest := []) C hW (m_X3_copyFrom L D ct (r 0 0) (r 0 1) (r 0 2) ah al ak (vx 0 0) (vx 0 1) (vx 0 2) vh vl vk _ q hq) (cwV 1 hts gX2_record_X3_copyFrom rfl rfl rfl (by decide +kernel) ⟨Nat.le_of_ble_eq_true rfl, Nat.le_of_ble_eq_true rfl⟩) [1, 5] [0, 2, 3, 4] [cr_wR0 ct as vs r, cr_wH ct (r 0 0) (r 0 1) (r 0 2) (vx 0 0) (vx 0 1) (vx 0 2), cr_wH ct (r 1 0) (r 1 1) (r 1 2) (vx 1 0) (vx 1 1) (vx 1 2), cr_wH ct (r 2 0) (r 2 1) (r 2 2) (vx 2 0) (vx 2 1) (vx 2 2), cr_wH ct (r 3 0) (r 3 1) (r 3 2) (vx 3 0) (vx 3 1) (vx 3 2), cr_wH ct ah al ak vh vl vk] (cr_wR ct as vs r (cr_setR vx 0 q.1 q.2.1 q.2.2) ++ cr_wH ct ah al ak vh vl vk) [cr_wR0 ct as vs r, cr_wH ct (r 0 0) (r 0 1) (r 0 2) q.1 q.2.1 q.2.2, cr_wH ct (r 1 0) (r 1 1) (r 1 2) (vx 1 0) (vx 1 1) (vx 1 2), cr_wH ct (r 2 0) (r 2 1) (r 2 2) (vx 2 0) (vx 2 1) (vx 2 2), cr_wH ct (r 3 0) (r 3 1) (r 3 2) (vx 3 0) (vx 3 1) (vx 3 2), cr_wH ct ah al ak vh vl vk] ⟨rfl, rfl⟩ ⟨rfl, rfl⟩ rfl rfl rfl (by decide) 2 rfl rfl rfl hl.1 rfl (Nat.le_of_ble_eq_true rfl) dX2_record_22 ⟨Nat.zero_le _, Nat.zero_le _⟩ (fun H locs hW => ?_)
      refine lv_aload_n hx hb dX2_record_25 rfl (lv_at hl 0 rfl) ?_
      refine lv_dup hx hb dX2_record_26 rfl ?_
      refine cr_get C hW.1 0 rfl rfl 1 (by decide) hinX2 k1 (v := .int (vs 1 0)) rfl dX2_record_27 ?_
      refine lv_iconst (v := 1) hx hb dX2_record_30 (by decide) ?_
      refine lv_iadd hx hb dX2_record_31 ?_
      refine cr_put C hW 0 rfl rfl tyX2 tyX2_ok nmX2 1 (by decide) hinX2 k1 rfl rfl rfl rfl (Nat.le_of_ble_eq_true rfl) (w' := cr_wR ct as (cr_i vs 1 ((vs 1 0) + 1)) r (cr_setR vx 0 q.1 q.2.1 q.2.2) ++ cr_wH ct ah al ak vh vl vk) rfl dX2_record_32 (fun H locs hW => ?_)
      exact cr_retV C (w := (fun u : (Nat → Nat → Nat → Nat) × cr_V × (Nat → Nat → cr_V) => cr_wR ct as u.2.1 u.1 u.2.2 ++ cr_wH ct ah al ak vh vl vk)) (r, cr_i vs 1 ((vs 1 0) + 1), cr_setR vx 0 q.1 q.2.1 q.2.2) hW (Option.some.inj hE) dX2_record_35
    · refine cr_vVB (nb := 6) (n := 1) (As := [.ref (ah 0)]) (rest := []) C hW (m_X3_copyFrom L D ct (r 1 0) (r 1 1) (r 1 2) ah al ak (vx 1 0) (vx 1 1) (vx 1 2) vh vl vk _ q hq) (cwV 1 hts gX2_record_X3_copyFrom rfl rfl rfl (by decide +kernel) ⟨Nat.le_of_ble_eq_true rfl, Nat.le_of_ble_eq_true rfl⟩) [2, 5] [0, 1, 3, 4] [cr_wR0 ct as vs r, cr_wH ct (r 0 0) (r 0 1) (r 0 2) (vx 0 0) (vx 0 1) (vx 0 2), cr_wH ct (r 1 0) (r 1 1) (r 1 2) (vx 1 0) (vx 1 1) (vx 1 2), cr_wH ct (r 2 0) (r 2 1) (r 2 2) (vx 2 0) (vx 2 1) (vx 2 2), cr_wH ct (r 3 0) (r 3 1) (r 3 2) (vx 3 0) (vx 3 1) (vx 3 2), cr_wH ct ah al ak vh vl vk] (cr_wR ct as vs r (cr_setR vx 1 q.1 q.2.1 q.2.2) ++ cr_wH ct ah al ak vh vl vk) [cr_wR0 ct as vs r, cr_wH ct (r 0 0) (r 0 1) (r 0 2) (vx 0 0) (vx 0 1) (vx 0 2), cr_wH ct (r 1 0) (r 1 1) (r 1 2) q.1 q.2.1 q.2.2, cr_wH ct (r 2 0) (r 2 1) (r 2 2) (vx 2 0) (vx 2 1) (vx 2 2), cr_wH ct (r 3 0) (r 3 1) (r 3 2) (vx 3 0) (vx 3 1) (vx 3 2), cr_wH ct ah al ak vh vl vk] ⟨rfl, rfl⟩ ⟨rfl, rfl⟩ rfl rfl rfl (by decide) 13 rfl rfl rfl hl.1 rfl (Nat.le_of_ble_eq_true rfl) dX2_record_22 ⟨Nat.zero_le _, Nat.zero_le _⟩ (fun H locs hW => ?_)
      refine lv_aload_n hx hb dX2_record_25 rfl (lv_at hl 0 rfl) ?_
      refine lv_dup hx hb dX2_record_26 rfl ?_
      refine cr_get C hW.1 0 rfl rfl 1 (by decide) hinX2 k1 (v := .int (vs 1 0)) rfl dX2_record_27 ?_
      refine lv_iconst (v := 1) hx hb dX2_record_30 (by decide) ?_
      refine lv_iadd hx hb dX2_record_31 ?_
      refine cr_put C hW 0 rfl rfl tyX2 tyX2_ok nmX2 1 (by decide) hinX2 k1 rfl rfl rfl rfl (Nat.le_of_ble_eq_true rfl) (w' := cr_wR ct as (cr_i vs 1 ((vs 1 0) + 1)) r (cr_setR vx 1 q.1 q.2.1 q.2.2) ++ cr_wH ct ah al ak vh vl vk) rfl dX2_record_32 (fun H locs hW => ?_)
      exact cr_retV C (w := (fun u : (Nat → Nat → Nat → Nat) × cr_V × (Nat → Nat → cr_V) => cr_wR ct as u.2.1 u.1 u.2.2 ++ cr_wH ct ah al ak vh vl vk)) (r, cr_i vs 1 ((vs 1 0) + 1), cr_setR vx 1 q.1 q.2.1 q.2.2) hW (Option.some.inj hE) dX2_record_35
    · refine cr_vVB (nb := 6) (n := 1) (As := [.ref (ah 0)]) (rest := []) C hW (m_X3_copyFrom L D ct (r 2 0) (r 2 1) (r 2 2) ah al ak (vx 2 0) (vx 2 1) (vx 2 2) vh vl vk _ q hq) (cwV 1 hts gX2_record_X3_copyFrom rfl rfl rfl (by decide +kernel) ⟨Nat.le_of_ble_eq_true rfl, Nat.le_of_ble_eq_true rfl⟩) [3, 5] [0, 1, 2, 4] [cr_wR0 ct as vs r, cr_wH ct (r 0 0) (r 0 1) (r 0 2) (vx 0 0) (vx 0 1) (vx 0 2), cr_wH ct (r 1 0) (r 1 1) (r 1 2) (vx 1 0) (vx 1 1) (vx 1 2), cr_wH ct (r 2 0) (r 2 1) (r 2 2) (vx 2 0) (vx 2 1) (vx 2 2), cr_wH ct (r 3 0) (r 3 1) (r 3 2) (vx 3 0) (vx 3 1) (vx 3 2), cr_wH ct ah al ak vh vl vk] (cr_wR ct as vs r (cr_setR vx 2 q.1 q.2.1 q.2.2) ++ cr_wH ct ah al ak vh vl vk) [cr_wR0 ct as vs r, cr_wH ct (r 0 0) (r 0 1) (r 0 2) (vx 0 0) (vx 0 1) (vx 0 2), cr_wH ct (r 1 0) (r 1 1) (r 1 2) (vx 1 0) (vx 1 1) (vx 1 2), cr_wH ct (r 2 0) (r 2 1) (r 2 2) q.1 q.2.1 q.2.2, cr_wH ct (r 3 0) (r 3 1) (r 3 2) (vx 3 0) (vx 3 1) (vx 3 2), cr_wH ct ah al ak vh vl vk] ⟨rfl, rfl⟩ ⟨rfl, rfl⟩ rfl rfl rfl (by decide) 24 rfl rfl rfl hl.1 rfl (Nat.le_of_ble_eq_true rfl) dX2_record_22 ⟨Nat.zero_le _, Nat.zero_le _⟩ (fun H locs hW => ?_)
      refine lv_aload_n hx hb dX2_record_25 rfl (lv_at hl 0 rfl) ?_
      refine lv_dup hx hb dX2_record_26 rfl ?_
      refine cr_get C hW.1 0 rfl rfl 1 (by decide) hinX2 k1 (v := .int (vs 1 0)) rfl dX2_record_27 ?_
      refine lv_iconst (v := 1) hx hb dX2_record_30 (by decide) ?_
      refine lv_iadd hx hb dX2_record_31 ?_
      refine cr_put C hW 0 rfl rfl tyX2 tyX2_ok nmX2 1 (by decide) hinX2 k1 rfl rfl rfl rfl (Nat.le_of_ble_eq_true rfl) (w' := cr_wR ct as (cr_i vs 1 ((vs 1 0) + 1)) r (cr_setR vx 2 q.1 q.2.1 q.2.2) ++ cr_wH ct ah al ak vh vl vk) rfl dX2_record_32 (fun H locs hW => ?_)
      exact cr_retV C (w := (fun u : (Nat → Nat → Nat → Nat) × cr_V × (Nat → Nat → cr_V) => cr_wR ct as u.2.1 u.1 u.2.2 ++ cr_wH ct ah al ak vh vl vk)) (r, cr_i vs 1 ((vs 1 0) + 1), cr_setR vx 2 q.1 q.2.1 q.2.2) hW (Option.some.inj hE) dX2_record_35
    · refine cr_vVB (nb := 6) (n := 1) (As := [.ref (ah 0)]) (rest := []) C hW (m_X3_copyFrom L D ct (r 3 0) (r 3 1) (r 3 2) ah al ak (vx 3 0) (vx 3 1) (vx 3 2) vh vl vk _ q hq) (cwV 1 hts gX2_record_X3_copyFrom rfl rfl rfl (by decide +kernel) ⟨Nat.le_of_ble_eq_true rfl, Nat.le_of_ble_eq_true rfl⟩) [4, 5] [0, 1, 2, 3] [cr_wR0 ct as vs r, cr_wH ct (r 0 0) (r 0 1) (r 0 2) (vx 0 0) (vx 0 1) (vx 0 2), cr_wH ct (r 1 0) (r 1 1) (r 1 2) (vx 1 0) (vx 1 1) (vx 1 2), cr_wH ct (r 2 0) (r 2 1) (r 2 2) (vx 2 0) (vx 2 1) (vx 2 2), cr_wH ct (r 3 0) (r 3 1) (r 3 2) (vx 3 0) (vx 3 1) (vx 3 2), cr_wH ct ah al ak vh vl vk] (cr_wR ct as vs r (cr_setR vx 3 q.1 q.2.1 q.2.2) ++ cr_wH ct ah al ak vh vl vk) [cr_wR0 ct as vs r, cr_wH ct (r 0 0) (r 0 1) (r 0 2) (vx 0 0) (vx 0 1) (vx 0 2), cr_wH ct (r 1 0) (r 1 1) (r 1 2) (vx 1 0) (vx 1 1) (vx 1 2), cr_wH ct (r 2 0) (r 2 1) (r 2 2) (vx 2 0) (vx 2 1) (vx 2 2), cr_wH ct (r 3 0) (r 3 1) (r 3 2) q.1 q.2.1 q.2.2, cr_wH ct ah al ak vh vl vk] ⟨rfl, rfl⟩ ⟨rfl, rfl⟩ rfl rfl rfl (by decide) 35 rfl rfl rfl hl.1 rfl (Nat.le_of_ble_eq_true rfl) dX2_record_22 ⟨Nat.zero_le _, Nat.zero_le _⟩ (fun H locs hW => ?_)
      refine lv_aload_n hx hb dX2_record_25 rfl (lv_at hl 0 rfl) ?_
      refine lv_dup hx hb dX2_record_26 rfl ?_
      refine cr_get C hW.1 0 rfl rfl 1 (by decide) hinX2 k1 (v := .int (vs 1 0)) rfl dX2_record_27 ?_
      refine lv_iconst (v := 1) hx hb dX2_record_30 (by decide) ?_
      refine lv_iadd hx hb dX2_record_31 ?_
      refine cr_put C hW 0 rfl rfl tyX2 tyX2_ok nmX2 1 (by decide) hinX2 k1 rfl rfl rfl rfl (Nat.le_of_ble_eq_true rfl) (w' := cr_wR ct as (cr_i vs 1 ((vs 1 0) + 1)) r (cr_setR vx 3 q.1 q.2.1 q.2.2) ++ cr_wH ct ah al ak vh vl vk) rfl dX2_record_32 (fun H locs hW => ?_)
      exact cr_retV C (w := (fun u : (Nat → Nat → Nat → Nat) × cr_V × (Nat → Nat → cr_V) => cr_wR ct as u.2.1 u.1 u.2.2 ++ cr_wH ct ah al ak vh vl vk)) (r, cr_i vs 1 ((vs 1 0) + 1), cr_setR vx 3 q.1 q.2.1 q.2.2) hW (Option.some.inj hE) dX2_record_35
  replace hE : (if (vs 1 0) < 4 then f_X2_record_12 vs vx vh vl vk else (f_X2_dropOldest vs vx).bind fun q => f_X2_record_12 q.1 q.2 vh vl vk) = some out := hE
  refine lv_aload_n hx hb dX2_record_0 rfl (lv_at hl 0 rfl) ?_
  refine cr_get C hW.1 0 rfl rfl 1 (by decide) hinX2 k1 (v := .int (vs 1 0)) rfl dX2_record_1 ?_
  refine lv_iconst (v := 4) hx hb dX2_record_4 (by decide) ?_
  refine lv_icmp_lt (tgt := 12) hx hb dX2_record_5 (by decide) (fun c1 => ?_) (fun c1 => ?_)
  · rw [if_pos c1] at hE
    exact n12 vs vx r hE _ _ hW
  · rw [if_neg c1] at hE
    refine lv_aload_n hx hb dX2_record_8 rfl (lv_at hl 0 rfl) ?_
    obtain ⟨q, hq, hE⟩ := cr_bind hE
    refine cr_vVBr (nb := 2) (n := 0) (As := []) (rest := []) C hW (m_X2_dropOldest L D ct as r vs vx _ q hq) (cwV 0 hts gX2_record_X2_dropOldest rfl rfl rfl (by decide +kernel) ⟨Nat.le_of_ble_eq_true rfl, Nat.le_of_ble_eq_true rfl⟩) [0] [1] [cr_wR ct as vs r vx, cr_wH ct ah al ak vh vl vk] (fun r => cr_wR ct as q.1 r q.2 ++ cr_wH ct ah al ak vh vl vk) (fun r => [cr_wR ct as q.1 r q.2, cr_wH ct ah al ak vh vl vk]) ⟨rfl, rfl⟩ (fun _ => ⟨rfl, rfl⟩) rfl (fun _ => rfl) (fun _ => rfl) (by decide) 0 rfl rfl rfl hl.1 rfl (Nat.le_of_ble_eq_true rfl) dX2_record_9 ⟨Nat.zero_le _, Nat.zero_le _⟩ (fun r H locs hW => ?_)
    exact n12 q.1 q.2 r hE _ _ hW
end
section
set_option maxHeartbeats 4000000 in
set_option maxRecDepth 100000 in
theorem m_X6_accept (L : Launch) (D : va_G) (ct : Nat → ClassId) (a : Nat → Nat → Nat) (r : Nat → Nat → Nat → Nat) (vh : cr_V) (vl : cr_V) (vk : cr_V) (vt : cr_V) (vtl : cr_V) (vtk : cr_V) (vs : cr_V) (vx : Nat → Nat → cr_V) (vd : cr_V) (vo : cr_V) (x1 : Int32) (sz : Nat) (out : Int32 × cr_V × cr_V × cr_V × cr_V × (Nat → Nat → cr_V)) (hE : f_X6_accept vh vl vk vt vtl vtk vs vx vd vo x1 = some out) : Met L yX6_accept wsX6_accept ({ frames := 3, cells := 0, slots := 0, locals := 65 } : Room) (cr_pW D ct (cr_wX ct a r vh vl vk vt vtl vtk vs vx vd vo) sz [.ref (a 0 0), .int x1]) (cr_QW D (cr_wX ct a r vh vl vk vt vtl vtk vs vx vd vo) sz (fun r (u : (Nat → Nat → Nat → Nat) × cr_V × cr_V × cr_V × cr_V × (Nat → Nat → cr_V)) => (r, u.2) = out) (fun u : (Nat → Nat → Nat → Nat) × cr_V × cr_V × cr_V × cr_V × (Nat → Nat → cr_V) => cr_wX ct a u.1 u.2.1 u.2.2.1 u.2.2.2.1 vt vtl vtk u.2.2.2.2.1 u.2.2.2.2.2 vd vo)) 0 0 (va_A (cr_wX ct a r vh vl vk vt vtl vtk vs vx vd vo) sz) := by
  have k0 : (Cond.fieldLink RX6 22 "CupReceipts" "history" "LCupReceipts$History;") ∈ wsX6_accept := List.mem_of_getElem? (i := 1) rfl
  have k1 : (Cond.fieldLink RX6 10 "CupReceipts" "house" "LCupReceipts$House;") ∈ wsX6_accept := List.mem_of_getElem? (i := 2) rfl
  have k2 : (Cond.fieldLink RX6 16 "CupReceipts" "trial" "LCupReceipts$House;") ∈ wsX6_accept := List.mem_of_getElem? (i := 3) rfl
  have hinX6 : ∀ w ∈ wsX60, w ∈ wsX6_accept := fun w h => List.mem_cons_of_mem _ (List.mem_append_left _ (List.mem_append_left _ (List.mem_append_left _ (List.mem_append_left _ (List.mem_append_right _ h)))))
  refine cr_metW (Qc := fun A => va_Qi (fun r (u : (Nat → Nat → Nat → Nat) × cr_V × cr_V × cr_V × cr_V × (Nat → Nat → cr_V)) => (r, u.2) = out) (fun u t => cr_at D A ((fun u : (Nat → Nat → Nat → Nat) × cr_V × cr_V × cr_V × cr_V × (Nat → Nat → cr_V) => cr_wX ct a u.1 u.2.1 u.2.2.1 u.2.2.2.1 vt vtl vtk u.2.2.2.2.1 u.2.2.2.2.2 vd vo) u) t) A) (by decide) rfl rfl (Nat.le_of_ble_eq_true rfl) ?_
  intro p e s m args below meth c ls A C hW hl
  obtain ⟨hx, hb, hml, hown, hts, hr, hlocks, hK, hN⟩ := id C
  have hl : lv_has ls 2 [(0, .ref (a 0 0)), (1, .int x1)] := hl
  replace hE : ((f_X6_isError x1).bind fun q1 => if q1 = 0 then ((f_X2_record vs vx vh vl vk).bind fun q3 => (f_X3_copyFrom vh vl vk vt vtl vtk).bind fun q4 => some (x1, q4.1, q4.2.1, q4.2.2, q3.1, q3.2)) else (some (x1, vh, vl, vk, vs, vx))) = some out := hE
  refine lv_iload_n hx hb dX6_accept_0 rfl (lv_at hl 1 rfl) ?_
  obtain ⟨q1, hq1, hE⟩ := cr_bind hE
  refine cr_sRwq (n := 1) (As := [.int x1]) (rest := []) C hW (m_X6_isError L D ct x1 q1 hq1) (va_cwS 1 hts gX6_accept_X6_isError rfl rfl rfl (by decide +kernel) ⟨Nat.le_of_ble_eq_true rfl, Nat.le_of_ble_eq_true rfl⟩) rfl hl.1 rfl (Nat.le_of_ble_eq_true rfl) dX6_accept_1 ⟨Nat.zero_le _, Nat.zero_le _⟩ (fun H locs hW => ?_)
  refine lv_if_ne (tgt := 29) hx hb dX6_accept_4 (by decide) (fun c2 => ?_) (fun c2 => ?_)
  · rw [if_neg c2] at hE
    refine lv_iload_n hx hb dX6_accept_29 rfl (lv_at hl 1 rfl) ?_
    exact cr_retW C (w := (fun u : (Nat → Nat → Nat → Nat) × cr_V × cr_V × cr_V × cr_V × (Nat → Nat → cr_V) => cr_wX ct a u.1 u.2.1 u.2.2.1 u.2.2.2.1 vt vtl vtk u.2.2.2.2.1 u.2.2.2.2.2 vd vo)) (r, vh, vl, vk, vs, vx) hW (Option.some.inj hE) dX6_accept_30
  · rw [if_pos c2] at hE
    refine lv_aload_n hx hb dX6_accept_7 rfl (lv_at hl 0 rfl) ?_
    refine cr_get C hW.1 0 rfl rfl 2 (by decide) hinX6 k0 (v := .ref ((a 7) 0)) rfl dX6_accept_8 ?_
    refine lv_aload_n hx hb dX6_accept_11 rfl (lv_at hl 0 rfl) ?_
    refine cr_get C hW.1 0 rfl rfl 0 (by decide) hinX6 k1 (v := .ref ((a 1) 0)) rfl dX6_accept_12 ?_
    obtain ⟨q3, hq3, hE⟩ := cr_bind hE
    refine cr_vVBr (nb := 6) (n := 1) (As := [.ref ((a 1) 0)]) (rest := []) C hW (m_X2_record L D ct (a 7) (a 1) (a 2) (a 3) r vs vx vh vl vk _ q3 hq3) (cwV 1 hts gX6_accept_X2_record rfl rfl rfl (by decide +kernel) ⟨Nat.le_of_ble_eq_true rfl, Nat.le_of_ble_eq_true rfl⟩) [3, 1] [0, 2, 4, 5] [cr_wX0 ct a, cr_wH ct (a 1) (a 2) (a 3) vh vl vk, cr_wH ct (a 4) (a 5) (a 6) vt vtl vtk, cr_wR ct (a 7) vs r vx, cr_wD ct (a 8) vd, cr_wO ct (a 9) vo] (fun r => cr_wX ct a r vh vl vk vt vtl vtk q3.1 q3.2 vd vo) (fun r => [cr_wX0 ct a, cr_wH ct (a 1) (a 2) (a 3) vh vl vk, cr_wH ct (a 4) (a 5) (a 6) vt vtl vtk, cr_wR ct (a 7) q3.1 r q3.2, cr_wD ct (a 8) vd, cr_wO ct (a 9) vo]) ⟨rfl, rfl⟩ (fun _ => ⟨rfl, rfl⟩) rfl (fun _ => rfl) (fun _ => rfl) (by decide) 23 rfl rfl rfl hl.1 rfl (Nat.le_of_ble_eq_true rfl) dX6_accept_15 ⟨Nat.zero_le _, Nat.zero_le _⟩ (fun r H locs hW => ?_)
    refine lv_aload_n hx hb dX6_accept_18 rfl (lv_at hl 0 rfl) ?_
    refine cr_get C hW.1 0 rfl rfl 0 (by decide) hinX6 k1 (v := .ref ((a 1) 0)) rfl dX6_accept_19 ?_
    refine lv_aload_n hx hb dX6_accept_22 rfl (lv_at hl 0 rfl) ?_
    refine cr_get C hW.1 0 rfl rfl 1 (by decide) hinX6 k2 (v := .ref ((a 4) 0)) rfl dX6_accept_23 ?_
    obtain ⟨q4, hq4, hE⟩ := cr_bind hE
    refine cr_vVB (nb := 6) (n := 1) (As := [.ref ((a 4) 0)]) (rest := []) C hW (m_X3_copyFrom L D ct (a 1) (a 2) (a 3) (a 4) (a 5) (a 6) vh vl vk vt vtl vtk _ q4 hq4) (cwV 1 hts gX6_accept_X3_copyFrom rfl rfl rfl (by decide +kernel) ⟨Nat.le_of_ble_eq_true rfl, Nat.le_of_ble_eq_true rfl⟩) [1, 2] [0, 3, 4, 5] [cr_wX0 ct a, cr_wH ct (a 1) (a 2) (a 3) vh vl vk, cr_wH ct (a 4) (a 5) (a 6) vt vtl vtk, cr_wR ct (a 7) q3.1 r q3.2, cr_wD ct (a 8) vd, cr_wO ct (a 9) vo] (cr_wX ct a r q4.1 q4.2.1 q4.2.2 vt vtl vtk q3.1 q3.2 vd vo) [cr_wX0 ct a, cr_wH ct (a 1) (a 2) (a 3) q4.1 q4.2.1 q4.2.2, cr_wH ct (a 4) (a 5) (a 6) vt vtl vtk, cr_wR ct (a 7) q3.1 r q3.2, cr_wD ct (a 8) vd, cr_wO ct (a 9) vo] ⟨rfl, rfl⟩ ⟨rfl, rfl⟩ rfl rfl rfl (by decide) 1 rfl rfl rfl hl.1 rfl (Nat.le_of_ble_eq_true rfl) dX6_accept_26 ⟨Nat.zero_le _, Nat.zero_le _⟩ (fun H locs hW => ?_)
    refine lv_iload_n hx hb dX6_accept_29 rfl (lv_at hl 1 rfl) ?_
    exact cr_retW C (w := (fun u : (Nat → Nat → Nat → Nat) × cr_V × cr_V × cr_V × cr_V × (Nat → Nat → cr_V) => cr_wX ct a u.1 u.2.1 u.2.2.1 u.2.2.2.1 vt vtl vtk u.2.2.2.2.1 u.2.2.2.2.2 vd vo)) (r, q4.1, q4.2.1, q4.2.2, q3.1, q3.2) hW (Option.some.inj hE) dX6_accept_30

set_option maxHeartbeats 4000000 in
set_option maxRecDepth 100000 in
theorem m_X6_lot (L : Launch) (D : va_G) (ct : Nat → ClassId) (a : Nat → Nat → Nat) (r : Nat → Nat → Nat → Nat) (vh : cr_V) (vl : cr_V) (vk : cr_V) (vt : cr_V) (vtl : cr_V) (vtk : cr_V) (vs : cr_V) (vx : Nat → Nat → cr_V) (vd : cr_V) (vo : cr_V) (x1 : Int32) (x2 : Int32) (sz : Nat) (out : Int32 × cr_V × cr_V × cr_V × cr_V × cr_V × cr_V × cr_V × (Nat → Nat → cr_V)) (hE : f_X6_lot vh vl vk vt vtl vtk vs vx vd vo x1 x2 = some out) : Met L yX6_lot wsX6_lot ({ frames := 4, cells := 0, slots := 0, locals := 86 } : Room) (cr_pW D ct (cr_wX ct a r vh vl vk vt vtl vtk vs vx vd vo) sz [.ref (a 0 0), .int x1, .int x2]) (cr_QW D (cr_wX ct a r vh vl vk vt vtl vtk vs vx vd vo) sz (fun r (u : (Nat → Nat → Nat → Nat) × cr_V × cr_V × cr_V × cr_V × cr_V × cr_V × cr_V × (Nat → Nat → cr_V)) => (r, u.2) = out) (fun u : (Nat → Nat → Nat → Nat) × cr_V × cr_V × cr_V × cr_V × cr_V × cr_V × cr_V × (Nat → Nat → cr_V) => cr_wX ct a u.1 u.2.1 u.2.2.1 u.2.2.2.1 u.2.2.2.2.1 u.2.2.2.2.2.1 u.2.2.2.2.2.2.1 u.2.2.2.2.2.2.2.1 u.2.2.2.2.2.2.2.2 vd vo)) 0 0 (va_A (cr_wX ct a r vh vl vk vt vtl vtk vs vx vd vo) sz) := by
  have k0 : (Cond.fieldLink RX6 16 "CupReceipts" "trial" "LCupReceipts$House;") ∈ wsX6_lot := List.mem_of_getElem? (i := 1) rfl
  have k1 : (Cond.fieldLink RX6 10 "CupReceipts" "house" "LCupReceipts$House;") ∈ wsX6_lot := List.mem_of_getElem? (i := 2) rfl
  have hinX6 : ∀ w ∈ wsX60, w ∈ wsX6_lot := fun w h => List.mem_cons_of_mem _ (List.mem_append_left _ (List.mem_append_left _ (List.mem_append_left _ (List.mem_append_left _ (List.mem_append_right _ h)))))
  refine cr_metW (Qc := fun A => va_Qi (fun r (u : (Nat → Nat → Nat → Nat) × cr_V × cr_V × cr_V × cr_V × cr_V × cr_V × cr_V × (Nat → Nat → cr_V)) => (r, u.2) = out) (fun u t => cr_at D A ((fun u : (Nat → Nat → Nat → Nat) × cr_V × cr_V × cr_V × cr_V × cr_V × cr_V × cr_V × (Nat → Nat → cr_V) => cr_wX ct a u.1 u.2.1 u.2.2.1 u.2.2.2.1 u.2.2.2.2.1 u.2.2.2.2.2.1 u.2.2.2.2.2.2.1 u.2.2.2.2.2.2.2.1 u.2.2.2.2.2.2.2.2 vd vo) u) t) A) (by decide) rfl rfl (Nat.le_of_ble_eq_true rfl) ?_
  intro p e s m args below meth c ls A C hW hl
  obtain ⟨hx, hb, hml, hown, hts, hr, hlocks, hK, hN⟩ := id C
  have hl : lv_has ls 3 [(0, .ref (a 0 0)), (1, .int x1), (2, .int x2)] := hl
  replace hE : ((f_X3_copyFrom vt vtl vtk vh vl vk).bind fun q1 => (f_X3_bringLot q1.1 q1.2.1 q1.2.2 x1 x2).bind fun q2 => (f_X6_accept vh vl vk q1.1 q2.2 q1.2.2 vs vx vd vo q2.1).bind fun q3 => some (q3.1, q3.2.1, q3.2.2.1, q3.2.2.2.1, q1.1, q2.2, q1.2.2, q3.2.2.2.2.1, q3.2.2.2.2.2)) = some out := hE
  refine lv_aload_n hx hb dX6_lot_0 rfl (lv_at hl 0 rfl) ?_
  refine cr_get C hW.1 0 rfl rfl 1 (by decide) hinX6 k0 (v := .ref ((a 4) 0)) rfl dX6_lot_1 ?_
  refine lv_aload_n hx hb dX6_lot_4 rfl (lv_at hl 0 rfl) ?_
  refine cr_get C hW.1 0 rfl rfl 0 (by decide) hinX6 k1 (v := .ref ((a 1) 0)) rfl dX6_lot_5 ?_
  obtain ⟨q1, hq1, hE⟩ := cr_bind hE
  refine cr_vVB (nb := 6) (n := 1) (As := [.ref ((a 1) 0)]) (rest := []) C hW (m_X3_copyFrom L D ct (a 4) (a 5) (a 6) (a 1) (a 2) (a 3) vt vtl vtk vh vl vk _ q1 hq1) (cwV 1 hts gX6_lot_X3_copyFrom rfl rfl rfl (by decide +kernel) ⟨Nat.le_of_ble_eq_true rfl, Nat.le_of_ble_eq_true rfl⟩) [2, 1] [0, 3, 4, 5] [cr_wX0 ct a, cr_wH ct (a 1) (a 2) (a 3) vh vl vk, cr_wH ct (a 4) (a 5) (a 6) vt vtl vtk, cr_wR ct (a 7) vs r vx, cr_wD ct (a 8) vd, cr_wO ct (a 9) vo] (cr_wX ct a r vh vl vk q1.1 q1.2.1 q1.2.2 vs vx vd vo) [cr_wX0 ct a, cr_wH ct (a 1) (a 2) (a 3) vh vl vk, cr_wH ct (a 4) (a 5) (a 6) q1.1 q1.2.1 q1.2.2, cr_wR ct (a 7) vs r vx, cr_wD ct (a 8) vd, cr_wO ct (a 9) vo] ⟨rfl, rfl⟩ ⟨rfl, rfl⟩ rfl rfl rfl (by decide) 12 rfl rfl rfl hl.1 rfl (Nat.le_of_ble_eq_true rfl) dX6_lot_8 ⟨Nat.zero_le _, Nat.zero_le _⟩ (fun H locs hW => ?_)
  refine lv_aload_n hx hb dX6_lot_11 rfl (lv_at hl 0 rfl) ?_
  refine lv_aload_n hx hb dX6_lot_12 rfl (lv_at hl 0 rfl) ?_
  refine cr_get C hW.1 0 rfl rfl 1 (by decide) hinX6 k0 (v := .ref ((a 4) 0)) rfl dX6_lot_13 ?_
  refine lv_iload_n hx hb dX6_lot_16 rfl (lv_at hl 1 rfl) ?_
  refine lv_iload_n hx hb dX6_lot_17 rfl (lv_at hl 2 rfl) ?_
  obtain ⟨q2, hq2, hE⟩ := cr_bind hE
  refine cr_vWB (nb := 6) (n := 2) (As := [.int x1, .int x2]) (rest := [.ref (a 0 0)]) C hW (m_X3_bringLot L D ct (a 4) (a 5) (a 6) q1.1 q1.2.1 q1.2.2 x1 x2 _ q2 hq2) (cwV 2 hts gX6_lot_X3_bringLot rfl rfl rfl (by decide +kernel) ⟨Nat.le_of_ble_eq_true rfl, Nat.le_of_ble_eq_true rfl⟩) [2] [0, 1, 3, 4, 5] [cr_wX0 ct a, cr_wH ct (a 1) (a 2) (a 3) vh vl vk, cr_wH ct (a 4) (a 5) (a 6) q1.1 q1.2.1 q1.2.2, cr_wR ct (a 7) vs r vx, cr_wD ct (a 8) vd, cr_wO ct (a 9) vo] (cr_wX ct a r vh vl vk q1.1 q2.2 q1.2.2 vs vx vd vo) [cr_wX0 ct a, cr_wH ct (a 1) (a 2) (a 3) vh vl vk, cr_wH ct (a 4) (a 5) (a 6) q1.1 q2.2 q1.2.2, cr_wR ct (a 7) vs r vx, cr_wD ct (a 8) vd, cr_wO ct (a 9) vo] ⟨rfl, rfl⟩ ⟨rfl, rfl⟩ rfl rfl rfl (by decide) 12 rfl rfl rfl hl.1 rfl (Nat.le_of_ble_eq_true rfl) dX6_lot_18 ⟨Nat.zero_le _, Nat.zero_le _⟩ (fun H locs hW => ?_)
  obtain ⟨q3, hq3, hE⟩ := cr_bind hE
  refine cr_vWBr (nb := 6) (n := 1) (As := [.int q2.1]) (rest := []) C hW (m_X6_accept L D ct a r vh vl vk q1.1 q2.2 q1.2.2 vs vx vd vo q2.1 _ q3 hq3) (cwV 1 hts gX6_lot_X6_accept rfl rfl rfl (by decide +kernel) ⟨Nat.le_of_ble_eq_true rfl, Nat.le_of_ble_eq_true rfl⟩) [0, 1, 2, 3, 4, 5] [] [cr_wX0 ct a, cr_wH ct (a 1) (a 2) (a 3) vh vl vk, cr_wH ct (a 4) (a 5) (a 6) q1.1 q2.2 q1.2.2, cr_wR ct (a 7) vs r vx, cr_wD ct (a 8) vd, cr_wO ct (a 9) vo] (fun r => cr_wX ct a r q3.2.1 q3.2.2.1 q3.2.2.2.1 q1.1 q2.2 q1.2.2 q3.2.2.2.2.1 q3.2.2.2.2.2 vd vo) (fun r => [cr_wX0 ct a, cr_wH ct (a 1) (a 2) (a 3) q3.2.1 q3.2.2.1 q3.2.2.2.1, cr_wH ct (a 4) (a 5) (a 6) q1.1 q2.2 q1.2.2, cr_wR ct (a 7) q3.2.2.2.2.1 r q3.2.2.2.2.2, cr_wD ct (a 8) vd, cr_wO ct (a 9) vo]) ⟨rfl, rfl⟩ (fun _ => ⟨rfl, rfl⟩) rfl (fun _ => rfl) (fun _ => rfl) (by decide) 0 rfl rfl rfl hl.1 rfl (Nat.le_of_ble_eq_true rfl) dX6_lot_21 ⟨Nat.zero_le _, Nat.zero_le _⟩ (fun r H locs hW => ?_)
  exact cr_retW C (w := (fun u : (Nat → Nat → Nat → Nat) × cr_V × cr_V × cr_V × cr_V × cr_V × cr_V × cr_V × (Nat → Nat → cr_V) => cr_wX ct a u.1 u.2.1 u.2.2.1 u.2.2.2.1 u.2.2.2.2.1 u.2.2.2.2.2.1 u.2.2.2.2.2.2.1 u.2.2.2.2.2.2.2.1 u.2.2.2.2.2.2.2.2 vd vo)) (r, q3.2.1, q3.2.2.1, q3.2.2.2.1, q1.1, q2.2, q1.2.2, q3.2.2.2.2.1, q3.2.2.2.2.2) hW (Option.some.inj hE) dX6_lot_24

set_option maxHeartbeats 4000000 in
set_option maxRecDepth 100000 in
theorem m_X6_part (L : Launch) (D : va_G) (ct : Nat → ClassId) (a : Nat → Nat → Nat) (r : Nat → Nat → Nat → Nat) (vh : cr_V) (vl : cr_V) (vk : cr_V) (vt : cr_V) (vtl : cr_V) (vtk : cr_V) (vs : cr_V) (vx : Nat → Nat → cr_V) (vd : cr_V) (vo : cr_V) (x1 : Int32) (x2 : Int32) (sz : Nat) (out : Int32 × cr_V × cr_V × cr_V × cr_V × cr_V × cr_V × cr_V × (Nat → Nat → cr_V)) (hE : f_X6_part vh vl vk vt vtl vtk vs vx vd vo x1 x2 = some out) : Met L yX6_part wsX6_part ({ frames := 4, cells := 0, slots := 0, locals := 86 } : Room) (cr_pW D ct (cr_wX ct a r vh vl vk vt vtl vtk vs vx vd vo) sz [.ref (a 0 0), .int x1, .int x2]) (cr_QW D (cr_wX ct a r vh vl vk vt vtl vtk vs vx vd vo) sz (fun r (u : (Nat → Nat → Nat → Nat) × cr_V × cr_V × cr_V × cr_V × cr_V × cr_V × cr_V × (Nat → Nat → cr_V)) => (r, u.2) = out) (fun u : (Nat → Nat → Nat → Nat) × cr_V × cr_V × cr_V × cr_V × cr_V × cr_V × cr_V × (Nat → Nat → cr_V) => cr_wX ct a u.1 u.2.1 u.2.2.1 u.2.2.2.1 u.2.2.2.2.1 u.2.2.2.2.2.1 u.2.2.2.2.2.2.1 u.2.2.2.2.2.2.2.1 u.2.2.2.2.2.2.2.2 vd vo)) 0 0 (va_A (cr_wX ct a r vh vl vk vt vtl vtk vs vx vd vo) sz) := by
  have k0 : (Cond.fieldLink RX6 16 "CupReceipts" "trial" "LCupReceipts$House;") ∈ wsX6_part := List.mem_of_getElem? (i := 1) rfl
  have k1 : (Cond.fieldLink RX6 10 "CupReceipts" "house" "LCupReceipts$House;") ∈ wsX6_part := List.mem_of_getElem? (i := 2) rfl
  have hinX6 : ∀ w ∈ wsX60, w ∈ wsX6_part := fun w h => List.mem_cons_of_mem _ (List.mem_append_left _ (List.mem_append_left _ (List.mem_append_left _ (List.mem_append_left _ (List.mem_append_right _ h)))))
  refine cr_metW (Qc := fun A => va_Qi (fun r (u : (Nat → Nat → Nat → Nat) × cr_V × cr_V × cr_V × cr_V × cr_V × cr_V × cr_V × (Nat → Nat → cr_V)) => (r, u.2) = out) (fun u t => cr_at D A ((fun u : (Nat → Nat → Nat → Nat) × cr_V × cr_V × cr_V × cr_V × cr_V × cr_V × cr_V × (Nat → Nat → cr_V) => cr_wX ct a u.1 u.2.1 u.2.2.1 u.2.2.2.1 u.2.2.2.2.1 u.2.2.2.2.2.1 u.2.2.2.2.2.2.1 u.2.2.2.2.2.2.2.1 u.2.2.2.2.2.2.2.2 vd vo) u) t) A) (by decide) rfl rfl (Nat.le_of_ble_eq_true rfl) ?_
  intro p e s m args below meth c ls A C hW hl
  obtain ⟨hx, hb, hml, hown, hts, hr, hlocks, hK, hN⟩ := id C
  have hl : lv_has ls 3 [(0, .ref (a 0 0)), (1, .int x1), (2, .int x2)] := hl
  replace hE : ((f_X3_copyFrom vt vtl vtk vh vl vk).bind fun q1 => (f_X3_partLot q1.1 q1.2.1 q1.2.2 x1 x2).bind fun q2 => (f_X6_accept vh vl vk q1.1 q2.2 q1.2.2 vs vx vd vo q2.1).bind fun q3 => some (q3.1, q3.2.1, q3.2.2.1, q3.2.2.2.1, q1.1, q2.2, q1.2.2, q3.2.2.2.2.1, q3.2.2.2.2.2)) = some out := hE
  refine lv_aload_n hx hb dX6_part_0 rfl (lv_at hl 0 rfl) ?_
  refine cr_get C hW.1 0 rfl rfl 1 (by decide) hinX6 k0 (v := .ref ((a 4) 0)) rfl dX6_part_1 ?_
  refine lv_aload_n hx hb dX6_part_4 rfl (lv_at hl 0 rfl) ?_
  refine cr_get C hW.1 0 rfl rfl 0 (by decide) hinX6 k1 (v := .ref ((a 1) 0)) rfl dX6_part_5 ?_
  obtain ⟨q1, hq1, hE⟩ := cr_bind hE
  refine cr_vVB (nb := 6) (n := 1) (As := [.ref ((a 1) 0)]) (rest := []) C hW (m_X3_copyFrom L D ct (a 4) (a 5) (a 6) (a 1) (a 2) (a 3) vt vtl vtk vh vl vk _ q1 hq1) (cwV 1 hts gX6_part_X3_copyFrom rfl rfl rfl (by decide +kernel) ⟨Nat.le_of_ble_eq_true rfl, Nat.le_of_ble_eq_true rfl⟩) [2, 1] [0, 3, 4, 5] [cr_wX0 ct a, cr_wH ct (a 1) (a 2) (a 3) vh vl vk, cr_wH ct (a 4) (a 5) (a 6) vt vtl vtk, cr_wR ct (a 7) vs r vx, cr_wD ct (a 8) vd, cr_wO ct (a 9) vo] (cr_wX ct a r vh vl vk q1.1 q1.2.1 q1.2.2 vs vx vd vo) [cr_wX0 ct a, cr_wH ct (a 1) (a 2) (a 3) vh vl vk, cr_wH ct (a 4) (a 5) (a 6) q1.1 q1.2.1 q1.2.2, cr_wR ct (a 7) vs r vx, cr_wD ct (a 8) vd, cr_wO ct (a 9) vo] ⟨rfl, rfl⟩ ⟨rfl, rfl⟩ rfl rfl rfl (by decide) 12 rfl rfl rfl hl.1 rfl (Nat.le_of_ble_eq_true rfl) dX6_part_8 ⟨Nat.zero_le _, Nat.zero_le _⟩ (fun H locs hW => ?_)
  refine lv_aload_n hx hb dX6_part_11 rfl (lv_at hl 0 rfl) ?_
  refine lv_aload_n hx hb dX6_part_12 rfl (lv_at hl 0 rfl) ?_
  refine cr_get C hW.1 0 rfl rfl 1 (by decide) hinX6 k0 (v := .ref ((a 4) 0)) rfl dX6_part_13 ?_
  refine lv_iload_n hx hb dX6_part_16 rfl (lv_at hl 1 rfl) ?_
  refine lv_iload_n hx hb dX6_part_17 rfl (lv_at hl 2 rfl) ?_
  obtain ⟨q2, hq2, hE⟩ := cr_bind hE
  refine cr_vWB (nb := 6) (n := 2) (As := [.int x1, .int x2]) (rest := [.ref (a 0 0)]) C hW (m_X3_partLot L D ct (a 4) (a 5) (a 6) q1.1 q1.2.1 q1.2.2 x1 x2 _ q2 hq2) (cwV 2 hts gX6_part_X3_partLot rfl rfl rfl (by decide +kernel) ⟨Nat.le_of_ble_eq_true rfl, Nat.le_of_ble_eq_true rfl⟩) [2] [0, 1, 3, 4, 5] [cr_wX0 ct a, cr_wH ct (a 1) (a 2) (a 3) vh vl vk, cr_wH ct (a 4) (a 5) (a 6) q1.1 q1.2.1 q1.2.2, cr_wR ct (a 7) vs r vx, cr_wD ct (a 8) vd, cr_wO ct (a 9) vo] (cr_wX ct a r vh vl vk q1.1 q2.2 q1.2.2 vs vx vd vo) [cr_wX0 ct a, cr_wH ct (a 1) (a 2) (a 3) vh vl vk, cr_wH ct (a 4) (a 5) (a 6) q1.1 q2.2 q1.2.2, cr_wR ct (a 7) vs r vx, cr_wD ct (a 8) vd, cr_wO ct (a 9) vo] ⟨rfl, rfl⟩ ⟨rfl, rfl⟩ rfl rfl rfl (by decide) 12 rfl rfl rfl hl.1 rfl (Nat.le_of_ble_eq_true rfl) dX6_part_18 ⟨Nat.zero_le _, Nat.zero_le _⟩ (fun H locs hW => ?_)
  obtain ⟨q3, hq3, hE⟩ := cr_bind hE
  refine cr_vWBr (nb := 6) (n := 1) (As := [.int q2.1]) (rest := []) C hW (m_X6_accept L D ct a r vh vl vk q1.1 q2.2 q1.2.2 vs vx vd vo q2.1 _ q3 hq3) (cwV 1 hts gX6_part_X6_accept rfl rfl rfl (by decide +kernel) ⟨Nat.le_of_ble_eq_true rfl, Nat.le_of_ble_eq_true rfl⟩) [0, 1, 2, 3, 4, 5] [] [cr_wX0 ct a, cr_wH ct (a 1) (a 2) (a 3) vh vl vk, cr_wH ct (a 4) (a 5) (a 6) q1.1 q2.2 q1.2.2, cr_wR ct (a 7) vs r vx, cr_wD ct (a 8) vd, cr_wO ct (a 9) vo] (fun r => cr_wX ct a r q3.2.1 q3.2.2.1 q3.2.2.2.1 q1.1 q2.2 q1.2.2 q3.2.2.2.2.1 q3.2.2.2.2.2 vd vo) (fun r => [cr_wX0 ct a, cr_wH ct (a 1) (a 2) (a 3) q3.2.1 q3.2.2.1 q3.2.2.2.1, cr_wH ct (a 4) (a 5) (a 6) q1.1 q2.2 q1.2.2, cr_wR ct (a 7) q3.2.2.2.2.1 r q3.2.2.2.2.2, cr_wD ct (a 8) vd, cr_wO ct (a 9) vo]) ⟨rfl, rfl⟩ (fun _ => ⟨rfl, rfl⟩) rfl (fun _ => rfl) (fun _ => rfl) (by decide) 0 rfl rfl rfl hl.1 rfl (Nat.le_of_ble_eq_true rfl) dX6_part_21 ⟨Nat.zero_le _, Nat.zero_le _⟩ (fun r H locs hW => ?_)
  exact cr_retW C (w := (fun u : (Nat → Nat → Nat → Nat) × cr_V × cr_V × cr_V × cr_V × cr_V × cr_V × cr_V × (Nat → Nat → cr_V) => cr_wX ct a u.1 u.2.1 u.2.2.1 u.2.2.2.1 u.2.2.2.2.1 u.2.2.2.2.2.1 u.2.2.2.2.2.2.1 u.2.2.2.2.2.2.2.1 u.2.2.2.2.2.2.2.2 vd vo)) (r, q3.2.1, q3.2.2.1, q3.2.2.2.1, q1.1, q2.2, q1.2.2, q3.2.2.2.2.1, q3.2.2.2.2.2) hW (Option.some.inj hE) dX6_part_24

set_option maxHeartbeats 4000000 in
set_option maxRecDepth 100000 in
theorem m_X6_blend (L : Launch) (D : va_G) (ct : Nat → ClassId) (a : Nat → Nat → Nat) (r : Nat → Nat → Nat → Nat) (vh : cr_V) (vl : cr_V) (vk : cr_V) (vt : cr_V) (vtl : cr_V) (vtk : cr_V) (vs : cr_V) (vx : Nat → Nat → cr_V) (vd : cr_V) (vo : cr_V) (x1 : Int32) (x2 : Int32) (x3 : Int32) (x4 : Int32) (sz : Nat) (out : Int32 × cr_V × cr_V × cr_V × cr_V × cr_V × cr_V × cr_V × (Nat → Nat → cr_V)) (hE : f_X6_blend vh vl vk vt vtl vtk vs vx vd vo x1 x2 x3 x4 = some out) : Met L yX6_blend wsX6_blend ({ frames := 4, cells := 0, slots := 0, locals := 86 } : Room) (cr_pW D ct (cr_wX ct a r vh vl vk vt vtl vtk vs vx vd vo) sz [.ref (a 0 0), .int x1, .int x2, .int x3, .int x4]) (cr_QW D (cr_wX ct a r vh vl vk vt vtl vtk vs vx vd vo) sz (fun r (u : (Nat → Nat → Nat → Nat) × cr_V × cr_V × cr_V × cr_V × cr_V × cr_V × cr_V × (Nat → Nat → cr_V)) => (r, u.2) = out) (fun u : (Nat → Nat → Nat → Nat) × cr_V × cr_V × cr_V × cr_V × cr_V × cr_V × cr_V × (Nat → Nat → cr_V) => cr_wX ct a u.1 u.2.1 u.2.2.1 u.2.2.2.1 u.2.2.2.2.1 u.2.2.2.2.2.1 u.2.2.2.2.2.2.1 u.2.2.2.2.2.2.2.1 u.2.2.2.2.2.2.2.2 vd vo)) 0 0 (va_A (cr_wX ct a r vh vl vk vt vtl vtk vs vx vd vo) sz) := by
  have k0 : (Cond.fieldLink RX6 16 "CupReceipts" "trial" "LCupReceipts$House;") ∈ wsX6_blend := List.mem_of_getElem? (i := 1) rfl
  have k1 : (Cond.fieldLink RX6 10 "CupReceipts" "house" "LCupReceipts$House;") ∈ wsX6_blend := List.mem_of_getElem? (i := 2) rfl
  have hinX6 : ∀ w ∈ wsX60, w ∈ wsX6_blend := fun w h => List.mem_cons_of_mem _ (List.mem_append_left _ (List.mem_append_left _ (List.mem_append_left _ (List.mem_append_left _ (List.mem_append_right _ h)))))
  refine cr_metW (Qc := fun A => va_Qi (fun r (u : (Nat → Nat → Nat → Nat) × cr_V × cr_V × cr_V × cr_V × cr_V × cr_V × cr_V × (Nat → Nat → cr_V)) => (r, u.2) = out) (fun u t => cr_at D A ((fun u : (Nat → Nat → Nat → Nat) × cr_V × cr_V × cr_V × cr_V × cr_V × cr_V × cr_V × (Nat → Nat → cr_V) => cr_wX ct a u.1 u.2.1 u.2.2.1 u.2.2.2.1 u.2.2.2.2.1 u.2.2.2.2.2.1 u.2.2.2.2.2.2.1 u.2.2.2.2.2.2.2.1 u.2.2.2.2.2.2.2.2 vd vo) u) t) A) (by decide) rfl rfl (Nat.le_of_ble_eq_true rfl) ?_
  intro p e s m args below meth c ls A C hW hl
  obtain ⟨hx, hb, hml, hown, hts, hr, hlocks, hK, hN⟩ := id C
  have hl : lv_has ls 5 [(0, .ref (a 0 0)), (1, .int x1), (2, .int x2), (3, .int x3), (4, .int x4)] := hl
  replace hE : ((f_X3_copyFrom vt vtl vtk vh vl vk).bind fun q1 => (f_X3_blendLots q1.1 q1.2.1 q1.2.2 x1 x2 x3 x4).bind fun q2 => (f_X6_accept vh vl vk q1.1 q2.2 q1.2.2 vs vx vd vo q2.1).bind fun q3 => some (q3.1, q3.2.1, q3.2.2.1, q3.2.2.2.1, q1.1, q2.2, q1.2.2, q3.2.2.2.2.1, q3.2.2.2.2.2)) = some out := hE
  refine lv_aload_n hx hb dX6_blend_0 rfl (lv_at hl 0 rfl) ?_
  refine cr_get C hW.1 0 rfl rfl 1 (by decide) hinX6 k0 (v := .ref ((a 4) 0)) rfl dX6_blend_1 ?_
  refine lv_aload_n hx hb dX6_blend_4 rfl (lv_at hl 0 rfl) ?_
  refine cr_get C hW.1 0 rfl rfl 0 (by decide) hinX6 k1 (v := .ref ((a 1) 0)) rfl dX6_blend_5 ?_
  obtain ⟨q1, hq1, hE⟩ := cr_bind hE
  refine cr_vVB (nb := 6) (n := 1) (As := [.ref ((a 1) 0)]) (rest := []) C hW (m_X3_copyFrom L D ct (a 4) (a 5) (a 6) (a 1) (a 2) (a 3) vt vtl vtk vh vl vk _ q1 hq1) (cwV 1 hts gX6_blend_X3_copyFrom rfl rfl rfl (by decide +kernel) ⟨Nat.le_of_ble_eq_true rfl, Nat.le_of_ble_eq_true rfl⟩) [2, 1] [0, 3, 4, 5] [cr_wX0 ct a, cr_wH ct (a 1) (a 2) (a 3) vh vl vk, cr_wH ct (a 4) (a 5) (a 6) vt vtl vtk, cr_wR ct (a 7) vs r vx, cr_wD ct (a 8) vd, cr_wO ct (a 9) vo] (cr_wX ct a r vh vl vk q1.1 q1.2.1 q1.2.2 vs vx vd vo) [cr_wX0 ct a, cr_wH ct (a 1) (a 2) (a 3) vh vl vk, cr_wH ct (a 4) (a 5) (a 6) q1.1 q1.2.1 q1.2.2, cr_wR ct (a 7) vs r vx, cr_wD ct (a 8) vd, cr_wO ct (a 9) vo] ⟨rfl, rfl⟩ ⟨rfl, rfl⟩ rfl rfl rfl (by decide) 12 rfl rfl rfl hl.1 rfl (Nat.le_of_ble_eq_true rfl) dX6_blend_8 ⟨Nat.zero_le _, Nat.zero_le _⟩ (fun H locs hW => ?_)
  refine lv_aload_n hx hb dX6_blend_11 rfl (lv_at hl 0 rfl) ?_
  refine lv_aload_n hx hb dX6_blend_12 rfl (lv_at hl 0 rfl) ?_
  refine cr_get C hW.1 0 rfl rfl 1 (by decide) hinX6 k0 (v := .ref ((a 4) 0)) rfl dX6_blend_13 ?_
  refine lv_iload_n hx hb dX6_blend_16 rfl (lv_at hl 1 rfl) ?_
  refine lv_iload_n hx hb dX6_blend_17 rfl (lv_at hl 2 rfl) ?_
  refine lv_iload_n hx hb dX6_blend_18 rfl (lv_at hl 3 rfl) ?_
  refine lv_iload hx hb dX6_blend_19 (lv_at hl 4 rfl) ?_
  obtain ⟨q2, hq2, hE⟩ := cr_bind hE
  refine cr_vWB (nb := 6) (n := 4) (As := [.int x1, .int x2, .int x3, .int x4]) (rest := [.ref (a 0 0)]) C hW (m_X3_blendLots L D ct (a 4) (a 5) (a 6) q1.1 q1.2.1 q1.2.2 x1 x2 x3 x4 _ q2 hq2) (cwV 4 hts gX6_blend_X3_blendLots rfl rfl rfl (by decide +kernel) ⟨Nat.le_of_ble_eq_true rfl, Nat.le_of_ble_eq_true rfl⟩) [2] [0, 1, 3, 4, 5] [cr_wX0 ct a, cr_wH ct (a 1) (a 2) (a 3) vh vl vk, cr_wH ct (a 4) (a 5) (a 6) q1.1 q1.2.1 q1.2.2, cr_wR ct (a 7) vs r vx, cr_wD ct (a 8) vd, cr_wO ct (a 9) vo] (cr_wX ct a r vh vl vk q1.1 q2.2 q1.2.2 vs vx vd vo) [cr_wX0 ct a, cr_wH ct (a 1) (a 2) (a 3) vh vl vk, cr_wH ct (a 4) (a 5) (a 6) q1.1 q2.2 q1.2.2, cr_wR ct (a 7) vs r vx, cr_wD ct (a 8) vd, cr_wO ct (a 9) vo] ⟨rfl, rfl⟩ ⟨rfl, rfl⟩ rfl rfl rfl (by decide) 12 rfl rfl rfl hl.1 rfl (Nat.le_of_ble_eq_true rfl) dX6_blend_21 ⟨Nat.zero_le _, Nat.zero_le _⟩ (fun H locs hW => ?_)
  obtain ⟨q3, hq3, hE⟩ := cr_bind hE
  refine cr_vWBr (nb := 6) (n := 1) (As := [.int q2.1]) (rest := []) C hW (m_X6_accept L D ct a r vh vl vk q1.1 q2.2 q1.2.2 vs vx vd vo q2.1 _ q3 hq3) (cwV 1 hts gX6_blend_X6_accept rfl rfl rfl (by decide +kernel) ⟨Nat.le_of_ble_eq_true rfl, Nat.le_of_ble_eq_true rfl⟩) [0, 1, 2, 3, 4, 5] [] [cr_wX0 ct a, cr_wH ct (a 1) (a 2) (a 3) vh vl vk, cr_wH ct (a 4) (a 5) (a 6) q1.1 q2.2 q1.2.2, cr_wR ct (a 7) vs r vx, cr_wD ct (a 8) vd, cr_wO ct (a 9) vo] (fun r => cr_wX ct a r q3.2.1 q3.2.2.1 q3.2.2.2.1 q1.1 q2.2 q1.2.2 q3.2.2.2.2.1 q3.2.2.2.2.2 vd vo) (fun r => [cr_wX0 ct a, cr_wH ct (a 1) (a 2) (a 3) q3.2.1 q3.2.2.1 q3.2.2.2.1, cr_wH ct (a 4) (a 5) (a 6) q1.1 q2.2 q1.2.2, cr_wR ct (a 7) q3.2.2.2.2.1 r q3.2.2.2.2.2, cr_wD ct (a 8) vd, cr_wO ct (a 9) vo]) ⟨rfl, rfl⟩ (fun _ => ⟨rfl, rfl⟩) rfl (fun _ => rfl) (fun _ => rfl) (by decide) 0 rfl rfl rfl hl.1 rfl (Nat.le_of_ble_eq_true rfl) dX6_blend_24 ⟨Nat.zero_le _, Nat.zero_le _⟩ (fun r H locs hW => ?_)
  exact cr_retW C (w := (fun u : (Nat → Nat → Nat → Nat) × cr_V × cr_V × cr_V × cr_V × cr_V × cr_V × cr_V × (Nat → Nat → cr_V) => cr_wX ct a u.1 u.2.1 u.2.2.1 u.2.2.2.1 u.2.2.2.2.1 u.2.2.2.2.2.1 u.2.2.2.2.2.2.1 u.2.2.2.2.2.2.2.1 u.2.2.2.2.2.2.2.2 vd vo)) (r, q3.2.1, q3.2.2.1, q3.2.2.2.1, q1.1, q2.2, q1.2.2, q3.2.2.2.2.1, q3.2.2.2.2.2) hW (Option.some.inj hE) dX6_blend_27

set_option maxHeartbeats 4000000 in
set_option maxRecDepth 100000 in
theorem m_X6_cup (L : Launch) (D : va_G) (ct : Nat → ClassId) (a : Nat → Nat → Nat) (r : Nat → Nat → Nat → Nat) (vh : cr_V) (vl : cr_V) (vk : cr_V) (vt : cr_V) (vtl : cr_V) (vtk : cr_V) (vs : cr_V) (vx : Nat → Nat → cr_V) (vd : cr_V) (vo : cr_V) (x1 : Int32) (sz : Nat) (out : Int32 × cr_V × cr_V × cr_V × cr_V × cr_V × cr_V × cr_V × (Nat → Nat → cr_V)) (hE : f_X6_cup vh vl vk vt vtl vtk vs vx vd vo x1 = some out) : Met L yX6_cup wsX6_cup ({ frames := 4, cells := 0, slots := 0, locals := 86 } : Room) (cr_pW D ct (cr_wX ct a r vh vl vk vt vtl vtk vs vx vd vo) sz [.ref (a 0 0), .int x1]) (cr_QW D (cr_wX ct a r vh vl vk vt vtl vtk vs vx vd vo) sz (fun r (u : (Nat → Nat → Nat → Nat) × cr_V × cr_V × cr_V × cr_V × cr_V × cr_V × cr_V × (Nat → Nat → cr_V)) => (r, u.2) = out) (fun u : (Nat → Nat → Nat → Nat) × cr_V × cr_V × cr_V × cr_V × cr_V × cr_V × cr_V × (Nat → Nat → cr_V) => cr_wX ct a u.1 u.2.1 u.2.2.1 u.2.2.2.1 u.2.2.2.2.1 u.2.2.2.2.2.1 u.2.2.2.2.2.2.1 u.2.2.2.2.2.2.2.1 u.2.2.2.2.2.2.2.2 vd vo)) 0 0 (va_A (cr_wX ct a r vh vl vk vt vtl vtk vs vx vd vo) sz) := by
  have k0 : (Cond.fieldLink RX6 16 "CupReceipts" "trial" "LCupReceipts$House;") ∈ wsX6_cup := List.mem_of_getElem? (i := 1) rfl
  have k1 : (Cond.fieldLink RX6 10 "CupReceipts" "house" "LCupReceipts$House;") ∈ wsX6_cup := List.mem_of_getElem? (i := 2) rfl
  have hinX6 : ∀ w ∈ wsX60, w ∈ wsX6_cup := fun w h => List.mem_cons_of_mem _ (List.mem_append_left _ (List.mem_append_left _ (List.mem_append_left _ (List.mem_append_left _ (List.mem_append_right _ h)))))
  refine cr_metW (Qc := fun A => va_Qi (fun r (u : (Nat → Nat → Nat → Nat) × cr_V × cr_V × cr_V × cr_V × cr_V × cr_V × cr_V × (Nat → Nat → cr_V)) => (r, u.2) = out) (fun u t => cr_at D A ((fun u : (Nat → Nat → Nat → Nat) × cr_V × cr_V × cr_V × cr_V × cr_V × cr_V × cr_V × (Nat → Nat → cr_V) => cr_wX ct a u.1 u.2.1 u.2.2.1 u.2.2.2.1 u.2.2.2.2.1 u.2.2.2.2.2.1 u.2.2.2.2.2.2.1 u.2.2.2.2.2.2.2.1 u.2.2.2.2.2.2.2.2 vd vo) u) t) A) (by decide) rfl rfl (Nat.le_of_ble_eq_true rfl) ?_
  intro p e s m args below meth c ls A C hW hl
  obtain ⟨hx, hb, hml, hown, hts, hr, hlocks, hK, hN⟩ := id C
  have hl : lv_has ls 2 [(0, .ref (a 0 0)), (1, .int x1)] := hl
  replace hE : ((f_X3_copyFrom vt vtl vtk vh vl vk).bind fun q1 => (f_X3_cupAnew q1.1 q1.2.1 q1.2.2 x1).bind fun q2 => (f_X6_accept vh vl vk q1.1 q2.2 q1.2.2 vs vx vd vo q2.1).bind fun q3 => some (q3.1, q3.2.1, q3.2.2.1, q3.2.2.2.1, q1.1, q2.2, q1.2.2, q3.2.2.2.2.1, q3.2.2.2.2.2)) = some out := hE
  refine lv_aload_n hx hb dX6_cup_0 rfl (lv_at hl 0 rfl) ?_
  refine cr_get C hW.1 0 rfl rfl 1 (by decide) hinX6 k0 (v := .ref ((a 4) 0)) rfl dX6_cup_1 ?_
  refine lv_aload_n hx hb dX6_cup_4 rfl (lv_at hl 0 rfl) ?_
  refine cr_get C hW.1 0 rfl rfl 0 (by decide) hinX6 k1 (v := .ref ((a 1) 0)) rfl dX6_cup_5 ?_
  obtain ⟨q1, hq1, hE⟩ := cr_bind hE
  refine cr_vVB (nb := 6) (n := 1) (As := [.ref ((a 1) 0)]) (rest := []) C hW (m_X3_copyFrom L D ct (a 4) (a 5) (a 6) (a 1) (a 2) (a 3) vt vtl vtk vh vl vk _ q1 hq1) (cwV 1 hts gX6_cup_X3_copyFrom rfl rfl rfl (by decide +kernel) ⟨Nat.le_of_ble_eq_true rfl, Nat.le_of_ble_eq_true rfl⟩) [2, 1] [0, 3, 4, 5] [cr_wX0 ct a, cr_wH ct (a 1) (a 2) (a 3) vh vl vk, cr_wH ct (a 4) (a 5) (a 6) vt vtl vtk, cr_wR ct (a 7) vs r vx, cr_wD ct (a 8) vd, cr_wO ct (a 9) vo] (cr_wX ct a r vh vl vk q1.1 q1.2.1 q1.2.2 vs vx vd vo) [cr_wX0 ct a, cr_wH ct (a 1) (a 2) (a 3) vh vl vk, cr_wH ct (a 4) (a 5) (a 6) q1.1 q1.2.1 q1.2.2, cr_wR ct (a 7) vs r vx, cr_wD ct (a 8) vd, cr_wO ct (a 9) vo] ⟨rfl, rfl⟩ ⟨rfl, rfl⟩ rfl rfl rfl (by decide) 12 rfl rfl rfl hl.1 rfl (Nat.le_of_ble_eq_true rfl) dX6_cup_8 ⟨Nat.zero_le _, Nat.zero_le _⟩ (fun H locs hW => ?_)
  refine lv_aload_n hx hb dX6_cup_11 rfl (lv_at hl 0 rfl) ?_
  refine lv_aload_n hx hb dX6_cup_12 rfl (lv_at hl 0 rfl) ?_
  refine cr_get C hW.1 0 rfl rfl 1 (by decide) hinX6 k0 (v := .ref ((a 4) 0)) rfl dX6_cup_13 ?_
  refine lv_iload_n hx hb dX6_cup_16 rfl (lv_at hl 1 rfl) ?_
  obtain ⟨q2, hq2, hE⟩ := cr_bind hE
  refine cr_vWB (nb := 6) (n := 1) (As := [.int x1]) (rest := [.ref (a 0 0)]) C hW (m_X3_cupAnew L D ct (a 4) (a 5) (a 6) q1.1 q1.2.1 q1.2.2 x1 _ q2 hq2) (cwV 1 hts gX6_cup_X3_cupAnew rfl rfl rfl (by decide +kernel) ⟨Nat.le_of_ble_eq_true rfl, Nat.le_of_ble_eq_true rfl⟩) [2] [0, 1, 3, 4, 5] [cr_wX0 ct a, cr_wH ct (a 1) (a 2) (a 3) vh vl vk, cr_wH ct (a 4) (a 5) (a 6) q1.1 q1.2.1 q1.2.2, cr_wR ct (a 7) vs r vx, cr_wD ct (a 8) vd, cr_wO ct (a 9) vo] (cr_wX ct a r vh vl vk q1.1 q2.2 q1.2.2 vs vx vd vo) [cr_wX0 ct a, cr_wH ct (a 1) (a 2) (a 3) vh vl vk, cr_wH ct (a 4) (a 5) (a 6) q1.1 q2.2 q1.2.2, cr_wR ct (a 7) vs r vx, cr_wD ct (a 8) vd, cr_wO ct (a 9) vo] ⟨rfl, rfl⟩ ⟨rfl, rfl⟩ rfl rfl rfl (by decide) 12 rfl rfl rfl hl.1 rfl (Nat.le_of_ble_eq_true rfl) dX6_cup_17 ⟨Nat.zero_le _, Nat.zero_le _⟩ (fun H locs hW => ?_)
  obtain ⟨q3, hq3, hE⟩ := cr_bind hE
  refine cr_vWBr (nb := 6) (n := 1) (As := [.int q2.1]) (rest := []) C hW (m_X6_accept L D ct a r vh vl vk q1.1 q2.2 q1.2.2 vs vx vd vo q2.1 _ q3 hq3) (cwV 1 hts gX6_cup_X6_accept rfl rfl rfl (by decide +kernel) ⟨Nat.le_of_ble_eq_true rfl, Nat.le_of_ble_eq_true rfl⟩) [0, 1, 2, 3, 4, 5] [] [cr_wX0 ct a, cr_wH ct (a 1) (a 2) (a 3) vh vl vk, cr_wH ct (a 4) (a 5) (a 6) q1.1 q2.2 q1.2.2, cr_wR ct (a 7) vs r vx, cr_wD ct (a 8) vd, cr_wO ct (a 9) vo] (fun r => cr_wX ct a r q3.2.1 q3.2.2.1 q3.2.2.2.1 q1.1 q2.2 q1.2.2 q3.2.2.2.2.1 q3.2.2.2.2.2 vd vo) (fun r => [cr_wX0 ct a, cr_wH ct (a 1) (a 2) (a 3) q3.2.1 q3.2.2.1 q3.2.2.2.1, cr_wH ct (a 4) (a 5) (a 6) q1.1 q2.2 q1.2.2, cr_wR ct (a 7) q3.2.2.2.2.1 r q3.2.2.2.2.2, cr_wD ct (a 8) vd, cr_wO ct (a 9) vo]) ⟨rfl, rfl⟩ (fun _ => ⟨rfl, rfl⟩) rfl (fun _ => rfl) (fun _ => rfl) (by decide) 0 rfl rfl rfl hl.1 rfl (Nat.le_of_ble_eq_true rfl) dX6_cup_20 ⟨Nat.zero_le _, Nat.zero_le _⟩ (fun r H locs hW => ?_)
  exact cr_retW C (w := (fun u : (Nat → Nat → Nat → Nat) × cr_V × cr_V × cr_V × cr_V × cr_V × cr_V × cr_V × (Nat → Nat → cr_V) => cr_wX ct a u.1 u.2.1 u.2.2.1 u.2.2.2.1 u.2.2.2.2.1 u.2.2.2.2.2.1 u.2.2.2.2.2.2.1 u.2.2.2.2.2.2.2.1 u.2.2.2.2.2.2.2.2 vd vo)) (r, q3.2.1, q3.2.2.1, q3.2.2.2.1, q1.1, q2.2, q1.2.2, q3.2.2.2.2.1, q3.2.2.2.2.2) hW (Option.some.inj hE) dX6_cup_23

set_option maxHeartbeats 4000000 in
set_option maxRecDepth 100000 in
theorem m_X6_worth (L : Launch) (D : va_G) (ct : Nat → ClassId) (a : Nat → Nat → Nat) (r : Nat → Nat → Nat → Nat) (vh : cr_V) (vl : cr_V) (vk : cr_V) (vt : cr_V) (vtl : cr_V) (vtk : cr_V) (vs : cr_V) (vx : Nat → Nat → cr_V) (vd : cr_V) (vo : cr_V) (x1 : Int32) (x2 : Int32) (sz : Nat) (out : Int32 × cr_V × cr_V × cr_V × cr_V × cr_V × cr_V × cr_V × (Nat → Nat → cr_V)) (hE : f_X6_worth vh vl vk vt vtl vtk vs vx vd vo x1 x2 = some out) : Met L yX6_worth wsX6_worth ({ frames := 4, cells := 0, slots := 0, locals := 86 } : Room) (cr_pW D ct (cr_wX ct a r vh vl vk vt vtl vtk vs vx vd vo) sz [.ref (a 0 0), .int x1, .int x2]) (cr_QW D (cr_wX ct a r vh vl vk vt vtl vtk vs vx vd vo) sz (fun r (u : (Nat → Nat → Nat → Nat) × cr_V × cr_V × cr_V × cr_V × cr_V × cr_V × cr_V × (Nat → Nat → cr_V)) => (r, u.2) = out) (fun u : (Nat → Nat → Nat → Nat) × cr_V × cr_V × cr_V × cr_V × cr_V × cr_V × cr_V × (Nat → Nat → cr_V) => cr_wX ct a u.1 u.2.1 u.2.2.1 u.2.2.2.1 u.2.2.2.2.1 u.2.2.2.2.2.1 u.2.2.2.2.2.2.1 u.2.2.2.2.2.2.2.1 u.2.2.2.2.2.2.2.2 vd vo)) 0 0 (va_A (cr_wX ct a r vh vl vk vt vtl vtk vs vx vd vo) sz) := by
  have k0 : (Cond.fieldLink RX6 16 "CupReceipts" "trial" "LCupReceipts$House;") ∈ wsX6_worth := List.mem_of_getElem? (i := 1) rfl
  have k1 : (Cond.fieldLink RX6 10 "CupReceipts" "house" "LCupReceipts$House;") ∈ wsX6_worth := List.mem_of_getElem? (i := 2) rfl
  have hinX6 : ∀ w ∈ wsX60, w ∈ wsX6_worth := fun w h => List.mem_cons_of_mem _ (List.mem_append_left _ (List.mem_append_left _ (List.mem_append_left _ (List.mem_append_left _ (List.mem_append_right _ h)))))
  refine cr_metW (Qc := fun A => va_Qi (fun r (u : (Nat → Nat → Nat → Nat) × cr_V × cr_V × cr_V × cr_V × cr_V × cr_V × cr_V × (Nat → Nat → cr_V)) => (r, u.2) = out) (fun u t => cr_at D A ((fun u : (Nat → Nat → Nat → Nat) × cr_V × cr_V × cr_V × cr_V × cr_V × cr_V × cr_V × (Nat → Nat → cr_V) => cr_wX ct a u.1 u.2.1 u.2.2.1 u.2.2.2.1 u.2.2.2.2.1 u.2.2.2.2.2.1 u.2.2.2.2.2.2.1 u.2.2.2.2.2.2.2.1 u.2.2.2.2.2.2.2.2 vd vo) u) t) A) (by decide) rfl rfl (Nat.le_of_ble_eq_true rfl) ?_
  intro p e s m args below meth c ls A C hW hl
  obtain ⟨hx, hb, hml, hown, hts, hr, hlocks, hK, hN⟩ := id C
  have hl : lv_has ls 3 [(0, .ref (a 0 0)), (1, .int x1), (2, .int x2)] := hl
  replace hE : ((f_X3_copyFrom vt vtl vtk vh vl vk).bind fun q1 => (f_X3_changeWorth q1.1 q1.2.1 q1.2.2 x1 x2).bind fun q2 => (f_X6_accept vh vl vk q2.2 q1.2.1 q1.2.2 vs vx vd vo q2.1).bind fun q3 => some (q3.1, q3.2.1, q3.2.2.1, q3.2.2.2.1, q2.2, q1.2.1, q1.2.2, q3.2.2.2.2.1, q3.2.2.2.2.2)) = some out := hE
  refine lv_aload_n hx hb dX6_worth_0 rfl (lv_at hl 0 rfl) ?_
  refine cr_get C hW.1 0 rfl rfl 1 (by decide) hinX6 k0 (v := .ref ((a 4) 0)) rfl dX6_worth_1 ?_
  refine lv_aload_n hx hb dX6_worth_4 rfl (lv_at hl 0 rfl) ?_
  refine cr_get C hW.1 0 rfl rfl 0 (by decide) hinX6 k1 (v := .ref ((a 1) 0)) rfl dX6_worth_5 ?_
  obtain ⟨q1, hq1, hE⟩ := cr_bind hE
  refine cr_vVB (nb := 6) (n := 1) (As := [.ref ((a 1) 0)]) (rest := []) C hW (m_X3_copyFrom L D ct (a 4) (a 5) (a 6) (a 1) (a 2) (a 3) vt vtl vtk vh vl vk _ q1 hq1) (cwV 1 hts gX6_worth_X3_copyFrom rfl rfl rfl (by decide +kernel) ⟨Nat.le_of_ble_eq_true rfl, Nat.le_of_ble_eq_true rfl⟩) [2, 1] [0, 3, 4, 5] [cr_wX0 ct a, cr_wH ct (a 1) (a 2) (a 3) vh vl vk, cr_wH ct (a 4) (a 5) (a 6) vt vtl vtk, cr_wR ct (a 7) vs r vx, cr_wD ct (a 8) vd, cr_wO ct (a 9) vo] (cr_wX ct a r vh vl vk q1.1 q1.2.1 q1.2.2 vs vx vd vo) [cr_wX0 ct a, cr_wH ct (a 1) (a 2) (a 3) vh vl vk, cr_wH ct (a 4) (a 5) (a 6) q1.1 q1.2.1 q1.2.2, cr_wR ct (a 7) vs r vx, cr_wD ct (a 8) vd, cr_wO ct (a 9) vo] ⟨rfl, rfl⟩ ⟨rfl, rfl⟩ rfl rfl rfl (by decide) 12 rfl rfl rfl hl.1 rfl (Nat.le_of_ble_eq_true rfl) dX6_worth_8 ⟨Nat.zero_le _, Nat.zero_le _⟩ (fun H locs hW => ?_)
  refine lv_aload_n hx hb dX6_worth_11 rfl (lv_at hl 0 rfl) ?_
  refine lv_aload_n hx hb dX6_worth_12 rfl (lv_at hl 0 rfl) ?_
  refine cr_get C hW.1 0 rfl rfl 1 (by decide) hinX6 k0 (v := .ref ((a 4) 0)) rfl dX6_worth_13 ?_
  refine lv_iload_n hx hb dX6_worth_16 rfl (lv_at hl 1 rfl) ?_
  refine lv_iload_n hx hb dX6_worth_17 rfl (lv_at hl 2 rfl) ?_
  obtain ⟨q2, hq2, hE⟩ := cr_bind hE
  refine cr_vWB (nb := 6) (n := 2) (As := [.int x1, .int x2]) (rest := [.ref (a 0 0)]) C hW (m_X3_changeWorth L D ct (a 4) (a 5) (a 6) q1.1 q1.2.1 q1.2.2 x1 x2 _ q2 hq2) (cwV 2 hts gX6_worth_X3_changeWorth rfl rfl rfl (by decide +kernel) ⟨Nat.le_of_ble_eq_true rfl, Nat.le_of_ble_eq_true rfl⟩) [2] [0, 1, 3, 4, 5] [cr_wX0 ct a, cr_wH ct (a 1) (a 2) (a 3) vh vl vk, cr_wH ct (a 4) (a 5) (a 6) q1.1 q1.2.1 q1.2.2, cr_wR ct (a 7) vs r vx, cr_wD ct (a 8) vd, cr_wO ct (a 9) vo] (cr_wX ct a r vh vl vk q2.2 q1.2.1 q1.2.2 vs vx vd vo) [cr_wX0 ct a, cr_wH ct (a 1) (a 2) (a 3) vh vl vk, cr_wH ct (a 4) (a 5) (a 6) q2.2 q1.2.1 q1.2.2, cr_wR ct (a 7) vs r vx, cr_wD ct (a 8) vd, cr_wO ct (a 9) vo] ⟨rfl, rfl⟩ ⟨rfl, rfl⟩ rfl rfl rfl (by decide) 12 rfl rfl rfl hl.1 rfl (Nat.le_of_ble_eq_true rfl) dX6_worth_18 ⟨Nat.zero_le _, Nat.zero_le _⟩ (fun H locs hW => ?_)
  obtain ⟨q3, hq3, hE⟩ := cr_bind hE
  refine cr_vWBr (nb := 6) (n := 1) (As := [.int q2.1]) (rest := []) C hW (m_X6_accept L D ct a r vh vl vk q2.2 q1.2.1 q1.2.2 vs vx vd vo q2.1 _ q3 hq3) (cwV 1 hts gX6_worth_X6_accept rfl rfl rfl (by decide +kernel) ⟨Nat.le_of_ble_eq_true rfl, Nat.le_of_ble_eq_true rfl⟩) [0, 1, 2, 3, 4, 5] [] [cr_wX0 ct a, cr_wH ct (a 1) (a 2) (a 3) vh vl vk, cr_wH ct (a 4) (a 5) (a 6) q2.2 q1.2.1 q1.2.2, cr_wR ct (a 7) vs r vx, cr_wD ct (a 8) vd, cr_wO ct (a 9) vo] (fun r => cr_wX ct a r q3.2.1 q3.2.2.1 q3.2.2.2.1 q2.2 q1.2.1 q1.2.2 q3.2.2.2.2.1 q3.2.2.2.2.2 vd vo) (fun r => [cr_wX0 ct a, cr_wH ct (a 1) (a 2) (a 3) q3.2.1 q3.2.2.1 q3.2.2.2.1, cr_wH ct (a 4) (a 5) (a 6) q2.2 q1.2.1 q1.2.2, cr_wR ct (a 7) q3.2.2.2.2.1 r q3.2.2.2.2.2, cr_wD ct (a 8) vd, cr_wO ct (a 9) vo]) ⟨rfl, rfl⟩ (fun _ => ⟨rfl, rfl⟩) rfl (fun _ => rfl) (fun _ => rfl) (by decide) 0 rfl rfl rfl hl.1 rfl (Nat.le_of_ble_eq_true rfl) dX6_worth_21 ⟨Nat.zero_le _, Nat.zero_le _⟩ (fun r H locs hW => ?_)
  exact cr_retW C (w := (fun u : (Nat → Nat → Nat → Nat) × cr_V × cr_V × cr_V × cr_V × cr_V × cr_V × cr_V × (Nat → Nat → cr_V) => cr_wX ct a u.1 u.2.1 u.2.2.1 u.2.2.2.1 u.2.2.2.2.1 u.2.2.2.2.2.1 u.2.2.2.2.2.2.1 u.2.2.2.2.2.2.2.1 u.2.2.2.2.2.2.2.2 vd vo)) (r, q3.2.1, q3.2.2.1, q3.2.2.2.1, q2.2, q1.2.1, q1.2.2, q3.2.2.2.2.1, q3.2.2.2.2.2) hW (Option.some.inj hE) dX6_worth_24

set_option maxHeartbeats 4000000 in
set_option maxRecDepth 100000 in
theorem m_X6_sell (L : Launch) (D : va_G) (ct : Nat → ClassId) (a : Nat → Nat → Nat) (r : Nat → Nat → Nat → Nat) (vh : cr_V) (vl : cr_V) (vk : cr_V) (vt : cr_V) (vtl : cr_V) (vtk : cr_V) (vs : cr_V) (vx : Nat → Nat → cr_V) (vd : cr_V) (vo : cr_V) (x1 : Int32) (x2 : Int32) (sz : Nat) (out : Int32 × cr_V × cr_V × cr_V × cr_V × cr_V × cr_V × cr_V × (Nat → Nat → cr_V)) (hE : f_X6_sell vh vl vk vt vtl vtk vs vx vd vo x1 x2 = some out) : Met L yX6_sell wsX6_sell ({ frames := 4, cells := 0, slots := 0, locals := 86 } : Room) (cr_pW D ct (cr_wX ct a r vh vl vk vt vtl vtk vs vx vd vo) sz [.ref (a 0 0), .int x1, .int x2]) (cr_QW D (cr_wX ct a r vh vl vk vt vtl vtk vs vx vd vo) sz (fun r (u : (Nat → Nat → Nat → Nat) × cr_V × cr_V × cr_V × cr_V × cr_V × cr_V × cr_V × (Nat → Nat → cr_V)) => (r, u.2) = out) (fun u : (Nat → Nat → Nat → Nat) × cr_V × cr_V × cr_V × cr_V × cr_V × cr_V × cr_V × (Nat → Nat → cr_V) => cr_wX ct a u.1 u.2.1 u.2.2.1 u.2.2.2.1 u.2.2.2.2.1 u.2.2.2.2.2.1 u.2.2.2.2.2.2.1 u.2.2.2.2.2.2.2.1 u.2.2.2.2.2.2.2.2 vd vo)) 0 0 (va_A (cr_wX ct a r vh vl vk vt vtl vtk vs vx vd vo) sz) := by
  have k0 : (Cond.fieldLink RX6 16 "CupReceipts" "trial" "LCupReceipts$House;") ∈ wsX6_sell := List.mem_of_getElem? (i := 1) rfl
  have k1 : (Cond.fieldLink RX6 10 "CupReceipts" "house" "LCupReceipts$House;") ∈ wsX6_sell := List.mem_of_getElem? (i := 2) rfl
  have hinX6 : ∀ w ∈ wsX60, w ∈ wsX6_sell := fun w h => List.mem_cons_of_mem _ (List.mem_append_left _ (List.mem_append_left _ (List.mem_append_left _ (List.mem_append_left _ (List.mem_append_right _ h)))))
  refine cr_metW (Qc := fun A => va_Qi (fun r (u : (Nat → Nat → Nat → Nat) × cr_V × cr_V × cr_V × cr_V × cr_V × cr_V × cr_V × (Nat → Nat → cr_V)) => (r, u.2) = out) (fun u t => cr_at D A ((fun u : (Nat → Nat → Nat → Nat) × cr_V × cr_V × cr_V × cr_V × cr_V × cr_V × cr_V × (Nat → Nat → cr_V) => cr_wX ct a u.1 u.2.1 u.2.2.1 u.2.2.2.1 u.2.2.2.2.1 u.2.2.2.2.2.1 u.2.2.2.2.2.2.1 u.2.2.2.2.2.2.2.1 u.2.2.2.2.2.2.2.2 vd vo) u) t) A) (by decide) rfl rfl (Nat.le_of_ble_eq_true rfl) ?_
  intro p e s m args below meth c ls A C hW hl
  obtain ⟨hx, hb, hml, hown, hts, hr, hlocks, hK, hN⟩ := id C
  have hl : lv_has ls 3 [(0, .ref (a 0 0)), (1, .int x1), (2, .int x2)] := hl
  replace hE : ((f_X3_copyFrom vt vtl vtk vh vl vk).bind fun q1 => (f_X3_sellContract q1.1 q1.2.1 q1.2.2 x1 x2).bind fun q2 => (f_X6_accept vh vl vk q1.1 q1.2.1 q2.2 vs vx vd vo q2.1).bind fun q3 => some (q3.1, q3.2.1, q3.2.2.1, q3.2.2.2.1, q1.1, q1.2.1, q2.2, q3.2.2.2.2.1, q3.2.2.2.2.2)) = some out := hE
  refine lv_aload_n hx hb dX6_sell_0 rfl (lv_at hl 0 rfl) ?_
  refine cr_get C hW.1 0 rfl rfl 1 (by decide) hinX6 k0 (v := .ref ((a 4) 0)) rfl dX6_sell_1 ?_
  refine lv_aload_n hx hb dX6_sell_4 rfl (lv_at hl 0 rfl) ?_
  refine cr_get C hW.1 0 rfl rfl 0 (by decide) hinX6 k1 (v := .ref ((a 1) 0)) rfl dX6_sell_5 ?_
  obtain ⟨q1, hq1, hE⟩ := cr_bind hE
  refine cr_vVB (nb := 6) (n := 1) (As := [.ref ((a 1) 0)]) (rest := []) C hW (m_X3_copyFrom L D ct (a 4) (a 5) (a 6) (a 1) (a 2) (a 3) vt vtl vtk vh vl vk _ q1 hq1) (cwV 1 hts gX6_sell_X3_copyFrom rfl rfl rfl (by decide +kernel) ⟨Nat.le_of_ble_eq_true rfl, Nat.le_of_ble_eq_true rfl⟩) [2, 1] [0, 3, 4, 5] [cr_wX0 ct a, cr_wH ct (a 1) (a 2) (a 3) vh vl vk, cr_wH ct (a 4) (a 5) (a 6) vt vtl vtk, cr_wR ct (a 7) vs r vx, cr_wD ct (a 8) vd, cr_wO ct (a 9) vo] (cr_wX ct a r vh vl vk q1.1 q1.2.1 q1.2.2 vs vx vd vo) [cr_wX0 ct a, cr_wH ct (a 1) (a 2) (a 3) vh vl vk, cr_wH ct (a 4) (a 5) (a 6) q1.1 q1.2.1 q1.2.2, cr_wR ct (a 7) vs r vx, cr_wD ct (a 8) vd, cr_wO ct (a 9) vo] ⟨rfl, rfl⟩ ⟨rfl, rfl⟩ rfl rfl rfl (by decide) 12 rfl rfl rfl hl.1 rfl (Nat.le_of_ble_eq_true rfl) dX6_sell_8 ⟨Nat.zero_le _, Nat.zero_le _⟩ (fun H locs hW => ?_)
  refine lv_aload_n hx hb dX6_sell_11 rfl (lv_at hl 0 rfl) ?_
  refine lv_aload_n hx hb dX6_sell_12 rfl (lv_at hl 0 rfl) ?_
  refine cr_get C hW.1 0 rfl rfl 1 (by decide) hinX6 k0 (v := .ref ((a 4) 0)) rfl dX6_sell_13 ?_
  refine lv_iload_n hx hb dX6_sell_16 rfl (lv_at hl 1 rfl) ?_
  refine lv_iload_n hx hb dX6_sell_17 rfl (lv_at hl 2 rfl) ?_
  obtain ⟨q2, hq2, hE⟩ := cr_bind hE
  refine cr_vWB (nb := 6) (n := 2) (As := [.int x1, .int x2]) (rest := [.ref (a 0 0)]) C hW (m_X3_sellContract L D ct (a 4) (a 5) (a 6) q1.1 q1.2.1 q1.2.2 x1 x2 _ q2 hq2) (cwV 2 hts gX6_sell_X3_sellContract rfl rfl rfl (by decide +kernel) ⟨Nat.le_of_ble_eq_true rfl, Nat.le_of_ble_eq_true rfl⟩) [2] [0, 1, 3, 4, 5] [cr_wX0 ct a, cr_wH ct (a 1) (a 2) (a 3) vh vl vk, cr_wH ct (a 4) (a 5) (a 6) q1.1 q1.2.1 q1.2.2, cr_wR ct (a 7) vs r vx, cr_wD ct (a 8) vd, cr_wO ct (a 9) vo] (cr_wX ct a r vh vl vk q1.1 q1.2.1 q2.2 vs vx vd vo) [cr_wX0 ct a, cr_wH ct (a 1) (a 2) (a 3) vh vl vk, cr_wH ct (a 4) (a 5) (a 6) q1.1 q1.2.1 q2.2, cr_wR ct (a 7) vs r vx, cr_wD ct (a 8) vd, cr_wO ct (a 9) vo] ⟨rfl, rfl⟩ ⟨rfl, rfl⟩ rfl rfl rfl (by decide) 12 rfl rfl rfl hl.1 rfl (Nat.le_of_ble_eq_true rfl) dX6_sell_18 ⟨Nat.zero_le _, Nat.zero_le _⟩ (fun H locs hW => ?_)
  obtain ⟨q3, hq3, hE⟩ := cr_bind hE
  refine cr_vWBr (nb := 6) (n := 1) (As := [.int q2.1]) (rest := []) C hW (m_X6_accept L D ct a r vh vl vk q1.1 q1.2.1 q2.2 vs vx vd vo q2.1 _ q3 hq3) (cwV 1 hts gX6_sell_X6_accept rfl rfl rfl (by decide +kernel) ⟨Nat.le_of_ble_eq_true rfl, Nat.le_of_ble_eq_true rfl⟩) [0, 1, 2, 3, 4, 5] [] [cr_wX0 ct a, cr_wH ct (a 1) (a 2) (a 3) vh vl vk, cr_wH ct (a 4) (a 5) (a 6) q1.1 q1.2.1 q2.2, cr_wR ct (a 7) vs r vx, cr_wD ct (a 8) vd, cr_wO ct (a 9) vo] (fun r => cr_wX ct a r q3.2.1 q3.2.2.1 q3.2.2.2.1 q1.1 q1.2.1 q2.2 q3.2.2.2.2.1 q3.2.2.2.2.2 vd vo) (fun r => [cr_wX0 ct a, cr_wH ct (a 1) (a 2) (a 3) q3.2.1 q3.2.2.1 q3.2.2.2.1, cr_wH ct (a 4) (a 5) (a 6) q1.1 q1.2.1 q2.2, cr_wR ct (a 7) q3.2.2.2.2.1 r q3.2.2.2.2.2, cr_wD ct (a 8) vd, cr_wO ct (a 9) vo]) ⟨rfl, rfl⟩ (fun _ => ⟨rfl, rfl⟩) rfl (fun _ => rfl) (fun _ => rfl) (by decide) 0 rfl rfl rfl hl.1 rfl (Nat.le_of_ble_eq_true rfl) dX6_sell_21 ⟨Nat.zero_le _, Nat.zero_le _⟩ (fun r H locs hW => ?_)
  exact cr_retW C (w := (fun u : (Nat → Nat → Nat → Nat) × cr_V × cr_V × cr_V × cr_V × cr_V × cr_V × cr_V × (Nat → Nat → cr_V) => cr_wX ct a u.1 u.2.1 u.2.2.1 u.2.2.2.1 u.2.2.2.2.1 u.2.2.2.2.2.1 u.2.2.2.2.2.2.1 u.2.2.2.2.2.2.2.1 u.2.2.2.2.2.2.2.2 vd vo)) (r, q3.2.1, q3.2.2.1, q3.2.2.2.1, q1.1, q1.2.1, q2.2, q3.2.2.2.2.1, q3.2.2.2.2.2) hW (Option.some.inj hE) dX6_sell_24

set_option maxHeartbeats 4000000 in
set_option maxRecDepth 100000 in
theorem m_X6_buyBack (L : Launch) (D : va_G) (ct : Nat → ClassId) (a : Nat → Nat → Nat) (r : Nat → Nat → Nat → Nat) (vh : cr_V) (vl : cr_V) (vk : cr_V) (vt : cr_V) (vtl : cr_V) (vtk : cr_V) (vs : cr_V) (vx : Nat → Nat → cr_V) (vd : cr_V) (vo : cr_V) (x1 : Int32) (x2 : Int32) (sz : Nat) (out : Int32 × cr_V × cr_V × cr_V × cr_V × cr_V × cr_V × cr_V × (Nat → Nat → cr_V)) (hE : f_X6_buyBack vh vl vk vt vtl vtk vs vx vd vo x1 x2 = some out) : Met L yX6_buyBack wsX6_buyBack ({ frames := 4, cells := 0, slots := 0, locals := 86 } : Room) (cr_pW D ct (cr_wX ct a r vh vl vk vt vtl vtk vs vx vd vo) sz [.ref (a 0 0), .int x1, .int x2]) (cr_QW D (cr_wX ct a r vh vl vk vt vtl vtk vs vx vd vo) sz (fun r (u : (Nat → Nat → Nat → Nat) × cr_V × cr_V × cr_V × cr_V × cr_V × cr_V × cr_V × (Nat → Nat → cr_V)) => (r, u.2) = out) (fun u : (Nat → Nat → Nat → Nat) × cr_V × cr_V × cr_V × cr_V × cr_V × cr_V × cr_V × (Nat → Nat → cr_V) => cr_wX ct a u.1 u.2.1 u.2.2.1 u.2.2.2.1 u.2.2.2.2.1 u.2.2.2.2.2.1 u.2.2.2.2.2.2.1 u.2.2.2.2.2.2.2.1 u.2.2.2.2.2.2.2.2 vd vo)) 0 0 (va_A (cr_wX ct a r vh vl vk vt vtl vtk vs vx vd vo) sz) := by
  have k0 : (Cond.fieldLink RX6 16 "CupReceipts" "trial" "LCupReceipts$House;") ∈ wsX6_buyBack := List.mem_of_getElem? (i := 1) rfl
  have k1 : (Cond.fieldLink RX6 10 "CupReceipts" "house" "LCupReceipts$House;") ∈ wsX6_buyBack := List.mem_of_getElem? (i := 2) rfl
  have hinX6 : ∀ w ∈ wsX60, w ∈ wsX6_buyBack := fun w h => List.mem_cons_of_mem _ (List.mem_append_left _ (List.mem_append_left _ (List.mem_append_left _ (List.mem_append_left _ (List.mem_append_right _ h)))))
  refine cr_metW (Qc := fun A => va_Qi (fun r (u : (Nat → Nat → Nat → Nat) × cr_V × cr_V × cr_V × cr_V × cr_V × cr_V × cr_V × (Nat → Nat → cr_V)) => (r, u.2) = out) (fun u t => cr_at D A ((fun u : (Nat → Nat → Nat → Nat) × cr_V × cr_V × cr_V × cr_V × cr_V × cr_V × cr_V × (Nat → Nat → cr_V) => cr_wX ct a u.1 u.2.1 u.2.2.1 u.2.2.2.1 u.2.2.2.2.1 u.2.2.2.2.2.1 u.2.2.2.2.2.2.1 u.2.2.2.2.2.2.2.1 u.2.2.2.2.2.2.2.2 vd vo) u) t) A) (by decide) rfl rfl (Nat.le_of_ble_eq_true rfl) ?_
  intro p e s m args below meth c ls A C hW hl
  obtain ⟨hx, hb, hml, hown, hts, hr, hlocks, hK, hN⟩ := id C
  have hl : lv_has ls 3 [(0, .ref (a 0 0)), (1, .int x1), (2, .int x2)] := hl
  replace hE : ((f_X3_copyFrom vt vtl vtk vh vl vk).bind fun q1 => (f_X3_buyContractBack q1.1 q1.2.1 q1.2.2 x1 x2).bind fun q2 => (f_X6_accept vh vl vk q2.2.1 q1.2.1 q2.2.2 vs vx vd vo q2.1).bind fun q3 => some (q3.1, q3.2.1, q3.2.2.1, q3.2.2.2.1, q2.2.1, q1.2.1, q2.2.2, q3.2.2.2.2.1, q3.2.2.2.2.2)) = some out := hE
  refine lv_aload_n hx hb dX6_buyBack_0 rfl (lv_at hl 0 rfl) ?_
  refine cr_get C hW.1 0 rfl rfl 1 (by decide) hinX6 k0 (v := .ref ((a 4) 0)) rfl dX6_buyBack_1 ?_
  refine lv_aload_n hx hb dX6_buyBack_4 rfl (lv_at hl 0 rfl) ?_
  refine cr_get C hW.1 0 rfl rfl 0 (by decide) hinX6 k1 (v := .ref ((a 1) 0)) rfl dX6_buyBack_5 ?_
  obtain ⟨q1, hq1, hE⟩ := cr_bind hE
  refine cr_vVB (nb := 6) (n := 1) (As := [.ref ((a 1) 0)]) (rest := []) C hW (m_X3_copyFrom L D ct (a 4) (a 5) (a 6) (a 1) (a 2) (a 3) vt vtl vtk vh vl vk _ q1 hq1) (cwV 1 hts gX6_buyBack_X3_copyFrom rfl rfl rfl (by decide +kernel) ⟨Nat.le_of_ble_eq_true rfl, Nat.le_of_ble_eq_true rfl⟩) [2, 1] [0, 3, 4, 5] [cr_wX0 ct a, cr_wH ct (a 1) (a 2) (a 3) vh vl vk, cr_wH ct (a 4) (a 5) (a 6) vt vtl vtk, cr_wR ct (a 7) vs r vx, cr_wD ct (a 8) vd, cr_wO ct (a 9) vo] (cr_wX ct a r vh vl vk q1.1 q1.2.1 q1.2.2 vs vx vd vo) [cr_wX0 ct a, cr_wH ct (a 1) (a 2) (a 3) vh vl vk, cr_wH ct (a 4) (a 5) (a 6) q1.1 q1.2.1 q1.2.2, cr_wR ct (a 7) vs r vx, cr_wD ct (a 8) vd, cr_wO ct (a 9) vo] ⟨rfl, rfl⟩ ⟨rfl, rfl⟩ rfl rfl rfl (by decide) 12 rfl rfl rfl hl.1 rfl (Nat.le_of_ble_eq_true rfl) dX6_buyBack_8 ⟨Nat.zero_le _, Nat.zero_le _⟩ (fun H locs hW => ?_)
  refine lv_aload_n hx hb dX6_buyBack_11 rfl (lv_at hl 0 rfl) ?_
  refine lv_aload_n hx hb dX6_buyBack_12 rfl (lv_at hl 0 rfl) ?_
  refine cr_get C hW.1 0 rfl rfl 1 (by decide) hinX6 k0 (v := .ref ((a 4) 0)) rfl dX6_buyBack_13 ?_
  refine lv_iload_n hx hb dX6_buyBack_16 rfl (lv_at hl 1 rfl) ?_
  refine lv_iload_n hx hb dX6_buyBack_17 rfl (lv_at hl 2 rfl) ?_
  obtain ⟨q2, hq2, hE⟩ := cr_bind hE
  refine cr_vWB (nb := 6) (n := 2) (As := [.int x1, .int x2]) (rest := [.ref (a 0 0)]) C hW (m_X3_buyContractBack L D ct (a 4) (a 5) (a 6) q1.1 q1.2.1 q1.2.2 x1 x2 _ q2 hq2) (cwV 2 hts gX6_buyBack_X3_buyContractBack rfl rfl rfl (by decide +kernel) ⟨Nat.le_of_ble_eq_true rfl, Nat.le_of_ble_eq_true rfl⟩) [2] [0, 1, 3, 4, 5] [cr_wX0 ct a, cr_wH ct (a 1) (a 2) (a 3) vh vl vk, cr_wH ct (a 4) (a 5) (a 6) q1.1 q1.2.1 q1.2.2, cr_wR ct (a 7) vs r vx, cr_wD ct (a 8) vd, cr_wO ct (a 9) vo] (cr_wX ct a r vh vl vk q2.2.1 q1.2.1 q2.2.2 vs vx vd vo) [cr_wX0 ct a, cr_wH ct (a 1) (a 2) (a 3) vh vl vk, cr_wH ct (a 4) (a 5) (a 6) q2.2.1 q1.2.1 q2.2.2, cr_wR ct (a 7) vs r vx, cr_wD ct (a 8) vd, cr_wO ct (a 9) vo] ⟨rfl, rfl⟩ ⟨rfl, rfl⟩ rfl rfl rfl (by decide) 12 rfl rfl rfl hl.1 rfl (Nat.le_of_ble_eq_true rfl) dX6_buyBack_18 ⟨Nat.zero_le _, Nat.zero_le _⟩ (fun H locs hW => ?_)
  obtain ⟨q3, hq3, hE⟩ := cr_bind hE
  refine cr_vWBr (nb := 6) (n := 1) (As := [.int q2.1]) (rest := []) C hW (m_X6_accept L D ct a r vh vl vk q2.2.1 q1.2.1 q2.2.2 vs vx vd vo q2.1 _ q3 hq3) (cwV 1 hts gX6_buyBack_X6_accept rfl rfl rfl (by decide +kernel) ⟨Nat.le_of_ble_eq_true rfl, Nat.le_of_ble_eq_true rfl⟩) [0, 1, 2, 3, 4, 5] [] [cr_wX0 ct a, cr_wH ct (a 1) (a 2) (a 3) vh vl vk, cr_wH ct (a 4) (a 5) (a 6) q2.2.1 q1.2.1 q2.2.2, cr_wR ct (a 7) vs r vx, cr_wD ct (a 8) vd, cr_wO ct (a 9) vo] (fun r => cr_wX ct a r q3.2.1 q3.2.2.1 q3.2.2.2.1 q2.2.1 q1.2.1 q2.2.2 q3.2.2.2.2.1 q3.2.2.2.2.2 vd vo) (fun r => [cr_wX0 ct a, cr_wH ct (a 1) (a 2) (a 3) q3.2.1 q3.2.2.1 q3.2.2.2.1, cr_wH ct (a 4) (a 5) (a 6) q2.2.1 q1.2.1 q2.2.2, cr_wR ct (a 7) q3.2.2.2.2.1 r q3.2.2.2.2.2, cr_wD ct (a 8) vd, cr_wO ct (a 9) vo]) ⟨rfl, rfl⟩ (fun _ => ⟨rfl, rfl⟩) rfl (fun _ => rfl) (fun _ => rfl) (by decide) 0 rfl rfl rfl hl.1 rfl (Nat.le_of_ble_eq_true rfl) dX6_buyBack_21 ⟨Nat.zero_le _, Nat.zero_le _⟩ (fun r H locs hW => ?_)
  exact cr_retW C (w := (fun u : (Nat → Nat → Nat → Nat) × cr_V × cr_V × cr_V × cr_V × cr_V × cr_V × cr_V × (Nat → Nat → cr_V) => cr_wX ct a u.1 u.2.1 u.2.2.1 u.2.2.2.1 u.2.2.2.2.1 u.2.2.2.2.2.1 u.2.2.2.2.2.2.1 u.2.2.2.2.2.2.2.1 u.2.2.2.2.2.2.2.2 vd vo)) (r, q3.2.1, q3.2.2.1, q3.2.2.2.1, q2.2.1, q1.2.1, q2.2.2, q3.2.2.2.2.1, q3.2.2.2.2.2) hW (Option.some.inj hE) dX6_buyBack_24

set_option maxHeartbeats 4000000 in
set_option maxRecDepth 100000 in
theorem m_X6_meet (L : Launch) (D : va_G) (ct : Nat → ClassId) (a : Nat → Nat → Nat) (r : Nat → Nat → Nat → Nat) (vh : cr_V) (vl : cr_V) (vk : cr_V) (vt : cr_V) (vtl : cr_V) (vtk : cr_V) (vs : cr_V) (vx : Nat → Nat → cr_V) (vd : cr_V) (vo : cr_V) (x1 : Int32) (sz : Nat) (out : Int32 × cr_V × cr_V × cr_V × cr_V × cr_V × cr_V × cr_V × (Nat → Nat → cr_V) × cr_V) (hE : f_X6_meet vh vl vk vt vtl vtk vs vx vd vo x1 = some out) : Met L yX6_meet wsX6_meet ({ frames := 4, cells := 0, slots := 0, locals := 97 } : Room) (cr_pW D ct (cr_wX ct a r vh vl vk vt vtl vtk vs vx vd vo) sz [.ref (a 0 0), .int x1]) (cr_QW D (cr_wX ct a r vh vl vk vt vtl vtk vs vx vd vo) sz (fun r (u : (Nat → Nat → Nat → Nat) × cr_V × cr_V × cr_V × cr_V × cr_V × cr_V × cr_V × (Nat → Nat → cr_V) × cr_V) => (r, u.2) = out) (fun u : (Nat → Nat → Nat → Nat) × cr_V × cr_V × cr_V × cr_V × cr_V × cr_V × cr_V × (Nat → Nat → cr_V) × cr_V => cr_wX ct a u.1 u.2.1 u.2.2.1 u.2.2.2.1 u.2.2.2.2.1 u.2.2.2.2.2.1 u.2.2.2.2.2.2.1 u.2.2.2.2.2.2.2.1 u.2.2.2.2.2.2.2.2.1 u.2.2.2.2.2.2.2.2.2 vo)) 0 0 (va_A (cr_wX ct a r vh vl vk vt vtl vtk vs vx vd vo) sz) := by
  have k0 : (Cond.fieldLink RX6 16 "CupReceipts" "trial" "LCupReceipts$House;") ∈ wsX6_meet := List.mem_of_getElem? (i := 1) rfl
  have k1 : (Cond.fieldLink RX6 10 "CupReceipts" "house" "LCupReceipts$House;") ∈ wsX6_meet := List.mem_of_getElem? (i := 2) rfl
  have k2 : (Cond.fieldLink RX6 29 "CupReceipts" "delivery" "LCupReceipts$Delivery;") ∈ wsX6_meet := List.mem_of_getElem? (i := 3) rfl
  have hinX6 : ∀ w ∈ wsX60, w ∈ wsX6_meet := fun w h => List.mem_cons_of_mem _ (List.mem_append_left _ (List.mem_append_left _ (List.mem_append_left _ (List.mem_append_left _ (List.mem_append_left _ (List.mem_append_right _ h))))))
  refine cr_metW (Qc := fun A => va_Qi (fun r (u : (Nat → Nat → Nat → Nat) × cr_V × cr_V × cr_V × cr_V × cr_V × cr_V × cr_V × (Nat → Nat → cr_V) × cr_V) => (r, u.2) = out) (fun u t => cr_at D A ((fun u : (Nat → Nat → Nat → Nat) × cr_V × cr_V × cr_V × cr_V × cr_V × cr_V × cr_V × (Nat → Nat → cr_V) × cr_V => cr_wX ct a u.1 u.2.1 u.2.2.1 u.2.2.2.1 u.2.2.2.2.1 u.2.2.2.2.2.1 u.2.2.2.2.2.2.1 u.2.2.2.2.2.2.2.1 u.2.2.2.2.2.2.2.2.1 u.2.2.2.2.2.2.2.2.2 vo) u) t) A) (by decide) rfl rfl (Nat.le_of_ble_eq_true rfl) ?_
  intro p e s m args below meth c ls A C hW hl
  obtain ⟨hx, hb, hml, hown, hts, hr, hlocks, hK, hN⟩ := id C
  have hl : lv_has ls 2 [(0, .ref (a 0 0)), (1, .int x1)] := hl
  replace hE : ((f_X3_copyFrom vt vtl vtk vh vl vk).bind fun q1 => (f_X3_meetContract q1.1 q1.2.1 q1.2.2 vd x1).bind fun q2 => (f_X6_accept vh vl vk q2.2.1 q2.2.2.1 q2.2.2.2.1 vs vx q2.2.2.2.2 vo q2.1).bind fun q3 => some (q3.1, q3.2.1, q3.2.2.1, q3.2.2.2.1, q2.2.1, q2.2.2.1, q2.2.2.2.1, q3.2.2.2.2.1, q3.2.2.2.2.2, q2.2.2.2.2)) = some out := hE
  refine lv_aload_n hx hb dX6_meet_0 rfl (lv_at hl 0 rfl) ?_
  refine cr_get C hW.1 0 rfl rfl 1 (by decide) hinX6 k0 (v := .ref ((a 4) 0)) rfl dX6_meet_1 ?_
  refine lv_aload_n hx hb dX6_meet_4 rfl (lv_at hl 0 rfl) ?_
  refine cr_get C hW.1 0 rfl rfl 0 (by decide) hinX6 k1 (v := .ref ((a 1) 0)) rfl dX6_meet_5 ?_
  obtain ⟨q1, hq1, hE⟩ := cr_bind hE
  refine cr_vVB (nb := 6) (n := 1) (As := [.ref ((a 1) 0)]) (rest := []) C hW (m_X3_copyFrom L D ct (a 4) (a 5) (a 6) (a 1) (a 2) (a 3) vt vtl vtk vh vl vk _ q1 hq1) (cwV 1 hts gX6_meet_X3_copyFrom rfl rfl rfl (by decide +kernel) ⟨Nat.le_of_ble_eq_true rfl, Nat.le_of_ble_eq_true rfl⟩) [2, 1] [0, 3, 4, 5] [cr_wX0 ct a, cr_wH ct (a 1) (a 2) (a 3) vh vl vk, cr_wH ct (a 4) (a 5) (a 6) vt vtl vtk, cr_wR ct (a 7) vs r vx, cr_wD ct (a 8) vd, cr_wO ct (a 9) vo] (cr_wX ct a r vh vl vk q1.1 q1.2.1 q1.2.2 vs vx vd vo) [cr_wX0 ct a, cr_wH ct (a 1) (a 2) (a 3) vh vl vk, cr_wH ct (a 4) (a 5) (a 6) q1.1 q1.2.1 q1.2.2, cr_wR ct (a 7) vs r vx, cr_wD ct (a 8) vd, cr_wO ct (a 9) vo] ⟨rfl, rfl⟩ ⟨rfl, rfl⟩ rfl rfl rfl (by decide) 12 rfl rfl rfl hl.1 rfl (Nat.le_of_ble_eq_true rfl) dX6_meet_8 ⟨Nat.zero_le _, Nat.zero_le _⟩ (fun H locs hW => ?_)
  refine lv_aload_n hx hb dX6_meet_11 rfl (lv_at hl 0 rfl) ?_
  refine lv_aload_n hx hb dX6_meet_12 rfl (lv_at hl 0 rfl) ?_
  refine cr_get C hW.1 0 rfl rfl 1 (by decide) hinX6 k0 (v := .ref ((a 4) 0)) rfl dX6_meet_13 ?_
  refine lv_iload_n hx hb dX6_meet_16 rfl (lv_at hl 1 rfl) ?_
  refine lv_aload_n hx hb dX6_meet_17 rfl (lv_at hl 0 rfl) ?_
  refine cr_get C hW.1 0 rfl rfl 3 (by decide) hinX6 k2 (v := .ref ((a 8) 0)) rfl dX6_meet_18 ?_
  obtain ⟨q2, hq2, hE⟩ := cr_bind hE
  refine cr_vWB (nb := 6) (n := 2) (As := [.int x1, .ref ((a 8) 0)]) (rest := [.ref (a 0 0)]) C hW (m_X3_meetContract L D ct (a 4) (a 5) (a 6) (a 8) q1.1 q1.2.1 q1.2.2 vd x1 _ q2 hq2) (cwV 2 hts gX6_meet_X3_meetContract rfl rfl rfl (by decide +kernel) ⟨Nat.le_of_ble_eq_true rfl, Nat.le_of_ble_eq_true rfl⟩) [2, 4] [0, 1, 3, 5] [cr_wX0 ct a, cr_wH ct (a 1) (a 2) (a 3) vh vl vk, cr_wH ct (a 4) (a 5) (a 6) q1.1 q1.2.1 q1.2.2, cr_wR ct (a 7) vs r vx, cr_wD ct (a 8) vd, cr_wO ct (a 9) vo] (cr_wX ct a r vh vl vk q2.2.1 q2.2.2.1 q2.2.2.2.1 vs vx q2.2.2.2.2 vo) [cr_wX0 ct a, cr_wH ct (a 1) (a 2) (a 3) vh vl vk, cr_wH ct (a 4) (a 5) (a 6) q2.2.1 q2.2.2.1 q2.2.2.2.1, cr_wR ct (a 7) vs r vx, cr_wD ct (a 8) q2.2.2.2.2, cr_wO ct (a 9) vo] ⟨rfl, rfl⟩ ⟨rfl, rfl⟩ rfl rfl rfl (by decide) 12 rfl rfl rfl hl.1 rfl (Nat.le_of_ble_eq_true rfl) dX6_meet_21 ⟨Nat.zero_le _, Nat.zero_le _⟩ (fun H locs hW => ?_)
  obtain ⟨q3, hq3, hE⟩ := cr_bind hE
  refine cr_vWBr (nb := 6) (n := 1) (As := [.int q2.1]) (rest := []) C hW (m_X6_accept L D ct a r vh vl vk q2.2.1 q2.2.2.1 q2.2.2.2.1 vs vx q2.2.2.2.2 vo q2.1 _ q3 hq3) (cwV 1 hts gX6_meet_X6_accept rfl rfl rfl (by decide +kernel) ⟨Nat.le_of_ble_eq_true rfl, Nat.le_of_ble_eq_true rfl⟩) [0, 1, 2, 3, 4, 5] [] [cr_wX0 ct a, cr_wH ct (a 1) (a 2) (a 3) vh vl vk, cr_wH ct (a 4) (a 5) (a 6) q2.2.1 q2.2.2.1 q2.2.2.2.1, cr_wR ct (a 7) vs r vx, cr_wD ct (a 8) q2.2.2.2.2, cr_wO ct (a 9) vo] (fun r => cr_wX ct a r q3.2.1 q3.2.2.1 q3.2.2.2.1 q2.2.1 q2.2.2.1 q2.2.2.2.1 q3.2.2.2.2.1 q3.2.2.2.2.2 q2.2.2.2.2 vo) (fun r => [cr_wX0 ct a, cr_wH ct (a 1) (a 2) (a 3) q3.2.1 q3.2.2.1 q3.2.2.2.1, cr_wH ct (a 4) (a 5) (a 6) q2.2.1 q2.2.2.1 q2.2.2.2.1, cr_wR ct (a 7) q3.2.2.2.2.1 r q3.2.2.2.2.2, cr_wD ct (a 8) q2.2.2.2.2, cr_wO ct (a 9) vo]) ⟨rfl, rfl⟩ (fun _ => ⟨rfl, rfl⟩) rfl (fun _ => rfl) (fun _ => rfl) (by decide) 0 rfl rfl rfl hl.1 rfl (Nat.le_of_ble_eq_true rfl) dX6_meet_24 ⟨Nat.zero_le _, Nat.zero_le _⟩ (fun r H locs hW => ?_)
  exact cr_retW C (w := (fun u : (Nat → Nat → Nat → Nat) × cr_V × cr_V × cr_V × cr_V × cr_V × cr_V × cr_V × (Nat → Nat → cr_V) × cr_V => cr_wX ct a u.1 u.2.1 u.2.2.1 u.2.2.2.1 u.2.2.2.2.1 u.2.2.2.2.2.1 u.2.2.2.2.2.2.1 u.2.2.2.2.2.2.2.1 u.2.2.2.2.2.2.2.2.1 u.2.2.2.2.2.2.2.2.2 vo)) (r, q3.2.1, q3.2.2.1, q3.2.2.2.1, q2.2.1, q2.2.2.1, q2.2.2.2.1, q3.2.2.2.2.1, q3.2.2.2.2.2, q2.2.2.2.2) hW (Option.some.inj hE) dX6_meet_27

set_option maxHeartbeats 4000000 in
set_option maxRecDepth 100000 in
theorem m_X6_pass (L : Launch) (D : va_G) (ct : Nat → ClassId) (a : Nat → Nat → Nat) (r : Nat → Nat → Nat → Nat) (vh : cr_V) (vl : cr_V) (vk : cr_V) (vt : cr_V) (vtl : cr_V) (vtk : cr_V) (vs : cr_V) (vx : Nat → Nat → cr_V) (vd : cr_V) (vo : cr_V) (x1 : Int32) (sz : Nat) (out : Int32 × cr_V × cr_V × cr_V × cr_V × cr_V × cr_V × cr_V × (Nat → Nat → cr_V)) (hE : f_X6_pass vh vl vk vt vtl vtk vs vx vd vo x1 = some out) : Met L yX6_pass wsX6_pass ({ frames := 4, cells := 0, slots := 0, locals := 86 } : Room) (cr_pW D ct (cr_wX ct a r vh vl vk vt vtl vtk vs vx vd vo) sz [.ref (a 0 0), .int x1]) (cr_QW D (cr_wX ct a r vh vl vk vt vtl vtk vs vx vd vo) sz (fun r (u : (Nat → Nat → Nat → Nat) × cr_V × cr_V × cr_V × cr_V × cr_V × cr_V × cr_V × (Nat → Nat → cr_V)) => (r, u.2) = out) (fun u : (Nat → Nat → Nat → Nat) × cr_V × cr_V × cr_V × cr_V × cr_V × cr_V × cr_V × (Nat → Nat → cr_V) => cr_wX ct a u.1 u.2.1 u.2.2.1 u.2.2.2.1 u.2.2.2.2.1 u.2.2.2.2.2.1 u.2.2.2.2.2.2.1 u.2.2.2.2.2.2.2.1 u.2.2.2.2.2.2.2.2 vd vo)) 0 0 (va_A (cr_wX ct a r vh vl vk vt vtl vtk vs vx vd vo) sz) := by
  have k0 : (Cond.fieldLink RX6 16 "CupReceipts" "trial" "LCupReceipts$House;") ∈ wsX6_pass := List.mem_of_getElem? (i := 1) rfl
  have k1 : (Cond.fieldLink RX6 10 "CupReceipts" "house" "LCupReceipts$House;") ∈ wsX6_pass := List.mem_of_getElem? (i := 2) rfl
  have hinX6 : ∀ w ∈ wsX60, w ∈ wsX6_pass := fun w h => List.mem_cons_of_mem _ (List.mem_append_left _ (List.mem_append_left _ (List.mem_append_left _ (List.mem_append_left _ (List.mem_append_right _ h)))))
  refine cr_metW (Qc := fun A => va_Qi (fun r (u : (Nat → Nat → Nat → Nat) × cr_V × cr_V × cr_V × cr_V × cr_V × cr_V × cr_V × (Nat → Nat → cr_V)) => (r, u.2) = out) (fun u t => cr_at D A ((fun u : (Nat → Nat → Nat → Nat) × cr_V × cr_V × cr_V × cr_V × cr_V × cr_V × cr_V × (Nat → Nat → cr_V) => cr_wX ct a u.1 u.2.1 u.2.2.1 u.2.2.2.1 u.2.2.2.2.1 u.2.2.2.2.2.1 u.2.2.2.2.2.2.1 u.2.2.2.2.2.2.2.1 u.2.2.2.2.2.2.2.2 vd vo) u) t) A) (by decide) rfl rfl (Nat.le_of_ble_eq_true rfl) ?_
  intro p e s m args below meth c ls A C hW hl
  obtain ⟨hx, hb, hml, hown, hts, hr, hlocks, hK, hN⟩ := id C
  have hl : lv_has ls 2 [(0, .ref (a 0 0)), (1, .int x1)] := hl
  replace hE : ((f_X3_copyFrom vt vtl vtk vh vl vk).bind fun q1 => (f_X3_passMonths q1.1 q1.2.1 q1.2.2 x1).bind fun q2 => (f_X6_accept vh vl vk q2.2.1 q1.2.1 q2.2.2 vs vx vd vo q2.1).bind fun q3 => some (q3.1, q3.2.1, q3.2.2.1, q3.2.2.2.1, q2.2.1, q1.2.1, q2.2.2, q3.2.2.2.2.1, q3.2.2.2.2.2)) = some out := hE
  refine lv_aload_n hx hb dX6_pass_0 rfl (lv_at hl 0 rfl) ?_
  refine cr_get C hW.1 0 rfl rfl 1 (by decide) hinX6 k0 (v := .ref ((a 4) 0)) rfl dX6_pass_1 ?_
  refine lv_aload_n hx hb dX6_pass_4 rfl (lv_at hl 0 rfl) ?_
  refine cr_get C hW.1 0 rfl rfl 0 (by decide) hinX6 k1 (v := .ref ((a 1) 0)) rfl dX6_pass_5 ?_
  obtain ⟨q1, hq1, hE⟩ := cr_bind hE
  refine cr_vVB (nb := 6) (n := 1) (As := [.ref ((a 1) 0)]) (rest := []) C hW (m_X3_copyFrom L D ct (a 4) (a 5) (a 6) (a 1) (a 2) (a 3) vt vtl vtk vh vl vk _ q1 hq1) (cwV 1 hts gX6_pass_X3_copyFrom rfl rfl rfl (by decide +kernel) ⟨Nat.le_of_ble_eq_true rfl, Nat.le_of_ble_eq_true rfl⟩) [2, 1] [0, 3, 4, 5] [cr_wX0 ct a, cr_wH ct (a 1) (a 2) (a 3) vh vl vk, cr_wH ct (a 4) (a 5) (a 6) vt vtl vtk, cr_wR ct (a 7) vs r vx, cr_wD ct (a 8) vd, cr_wO ct (a 9) vo] (cr_wX ct a r vh vl vk q1.1 q1.2.1 q1.2.2 vs vx vd vo) [cr_wX0 ct a, cr_wH ct (a 1) (a 2) (a 3) vh vl vk, cr_wH ct (a 4) (a 5) (a 6) q1.1 q1.2.1 q1.2.2, cr_wR ct (a 7) vs r vx, cr_wD ct (a 8) vd, cr_wO ct (a 9) vo] ⟨rfl, rfl⟩ ⟨rfl, rfl⟩ rfl rfl rfl (by decide) 12 rfl rfl rfl hl.1 rfl (Nat.le_of_ble_eq_true rfl) dX6_pass_8 ⟨Nat.zero_le _, Nat.zero_le _⟩ (fun H locs hW => ?_)
  refine lv_aload_n hx hb dX6_pass_11 rfl (lv_at hl 0 rfl) ?_
  refine lv_aload_n hx hb dX6_pass_12 rfl (lv_at hl 0 rfl) ?_
  refine cr_get C hW.1 0 rfl rfl 1 (by decide) hinX6 k0 (v := .ref ((a 4) 0)) rfl dX6_pass_13 ?_
  refine lv_iload_n hx hb dX6_pass_16 rfl (lv_at hl 1 rfl) ?_
  obtain ⟨q2, hq2, hE⟩ := cr_bind hE
  refine cr_vWB (nb := 6) (n := 1) (As := [.int x1]) (rest := [.ref (a 0 0)]) C hW (m_X3_passMonths L D ct (a 4) (a 5) (a 6) q1.1 q1.2.1 q1.2.2 x1 _ q2 hq2) (cwV 1 hts gX6_pass_X3_passMonths rfl rfl rfl (by decide +kernel) ⟨Nat.le_of_ble_eq_true rfl, Nat.le_of_ble_eq_true rfl⟩) [2] [0, 1, 3, 4, 5] [cr_wX0 ct a, cr_wH ct (a 1) (a 2) (a 3) vh vl vk, cr_wH ct (a 4) (a 5) (a 6) q1.1 q1.2.1 q1.2.2, cr_wR ct (a 7) vs r vx, cr_wD ct (a 8) vd, cr_wO ct (a 9) vo] (cr_wX ct a r vh vl vk q2.2.1 q1.2.1 q2.2.2 vs vx vd vo) [cr_wX0 ct a, cr_wH ct (a 1) (a 2) (a 3) vh vl vk, cr_wH ct (a 4) (a 5) (a 6) q2.2.1 q1.2.1 q2.2.2, cr_wR ct (a 7) vs r vx, cr_wD ct (a 8) vd, cr_wO ct (a 9) vo] ⟨rfl, rfl⟩ ⟨rfl, rfl⟩ rfl rfl rfl (by decide) 12 rfl rfl rfl hl.1 rfl (Nat.le_of_ble_eq_true rfl) dX6_pass_17 ⟨Nat.zero_le _, Nat.zero_le _⟩ (fun H locs hW => ?_)
  obtain ⟨q3, hq3, hE⟩ := cr_bind hE
  refine cr_vWBr (nb := 6) (n := 1) (As := [.int q2.1]) (rest := []) C hW (m_X6_accept L D ct a r vh vl vk q2.2.1 q1.2.1 q2.2.2 vs vx vd vo q2.1 _ q3 hq3) (cwV 1 hts gX6_pass_X6_accept rfl rfl rfl (by decide +kernel) ⟨Nat.le_of_ble_eq_true rfl, Nat.le_of_ble_eq_true rfl⟩) [0, 1, 2, 3, 4, 5] [] [cr_wX0 ct a, cr_wH ct (a 1) (a 2) (a 3) vh vl vk, cr_wH ct (a 4) (a 5) (a 6) q2.2.1 q1.2.1 q2.2.2, cr_wR ct (a 7) vs r vx, cr_wD ct (a 8) vd, cr_wO ct (a 9) vo] (fun r => cr_wX ct a r q3.2.1 q3.2.2.1 q3.2.2.2.1 q2.2.1 q1.2.1 q2.2.2 q3.2.2.2.2.1 q3.2.2.2.2.2 vd vo) (fun r => [cr_wX0 ct a, cr_wH ct (a 1) (a 2) (a 3) q3.2.1 q3.2.2.1 q3.2.2.2.1, cr_wH ct (a 4) (a 5) (a 6) q2.2.1 q1.2.1 q2.2.2, cr_wR ct (a 7) q3.2.2.2.2.1 r q3.2.2.2.2.2, cr_wD ct (a 8) vd, cr_wO ct (a 9) vo]) ⟨rfl, rfl⟩ (fun _ => ⟨rfl, rfl⟩) rfl (fun _ => rfl) (fun _ => rfl) (by decide) 0 rfl rfl rfl hl.1 rfl (Nat.le_of_ble_eq_true rfl) dX6_pass_20 ⟨Nat.zero_le _, Nat.zero_le _⟩ (fun r H locs hW => ?_)
  exact cr_retW C (w := (fun u : (Nat → Nat → Nat → Nat) × cr_V × cr_V × cr_V × cr_V × cr_V × cr_V × cr_V × (Nat → Nat → cr_V) => cr_wX ct a u.1 u.2.1 u.2.2.1 u.2.2.2.1 u.2.2.2.2.1 u.2.2.2.2.2.1 u.2.2.2.2.2.2.1 u.2.2.2.2.2.2.2.1 u.2.2.2.2.2.2.2.2 vd vo)) (r, q3.2.1, q3.2.2.1, q3.2.2.2.1, q2.2.1, q1.2.1, q2.2.2, q3.2.2.2.2.1, q3.2.2.2.2.2) hW (Option.some.inj hE) dX6_pass_23

set_option maxHeartbeats 4000000 in
set_option maxRecDepth 100000 in
theorem m_X6_lotOf (L : Launch) (D : va_G) (ct : Nat → ClassId) (a : Nat → Nat → Nat) (r : Nat → Nat → Nat → Nat) (vh : cr_V) (vl : cr_V) (vk : cr_V) (vt : cr_V) (vtl : cr_V) (vtk : cr_V) (vs : cr_V) (vx : Nat → Nat → cr_V) (vd : cr_V) (vo : cr_V) (x1 : Int32) (x2 : Int32) (out : Int32) (hE : f_X6_lotOf vh vl vk vt vtl vtk vs vx vd vo x1 x2 = some out) : Met L yX6_lotOf wsX6_lotOf ({ frames := 2, cells := 0, slots := 0, locals := 45 } : Room) (cr_pR D ct (cr_wX ct a r vh vl vk vt vtl vtk vs vx vd vo) [.ref (a 0 0), .int x1, .int x2]) (cr_QR (fun r => r = out)) 0 0 cr_no := by
  have k0 : (Cond.fieldLink RX6 10 "CupReceipts" "house" "LCupReceipts$House;") ∈ wsX6_lotOf := List.mem_of_getElem? (i := 1) rfl
  have k1 : (Cond.fieldLink RX6 81 "CupReceipts$House" "lots" "LCupReceipts$Lots;") ∈ wsX6_lotOf := List.mem_of_getElem? (i := 2) rfl
  have k2 : (Cond.constant RX6 90 (-2000000001)) ∈ wsX6_lotOf := List.mem_of_getElem? (i := 3) rfl
  have hinX3 : ∀ w ∈ wsX30, w ∈ wsX6_lotOf := fun w h => List.mem_cons_of_mem _ (List.mem_append_left _ (List.mem_append_right _ h))
  have hinX6 : ∀ w ∈ wsX60, w ∈ wsX6_lotOf := fun w h => List.mem_cons_of_mem _ (List.mem_append_left _ (List.mem_append_left _ (List.mem_append_right _ h)))
  refine cr_metR (by decide) rfl rfl (Nat.le_of_ble_eq_true rfl) ?_
  intro p e s m args below meth c ls C hP hS hl
  obtain ⟨hx, hb, hml, hown, hts, hr, hlocks, hK, hN⟩ := id C
  have hl : lv_has ls 4 [(0, .ref (a 0 0)), (1, .int x1), (2, .int x2)] := hl
  replace hE : ((f_X4_rowOf vl x1).bind fun q1 => if 0 ≤ q1 then ((f_X3_tellOfLot vh vl vk q1 x2).bind fun q3 => some q3) else (some (-2000000001))) = some out := hE
  refine lv_aload_n hx hb dX6_lotOf_0 rfl (lv_at hl 0 rfl) ?_
  refine cr_get C hP 0 rfl rfl 0 (by decide) hinX6 k0 (v := .ref ((a 1) 0)) rfl dX6_lotOf_1 ?_
  refine cr_get C hP 1 rfl rfl 0 (by decide) hinX3 k1 (v := .ref ((a 2) 0)) rfl dX6_lotOf_4 ?_
  refine lv_iload_n hx hb dX6_lotOf_7 rfl (lv_at hl 1 rfl) ?_
  obtain ⟨q1, hq1, hE⟩ := cr_bind hE
  refine cr_vRq (n := 1) (As := [.int x1]) (rest := []) C hP hS (m_X4_rowOf L D ct (a 2) vl x1 q1 hq1) (cwV 1 hts gX6_lotOf_X4_rowOf rfl rfl rfl (by decide +kernel) ⟨Nat.le_of_ble_eq_true rfl, Nat.le_of_ble_eq_true rfl⟩) [4, 5, 6, 7, 8] rfl 4 rfl rfl rfl hl.1 rfl (Nat.le_of_ble_eq_true rfl) dX6_lotOf_8 ⟨Nat.zero_le _, Nat.zero_le _⟩ (fun H locs hP hS => ?_)
  refine lv_istore_n (lv' := [(3, .int q1), (0, .ref (a 0 0)), (1, .int x1), (2, .int x2)]) hx hb dX6_lotOf_11 rfl hl (by decide) rfl (fun ls hl => ?_)
  refine lv_iload_n hx hb dX6_lotOf_12 rfl (lv_at hl 0 rfl) ?_
  refine lv_if_ge (tgt := 21) hx hb dX6_lotOf_13 (by decide) (fun c2 => ?_) (fun c2 => ?_)
  · rw [if_pos c2] at hE
    refine lv_aload_n hx hb dX6_lotOf_21 rfl (lv_at hl 1 rfl) ?_
    refine cr_get C hP 0 rfl rfl 0 (by decide) hinX6 k0 (v := .ref ((a 1) 0)) rfl dX6_lotOf_22 ?_
    refine lv_iload_n hx hb dX6_lotOf_25 rfl (lv_at hl 0 rfl) ?_
    refine lv_iload_n hx hb dX6_lotOf_26 rfl (lv_at hl 3 rfl) ?_
    obtain ⟨q3, hq3, hE⟩ := cr_bind hE
    refine cr_vRq (n := 2) (As := [.int q1, .int x2]) (rest := []) C hP hS (m_X3_tellOfLot L D ct (a 1) (a 2) (a 3) vh vl vk q1 x2 q3 hq3) (cwV 2 hts gX6_lotOf_X3_tellOfLot rfl rfl rfl (by decide +kernel) ⟨Nat.le_of_ble_eq_true rfl, Nat.le_of_ble_eq_true rfl⟩) [1, 2, 3, 4, 5, 6, 7, 8, 9, 10, 11] rfl 1 rfl rfl rfl hl.1 rfl (Nat.le_of_ble_eq_true rfl) dX6_lotOf_27 ⟨Nat.zero_le _, Nat.zero_le _⟩ (fun H locs hP hS => ?_)
    exact cr_retR C hS (Option.some.inj hE) dX6_lotOf_30
  · rw [if_neg c2] at hE
    refine cr_ldc C k2 dX6_lotOf_16 ?_
    refine lv_goto (tgt := 30) hx hb dX6_lotOf_18 (by decide) ?_
    exact cr_retR C hS (Option.some.inj hE) dX6_lotOf_30

set_option maxHeartbeats 4000000 in
set_option maxRecDepth 100000 in
theorem m_X6_numberOf (L : Launch) (D : va_G) (ct : Nat → ClassId) (a : Nat → Nat → Nat) (r : Nat → Nat → Nat → Nat) (vh : cr_V) (vl : cr_V) (vk : cr_V) (vt : cr_V) (vtl : cr_V) (vtk : cr_V) (vs : cr_V) (vx : Nat → Nat → cr_V) (vd : cr_V) (vo : cr_V) (x1 : Int32) (out : Int32) (hE : f_X6_numberOf vh vl vk vt vtl vtk vs vx vd vo x1 = some out) : Met L yX6_numberOf wsX6_numberOf ({ frames := 0, cells := 0, slots := 0, locals := 0 } : Room) (cr_pR D ct (cr_wX ct a r vh vl vk vt vtl vtk vs vx vd vo) [.ref (a 0 0), .int x1]) (cr_QR (fun r => r = out)) 0 0 cr_no := by
  have k0 : (Cond.fieldLink RX6 10 "CupReceipts" "house" "LCupReceipts$House;") ∈ wsX6_numberOf := List.mem_of_getElem? (i := 2) rfl
  have k1 : (Cond.fieldLink RX6 81 "CupReceipts$House" "lots" "LCupReceipts$Lots;") ∈ wsX6_numberOf := List.mem_of_getElem? (i := 3) rfl
  have k2 : (Cond.fieldLink RX6 94 "CupReceipts$Lots" "size" "I") ∈ wsX6_numberOf := List.mem_of_getElem? (i := 4) rfl
  have k3 : (Cond.constant RX6 102 (-2000000004)) ∈ wsX6_numberOf := List.mem_of_getElem? (i := 6) rfl
  have k4 : (Cond.fieldLink RX6 98 "CupReceipts$Lots" "numbers" "[I") ∈ wsX6_numberOf := List.mem_of_getElem? (i := 5) rfl
  have k5 : (Cond.constant RX6 90 (-2000000001)) ∈ wsX6_numberOf := List.mem_of_getElem? (i := 1) rfl
  have hinX3 : ∀ w ∈ wsX30, w ∈ wsX6_numberOf := fun w h => List.mem_cons_of_mem _ (List.mem_append_left _ (List.mem_append_right _ h))
  have hinX4 : ∀ w ∈ wsX40, w ∈ wsX6_numberOf := fun w h => List.mem_cons_of_mem _ (List.mem_append_right _ h)
  have hinX6 : ∀ w ∈ wsX60, w ∈ wsX6_numberOf := fun w h => List.mem_cons_of_mem _ (List.mem_append_left _ (List.mem_append_left _ (List.mem_append_right _ h)))
  refine cr_metR (by decide) rfl rfl (Nat.le_of_ble_eq_true rfl) ?_
  intro p e s m args below meth c ls C hP hS hl
  obtain ⟨hx, hb, hml, hown, hts, hr, hlocks, hK, hN⟩ := id C
  have hl : lv_has ls 2 [(0, .ref (a 0 0)), (1, .int x1)] := hl
  replace hE : (if 0 ≤ x1 then (if (vl 4 0) ≤ x1 then (some (-2000000004)) else (if cr_in x1 12 = true then some (vl 0 (cr_x x1)) else none)) else (some (-2000000001))) = some out := hE
  refine lv_iload_n hx hb dX6_numberOf_0 rfl (lv_at hl 1 rfl) ?_
  refine lv_if_ge (tgt := 7) hx hb dX6_numberOf_1 (by decide) (fun c1 => ?_) (fun c1 => ?_)
  · rw [if_pos c1] at hE
    refine lv_iload_n hx hb dX6_numberOf_7 rfl (lv_at hl 1 rfl) ?_
    refine lv_aload_n hx hb dX6_numberOf_8 rfl (lv_at hl 0 rfl) ?_
    refine cr_get C hP 0 rfl rfl 0 (by decide) hinX6 k0 (v := .ref ((a 1) 0)) rfl dX6_numberOf_9 ?_
    refine cr_get C hP 1 rfl rfl 0 (by decide) hinX3 k1 (v := .ref ((a 2) 0)) rfl dX6_numberOf_12 ?_
    refine cr_get C hP 4 rfl rfl 4 (by decide) hinX4 k2 (v := .int (vl 4 0)) rfl dX6_numberOf_15 ?_
    refine lv_icmp_ge (tgt := 36) hx hb dX6_numberOf_18 (by decide) (fun c2 => ?_) (fun c2 => ?_)
    · rw [if_pos c2] at hE
      refine cr_ldc C k3 dX6_numberOf_36 ?_
      exact cr_retR C hS (Option.some.inj hE) dX6_numberOf_38
    · rw [if_neg c2] at hE
      refine lv_aload_n hx hb dX6_numberOf_21 rfl (lv_at hl 0 rfl) ?_
      refine cr_get C hP 0 rfl rfl 0 (by decide) hinX6 k0 (v := .ref ((a 1) 0)) rfl dX6_numberOf_22 ?_
      refine cr_get C hP 1 rfl rfl 0 (by decide) hinX3 k1 (v := .ref ((a 2) 0)) rfl dX6_numberOf_25 ?_
      refine cr_get C hP 4 rfl rfl 0 (by decide) hinX4 k4 (v := .ref ((a 2) 1)) rfl dX6_numberOf_28 ?_
      refine lv_iload_n hx hb dX6_numberOf_31 rfl (lv_at hl 1 rfl) ?_
      obtain ⟨i3, hE⟩ := cr_ifn hE
      refine cr_ald C hP 5 (f := vl 0) (k := cr_x x1) rfl i3 (cr_xe _) dX6_numberOf_32 ?_
      refine lv_goto (tgt := 38) hx hb dX6_numberOf_33 (by decide) ?_
      exact cr_retR C hS (Option.some.inj hE) dX6_numberOf_38
  · rw [if_neg c1] at hE
    refine cr_ldc C k5 dX6_numberOf_4 ?_
    exact cr_retR C hS (Option.some.inj hE) dX6_numberOf_6

set_option maxHeartbeats 4000000 in
set_option maxRecDepth 100000 in
theorem m_X6_contractOf (L : Launch) (D : va_G) (ct : Nat → ClassId) (a : Nat → Nat → Nat) (r : Nat → Nat → Nat → Nat) (vh : cr_V) (vl : cr_V) (vk : cr_V) (vt : cr_V) (vtl : cr_V) (vtk : cr_V) (vs : cr_V) (vx : Nat → Nat → cr_V) (vd : cr_V) (vo : cr_V) (x1 : Int32) (x2 : Int32) (out : Int32) (hE : f_X6_contractOf vh vl vk vt vtl vtk vs vx vd vo x1 x2 = some out) : Met L yX6_contractOf wsX6_contractOf ({ frames := 1, cells := 0, slots := 0, locals := 21 } : Room) (cr_pR D ct (cr_wX ct a r vh vl vk vt vtl vtk vs vx vd vo) [.ref (a 0 0), .int x1, .int x2]) (cr_QR (fun r => r = out)) 0 0 cr_no := by
  have k0 : (Cond.fieldLink RX6 10 "CupReceipts" "house" "LCupReceipts$House;") ∈ wsX6_contractOf := List.mem_of_getElem? (i := 1) rfl
  have k1 : (Cond.fieldLink RX6 103 "CupReceipts$House" "contracts" "LCupReceipts$Contracts;") ∈ wsX6_contractOf := List.mem_of_getElem? (i := 2) rfl
  have k2 : (Cond.fieldLink RX6 113 "CupReceipts$Contracts" "months" "[I") ∈ wsX6_contractOf := List.mem_of_getElem? (i := 4) rfl
  have k3 : (Cond.fieldLink RX6 116 "CupReceipts$Contracts" "prices" "[I") ∈ wsX6_contractOf := List.mem_of_getElem? (i := 5) rfl
  have k4 : (Cond.fieldLink RX6 119 "CupReceipts$House" "month" "I") ∈ wsX6_contractOf := List.mem_of_getElem? (i := 6) rfl
  have k5 : (Cond.constant RX6 90 (-2000000001)) ∈ wsX6_contractOf := List.mem_of_getElem? (i := 3) rfl
  have hinX0 : ∀ w ∈ wsX00, w ∈ wsX6_contractOf := fun w h => List.mem_cons_of_mem _ (List.mem_append_right _ h)
  have hinX3 : ∀ w ∈ wsX30, w ∈ wsX6_contractOf := fun w h => List.mem_cons_of_mem _ (List.mem_append_left _ (List.mem_append_right _ h))
  have hinX6 : ∀ w ∈ wsX60, w ∈ wsX6_contractOf := fun w h => List.mem_cons_of_mem _ (List.mem_append_left _ (List.mem_append_left _ (List.mem_append_right _ h)))
  refine cr_metR (by decide) rfl rfl (Nat.le_of_ble_eq_true rfl) ?_
  intro p e s m args below meth c ls C hP hS hl
  obtain ⟨hx, hb, hml, hown, hts, hr, hlocks, hK, hN⟩ := id C
  have hl : lv_has ls 3 [(0, .ref (a 0 0)), (1, .int x1), (2, .int x2)] := hl
  replace hE : ((f_X0_isOpen vk x1).bind fun q1 => if q1 = 0 then (some (-2000000001)) else (if x2 = 0 then (if cr_in x1 6 = true then some (vk 0 (cr_x x1)) else none) else (if x2 = 1 then (if cr_in x1 6 = true then some (vk 1 (cr_x x1)) else none) else (if x2 = 2 then (if cr_in x1 6 = true then some ((vk 0 (cr_x x1)) - (vh 4 0)) else none) else (some (-2000000001)))))) = some out := hE
  refine lv_aload_n hx hb dX6_contractOf_0 rfl (lv_at hl 0 rfl) ?_
  refine cr_get C hP 0 rfl rfl 0 (by decide) hinX6 k0 (v := .ref ((a 1) 0)) rfl dX6_contractOf_1 ?_
  refine cr_get C hP 1 rfl rfl 1 (by decide) hinX3 k1 (v := .ref ((a 3) 0)) rfl dX6_contractOf_4 ?_
  refine lv_iload_n hx hb dX6_contractOf_7 rfl (lv_at hl 1 rfl) ?_
  obtain ⟨q1, hq1, hE⟩ := cr_bind hE
  refine cr_vRq (n := 1) (As := [.int x1]) (rest := []) C hP hS (m_X0_isOpen L D ct (a 3) vk x1 q1 hq1) (cwV 1 hts gX6_contractOf_X0_isOpen rfl rfl rfl (by decide +kernel) ⟨Nat.le_of_ble_eq_true rfl, Nat.le_of_ble_eq_true rfl⟩) [9, 10, 11] rfl 9 rfl rfl rfl hl.1 rfl (Nat.le_of_ble_eq_true rfl) dX6_contractOf_8 ⟨Nat.zero_le _, Nat.zero_le _⟩ (fun H locs hP hS => ?_)
  refine lv_if_ne (tgt := 17) hx hb dX6_contractOf_11 (by decide) (fun c2 => ?_) (fun c2 => ?_)
  · rw [if_neg c2] at hE
    refine lv_iload_n hx hb dX6_contractOf_17 rfl (lv_at hl 2 rfl) ?_
    by_cases c3 : x2 = 0
    · rw [if_pos c3] at hE
      refine lv_tableIn (tgt := 44) (off := 26) hx hb dX6_contractOf_18 (by rw [c3]; decide) (by rw [c3]; decide) (by rw [c3]; rfl) (by decide) ?_
      refine lv_aload_n hx hb dX6_contractOf_44 rfl (lv_at hl 0 rfl) ?_
      refine cr_get C hP 0 rfl rfl 0 (by decide) hinX6 k0 (v := .ref ((a 1) 0)) rfl dX6_contractOf_45 ?_
      refine cr_get C hP 1 rfl rfl 1 (by decide) hinX3 k1 (v := .ref ((a 3) 0)) rfl dX6_contractOf_48 ?_
      refine cr_get C hP 9 rfl rfl 0 (by decide) hinX0 k2 (v := .ref ((a 3) 1)) rfl dX6_contractOf_51 ?_
      refine lv_iload_n hx hb dX6_contractOf_54 rfl (lv_at hl 1 rfl) ?_
      obtain ⟨i4, hE⟩ := cr_ifn hE
      refine cr_ald C hP 10 (f := vk 0) (k := cr_x x1) rfl i4 (cr_xe _) dX6_contractOf_55 ?_
      exact cr_retR C hS (Option.some.inj hE) dX6_contractOf_56
    · rw [if_neg c3] at hE
      by_cases c5 : x2 = 1
      · rw [if_pos c5] at hE
        refine lv_tableIn (tgt := 57) (off := 39) hx hb dX6_contractOf_18 (by rw [c5]; decide) (by rw [c5]; decide) (by rw [c5]; rfl) (by decide) ?_
        refine lv_aload_n hx hb dX6_contractOf_57 rfl (lv_at hl 0 rfl) ?_
        refine cr_get C hP 0 rfl rfl 0 (by decide) hinX6 k0 (v := .ref ((a 1) 0)) rfl dX6_contractOf_58 ?_
        refine cr_get C hP 1 rfl rfl 1 (by decide) hinX3 k1 (v := .ref ((a 3) 0)) rfl dX6_contractOf_61 ?_
        refine cr_get C hP 9 rfl rfl 1 (by decide) hinX0 k3 (v := .ref ((a 3) 2)) rfl dX6_contractOf_64 ?_
        refine lv_iload_n hx hb dX6_contractOf_67 rfl (lv_at hl 1 rfl) ?_
        obtain ⟨i6, hE⟩ := cr_ifn hE
        refine cr_ald C hP 11 (f := vk 1) (k := cr_x x1) rfl i6 (cr_xe _) dX6_contractOf_68 ?_
        exact cr_retR C hS (Option.some.inj hE) dX6_contractOf_69
      · rw [if_neg c5] at hE
        by_cases c7 : x2 = 2
        · rw [if_pos c7] at hE
          refine lv_tableIn (tgt := 70) (off := 52) hx hb dX6_contractOf_18 (by rw [c7]; decide) (by rw [c7]; decide) (by rw [c7]; rfl) (by decide) ?_
          refine lv_aload_n hx hb dX6_contractOf_70 rfl (lv_at hl 0 rfl) ?_
          refine cr_get C hP 0 rfl rfl 0 (by decide) hinX6 k0 (v := .ref ((a 1) 0)) rfl dX6_contractOf_71 ?_
          refine cr_get C hP 1 rfl rfl 1 (by decide) hinX3 k1 (v := .ref ((a 3) 0)) rfl dX6_contractOf_74 ?_
          refine cr_get C hP 9 rfl rfl 0 (by decide) hinX0 k2 (v := .ref ((a 3) 1)) rfl dX6_contractOf_77 ?_
          refine lv_iload_n hx hb dX6_contractOf_80 rfl (lv_at hl 1 rfl) ?_
          obtain ⟨i8, hE⟩ := cr_ifn hE
          refine cr_ald C hP 10 (f := vk 0) (k := cr_x x1) rfl i8 (cr_xe _) dX6_contractOf_81 ?_
          refine lv_aload_n hx hb dX6_contractOf_82 rfl (lv_at hl 0 rfl) ?_
          refine cr_get C hP 0 rfl rfl 0 (by decide) hinX6 k0 (v := .ref ((a 1) 0)) rfl dX6_contractOf_83 ?_
          refine cr_get C hP 1 rfl rfl 4 (by decide) hinX3 k4 (v := .int (vh 4 0)) rfl dX6_contractOf_86 ?_
          refine lv_isub hx hb dX6_contractOf_89 ?_
          exact cr_retR C hS (Option.some.inj hE) dX6_contractOf_90
        · rw [if_neg c7] at hE
          refine lv_tableOut (tgt := 91) hx hb dX6_contractOf_18 (by have e0 := cr_ne (n := 0) (by decide) c3; have e1 := cr_ne (n := 1) (by decide) c5; have e2 := cr_ne (n := 2) (by decide) c7; omega) (by decide) ?_
          refine cr_ldc C k5 dX6_contractOf_91 ?_
          exact cr_retR C hS (Option.some.inj hE) dX6_contractOf_93
  · rw [if_pos c2] at hE
    refine cr_ldc C k5 dX6_contractOf_14 ?_
    exact cr_retR C hS (Option.some.inj hE) dX6_contractOf_16

set_option maxHeartbeats 4000000 in
set_option maxRecDepth 100000 in
theorem m_X6_count (L : Launch) (D : va_G) (ct : Nat → ClassId) (a : Nat → Nat → Nat) (r : Nat → Nat → Nat → Nat) (vh : cr_V) (vl : cr_V) (vk : cr_V) (vt : cr_V) (vtl : cr_V) (vtk : cr_V) (vs : cr_V) (vx : Nat → Nat → cr_V) (vd : cr_V) (vo : cr_V) (x1 : Int32) (out : Int32) (hE : f_X6_count vh vl vk vt vtl vtk vs vx vd vo x1 = some out) : Met L yX6_count wsX6_count ({ frames := 3, cells := 0, slots := 0, locals := 67 } : Room) (cr_pR D ct (cr_wX ct a r vh vl vk vt vtl vtk vs vx vd vo) [.ref (a 0 0), .int x1]) (cr_QR (fun r => r = out)) 0 0 cr_no := by
  have k0 : (Cond.fieldLink RX6 22 "CupReceipts" "history" "LCupReceipts$History;") ∈ wsX6_count := List.mem_of_getElem? (i := 3) rfl
  have k1 : (Cond.fieldLink RX6 185 "CupReceipts$History" "states" "I") ∈ wsX6_count := List.mem_of_getElem? (i := 4) rfl
  have k2 : (Cond.fieldLink RX6 36 "CupReceipts" "orders" "LCupReceipts$Orders;") ∈ wsX6_count := List.mem_of_getElem? (i := 5) rfl
  have k3 : (Cond.fieldLink RX6 188 "CupReceipts$Orders" "length" "I") ∈ wsX6_count := List.mem_of_getElem? (i := 6) rfl
  have k4 : (Cond.fieldLink RX6 10 "CupReceipts" "house" "LCupReceipts$House;") ∈ wsX6_count := List.mem_of_getElem? (i := 1) rfl
  have k5 : (Cond.fieldLink RX6 172 "CupReceipts$House" "settings" "[I") ∈ wsX6_count := List.mem_of_getElem? (i := 2) rfl
  have hinX2 : ∀ w ∈ wsX20, w ∈ wsX6_count := fun w h => List.mem_cons_of_mem _ (List.mem_append_left _ (List.mem_append_left _ (List.mem_append_left _ (List.mem_append_right _ h))))
  have hinX3 : ∀ w ∈ wsX30, w ∈ wsX6_count := fun w h => List.mem_cons_of_mem _ (List.mem_append_left _ (List.mem_append_left _ (List.mem_append_left _ (List.mem_append_left _ (List.mem_append_right _ h)))))
  have hinX5 : ∀ w ∈ wsX50, w ∈ wsX6_count := fun w h => List.mem_cons_of_mem _ (List.mem_append_left _ (List.mem_append_left _ (List.mem_append_right _ h)))
  have hinX6 : ∀ w ∈ wsX60, w ∈ wsX6_count := fun w h => List.mem_cons_of_mem _ (List.mem_append_left _ (List.mem_append_left _ (List.mem_append_left _ (List.mem_append_left _ (List.mem_append_left _ (List.mem_append_right _ h))))))
  refine cr_metR (by decide) rfl rfl (Nat.le_of_ble_eq_true rfl) ?_
  intro p e s m args below meth c ls C hP hS hl
  obtain ⟨hx, hb, hml, hown, hts, hr, hlocks, hK, hN⟩ := id C
  have hl : lv_has ls 2 [(0, .ref (a 0 0)), (1, .int x1)] := hl
  replace hE : ((f_X6_isWithin x1 20 24).bind fun q1 => if q1 = 0 then (if x1 = 10 then (some (vs 1 0)) else (if x1 = 11 then (some (vo 1 0)) else ((f_X3_tellCount vh vl vk x1).bind fun q5 => some q5))) else (if cr_in (x1 - 20) 5 = true then some (vh 3 (cr_x (x1 - 20))) else none)) = some out := hE
  refine lv_iload_n hx hb dX6_count_0 rfl (lv_at hl 1 rfl) ?_
  refine lv_bipush (v := 20) hx hb dX6_count_1 (by decide) ?_
  refine lv_bipush (v := 24) hx hb dX6_count_3 (by decide) ?_
  obtain ⟨q1, hq1, hE⟩ := cr_bind hE
  refine cr_sRq (n := 3) (As := [.int x1, .int 20, .int 24]) (rest := []) C hP hS (m_X6_isWithin L D ct x1 20 24 q1 hq1) (va_cwS 3 hts gX6_count_X6_isWithin rfl rfl rfl (by decide +kernel) ⟨Nat.le_of_ble_eq_true rfl, Nat.le_of_ble_eq_true rfl⟩) rfl hl.1 rfl (Nat.le_of_ble_eq_true rfl) dX6_count_5 ⟨Nat.zero_le _, Nat.zero_le _⟩ (fun H locs hP hS => ?_)
  refine lv_if_eq (tgt := 24) hx hb dX6_count_8 (by decide) (fun c2 => ?_) (fun c2 => ?_)
  · rw [if_pos c2] at hE
    refine lv_iload_n hx hb dX6_count_24 rfl (lv_at hl 1 rfl) ?_
    by_cases c3 : x1 = 10
    · rw [if_pos c3] at hE
      refine lv_lookup (tgt := 52) (off := 27) hx hb dX6_count_25 (by decide) (by rw [c3]; rfl) (by decide) ?_
      refine lv_aload_n hx hb dX6_count_52 rfl (lv_at hl 0 rfl) ?_
      refine cr_get C hP 0 rfl rfl 2 (by decide) hinX6 k0 (v := .ref ((a 7) 0)) rfl dX6_count_53 ?_
      refine cr_get C hP 23 rfl rfl 1 (by decide) hinX2 k1 (v := .int (vs 1 0)) rfl dX6_count_56 ?_
      exact cr_retR C hS (Option.some.inj hE) dX6_count_59
    · rw [if_neg c3] at hE
      by_cases c4 : x1 = 11
      · rw [if_pos c4] at hE
        refine lv_lookup (tgt := 60) (off := 35) hx hb dX6_count_25 (by decide) (by rw [c4]; rfl) (by decide) ?_
        refine lv_aload_n hx hb dX6_count_60 rfl (lv_at hl 0 rfl) ?_
        refine cr_get C hP 0 rfl rfl 4 (by decide) hinX6 k2 (v := .ref ((a 9) 0)) rfl dX6_count_61 ?_
        refine cr_get C hP 76 rfl rfl 1 (by decide) hinX5 k3 (v := .int (vo 1 0)) rfl dX6_count_64 ?_
        exact cr_retR C hS (Option.some.inj hE) dX6_count_67
      · rw [if_neg c4] at hE
        refine lv_lookup (tgt := 68) (off := 43) hx hb dX6_count_25 (by decide) (by have e0 := cr_ne (n := 10) (by decide) c3; have e1 := cr_ne (n := 11) (by decide) c4; simp [Op.lookupswitch.offset, Ne.symm, *]) (by decide) ?_
        refine lv_aload_n hx hb dX6_count_68 rfl (lv_at hl 0 rfl) ?_
        refine cr_get C hP 0 rfl rfl 0 (by decide) hinX6 k4 (v := .ref ((a 1) 0)) rfl dX6_count_69 ?_
        refine lv_iload_n hx hb dX6_count_72 rfl (lv_at hl 1 rfl) ?_
        obtain ⟨q5, hq5, hE⟩ := cr_bind hE
        refine cr_vRq (n := 1) (As := [.int x1]) (rest := []) C hP hS (m_X3_tellCount L D ct (a 1) (a 2) (a 3) vh vl vk x1 q5 hq5) (cwV 1 hts gX6_count_X3_tellCount rfl rfl rfl (by decide +kernel) ⟨Nat.le_of_ble_eq_true rfl, Nat.le_of_ble_eq_true rfl⟩) [1, 2, 3, 4, 5, 6, 7, 8, 9, 10, 11] rfl 1 rfl rfl rfl hl.1 rfl (Nat.le_of_ble_eq_true rfl) dX6_count_73 ⟨Nat.zero_le _, Nat.zero_le _⟩ (fun H locs hP hS => ?_)
        exact cr_retR C hS (Option.some.inj hE) dX6_count_76
  · rw [if_neg c2] at hE
    refine lv_aload_n hx hb dX6_count_11 rfl (lv_at hl 0 rfl) ?_
    refine cr_get C hP 0 rfl rfl 0 (by decide) hinX6 k4 (v := .ref ((a 1) 0)) rfl dX6_count_12 ?_
    refine cr_get C hP 1 rfl rfl 3 (by decide) hinX3 k5 (v := .ref ((a 1) 4)) rfl dX6_count_15 ?_
    refine lv_iload_n hx hb dX6_count_18 rfl (lv_at hl 1 rfl) ?_
    refine lv_bipush (v := 20) hx hb dX6_count_19 (by decide) ?_
    refine lv_isub hx hb dX6_count_21 ?_
    obtain ⟨i6, hE⟩ := cr_ifn hE
    refine cr_ald C hP 3 (f := vh 3) (k := cr_x (x1 - 20)) rfl i6 (cr_xe _) dX6_count_22 ?_
    exact cr_retR C hS (Option.some.inj hE) dX6_count_23
end
section
set_option maxHeartbeats 4000000 in
set_option maxRecDepth 100000 in
theorem m_X3_changeSetting (L : Launch) (D : va_G) (ct : Nat → ClassId) (ah : Nat → Nat) (al : Nat → Nat) (ak : Nat → Nat) (vh : cr_V) (vl : cr_V) (vk : cr_V) (x1 : Int32) (x2 : Int32) (sz : Nat) (out : Int32 × cr_V) (hE : f_X3_changeSetting vh vl vk x1 x2 = some out) : Met L yX3_changeSetting wsX3_changeSetting ({ frames := 1, cells := 0, slots := 0, locals := 22 } : Room) (cr_pS D ct (cr_wH ct ah al ak vh vl vk) sz [.ref (ah 0), .int x1, .int x2]) (cr_QW D (cr_wH ct ah al ak vh vl vk) sz (fun r (u : cr_V) => (r, u) = out) (fun u : cr_V => cr_wH ct ah al ak u vl vk)) 0 0 (va_A (cr_wH ct ah al ak vh vl vk) sz) := by
  have k0 : (Cond.fieldLink RX3 40 "CupReceipts$House" "settings" "[I") ∈ wsX3_changeSetting := List.mem_of_getElem? (i := 5) rfl
  have k1 : (Cond.initialized RX6) ∈ wsX3_changeSetting := List.mem_of_getElem? (i := 7) rfl
  have k2 : (Cond.static yX6_isWithin) ∈ wsX3_changeSetting := List.mem_of_getElem? (i := 6) rfl
  have k3 : (Cond.constant RX3 70 (-2000000001)) ∈ wsX3_changeSetting := List.mem_of_getElem? (i := 1) rfl
  have k4 : (Cond.fieldLink RX3 21 "CupReceipts$House" "contracts" "LCupReceipts$Contracts;") ∈ wsX3_changeSetting := List.mem_of_getElem? (i := 2) rfl
  have k5 : (Cond.fieldLink RX3 146 "CupReceipts$Contracts" "size" "I") ∈ wsX3_changeSetting := List.mem_of_getElem? (i := 3) rfl
  have k6 : (Cond.constant RX3 82 (-2000000002)) ∈ wsX3_changeSetting := List.mem_of_getElem? (i := 4) rfl
  have hinX0 : ∀ w ∈ wsX00, w ∈ wsX3_changeSetting := fun w h => List.mem_cons_of_mem _ (List.mem_append_right _ h)
  have hinX3 : ∀ w ∈ wsX30, w ∈ wsX3_changeSetting := fun w h => List.mem_cons_of_mem _ (List.mem_append_left _ (List.mem_append_right _ h))
  refine cr_metS (Qc := fun A => va_Qi (fun r (u : cr_V) => (r, u) = out) (fun u t => cr_at D A ((fun u : cr_V => cr_wH ct ah al ak u vl vk) u) t) A) (by decide) rfl rfl (Nat.le_of_ble_eq_true rfl) ?_
  intro p e s m args below meth c ls A hNF hST C hW hl
  obtain ⟨t1, t2, hZ1, hT1, hZ2, hT2⟩ := id hST
  obtain ⟨hx, hb, hml, hown, hts, hr, hlocks, hK, hN⟩ := id C
  have hl : lv_has ls 4 [(0, .ref (ah 0)), (1, .int x1), (2, .int x2)] := hl
  have n46 :  ∀ (vh : cr_V) (vl : cr_V) (vk : cr_V) (x1 : Int32) (x2 : Int32) (hE : f_X3_changeSetting_46  vh vl vk x1 x2 = some out) (H : Heap) (locs : List Loc) (ls : Array Slot) (hW : cr_wd D A s (cr_wH ct ah al ak vh vl vk) H locs) (hl : lv_has ls 4 [(0, .ref (ah 0)), (1, .int x1), (2, .int x2)]), W p L e ({ frames := 1, cells := 0, slots := 0, locals := 22 } : Room) s m args below meth c H locs 0 0 (MQ below (va_Qi (fun r (u : cr_V) => (r, u) = out) (fun u t => cr_at D A ((fun u : cr_V => cr_wH ct ah al ak u vl vk) u) t) A) args s 0 0 A) (F0 m 46 ls []) := by
    intro  vh vl vk x1 x2 hE H locs ls hW hl
    replace hE : (if cr_in x1 5 = true then some ((vh 3 (cr_x x1)), (cr_a vh 3 (cr_x x1) x2)) else none) = some out := hE
    refine lv_aload_n hx hb dX3_changeSetting_46 rfl (lv_at hl 0 rfl) ?_
    refine cr_get C hW.1 0 rfl rfl 3 (by decide) hinX3 k0 (v := .ref (ah 4)) rfl dX3_changeSetting_47 ?_
    refine lv_iload_n hx hb dX3_changeSetting_50 rfl (lv_at hl 1 rfl) ?_
    obtain ⟨i1, hE⟩ := cr_ifn hE
    refine cr_ald C hW.1 2 (f := vh 3) (k := cr_x x1) rfl i1 (cr_xe _) dX3_changeSetting_51 ?_
    refine lv_istore_n (lv' := [(3, .int (vh 3 (cr_x x1))), (0, .ref (ah 0)), (1, .int x1), (2, .int x2)]) hx hb dX3_changeSetting_52 rfl hl (by decide) rfl (fun ls hl => ?_)
    refine lv_aload_n hx hb dX3_changeSetting_53 rfl (lv_at hl 1 rfl) ?_
    refine cr_get C hW.1 0 rfl rfl 3 (by decide) hinX3 k0 (v := .ref (ah 4)) rfl dX3_changeSetting_54 ?_
    refine lv_iload_n hx hb dX3_changeSetting_57 rfl (lv_at hl 2 rfl) ?_
    refine lv_iload_n hx hb dX3_changeSetting_58 rfl (lv_at hl 3 rfl) ?_
    refine cr_ast C hW 2 rfl (k := (cr_x x1)) i1 (cr_xe _) (w' := cr_wH ct ah al ak (cr_a vh 3 (cr_x x1) x2) vl vk) rfl dX3_changeSetting_59 (fun H locs hW => ?_)
    refine lv_iload_n hx hb dX3_changeSetting_60 rfl (lv_at hl 0 rfl) ?_
    exact cr_retW C (w := (fun u : cr_V => cr_wH ct ah al ak u vl vk)) (cr_a vh 3 (cr_x x1) x2) hW (Option.some.inj hE) dX3_changeSetting_61
  replace hE : ((f_X6_isWithin x1 0 4).bind fun q2 => if q2 = 0 then (some ((-2000000001), vh)) else (if cr_in x1 5 = true then (f_X6_isWithin x2 (cr_least (cr_x x1)) (cr_most (cr_x x1))).bind fun q5 => if q5 = 0 then (some ((-2000000001), vh)) else (if x1 = 0 then (if (vk 2 0) ≤ 0 then (f_X3_changeSetting_46 vh vl vk x1 x2) else (some ((-2000000002), vh))) else (f_X3_changeSetting_46 vh vl vk x1 x2)) else none)) = some out := hE
  refine lv_iload_n hx hb dX3_changeSetting_0 rfl (lv_at hl 1 rfl) ?_
  refine lv_iconst (v := 0) hx hb dX3_changeSetting_1 (by decide) ?_
  refine lv_iconst (v := 4) hx hb dX3_changeSetting_2 (by decide) ?_
  obtain ⟨q2, hq2, hE⟩ := cr_bind hE
  refine cr_nRwq (n := 3) (As := [.int x1, .int 0, .int 4]) (rest := []) C hW (m_X6_isWithin L D ct x1 0 4 q2 hq2) ⟨va_cnB 3 hts gX3_changeSetting_X6_isWithin_n66 rfl rfl rfl hN.2.2.1 (hts _ k1) (by decide +kernel) ⟨Nat.le_of_ble_eq_true rfl, Nat.le_of_ble_eq_true rfl⟩, hts _ k2, trivial⟩ rfl hl.1 rfl (Nat.le_of_ble_eq_true rfl) dX3_changeSetting_3 ⟨Nat.zero_le _, Nat.zero_le _⟩ (fun H locs hW => ?_)
  refine lv_if_eq (tgt := 26) hx hb dX3_changeSetting_6 (by decide) (fun c3 => ?_) (fun c3 => ?_)
  · rw [if_pos c3] at hE
    refine cr_ldc C k3 dX3_changeSetting_26 ?_
    exact cr_retW C (w := (fun u : cr_V => cr_wH ct ah al ak u vl vk)) vh hW (Option.some.inj hE) dX3_changeSetting_28
  · rw [if_neg c3] at hE
    refine lv_iload_n hx hb dX3_changeSetting_9 rfl (lv_at hl 2 rfl) ?_
    refine va_getsN hx hb hZ1 hW.2.2.1 hown (va_Nw.use rfl hNF.1) (fun _ h9 => h9) dX3_changeSetting_10 ?_
    refine lv_iload_n hx hb dX3_changeSetting_13 rfl (lv_at hl 1 rfl) ?_
    obtain ⟨i4, hE⟩ := cr_ifn hE
    refine va_ti hx hb hT1 hW.2.2.1 (cr_in_of i4) (v := .int (cr_least (cr_x x1))) (congrArg (fun k => Value.int (cr_least k)) (cr_xe _)) dX3_changeSetting_14 ?_
    refine va_getsN hx hb hZ2 hW.2.2.1 hown (va_Nw.use rfl hNF.2) (fun _ h9 => h9) dX3_changeSetting_15 ?_
    refine lv_iload_n hx hb dX3_changeSetting_18 rfl (lv_at hl 1 rfl) ?_
    refine va_ti hx hb hT2 hW.2.2.1 (cr_in_of i4) (v := .int (cr_most (cr_x x1))) (congrArg (fun k => Value.int (cr_most k)) (cr_xe _)) dX3_changeSetting_19 ?_
    obtain ⟨q5, hq5, hE⟩ := cr_bind hE
    refine cr_nRwq (n := 3) (As := [.int x2, .int (cr_least (cr_x x1)), .int (cr_most (cr_x x1))]) (rest := []) C hW (m_X6_isWithin L D ct x2 (cr_least (cr_x x1)) (cr_most (cr_x x1)) q5 hq5) ⟨va_cnB 3 hts gX3_changeSetting_X6_isWithin_n66 rfl rfl rfl hN.2.2.1 (hts _ k1) (by decide +kernel) ⟨Nat.le_of_ble_eq_true rfl, Nat.le_of_ble_eq_true rfl⟩, hts _ k2, trivial⟩ rfl hl.1 rfl (Nat.le_of_ble_eq_true rfl) dX3_changeSetting_20 ⟨Nat.zero_le _, Nat.zero_le _⟩ (fun H locs hW => ?_)
    refine lv_if_ne (tgt := 29) hx hb dX3_changeSetting_23 (by decide) (fun c6 => ?_) (fun c6 => ?_)
    · rw [if_neg c6] at hE
      refine lv_iload_n hx hb dX3_changeSetting_29 rfl (lv_at hl 1 rfl) ?_
      refine lv_if_ne (tgt := 46) hx hb dX3_changeSetting_30 (by decide) (fun c7 => ?_) (fun c7 => ?_)
      · rw [if_neg c7] at hE
        exact n46 vh vl vk x1 x2 hE _ _ _ hW (lv_sub hl [0, 1, 2] rfl)
      · rw [if_pos c7] at hE
        refine lv_aload_n hx hb dX3_changeSetting_33 rfl (lv_at hl 0 rfl) ?_
        refine cr_get C hW.1 0 rfl rfl 1 (by decide) hinX3 k4 (v := .ref (ak 0)) rfl dX3_changeSetting_34 ?_
        refine cr_get C hW.1 8 rfl rfl 2 (by decide) hinX0 k5 (v := .int (vk 2 0)) rfl dX3_changeSetting_37 ?_
        refine lv_if_le (tgt := 46) hx hb dX3_changeSetting_40 (by decide) (fun c8 => ?_) (fun c8 => ?_)
        · rw [if_pos c8] at hE
          exact n46 vh vl vk x1 x2 hE _ _ _ hW (lv_sub hl [0, 1, 2] rfl)
        · rw [if_neg c8] at hE
          refine cr_ldc C k6 dX3_changeSetting_43 ?_
          exact cr_retW C (w := (fun u : cr_V => cr_wH ct ah al ak u vl vk)) vh hW (Option.some.inj hE) dX3_changeSetting_45
    · rw [if_pos c6] at hE
      refine cr_ldc C k3 dX3_changeSetting_26 ?_
      exact cr_retW C (w := (fun u : cr_V => cr_wH ct ah al ak u vl vk)) vh hW (Option.some.inj hE) dX3_changeSetting_28

set_option maxHeartbeats 4000000 in
set_option maxRecDepth 100000 in
theorem m_X6_set (L : Launch) (D : va_G) (ct : Nat → ClassId) (a : Nat → Nat → Nat) (r : Nat → Nat → Nat → Nat) (vh : cr_V) (vl : cr_V) (vk : cr_V) (vt : cr_V) (vtl : cr_V) (vtk : cr_V) (vs : cr_V) (vx : Nat → Nat → cr_V) (vd : cr_V) (vo : cr_V) (x1 : Int32) (x2 : Int32) (sz : Nat) (out : Int32 × cr_V × cr_V × cr_V × cr_V × cr_V × cr_V × cr_V × (Nat → Nat → cr_V)) (hE : f_X6_set vh vl vk vt vtl vtk vs vx vd vo x1 x2 = some out) : Met L yX6_set wsX6_set ({ frames := 4, cells := 0, slots := 0, locals := 86 } : Room) (cr_pS D ct (cr_wX ct a r vh vl vk vt vtl vtk vs vx vd vo) sz [.ref (a 0 0), .int x1, .int x2]) (cr_QW D (cr_wX ct a r vh vl vk vt vtl vtk vs vx vd vo) sz (fun r (u : (Nat → Nat → Nat → Nat) × cr_V × cr_V × cr_V × cr_V × cr_V × cr_V × cr_V × (Nat → Nat → cr_V)) => (r, u.2) = out) (fun u : (Nat → Nat → Nat → Nat) × cr_V × cr_V × cr_V × cr_V × cr_V × cr_V × cr_V × (Nat → Nat → cr_V) => cr_wX ct a u.1 u.2.1 u.2.2.1 u.2.2.2.1 u.2.2.2.2.1 u.2.2.2.2.2.1 u.2.2.2.2.2.2.1 u.2.2.2.2.2.2.2.1 u.2.2.2.2.2.2.2.2 vd vo)) 0 0 (va_A (cr_wX ct a r vh vl vk vt vtl vtk vs vx vd vo) sz) := by
  have k0 : (Cond.fieldLink RX6 16 "CupReceipts" "trial" "LCupReceipts$House;") ∈ wsX6_set := List.mem_of_getElem? (i := 1) rfl
  have k1 : (Cond.fieldLink RX6 10 "CupReceipts" "house" "LCupReceipts$House;") ∈ wsX6_set := List.mem_of_getElem? (i := 2) rfl
  have hinX6 : ∀ w ∈ wsX60, w ∈ wsX6_set := fun w h => List.mem_cons_of_mem _ (List.mem_append_left _ (List.mem_append_left _ (List.mem_append_left _ (List.mem_append_left _ (List.mem_append_right _ h)))))
  refine cr_metS (Qc := fun A => va_Qi (fun r (u : (Nat → Nat → Nat → Nat) × cr_V × cr_V × cr_V × cr_V × cr_V × cr_V × cr_V × (Nat → Nat → cr_V)) => (r, u.2) = out) (fun u t => cr_at D A ((fun u : (Nat → Nat → Nat → Nat) × cr_V × cr_V × cr_V × cr_V × cr_V × cr_V × cr_V × (Nat → Nat → cr_V) => cr_wX ct a u.1 u.2.1 u.2.2.1 u.2.2.2.1 u.2.2.2.2.1 u.2.2.2.2.2.1 u.2.2.2.2.2.2.1 u.2.2.2.2.2.2.2.1 u.2.2.2.2.2.2.2.2 vd vo) u) t) A) (by decide) rfl rfl (Nat.le_of_ble_eq_true rfl) ?_
  intro p e s m args below meth c ls A hNF hST C hW hl
  obtain ⟨t1, t2, hZ1, hT1, hZ2, hT2⟩ := id hST
  obtain ⟨hx, hb, hml, hown, hts, hr, hlocks, hK, hN⟩ := id C
  have hl : lv_has ls 3 [(0, .ref (a 0 0)), (1, .int x1), (2, .int x2)] := hl
  replace hE : ((f_X3_copyFrom vt vtl vtk vh vl vk).bind fun q1 => (f_X3_changeSetting q1.1 q1.2.1 q1.2.2 x1 x2).bind fun q2 => (f_X6_accept vh vl vk q2.2 q1.2.1 q1.2.2 vs vx vd vo q2.1).bind fun q3 => some (q3.1, q3.2.1, q3.2.2.1, q3.2.2.2.1, q2.2, q1.2.1, q1.2.2, q3.2.2.2.2.1, q3.2.2.2.2.2)) = some out := hE
  refine lv_aload_n hx hb dX6_set_0 rfl (lv_at hl 0 rfl) ?_
  refine cr_get C hW.1 0 rfl rfl 1 (by decide) hinX6 k0 (v := .ref ((a 4) 0)) rfl dX6_set_1 ?_
  refine lv_aload_n hx hb dX6_set_4 rfl (lv_at hl 0 rfl) ?_
  refine cr_get C hW.1 0 rfl rfl 0 (by decide) hinX6 k1 (v := .ref ((a 1) 0)) rfl dX6_set_5 ?_
  obtain ⟨q1, hq1, hE⟩ := cr_bind hE
  refine cr_vVB (nb := 6) (n := 1) (As := [.ref ((a 1) 0)]) (rest := []) C hW (m_X3_copyFrom L D ct (a 4) (a 5) (a 6) (a 1) (a 2) (a 3) vt vtl vtk vh vl vk _ q1 hq1) (cwV 1 hts gX6_set_X3_copyFrom rfl rfl rfl (by decide +kernel) ⟨Nat.le_of_ble_eq_true rfl, Nat.le_of_ble_eq_true rfl⟩) [2, 1] [0, 3, 4, 5] [cr_wX0 ct a, cr_wH ct (a 1) (a 2) (a 3) vh vl vk, cr_wH ct (a 4) (a 5) (a 6) vt vtl vtk, cr_wR ct (a 7) vs r vx, cr_wD ct (a 8) vd, cr_wO ct (a 9) vo] (cr_wX ct a r vh vl vk q1.1 q1.2.1 q1.2.2 vs vx vd vo) [cr_wX0 ct a, cr_wH ct (a 1) (a 2) (a 3) vh vl vk, cr_wH ct (a 4) (a 5) (a 6) q1.1 q1.2.1 q1.2.2, cr_wR ct (a 7) vs r vx, cr_wD ct (a 8) vd, cr_wO ct (a 9) vo] ⟨rfl, rfl⟩ ⟨rfl, rfl⟩ rfl rfl rfl (by decide) 12 rfl rfl rfl hl.1 rfl (Nat.le_of_ble_eq_true rfl) dX6_set_8 ⟨Nat.zero_le _, Nat.zero_le _⟩ (fun H locs hW => ?_)
  refine lv_aload_n hx hb dX6_set_11 rfl (lv_at hl 0 rfl) ?_
  refine lv_aload_n hx hb dX6_set_12 rfl (lv_at hl 0 rfl) ?_
  refine cr_get C hW.1 0 rfl rfl 1 (by decide) hinX6 k0 (v := .ref ((a 4) 0)) rfl dX6_set_13 ?_
  refine lv_iload_n hx hb dX6_set_16 rfl (lv_at hl 1 rfl) ?_
  refine lv_iload_n hx hb dX6_set_17 rfl (lv_at hl 2 rfl) ?_
  obtain ⟨q2, hq2, hE⟩ := cr_bind hE
  refine cr_vSB (nb := 6) (n := 2) (As := [.int x1, .int x2]) (rest := [.ref (a 0 0)]) hNF hST C hW (m_X3_changeSetting L D ct (a 4) (a 5) (a 6) q1.1 q1.2.1 q1.2.2 x1 x2 _ q2 hq2) (cwV 2 hts gX6_set_X3_changeSetting rfl rfl rfl (by decide +kernel) ⟨Nat.le_of_ble_eq_true rfl, Nat.le_of_ble_eq_true rfl⟩) [2] [0, 1, 3, 4, 5] [cr_wX0 ct a, cr_wH ct (a 1) (a 2) (a 3) vh vl vk, cr_wH ct (a 4) (a 5) (a 6) q1.1 q1.2.1 q1.2.2, cr_wR ct (a 7) vs r vx, cr_wD ct (a 8) vd, cr_wO ct (a 9) vo] (cr_wX ct a r vh vl vk q2.2 q1.2.1 q1.2.2 vs vx vd vo) [cr_wX0 ct a, cr_wH ct (a 1) (a 2) (a 3) vh vl vk, cr_wH ct (a 4) (a 5) (a 6) q2.2 q1.2.1 q1.2.2, cr_wR ct (a 7) vs r vx, cr_wD ct (a 8) vd, cr_wO ct (a 9) vo] ⟨rfl, rfl⟩ ⟨rfl, rfl⟩ rfl rfl rfl (by decide) 12 rfl rfl rfl hl.1 rfl (Nat.le_of_ble_eq_true rfl) dX6_set_18 ⟨Nat.zero_le _, Nat.zero_le _⟩ (fun H locs hW => ?_)
  obtain ⟨q3, hq3, hE⟩ := cr_bind hE
  refine cr_vWBr (nb := 6) (n := 1) (As := [.int q2.1]) (rest := []) C hW (m_X6_accept L D ct a r vh vl vk q2.2 q1.2.1 q1.2.2 vs vx vd vo q2.1 _ q3 hq3) (cwV 1 hts gX6_set_X6_accept rfl rfl rfl (by decide +kernel) ⟨Nat.le_of_ble_eq_true rfl, Nat.le_of_ble_eq_true rfl⟩) [0, 1, 2, 3, 4, 5] [] [cr_wX0 ct a, cr_wH ct (a 1) (a 2) (a 3) vh vl vk, cr_wH ct (a 4) (a 5) (a 6) q2.2 q1.2.1 q1.2.2, cr_wR ct (a 7) vs r vx, cr_wD ct (a 8) vd, cr_wO ct (a 9) vo] (fun r => cr_wX ct a r q3.2.1 q3.2.2.1 q3.2.2.2.1 q2.2 q1.2.1 q1.2.2 q3.2.2.2.2.1 q3.2.2.2.2.2 vd vo) (fun r => [cr_wX0 ct a, cr_wH ct (a 1) (a 2) (a 3) q3.2.1 q3.2.2.1 q3.2.2.2.1, cr_wH ct (a 4) (a 5) (a 6) q2.2 q1.2.1 q1.2.2, cr_wR ct (a 7) q3.2.2.2.2.1 r q3.2.2.2.2.2, cr_wD ct (a 8) vd, cr_wO ct (a 9) vo]) ⟨rfl, rfl⟩ (fun _ => ⟨rfl, rfl⟩) rfl (fun _ => rfl) (fun _ => rfl) (by decide) 0 rfl rfl rfl hl.1 rfl (Nat.le_of_ble_eq_true rfl) dX6_set_21 ⟨Nat.zero_le _, Nat.zero_le _⟩ (fun r H locs hW => ?_)
  exact cr_retW C (w := (fun u : (Nat → Nat → Nat → Nat) × cr_V × cr_V × cr_V × cr_V × cr_V × cr_V × cr_V × (Nat → Nat → cr_V) => cr_wX ct a u.1 u.2.1 u.2.2.1 u.2.2.2.1 u.2.2.2.2.1 u.2.2.2.2.2.1 u.2.2.2.2.2.2.1 u.2.2.2.2.2.2.2.1 u.2.2.2.2.2.2.2.2 vd vo)) (r, q3.2.1, q3.2.2.1, q3.2.2.2.1, q2.2, q1.2.1, q1.2.2, q3.2.2.2.2.1, q3.2.2.2.2.2) hW (Option.some.inj hE) dX6_set_24
end
