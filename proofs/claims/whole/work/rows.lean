section
-- ===== PART A: goes FIRST, ahead of the names: the tables' words, and 'selects' of the private methods out of them =====
/-- a private method of a class that the tables say can be made, by its rows of tables_1 -/
def lw_okq (q : MethodName × Nat) : Prop := (q.1.cls ≠ "java/lang/invoke/MethodHandle" ∧ q.1.cls ≠ "java/lang/invoke/VarHandle") ∧ Cond.instantiable q.1.cls q.2 ∈ tables_1 ∧ Cond.privateMethod q.1 ∈ tables_1 ∧ Cond.instanceMethod q.1 ∈ tables_1
theorem lw_p0 : lw_okq (⟨"CupReceipts", "accept", "(I)I"⟩, 5) := ⟨⟨by decide +kernel, by decide +kernel⟩, List.mem_of_getElem? (i := 12) (by decide +kernel), List.mem_of_getElem? (i := 290) (by decide +kernel), List.mem_of_getElem? (i := 291) (by decide +kernel)⟩
theorem lw_p1 : lw_okq (⟨"CupReceipts$History", "dropOldest", "()V"⟩, 2) := ⟨⟨by decide +kernel, by decide +kernel⟩, List.mem_of_getElem? (i := 130) (by decide +kernel), List.mem_of_getElem? (i := 304) (by decide +kernel), List.mem_of_getElem? (i := 305) (by decide +kernel)⟩
theorem lw_p2 : lw_okq (⟨"CupReceipts$Delivery", "rate", "(LCupReceipts$House;II)V"⟩, 12) := ⟨⟨by decide +kernel, by decide +kernel⟩, List.mem_of_getElem? (i := 147) (by decide +kernel), List.mem_of_getElem? (i := 405) (by decide +kernel), List.mem_of_getElem? (i := 406) (by decide +kernel)⟩
theorem lw_p3 : lw_okq (⟨"CupReceipts$Delivery", "rowOfGreatestGain", "(I)I"⟩, 12) := ⟨⟨by decide +kernel, by decide +kernel⟩, List.mem_of_getElem? (i := 147) (by decide +kernel), List.mem_of_getElem? (i := 421) (by decide +kernel), List.mem_of_getElem? (i := 422) (by decide +kernel)⟩
theorem lw_p4 : lw_okq (⟨"CupReceipts$Delivery", "take", "(II)V"⟩, 12) := ⟨⟨by decide +kernel, by decide +kernel⟩, List.mem_of_getElem? (i := 147) (by decide +kernel), List.mem_of_getElem? (i := 425) (by decide +kernel), List.mem_of_getElem? (i := 426) (by decide +kernel)⟩
theorem lw_p5 : lw_okq (⟨"CupReceipts$Orders", "readOrder", "()Z"⟩, 8) := ⟨⟨by decide +kernel, by decide +kernel⟩, List.mem_of_getElem? (i := 204) (by decide +kernel), List.mem_of_getElem? (i := 559) (by decide +kernel), List.mem_of_getElem? (i := 560) (by decide +kernel)⟩
theorem lw_p6 : lw_okq (⟨"CupReceipts$Orders", "signAt", "(I)C"⟩, 8) := ⟨⟨by decide +kernel, by decide +kernel⟩, List.mem_of_getElem? (i := 204) (by decide +kernel), List.mem_of_getElem? (i := 563) (by decide +kernel), List.mem_of_getElem? (i := 564) (by decide +kernel)⟩
theorem lw_p7 : lw_okq (⟨"CupReceipts$Orders", "readNumber", "(I)Z"⟩, 8) := ⟨⟨by decide +kernel, by decide +kernel⟩, List.mem_of_getElem? (i := 204) (by decide +kernel), List.mem_of_getElem? (i := 570) (by decide +kernel), List.mem_of_getElem? (i := 571) (by decide +kernel)⟩
theorem lw_p8 : lw_okq (⟨"CupReceipts$Orders", "perform", "(LCupReceipts$House;LCupReceipts$Delivery;)I"⟩, 8) := ⟨⟨by decide +kernel, by decide +kernel⟩, List.mem_of_getElem? (i := 204) (by decide +kernel), List.mem_of_getElem? (i := 577) (by decide +kernel), List.mem_of_getElem? (i := 578) (by decide +kernel)⟩
theorem lw_p9 : lw_okq (⟨"CupReceipts$Orders", "settle", "(I)V"⟩, 8) := ⟨⟨by decide +kernel, by decide +kernel⟩, List.mem_of_getElem? (i := 204) (by decide +kernel), List.mem_of_getElem? (i := 588) (by decide +kernel), List.mem_of_getElem? (i := 589) (by decide +kernel)⟩
theorem lw_p10 : lw_okq (⟨"CupReceiptsModel", "changes", "()V"⟩, 18) := ⟨⟨by decide +kernel, by decide +kernel⟩, List.mem_of_getElem? (i := 597) (by decide +kernel), List.mem_of_getElem? (i := 667) (by decide +kernel), List.mem_of_getElem? (i := 668) (by decide +kernel)⟩
theorem lw_p11 : lw_okq (⟨"CupReceiptsModel", "makes", "(III)I"⟩, 18) := ⟨⟨by decide +kernel, by decide +kernel⟩, List.mem_of_getElem? (i := 597) (by decide +kernel), List.mem_of_getElem? (i := 671) (by decide +kernel), List.mem_of_getElem? (i := 672) (by decide +kernel)⟩
theorem lw_p12 : lw_okq (⟨"CupReceiptsModel", "isLot", "(I)Z"⟩, 18) := ⟨⟨by decide +kernel, by decide +kernel⟩, List.mem_of_getElem? (i := 597) (by decide +kernel), List.mem_of_getElem? (i := 679) (by decide +kernel), List.mem_of_getElem? (i := 680) (by decide +kernel)⟩
theorem lw_p13 : lw_okq (⟨"CupReceiptsModel", "placeOf", "(I)I"⟩, 18) := ⟨⟨by decide +kernel, by decide +kernel⟩, List.mem_of_getElem? (i := 597) (by decide +kernel), List.mem_of_getElem? (i := 683) (by decide +kernel), List.mem_of_getElem? (i := 684) (by decide +kernel)⟩
theorem lw_p14 : lw_okq (⟨"CupReceiptsModel", "of", "(II)I"⟩, 18) := ⟨⟨by decide +kernel, by decide +kernel⟩, List.mem_of_getElem? (i := 597) (by decide +kernel), List.mem_of_getElem? (i := 687) (by decide +kernel), List.mem_of_getElem? (i := 688) (by decide +kernel)⟩
theorem lw_p15 : lw_okq (⟨"CupReceiptsModel", "takes", "(II)V"⟩, 18) := ⟨⟨by decide +kernel, by decide +kernel⟩, List.mem_of_getElem? (i := 597) (by decide +kernel), List.mem_of_getElem? (i := 693) (by decide +kernel), List.mem_of_getElem? (i := 694) (by decide +kernel)⟩
def lw_privs_1 : List (MethodName × Nat) := [(⟨"CupReceipts", "accept", "(I)I"⟩, 5), (⟨"CupReceipts$History", "dropOldest", "()V"⟩, 2), (⟨"CupReceipts$Delivery", "rate", "(LCupReceipts$House;II)V"⟩, 12), (⟨"CupReceipts$Delivery", "rowOfGreatestGain", "(I)I"⟩, 12), (⟨"CupReceipts$Delivery", "take", "(II)V"⟩, 12), (⟨"CupReceipts$Orders", "readOrder", "()Z"⟩, 8), (⟨"CupReceipts$Orders", "signAt", "(I)C"⟩, 8), (⟨"CupReceipts$Orders", "readNumber", "(I)Z"⟩, 8), (⟨"CupReceipts$Orders", "perform", "(LCupReceipts$House;LCupReceipts$Delivery;)I"⟩, 8), (⟨"CupReceipts$Orders", "settle", "(I)V"⟩, 8), (⟨"CupReceiptsModel", "changes", "()V"⟩, 18), (⟨"CupReceiptsModel", "makes", "(III)I"⟩, 18), (⟨"CupReceiptsModel", "isLot", "(I)Z"⟩, 18), (⟨"CupReceiptsModel", "placeOf", "(I)I"⟩, 18), (⟨"CupReceiptsModel", "of", "(II)I"⟩, 18), (⟨"CupReceiptsModel", "takes", "(II)V"⟩, 18)]
theorem lw_r1 : ∀ q ∈ lw_privs_1, lw_okq q := List.forall_mem_cons.mpr ⟨lw_p0, List.forall_mem_cons.mpr ⟨lw_p1, List.forall_mem_cons.mpr ⟨lw_p2, List.forall_mem_cons.mpr ⟨lw_p3, List.forall_mem_cons.mpr ⟨lw_p4, List.forall_mem_cons.mpr ⟨lw_p5, List.forall_mem_cons.mpr ⟨lw_p6, List.forall_mem_cons.mpr ⟨lw_p7, List.forall_mem_cons.mpr ⟨lw_p8, List.forall_mem_cons.mpr ⟨lw_p9, List.forall_mem_cons.mpr ⟨lw_p10, List.forall_mem_cons.mpr ⟨lw_p11, List.forall_mem_cons.mpr ⟨lw_p12, List.forall_mem_cons.mpr ⟨lw_p13, List.forall_mem_cons.mpr ⟨lw_p14, List.forall_mem_cons.mpr ⟨lw_p15, fun _ h => absurd h List.not_mem_nil⟩⟩⟩⟩⟩⟩⟩⟩⟩⟩⟩⟩⟩⟩⟩⟩
theorem lw_p16 : lw_okq (⟨"CupReceiptsModel", "cupOf", "(I)I"⟩, 18) := ⟨⟨by decide +kernel, by decide +kernel⟩, List.mem_of_getElem? (i := 597) (by decide +kernel), List.mem_of_getElem? (i := 701) (by decide +kernel), List.mem_of_getElem? (i := 702) (by decide +kernel)⟩
theorem lw_p17 : lw_okq (⟨"CupReceiptsModel", "cupAt", "(II)I"⟩, 18) := ⟨⟨by decide +kernel, by decide +kernel⟩, List.mem_of_getElem? (i := 597) (by decide +kernel), List.mem_of_getElem? (i := 705) (by decide +kernel), List.mem_of_getElem? (i := 706) (by decide +kernel)⟩
theorem lw_p18 : lw_okq (⟨"CupReceiptsModel", "isDelivery", "(I)Z"⟩, 18) := ⟨⟨by decide +kernel, by decide +kernel⟩, List.mem_of_getElem? (i := 597) (by decide +kernel), List.mem_of_getElem? (i := 724) (by decide +kernel), List.mem_of_getElem? (i := 725) (by decide +kernel)⟩
theorem lw_p19 : lw_okq (⟨"CupReceiptsModel", "isContract", "(I)Z"⟩, 18) := ⟨⟨by decide +kernel, by decide +kernel⟩, List.mem_of_getElem? (i := 597) (by decide +kernel), List.mem_of_getElem? (i := 732) (by decide +kernel), List.mem_of_getElem? (i := 733) (by decide +kernel)⟩
theorem lw_p20 : lw_okq (⟨"CupReceiptsModel", "priceOf", "(I)I"⟩, 18) := ⟨⟨by decide +kernel, by decide +kernel⟩, List.mem_of_getElem? (i := 597) (by decide +kernel), List.mem_of_getElem? (i := 736) (by decide +kernel), List.mem_of_getElem? (i := 737) (by decide +kernel)⟩
theorem lw_p21 : lw_okq (⟨"CupReceiptsModel", "closes", "(I)V"⟩, 18) := ⟨⟨by decide +kernel, by decide +kernel⟩, List.mem_of_getElem? (i := 597) (by decide +kernel), List.mem_of_getElem? (i := 740) (by decide +kernel), List.mem_of_getElem? (i := 741) (by decide +kernel)⟩
theorem lw_p22 : lw_okq (⟨"CupReceiptsModel", "gives", "(II)V"⟩, 18) := ⟨⟨by decide +kernel, by decide +kernel⟩, List.mem_of_getElem? (i := 597) (by decide +kernel), List.mem_of_getElem? (i := 748) (by decide +kernel), List.mem_of_getElem? (i := 749) (by decide +kernel)⟩
theorem lw_p23 : lw_okq (⟨"CupReceiptsModel", "gainAt", "(III)I"⟩, 18) := ⟨⟨by decide +kernel, by decide +kernel⟩, List.mem_of_getElem? (i := 597) (by decide +kernel), List.mem_of_getElem? (i := 752) (by decide +kernel), List.mem_of_getElem? (i := 753) (by decide +kernel)⟩
theorem lw_p24 : lw_okq (⟨"CupReceiptsModel", "paidAt", "(III)I"⟩, 18) := ⟨⟨by decide +kernel, by decide +kernel⟩, List.mem_of_getElem? (i := 597) (by decide +kernel), List.mem_of_getElem? (i := 756) (by decide +kernel), List.mem_of_getElem? (i := 757) (by decide +kernel)⟩
theorem lw_p25 : lw_okq (⟨"CupReceiptsModel", "lateAt", "(II)I"⟩, 18) := ⟨⟨by decide +kernel, by decide +kernel⟩, List.mem_of_getElem? (i := 597) (by decide +kernel), List.mem_of_getElem? (i := 760) (by decide +kernel), List.mem_of_getElem? (i := 761) (by decide +kernel)⟩
theorem lw_p26 : lw_okq (⟨"CupReceiptsModel", "monthOf", "(I)I"⟩, 18) := ⟨⟨by decide +kernel, by decide +kernel⟩, List.mem_of_getElem? (i := 597) (by decide +kernel), List.mem_of_getElem? (i := 767) (by decide +kernel), List.mem_of_getElem? (i := 768) (by decide +kernel)⟩
theorem lw_p27 : lw_okq (⟨"CupReceiptsModel", "paidAll", "(IIZ)I"⟩, 18) := ⟨⟨by decide +kernel, by decide +kernel⟩, List.mem_of_getElem? (i := 597) (by decide +kernel), List.mem_of_getElem? (i := 771) (by decide +kernel), List.mem_of_getElem? (i := 772) (by decide +kernel)⟩
theorem lw_p28 : lw_okq (⟨"CupReceiptsModel", "fails", "()I"⟩, 18) := ⟨⟨by decide +kernel, by decide +kernel⟩, List.mem_of_getElem? (i := 597) (by decide +kernel), List.mem_of_getElem? (i := 779) (by decide +kernel), List.mem_of_getElem? (i := 780) (by decide +kernel)⟩
theorem lw_p29 : lw_okq (⟨"CupReceiptsModel", "bags", "(I)I"⟩, 18) := ⟨⟨by decide +kernel, by decide +kernel⟩, List.mem_of_getElem? (i := 597) (by decide +kernel), List.mem_of_getElem? (i := 834) (by decide +kernel), List.mem_of_getElem? (i := 835) (by decide +kernel)⟩
theorem lw_p30 : lw_okq (⟨"CupReceiptsModel", "plays", "()Z"⟩, 18) := ⟨⟨by decide +kernel, by decide +kernel⟩, List.mem_of_getElem? (i := 597) (by decide +kernel), List.mem_of_getElem? (i := 857) (by decide +kernel), List.mem_of_getElem? (i := 858) (by decide +kernel)⟩
theorem lw_p31 : lw_okq (⟨"CupReceiptsModel", "reads", "()Z"⟩, 18) := ⟨⟨by decide +kernel, by decide +kernel⟩, List.mem_of_getElem? (i := 597) (by decide +kernel), List.mem_of_getElem? (i := 861) (by decide +kernel), List.mem_of_getElem? (i := 862) (by decide +kernel)⟩
def lw_privs_2 : List (MethodName × Nat) := [(⟨"CupReceiptsModel", "cupOf", "(I)I"⟩, 18), (⟨"CupReceiptsModel", "cupAt", "(II)I"⟩, 18), (⟨"CupReceiptsModel", "isDelivery", "(I)Z"⟩, 18), (⟨"CupReceiptsModel", "isContract", "(I)Z"⟩, 18), (⟨"CupReceiptsModel", "priceOf", "(I)I"⟩, 18), (⟨"CupReceiptsModel", "closes", "(I)V"⟩, 18), (⟨"CupReceiptsModel", "gives", "(II)V"⟩, 18), (⟨"CupReceiptsModel", "gainAt", "(III)I"⟩, 18), (⟨"CupReceiptsModel", "paidAt", "(III)I"⟩, 18), (⟨"CupReceiptsModel", "lateAt", "(II)I"⟩, 18), (⟨"CupReceiptsModel", "monthOf", "(I)I"⟩, 18), (⟨"CupReceiptsModel", "paidAll", "(IIZ)I"⟩, 18), (⟨"CupReceiptsModel", "fails", "()I"⟩, 18), (⟨"CupReceiptsModel", "bags", "(I)I"⟩, 18), (⟨"CupReceiptsModel", "plays", "()Z"⟩, 18), (⟨"CupReceiptsModel", "reads", "()Z"⟩, 18)]
theorem lw_r2 : ∀ q ∈ lw_privs_2, lw_okq q := List.forall_mem_cons.mpr ⟨lw_p16, List.forall_mem_cons.mpr ⟨lw_p17, List.forall_mem_cons.mpr ⟨lw_p18, List.forall_mem_cons.mpr ⟨lw_p19, List.forall_mem_cons.mpr ⟨lw_p20, List.forall_mem_cons.mpr ⟨lw_p21, List.forall_mem_cons.mpr ⟨lw_p22, List.forall_mem_cons.mpr ⟨lw_p23, List.forall_mem_cons.mpr ⟨lw_p24, List.forall_mem_cons.mpr ⟨lw_p25, List.forall_mem_cons.mpr ⟨lw_p26, List.forall_mem_cons.mpr ⟨lw_p27, List.forall_mem_cons.mpr ⟨lw_p28, List.forall_mem_cons.mpr ⟨lw_p29, List.forall_mem_cons.mpr ⟨lw_p30, List.forall_mem_cons.mpr ⟨lw_p31, fun _ h => absurd h List.not_mem_nil⟩⟩⟩⟩⟩⟩⟩⟩⟩⟩⟩⟩⟩⟩⟩⟩
theorem lw_p32 : lw_okq (⟨"CupReceiptsModel", "isAt", "(II)Z"⟩, 18) := ⟨⟨by decide +kernel, by decide +kernel⟩, List.mem_of_getElem? (i := 597) (by decide +kernel), List.mem_of_getElem? (i := 865) (by decide +kernel), List.mem_of_getElem? (i := 866) (by decide +kernel)⟩
theorem lw_p33 : lw_okq (⟨"CupReceiptsModel", "number", "(I)Z"⟩, 18) := ⟨⟨by decide +kernel, by decide +kernel⟩, List.mem_of_getElem? (i := 597) (by decide +kernel), List.mem_of_getElem? (i := 872) (by decide +kernel), List.mem_of_getElem? (i := 873) (by decide +kernel)⟩
theorem lw_p34 : lw_okq (⟨"CupReceiptsModel", "sign", "(I)Z"⟩, 18) := ⟨⟨by decide +kernel, by decide +kernel⟩, List.mem_of_getElem? (i := 597) (by decide +kernel), List.mem_of_getElem? (i := 876) (by decide +kernel), List.mem_of_getElem? (i := 877) (by decide +kernel)⟩
theorem lw_p35 : lw_okq (⟨"CupReceiptsModel", "calls", "()I"⟩, 18) := ⟨⟨by decide +kernel, by decide +kernel⟩, List.mem_of_getElem? (i := 597) (by decide +kernel), List.mem_of_getElem? (i := 880) (by decide +kernel), List.mem_of_getElem? (i := 881) (by decide +kernel)⟩
def lw_privs_3 : List (MethodName × Nat) := [(⟨"CupReceiptsModel", "isAt", "(II)Z"⟩, 18), (⟨"CupReceiptsModel", "number", "(I)Z"⟩, 18), (⟨"CupReceiptsModel", "sign", "(I)Z"⟩, 18), (⟨"CupReceiptsModel", "calls", "()I"⟩, 18)]
theorem lw_r3 : ∀ q ∈ lw_privs_3, lw_okq q := List.forall_mem_cons.mpr ⟨lw_p32, List.forall_mem_cons.mpr ⟨lw_p33, List.forall_mem_cons.mpr ⟨lw_p34, List.forall_mem_cons.mpr ⟨lw_p35, fun _ h => absurd h List.not_mem_nil⟩⟩⟩⟩
def lw_privs : List (MethodName × Nat) := lw_privs_1 ++ (lw_privs_2 ++ (lw_privs_3))
def lw_tbl : List Cond := k2_sels lw_privs ++ tables_1
theorem lw_privs_ok : ∀ q ∈ lw_privs, lw_okq q := by
  show ∀ q ∈ lw_privs_1 ++ (lw_privs_2 ++ (lw_privs_3)), lw_okq q
  exact List.forall_mem_append.mpr ⟨lw_r1, List.forall_mem_append.mpr ⟨lw_r2, lw_r3⟩⟩
/-- the streams that the claim lets the run draw from -/
abbrev lw_cs : List Choice := [Jvm.Choice.named "NaN.bits"]
theorem lw_bits : nanBits ∈ lw_cs := by first | decide | exact List.mem_cons_self | simp [lw_cs, nanBits]
end
section
/-! ===== BEGIN words of one list among another's, by their places ===== -/
theorem goodIn_r {big : List Cond} (ws : List Cond) (ps : List Nat) (hp : ws = ps.filterMap (fun i => big[i]?)) (h : ws.all goodWord = true) : GoodIn big ws := by
  intro w hw
  have h1 := List.all_eq_true.mp h w hw
  rw [hp] at hw
  obtain ⟨i, -, hi⟩ := List.mem_filterMap.mp hw
  have hm : w ∈ big := by first | exact List.mem_of_getElem? hi | exact List.getElem?_mem hi
  exact ⟨hm, good_of_word h1⟩
theorem goodIn_app {big a b : List Cond} (ha : GoodIn big a) (hb : GoodIn big b) : GoodIn big (a ++ b) := fun w h => (List.mem_append.mp h).elim (ha w) (hb w)
theorem goodIn_ca {big a b : List Cond} {c : Cond} (ha : GoodIn big (c :: a)) (hb : GoodIn big b) : GoodIn big (c :: (a ++ b)) := fun w h => (List.mem_cons.mp h).elim (fun e => ha w (List.mem_cons.mpr (Or.inl e))) (fun h => (List.mem_append.mp h).elim (fun h => ha w (List.mem_cons.mpr (Or.inr h))) (hb w))
theorem goodIn_sub {big ws : List Cond} (hm : ∀ w ∈ ws, w ∈ big) (h : ws.all goodWord = true) : GoodIn big ws := fun w hw => ⟨hm w hw, good_of_word (List.all_eq_true.mp h w hw)⟩
/-! ===== END ===== -/

/-! ===== BEGIN printed: names, fields, word lists, decode rows ===== -/
def RX0 : String := "CupReceipts$Contracts"
def TX0 : u_T := fun k => match k with
  | 0 => ("CupReceipts$Contracts", "months", "[I", true)
  | 1 => ("CupReceipts$Contracts", "prices", "[I", true)
  | _ => ("CupReceipts$Contracts", "size", "I", false)
def tyX0 : Nat → FieldType := fun k => match k with
  | 0 => .array .int
  | 1 => .array .int
  | _ => .int
abbrev wsX00 : List Cond := u_ws RX0 TX0 3
theorem nmX0 : ∀ a, a < 3 → ∀ b, b < 3 → a ≠ b → (TX0 a).2.1 ≠ (TX0 b).2.1 := by decide +kernel
theorem tyX0_ok : ∀ k, k < 3 → parseFieldDescriptor (TX0 k).2.2.1 = some (tyX0 k) := by decide +kernel
abbrev cX0_init : ByteArray := prog_2_method_1_code
def yX0_init : MethodName := ⟨RX0, "<init>", "()V"⟩
abbrev cX0_copyFrom : ByteArray := prog_2_method_2_code
def yX0_copyFrom : MethodName := ⟨RX0, "copyFrom", "(LCupReceipts$Contracts;)V"⟩
abbrev cX0_isOpen : ByteArray := prog_2_method_3_code
def yX0_isOpen : MethodName := ⟨RX0, "isOpen", "(I)Z"⟩
abbrev cX0_add : ByteArray := prog_2_method_4_code
def yX0_add : MethodName := ⟨RX0, "add", "(II)I"⟩
abbrev cX0_drop : ByteArray := prog_2_method_5_code
def yX0_drop : MethodName := ⟨RX0, "drop", "(I)V"⟩
abbrev cX0_dropBefore : ByteArray := prog_2_method_6_code
def yX0_dropBefore : MethodName := ⟨RX0, "dropBefore", "(I)I"⟩
def RX1 : String := "CupReceipts$Delivery"
def TX1 : u_T := fun k => match k with
  | 0 => ("CupReceipts$Delivery", "rows", "[I", true)
  | 1 => ("CupReceipts$Delivery", "bags", "[I", true)
  | 2 => ("CupReceipts$Delivery", "places", "I", false)
  | 3 => ("CupReceipts$Delivery", "missing", "I", false)
  | 4 => ("CupReceipts$Delivery", "pay", "I", false)
  | 5 => ("CupReceipts$Delivery", "gain", "I", false)
  | 6 => ("CupReceipts$Delivery", "sumOfCups", "I", false)
  | 7 => ("CupReceipts$Delivery", "usedUp", "I", false)
  | 8 => ("CupReceipts$Delivery", "waiting", "[Z", true)
  | 9 => ("CupReceipts$Delivery", "cups", "[I", true)
  | 10 => ("CupReceipts$Delivery", "pays", "[I", true)
  | _ => ("CupReceipts$Delivery", "gains", "[I", true)
def tyX1 : Nat → FieldType := fun k => match k with
  | 0 => .array .int
  | 1 => .array .int
  | 2 => .int
  | 3 => .int
  | 4 => .int
  | 5 => .int
  | 6 => .int
  | 7 => .int
  | 8 => .array .boolean
  | 9 => .array .int
  | 10 => .array .int
  | _ => .array .int
abbrev wsX10 : List Cond := u_ws RX1 TX1 12
theorem nmX1 : ∀ a, a < 12 → ∀ b, b < 12 → a ≠ b → (TX1 a).2.1 ≠ (TX1 b).2.1 := by decide +kernel
theorem tyX1_ok : ∀ k, k < 12 → parseFieldDescriptor (TX1 k).2.2.1 = some (tyX1 k) := by decide +kernel
abbrev cX1_init : ByteArray := prog_3_method_1_code
def yX1_init : MethodName := ⟨RX1, "<init>", "()V"⟩
abbrev cX1_plan : ByteArray := prog_3_method_2_code
def yX1_plan : MethodName := ⟨RX1, "plan", "(LCupReceipts$House;II)V"⟩
abbrev cX1_rate : ByteArray := prog_3_method_3_code
def yX1_rate : MethodName := ⟨RX1, "rate", "(LCupReceipts$House;II)V"⟩
abbrev cX1_rowOfGreatestGain : ByteArray := prog_3_method_4_code
def yX1_rowOfGreatestGain : MethodName := ⟨RX1, "rowOfGreatestGain", "(I)I"⟩
abbrev cX1_take : ByteArray := prog_3_method_5_code
def yX1_take : MethodName := ⟨RX1, "take", "(II)V"⟩
def RX2 : String := "CupReceipts$History"
def TX2 : u_T := fun k => match k with
  | 0 => ("CupReceipts$History", "rooms", "[LCupReceipts$House;", true)
  | _ => ("CupReceipts$History", "states", "I", false)
def tyX2 : Nat → FieldType := fun k => match k with
  | 0 => .array (.object "CupReceipts$House")
  | _ => .int
abbrev wsX20 : List Cond := u_ws RX2 TX2 2
theorem nmX2 : ∀ a, a < 2 → ∀ b, b < 2 → a ≠ b → (TX2 a).2.1 ≠ (TX2 b).2.1 := by decide +kernel
theorem tyX2_ok : ∀ k, k < 2 → parseFieldDescriptor (TX2 k).2.2.1 = some (tyX2 k) := by decide +kernel
abbrev cX2_init : ByteArray := prog_4_method_1_code
def yX2_init : MethodName := ⟨RX2, "<init>", "()V"⟩
abbrev cX2_record : ByteArray := prog_4_method_2_code
def yX2_record : MethodName := ⟨RX2, "record", "(LCupReceipts$House;)V"⟩
abbrev cX2_restoreLatest : ByteArray := prog_4_method_3_code
def yX2_restoreLatest : MethodName := ⟨RX2, "restoreLatest", "(LCupReceipts$House;)V"⟩
abbrev cX2_dropOldest : ByteArray := prog_4_method_4_code
def yX2_dropOldest : MethodName := ⟨RX2, "dropOldest", "()V"⟩
def RX3 : String := "CupReceipts$House"
def TX3 : u_T := fun k => match k with
  | 0 => ("CupReceipts$House", "lots", "LCupReceipts$Lots;", true)
  | 1 => ("CupReceipts$House", "contracts", "LCupReceipts$Contracts;", true)
  | 2 => ("CupReceipts$House", "worths", "[I", true)
  | 3 => ("CupReceipts$House", "settings", "[I", true)
  | 4 => ("CupReceipts$House", "month", "I", false)
  | 5 => ("CupReceipts$House", "account", "I", false)
  | 6 => ("CupReceipts$House", "contractsMet", "I", false)
  | 7 => ("CupReceipts$House", "contractsFailed", "I", false)
  | _ => ("CupReceipts$House", "bagsGiven", "I", false)
def tyX3 : Nat → FieldType := fun k => match k with
  | 0 => .object "CupReceipts$Lots"
  | 1 => .object "CupReceipts$Contracts"
  | 2 => .array .int
  | 3 => .array .int
  | 4 => .int
  | 5 => .int
  | 6 => .int
  | 7 => .int
  | _ => .int
abbrev wsX30 : List Cond := u_ws RX3 TX3 9
theorem nmX3 : ∀ a, a < 9 → ∀ b, b < 9 → a ≠ b → (TX3 a).2.1 ≠ (TX3 b).2.1 := by decide +kernel
theorem tyX3_ok : ∀ k, k < 9 → parseFieldDescriptor (TX3 k).2.2.1 = some (tyX3 k) := by decide +kernel
abbrev cX3_init : ByteArray := prog_5_method_1_code
def yX3_init : MethodName := ⟨RX3, "<init>", "()V"⟩
abbrev cX3_copyFrom : ByteArray := prog_5_method_2_code
def yX3_copyFrom : MethodName := ⟨RX3, "copyFrom", "(LCupReceipts$House;)V"⟩
abbrev cX3_bringLot : ByteArray := prog_5_method_3_code
def yX3_bringLot : MethodName := ⟨RX3, "bringLot", "(II)I"⟩
abbrev cX3_partLot : ByteArray := prog_5_method_4_code
def yX3_partLot : MethodName := ⟨RX3, "partLot", "(II)I"⟩
abbrev cX3_blendLots : ByteArray := prog_5_method_5_code
def yX3_blendLots : MethodName := ⟨RX3, "blendLots", "(IIII)I"⟩
abbrev cX3_cupAnew : ByteArray := prog_5_method_6_code
def yX3_cupAnew : MethodName := ⟨RX3, "cupAnew", "(I)I"⟩
abbrev cX3_changeWorth : ByteArray := prog_5_method_7_code
def yX3_changeWorth : MethodName := ⟨RX3, "changeWorth", "(II)I"⟩
abbrev cX3_sellContract : ByteArray := prog_5_method_8_code
def yX3_sellContract : MethodName := ⟨RX3, "sellContract", "(II)I"⟩
abbrev cX3_buyContractBack : ByteArray := prog_5_method_9_code
def yX3_buyContractBack : MethodName := ⟨RX3, "buyContractBack", "(II)I"⟩
abbrev cX3_meetContract : ByteArray := prog_5_method_10_code
def yX3_meetContract : MethodName := ⟨RX3, "meetContract", "(ILCupReceipts$Delivery;)I"⟩
abbrev cX3_passMonths : ByteArray := prog_5_method_11_code
def yX3_passMonths : MethodName := ⟨RX3, "passMonths", "(I)I"⟩
abbrev cX3_changeSetting : ByteArray := prog_5_method_12_code
def yX3_changeSetting : MethodName := ⟨RX3, "changeSetting", "(II)I"⟩
abbrev cX3_isDeliveryMonth : ByteArray := prog_5_method_13_code
def yX3_isDeliveryMonth : MethodName := ⟨RX3, "isDeliveryMonth", "(I)Z"⟩
abbrev cX3_payForBag : ByteArray := prog_5_method_14_code
def yX3_payForBag : MethodName := ⟨RX3, "payForBag", "(III)I"⟩
abbrev cX3_tellOfLot : ByteArray := prog_5_method_15_code
def yX3_tellOfLot : MethodName := ⟨RX3, "tellOfLot", "(II)I"⟩
abbrev cX3_tellCount : ByteArray := prog_5_method_16_code
def yX3_tellCount : MethodName := ⟨RX3, "tellCount", "(I)I"⟩
def RX4 : String := "CupReceipts$Lots"
def TX4 : u_T := fun k => match k with
  | 0 => ("CupReceipts$Lots", "numbers", "[I", true)
  | 1 => ("CupReceipts$Lots", "bags", "[I", true)
  | 2 => ("CupReceipts$Lots", "cups", "[I", true)
  | 3 => ("CupReceipts$Lots", "months", "[I", true)
  | 4 => ("CupReceipts$Lots", "size", "I", false)
  | _ => ("CupReceipts$Lots", "made", "I", false)
def tyX4 : Nat → FieldType := fun k => match k with
  | 0 => .array .int
  | 1 => .array .int
  | 2 => .array .int
  | 3 => .array .int
  | 4 => .int
  | _ => .int
abbrev wsX40 : List Cond := u_ws RX4 TX4 6
theorem nmX4 : ∀ a, a < 6 → ∀ b, b < 6 → a ≠ b → (TX4 a).2.1 ≠ (TX4 b).2.1 := by decide +kernel
theorem tyX4_ok : ∀ k, k < 6 → parseFieldDescriptor (TX4 k).2.2.1 = some (tyX4 k) := by decide +kernel
abbrev cX4_init : ByteArray := prog_6_method_1_code
def yX4_init : MethodName := ⟨RX4, "<init>", "()V"⟩
abbrev cX4_copyFrom : ByteArray := prog_6_method_2_code
def yX4_copyFrom : MethodName := ⟨RX4, "copyFrom", "(LCupReceipts$Lots;)V"⟩
abbrev cX4_rowOf : ByteArray := prog_6_method_3_code
def yX4_rowOf : MethodName := ⟨RX4, "rowOf", "(I)I"⟩
abbrev cX4_isFull : ByteArray := prog_6_method_4_code
def yX4_isFull : MethodName := ⟨RX4, "isFull", "()Z"⟩
abbrev cX4_add : ByteArray := prog_6_method_5_code
def yX4_add : MethodName := ⟨RX4, "add", "(III)I"⟩
abbrev cX4_dropEmpty : ByteArray := prog_6_method_6_code
def yX4_dropEmpty : MethodName := ⟨RX4, "dropEmpty", "()V"⟩
abbrev cX4_cupAt : ByteArray := prog_6_method_7_code
def yX4_cupAt : MethodName := ⟨RX4, "cupAt", "(II)I"⟩
abbrev cX4_monthsTooOld : ByteArray := prog_6_method_8_code
def yX4_monthsTooOld : MethodName := ⟨RX4, "monthsTooOld", "(II)I"⟩
abbrev cX4_allBags : ByteArray := prog_6_method_9_code
def yX4_allBags : MethodName := ⟨RX4, "allBags", "()I"⟩
abbrev cX4_bagsToGive : ByteArray := prog_6_method_10_code
def yX4_bagsToGive : MethodName := ⟨RX4, "bagsToGive", "(I)I"⟩
def RX5 : String := "CupReceipts$Orders"
def TX5 : u_T := fun k => match k with
  | 0 => ("CupReceipts$Orders", "signs", "[C", true)
  | 1 => ("CupReceipts$Orders", "length", "I", false)
  | 2 => ("CupReceipts$Orders", "start", "I", false)
  | 3 => ("CupReceipts$Orders", "reason", "I", false)
  | 4 => ("CupReceipts$Orders", "cause", "I", false)
  | 5 => ("CupReceipts$Orders", "done", "I", false)
  | 6 => ("CupReceipts$Orders", "next", "I", false)
  | _ => ("CupReceipts$Orders", "numbers", "[I", true)
def tyX5 : Nat → FieldType := fun k => match k with
  | 0 => .array .char
  | 1 => .int
  | 2 => .int
  | 3 => .int
  | 4 => .int
  | 5 => .int
  | 6 => .int
  | _ => .array .int
abbrev wsX50 : List Cond := u_ws RX5 TX5 8
theorem nmX5 : ∀ a, a < 8 → ∀ b, b < 8 → a ≠ b → (TX5 a).2.1 ≠ (TX5 b).2.1 := by decide +kernel
theorem tyX5_ok : ∀ k, k < 8 → parseFieldDescriptor (TX5 k).2.2.1 = some (tyX5 k) := by decide +kernel
abbrev cX5_init : ByteArray := prog_7_method_1_code
def yX5_init : MethodName := ⟨RX5, "<init>", "()V"⟩
abbrev cX5_append : ByteArray := prog_7_method_2_code
def yX5_append : MethodName := ⟨RX5, "append", "(C)I"⟩
abbrev cX5_runOn : ByteArray := prog_7_method_3_code
def yX5_runOn : MethodName := ⟨RX5, "runOn", "(LCupReceipts$House;LCupReceipts$Delivery;)V"⟩
abbrev cX5_settle : ByteArray := prog_7_method_4_code
def yX5_settle : MethodName := ⟨RX5, "settle", "(I)V"⟩
abbrev cX5_readOrder : ByteArray := prog_7_method_5_code
def yX5_readOrder : MethodName := ⟨RX5, "readOrder", "()Z"⟩
abbrev cX5_readNumber : ByteArray := prog_7_method_6_code
def yX5_readNumber : MethodName := ⟨RX5, "readNumber", "(I)Z"⟩
abbrev cX5_signAt : ByteArray := prog_7_method_7_code
def yX5_signAt : MethodName := ⟨RX5, "signAt", "(I)C"⟩
abbrev cX5_isDigit : ByteArray := prog_7_method_8_code
def yX5_isDigit : MethodName := ⟨RX5, "isDigit", "(C)Z"⟩
abbrev cX5_numbersOf : ByteArray := prog_7_method_9_code
def yX5_numbersOf : MethodName := ⟨RX5, "numbersOf", "(C)I"⟩
abbrev cX5_perform : ByteArray := prog_7_method_10_code
def yX5_perform : MethodName := ⟨RX5, "perform", "(LCupReceipts$House;LCupReceipts$Delivery;)I"⟩
def RX6 : String := "CupReceipts"
def TX6 : u_T := fun k => match k with
  | 0 => ("CupReceipts", "house", "LCupReceipts$House;", true)
  | 1 => ("CupReceipts", "trial", "LCupReceipts$House;", true)
  | 2 => ("CupReceipts", "history", "LCupReceipts$History;", true)
  | 3 => ("CupReceipts", "delivery", "LCupReceipts$Delivery;", true)
  | _ => ("CupReceipts", "orders", "LCupReceipts$Orders;", true)
def tyX6 : Nat → FieldType := fun k => match k with
  | 0 => .object "CupReceipts$House"
  | 1 => .object "CupReceipts$House"
  | 2 => .object "CupReceipts$History"
  | 3 => .object "CupReceipts$Delivery"
  | _ => .object "CupReceipts$Orders"
abbrev wsX60 : List Cond := u_ws RX6 TX6 5
theorem nmX6 : ∀ a, a < 5 → ∀ b, b < 5 → a ≠ b → (TX6 a).2.1 ≠ (TX6 b).2.1 := by decide +kernel
theorem tyX6_ok : ∀ k, k < 5 → parseFieldDescriptor (TX6 k).2.2.1 = some (tyX6 k) := by decide +kernel
abbrev cX6_init : ByteArray := prog_1_method_1_code
def yX6_init : MethodName := ⟨RX6, "<init>", "()V"⟩
abbrev cX6_lot : ByteArray := prog_1_method_2_code
def yX6_lot : MethodName := ⟨RX6, "lot", "(II)I"⟩
abbrev cX6_part : ByteArray := prog_1_method_3_code
def yX6_part : MethodName := ⟨RX6, "part", "(II)I"⟩
abbrev cX6_blend : ByteArray := prog_1_method_4_code
def yX6_blend : MethodName := ⟨RX6, "blend", "(IIII)I"⟩
abbrev cX6_cup : ByteArray := prog_1_method_5_code
def yX6_cup : MethodName := ⟨RX6, "cup", "(I)I"⟩
abbrev cX6_worth : ByteArray := prog_1_method_6_code
def yX6_worth : MethodName := ⟨RX6, "worth", "(II)I"⟩
abbrev cX6_sell : ByteArray := prog_1_method_7_code
def yX6_sell : MethodName := ⟨RX6, "sell", "(II)I"⟩
abbrev cX6_buyBack : ByteArray := prog_1_method_8_code
def yX6_buyBack : MethodName := ⟨RX6, "buyBack", "(II)I"⟩
abbrev cX6_meet : ByteArray := prog_1_method_9_code
def yX6_meet : MethodName := ⟨RX6, "meet", "(I)I"⟩
abbrev cX6_pass : ByteArray := prog_1_method_10_code
def yX6_pass : MethodName := ⟨RX6, "pass", "(I)I"⟩
abbrev cX6_set : ByteArray := prog_1_method_11_code
def yX6_set : MethodName := ⟨RX6, "set", "(II)I"⟩
abbrev cX6_lotOf : ByteArray := prog_1_method_12_code
def yX6_lotOf : MethodName := ⟨RX6, "lotOf", "(II)I"⟩
abbrev cX6_numberOf : ByteArray := prog_1_method_13_code
def yX6_numberOf : MethodName := ⟨RX6, "numberOf", "(I)I"⟩
abbrev cX6_contractOf : ByteArray := prog_1_method_14_code
def yX6_contractOf : MethodName := ⟨RX6, "contractOf", "(II)I"⟩
abbrev cX6_paid : ByteArray := prog_1_method_15_code
def yX6_paid : MethodName := ⟨RX6, "paid", "(III)I"⟩
abbrev cX6_given : ByteArray := prog_1_method_16_code
def yX6_given : MethodName := ⟨RX6, "given", "(III)I"⟩
abbrev cX6_would : ByteArray := prog_1_method_17_code
def yX6_would : MethodName := ⟨RX6, "would", "(II)I"⟩
abbrev cX6_lift : ByteArray := prog_1_method_18_code
def yX6_lift : MethodName := ⟨RX6, "lift", "(III)I"⟩
abbrev cX6_bestMonth : ByteArray := prog_1_method_19_code
def yX6_bestMonth : MethodName := ⟨RX6, "bestMonth", "(II)I"⟩
abbrev cX6_count : ByteArray := prog_1_method_20_code
def yX6_count : MethodName := ⟨RX6, "count", "(I)I"⟩
abbrev cX6_undo : ByteArray := prog_1_method_21_code
def yX6_undo : MethodName := ⟨RX6, "undo", "()I"⟩
abbrev cX6_type : ByteArray := prog_1_method_22_code
def yX6_type : MethodName := ⟨RX6, "type", "(I)I"⟩
abbrev cX6_clearText : ByteArray := prog_1_method_23_code
def yX6_clearText : MethodName := ⟨RX6, "clearText", "()I"⟩
abbrev cX6_fault : ByteArray := prog_1_method_24_code
def yX6_fault : MethodName := ⟨RX6, "fault", "(I)I"⟩
abbrev cX6_play : ByteArray := prog_1_method_25_code
def yX6_play : MethodName := ⟨RX6, "play", "()I"⟩
abbrev cX6_accept : ByteArray := prog_1_method_26_code
def yX6_accept : MethodName := ⟨RX6, "accept", "(I)I"⟩
abbrev cX6_isWithin : ByteArray := prog_1_method_27_code
def yX6_isWithin : MethodName := ⟨RX6, "isWithin", "(III)Z"⟩
abbrev cX6_isError : ByteArray := prog_1_method_28_code
def yX6_isError : MethodName := ⟨RX6, "isError", "(I)Z"⟩
abbrev cX6_bandOf : ByteArray := prog_1_method_29_code
def yX6_bandOf : MethodName := ⟨RX6, "bandOf", "(I)I"⟩
abbrev cX6_leastStepsTo : ByteArray := prog_1_method_30_code
def yX6_leastStepsTo : MethodName := ⟨RX6, "leastStepsTo", "(II)I"⟩
abbrev cX6_bitsOfMeanCup : ByteArray := prog_1_method_31_code
def yX6_bitsOfMeanCup : MethodName := ⟨RX6, "bitsOfMeanCup", "(II)I"⟩
def RX7 : String := "CupReceiptsModel"
def TX7 : u_T := fun k => match k with
  | 0 => ("CupReceiptsModel", "s", "[I", true)
  | 1 => ("CupReceiptsModel", "past", "[I", true)
  | 2 => ("CupReceiptsModel", "held", "[I", true)
  | 3 => ("CupReceiptsModel", "pasts", "I", false)
  | 4 => ("CupReceiptsModel", "runs", "Z", false)
  | 5 => ("CupReceiptsModel", "text", "[I", true)
  | 6 => ("CupReceiptsModel", "typed", "I", false)
  | 7 => ("CupReceiptsModel", "lots", "[I", true)
  | 8 => ("CupReceiptsModel", "bagsOf", "[I", true)
  | 9 => ("CupReceiptsModel", "places", "I", false)
  | 10 => ("CupReceiptsModel", "wanting", "I", false)
  | 11 => ("CupReceiptsModel", "spot", "I", false)
  | 12 => ("CupReceiptsModel", "from", "I", false)
  | 13 => ("CupReceiptsModel", "reason", "I", false)
  | 14 => ("CupReceiptsModel", "cause", "I", false)
  | 15 => ("CupReceiptsModel", "orders", "I", false)
  | 16 => ("CupReceiptsModel", "order", "I", false)
  | _ => ("CupReceiptsModel", "told", "[I", true)
def tyX7 : Nat → FieldType := fun k => match k with
  | 0 => .array .int
  | 1 => .array .int
  | 2 => .array .int
  | 3 => .int
  | 4 => .boolean
  | 5 => .array .int
  | 6 => .int
  | 7 => .array .int
  | 8 => .array .int
  | 9 => .int
  | 10 => .int
  | 11 => .int
  | 12 => .int
  | 13 => .int
  | 14 => .int
  | 15 => .int
  | 16 => .int
  | _ => .array .int
abbrev wsX70 : List Cond := u_ws RX7 TX7 18
theorem nmX7 : ∀ a, a < 18 → ∀ b, b < 18 → a ≠ b → (TX7 a).2.1 ≠ (TX7 b).2.1 := by decide +kernel
theorem tyX7_ok : ∀ k, k < 18 → parseFieldDescriptor (TX7 k).2.2.1 = some (tyX7 k) := by decide +kernel
abbrev cX7_init : ByteArray := prog_9_method_1_code
def yX7_init : MethodName := ⟨RX7, "<init>", "()V"⟩
abbrev cX7_in : ByteArray := prog_9_method_3_code
def yX7_in : MethodName := ⟨RX7, "in", "(III)Z"⟩
abbrev cX7_copies : ByteArray := prog_9_method_4_code
def yX7_copies : MethodName := ⟨RX7, "copies", "([I[I)V"⟩
abbrev cX7_changes : ByteArray := prog_9_method_5_code
def yX7_changes : MethodName := ⟨RX7, "changes", "()V"⟩
abbrev cX7_of : ByteArray := prog_9_method_6_code
def yX7_of : MethodName := ⟨RX7, "of", "(II)I"⟩
abbrev cX7_placeOf : ByteArray := prog_9_method_7_code
def yX7_placeOf : MethodName := ⟨RX7, "placeOf", "(I)I"⟩
abbrev cX7_isLot : ByteArray := prog_9_method_8_code
def yX7_isLot : MethodName := ⟨RX7, "isLot", "(I)Z"⟩
abbrev cX7_cupAt : ByteArray := prog_9_method_9_code
def yX7_cupAt : MethodName := ⟨RX7, "cupAt", "(II)I"⟩
abbrev cX7_cupOf : ByteArray := prog_9_method_10_code
def yX7_cupOf : MethodName := ⟨RX7, "cupOf", "(I)I"⟩
abbrev cX7_bandOf : ByteArray := prog_9_method_11_code
def yX7_bandOf : MethodName := ⟨RX7, "bandOf", "(I)I"⟩
abbrev cX7_lateAt : ByteArray := prog_9_method_12_code
def yX7_lateAt : MethodName := ⟨RX7, "lateAt", "(II)I"⟩
abbrev cX7_paidAt : ByteArray := prog_9_method_13_code
def yX7_paidAt : MethodName := ⟨RX7, "paidAt", "(III)I"⟩
abbrev cX7_gainAt : ByteArray := prog_9_method_14_code
def yX7_gainAt : MethodName := ⟨RX7, "gainAt", "(III)I"⟩
abbrev cX7_makes : ByteArray := prog_9_method_15_code
def yX7_makes : MethodName := ⟨RX7, "makes", "(III)I"⟩
abbrev cX7_takes : ByteArray := prog_9_method_16_code
def yX7_takes : MethodName := ⟨RX7, "takes", "(II)V"⟩
abbrev cX7_lot : ByteArray := prog_9_method_17_code
def yX7_lot : MethodName := ⟨RX7, "lot", "(II)I"⟩
abbrev cX7_part : ByteArray := prog_9_method_18_code
def yX7_part : MethodName := ⟨RX7, "part", "(II)I"⟩
abbrev cX7_blended : ByteArray := prog_9_method_19_code
def yX7_blended : MethodName := ⟨RX7, "blended", "(IIII)I"⟩
abbrev cX7_blend : ByteArray := prog_9_method_20_code
def yX7_blend : MethodName := ⟨RX7, "blend", "(IIII)I"⟩
abbrev cX7_cup : ByteArray := prog_9_method_21_code
def yX7_cup : MethodName := ⟨RX7, "cup", "(I)I"⟩
abbrev cX7_worth : ByteArray := prog_9_method_22_code
def yX7_worth : MethodName := ⟨RX7, "worth", "(II)I"⟩
abbrev cX7_isContract : ByteArray := prog_9_method_23_code
def yX7_isContract : MethodName := ⟨RX7, "isContract", "(I)Z"⟩
abbrev cX7_monthOf : ByteArray := prog_9_method_24_code
def yX7_monthOf : MethodName := ⟨RX7, "monthOf", "(I)I"⟩
abbrev cX7_priceOf : ByteArray := prog_9_method_25_code
def yX7_priceOf : MethodName := ⟨RX7, "priceOf", "(I)I"⟩
abbrev cX7_isDelivery : ByteArray := prog_9_method_26_code
def yX7_isDelivery : MethodName := ⟨RX7, "isDelivery", "(I)Z"⟩
abbrev cX7_closes : ByteArray := prog_9_method_27_code
def yX7_closes : MethodName := ⟨RX7, "closes", "(I)V"⟩
abbrev cX7_sell : ByteArray := prog_9_method_28_code
def yX7_sell : MethodName := ⟨RX7, "sell", "(II)I"⟩
abbrev cX7_buyBack : ByteArray := prog_9_method_29_code
def yX7_buyBack : MethodName := ⟨RX7, "buyBack", "(II)I"⟩
abbrev cX7_gives : ByteArray := prog_9_method_30_code
def yX7_gives : MethodName := ⟨RX7, "gives", "(II)V"⟩
abbrev cX7_paidAll : ByteArray := prog_9_method_31_code
def yX7_paidAll : MethodName := ⟨RX7, "paidAll", "(IIZ)I"⟩
abbrev cX7_meet : ByteArray := prog_9_method_32_code
def yX7_meet : MethodName := ⟨RX7, "meet", "(I)I"⟩
abbrev cX7_fails : ByteArray := prog_9_method_33_code
def yX7_fails : MethodName := ⟨RX7, "fails", "()I"⟩
abbrev cX7_pass : ByteArray := prog_9_method_34_code
def yX7_pass : MethodName := ⟨RX7, "pass", "(I)I"⟩
abbrev cX7_set : ByteArray := prog_9_method_35_code
def yX7_set : MethodName := ⟨RX7, "set", "(II)I"⟩
abbrev cX7_lotOf : ByteArray := prog_9_method_36_code
def yX7_lotOf : MethodName := ⟨RX7, "lotOf", "(II)I"⟩
abbrev cX7_numberOf : ByteArray := prog_9_method_37_code
def yX7_numberOf : MethodName := ⟨RX7, "numberOf", "(I)I"⟩
abbrev cX7_contractOf : ByteArray := prog_9_method_38_code
def yX7_contractOf : MethodName := ⟨RX7, "contractOf", "(II)I"⟩
abbrev cX7_paid : ByteArray := prog_9_method_39_code
def yX7_paid : MethodName := ⟨RX7, "paid", "(III)I"⟩
abbrev cX7_given : ByteArray := prog_9_method_40_code
def yX7_given : MethodName := ⟨RX7, "given", "(III)I"⟩
abbrev cX7_would : ByteArray := prog_9_method_41_code
def yX7_would : MethodName := ⟨RX7, "would", "(II)I"⟩
abbrev cX7_lift : ByteArray := prog_9_method_42_code
def yX7_lift : MethodName := ⟨RX7, "lift", "(III)I"⟩
abbrev cX7_bestMonth : ByteArray := prog_9_method_43_code
def yX7_bestMonth : MethodName := ⟨RX7, "bestMonth", "(II)I"⟩
abbrev cX7_bags : ByteArray := prog_9_method_44_code
def yX7_bags : MethodName := ⟨RX7, "bags", "(I)I"⟩
abbrev cX7_count : ByteArray := prog_9_method_45_code
def yX7_count : MethodName := ⟨RX7, "count", "(I)I"⟩
abbrev cX7_undo : ByteArray := prog_9_method_46_code
def yX7_undo : MethodName := ⟨RX7, "undo", "()I"⟩
abbrev cX7_type : ByteArray := prog_9_method_47_code
def yX7_type : MethodName := ⟨RX7, "type", "(I)I"⟩
abbrev cX7_clearText : ByteArray := prog_9_method_48_code
def yX7_clearText : MethodName := ⟨RX7, "clearText", "()I"⟩
abbrev cX7_isAt : ByteArray := prog_9_method_49_code
def yX7_isAt : MethodName := ⟨RX7, "isAt", "(II)Z"⟩
abbrev cX7_sign : ByteArray := prog_9_method_50_code
def yX7_sign : MethodName := ⟨RX7, "sign", "(I)Z"⟩
abbrev cX7_number : ByteArray := prog_9_method_51_code
def yX7_number : MethodName := ⟨RX7, "number", "(I)Z"⟩
abbrev cX7_numbersOf : ByteArray := prog_9_method_52_code
def yX7_numbersOf : MethodName := ⟨RX7, "numbersOf", "(I)I"⟩
abbrev cX7_reads : ByteArray := prog_9_method_53_code
def yX7_reads : MethodName := ⟨RX7, "reads", "()Z"⟩
abbrev cX7_calls : ByteArray := prog_9_method_54_code
def yX7_calls : MethodName := ⟨RX7, "calls", "()I"⟩
abbrev cX7_plays : ByteArray := prog_9_method_55_code
def yX7_plays : MethodName := ⟨RX7, "plays", "()Z"⟩
abbrev cX7_fault : ByteArray := prog_9_method_56_code
def yX7_fault : MethodName := ⟨RX7, "fault", "(I)I"⟩
abbrev cX7_play : ByteArray := prog_9_method_57_code
def yX7_play : MethodName := ⟨RX7, "play", "()I"⟩
def RJx8e188 : String := "java/lang/Cloneable"
def TJx8e188 : u_T := fun k => match k with
  | _ => ("", "", "", false)
def tyJx8e188 : Nat → FieldType := fun k => match k with
  | _ => .int
abbrev wsJx8e1880 : List Cond := u_ws RJx8e188 TJx8e188 0
theorem nmJx8e188 : ∀ a, a < 0 → ∀ b, b < 0 → a ≠ b → (TJx8e188 a).2.1 ≠ (TJx8e188 b).2.1 := by decide +kernel
theorem tyJx8e188_ok : ∀ k, k < 0 → parseFieldDescriptor (TJx8e188 k).2.2.1 = some (tyJx8e188 k) := by decide +kernel
def RJxf58ca : String := "java/lang/Float"
def TJxf58ca : u_T := fun k => match k with
  | _ => ("", "", "", false)
def tyJxf58ca : Nat → FieldType := fun k => match k with
  | _ => .int
abbrev wsJxf58ca0 : List Cond := u_ws RJxf58ca TJxf58ca 0
theorem nmJxf58ca : ∀ a, a < 0 → ∀ b, b < 0 → a ≠ b → (TJxf58ca a).2.1 ≠ (TJxf58ca b).2.1 := by decide +kernel
theorem tyJxf58ca_ok : ∀ k, k < 0 → parseFieldDescriptor (TJxf58ca k).2.2.1 = some (tyJxf58ca k) := by decide +kernel
abbrev cJxf58ca_isNaN_12338 : ByteArray := prog_11_method_6_code
def yJxf58ca_isNaN_12338 : MethodName := ⟨RJxf58ca, "isNaN", "(F)Z"⟩
abbrev cJxf58ca_floatToIntBits_5c35a : ByteArray := prog_11_method_24_code
def yJxf58ca_floatToIntBits_5c35a : MethodName := ⟨RJxf58ca, "floatToIntBits", "(F)I"⟩
def RJ9 : String := "java/lang/Math"
def TJ9 : u_T := fun k => match k with
  | _ => ("", "", "", false)
def tyJ9 : Nat → FieldType := fun k => match k with
  | _ => .int
abbrev wsJ90 : List Cond := u_ws RJ9 TJ9 0
theorem nmJ9 : ∀ a, a < 0 → ∀ b, b < 0 → a ≠ b → (TJ9 a).2.1 ≠ (TJ9 b).2.1 := by decide +kernel
theorem tyJ9_ok : ∀ k, k < 0 → parseFieldDescriptor (TJ9 k).2.2.1 = some (tyJ9 k) := by decide +kernel
abbrev cJ9_floorMod_7cf53 : ByteArray := prog_12_method_50_code
def yJ9_floorMod_7cf53 : MethodName := ⟨RJ9, "floorMod", "(II)I"⟩
abbrev cJ9_min_7cf53 : ByteArray := prog_12_method_69_code
def yJ9_min_7cf53 : MethodName := ⟨RJ9, "min", "(II)I"⟩
def RL : String := "CupReceiptsLaw"
abbrev cL_law : ByteArray := code
def yL_law : MethodName := ⟨RL, "law", "([I)Z"⟩
def wsX0_init : List Cond := .code yX0_init cX0_init 1 none :: ([.methodLink RX0 3 objectInit, .instanceMethod objectInit, .code objectInit ⟨#[0xb1]⟩ 1 none, .arrayClass .int, .fieldLink RX0 9 "CupReceipts$Contracts" "months" "[I", .fieldLink RX0 15 "CupReceipts$Contracts" "prices" "[I"] ++ wsX00)
def wsX0_copyFrom : List Cond := .code yX0_copyFrom cX0_copyFrom 3 none :: ([.fieldLink RX0 9 "CupReceipts$Contracts" "months" "[I", .fieldLink RX0 15 "CupReceipts$Contracts" "prices" "[I", .fieldLink RX0 18 "CupReceipts$Contracts" "size" "I"] ++ wsX00)
def wsX0_isOpen : List Cond := .code yX0_isOpen cX0_isOpen 2 (some .boolean) :: ([.fieldLink RX0 18 "CupReceipts$Contracts" "size" "I"] ++ wsX00)
def wsX0_add : List Cond := .code yX0_add cX0_add 3 (some .int) :: ([.fieldLink RX0 18 "CupReceipts$Contracts" "size" "I", .constant RX0 22 (-2000000003), .fieldLink RX0 9 "CupReceipts$Contracts" "months" "[I", .fieldLink RX0 15 "CupReceipts$Contracts" "prices" "[I"] ++ wsX00)
def wsX0_drop : List Cond := .code yX0_drop cX0_drop 3 none :: ([.fieldLink RX0 18 "CupReceipts$Contracts" "size" "I", .fieldLink RX0 9 "CupReceipts$Contracts" "months" "[I", .fieldLink RX0 15 "CupReceipts$Contracts" "prices" "[I", .methodLink RX0 23 yX0_isOpen, .instanceMethod yX0_isOpen, .selects RX0 yX0_isOpen yX0_isOpen, .initialized RX0, .code yX0_isOpen cX0_isOpen 2 (some .boolean)] ++ wsX00)
def wsX0_dropBefore : List Cond := .code yX0_dropBefore cX0_dropBefore 4 (some .int) :: ([.fieldLink RX0 18 "CupReceipts$Contracts" "size" "I", .fieldLink RX0 9 "CupReceipts$Contracts" "months" "[I", .fieldLink RX0 15 "CupReceipts$Contracts" "prices" "[I"] ++ wsX00)
def wsX1_init : List Cond := .code yX1_init cX1_init 1 none :: ([.methodLink RX1 3 objectInit, .instanceMethod objectInit, .code objectInit ⟨#[0xb1]⟩ 1 none, .arrayClass .int, .fieldLink RX1 9 "CupReceipts$Delivery" "rows" "[I", .fieldLink RX1 15 "CupReceipts$Delivery" "bags" "[I", .arrayClass .boolean, .fieldLink RX1 18 "CupReceipts$Delivery" "waiting" "[Z", .fieldLink RX1 22 "CupReceipts$Delivery" "cups" "[I", .fieldLink RX1 25 "CupReceipts$Delivery" "pays" "[I", .fieldLink RX1 28 "CupReceipts$Delivery" "gains" "[I"] ++ wsX10)
def wsX4_cupAt : List Cond := .code yX4_cupAt cX4_cupAt 4 (some .int) :: ([.fieldLink RX4 18 "CupReceipts$Lots" "cups" "[I", .fieldLink RX4 21 "CupReceipts$Lots" "months" "[I"] ++ wsX40)
def wsX4_monthsTooOld : List Cond := .code yX4_monthsTooOld cX4_monthsTooOld 4 (some .int) :: ([.fieldLink RX4 21 "CupReceipts$Lots" "months" "[I"] ++ wsX40)
def wsX3_payForBag : List Cond := .code yX3_payForBag cX3_payForBag 5 (some .int) :: ([.fieldLink RX3 40 "CupReceipts$House" "settings" "[I"] ++ wsX30)
def wsX6_bandOf : List Cond := .code yX6_bandOf cX6_bandOf 1 (some .int) :: ([])
def wsX1_rate_r1 : List Cond := [Cond.fieldLink RX1 59 "CupReceipts$House" "lots" "LCupReceipts$Lots;", Cond.fieldLink RX1 63 "CupReceipts$Lots" "size" "I", Cond.fieldLink RX1 18 "CupReceipts$Delivery" "waiting" "[Z", Cond.fieldLink RX1 22 "CupReceipts$Delivery" "cups" "[I", Cond.fieldLink RX1 25 "CupReceipts$Delivery" "pays" "[I", Cond.fieldLink RX1 28 "CupReceipts$Delivery" "gains" "[I", Cond.fieldLink RX1 88 "CupReceipts$House" "worths" "[I", Cond.methodLink RX1 77 yX4_cupAt, Cond.instanceMethod yX4_cupAt, Cond.selects RX4 yX4_cupAt yX4_cupAt, Cond.initialized RX4, Cond.code yX4_cupAt cX4_cupAt 4 (some .int), Cond.fieldLink RX4 18 "CupReceipts$Lots" "cups" "[I", Cond.fieldLink RX4 21 "CupReceipts$Lots" "months" "[I", Cond.methodLink RX1 81 yX4_monthsTooOld, Cond.instanceMethod yX4_monthsTooOld, Cond.selects RX4 yX4_monthsTooOld yX4_monthsTooOld, Cond.code yX4_monthsTooOld cX4_monthsTooOld 4 (some .int), Cond.methodLink RX1 84 yX3_payForBag, Cond.instanceMethod yX3_payForBag, Cond.selects RX3 yX3_payForBag yX3_payForBag, Cond.initialized RX3, Cond.code yX3_payForBag cX3_payForBag 5 (some .int), Cond.fieldLink RX3 40 "CupReceipts$House" "settings" "[I"]
def wsX1_rate_r2 : List Cond := [Cond.static yX6_bandOf, Cond.initialized RX6, Cond.code yX6_bandOf cX6_bandOf 1 (some .int)]
def wsX1_rate : List Cond := .code yX1_rate cX1_rate 6 none :: ((wsX1_rate_r1 ++ wsX1_rate_r2) ++ wsX30 ++ wsX40 ++ wsX10)
def wsX1_rowOfGreatestGain : List Cond := .code yX1_rowOfGreatestGain cX1_rowOfGreatestGain 4 (some .int) :: ([.fieldLink RX1 18 "CupReceipts$Delivery" "waiting" "[Z", .fieldLink RX1 28 "CupReceipts$Delivery" "gains" "[I"] ++ wsX10)
def wsX1_take : List Cond := .code yX1_take cX1_take 4 none :: ([.fieldLink RX1 35 "CupReceipts$Delivery" "places" "I", .fieldLink RX1 44 "CupReceipts$Delivery" "missing" "I", .methodLink RX1 94 Lib.Math.min.name, .static Lib.Math.min.name, .initialized "java/lang/Math", .code Lib.Math.min.name Lib.Math.min.code 2 (some .int), .fieldLink RX1 9 "CupReceipts$Delivery" "rows" "[I", .fieldLink RX1 15 "CupReceipts$Delivery" "bags" "[I", .fieldLink RX1 47 "CupReceipts$Delivery" "pay" "I", .fieldLink RX1 25 "CupReceipts$Delivery" "pays" "[I", .fieldLink RX1 50 "CupReceipts$Delivery" "gain" "I", .fieldLink RX1 28 "CupReceipts$Delivery" "gains" "[I", .fieldLink RX1 53 "CupReceipts$Delivery" "sumOfCups" "I", .fieldLink RX1 22 "CupReceipts$Delivery" "cups" "[I", .fieldLink RX1 56 "CupReceipts$Delivery" "usedUp" "I", .fieldLink RX1 18 "CupReceipts$Delivery" "waiting" "[Z"] ++ wsX10)
def wsX1_plan_r1 : List Cond := [Cond.fieldLink RX1 35 "CupReceipts$Delivery" "places" "I", Cond.fieldLink RX1 39 "CupReceipts$House" "settings" "[I", Cond.fieldLink RX1 44 "CupReceipts$Delivery" "missing" "I", Cond.fieldLink RX1 47 "CupReceipts$Delivery" "pay" "I", Cond.fieldLink RX1 50 "CupReceipts$Delivery" "gain" "I", Cond.fieldLink RX1 53 "CupReceipts$Delivery" "sumOfCups" "I", Cond.fieldLink RX1 56 "CupReceipts$Delivery" "usedUp" "I", Cond.fieldLink RX1 59 "CupReceipts$House" "lots" "LCupReceipts$Lots;", Cond.fieldLink RX1 63 "CupReceipts$Lots" "size" "I", Cond.fieldLink RX1 72 "CupReceipts$Lots" "bags" "[I", Cond.methodLink RX1 31 yX1_rate, Cond.instanceMethod yX1_rate, Cond.selects RX1 yX1_rate yX1_rate, Cond.initialized RX1, Cond.code yX1_rate cX1_rate 6 none, Cond.fieldLink RX1 18 "CupReceipts$Delivery" "waiting" "[Z", Cond.fieldLink RX1 22 "CupReceipts$Delivery" "cups" "[I", Cond.fieldLink RX1 25 "CupReceipts$Delivery" "pays" "[I", Cond.fieldLink RX1 28 "CupReceipts$Delivery" "gains" "[I", Cond.fieldLink RX1 88 "CupReceipts$House" "worths" "[I", Cond.methodLink RX1 77 yX4_cupAt, Cond.instanceMethod yX4_cupAt, Cond.selects RX4 yX4_cupAt yX4_cupAt, Cond.initialized RX4]
def wsX1_plan_r2 : List Cond := [Cond.code yX4_cupAt cX4_cupAt 4 (some .int), Cond.fieldLink RX4 18 "CupReceipts$Lots" "cups" "[I", Cond.fieldLink RX4 21 "CupReceipts$Lots" "months" "[I", Cond.methodLink RX1 81 yX4_monthsTooOld, Cond.instanceMethod yX4_monthsTooOld, Cond.selects RX4 yX4_monthsTooOld yX4_monthsTooOld, Cond.code yX4_monthsTooOld cX4_monthsTooOld 4 (some .int), Cond.methodLink RX1 84 yX3_payForBag, Cond.instanceMethod yX3_payForBag, Cond.selects RX3 yX3_payForBag yX3_payForBag, Cond.initialized RX3, Cond.code yX3_payForBag cX3_payForBag 5 (some .int), Cond.fieldLink RX3 40 "CupReceipts$House" "settings" "[I", Cond.static yX6_bandOf, Cond.initialized RX6, Cond.code yX6_bandOf cX6_bandOf 1 (some .int), Cond.methodLink RX1 68 yX1_rowOfGreatestGain, Cond.instanceMethod yX1_rowOfGreatestGain, Cond.selects RX1 yX1_rowOfGreatestGain yX1_rowOfGreatestGain, Cond.code yX1_rowOfGreatestGain cX1_rowOfGreatestGain 4 (some .int), Cond.methodLink RX1 73 yX1_take, Cond.instanceMethod yX1_take, Cond.selects RX1 yX1_take yX1_take, Cond.code yX1_take cX1_take 4 none]
def wsX1_plan_r3 : List Cond := [Cond.methodLink RX1 94 Lib.Math.min.name, Cond.static Lib.Math.min.name, Cond.initialized "java/lang/Math", Cond.code Lib.Math.min.name Lib.Math.min.code 2 (some .int), Cond.fieldLink RX1 9 "CupReceipts$Delivery" "rows" "[I", Cond.fieldLink RX1 15 "CupReceipts$Delivery" "bags" "[I"]
def wsX1_plan : List Cond := .code yX1_plan cX1_plan 6 none :: ((wsX1_plan_r1 ++ (wsX1_plan_r2 ++ wsX1_plan_r3)) ++ wsX10 ++ wsX30 ++ wsX40)
def wsX4_init : List Cond := .code yX4_init cX4_init 1 none :: ([.methodLink RX4 3 objectInit, .instanceMethod objectInit, .code objectInit ⟨#[0xb1]⟩ 1 none, .arrayClass .int, .fieldLink RX4 9 "CupReceipts$Lots" "numbers" "[I", .fieldLink RX4 15 "CupReceipts$Lots" "bags" "[I", .fieldLink RX4 18 "CupReceipts$Lots" "cups" "[I", .fieldLink RX4 21 "CupReceipts$Lots" "months" "[I"] ++ wsX40)
def wsX3_init_r1 : List Cond := [Cond.methodLink RX3 3 objectInit, Cond.instanceMethod objectInit, Cond.code objectInit ⟨#[0xb1]⟩ 1 none, Cond.classLink RX3 9 RX4, Cond.instantiable RX4 6, Cond.initialized RX4, Cond.fieldLink RX3 12 "CupReceipts$House" "lots" "LCupReceipts$Lots;", Cond.classLink RX3 18 RX0, Cond.instantiable RX0 3, Cond.initialized RX0, Cond.fieldLink RX3 21 "CupReceipts$House" "contracts" "LCupReceipts$Contracts;", Cond.methodLink RX3 29 ⟨"[I", "clone", "()Ljava/lang/Object;"⟩, Cond.sameMethod "[I" "java/lang/Object" "clone" "()Ljava/lang/Object;", Cond.native ⟨"java/lang/Object", "clone", "()Ljava/lang/Object;"⟩, Cond.instanceMethod ⟨"java/lang/Object", "clone", "()Ljava/lang/Object;"⟩, Cond.selects "[I" ⟨"[I", "clone", "()Ljava/lang/Object;"⟩ ⟨"java/lang/Object", "clone", "()Ljava/lang/Object;"⟩, Cond.classLink RX3 30 "[I", Cond.fieldLink RX3 34 "CupReceipts$House" "worths" "[I", Cond.fieldLink RX3 40 "CupReceipts$House" "settings" "[I", Cond.instanceMethod yX4_init, Cond.code yX4_init cX4_init 1 none, Cond.methodLink RX4 3 objectInit, Cond.arrayClass .int, Cond.fieldLink RX4 9 "CupReceipts$Lots" "numbers" "[I"]
def wsX3_init_r2 : List Cond := [Cond.fieldLink RX4 15 "CupReceipts$Lots" "bags" "[I", Cond.fieldLink RX4 18 "CupReceipts$Lots" "cups" "[I", Cond.fieldLink RX4 21 "CupReceipts$Lots" "months" "[I", Cond.instanceMethod yX0_init, Cond.code yX0_init cX0_init 1 none, Cond.methodLink RX0 3 objectInit, Cond.fieldLink RX0 9 "CupReceipts$Contracts" "months" "[I", Cond.fieldLink RX0 15 "CupReceipts$Contracts" "prices" "[I"]
def wsX3_init : List Cond := .code yX3_init cX3_init 1 none :: ((wsX3_init_r1 ++ wsX3_init_r2) ++ wsX40 ++ wsX30 ++ wsX00)
def wsX2_init_r1 : List Cond := [Cond.methodLink RX2 3 objectInit, Cond.instanceMethod objectInit, Cond.code objectInit ⟨#[0xb1]⟩ 1 none, Cond.classLink RX2 9 RX3, Cond.fieldLink RX2 11 "CupReceipts$History" "rooms" "[LCupReceipts$House;", Cond.instantiable RX3 9, Cond.initialized RX3, Cond.instanceMethod yX3_init, Cond.code yX3_init cX3_init 1 none, Cond.methodLink RX3 3 objectInit, Cond.classLink RX3 9 RX4, Cond.instantiable RX4 6, Cond.initialized RX4, Cond.fieldLink RX3 12 "CupReceipts$House" "lots" "LCupReceipts$Lots;", Cond.classLink RX3 18 RX0, Cond.instantiable RX0 3, Cond.initialized RX0, Cond.fieldLink RX3 21 "CupReceipts$House" "contracts" "LCupReceipts$Contracts;", Cond.methodLink RX3 29 ⟨"[I", "clone", "()Ljava/lang/Object;"⟩, Cond.sameMethod "[I" "java/lang/Object" "clone" "()Ljava/lang/Object;", Cond.native ⟨"java/lang/Object", "clone", "()Ljava/lang/Object;"⟩, Cond.instanceMethod ⟨"java/lang/Object", "clone", "()Ljava/lang/Object;"⟩, Cond.selects "[I" ⟨"[I", "clone", "()Ljava/lang/Object;"⟩ ⟨"java/lang/Object", "clone", "()Ljava/lang/Object;"⟩, Cond.classLink RX3 30 "[I"]
def wsX2_init_r2 : List Cond := [Cond.fieldLink RX3 34 "CupReceipts$House" "worths" "[I", Cond.fieldLink RX3 40 "CupReceipts$House" "settings" "[I", Cond.instanceMethod yX4_init, Cond.code yX4_init cX4_init 1 none, Cond.methodLink RX4 3 objectInit, Cond.arrayClass .int, Cond.fieldLink RX4 9 "CupReceipts$Lots" "numbers" "[I", Cond.fieldLink RX4 15 "CupReceipts$Lots" "bags" "[I", Cond.fieldLink RX4 18 "CupReceipts$Lots" "cups" "[I", Cond.fieldLink RX4 21 "CupReceipts$Lots" "months" "[I", Cond.instanceMethod yX0_init, Cond.code yX0_init cX0_init 1 none, Cond.methodLink RX0 3 objectInit, Cond.fieldLink RX0 9 "CupReceipts$Contracts" "months" "[I", Cond.fieldLink RX0 15 "CupReceipts$Contracts" "prices" "[I"]
def wsX2_init : List Cond := .code yX2_init cX2_init 2 none :: ((wsX2_init_r1 ++ wsX2_init_r2) ++ wsX20 ++ wsX30 ++ wsX40 ++ wsX00)
def wsX2_dropOldest : List Cond := .code yX2_dropOldest cX2_dropOldest 3 none :: ([.fieldLink RX2 11 "CupReceipts$History" "rooms" "[LCupReceipts$House;", .fieldLink RX2 18 "CupReceipts$History" "states" "I"] ++ wsX20)
def wsX4_copyFrom : List Cond := .code yX4_copyFrom cX4_copyFrom 3 none :: ([.fieldLink RX4 9 "CupReceipts$Lots" "numbers" "[I", .fieldLink RX4 15 "CupReceipts$Lots" "bags" "[I", .fieldLink RX4 18 "CupReceipts$Lots" "cups" "[I", .fieldLink RX4 21 "CupReceipts$Lots" "months" "[I", .fieldLink RX4 24 "CupReceipts$Lots" "size" "I", .fieldLink RX4 28 "CupReceipts$Lots" "made" "I"] ++ wsX40)
def wsX3_copyFrom_r1 : List Cond := [Cond.fieldLink RX3 12 "CupReceipts$House" "lots" "LCupReceipts$Lots;", Cond.fieldLink RX3 21 "CupReceipts$House" "contracts" "LCupReceipts$Contracts;", Cond.fieldLink RX3 34 "CupReceipts$House" "worths" "[I", Cond.fieldLink RX3 40 "CupReceipts$House" "settings" "[I", Cond.fieldLink RX3 50 "CupReceipts$House" "month" "I", Cond.fieldLink RX3 54 "CupReceipts$House" "account" "I", Cond.fieldLink RX3 57 "CupReceipts$House" "contractsMet" "I", Cond.fieldLink RX3 60 "CupReceipts$House" "contractsFailed" "I", Cond.fieldLink RX3 63 "CupReceipts$House" "bagsGiven" "I", Cond.methodLink RX3 43 yX4_copyFrom, Cond.instanceMethod yX4_copyFrom, Cond.selects RX4 yX4_copyFrom yX4_copyFrom, Cond.initialized RX4, Cond.code yX4_copyFrom cX4_copyFrom 3 none, Cond.fieldLink RX4 9 "CupReceipts$Lots" "numbers" "[I", Cond.fieldLink RX4 15 "CupReceipts$Lots" "bags" "[I", Cond.fieldLink RX4 18 "CupReceipts$Lots" "cups" "[I", Cond.fieldLink RX4 21 "CupReceipts$Lots" "months" "[I", Cond.fieldLink RX4 24 "CupReceipts$Lots" "size" "I", Cond.fieldLink RX4 28 "CupReceipts$Lots" "made" "I", Cond.methodLink RX3 47 yX0_copyFrom, Cond.instanceMethod yX0_copyFrom, Cond.selects RX0 yX0_copyFrom yX0_copyFrom, Cond.initialized RX0]
def wsX3_copyFrom_r2 : List Cond := [Cond.code yX0_copyFrom cX0_copyFrom 3 none, Cond.fieldLink RX0 9 "CupReceipts$Contracts" "months" "[I", Cond.fieldLink RX0 15 "CupReceipts$Contracts" "prices" "[I", Cond.fieldLink RX0 18 "CupReceipts$Contracts" "size" "I"]
def wsX3_copyFrom : List Cond := .code yX3_copyFrom cX3_copyFrom 3 none :: ((wsX3_copyFrom_r1 ++ wsX3_copyFrom_r2) ++ wsX30 ++ wsX40 ++ wsX00)
def wsX2_record_r1 : List Cond := [Cond.fieldLink RX2 18 "CupReceipts$History" "states" "I", Cond.fieldLink RX2 11 "CupReceipts$History" "rooms" "[LCupReceipts$House;", Cond.methodLink RX2 22 yX2_dropOldest, Cond.instanceMethod yX2_dropOldest, Cond.selects RX2 yX2_dropOldest yX2_dropOldest, Cond.initialized RX2, Cond.code yX2_dropOldest cX2_dropOldest 3 none, Cond.methodLink RX2 25 yX3_copyFrom, Cond.instanceMethod yX3_copyFrom, Cond.selects RX3 yX3_copyFrom yX3_copyFrom, Cond.initialized RX3, Cond.code yX3_copyFrom cX3_copyFrom 3 none, Cond.fieldLink RX3 12 "CupReceipts$House" "lots" "LCupReceipts$Lots;", Cond.fieldLink RX3 21 "CupReceipts$House" "contracts" "LCupReceipts$Contracts;", Cond.fieldLink RX3 34 "CupReceipts$House" "worths" "[I", Cond.fieldLink RX3 40 "CupReceipts$House" "settings" "[I", Cond.fieldLink RX3 50 "CupReceipts$House" "month" "I", Cond.fieldLink RX3 54 "CupReceipts$House" "account" "I", Cond.fieldLink RX3 57 "CupReceipts$House" "contractsMet" "I", Cond.fieldLink RX3 60 "CupReceipts$House" "contractsFailed" "I", Cond.fieldLink RX3 63 "CupReceipts$House" "bagsGiven" "I", Cond.methodLink RX3 43 yX4_copyFrom, Cond.instanceMethod yX4_copyFrom, Cond.selects RX4 yX4_copyFrom yX4_copyFrom]
def wsX2_record_r2 : List Cond := [Cond.initialized RX4, Cond.code yX4_copyFrom cX4_copyFrom 3 none, Cond.fieldLink RX4 9 "CupReceipts$Lots" "numbers" "[I", Cond.fieldLink RX4 15 "CupReceipts$Lots" "bags" "[I", Cond.fieldLink RX4 18 "CupReceipts$Lots" "cups" "[I", Cond.fieldLink RX4 21 "CupReceipts$Lots" "months" "[I", Cond.fieldLink RX4 24 "CupReceipts$Lots" "size" "I", Cond.fieldLink RX4 28 "CupReceipts$Lots" "made" "I", Cond.methodLink RX3 47 yX0_copyFrom, Cond.instanceMethod yX0_copyFrom, Cond.selects RX0 yX0_copyFrom yX0_copyFrom, Cond.initialized RX0, Cond.code yX0_copyFrom cX0_copyFrom 3 none, Cond.fieldLink RX0 9 "CupReceipts$Contracts" "months" "[I", Cond.fieldLink RX0 15 "CupReceipts$Contracts" "prices" "[I", Cond.fieldLink RX0 18 "CupReceipts$Contracts" "size" "I"]
def wsX2_record : List Cond := .code yX2_record cX2_record 2 none :: ((wsX2_record_r1 ++ wsX2_record_r2) ++ wsX20 ++ wsX30 ++ wsX40 ++ wsX00)
def wsX2_restoreLatest_r1 : List Cond := [Cond.fieldLink RX2 18 "CupReceipts$History" "states" "I", Cond.fieldLink RX2 11 "CupReceipts$History" "rooms" "[LCupReceipts$House;", Cond.methodLink RX2 25 yX3_copyFrom, Cond.instanceMethod yX3_copyFrom, Cond.selects RX3 yX3_copyFrom yX3_copyFrom, Cond.initialized RX3, Cond.code yX3_copyFrom cX3_copyFrom 3 none, Cond.fieldLink RX3 12 "CupReceipts$House" "lots" "LCupReceipts$Lots;", Cond.fieldLink RX3 21 "CupReceipts$House" "contracts" "LCupReceipts$Contracts;", Cond.fieldLink RX3 34 "CupReceipts$House" "worths" "[I", Cond.fieldLink RX3 40 "CupReceipts$House" "settings" "[I", Cond.fieldLink RX3 50 "CupReceipts$House" "month" "I", Cond.fieldLink RX3 54 "CupReceipts$House" "account" "I", Cond.fieldLink RX3 57 "CupReceipts$House" "contractsMet" "I", Cond.fieldLink RX3 60 "CupReceipts$House" "contractsFailed" "I", Cond.fieldLink RX3 63 "CupReceipts$House" "bagsGiven" "I", Cond.methodLink RX3 43 yX4_copyFrom, Cond.instanceMethod yX4_copyFrom, Cond.selects RX4 yX4_copyFrom yX4_copyFrom, Cond.initialized RX4, Cond.code yX4_copyFrom cX4_copyFrom 3 none, Cond.fieldLink RX4 9 "CupReceipts$Lots" "numbers" "[I", Cond.fieldLink RX4 15 "CupReceipts$Lots" "bags" "[I", Cond.fieldLink RX4 18 "CupReceipts$Lots" "cups" "[I"]
def wsX2_restoreLatest_r2 : List Cond := [Cond.fieldLink RX4 21 "CupReceipts$Lots" "months" "[I", Cond.fieldLink RX4 24 "CupReceipts$Lots" "size" "I", Cond.fieldLink RX4 28 "CupReceipts$Lots" "made" "I", Cond.methodLink RX3 47 yX0_copyFrom, Cond.instanceMethod yX0_copyFrom, Cond.selects RX0 yX0_copyFrom yX0_copyFrom, Cond.initialized RX0, Cond.code yX0_copyFrom cX0_copyFrom 3 none, Cond.fieldLink RX0 9 "CupReceipts$Contracts" "months" "[I", Cond.fieldLink RX0 15 "CupReceipts$Contracts" "prices" "[I", Cond.fieldLink RX0 18 "CupReceipts$Contracts" "size" "I"]
def wsX2_restoreLatest : List Cond := .code yX2_restoreLatest cX2_restoreLatest 2 none :: ((wsX2_restoreLatest_r1 ++ wsX2_restoreLatest_r2) ++ wsX20 ++ wsX30 ++ wsX40 ++ wsX00)
def wsX6_isWithin : List Cond := .code yX6_isWithin cX6_isWithin 3 (some .boolean) :: ([])
def wsX4_isFull : List Cond := .code yX4_isFull cX4_isFull 1 (some .boolean) :: ([.fieldLink RX4 24 "CupReceipts$Lots" "size" "I"] ++ wsX40)
def wsX4_add : List Cond := .code yX4_add cX4_add 4 (some .int) :: ([.constant RX4 35 (-2000000003), .fieldLink RX4 9 "CupReceipts$Lots" "numbers" "[I", .fieldLink RX4 24 "CupReceipts$Lots" "size" "I", .fieldLink RX4 28 "CupReceipts$Lots" "made" "I", .fieldLink RX4 15 "CupReceipts$Lots" "bags" "[I", .fieldLink RX4 18 "CupReceipts$Lots" "cups" "[I", .fieldLink RX4 21 "CupReceipts$Lots" "months" "[I", .methodLink RX4 31 yX4_isFull, .instanceMethod yX4_isFull, .selects RX4 yX4_isFull yX4_isFull, .initialized RX4, .code yX4_isFull cX4_isFull 1 (some .boolean)] ++ wsX40)
def wsX3_bringLot : List Cond := .code yX3_bringLot cX3_bringLot 3 (some .int) :: ([.constant RX3 70 (-2000000001), .fieldLink RX3 12 "CupReceipts$House" "lots" "LCupReceipts$Lots;", .fieldLink RX3 50 "CupReceipts$House" "month" "I", .static yX6_isWithin, .initialized RX6, .code yX6_isWithin cX6_isWithin 3 (some .boolean), .methodLink RX3 71 yX4_add, .instanceMethod yX4_add, .selects RX4 yX4_add yX4_add, .initialized RX4, .code yX4_add cX4_add 4 (some .int), .constant RX4 35 (-2000000003), .fieldLink RX4 9 "CupReceipts$Lots" "numbers" "[I", .fieldLink RX4 24 "CupReceipts$Lots" "size" "I", .fieldLink RX4 28 "CupReceipts$Lots" "made" "I", .fieldLink RX4 15 "CupReceipts$Lots" "bags" "[I", .fieldLink RX4 18 "CupReceipts$Lots" "cups" "[I", .fieldLink RX4 21 "CupReceipts$Lots" "months" "[I", .methodLink RX4 31 yX4_isFull, .instanceMethod yX4_isFull, .selects RX4 yX4_isFull yX4_isFull, .code yX4_isFull cX4_isFull 1 (some .boolean)] ++ wsX30 ++ wsX40)
def wsX4_rowOf : List Cond := .code yX4_rowOf cX4_rowOf 3 (some .int) :: ([.fieldLink RX4 24 "CupReceipts$Lots" "size" "I", .fieldLink RX4 9 "CupReceipts$Lots" "numbers" "[I"] ++ wsX40)
def wsX3_partLot_r1 : List Cond := [Cond.fieldLink RX3 12 "CupReceipts$House" "lots" "LCupReceipts$Lots;", Cond.constant RX3 70 (-2000000001), Cond.fieldLink RX3 79 "CupReceipts$Lots" "bags" "[I", Cond.constant RX3 82 (-2000000002), Cond.constant RX3 87 (-2000000003), Cond.fieldLink RX3 88 "CupReceipts$Lots" "cups" "[I", Cond.fieldLink RX3 91 "CupReceipts$Lots" "months" "[I", Cond.methodLink RX3 75 yX4_rowOf, Cond.instanceMethod yX4_rowOf, Cond.selects RX4 yX4_rowOf yX4_rowOf, Cond.initialized RX4, Cond.code yX4_rowOf cX4_rowOf 3 (some .int), Cond.fieldLink RX4 24 "CupReceipts$Lots" "size" "I", Cond.fieldLink RX4 9 "CupReceipts$Lots" "numbers" "[I", Cond.methodLink RX3 83 yX4_isFull, Cond.instanceMethod yX4_isFull, Cond.selects RX4 yX4_isFull yX4_isFull, Cond.code yX4_isFull cX4_isFull 1 (some .boolean), Cond.methodLink RX3 71 yX4_add, Cond.instanceMethod yX4_add, Cond.selects RX4 yX4_add yX4_add, Cond.code yX4_add cX4_add 4 (some .int), Cond.constant RX4 35 (-2000000003), Cond.fieldLink RX4 28 "CupReceipts$Lots" "made" "I"]
def wsX3_partLot_r2 : List Cond := [Cond.fieldLink RX4 15 "CupReceipts$Lots" "bags" "[I", Cond.fieldLink RX4 18 "CupReceipts$Lots" "cups" "[I", Cond.fieldLink RX4 21 "CupReceipts$Lots" "months" "[I", Cond.methodLink RX4 31 yX4_isFull]
def wsX3_partLot : List Cond := .code yX3_partLot cX3_partLot 4 (some .int) :: ((wsX3_partLot_r1 ++ wsX3_partLot_r2) ++ wsX30 ++ wsX40)
def wsX4_dropEmpty : List Cond := .code yX4_dropEmpty cX4_dropEmpty 3 none :: ([.fieldLink RX4 24 "CupReceipts$Lots" "size" "I", .fieldLink RX4 15 "CupReceipts$Lots" "bags" "[I", .fieldLink RX4 9 "CupReceipts$Lots" "numbers" "[I", .fieldLink RX4 18 "CupReceipts$Lots" "cups" "[I", .fieldLink RX4 21 "CupReceipts$Lots" "months" "[I"] ++ wsX40)
def wsX3_blendLots_r1 : List Cond := [Cond.fieldLink RX3 12 "CupReceipts$House" "lots" "LCupReceipts$Lots;", Cond.constant RX3 70 (-2000000001), Cond.fieldLink RX3 79 "CupReceipts$Lots" "bags" "[I", Cond.constant RX3 82 (-2000000002), Cond.constant RX3 87 (-2000000003), Cond.fieldLink RX3 50 "CupReceipts$House" "month" "I", Cond.methodLink RX3 75 yX4_rowOf, Cond.instanceMethod yX4_rowOf, Cond.selects RX4 yX4_rowOf yX4_rowOf, Cond.initialized RX4, Cond.code yX4_rowOf cX4_rowOf 3 (some .int), Cond.fieldLink RX4 24 "CupReceipts$Lots" "size" "I", Cond.fieldLink RX4 9 "CupReceipts$Lots" "numbers" "[I", Cond.methodLink RX3 83 yX4_isFull, Cond.instanceMethod yX4_isFull, Cond.selects RX4 yX4_isFull yX4_isFull, Cond.code yX4_isFull cX4_isFull 1 (some .boolean), Cond.methodLink RX3 94 yX4_cupAt, Cond.instanceMethod yX4_cupAt, Cond.selects RX4 yX4_cupAt yX4_cupAt, Cond.code yX4_cupAt cX4_cupAt 4 (some .int), Cond.fieldLink RX4 18 "CupReceipts$Lots" "cups" "[I", Cond.fieldLink RX4 21 "CupReceipts$Lots" "months" "[I", Cond.methodLink RX3 98 yX4_dropEmpty]
def wsX3_blendLots_r2 : List Cond := [Cond.instanceMethod yX4_dropEmpty, Cond.selects RX4 yX4_dropEmpty yX4_dropEmpty, Cond.code yX4_dropEmpty cX4_dropEmpty 3 none, Cond.fieldLink RX4 15 "CupReceipts$Lots" "bags" "[I", Cond.methodLink RX3 71 yX4_add, Cond.instanceMethod yX4_add, Cond.selects RX4 yX4_add yX4_add, Cond.code yX4_add cX4_add 4 (some .int), Cond.constant RX4 35 (-2000000003), Cond.fieldLink RX4 28 "CupReceipts$Lots" "made" "I", Cond.methodLink RX4 31 yX4_isFull]
def wsX3_blendLots : List Cond := .code yX3_blendLots cX3_blendLots 11 (some .int) :: ((wsX3_blendLots_r1 ++ wsX3_blendLots_r2) ++ wsX30 ++ wsX40)
def wsX3_cupAnew : List Cond := .code yX3_cupAnew cX3_cupAnew 3 (some .int) :: ([.fieldLink RX3 12 "CupReceipts$House" "lots" "LCupReceipts$Lots;", .constant RX3 70 (-2000000001), .fieldLink RX3 79 "CupReceipts$Lots" "bags" "[I", .constant RX3 82 (-2000000002), .fieldLink RX3 88 "CupReceipts$Lots" "cups" "[I", .fieldLink RX3 50 "CupReceipts$House" "month" "I", .fieldLink RX3 91 "CupReceipts$Lots" "months" "[I", .methodLink RX3 75 yX4_rowOf, .instanceMethod yX4_rowOf, .selects RX4 yX4_rowOf yX4_rowOf, .initialized RX4, .code yX4_rowOf cX4_rowOf 3 (some .int), .fieldLink RX4 24 "CupReceipts$Lots" "size" "I", .fieldLink RX4 9 "CupReceipts$Lots" "numbers" "[I", .methodLink RX3 94 yX4_cupAt, .instanceMethod yX4_cupAt, .selects RX4 yX4_cupAt yX4_cupAt, .code yX4_cupAt cX4_cupAt 4 (some .int), .fieldLink RX4 18 "CupReceipts$Lots" "cups" "[I", .fieldLink RX4 21 "CupReceipts$Lots" "months" "[I"] ++ wsX30 ++ wsX40)
def wsX3_changeWorth : List Cond := .code yX3_changeWorth cX3_changeWorth 4 (some .int) :: ([.constant RX3 70 (-2000000001), .fieldLink RX3 34 "CupReceipts$House" "worths" "[I", .static yX6_isWithin, .initialized RX6, .code yX6_isWithin cX6_isWithin 3 (some .boolean)] ++ wsX30)
def wsJ9_floorMod_7cf53 : List Cond := .code yJ9_floorMod_7cf53 cJ9_floorMod_7cf53 3 (some .int) :: ([])
def wsX3_isDeliveryMonth : List Cond := .code yX3_isDeliveryMonth cX3_isDeliveryMonth 2 (some .boolean) :: ([.fieldLink RX3 40 "CupReceipts$House" "settings" "[I", .methodLink RX3 149 yJ9_floorMod_7cf53, .static yJ9_floorMod_7cf53, .initialized RJ9, .code yJ9_floorMod_7cf53 cJ9_floorMod_7cf53 3 (some .int)] ++ wsX30)
def wsX3_sellContract_r1 : List Cond := [Cond.constant RX3 70 (-2000000001), Cond.fieldLink RX3 50 "CupReceipts$House" "month" "I", Cond.constant RX3 82 (-2000000002), Cond.fieldLink RX3 21 "CupReceipts$House" "contracts" "LCupReceipts$Contracts;", Cond.static yX6_isWithin, Cond.initialized RX6, Cond.code yX6_isWithin cX6_isWithin 3 (some .boolean), Cond.methodLink RX3 101 yX3_isDeliveryMonth, Cond.instanceMethod yX3_isDeliveryMonth, Cond.selects RX3 yX3_isDeliveryMonth yX3_isDeliveryMonth, Cond.initialized RX3, Cond.code yX3_isDeliveryMonth cX3_isDeliveryMonth 2 (some .boolean), Cond.fieldLink RX3 40 "CupReceipts$House" "settings" "[I", Cond.methodLink RX3 149 yJ9_floorMod_7cf53, Cond.static yJ9_floorMod_7cf53, Cond.initialized RJ9, Cond.code yJ9_floorMod_7cf53 cJ9_floorMod_7cf53 3 (some .int), Cond.methodLink RX3 105 yX0_add, Cond.instanceMethod yX0_add, Cond.selects RX0 yX0_add yX0_add, Cond.initialized RX0, Cond.code yX0_add cX0_add 3 (some .int), Cond.fieldLink RX0 18 "CupReceipts$Contracts" "size" "I", Cond.constant RX0 22 (-2000000003)]
def wsX3_sellContract_r2 : List Cond := [Cond.fieldLink RX0 9 "CupReceipts$Contracts" "months" "[I", Cond.fieldLink RX0 15 "CupReceipts$Contracts" "prices" "[I"]
def wsX3_sellContract : List Cond := .code yX3_sellContract cX3_sellContract 3 (some .int) :: ((wsX3_sellContract_r1 ++ wsX3_sellContract_r2) ++ wsX30 ++ wsX00)
def wsX3_buyContractBack : List Cond := .code yX3_buyContractBack cX3_buyContractBack 4 (some .int) :: ([.fieldLink RX3 21 "CupReceipts$House" "contracts" "LCupReceipts$Contracts;", .constant RX3 70 (-2000000001), .fieldLink RX3 40 "CupReceipts$House" "settings" "[I", .fieldLink RX3 110 "CupReceipts$Contracts" "prices" "[I", .fieldLink RX3 54 "CupReceipts$House" "account" "I", .methodLink RX3 107 yX0_isOpen, .instanceMethod yX0_isOpen, .selects RX0 yX0_isOpen yX0_isOpen, .initialized RX0, .code yX0_isOpen cX0_isOpen 2 (some .boolean), .fieldLink RX0 18 "CupReceipts$Contracts" "size" "I", .static yX6_isWithin, .initialized RX6, .code yX6_isWithin cX6_isWithin 3 (some .boolean), .methodLink RX3 113 yX0_drop, .instanceMethod yX0_drop, .selects RX0 yX0_drop yX0_drop, .code yX0_drop cX0_drop 3 none, .fieldLink RX0 9 "CupReceipts$Contracts" "months" "[I", .fieldLink RX0 15 "CupReceipts$Contracts" "prices" "[I", .methodLink RX0 23 yX0_isOpen] ++ wsX30 ++ wsX00)
def wsX3_meetContract_r1 : List Cond := [Cond.fieldLink RX3 21 "CupReceipts$House" "contracts" "LCupReceipts$Contracts;", Cond.constant RX3 70 (-2000000001), Cond.fieldLink RX3 117 "CupReceipts$Contracts" "months" "[I", Cond.fieldLink RX3 50 "CupReceipts$House" "month" "I", Cond.constant RX3 82 (-2000000002), Cond.fieldLink RX3 110 "CupReceipts$Contracts" "prices" "[I", Cond.fieldLink RX3 124 "CupReceipts$Delivery" "missing" "I", Cond.fieldLink RX3 127 "CupReceipts$Delivery" "places" "I", Cond.fieldLink RX3 12 "CupReceipts$House" "lots" "LCupReceipts$Lots;", Cond.fieldLink RX3 79 "CupReceipts$Lots" "bags" "[I", Cond.fieldLink RX3 130 "CupReceipts$Delivery" "rows" "[I", Cond.fieldLink RX3 133 "CupReceipts$Delivery" "bags" "[I", Cond.fieldLink RX3 54 "CupReceipts$House" "account" "I", Cond.fieldLink RX3 134 "CupReceipts$Delivery" "pay" "I", Cond.fieldLink RX3 57 "CupReceipts$House" "contractsMet" "I", Cond.fieldLink RX3 63 "CupReceipts$House" "bagsGiven" "I", Cond.fieldLink RX3 40 "CupReceipts$House" "settings" "[I", Cond.methodLink RX3 107 yX0_isOpen, Cond.instanceMethod yX0_isOpen, Cond.selects RX0 yX0_isOpen yX0_isOpen, Cond.initialized RX0, Cond.code yX0_isOpen cX0_isOpen 2 (some .boolean), Cond.fieldLink RX0 18 "CupReceipts$Contracts" "size" "I", Cond.methodLink RX3 118 yX1_plan]
def wsX3_meetContract_r2 : List Cond := [Cond.instanceMethod yX1_plan, Cond.selects RX1 yX1_plan yX1_plan, Cond.initialized RX1, Cond.code yX1_plan cX1_plan 6 none, Cond.fieldLink RX1 35 "CupReceipts$Delivery" "places" "I", Cond.fieldLink RX1 39 "CupReceipts$House" "settings" "[I", Cond.fieldLink RX1 44 "CupReceipts$Delivery" "missing" "I", Cond.fieldLink RX1 47 "CupReceipts$Delivery" "pay" "I", Cond.fieldLink RX1 50 "CupReceipts$Delivery" "gain" "I", Cond.fieldLink RX1 53 "CupReceipts$Delivery" "sumOfCups" "I", Cond.fieldLink RX1 56 "CupReceipts$Delivery" "usedUp" "I", Cond.fieldLink RX1 59 "CupReceipts$House" "lots" "LCupReceipts$Lots;", Cond.fieldLink RX1 63 "CupReceipts$Lots" "size" "I", Cond.fieldLink RX1 72 "CupReceipts$Lots" "bags" "[I", Cond.methodLink RX1 31 yX1_rate, Cond.instanceMethod yX1_rate, Cond.selects RX1 yX1_rate yX1_rate, Cond.code yX1_rate cX1_rate 6 none, Cond.fieldLink RX1 18 "CupReceipts$Delivery" "waiting" "[Z", Cond.fieldLink RX1 22 "CupReceipts$Delivery" "cups" "[I", Cond.fieldLink RX1 25 "CupReceipts$Delivery" "pays" "[I", Cond.fieldLink RX1 28 "CupReceipts$Delivery" "gains" "[I", Cond.fieldLink RX1 88 "CupReceipts$House" "worths" "[I", Cond.methodLink RX1 77 yX4_cupAt]
def wsX3_meetContract_r3 : List Cond := [Cond.instanceMethod yX4_cupAt, Cond.selects RX4 yX4_cupAt yX4_cupAt, Cond.initialized RX4, Cond.code yX4_cupAt cX4_cupAt 4 (some .int), Cond.fieldLink RX4 18 "CupReceipts$Lots" "cups" "[I", Cond.fieldLink RX4 21 "CupReceipts$Lots" "months" "[I", Cond.methodLink RX1 81 yX4_monthsTooOld, Cond.instanceMethod yX4_monthsTooOld, Cond.selects RX4 yX4_monthsTooOld yX4_monthsTooOld, Cond.code yX4_monthsTooOld cX4_monthsTooOld 4 (some .int), Cond.methodLink RX1 84 yX3_payForBag, Cond.instanceMethod yX3_payForBag, Cond.selects RX3 yX3_payForBag yX3_payForBag, Cond.initialized RX3, Cond.code yX3_payForBag cX3_payForBag 5 (some .int), Cond.static yX6_bandOf, Cond.initialized RX6, Cond.code yX6_bandOf cX6_bandOf 1 (some .int), Cond.methodLink RX1 68 yX1_rowOfGreatestGain, Cond.instanceMethod yX1_rowOfGreatestGain, Cond.selects RX1 yX1_rowOfGreatestGain yX1_rowOfGreatestGain, Cond.code yX1_rowOfGreatestGain cX1_rowOfGreatestGain 4 (some .int), Cond.methodLink RX1 73 yX1_take, Cond.instanceMethod yX1_take]
def wsX3_meetContract_r4 : List Cond := [Cond.selects RX1 yX1_take yX1_take, Cond.code yX1_take cX1_take 4 none, Cond.methodLink RX1 94 Lib.Math.min.name, Cond.static Lib.Math.min.name, Cond.initialized "java/lang/Math", Cond.code Lib.Math.min.name Lib.Math.min.code 2 (some .int), Cond.fieldLink RX1 9 "CupReceipts$Delivery" "rows" "[I", Cond.fieldLink RX1 15 "CupReceipts$Delivery" "bags" "[I", Cond.methodLink RX3 98 yX4_dropEmpty, Cond.instanceMethod yX4_dropEmpty, Cond.selects RX4 yX4_dropEmpty yX4_dropEmpty, Cond.code yX4_dropEmpty cX4_dropEmpty 3 none, Cond.fieldLink RX4 24 "CupReceipts$Lots" "size" "I", Cond.fieldLink RX4 15 "CupReceipts$Lots" "bags" "[I", Cond.fieldLink RX4 9 "CupReceipts$Lots" "numbers" "[I", Cond.methodLink RX3 113 yX0_drop, Cond.instanceMethod yX0_drop, Cond.selects RX0 yX0_drop yX0_drop, Cond.code yX0_drop cX0_drop 3 none, Cond.fieldLink RX0 9 "CupReceipts$Contracts" "months" "[I", Cond.fieldLink RX0 15 "CupReceipts$Contracts" "prices" "[I", Cond.methodLink RX0 23 yX0_isOpen]
def wsX3_meetContract : List Cond := .code yX3_meetContract cX3_meetContract 4 (some .int) :: ((wsX3_meetContract_r1 ++ (wsX3_meetContract_r2 ++ (wsX3_meetContract_r3 ++ wsX3_meetContract_r4))) ++ wsX30 ++ wsX00 ++ wsX10 ++ wsX40)
def wsX3_passMonths : List Cond := .code yX3_passMonths cX3_passMonths 3 (some .int) :: ([.constant RX3 70 (-2000000001), .fieldLink RX3 50 "CupReceipts$House" "month" "I", .constant RX3 87 (-2000000003), .fieldLink RX3 21 "CupReceipts$House" "contracts" "LCupReceipts$Contracts;", .fieldLink RX3 60 "CupReceipts$House" "contractsFailed" "I", .fieldLink RX3 54 "CupReceipts$House" "account" "I", .fieldLink RX3 40 "CupReceipts$House" "settings" "[I", .static yX6_isWithin, .initialized RX6, .code yX6_isWithin cX6_isWithin 3 (some .boolean), .methodLink RX3 137 yX0_dropBefore, .instanceMethod yX0_dropBefore, .selects RX0 yX0_dropBefore yX0_dropBefore, .initialized RX0, .code yX0_dropBefore cX0_dropBefore 4 (some .int), .fieldLink RX0 18 "CupReceipts$Contracts" "size" "I", .fieldLink RX0 9 "CupReceipts$Contracts" "months" "[I", .fieldLink RX0 15 "CupReceipts$Contracts" "prices" "[I"] ++ wsX30 ++ wsX00)
def wsX3_changeSetting : List Cond := .code yX3_changeSetting cX3_changeSetting 4 (some .int) :: ([.constant RX3 70 (-2000000001), .fieldLink RX3 21 "CupReceipts$House" "contracts" "LCupReceipts$Contracts;", .fieldLink RX3 146 "CupReceipts$Contracts" "size" "I", .constant RX3 82 (-2000000002), .fieldLink RX3 40 "CupReceipts$House" "settings" "[I", .static yX6_isWithin, .initialized RX6, .code yX6_isWithin cX6_isWithin 3 (some .boolean)] ++ wsX30 ++ wsX00)
def wsX3_tellOfLot : List Cond := .code yX3_tellOfLot cX3_tellOfLot 3 (some .int) :: ([.fieldLink RX3 12 "CupReceipts$House" "lots" "LCupReceipts$Lots;", .fieldLink RX3 79 "CupReceipts$Lots" "bags" "[I", .fieldLink RX3 88 "CupReceipts$Lots" "cups" "[I", .fieldLink RX3 91 "CupReceipts$Lots" "months" "[I", .fieldLink RX3 50 "CupReceipts$House" "month" "I", .fieldLink RX3 34 "CupReceipts$House" "worths" "[I", .constant RX3 70 (-2000000001), .methodLink RX3 94 yX4_cupAt, .instanceMethod yX4_cupAt, .selects RX4 yX4_cupAt yX4_cupAt, .initialized RX4, .code yX4_cupAt cX4_cupAt 4 (some .int), .fieldLink RX4 18 "CupReceipts$Lots" "cups" "[I", .fieldLink RX4 21 "CupReceipts$Lots" "months" "[I", .static yX6_bandOf, .initialized RX6, .code yX6_bandOf cX6_bandOf 1 (some .int), .methodLink RX3 157 yX4_monthsTooOld, .instanceMethod yX4_monthsTooOld, .selects RX4 yX4_monthsTooOld yX4_monthsTooOld, .code yX4_monthsTooOld cX4_monthsTooOld 4 (some .int)] ++ wsX30 ++ wsX40)
def wsX4_allBags : List Cond := .code yX4_allBags cX4_allBags 3 (some .int) :: ([.fieldLink RX4 24 "CupReceipts$Lots" "size" "I", .fieldLink RX4 15 "CupReceipts$Lots" "bags" "[I"] ++ wsX40)
def wsX4_bagsToGive : List Cond := .code yX4_bagsToGive cX4_bagsToGive 4 (some .int) :: ([.fieldLink RX4 24 "CupReceipts$Lots" "size" "I", .fieldLink RX4 15 "CupReceipts$Lots" "bags" "[I", .methodLink RX4 36 yX4_cupAt, .instanceMethod yX4_cupAt, .selects RX4 yX4_cupAt yX4_cupAt, .initialized RX4, .code yX4_cupAt cX4_cupAt 4 (some .int), .fieldLink RX4 18 "CupReceipts$Lots" "cups" "[I", .fieldLink RX4 21 "CupReceipts$Lots" "months" "[I"] ++ wsX40)
def wsX3_tellCount_r1 : List Cond := [Cond.fieldLink RX3 12 "CupReceipts$House" "lots" "LCupReceipts$Lots;", Cond.fieldLink RX3 160 "CupReceipts$Lots" "size" "I", Cond.fieldLink RX3 50 "CupReceipts$House" "month" "I", Cond.fieldLink RX3 21 "CupReceipts$House" "contracts" "LCupReceipts$Contracts;", Cond.fieldLink RX3 146 "CupReceipts$Contracts" "size" "I", Cond.fieldLink RX3 54 "CupReceipts$House" "account" "I", Cond.fieldLink RX3 57 "CupReceipts$House" "contractsMet" "I", Cond.fieldLink RX3 60 "CupReceipts$House" "contractsFailed" "I", Cond.fieldLink RX3 63 "CupReceipts$House" "bagsGiven" "I", Cond.fieldLink RX3 168 "CupReceipts$Lots" "made" "I", Cond.constant RX3 70 (-2000000001), Cond.methodLink RX3 161 yX4_allBags, Cond.instanceMethod yX4_allBags, Cond.selects RX4 yX4_allBags yX4_allBags, Cond.initialized RX4, Cond.code yX4_allBags cX4_allBags 3 (some .int), Cond.fieldLink RX4 24 "CupReceipts$Lots" "size" "I", Cond.fieldLink RX4 15 "CupReceipts$Lots" "bags" "[I", Cond.methodLink RX3 165 yX4_bagsToGive, Cond.instanceMethod yX4_bagsToGive, Cond.selects RX4 yX4_bagsToGive yX4_bagsToGive, Cond.code yX4_bagsToGive cX4_bagsToGive 4 (some .int), Cond.methodLink RX4 36 yX4_cupAt, Cond.instanceMethod yX4_cupAt]
def wsX3_tellCount_r2 : List Cond := [Cond.selects RX4 yX4_cupAt yX4_cupAt, Cond.code yX4_cupAt cX4_cupAt 4 (some .int), Cond.fieldLink RX4 18 "CupReceipts$Lots" "cups" "[I", Cond.fieldLink RX4 21 "CupReceipts$Lots" "months" "[I"]
def wsX3_tellCount : List Cond := .code yX3_tellCount cX3_tellCount 2 (some .int) :: ((wsX3_tellCount_r1 ++ wsX3_tellCount_r2) ++ wsX30 ++ wsX40 ++ wsX00)
def wsX5_init : List Cond := .code yX5_init cX5_init 1 none :: ([.methodLink RX5 3 objectInit, .instanceMethod objectInit, .code objectInit ⟨#[0xb1]⟩ 1 none, .arrayClass .char, .fieldLink RX5 9 "CupReceipts$Orders" "signs" "[C", .arrayClass .int, .fieldLink RX5 15 "CupReceipts$Orders" "numbers" "[I"] ++ wsX50)
def wsX5_append : List Cond := .code yX5_append cX5_append 2 (some .int) :: ([.fieldLink RX5 19 "CupReceipts$Orders" "length" "I", .constant RX5 23 (-2000000003), .fieldLink RX5 9 "CupReceipts$Orders" "signs" "[C"] ++ wsX50)
def wsX5_signAt : List Cond := .code yX5_signAt cX5_signAt 2 (some .char) :: ([.fieldLink RX5 19 "CupReceipts$Orders" "length" "I", .fieldLink RX5 9 "CupReceipts$Orders" "signs" "[C"] ++ wsX50)
def wsX5_numbersOf : List Cond := .code yX5_numbersOf cX5_numbersOf 1 (some .int) :: ([])
def wsX5_isDigit : List Cond := .code yX5_isDigit cX5_isDigit 1 (some .boolean) :: ([])
def wsX5_readNumber : List Cond := .code yX5_readNumber cX5_readNumber 4 (some .boolean) :: ([.fieldLink RX5 48 "CupReceipts$Orders" "next" "I", .fieldLink RX5 15 "CupReceipts$Orders" "numbers" "[I", .methodLink RX5 55 yX5_signAt, .instanceMethod yX5_signAt, .selects RX5 yX5_signAt yX5_signAt, .initialized RX5, .code yX5_signAt cX5_signAt 2 (some .char), .fieldLink RX5 19 "CupReceipts$Orders" "length" "I", .fieldLink RX5 9 "CupReceipts$Orders" "signs" "[C", .methodLink RX5 66 yX5_isDigit, .static yX5_isDigit, .code yX5_isDigit cX5_isDigit 1 (some .boolean)] ++ wsX50)
def wsX5_readOrder : List Cond := .code yX5_readOrder cX5_readOrder 3 (some .boolean) :: ([.fieldLink RX5 24 "CupReceipts$Orders" "start" "I", .fieldLink RX5 48 "CupReceipts$Orders" "next" "I", .methodLink RX5 55 yX5_signAt, .instanceMethod yX5_signAt, .selects RX5 yX5_signAt yX5_signAt, .initialized RX5, .code yX5_signAt cX5_signAt 2 (some .char), .fieldLink RX5 19 "CupReceipts$Orders" "length" "I", .fieldLink RX5 9 "CupReceipts$Orders" "signs" "[C", .methodLink RX5 59 yX5_numbersOf, .static yX5_numbersOf, .code yX5_numbersOf cX5_numbersOf 1 (some .int), .methodLink RX5 63 yX5_readNumber, .instanceMethod yX5_readNumber, .selects RX5 yX5_readNumber yX5_readNumber, .code yX5_readNumber cX5_readNumber 4 (some .boolean), .fieldLink RX5 15 "CupReceipts$Orders" "numbers" "[I", .methodLink RX5 66 yX5_isDigit, .static yX5_isDigit, .code yX5_isDigit cX5_isDigit 1 (some .boolean)] ++ wsX50)
def wsX5_perform_r1 : List Cond := [Cond.fieldLink RX5 24 "CupReceipts$Orders" "start" "I", Cond.fieldLink RX5 15 "CupReceipts$Orders" "numbers" "[I", Cond.constant RX5 94 (-2000000001), Cond.methodLink RX5 55 yX5_signAt, Cond.instanceMethod yX5_signAt, Cond.selects RX5 yX5_signAt yX5_signAt, Cond.initialized RX5, Cond.code yX5_signAt cX5_signAt 2 (some .char), Cond.fieldLink RX5 19 "CupReceipts$Orders" "length" "I", Cond.fieldLink RX5 9 "CupReceipts$Orders" "signs" "[C", Cond.methodLink RX5 70 yX3_bringLot, Cond.instanceMethod yX3_bringLot, Cond.selects RX3 yX3_bringLot yX3_bringLot, Cond.initialized RX3, Cond.code yX3_bringLot cX3_bringLot 3 (some .int), Cond.constant RX3 70 (-2000000001), Cond.fieldLink RX3 12 "CupReceipts$House" "lots" "LCupReceipts$Lots;", Cond.fieldLink RX3 50 "CupReceipts$House" "month" "I", Cond.static yX6_isWithin, Cond.initialized RX6, Cond.code yX6_isWithin cX6_isWithin 3 (some .boolean), Cond.methodLink RX3 71 yX4_add, Cond.instanceMethod yX4_add, Cond.selects RX4 yX4_add yX4_add]
def wsX5_perform_r2 : List Cond := [Cond.initialized RX4, Cond.code yX4_add cX4_add 4 (some .int), Cond.constant RX4 35 (-2000000003), Cond.fieldLink RX4 9 "CupReceipts$Lots" "numbers" "[I", Cond.fieldLink RX4 24 "CupReceipts$Lots" "size" "I", Cond.fieldLink RX4 28 "CupReceipts$Lots" "made" "I", Cond.fieldLink RX4 15 "CupReceipts$Lots" "bags" "[I", Cond.fieldLink RX4 18 "CupReceipts$Lots" "cups" "[I", Cond.fieldLink RX4 21 "CupReceipts$Lots" "months" "[I", Cond.methodLink RX4 31 yX4_isFull, Cond.instanceMethod yX4_isFull, Cond.selects RX4 yX4_isFull yX4_isFull, Cond.code yX4_isFull cX4_isFull 1 (some .boolean), Cond.methodLink RX5 76 yX3_blendLots, Cond.instanceMethod yX3_blendLots, Cond.selects RX3 yX3_blendLots yX3_blendLots, Cond.code yX3_blendLots cX3_blendLots 11 (some .int), Cond.fieldLink RX3 79 "CupReceipts$Lots" "bags" "[I", Cond.constant RX3 82 (-2000000002), Cond.constant RX3 87 (-2000000003), Cond.methodLink RX3 75 yX4_rowOf, Cond.instanceMethod yX4_rowOf, Cond.selects RX4 yX4_rowOf yX4_rowOf, Cond.code yX4_rowOf cX4_rowOf 3 (some .int)]
def wsX5_perform_r3 : List Cond := [Cond.methodLink RX3 83 yX4_isFull, Cond.methodLink RX3 94 yX4_cupAt, Cond.instanceMethod yX4_cupAt, Cond.selects RX4 yX4_cupAt yX4_cupAt, Cond.code yX4_cupAt cX4_cupAt 4 (some .int), Cond.methodLink RX3 98 yX4_dropEmpty, Cond.instanceMethod yX4_dropEmpty, Cond.selects RX4 yX4_dropEmpty yX4_dropEmpty, Cond.code yX4_dropEmpty cX4_dropEmpty 3 none, Cond.methodLink RX5 80 yX3_cupAnew, Cond.instanceMethod yX3_cupAnew, Cond.selects RX3 yX3_cupAnew yX3_cupAnew, Cond.code yX3_cupAnew cX3_cupAnew 3 (some .int), Cond.fieldLink RX3 88 "CupReceipts$Lots" "cups" "[I", Cond.fieldLink RX3 91 "CupReceipts$Lots" "months" "[I", Cond.methodLink RX5 84 yX3_sellContract, Cond.instanceMethod yX3_sellContract, Cond.selects RX3 yX3_sellContract yX3_sellContract, Cond.code yX3_sellContract cX3_sellContract 3 (some .int), Cond.fieldLink RX3 21 "CupReceipts$House" "contracts" "LCupReceipts$Contracts;", Cond.methodLink RX3 101 yX3_isDeliveryMonth, Cond.instanceMethod yX3_isDeliveryMonth, Cond.selects RX3 yX3_isDeliveryMonth yX3_isDeliveryMonth, Cond.code yX3_isDeliveryMonth cX3_isDeliveryMonth 2 (some .boolean)]
def wsX5_perform_r4 : List Cond := [Cond.fieldLink RX3 40 "CupReceipts$House" "settings" "[I", Cond.methodLink RX3 149 yJ9_floorMod_7cf53, Cond.static yJ9_floorMod_7cf53, Cond.initialized RJ9, Cond.code yJ9_floorMod_7cf53 cJ9_floorMod_7cf53 3 (some .int), Cond.methodLink RX3 105 yX0_add, Cond.instanceMethod yX0_add, Cond.selects RX0 yX0_add yX0_add, Cond.initialized RX0, Cond.code yX0_add cX0_add 3 (some .int), Cond.fieldLink RX0 18 "CupReceipts$Contracts" "size" "I", Cond.constant RX0 22 (-2000000003), Cond.fieldLink RX0 9 "CupReceipts$Contracts" "months" "[I", Cond.fieldLink RX0 15 "CupReceipts$Contracts" "prices" "[I", Cond.methodLink RX5 87 yX3_meetContract, Cond.instanceMethod yX3_meetContract, Cond.selects RX3 yX3_meetContract yX3_meetContract, Cond.code yX3_meetContract cX3_meetContract 4 (some .int), Cond.fieldLink RX3 117 "CupReceipts$Contracts" "months" "[I", Cond.fieldLink RX3 110 "CupReceipts$Contracts" "prices" "[I", Cond.fieldLink RX3 124 "CupReceipts$Delivery" "missing" "I", Cond.fieldLink RX3 127 "CupReceipts$Delivery" "places" "I", Cond.fieldLink RX3 130 "CupReceipts$Delivery" "rows" "[I", Cond.fieldLink RX3 133 "CupReceipts$Delivery" "bags" "[I"]
def wsX5_perform_r5 : List Cond := [Cond.fieldLink RX3 54 "CupReceipts$House" "account" "I", Cond.fieldLink RX3 134 "CupReceipts$Delivery" "pay" "I", Cond.fieldLink RX3 57 "CupReceipts$House" "contractsMet" "I", Cond.fieldLink RX3 63 "CupReceipts$House" "bagsGiven" "I", Cond.methodLink RX3 107 yX0_isOpen, Cond.instanceMethod yX0_isOpen, Cond.selects RX0 yX0_isOpen yX0_isOpen, Cond.code yX0_isOpen cX0_isOpen 2 (some .boolean), Cond.methodLink RX3 118 yX1_plan, Cond.instanceMethod yX1_plan, Cond.selects RX1 yX1_plan yX1_plan, Cond.initialized RX1, Cond.code yX1_plan cX1_plan 6 none, Cond.fieldLink RX1 35 "CupReceipts$Delivery" "places" "I", Cond.fieldLink RX1 39 "CupReceipts$House" "settings" "[I", Cond.fieldLink RX1 44 "CupReceipts$Delivery" "missing" "I", Cond.fieldLink RX1 47 "CupReceipts$Delivery" "pay" "I", Cond.fieldLink RX1 50 "CupReceipts$Delivery" "gain" "I", Cond.fieldLink RX1 53 "CupReceipts$Delivery" "sumOfCups" "I", Cond.fieldLink RX1 56 "CupReceipts$Delivery" "usedUp" "I", Cond.fieldLink RX1 59 "CupReceipts$House" "lots" "LCupReceipts$Lots;", Cond.fieldLink RX1 63 "CupReceipts$Lots" "size" "I", Cond.fieldLink RX1 72 "CupReceipts$Lots" "bags" "[I", Cond.methodLink RX1 31 yX1_rate]
def wsX5_perform_r6 : List Cond := [Cond.instanceMethod yX1_rate, Cond.selects RX1 yX1_rate yX1_rate, Cond.code yX1_rate cX1_rate 6 none, Cond.fieldLink RX1 18 "CupReceipts$Delivery" "waiting" "[Z", Cond.fieldLink RX1 22 "CupReceipts$Delivery" "cups" "[I", Cond.fieldLink RX1 25 "CupReceipts$Delivery" "pays" "[I", Cond.fieldLink RX1 28 "CupReceipts$Delivery" "gains" "[I", Cond.fieldLink RX1 88 "CupReceipts$House" "worths" "[I", Cond.methodLink RX1 77 yX4_cupAt, Cond.methodLink RX1 81 yX4_monthsTooOld, Cond.instanceMethod yX4_monthsTooOld, Cond.selects RX4 yX4_monthsTooOld yX4_monthsTooOld, Cond.code yX4_monthsTooOld cX4_monthsTooOld 4 (some .int), Cond.methodLink RX1 84 yX3_payForBag, Cond.instanceMethod yX3_payForBag, Cond.selects RX3 yX3_payForBag yX3_payForBag, Cond.code yX3_payForBag cX3_payForBag 5 (some .int), Cond.static yX6_bandOf, Cond.code yX6_bandOf cX6_bandOf 1 (some .int), Cond.methodLink RX1 68 yX1_rowOfGreatestGain, Cond.instanceMethod yX1_rowOfGreatestGain, Cond.selects RX1 yX1_rowOfGreatestGain yX1_rowOfGreatestGain, Cond.code yX1_rowOfGreatestGain cX1_rowOfGreatestGain 4 (some .int), Cond.methodLink RX1 73 yX1_take]
def wsX5_perform_r7 : List Cond := [Cond.instanceMethod yX1_take, Cond.selects RX1 yX1_take yX1_take, Cond.code yX1_take cX1_take 4 none, Cond.methodLink RX1 94 Lib.Math.min.name, Cond.static Lib.Math.min.name, Cond.initialized "java/lang/Math", Cond.code Lib.Math.min.name Lib.Math.min.code 2 (some .int), Cond.fieldLink RX1 9 "CupReceipts$Delivery" "rows" "[I", Cond.fieldLink RX1 15 "CupReceipts$Delivery" "bags" "[I", Cond.methodLink RX3 113 yX0_drop, Cond.instanceMethod yX0_drop, Cond.selects RX0 yX0_drop yX0_drop, Cond.code yX0_drop cX0_drop 3 none, Cond.methodLink RX0 23 yX0_isOpen, Cond.methodLink RX5 91 yX3_passMonths, Cond.instanceMethod yX3_passMonths, Cond.selects RX3 yX3_passMonths yX3_passMonths, Cond.code yX3_passMonths cX3_passMonths 3 (some .int), Cond.fieldLink RX3 60 "CupReceipts$House" "contractsFailed" "I", Cond.methodLink RX3 137 yX0_dropBefore, Cond.instanceMethod yX0_dropBefore, Cond.selects RX0 yX0_dropBefore yX0_dropBefore, Cond.code yX0_dropBefore cX0_dropBefore 4 (some .int)]
def wsX5_perform : List Cond := .code yX5_perform cX5_perform 3 (some .int) :: ((wsX5_perform_r1 ++ (wsX5_perform_r2 ++ (wsX5_perform_r3 ++ (wsX5_perform_r4 ++ (wsX5_perform_r5 ++ (wsX5_perform_r6 ++ wsX5_perform_r7)))))) ++ wsX50 ++ wsX30 ++ wsX40 ++ wsX00 ++ wsX10)
def wsX6_isError : List Cond := .code yX6_isError cX6_isError 1 (some .boolean) :: ([.constant RX6 102 (-2000000004), .constant RX6 90 (-2000000001), .methodLink RX6 122 yX6_isWithin, .static yX6_isWithin, .initialized RX6, .code yX6_isWithin cX6_isWithin 3 (some .boolean)])
def wsX5_settle : List Cond := .code yX5_settle cX5_settle 2 none :: ([.fieldLink RX5 27 "CupReceipts$Orders" "reason" "I", .fieldLink RX5 30 "CupReceipts$Orders" "cause" "I", .fieldLink RX5 33 "CupReceipts$Orders" "done" "I", .fieldLink RX5 48 "CupReceipts$Orders" "next" "I", .fieldLink RX5 24 "CupReceipts$Orders" "start" "I", .static yX6_isError, .initialized RX6, .code yX6_isError cX6_isError 1 (some .boolean), .constant RX6 102 (-2000000004), .constant RX6 90 (-2000000001), .methodLink RX6 122 yX6_isWithin, .static yX6_isWithin, .code yX6_isWithin cX6_isWithin 3 (some .boolean)] ++ wsX50)
def wsX5_runOn_r1 : List Cond := [Cond.fieldLink RX5 24 "CupReceipts$Orders" "start" "I", Cond.fieldLink RX5 27 "CupReceipts$Orders" "reason" "I", Cond.fieldLink RX5 30 "CupReceipts$Orders" "cause" "I", Cond.fieldLink RX5 33 "CupReceipts$Orders" "done" "I", Cond.fieldLink RX5 19 "CupReceipts$Orders" "length" "I", Cond.fieldLink RX5 48 "CupReceipts$Orders" "next" "I", Cond.methodLink RX5 36 yX5_readOrder, Cond.instanceMethod yX5_readOrder, Cond.selects RX5 yX5_readOrder yX5_readOrder, Cond.initialized RX5, Cond.code yX5_readOrder cX5_readOrder 3 (some .boolean), Cond.methodLink RX5 55 yX5_signAt, Cond.instanceMethod yX5_signAt, Cond.selects RX5 yX5_signAt yX5_signAt, Cond.code yX5_signAt cX5_signAt 2 (some .char), Cond.fieldLink RX5 9 "CupReceipts$Orders" "signs" "[C", Cond.methodLink RX5 59 yX5_numbersOf, Cond.static yX5_numbersOf, Cond.code yX5_numbersOf cX5_numbersOf 1 (some .int), Cond.methodLink RX5 63 yX5_readNumber, Cond.instanceMethod yX5_readNumber, Cond.selects RX5 yX5_readNumber yX5_readNumber, Cond.code yX5_readNumber cX5_readNumber 4 (some .boolean), Cond.fieldLink RX5 15 "CupReceipts$Orders" "numbers" "[I"]
def wsX5_runOn_r2 : List Cond := [Cond.methodLink RX5 66 yX5_isDigit, Cond.static yX5_isDigit, Cond.code yX5_isDigit cX5_isDigit 1 (some .boolean), Cond.methodLink RX5 40 yX5_perform, Cond.instanceMethod yX5_perform, Cond.selects RX5 yX5_perform yX5_perform, Cond.code yX5_perform cX5_perform 3 (some .int), Cond.constant RX5 94 (-2000000001), Cond.methodLink RX5 70 yX3_bringLot, Cond.instanceMethod yX3_bringLot, Cond.selects RX3 yX3_bringLot yX3_bringLot, Cond.initialized RX3, Cond.code yX3_bringLot cX3_bringLot 3 (some .int), Cond.constant RX3 70 (-2000000001), Cond.fieldLink RX3 12 "CupReceipts$House" "lots" "LCupReceipts$Lots;", Cond.fieldLink RX3 50 "CupReceipts$House" "month" "I", Cond.static yX6_isWithin, Cond.initialized RX6, Cond.code yX6_isWithin cX6_isWithin 3 (some .boolean), Cond.methodLink RX3 71 yX4_add, Cond.instanceMethod yX4_add, Cond.selects RX4 yX4_add yX4_add, Cond.initialized RX4, Cond.code yX4_add cX4_add 4 (some .int)]
def wsX5_runOn_r3 : List Cond := [Cond.constant RX4 35 (-2000000003), Cond.fieldLink RX4 9 "CupReceipts$Lots" "numbers" "[I", Cond.fieldLink RX4 24 "CupReceipts$Lots" "size" "I", Cond.fieldLink RX4 28 "CupReceipts$Lots" "made" "I", Cond.fieldLink RX4 15 "CupReceipts$Lots" "bags" "[I", Cond.fieldLink RX4 18 "CupReceipts$Lots" "cups" "[I", Cond.fieldLink RX4 21 "CupReceipts$Lots" "months" "[I", Cond.methodLink RX4 31 yX4_isFull, Cond.instanceMethod yX4_isFull, Cond.selects RX4 yX4_isFull yX4_isFull, Cond.code yX4_isFull cX4_isFull 1 (some .boolean), Cond.methodLink RX5 76 yX3_blendLots, Cond.instanceMethod yX3_blendLots, Cond.selects RX3 yX3_blendLots yX3_blendLots, Cond.code yX3_blendLots cX3_blendLots 11 (some .int), Cond.fieldLink RX3 79 "CupReceipts$Lots" "bags" "[I", Cond.constant RX3 82 (-2000000002), Cond.constant RX3 87 (-2000000003), Cond.methodLink RX3 75 yX4_rowOf, Cond.instanceMethod yX4_rowOf, Cond.selects RX4 yX4_rowOf yX4_rowOf, Cond.code yX4_rowOf cX4_rowOf 3 (some .int), Cond.methodLink RX3 83 yX4_isFull, Cond.methodLink RX3 94 yX4_cupAt]
def wsX5_runOn_r4 : List Cond := [Cond.instanceMethod yX4_cupAt, Cond.selects RX4 yX4_cupAt yX4_cupAt, Cond.code yX4_cupAt cX4_cupAt 4 (some .int), Cond.methodLink RX3 98 yX4_dropEmpty, Cond.instanceMethod yX4_dropEmpty, Cond.selects RX4 yX4_dropEmpty yX4_dropEmpty, Cond.code yX4_dropEmpty cX4_dropEmpty 3 none, Cond.methodLink RX5 80 yX3_cupAnew, Cond.instanceMethod yX3_cupAnew, Cond.selects RX3 yX3_cupAnew yX3_cupAnew, Cond.code yX3_cupAnew cX3_cupAnew 3 (some .int), Cond.fieldLink RX3 88 "CupReceipts$Lots" "cups" "[I", Cond.fieldLink RX3 91 "CupReceipts$Lots" "months" "[I", Cond.methodLink RX5 84 yX3_sellContract, Cond.instanceMethod yX3_sellContract, Cond.selects RX3 yX3_sellContract yX3_sellContract, Cond.code yX3_sellContract cX3_sellContract 3 (some .int), Cond.fieldLink RX3 21 "CupReceipts$House" "contracts" "LCupReceipts$Contracts;", Cond.methodLink RX3 101 yX3_isDeliveryMonth, Cond.instanceMethod yX3_isDeliveryMonth, Cond.selects RX3 yX3_isDeliveryMonth yX3_isDeliveryMonth, Cond.code yX3_isDeliveryMonth cX3_isDeliveryMonth 2 (some .boolean), Cond.fieldLink RX3 40 "CupReceipts$House" "settings" "[I", Cond.methodLink RX3 149 yJ9_floorMod_7cf53]
def wsX5_runOn_r5 : List Cond := [Cond.static yJ9_floorMod_7cf53, Cond.initialized RJ9, Cond.code yJ9_floorMod_7cf53 cJ9_floorMod_7cf53 3 (some .int), Cond.methodLink RX3 105 yX0_add, Cond.instanceMethod yX0_add, Cond.selects RX0 yX0_add yX0_add, Cond.initialized RX0, Cond.code yX0_add cX0_add 3 (some .int), Cond.fieldLink RX0 18 "CupReceipts$Contracts" "size" "I", Cond.constant RX0 22 (-2000000003), Cond.fieldLink RX0 9 "CupReceipts$Contracts" "months" "[I", Cond.fieldLink RX0 15 "CupReceipts$Contracts" "prices" "[I", Cond.methodLink RX5 87 yX3_meetContract, Cond.instanceMethod yX3_meetContract, Cond.selects RX3 yX3_meetContract yX3_meetContract, Cond.code yX3_meetContract cX3_meetContract 4 (some .int), Cond.fieldLink RX3 117 "CupReceipts$Contracts" "months" "[I", Cond.fieldLink RX3 110 "CupReceipts$Contracts" "prices" "[I", Cond.fieldLink RX3 124 "CupReceipts$Delivery" "missing" "I", Cond.fieldLink RX3 127 "CupReceipts$Delivery" "places" "I", Cond.fieldLink RX3 130 "CupReceipts$Delivery" "rows" "[I", Cond.fieldLink RX3 133 "CupReceipts$Delivery" "bags" "[I", Cond.fieldLink RX3 54 "CupReceipts$House" "account" "I", Cond.fieldLink RX3 134 "CupReceipts$Delivery" "pay" "I"]
def wsX5_runOn_r6 : List Cond := [Cond.fieldLink RX3 57 "CupReceipts$House" "contractsMet" "I", Cond.fieldLink RX3 63 "CupReceipts$House" "bagsGiven" "I", Cond.methodLink RX3 107 yX0_isOpen, Cond.instanceMethod yX0_isOpen, Cond.selects RX0 yX0_isOpen yX0_isOpen, Cond.code yX0_isOpen cX0_isOpen 2 (some .boolean), Cond.methodLink RX3 118 yX1_plan, Cond.instanceMethod yX1_plan, Cond.selects RX1 yX1_plan yX1_plan, Cond.initialized RX1, Cond.code yX1_plan cX1_plan 6 none, Cond.fieldLink RX1 35 "CupReceipts$Delivery" "places" "I", Cond.fieldLink RX1 39 "CupReceipts$House" "settings" "[I", Cond.fieldLink RX1 44 "CupReceipts$Delivery" "missing" "I", Cond.fieldLink RX1 47 "CupReceipts$Delivery" "pay" "I", Cond.fieldLink RX1 50 "CupReceipts$Delivery" "gain" "I", Cond.fieldLink RX1 53 "CupReceipts$Delivery" "sumOfCups" "I", Cond.fieldLink RX1 56 "CupReceipts$Delivery" "usedUp" "I", Cond.fieldLink RX1 59 "CupReceipts$House" "lots" "LCupReceipts$Lots;", Cond.fieldLink RX1 63 "CupReceipts$Lots" "size" "I", Cond.fieldLink RX1 72 "CupReceipts$Lots" "bags" "[I", Cond.methodLink RX1 31 yX1_rate, Cond.instanceMethod yX1_rate, Cond.selects RX1 yX1_rate yX1_rate]
def wsX5_runOn_r7 : List Cond := [Cond.code yX1_rate cX1_rate 6 none, Cond.fieldLink RX1 18 "CupReceipts$Delivery" "waiting" "[Z", Cond.fieldLink RX1 22 "CupReceipts$Delivery" "cups" "[I", Cond.fieldLink RX1 25 "CupReceipts$Delivery" "pays" "[I", Cond.fieldLink RX1 28 "CupReceipts$Delivery" "gains" "[I", Cond.fieldLink RX1 88 "CupReceipts$House" "worths" "[I", Cond.methodLink RX1 77 yX4_cupAt, Cond.methodLink RX1 81 yX4_monthsTooOld, Cond.instanceMethod yX4_monthsTooOld, Cond.selects RX4 yX4_monthsTooOld yX4_monthsTooOld, Cond.code yX4_monthsTooOld cX4_monthsTooOld 4 (some .int), Cond.methodLink RX1 84 yX3_payForBag, Cond.instanceMethod yX3_payForBag, Cond.selects RX3 yX3_payForBag yX3_payForBag, Cond.code yX3_payForBag cX3_payForBag 5 (some .int), Cond.static yX6_bandOf, Cond.code yX6_bandOf cX6_bandOf 1 (some .int), Cond.methodLink RX1 68 yX1_rowOfGreatestGain, Cond.instanceMethod yX1_rowOfGreatestGain, Cond.selects RX1 yX1_rowOfGreatestGain yX1_rowOfGreatestGain, Cond.code yX1_rowOfGreatestGain cX1_rowOfGreatestGain 4 (some .int), Cond.methodLink RX1 73 yX1_take, Cond.instanceMethod yX1_take, Cond.selects RX1 yX1_take yX1_take]
def wsX5_runOn_r8 : List Cond := [Cond.code yX1_take cX1_take 4 none, Cond.methodLink RX1 94 Lib.Math.min.name, Cond.static Lib.Math.min.name, Cond.initialized "java/lang/Math", Cond.code Lib.Math.min.name Lib.Math.min.code 2 (some .int), Cond.fieldLink RX1 9 "CupReceipts$Delivery" "rows" "[I", Cond.fieldLink RX1 15 "CupReceipts$Delivery" "bags" "[I", Cond.methodLink RX3 113 yX0_drop, Cond.instanceMethod yX0_drop, Cond.selects RX0 yX0_drop yX0_drop, Cond.code yX0_drop cX0_drop 3 none, Cond.methodLink RX0 23 yX0_isOpen, Cond.methodLink RX5 91 yX3_passMonths, Cond.instanceMethod yX3_passMonths, Cond.selects RX3 yX3_passMonths yX3_passMonths, Cond.code yX3_passMonths cX3_passMonths 3 (some .int), Cond.fieldLink RX3 60 "CupReceipts$House" "contractsFailed" "I", Cond.methodLink RX3 137 yX0_dropBefore, Cond.instanceMethod yX0_dropBefore, Cond.selects RX0 yX0_dropBefore yX0_dropBefore, Cond.code yX0_dropBefore cX0_dropBefore 4 (some .int), Cond.methodLink RX5 44 yX5_settle, Cond.instanceMethod yX5_settle, Cond.selects RX5 yX5_settle yX5_settle]
def wsX5_runOn_r9 : List Cond := [Cond.code yX5_settle cX5_settle 2 none, Cond.static yX6_isError, Cond.code yX6_isError cX6_isError 1 (some .boolean), Cond.constant RX6 102 (-2000000004), Cond.constant RX6 90 (-2000000001), Cond.methodLink RX6 122 yX6_isWithin]
def wsX5_runOn : List Cond := .code yX5_runOn cX5_runOn 4 none :: ((wsX5_runOn_r1 ++ (wsX5_runOn_r2 ++ (wsX5_runOn_r3 ++ (wsX5_runOn_r4 ++ (wsX5_runOn_r5 ++ (wsX5_runOn_r6 ++ (wsX5_runOn_r7 ++ (wsX5_runOn_r8 ++ wsX5_runOn_r9)))))))) ++ wsX50 ++ wsX30 ++ wsX40 ++ wsX00 ++ wsX10)
def wsX6_init_r1 : List Cond := [Cond.methodLink RX6 1 objectInit, Cond.instanceMethod objectInit, Cond.code objectInit ⟨#[0xb1]⟩ 1 none, Cond.classLink RX6 7 RX3, Cond.instantiable RX3 9, Cond.initialized RX3, Cond.fieldLink RX6 10 "CupReceipts" "house" "LCupReceipts$House;", Cond.fieldLink RX6 16 "CupReceipts" "trial" "LCupReceipts$House;", Cond.classLink RX6 19 RX2, Cond.instantiable RX2 2, Cond.initialized RX2, Cond.fieldLink RX6 22 "CupReceipts" "history" "LCupReceipts$History;", Cond.classLink RX6 26 RX1, Cond.instantiable RX1 12, Cond.initialized RX1, Cond.fieldLink RX6 29 "CupReceipts" "delivery" "LCupReceipts$Delivery;", Cond.classLink RX6 33 RX5, Cond.instantiable RX5 8, Cond.initialized RX5, Cond.fieldLink RX6 36 "CupReceipts" "orders" "LCupReceipts$Orders;", Cond.instanceMethod yX3_init, Cond.code yX3_init cX3_init 1 none, Cond.methodLink RX3 3 objectInit, Cond.classLink RX3 9 RX4]
def wsX6_init_r2 : List Cond := [Cond.instantiable RX4 6, Cond.initialized RX4, Cond.fieldLink RX3 12 "CupReceipts$House" "lots" "LCupReceipts$Lots;", Cond.classLink RX3 18 RX0, Cond.instantiable RX0 3, Cond.initialized RX0, Cond.fieldLink RX3 21 "CupReceipts$House" "contracts" "LCupReceipts$Contracts;", Cond.methodLink RX3 29 ⟨"[I", "clone", "()Ljava/lang/Object;"⟩, Cond.sameMethod "[I" "java/lang/Object" "clone" "()Ljava/lang/Object;", Cond.native ⟨"java/lang/Object", "clone", "()Ljava/lang/Object;"⟩, Cond.instanceMethod ⟨"java/lang/Object", "clone", "()Ljava/lang/Object;"⟩, Cond.selects "[I" ⟨"[I", "clone", "()Ljava/lang/Object;"⟩ ⟨"java/lang/Object", "clone", "()Ljava/lang/Object;"⟩, Cond.classLink RX3 30 "[I", Cond.fieldLink RX3 34 "CupReceipts$House" "worths" "[I", Cond.fieldLink RX3 40 "CupReceipts$House" "settings" "[I", Cond.instanceMethod yX4_init, Cond.code yX4_init cX4_init 1 none, Cond.methodLink RX4 3 objectInit, Cond.arrayClass .int, Cond.fieldLink RX4 9 "CupReceipts$Lots" "numbers" "[I", Cond.fieldLink RX4 15 "CupReceipts$Lots" "bags" "[I", Cond.fieldLink RX4 18 "CupReceipts$Lots" "cups" "[I", Cond.fieldLink RX4 21 "CupReceipts$Lots" "months" "[I", Cond.instanceMethod yX0_init]
def wsX6_init_r3 : List Cond := [Cond.code yX0_init cX0_init 1 none, Cond.methodLink RX0 3 objectInit, Cond.fieldLink RX0 9 "CupReceipts$Contracts" "months" "[I", Cond.fieldLink RX0 15 "CupReceipts$Contracts" "prices" "[I", Cond.methodLink RX6 21 yX2_init, Cond.instanceMethod yX2_init, Cond.code yX2_init cX2_init 2 none, Cond.methodLink RX2 3 objectInit, Cond.classLink RX2 9 RX3, Cond.fieldLink RX2 11 "CupReceipts$History" "rooms" "[LCupReceipts$House;", Cond.instanceMethod yX1_init, Cond.code yX1_init cX1_init 1 none, Cond.methodLink RX1 3 objectInit, Cond.fieldLink RX1 9 "CupReceipts$Delivery" "rows" "[I", Cond.fieldLink RX1 15 "CupReceipts$Delivery" "bags" "[I", Cond.arrayClass .boolean, Cond.fieldLink RX1 18 "CupReceipts$Delivery" "waiting" "[Z", Cond.fieldLink RX1 22 "CupReceipts$Delivery" "cups" "[I", Cond.fieldLink RX1 25 "CupReceipts$Delivery" "pays" "[I", Cond.fieldLink RX1 28 "CupReceipts$Delivery" "gains" "[I", Cond.instanceMethod yX5_init, Cond.code yX5_init cX5_init 1 none, Cond.methodLink RX5 3 objectInit, Cond.arrayClass .char]
def wsX6_init_r4 : List Cond := [Cond.fieldLink RX5 9 "CupReceipts$Orders" "signs" "[C", Cond.fieldLink RX5 15 "CupReceipts$Orders" "numbers" "[I"]
def wsX6_init : List Cond := .code yX6_init cX6_init 1 none :: ((wsX6_init_r1 ++ (wsX6_init_r2 ++ (wsX6_init_r3 ++ wsX6_init_r4))) ++ wsX30 ++ wsX60 ++ wsX20 ++ wsX10 ++ wsX50 ++ wsX40 ++ wsX00)
def wsX6_accept_r1 : List Cond := [Cond.fieldLink RX6 22 "CupReceipts" "history" "LCupReceipts$History;", Cond.fieldLink RX6 10 "CupReceipts" "house" "LCupReceipts$House;", Cond.fieldLink RX6 16 "CupReceipts" "trial" "LCupReceipts$House;", Cond.methodLink RX6 217 yX6_isError, Cond.static yX6_isError, Cond.initialized RX6, Cond.code yX6_isError cX6_isError 1 (some .boolean), Cond.constant RX6 102 (-2000000004), Cond.constant RX6 90 (-2000000001), Cond.methodLink RX6 122 yX6_isWithin, Cond.static yX6_isWithin, Cond.code yX6_isWithin cX6_isWithin 3 (some .boolean), Cond.methodLink RX6 220 yX2_record, Cond.instanceMethod yX2_record, Cond.selects RX2 yX2_record yX2_record, Cond.initialized RX2, Cond.code yX2_record cX2_record 2 none, Cond.fieldLink RX2 18 "CupReceipts$History" "states" "I", Cond.fieldLink RX2 11 "CupReceipts$History" "rooms" "[LCupReceipts$House;", Cond.methodLink RX2 22 yX2_dropOldest, Cond.instanceMethod yX2_dropOldest, Cond.selects RX2 yX2_dropOldest yX2_dropOldest, Cond.code yX2_dropOldest cX2_dropOldest 3 none, Cond.methodLink RX2 25 yX3_copyFrom]
def wsX6_accept_r2 : List Cond := [Cond.instanceMethod yX3_copyFrom, Cond.selects RX3 yX3_copyFrom yX3_copyFrom, Cond.initialized RX3, Cond.code yX3_copyFrom cX3_copyFrom 3 none, Cond.fieldLink RX3 12 "CupReceipts$House" "lots" "LCupReceipts$Lots;", Cond.fieldLink RX3 21 "CupReceipts$House" "contracts" "LCupReceipts$Contracts;", Cond.fieldLink RX3 34 "CupReceipts$House" "worths" "[I", Cond.fieldLink RX3 40 "CupReceipts$House" "settings" "[I", Cond.fieldLink RX3 50 "CupReceipts$House" "month" "I", Cond.fieldLink RX3 54 "CupReceipts$House" "account" "I", Cond.fieldLink RX3 57 "CupReceipts$House" "contractsMet" "I", Cond.fieldLink RX3 60 "CupReceipts$House" "contractsFailed" "I", Cond.fieldLink RX3 63 "CupReceipts$House" "bagsGiven" "I", Cond.methodLink RX3 43 yX4_copyFrom, Cond.instanceMethod yX4_copyFrom, Cond.selects RX4 yX4_copyFrom yX4_copyFrom, Cond.initialized RX4, Cond.code yX4_copyFrom cX4_copyFrom 3 none, Cond.fieldLink RX4 9 "CupReceipts$Lots" "numbers" "[I", Cond.fieldLink RX4 15 "CupReceipts$Lots" "bags" "[I", Cond.fieldLink RX4 18 "CupReceipts$Lots" "cups" "[I", Cond.fieldLink RX4 21 "CupReceipts$Lots" "months" "[I", Cond.fieldLink RX4 24 "CupReceipts$Lots" "size" "I", Cond.fieldLink RX4 28 "CupReceipts$Lots" "made" "I"]
def wsX6_accept_r3 : List Cond := [Cond.methodLink RX3 47 yX0_copyFrom, Cond.instanceMethod yX0_copyFrom, Cond.selects RX0 yX0_copyFrom yX0_copyFrom, Cond.initialized RX0, Cond.code yX0_copyFrom cX0_copyFrom 3 none, Cond.fieldLink RX0 9 "CupReceipts$Contracts" "months" "[I", Cond.fieldLink RX0 15 "CupReceipts$Contracts" "prices" "[I", Cond.fieldLink RX0 18 "CupReceipts$Contracts" "size" "I", Cond.methodLink RX6 40 yX3_copyFrom]
def wsX6_accept : List Cond := .code yX6_accept cX6_accept 2 (some .int) :: ((wsX6_accept_r1 ++ (wsX6_accept_r2 ++ wsX6_accept_r3)) ++ wsX60 ++ wsX20 ++ wsX30 ++ wsX40 ++ wsX00)
def wsX6_lot_r1 : List Cond := [Cond.fieldLink RX6 16 "CupReceipts" "trial" "LCupReceipts$House;", Cond.fieldLink RX6 10 "CupReceipts" "house" "LCupReceipts$House;", Cond.methodLink RX6 40 yX3_copyFrom, Cond.instanceMethod yX3_copyFrom, Cond.selects RX3 yX3_copyFrom yX3_copyFrom, Cond.initialized RX3, Cond.code yX3_copyFrom cX3_copyFrom 3 none, Cond.fieldLink RX3 12 "CupReceipts$House" "lots" "LCupReceipts$Lots;", Cond.fieldLink RX3 21 "CupReceipts$House" "contracts" "LCupReceipts$Contracts;", Cond.fieldLink RX3 34 "CupReceipts$House" "worths" "[I", Cond.fieldLink RX3 40 "CupReceipts$House" "settings" "[I", Cond.fieldLink RX3 50 "CupReceipts$House" "month" "I", Cond.fieldLink RX3 54 "CupReceipts$House" "account" "I", Cond.fieldLink RX3 57 "CupReceipts$House" "contractsMet" "I", Cond.fieldLink RX3 60 "CupReceipts$House" "contractsFailed" "I", Cond.fieldLink RX3 63 "CupReceipts$House" "bagsGiven" "I", Cond.methodLink RX3 43 yX4_copyFrom, Cond.instanceMethod yX4_copyFrom, Cond.selects RX4 yX4_copyFrom yX4_copyFrom, Cond.initialized RX4, Cond.code yX4_copyFrom cX4_copyFrom 3 none, Cond.fieldLink RX4 9 "CupReceipts$Lots" "numbers" "[I", Cond.fieldLink RX4 15 "CupReceipts$Lots" "bags" "[I", Cond.fieldLink RX4 18 "CupReceipts$Lots" "cups" "[I"]
def wsX6_lot_r2 : List Cond := [Cond.fieldLink RX4 21 "CupReceipts$Lots" "months" "[I", Cond.fieldLink RX4 24 "CupReceipts$Lots" "size" "I", Cond.fieldLink RX4 28 "CupReceipts$Lots" "made" "I", Cond.methodLink RX3 47 yX0_copyFrom, Cond.instanceMethod yX0_copyFrom, Cond.selects RX0 yX0_copyFrom yX0_copyFrom, Cond.initialized RX0, Cond.code yX0_copyFrom cX0_copyFrom 3 none, Cond.fieldLink RX0 9 "CupReceipts$Contracts" "months" "[I", Cond.fieldLink RX0 15 "CupReceipts$Contracts" "prices" "[I", Cond.fieldLink RX0 18 "CupReceipts$Contracts" "size" "I", Cond.methodLink RX6 44 yX3_bringLot, Cond.instanceMethod yX3_bringLot, Cond.selects RX3 yX3_bringLot yX3_bringLot, Cond.code yX3_bringLot cX3_bringLot 3 (some .int), Cond.constant RX3 70 (-2000000001), Cond.static yX6_isWithin, Cond.initialized RX6, Cond.code yX6_isWithin cX6_isWithin 3 (some .boolean), Cond.methodLink RX3 71 yX4_add, Cond.instanceMethod yX4_add, Cond.selects RX4 yX4_add yX4_add, Cond.code yX4_add cX4_add 4 (some .int), Cond.constant RX4 35 (-2000000003)]
def wsX6_lot_r3 : List Cond := [Cond.methodLink RX4 31 yX4_isFull, Cond.instanceMethod yX4_isFull, Cond.selects RX4 yX4_isFull yX4_isFull, Cond.code yX4_isFull cX4_isFull 1 (some .boolean), Cond.methodLink RX6 48 yX6_accept, Cond.instanceMethod yX6_accept, Cond.selects RX6 yX6_accept yX6_accept, Cond.code yX6_accept cX6_accept 2 (some .int), Cond.fieldLink RX6 22 "CupReceipts" "history" "LCupReceipts$History;", Cond.methodLink RX6 217 yX6_isError, Cond.static yX6_isError, Cond.code yX6_isError cX6_isError 1 (some .boolean), Cond.constant RX6 102 (-2000000004), Cond.constant RX6 90 (-2000000001), Cond.methodLink RX6 122 yX6_isWithin, Cond.methodLink RX6 220 yX2_record, Cond.instanceMethod yX2_record, Cond.selects RX2 yX2_record yX2_record, Cond.initialized RX2, Cond.code yX2_record cX2_record 2 none, Cond.fieldLink RX2 18 "CupReceipts$History" "states" "I", Cond.fieldLink RX2 11 "CupReceipts$History" "rooms" "[LCupReceipts$House;", Cond.methodLink RX2 22 yX2_dropOldest, Cond.instanceMethod yX2_dropOldest]
def wsX6_lot_r4 : List Cond := [Cond.selects RX2 yX2_dropOldest yX2_dropOldest, Cond.code yX2_dropOldest cX2_dropOldest 3 none, Cond.methodLink RX2 25 yX3_copyFrom]
def wsX6_lot : List Cond := .code yX6_lot cX6_lot 3 (some .int) :: ((wsX6_lot_r1 ++ (wsX6_lot_r2 ++ (wsX6_lot_r3 ++ wsX6_lot_r4))) ++ wsX60 ++ wsX30 ++ wsX40 ++ wsX00 ++ wsX20)
def wsX6_part_r1 : List Cond := [Cond.fieldLink RX6 16 "CupReceipts" "trial" "LCupReceipts$House;", Cond.fieldLink RX6 10 "CupReceipts" "house" "LCupReceipts$House;", Cond.methodLink RX6 40 yX3_copyFrom, Cond.instanceMethod yX3_copyFrom, Cond.selects RX3 yX3_copyFrom yX3_copyFrom, Cond.initialized RX3, Cond.code yX3_copyFrom cX3_copyFrom 3 none, Cond.fieldLink RX3 12 "CupReceipts$House" "lots" "LCupReceipts$Lots;", Cond.fieldLink RX3 21 "CupReceipts$House" "contracts" "LCupReceipts$Contracts;", Cond.fieldLink RX3 34 "CupReceipts$House" "worths" "[I", Cond.fieldLink RX3 40 "CupReceipts$House" "settings" "[I", Cond.fieldLink RX3 50 "CupReceipts$House" "month" "I", Cond.fieldLink RX3 54 "CupReceipts$House" "account" "I", Cond.fieldLink RX3 57 "CupReceipts$House" "contractsMet" "I", Cond.fieldLink RX3 60 "CupReceipts$House" "contractsFailed" "I", Cond.fieldLink RX3 63 "CupReceipts$House" "bagsGiven" "I", Cond.methodLink RX3 43 yX4_copyFrom, Cond.instanceMethod yX4_copyFrom, Cond.selects RX4 yX4_copyFrom yX4_copyFrom, Cond.initialized RX4, Cond.code yX4_copyFrom cX4_copyFrom 3 none, Cond.fieldLink RX4 9 "CupReceipts$Lots" "numbers" "[I", Cond.fieldLink RX4 15 "CupReceipts$Lots" "bags" "[I", Cond.fieldLink RX4 18 "CupReceipts$Lots" "cups" "[I"]
def wsX6_part_r2 : List Cond := [Cond.fieldLink RX4 21 "CupReceipts$Lots" "months" "[I", Cond.fieldLink RX4 24 "CupReceipts$Lots" "size" "I", Cond.fieldLink RX4 28 "CupReceipts$Lots" "made" "I", Cond.methodLink RX3 47 yX0_copyFrom, Cond.instanceMethod yX0_copyFrom, Cond.selects RX0 yX0_copyFrom yX0_copyFrom, Cond.initialized RX0, Cond.code yX0_copyFrom cX0_copyFrom 3 none, Cond.fieldLink RX0 9 "CupReceipts$Contracts" "months" "[I", Cond.fieldLink RX0 15 "CupReceipts$Contracts" "prices" "[I", Cond.fieldLink RX0 18 "CupReceipts$Contracts" "size" "I", Cond.methodLink RX6 52 yX3_partLot, Cond.instanceMethod yX3_partLot, Cond.selects RX3 yX3_partLot yX3_partLot, Cond.code yX3_partLot cX3_partLot 4 (some .int), Cond.constant RX3 70 (-2000000001), Cond.fieldLink RX3 79 "CupReceipts$Lots" "bags" "[I", Cond.constant RX3 82 (-2000000002), Cond.constant RX3 87 (-2000000003), Cond.fieldLink RX3 88 "CupReceipts$Lots" "cups" "[I", Cond.fieldLink RX3 91 "CupReceipts$Lots" "months" "[I", Cond.methodLink RX3 75 yX4_rowOf, Cond.instanceMethod yX4_rowOf, Cond.selects RX4 yX4_rowOf yX4_rowOf]
def wsX6_part_r3 : List Cond := [Cond.code yX4_rowOf cX4_rowOf 3 (some .int), Cond.methodLink RX3 83 yX4_isFull, Cond.instanceMethod yX4_isFull, Cond.selects RX4 yX4_isFull yX4_isFull, Cond.code yX4_isFull cX4_isFull 1 (some .boolean), Cond.methodLink RX3 71 yX4_add, Cond.instanceMethod yX4_add, Cond.selects RX4 yX4_add yX4_add, Cond.code yX4_add cX4_add 4 (some .int), Cond.constant RX4 35 (-2000000003), Cond.methodLink RX4 31 yX4_isFull, Cond.methodLink RX6 48 yX6_accept, Cond.instanceMethod yX6_accept, Cond.selects RX6 yX6_accept yX6_accept, Cond.initialized RX6, Cond.code yX6_accept cX6_accept 2 (some .int), Cond.fieldLink RX6 22 "CupReceipts" "history" "LCupReceipts$History;", Cond.methodLink RX6 217 yX6_isError, Cond.static yX6_isError, Cond.code yX6_isError cX6_isError 1 (some .boolean), Cond.constant RX6 102 (-2000000004), Cond.constant RX6 90 (-2000000001), Cond.methodLink RX6 122 yX6_isWithin, Cond.static yX6_isWithin]
def wsX6_part_r4 : List Cond := [Cond.code yX6_isWithin cX6_isWithin 3 (some .boolean), Cond.methodLink RX6 220 yX2_record, Cond.instanceMethod yX2_record, Cond.selects RX2 yX2_record yX2_record, Cond.initialized RX2, Cond.code yX2_record cX2_record 2 none, Cond.fieldLink RX2 18 "CupReceipts$History" "states" "I", Cond.fieldLink RX2 11 "CupReceipts$History" "rooms" "[LCupReceipts$House;", Cond.methodLink RX2 22 yX2_dropOldest, Cond.instanceMethod yX2_dropOldest, Cond.selects RX2 yX2_dropOldest yX2_dropOldest, Cond.code yX2_dropOldest cX2_dropOldest 3 none, Cond.methodLink RX2 25 yX3_copyFrom]
def wsX6_part : List Cond := .code yX6_part cX6_part 3 (some .int) :: ((wsX6_part_r1 ++ (wsX6_part_r2 ++ (wsX6_part_r3 ++ wsX6_part_r4))) ++ wsX60 ++ wsX30 ++ wsX40 ++ wsX00 ++ wsX20)
def wsX6_blend_r1 : List Cond := [Cond.fieldLink RX6 16 "CupReceipts" "trial" "LCupReceipts$House;", Cond.fieldLink RX6 10 "CupReceipts" "house" "LCupReceipts$House;", Cond.methodLink RX6 40 yX3_copyFrom, Cond.instanceMethod yX3_copyFrom, Cond.selects RX3 yX3_copyFrom yX3_copyFrom, Cond.initialized RX3, Cond.code yX3_copyFrom cX3_copyFrom 3 none, Cond.fieldLink RX3 12 "CupReceipts$House" "lots" "LCupReceipts$Lots;", Cond.fieldLink RX3 21 "CupReceipts$House" "contracts" "LCupReceipts$Contracts;", Cond.fieldLink RX3 34 "CupReceipts$House" "worths" "[I", Cond.fieldLink RX3 40 "CupReceipts$House" "settings" "[I", Cond.fieldLink RX3 50 "CupReceipts$House" "month" "I", Cond.fieldLink RX3 54 "CupReceipts$House" "account" "I", Cond.fieldLink RX3 57 "CupReceipts$House" "contractsMet" "I", Cond.fieldLink RX3 60 "CupReceipts$House" "contractsFailed" "I", Cond.fieldLink RX3 63 "CupReceipts$House" "bagsGiven" "I", Cond.methodLink RX3 43 yX4_copyFrom, Cond.instanceMethod yX4_copyFrom, Cond.selects RX4 yX4_copyFrom yX4_copyFrom, Cond.initialized RX4, Cond.code yX4_copyFrom cX4_copyFrom 3 none, Cond.fieldLink RX4 9 "CupReceipts$Lots" "numbers" "[I", Cond.fieldLink RX4 15 "CupReceipts$Lots" "bags" "[I", Cond.fieldLink RX4 18 "CupReceipts$Lots" "cups" "[I"]
def wsX6_blend_r2 : List Cond := [Cond.fieldLink RX4 21 "CupReceipts$Lots" "months" "[I", Cond.fieldLink RX4 24 "CupReceipts$Lots" "size" "I", Cond.fieldLink RX4 28 "CupReceipts$Lots" "made" "I", Cond.methodLink RX3 47 yX0_copyFrom, Cond.instanceMethod yX0_copyFrom, Cond.selects RX0 yX0_copyFrom yX0_copyFrom, Cond.initialized RX0, Cond.code yX0_copyFrom cX0_copyFrom 3 none, Cond.fieldLink RX0 9 "CupReceipts$Contracts" "months" "[I", Cond.fieldLink RX0 15 "CupReceipts$Contracts" "prices" "[I", Cond.fieldLink RX0 18 "CupReceipts$Contracts" "size" "I", Cond.methodLink RX6 55 yX3_blendLots, Cond.instanceMethod yX3_blendLots, Cond.selects RX3 yX3_blendLots yX3_blendLots, Cond.code yX3_blendLots cX3_blendLots 11 (some .int), Cond.constant RX3 70 (-2000000001), Cond.fieldLink RX3 79 "CupReceipts$Lots" "bags" "[I", Cond.constant RX3 82 (-2000000002), Cond.constant RX3 87 (-2000000003), Cond.methodLink RX3 75 yX4_rowOf, Cond.instanceMethod yX4_rowOf, Cond.selects RX4 yX4_rowOf yX4_rowOf, Cond.code yX4_rowOf cX4_rowOf 3 (some .int), Cond.methodLink RX3 83 yX4_isFull]
def wsX6_blend_r3 : List Cond := [Cond.instanceMethod yX4_isFull, Cond.selects RX4 yX4_isFull yX4_isFull, Cond.code yX4_isFull cX4_isFull 1 (some .boolean), Cond.methodLink RX3 94 yX4_cupAt, Cond.instanceMethod yX4_cupAt, Cond.selects RX4 yX4_cupAt yX4_cupAt, Cond.code yX4_cupAt cX4_cupAt 4 (some .int), Cond.methodLink RX3 98 yX4_dropEmpty, Cond.instanceMethod yX4_dropEmpty, Cond.selects RX4 yX4_dropEmpty yX4_dropEmpty, Cond.code yX4_dropEmpty cX4_dropEmpty 3 none, Cond.methodLink RX3 71 yX4_add, Cond.instanceMethod yX4_add, Cond.selects RX4 yX4_add yX4_add, Cond.code yX4_add cX4_add 4 (some .int), Cond.constant RX4 35 (-2000000003), Cond.methodLink RX4 31 yX4_isFull, Cond.methodLink RX6 48 yX6_accept, Cond.instanceMethod yX6_accept, Cond.selects RX6 yX6_accept yX6_accept, Cond.initialized RX6, Cond.code yX6_accept cX6_accept 2 (some .int), Cond.fieldLink RX6 22 "CupReceipts" "history" "LCupReceipts$History;", Cond.methodLink RX6 217 yX6_isError]
def wsX6_blend_r4 : List Cond := [Cond.static yX6_isError, Cond.code yX6_isError cX6_isError 1 (some .boolean), Cond.constant RX6 102 (-2000000004), Cond.constant RX6 90 (-2000000001), Cond.methodLink RX6 122 yX6_isWithin, Cond.static yX6_isWithin, Cond.code yX6_isWithin cX6_isWithin 3 (some .boolean), Cond.methodLink RX6 220 yX2_record, Cond.instanceMethod yX2_record, Cond.selects RX2 yX2_record yX2_record, Cond.initialized RX2, Cond.code yX2_record cX2_record 2 none, Cond.fieldLink RX2 18 "CupReceipts$History" "states" "I", Cond.fieldLink RX2 11 "CupReceipts$History" "rooms" "[LCupReceipts$House;", Cond.methodLink RX2 22 yX2_dropOldest, Cond.instanceMethod yX2_dropOldest, Cond.selects RX2 yX2_dropOldest yX2_dropOldest, Cond.code yX2_dropOldest cX2_dropOldest 3 none, Cond.methodLink RX2 25 yX3_copyFrom]
def wsX6_blend : List Cond := .code yX6_blend cX6_blend 5 (some .int) :: ((wsX6_blend_r1 ++ (wsX6_blend_r2 ++ (wsX6_blend_r3 ++ wsX6_blend_r4))) ++ wsX60 ++ wsX30 ++ wsX40 ++ wsX00 ++ wsX20)
def wsX6_cup_r1 : List Cond := [Cond.fieldLink RX6 16 "CupReceipts" "trial" "LCupReceipts$House;", Cond.fieldLink RX6 10 "CupReceipts" "house" "LCupReceipts$House;", Cond.methodLink RX6 40 yX3_copyFrom, Cond.instanceMethod yX3_copyFrom, Cond.selects RX3 yX3_copyFrom yX3_copyFrom, Cond.initialized RX3, Cond.code yX3_copyFrom cX3_copyFrom 3 none, Cond.fieldLink RX3 12 "CupReceipts$House" "lots" "LCupReceipts$Lots;", Cond.fieldLink RX3 21 "CupReceipts$House" "contracts" "LCupReceipts$Contracts;", Cond.fieldLink RX3 34 "CupReceipts$House" "worths" "[I", Cond.fieldLink RX3 40 "CupReceipts$House" "settings" "[I", Cond.fieldLink RX3 50 "CupReceipts$House" "month" "I", Cond.fieldLink RX3 54 "CupReceipts$House" "account" "I", Cond.fieldLink RX3 57 "CupReceipts$House" "contractsMet" "I", Cond.fieldLink RX3 60 "CupReceipts$House" "contractsFailed" "I", Cond.fieldLink RX3 63 "CupReceipts$House" "bagsGiven" "I", Cond.methodLink RX3 43 yX4_copyFrom, Cond.instanceMethod yX4_copyFrom, Cond.selects RX4 yX4_copyFrom yX4_copyFrom, Cond.initialized RX4, Cond.code yX4_copyFrom cX4_copyFrom 3 none, Cond.fieldLink RX4 9 "CupReceipts$Lots" "numbers" "[I", Cond.fieldLink RX4 15 "CupReceipts$Lots" "bags" "[I", Cond.fieldLink RX4 18 "CupReceipts$Lots" "cups" "[I"]
def wsX6_cup_r2 : List Cond := [Cond.fieldLink RX4 21 "CupReceipts$Lots" "months" "[I", Cond.fieldLink RX4 24 "CupReceipts$Lots" "size" "I", Cond.fieldLink RX4 28 "CupReceipts$Lots" "made" "I", Cond.methodLink RX3 47 yX0_copyFrom, Cond.instanceMethod yX0_copyFrom, Cond.selects RX0 yX0_copyFrom yX0_copyFrom, Cond.initialized RX0, Cond.code yX0_copyFrom cX0_copyFrom 3 none, Cond.fieldLink RX0 9 "CupReceipts$Contracts" "months" "[I", Cond.fieldLink RX0 15 "CupReceipts$Contracts" "prices" "[I", Cond.fieldLink RX0 18 "CupReceipts$Contracts" "size" "I", Cond.methodLink RX6 59 yX3_cupAnew, Cond.instanceMethod yX3_cupAnew, Cond.selects RX3 yX3_cupAnew yX3_cupAnew, Cond.code yX3_cupAnew cX3_cupAnew 3 (some .int), Cond.constant RX3 70 (-2000000001), Cond.fieldLink RX3 79 "CupReceipts$Lots" "bags" "[I", Cond.constant RX3 82 (-2000000002), Cond.fieldLink RX3 88 "CupReceipts$Lots" "cups" "[I", Cond.fieldLink RX3 91 "CupReceipts$Lots" "months" "[I", Cond.methodLink RX3 75 yX4_rowOf, Cond.instanceMethod yX4_rowOf, Cond.selects RX4 yX4_rowOf yX4_rowOf, Cond.code yX4_rowOf cX4_rowOf 3 (some .int)]
def wsX6_cup_r3 : List Cond := [Cond.methodLink RX3 94 yX4_cupAt, Cond.instanceMethod yX4_cupAt, Cond.selects RX4 yX4_cupAt yX4_cupAt, Cond.code yX4_cupAt cX4_cupAt 4 (some .int), Cond.methodLink RX6 48 yX6_accept, Cond.instanceMethod yX6_accept, Cond.selects RX6 yX6_accept yX6_accept, Cond.initialized RX6, Cond.code yX6_accept cX6_accept 2 (some .int), Cond.fieldLink RX6 22 "CupReceipts" "history" "LCupReceipts$History;", Cond.methodLink RX6 217 yX6_isError, Cond.static yX6_isError, Cond.code yX6_isError cX6_isError 1 (some .boolean), Cond.constant RX6 102 (-2000000004), Cond.constant RX6 90 (-2000000001), Cond.methodLink RX6 122 yX6_isWithin, Cond.static yX6_isWithin, Cond.code yX6_isWithin cX6_isWithin 3 (some .boolean), Cond.methodLink RX6 220 yX2_record, Cond.instanceMethod yX2_record, Cond.selects RX2 yX2_record yX2_record, Cond.initialized RX2, Cond.code yX2_record cX2_record 2 none, Cond.fieldLink RX2 18 "CupReceipts$History" "states" "I"]
def wsX6_cup_r4 : List Cond := [Cond.fieldLink RX2 11 "CupReceipts$History" "rooms" "[LCupReceipts$House;", Cond.methodLink RX2 22 yX2_dropOldest, Cond.instanceMethod yX2_dropOldest, Cond.selects RX2 yX2_dropOldest yX2_dropOldest, Cond.code yX2_dropOldest cX2_dropOldest 3 none, Cond.methodLink RX2 25 yX3_copyFrom]
def wsX6_cup : List Cond := .code yX6_cup cX6_cup 2 (some .int) :: ((wsX6_cup_r1 ++ (wsX6_cup_r2 ++ (wsX6_cup_r3 ++ wsX6_cup_r4))) ++ wsX60 ++ wsX30 ++ wsX40 ++ wsX00 ++ wsX20)
def wsX6_worth_r1 : List Cond := [Cond.fieldLink RX6 16 "CupReceipts" "trial" "LCupReceipts$House;", Cond.fieldLink RX6 10 "CupReceipts" "house" "LCupReceipts$House;", Cond.methodLink RX6 40 yX3_copyFrom, Cond.instanceMethod yX3_copyFrom, Cond.selects RX3 yX3_copyFrom yX3_copyFrom, Cond.initialized RX3, Cond.code yX3_copyFrom cX3_copyFrom 3 none, Cond.fieldLink RX3 12 "CupReceipts$House" "lots" "LCupReceipts$Lots;", Cond.fieldLink RX3 21 "CupReceipts$House" "contracts" "LCupReceipts$Contracts;", Cond.fieldLink RX3 34 "CupReceipts$House" "worths" "[I", Cond.fieldLink RX3 40 "CupReceipts$House" "settings" "[I", Cond.fieldLink RX3 50 "CupReceipts$House" "month" "I", Cond.fieldLink RX3 54 "CupReceipts$House" "account" "I", Cond.fieldLink RX3 57 "CupReceipts$House" "contractsMet" "I", Cond.fieldLink RX3 60 "CupReceipts$House" "contractsFailed" "I", Cond.fieldLink RX3 63 "CupReceipts$House" "bagsGiven" "I", Cond.methodLink RX3 43 yX4_copyFrom, Cond.instanceMethod yX4_copyFrom, Cond.selects RX4 yX4_copyFrom yX4_copyFrom, Cond.initialized RX4, Cond.code yX4_copyFrom cX4_copyFrom 3 none, Cond.fieldLink RX4 9 "CupReceipts$Lots" "numbers" "[I", Cond.fieldLink RX4 15 "CupReceipts$Lots" "bags" "[I", Cond.fieldLink RX4 18 "CupReceipts$Lots" "cups" "[I"]
def wsX6_worth_r2 : List Cond := [Cond.fieldLink RX4 21 "CupReceipts$Lots" "months" "[I", Cond.fieldLink RX4 24 "CupReceipts$Lots" "size" "I", Cond.fieldLink RX4 28 "CupReceipts$Lots" "made" "I", Cond.methodLink RX3 47 yX0_copyFrom, Cond.instanceMethod yX0_copyFrom, Cond.selects RX0 yX0_copyFrom yX0_copyFrom, Cond.initialized RX0, Cond.code yX0_copyFrom cX0_copyFrom 3 none, Cond.fieldLink RX0 9 "CupReceipts$Contracts" "months" "[I", Cond.fieldLink RX0 15 "CupReceipts$Contracts" "prices" "[I", Cond.fieldLink RX0 18 "CupReceipts$Contracts" "size" "I", Cond.methodLink RX6 62 yX3_changeWorth, Cond.instanceMethod yX3_changeWorth, Cond.selects RX3 yX3_changeWorth yX3_changeWorth, Cond.code yX3_changeWorth cX3_changeWorth 4 (some .int), Cond.constant RX3 70 (-2000000001), Cond.static yX6_isWithin, Cond.initialized RX6, Cond.code yX6_isWithin cX6_isWithin 3 (some .boolean), Cond.methodLink RX6 48 yX6_accept, Cond.instanceMethod yX6_accept, Cond.selects RX6 yX6_accept yX6_accept, Cond.code yX6_accept cX6_accept 2 (some .int), Cond.fieldLink RX6 22 "CupReceipts" "history" "LCupReceipts$History;"]
def wsX6_worth_r3 : List Cond := [Cond.methodLink RX6 217 yX6_isError, Cond.static yX6_isError, Cond.code yX6_isError cX6_isError 1 (some .boolean), Cond.constant RX6 102 (-2000000004), Cond.constant RX6 90 (-2000000001), Cond.methodLink RX6 122 yX6_isWithin, Cond.methodLink RX6 220 yX2_record, Cond.instanceMethod yX2_record, Cond.selects RX2 yX2_record yX2_record, Cond.initialized RX2, Cond.code yX2_record cX2_record 2 none, Cond.fieldLink RX2 18 "CupReceipts$History" "states" "I", Cond.fieldLink RX2 11 "CupReceipts$History" "rooms" "[LCupReceipts$House;", Cond.methodLink RX2 22 yX2_dropOldest, Cond.instanceMethod yX2_dropOldest, Cond.selects RX2 yX2_dropOldest yX2_dropOldest, Cond.code yX2_dropOldest cX2_dropOldest 3 none, Cond.methodLink RX2 25 yX3_copyFrom]
def wsX6_worth : List Cond := .code yX6_worth cX6_worth 3 (some .int) :: ((wsX6_worth_r1 ++ (wsX6_worth_r2 ++ wsX6_worth_r3)) ++ wsX60 ++ wsX30 ++ wsX40 ++ wsX00 ++ wsX20)
def wsX6_sell_r1 : List Cond := [Cond.fieldLink RX6 16 "CupReceipts" "trial" "LCupReceipts$House;", Cond.fieldLink RX6 10 "CupReceipts" "house" "LCupReceipts$House;", Cond.methodLink RX6 40 yX3_copyFrom, Cond.instanceMethod yX3_copyFrom, Cond.selects RX3 yX3_copyFrom yX3_copyFrom, Cond.initialized RX3, Cond.code yX3_copyFrom cX3_copyFrom 3 none, Cond.fieldLink RX3 12 "CupReceipts$House" "lots" "LCupReceipts$Lots;", Cond.fieldLink RX3 21 "CupReceipts$House" "contracts" "LCupReceipts$Contracts;", Cond.fieldLink RX3 34 "CupReceipts$House" "worths" "[I", Cond.fieldLink RX3 40 "CupReceipts$House" "settings" "[I", Cond.fieldLink RX3 50 "CupReceipts$House" "month" "I", Cond.fieldLink RX3 54 "CupReceipts$House" "account" "I", Cond.fieldLink RX3 57 "CupReceipts$House" "contractsMet" "I", Cond.fieldLink RX3 60 "CupReceipts$House" "contractsFailed" "I", Cond.fieldLink RX3 63 "CupReceipts$House" "bagsGiven" "I", Cond.methodLink RX3 43 yX4_copyFrom, Cond.instanceMethod yX4_copyFrom, Cond.selects RX4 yX4_copyFrom yX4_copyFrom, Cond.initialized RX4, Cond.code yX4_copyFrom cX4_copyFrom 3 none, Cond.fieldLink RX4 9 "CupReceipts$Lots" "numbers" "[I", Cond.fieldLink RX4 15 "CupReceipts$Lots" "bags" "[I", Cond.fieldLink RX4 18 "CupReceipts$Lots" "cups" "[I"]
def wsX6_sell_r2 : List Cond := [Cond.fieldLink RX4 21 "CupReceipts$Lots" "months" "[I", Cond.fieldLink RX4 24 "CupReceipts$Lots" "size" "I", Cond.fieldLink RX4 28 "CupReceipts$Lots" "made" "I", Cond.methodLink RX3 47 yX0_copyFrom, Cond.instanceMethod yX0_copyFrom, Cond.selects RX0 yX0_copyFrom yX0_copyFrom, Cond.initialized RX0, Cond.code yX0_copyFrom cX0_copyFrom 3 none, Cond.fieldLink RX0 9 "CupReceipts$Contracts" "months" "[I", Cond.fieldLink RX0 15 "CupReceipts$Contracts" "prices" "[I", Cond.fieldLink RX0 18 "CupReceipts$Contracts" "size" "I", Cond.methodLink RX6 65 yX3_sellContract, Cond.instanceMethod yX3_sellContract, Cond.selects RX3 yX3_sellContract yX3_sellContract, Cond.code yX3_sellContract cX3_sellContract 3 (some .int), Cond.constant RX3 70 (-2000000001), Cond.constant RX3 82 (-2000000002), Cond.static yX6_isWithin, Cond.initialized RX6, Cond.code yX6_isWithin cX6_isWithin 3 (some .boolean), Cond.methodLink RX3 101 yX3_isDeliveryMonth, Cond.instanceMethod yX3_isDeliveryMonth, Cond.selects RX3 yX3_isDeliveryMonth yX3_isDeliveryMonth, Cond.code yX3_isDeliveryMonth cX3_isDeliveryMonth 2 (some .boolean)]
def wsX6_sell_r3 : List Cond := [Cond.methodLink RX3 149 yJ9_floorMod_7cf53, Cond.static yJ9_floorMod_7cf53, Cond.initialized RJ9, Cond.code yJ9_floorMod_7cf53 cJ9_floorMod_7cf53 3 (some .int), Cond.methodLink RX3 105 yX0_add, Cond.instanceMethod yX0_add, Cond.selects RX0 yX0_add yX0_add, Cond.code yX0_add cX0_add 3 (some .int), Cond.constant RX0 22 (-2000000003), Cond.methodLink RX6 48 yX6_accept, Cond.instanceMethod yX6_accept, Cond.selects RX6 yX6_accept yX6_accept, Cond.code yX6_accept cX6_accept 2 (some .int), Cond.fieldLink RX6 22 "CupReceipts" "history" "LCupReceipts$History;", Cond.methodLink RX6 217 yX6_isError, Cond.static yX6_isError, Cond.code yX6_isError cX6_isError 1 (some .boolean), Cond.constant RX6 102 (-2000000004), Cond.constant RX6 90 (-2000000001), Cond.methodLink RX6 122 yX6_isWithin, Cond.methodLink RX6 220 yX2_record, Cond.instanceMethod yX2_record, Cond.selects RX2 yX2_record yX2_record, Cond.initialized RX2]
def wsX6_sell_r4 : List Cond := [Cond.code yX2_record cX2_record 2 none, Cond.fieldLink RX2 18 "CupReceipts$History" "states" "I", Cond.fieldLink RX2 11 "CupReceipts$History" "rooms" "[LCupReceipts$House;", Cond.methodLink RX2 22 yX2_dropOldest, Cond.instanceMethod yX2_dropOldest, Cond.selects RX2 yX2_dropOldest yX2_dropOldest, Cond.code yX2_dropOldest cX2_dropOldest 3 none, Cond.methodLink RX2 25 yX3_copyFrom]
def wsX6_sell : List Cond := .code yX6_sell cX6_sell 3 (some .int) :: ((wsX6_sell_r1 ++ (wsX6_sell_r2 ++ (wsX6_sell_r3 ++ wsX6_sell_r4))) ++ wsX60 ++ wsX30 ++ wsX40 ++ wsX00 ++ wsX20)
def wsX6_buyBack_r1 : List Cond := [Cond.fieldLink RX6 16 "CupReceipts" "trial" "LCupReceipts$House;", Cond.fieldLink RX6 10 "CupReceipts" "house" "LCupReceipts$House;", Cond.methodLink RX6 40 yX3_copyFrom, Cond.instanceMethod yX3_copyFrom, Cond.selects RX3 yX3_copyFrom yX3_copyFrom, Cond.initialized RX3, Cond.code yX3_copyFrom cX3_copyFrom 3 none, Cond.fieldLink RX3 12 "CupReceipts$House" "lots" "LCupReceipts$Lots;", Cond.fieldLink RX3 21 "CupReceipts$House" "contracts" "LCupReceipts$Contracts;", Cond.fieldLink RX3 34 "CupReceipts$House" "worths" "[I", Cond.fieldLink RX3 40 "CupReceipts$House" "settings" "[I", Cond.fieldLink RX3 50 "CupReceipts$House" "month" "I", Cond.fieldLink RX3 54 "CupReceipts$House" "account" "I", Cond.fieldLink RX3 57 "CupReceipts$House" "contractsMet" "I", Cond.fieldLink RX3 60 "CupReceipts$House" "contractsFailed" "I", Cond.fieldLink RX3 63 "CupReceipts$House" "bagsGiven" "I", Cond.methodLink RX3 43 yX4_copyFrom, Cond.instanceMethod yX4_copyFrom, Cond.selects RX4 yX4_copyFrom yX4_copyFrom, Cond.initialized RX4, Cond.code yX4_copyFrom cX4_copyFrom 3 none, Cond.fieldLink RX4 9 "CupReceipts$Lots" "numbers" "[I", Cond.fieldLink RX4 15 "CupReceipts$Lots" "bags" "[I", Cond.fieldLink RX4 18 "CupReceipts$Lots" "cups" "[I"]
def wsX6_buyBack_r2 : List Cond := [Cond.fieldLink RX4 21 "CupReceipts$Lots" "months" "[I", Cond.fieldLink RX4 24 "CupReceipts$Lots" "size" "I", Cond.fieldLink RX4 28 "CupReceipts$Lots" "made" "I", Cond.methodLink RX3 47 yX0_copyFrom, Cond.instanceMethod yX0_copyFrom, Cond.selects RX0 yX0_copyFrom yX0_copyFrom, Cond.initialized RX0, Cond.code yX0_copyFrom cX0_copyFrom 3 none, Cond.fieldLink RX0 9 "CupReceipts$Contracts" "months" "[I", Cond.fieldLink RX0 15 "CupReceipts$Contracts" "prices" "[I", Cond.fieldLink RX0 18 "CupReceipts$Contracts" "size" "I", Cond.methodLink RX6 68 yX3_buyContractBack, Cond.instanceMethod yX3_buyContractBack, Cond.selects RX3 yX3_buyContractBack yX3_buyContractBack, Cond.code yX3_buyContractBack cX3_buyContractBack 4 (some .int), Cond.constant RX3 70 (-2000000001), Cond.fieldLink RX3 110 "CupReceipts$Contracts" "prices" "[I", Cond.methodLink RX3 107 yX0_isOpen, Cond.instanceMethod yX0_isOpen, Cond.selects RX0 yX0_isOpen yX0_isOpen, Cond.code yX0_isOpen cX0_isOpen 2 (some .boolean), Cond.static yX6_isWithin, Cond.initialized RX6, Cond.code yX6_isWithin cX6_isWithin 3 (some .boolean)]
def wsX6_buyBack_r3 : List Cond := [Cond.methodLink RX3 113 yX0_drop, Cond.instanceMethod yX0_drop, Cond.selects RX0 yX0_drop yX0_drop, Cond.code yX0_drop cX0_drop 3 none, Cond.methodLink RX0 23 yX0_isOpen, Cond.methodLink RX6 48 yX6_accept, Cond.instanceMethod yX6_accept, Cond.selects RX6 yX6_accept yX6_accept, Cond.code yX6_accept cX6_accept 2 (some .int), Cond.fieldLink RX6 22 "CupReceipts" "history" "LCupReceipts$History;", Cond.methodLink RX6 217 yX6_isError, Cond.static yX6_isError, Cond.code yX6_isError cX6_isError 1 (some .boolean), Cond.constant RX6 102 (-2000000004), Cond.constant RX6 90 (-2000000001), Cond.methodLink RX6 122 yX6_isWithin, Cond.methodLink RX6 220 yX2_record, Cond.instanceMethod yX2_record, Cond.selects RX2 yX2_record yX2_record, Cond.initialized RX2, Cond.code yX2_record cX2_record 2 none, Cond.fieldLink RX2 18 "CupReceipts$History" "states" "I", Cond.fieldLink RX2 11 "CupReceipts$History" "rooms" "[LCupReceipts$House;", Cond.methodLink RX2 22 yX2_dropOldest]
def wsX6_buyBack_r4 : List Cond := [Cond.instanceMethod yX2_dropOldest, Cond.selects RX2 yX2_dropOldest yX2_dropOldest, Cond.code yX2_dropOldest cX2_dropOldest 3 none, Cond.methodLink RX2 25 yX3_copyFrom]
def wsX6_buyBack : List Cond := .code yX6_buyBack cX6_buyBack 3 (some .int) :: ((wsX6_buyBack_r1 ++ (wsX6_buyBack_r2 ++ (wsX6_buyBack_r3 ++ wsX6_buyBack_r4))) ++ wsX60 ++ wsX30 ++ wsX40 ++ wsX00 ++ wsX20)
def wsX6_meet_r1 : List Cond := [Cond.fieldLink RX6 16 "CupReceipts" "trial" "LCupReceipts$House;", Cond.fieldLink RX6 10 "CupReceipts" "house" "LCupReceipts$House;", Cond.fieldLink RX6 29 "CupReceipts" "delivery" "LCupReceipts$Delivery;", Cond.methodLink RX6 40 yX3_copyFrom, Cond.instanceMethod yX3_copyFrom, Cond.selects RX3 yX3_copyFrom yX3_copyFrom, Cond.initialized RX3, Cond.code yX3_copyFrom cX3_copyFrom 3 none, Cond.fieldLink RX3 12 "CupReceipts$House" "lots" "LCupReceipts$Lots;", Cond.fieldLink RX3 21 "CupReceipts$House" "contracts" "LCupReceipts$Contracts;", Cond.fieldLink RX3 34 "CupReceipts$House" "worths" "[I", Cond.fieldLink RX3 40 "CupReceipts$House" "settings" "[I", Cond.fieldLink RX3 50 "CupReceipts$House" "month" "I", Cond.fieldLink RX3 54 "CupReceipts$House" "account" "I", Cond.fieldLink RX3 57 "CupReceipts$House" "contractsMet" "I", Cond.fieldLink RX3 60 "CupReceipts$House" "contractsFailed" "I", Cond.fieldLink RX3 63 "CupReceipts$House" "bagsGiven" "I", Cond.methodLink RX3 43 yX4_copyFrom, Cond.instanceMethod yX4_copyFrom, Cond.selects RX4 yX4_copyFrom yX4_copyFrom, Cond.initialized RX4, Cond.code yX4_copyFrom cX4_copyFrom 3 none, Cond.fieldLink RX4 9 "CupReceipts$Lots" "numbers" "[I", Cond.fieldLink RX4 15 "CupReceipts$Lots" "bags" "[I"]
def wsX6_meet_r2 : List Cond := [Cond.fieldLink RX4 18 "CupReceipts$Lots" "cups" "[I", Cond.fieldLink RX4 21 "CupReceipts$Lots" "months" "[I", Cond.fieldLink RX4 24 "CupReceipts$Lots" "size" "I", Cond.fieldLink RX4 28 "CupReceipts$Lots" "made" "I", Cond.methodLink RX3 47 yX0_copyFrom, Cond.instanceMethod yX0_copyFrom, Cond.selects RX0 yX0_copyFrom yX0_copyFrom, Cond.initialized RX0, Cond.code yX0_copyFrom cX0_copyFrom 3 none, Cond.fieldLink RX0 9 "CupReceipts$Contracts" "months" "[I", Cond.fieldLink RX0 15 "CupReceipts$Contracts" "prices" "[I", Cond.fieldLink RX0 18 "CupReceipts$Contracts" "size" "I", Cond.methodLink RX6 71 yX3_meetContract, Cond.instanceMethod yX3_meetContract, Cond.selects RX3 yX3_meetContract yX3_meetContract, Cond.code yX3_meetContract cX3_meetContract 4 (some .int), Cond.constant RX3 70 (-2000000001), Cond.fieldLink RX3 117 "CupReceipts$Contracts" "months" "[I", Cond.constant RX3 82 (-2000000002), Cond.fieldLink RX3 110 "CupReceipts$Contracts" "prices" "[I", Cond.fieldLink RX3 124 "CupReceipts$Delivery" "missing" "I", Cond.fieldLink RX3 127 "CupReceipts$Delivery" "places" "I", Cond.fieldLink RX3 79 "CupReceipts$Lots" "bags" "[I", Cond.fieldLink RX3 130 "CupReceipts$Delivery" "rows" "[I"]
def wsX6_meet_r3 : List Cond := [Cond.fieldLink RX3 133 "CupReceipts$Delivery" "bags" "[I", Cond.fieldLink RX3 134 "CupReceipts$Delivery" "pay" "I", Cond.methodLink RX3 107 yX0_isOpen, Cond.instanceMethod yX0_isOpen, Cond.selects RX0 yX0_isOpen yX0_isOpen, Cond.code yX0_isOpen cX0_isOpen 2 (some .boolean), Cond.methodLink RX3 118 yX1_plan, Cond.instanceMethod yX1_plan, Cond.selects RX1 yX1_plan yX1_plan, Cond.initialized RX1, Cond.code yX1_plan cX1_plan 6 none, Cond.fieldLink RX1 35 "CupReceipts$Delivery" "places" "I", Cond.fieldLink RX1 39 "CupReceipts$House" "settings" "[I", Cond.fieldLink RX1 44 "CupReceipts$Delivery" "missing" "I", Cond.fieldLink RX1 47 "CupReceipts$Delivery" "pay" "I", Cond.fieldLink RX1 50 "CupReceipts$Delivery" "gain" "I", Cond.fieldLink RX1 53 "CupReceipts$Delivery" "sumOfCups" "I", Cond.fieldLink RX1 56 "CupReceipts$Delivery" "usedUp" "I", Cond.fieldLink RX1 59 "CupReceipts$House" "lots" "LCupReceipts$Lots;", Cond.fieldLink RX1 63 "CupReceipts$Lots" "size" "I", Cond.fieldLink RX1 72 "CupReceipts$Lots" "bags" "[I", Cond.methodLink RX1 31 yX1_rate, Cond.instanceMethod yX1_rate, Cond.selects RX1 yX1_rate yX1_rate]
def wsX6_meet_r4 : List Cond := [Cond.code yX1_rate cX1_rate 6 none, Cond.fieldLink RX1 18 "CupReceipts$Delivery" "waiting" "[Z", Cond.fieldLink RX1 22 "CupReceipts$Delivery" "cups" "[I", Cond.fieldLink RX1 25 "CupReceipts$Delivery" "pays" "[I", Cond.fieldLink RX1 28 "CupReceipts$Delivery" "gains" "[I", Cond.fieldLink RX1 88 "CupReceipts$House" "worths" "[I", Cond.methodLink RX1 77 yX4_cupAt, Cond.instanceMethod yX4_cupAt, Cond.selects RX4 yX4_cupAt yX4_cupAt, Cond.code yX4_cupAt cX4_cupAt 4 (some .int), Cond.methodLink RX1 81 yX4_monthsTooOld, Cond.instanceMethod yX4_monthsTooOld, Cond.selects RX4 yX4_monthsTooOld yX4_monthsTooOld, Cond.code yX4_monthsTooOld cX4_monthsTooOld 4 (some .int), Cond.methodLink RX1 84 yX3_payForBag, Cond.instanceMethod yX3_payForBag, Cond.selects RX3 yX3_payForBag yX3_payForBag, Cond.code yX3_payForBag cX3_payForBag 5 (some .int), Cond.static yX6_bandOf, Cond.initialized RX6, Cond.code yX6_bandOf cX6_bandOf 1 (some .int), Cond.methodLink RX1 68 yX1_rowOfGreatestGain, Cond.instanceMethod yX1_rowOfGreatestGain, Cond.selects RX1 yX1_rowOfGreatestGain yX1_rowOfGreatestGain]
def wsX6_meet_r5 : List Cond := [Cond.code yX1_rowOfGreatestGain cX1_rowOfGreatestGain 4 (some .int), Cond.methodLink RX1 73 yX1_take, Cond.instanceMethod yX1_take, Cond.selects RX1 yX1_take yX1_take, Cond.code yX1_take cX1_take 4 none, Cond.methodLink RX1 94 Lib.Math.min.name, Cond.static Lib.Math.min.name, Cond.initialized "java/lang/Math", Cond.code Lib.Math.min.name Lib.Math.min.code 2 (some .int), Cond.fieldLink RX1 9 "CupReceipts$Delivery" "rows" "[I", Cond.fieldLink RX1 15 "CupReceipts$Delivery" "bags" "[I", Cond.methodLink RX3 98 yX4_dropEmpty, Cond.instanceMethod yX4_dropEmpty, Cond.selects RX4 yX4_dropEmpty yX4_dropEmpty, Cond.code yX4_dropEmpty cX4_dropEmpty 3 none, Cond.methodLink RX3 113 yX0_drop, Cond.instanceMethod yX0_drop, Cond.selects RX0 yX0_drop yX0_drop, Cond.code yX0_drop cX0_drop 3 none, Cond.methodLink RX0 23 yX0_isOpen, Cond.methodLink RX6 48 yX6_accept, Cond.instanceMethod yX6_accept, Cond.selects RX6 yX6_accept yX6_accept, Cond.code yX6_accept cX6_accept 2 (some .int)]
def wsX6_meet_r6 : List Cond := [Cond.fieldLink RX6 22 "CupReceipts" "history" "LCupReceipts$History;", Cond.methodLink RX6 217 yX6_isError, Cond.static yX6_isError, Cond.code yX6_isError cX6_isError 1 (some .boolean), Cond.constant RX6 102 (-2000000004), Cond.constant RX6 90 (-2000000001), Cond.methodLink RX6 122 yX6_isWithin, Cond.static yX6_isWithin, Cond.code yX6_isWithin cX6_isWithin 3 (some .boolean), Cond.methodLink RX6 220 yX2_record, Cond.instanceMethod yX2_record, Cond.selects RX2 yX2_record yX2_record, Cond.initialized RX2, Cond.code yX2_record cX2_record 2 none, Cond.fieldLink RX2 18 "CupReceipts$History" "states" "I", Cond.fieldLink RX2 11 "CupReceipts$History" "rooms" "[LCupReceipts$House;", Cond.methodLink RX2 22 yX2_dropOldest, Cond.instanceMethod yX2_dropOldest, Cond.selects RX2 yX2_dropOldest yX2_dropOldest, Cond.code yX2_dropOldest cX2_dropOldest 3 none, Cond.methodLink RX2 25 yX3_copyFrom]
def wsX6_meet : List Cond := .code yX6_meet cX6_meet 2 (some .int) :: ((wsX6_meet_r1 ++ (wsX6_meet_r2 ++ (wsX6_meet_r3 ++ (wsX6_meet_r4 ++ (wsX6_meet_r5 ++ wsX6_meet_r6))))) ++ wsX60 ++ wsX30 ++ wsX40 ++ wsX00 ++ wsX10 ++ wsX20)
def wsX6_pass_r1 : List Cond := [Cond.fieldLink RX6 16 "CupReceipts" "trial" "LCupReceipts$House;", Cond.fieldLink RX6 10 "CupReceipts" "house" "LCupReceipts$House;", Cond.methodLink RX6 40 yX3_copyFrom, Cond.instanceMethod yX3_copyFrom, Cond.selects RX3 yX3_copyFrom yX3_copyFrom, Cond.initialized RX3, Cond.code yX3_copyFrom cX3_copyFrom 3 none, Cond.fieldLink RX3 12 "CupReceipts$House" "lots" "LCupReceipts$Lots;", Cond.fieldLink RX3 21 "CupReceipts$House" "contracts" "LCupReceipts$Contracts;", Cond.fieldLink RX3 34 "CupReceipts$House" "worths" "[I", Cond.fieldLink RX3 40 "CupReceipts$House" "settings" "[I", Cond.fieldLink RX3 50 "CupReceipts$House" "month" "I", Cond.fieldLink RX3 54 "CupReceipts$House" "account" "I", Cond.fieldLink RX3 57 "CupReceipts$House" "contractsMet" "I", Cond.fieldLink RX3 60 "CupReceipts$House" "contractsFailed" "I", Cond.fieldLink RX3 63 "CupReceipts$House" "bagsGiven" "I", Cond.methodLink RX3 43 yX4_copyFrom, Cond.instanceMethod yX4_copyFrom, Cond.selects RX4 yX4_copyFrom yX4_copyFrom, Cond.initialized RX4, Cond.code yX4_copyFrom cX4_copyFrom 3 none, Cond.fieldLink RX4 9 "CupReceipts$Lots" "numbers" "[I", Cond.fieldLink RX4 15 "CupReceipts$Lots" "bags" "[I", Cond.fieldLink RX4 18 "CupReceipts$Lots" "cups" "[I"]
def wsX6_pass_r2 : List Cond := [Cond.fieldLink RX4 21 "CupReceipts$Lots" "months" "[I", Cond.fieldLink RX4 24 "CupReceipts$Lots" "size" "I", Cond.fieldLink RX4 28 "CupReceipts$Lots" "made" "I", Cond.methodLink RX3 47 yX0_copyFrom, Cond.instanceMethod yX0_copyFrom, Cond.selects RX0 yX0_copyFrom yX0_copyFrom, Cond.initialized RX0, Cond.code yX0_copyFrom cX0_copyFrom 3 none, Cond.fieldLink RX0 9 "CupReceipts$Contracts" "months" "[I", Cond.fieldLink RX0 15 "CupReceipts$Contracts" "prices" "[I", Cond.fieldLink RX0 18 "CupReceipts$Contracts" "size" "I", Cond.methodLink RX6 75 yX3_passMonths, Cond.instanceMethod yX3_passMonths, Cond.selects RX3 yX3_passMonths yX3_passMonths, Cond.code yX3_passMonths cX3_passMonths 3 (some .int), Cond.constant RX3 70 (-2000000001), Cond.constant RX3 87 (-2000000003), Cond.static yX6_isWithin, Cond.initialized RX6, Cond.code yX6_isWithin cX6_isWithin 3 (some .boolean), Cond.methodLink RX3 137 yX0_dropBefore, Cond.instanceMethod yX0_dropBefore, Cond.selects RX0 yX0_dropBefore yX0_dropBefore, Cond.code yX0_dropBefore cX0_dropBefore 4 (some .int)]
def wsX6_pass_r3 : List Cond := [Cond.methodLink RX6 48 yX6_accept, Cond.instanceMethod yX6_accept, Cond.selects RX6 yX6_accept yX6_accept, Cond.code yX6_accept cX6_accept 2 (some .int), Cond.fieldLink RX6 22 "CupReceipts" "history" "LCupReceipts$History;", Cond.methodLink RX6 217 yX6_isError, Cond.static yX6_isError, Cond.code yX6_isError cX6_isError 1 (some .boolean), Cond.constant RX6 102 (-2000000004), Cond.constant RX6 90 (-2000000001), Cond.methodLink RX6 122 yX6_isWithin, Cond.methodLink RX6 220 yX2_record, Cond.instanceMethod yX2_record, Cond.selects RX2 yX2_record yX2_record, Cond.initialized RX2, Cond.code yX2_record cX2_record 2 none, Cond.fieldLink RX2 18 "CupReceipts$History" "states" "I", Cond.fieldLink RX2 11 "CupReceipts$History" "rooms" "[LCupReceipts$House;", Cond.methodLink RX2 22 yX2_dropOldest, Cond.instanceMethod yX2_dropOldest, Cond.selects RX2 yX2_dropOldest yX2_dropOldest, Cond.code yX2_dropOldest cX2_dropOldest 3 none, Cond.methodLink RX2 25 yX3_copyFrom]
def wsX6_pass : List Cond := .code yX6_pass cX6_pass 2 (some .int) :: ((wsX6_pass_r1 ++ (wsX6_pass_r2 ++ wsX6_pass_r3)) ++ wsX60 ++ wsX30 ++ wsX40 ++ wsX00 ++ wsX20)
def wsX6_set_r1 : List Cond := [Cond.fieldLink RX6 16 "CupReceipts" "trial" "LCupReceipts$House;", Cond.fieldLink RX6 10 "CupReceipts" "house" "LCupReceipts$House;", Cond.methodLink RX6 40 yX3_copyFrom, Cond.instanceMethod yX3_copyFrom, Cond.selects RX3 yX3_copyFrom yX3_copyFrom, Cond.initialized RX3, Cond.code yX3_copyFrom cX3_copyFrom 3 none, Cond.fieldLink RX3 12 "CupReceipts$House" "lots" "LCupReceipts$Lots;", Cond.fieldLink RX3 21 "CupReceipts$House" "contracts" "LCupReceipts$Contracts;", Cond.fieldLink RX3 34 "CupReceipts$House" "worths" "[I", Cond.fieldLink RX3 40 "CupReceipts$House" "settings" "[I", Cond.fieldLink RX3 50 "CupReceipts$House" "month" "I", Cond.fieldLink RX3 54 "CupReceipts$House" "account" "I", Cond.fieldLink RX3 57 "CupReceipts$House" "contractsMet" "I", Cond.fieldLink RX3 60 "CupReceipts$House" "contractsFailed" "I", Cond.fieldLink RX3 63 "CupReceipts$House" "bagsGiven" "I", Cond.methodLink RX3 43 yX4_copyFrom, Cond.instanceMethod yX4_copyFrom, Cond.selects RX4 yX4_copyFrom yX4_copyFrom, Cond.initialized RX4, Cond.code yX4_copyFrom cX4_copyFrom 3 none, Cond.fieldLink RX4 9 "CupReceipts$Lots" "numbers" "[I", Cond.fieldLink RX4 15 "CupReceipts$Lots" "bags" "[I", Cond.fieldLink RX4 18 "CupReceipts$Lots" "cups" "[I"]
def wsX6_set_r2 : List Cond := [Cond.fieldLink RX4 21 "CupReceipts$Lots" "months" "[I", Cond.fieldLink RX4 24 "CupReceipts$Lots" "size" "I", Cond.fieldLink RX4 28 "CupReceipts$Lots" "made" "I", Cond.methodLink RX3 47 yX0_copyFrom, Cond.instanceMethod yX0_copyFrom, Cond.selects RX0 yX0_copyFrom yX0_copyFrom, Cond.initialized RX0, Cond.code yX0_copyFrom cX0_copyFrom 3 none, Cond.fieldLink RX0 9 "CupReceipts$Contracts" "months" "[I", Cond.fieldLink RX0 15 "CupReceipts$Contracts" "prices" "[I", Cond.fieldLink RX0 18 "CupReceipts$Contracts" "size" "I", Cond.methodLink RX6 78 yX3_changeSetting, Cond.instanceMethod yX3_changeSetting, Cond.selects RX3 yX3_changeSetting yX3_changeSetting, Cond.code yX3_changeSetting cX3_changeSetting 4 (some .int), Cond.constant RX3 70 (-2000000001), Cond.fieldLink RX3 146 "CupReceipts$Contracts" "size" "I", Cond.constant RX3 82 (-2000000002), Cond.static yX6_isWithin, Cond.initialized RX6, Cond.code yX6_isWithin cX6_isWithin 3 (some .boolean), Cond.methodLink RX6 48 yX6_accept, Cond.instanceMethod yX6_accept, Cond.selects RX6 yX6_accept yX6_accept]
def wsX6_set_r3 : List Cond := [Cond.code yX6_accept cX6_accept 2 (some .int), Cond.fieldLink RX6 22 "CupReceipts" "history" "LCupReceipts$History;", Cond.methodLink RX6 217 yX6_isError, Cond.static yX6_isError, Cond.code yX6_isError cX6_isError 1 (some .boolean), Cond.constant RX6 102 (-2000000004), Cond.constant RX6 90 (-2000000001), Cond.methodLink RX6 122 yX6_isWithin, Cond.methodLink RX6 220 yX2_record, Cond.instanceMethod yX2_record, Cond.selects RX2 yX2_record yX2_record, Cond.initialized RX2, Cond.code yX2_record cX2_record 2 none, Cond.fieldLink RX2 18 "CupReceipts$History" "states" "I", Cond.fieldLink RX2 11 "CupReceipts$History" "rooms" "[LCupReceipts$House;", Cond.methodLink RX2 22 yX2_dropOldest, Cond.instanceMethod yX2_dropOldest, Cond.selects RX2 yX2_dropOldest yX2_dropOldest, Cond.code yX2_dropOldest cX2_dropOldest 3 none, Cond.methodLink RX2 25 yX3_copyFrom]
def wsX6_set : List Cond := .code yX6_set cX6_set 3 (some .int) :: ((wsX6_set_r1 ++ (wsX6_set_r2 ++ wsX6_set_r3)) ++ wsX60 ++ wsX30 ++ wsX40 ++ wsX00 ++ wsX20)
def wsX6_lotOf_r1 : List Cond := [Cond.fieldLink RX6 10 "CupReceipts" "house" "LCupReceipts$House;", Cond.fieldLink RX6 81 "CupReceipts$House" "lots" "LCupReceipts$Lots;", Cond.constant RX6 90 (-2000000001), Cond.methodLink RX6 85 yX4_rowOf, Cond.instanceMethod yX4_rowOf, Cond.selects RX4 yX4_rowOf yX4_rowOf, Cond.initialized RX4, Cond.code yX4_rowOf cX4_rowOf 3 (some .int), Cond.fieldLink RX4 24 "CupReceipts$Lots" "size" "I", Cond.fieldLink RX4 9 "CupReceipts$Lots" "numbers" "[I", Cond.methodLink RX6 91 yX3_tellOfLot, Cond.instanceMethod yX3_tellOfLot, Cond.selects RX3 yX3_tellOfLot yX3_tellOfLot, Cond.initialized RX3, Cond.code yX3_tellOfLot cX3_tellOfLot 3 (some .int), Cond.fieldLink RX3 12 "CupReceipts$House" "lots" "LCupReceipts$Lots;", Cond.fieldLink RX3 79 "CupReceipts$Lots" "bags" "[I", Cond.fieldLink RX3 88 "CupReceipts$Lots" "cups" "[I", Cond.fieldLink RX3 91 "CupReceipts$Lots" "months" "[I", Cond.fieldLink RX3 50 "CupReceipts$House" "month" "I", Cond.fieldLink RX3 34 "CupReceipts$House" "worths" "[I", Cond.constant RX3 70 (-2000000001), Cond.methodLink RX3 94 yX4_cupAt, Cond.instanceMethod yX4_cupAt]
def wsX6_lotOf_r2 : List Cond := [Cond.selects RX4 yX4_cupAt yX4_cupAt, Cond.code yX4_cupAt cX4_cupAt 4 (some .int), Cond.fieldLink RX4 18 "CupReceipts$Lots" "cups" "[I", Cond.fieldLink RX4 21 "CupReceipts$Lots" "months" "[I", Cond.static yX6_bandOf, Cond.initialized RX6, Cond.code yX6_bandOf cX6_bandOf 1 (some .int), Cond.methodLink RX3 157 yX4_monthsTooOld, Cond.instanceMethod yX4_monthsTooOld, Cond.selects RX4 yX4_monthsTooOld yX4_monthsTooOld, Cond.code yX4_monthsTooOld cX4_monthsTooOld 4 (some .int)]
def wsX6_lotOf : List Cond := .code yX6_lotOf cX6_lotOf 4 (some .int) :: ((wsX6_lotOf_r1 ++ wsX6_lotOf_r2) ++ wsX60 ++ wsX30 ++ wsX40)
def wsX6_numberOf : List Cond := .code yX6_numberOf cX6_numberOf 2 (some .int) :: ([.constant RX6 90 (-2000000001), .fieldLink RX6 10 "CupReceipts" "house" "LCupReceipts$House;", .fieldLink RX6 81 "CupReceipts$House" "lots" "LCupReceipts$Lots;", .fieldLink RX6 94 "CupReceipts$Lots" "size" "I", .fieldLink RX6 98 "CupReceipts$Lots" "numbers" "[I", .constant RX6 102 (-2000000004)] ++ wsX60 ++ wsX30 ++ wsX40)
def wsX6_contractOf : List Cond := .code yX6_contractOf cX6_contractOf 3 (some .int) :: ([.fieldLink RX6 10 "CupReceipts" "house" "LCupReceipts$House;", .fieldLink RX6 103 "CupReceipts$House" "contracts" "LCupReceipts$Contracts;", .constant RX6 90 (-2000000001), .fieldLink RX6 113 "CupReceipts$Contracts" "months" "[I", .fieldLink RX6 116 "CupReceipts$Contracts" "prices" "[I", .fieldLink RX6 119 "CupReceipts$House" "month" "I", .methodLink RX6 107 yX0_isOpen, .instanceMethod yX0_isOpen, .selects RX0 yX0_isOpen yX0_isOpen, .initialized RX0, .code yX0_isOpen cX0_isOpen 2 (some .boolean), .fieldLink RX0 18 "CupReceipts$Contracts" "size" "I"] ++ wsX60 ++ wsX30 ++ wsX00)
def wsX6_paid_r1 : List Cond := [Cond.fieldLink RX6 10 "CupReceipts" "house" "LCupReceipts$House;", Cond.fieldLink RX6 81 "CupReceipts$House" "lots" "LCupReceipts$Lots;", Cond.constant RX6 90 (-2000000001), Cond.fieldLink RX6 119 "CupReceipts$House" "month" "I", Cond.constant RX6 102 (-2000000004), Cond.fieldLink RX6 136 "CupReceipts$House" "worths" "[I", Cond.methodLink RX6 85 yX4_rowOf, Cond.instanceMethod yX4_rowOf, Cond.selects RX4 yX4_rowOf yX4_rowOf, Cond.initialized RX4, Cond.code yX4_rowOf cX4_rowOf 3 (some .int), Cond.fieldLink RX4 24 "CupReceipts$Lots" "size" "I", Cond.fieldLink RX4 9 "CupReceipts$Lots" "numbers" "[I", Cond.methodLink RX6 122 yX6_isWithin, Cond.static yX6_isWithin, Cond.initialized RX6, Cond.code yX6_isWithin cX6_isWithin 3 (some .boolean), Cond.methodLink RX6 126 yX4_cupAt, Cond.instanceMethod yX4_cupAt, Cond.selects RX4 yX4_cupAt yX4_cupAt, Cond.code yX4_cupAt cX4_cupAt 4 (some .int), Cond.fieldLink RX4 18 "CupReceipts$Lots" "cups" "[I", Cond.fieldLink RX4 21 "CupReceipts$Lots" "months" "[I", Cond.methodLink RX6 129 yX4_monthsTooOld]
def wsX6_paid_r2 : List Cond := [Cond.instanceMethod yX4_monthsTooOld, Cond.selects RX4 yX4_monthsTooOld yX4_monthsTooOld, Cond.code yX4_monthsTooOld cX4_monthsTooOld 4 (some .int), Cond.methodLink RX6 132 yX3_payForBag, Cond.instanceMethod yX3_payForBag, Cond.selects RX3 yX3_payForBag yX3_payForBag, Cond.initialized RX3, Cond.code yX3_payForBag cX3_payForBag 5 (some .int), Cond.fieldLink RX3 40 "CupReceipts$House" "settings" "[I", Cond.methodLink RX6 139 yX6_bandOf, Cond.static yX6_bandOf, Cond.code yX6_bandOf cX6_bandOf 1 (some .int)]
def wsX6_paid : List Cond := .code yX6_paid cX6_paid 7 (some .int) :: ((wsX6_paid_r1 ++ wsX6_paid_r2) ++ wsX60 ++ wsX30 ++ wsX40)
def wsX6_given_r1 : List Cond := [Cond.fieldLink RX6 10 "CupReceipts" "house" "LCupReceipts$House;", Cond.fieldLink RX6 103 "CupReceipts$House" "contracts" "LCupReceipts$Contracts;", Cond.constant RX6 90 (-2000000001), Cond.fieldLink RX6 29 "CupReceipts" "delivery" "LCupReceipts$Delivery;", Cond.fieldLink RX6 116 "CupReceipts$Contracts" "prices" "[I", Cond.fieldLink RX6 119 "CupReceipts$House" "month" "I", Cond.fieldLink RX6 146 "CupReceipts$Delivery" "places" "I", Cond.constant RX6 102 (-2000000004), Cond.fieldLink RX6 81 "CupReceipts$House" "lots" "LCupReceipts$Lots;", Cond.fieldLink RX6 98 "CupReceipts$Lots" "numbers" "[I", Cond.fieldLink RX6 149 "CupReceipts$Delivery" "rows" "[I", Cond.fieldLink RX6 152 "CupReceipts$Delivery" "bags" "[I", Cond.methodLink RX6 107 yX0_isOpen, Cond.instanceMethod yX0_isOpen, Cond.selects RX0 yX0_isOpen yX0_isOpen, Cond.initialized RX0, Cond.code yX0_isOpen cX0_isOpen 2 (some .boolean), Cond.fieldLink RX0 18 "CupReceipts$Contracts" "size" "I", Cond.methodLink RX6 122 yX6_isWithin, Cond.static yX6_isWithin, Cond.initialized RX6, Cond.code yX6_isWithin cX6_isWithin 3 (some .boolean), Cond.methodLink RX6 142 yX1_plan, Cond.instanceMethod yX1_plan]
def wsX6_given_r2 : List Cond := [Cond.selects RX1 yX1_plan yX1_plan, Cond.initialized RX1, Cond.code yX1_plan cX1_plan 6 none, Cond.fieldLink RX1 35 "CupReceipts$Delivery" "places" "I", Cond.fieldLink RX1 39 "CupReceipts$House" "settings" "[I", Cond.fieldLink RX1 44 "CupReceipts$Delivery" "missing" "I", Cond.fieldLink RX1 47 "CupReceipts$Delivery" "pay" "I", Cond.fieldLink RX1 50 "CupReceipts$Delivery" "gain" "I", Cond.fieldLink RX1 53 "CupReceipts$Delivery" "sumOfCups" "I", Cond.fieldLink RX1 56 "CupReceipts$Delivery" "usedUp" "I", Cond.fieldLink RX1 59 "CupReceipts$House" "lots" "LCupReceipts$Lots;", Cond.fieldLink RX1 63 "CupReceipts$Lots" "size" "I", Cond.fieldLink RX1 72 "CupReceipts$Lots" "bags" "[I", Cond.methodLink RX1 31 yX1_rate, Cond.instanceMethod yX1_rate, Cond.selects RX1 yX1_rate yX1_rate, Cond.code yX1_rate cX1_rate 6 none, Cond.fieldLink RX1 18 "CupReceipts$Delivery" "waiting" "[Z", Cond.fieldLink RX1 22 "CupReceipts$Delivery" "cups" "[I", Cond.fieldLink RX1 25 "CupReceipts$Delivery" "pays" "[I", Cond.fieldLink RX1 28 "CupReceipts$Delivery" "gains" "[I", Cond.fieldLink RX1 88 "CupReceipts$House" "worths" "[I", Cond.methodLink RX1 77 yX4_cupAt, Cond.instanceMethod yX4_cupAt]
def wsX6_given_r3 : List Cond := [Cond.selects RX4 yX4_cupAt yX4_cupAt, Cond.initialized RX4, Cond.code yX4_cupAt cX4_cupAt 4 (some .int), Cond.fieldLink RX4 18 "CupReceipts$Lots" "cups" "[I", Cond.fieldLink RX4 21 "CupReceipts$Lots" "months" "[I", Cond.methodLink RX1 81 yX4_monthsTooOld, Cond.instanceMethod yX4_monthsTooOld, Cond.selects RX4 yX4_monthsTooOld yX4_monthsTooOld, Cond.code yX4_monthsTooOld cX4_monthsTooOld 4 (some .int), Cond.methodLink RX1 84 yX3_payForBag, Cond.instanceMethod yX3_payForBag, Cond.selects RX3 yX3_payForBag yX3_payForBag, Cond.initialized RX3, Cond.code yX3_payForBag cX3_payForBag 5 (some .int), Cond.fieldLink RX3 40 "CupReceipts$House" "settings" "[I", Cond.static yX6_bandOf, Cond.code yX6_bandOf cX6_bandOf 1 (some .int), Cond.methodLink RX1 68 yX1_rowOfGreatestGain, Cond.instanceMethod yX1_rowOfGreatestGain, Cond.selects RX1 yX1_rowOfGreatestGain yX1_rowOfGreatestGain, Cond.code yX1_rowOfGreatestGain cX1_rowOfGreatestGain 4 (some .int), Cond.methodLink RX1 73 yX1_take, Cond.instanceMethod yX1_take, Cond.selects RX1 yX1_take yX1_take]
def wsX6_given_r4 : List Cond := [Cond.code yX1_take cX1_take 4 none, Cond.methodLink RX1 94 Lib.Math.min.name, Cond.static Lib.Math.min.name, Cond.initialized "java/lang/Math", Cond.code Lib.Math.min.name Lib.Math.min.code 2 (some .int), Cond.fieldLink RX1 9 "CupReceipts$Delivery" "rows" "[I", Cond.fieldLink RX1 15 "CupReceipts$Delivery" "bags" "[I"]
def wsX6_given : List Cond := .code yX6_given cX6_given 4 (some .int) :: ((wsX6_given_r1 ++ (wsX6_given_r2 ++ (wsX6_given_r3 ++ wsX6_given_r4))) ++ wsX60 ++ wsX30 ++ wsX00 ++ wsX10 ++ wsX40)
def wsX6_bitsOfMeanCup : List Cond := .code yX6_bitsOfMeanCup cX6_bitsOfMeanCup 4 (some .int) :: ([.constant RX6 158 (-2000000002), .constantFloat RX6 223 (1207959552), .constant RX6 224 (1115684864), .constant RX6 225 (8388608)])
def wsX6_would_r1 : List Cond := [Cond.fieldLink RX6 10 "CupReceipts" "house" "LCupReceipts$House;", Cond.fieldLink RX6 103 "CupReceipts$House" "contracts" "LCupReceipts$Contracts;", Cond.constant RX6 90 (-2000000001), Cond.fieldLink RX6 29 "CupReceipts" "delivery" "LCupReceipts$Delivery;", Cond.fieldLink RX6 116 "CupReceipts$Contracts" "prices" "[I", Cond.fieldLink RX6 119 "CupReceipts$House" "month" "I", Cond.fieldLink RX6 155 "CupReceipts$Delivery" "missing" "I", Cond.constant RX6 158 (-2000000002), Cond.fieldLink RX6 159 "CupReceipts$Delivery" "pay" "I", Cond.fieldLink RX6 162 "CupReceipts$Delivery" "gain" "I", Cond.constant RX6 165 (1000000), Cond.fieldLink RX6 166 "CupReceipts$Delivery" "usedUp" "I", Cond.fieldLink RX6 169 "CupReceipts$Delivery" "sumOfCups" "I", Cond.fieldLink RX6 172 "CupReceipts$House" "settings" "[I", Cond.methodLink RX6 107 yX0_isOpen, Cond.instanceMethod yX0_isOpen, Cond.selects RX0 yX0_isOpen yX0_isOpen, Cond.initialized RX0, Cond.code yX0_isOpen cX0_isOpen 2 (some .boolean), Cond.fieldLink RX0 18 "CupReceipts$Contracts" "size" "I", Cond.methodLink RX6 122 yX6_isWithin, Cond.static yX6_isWithin, Cond.initialized RX6, Cond.code yX6_isWithin cX6_isWithin 3 (some .boolean)]
def wsX6_would_r2 : List Cond := [Cond.methodLink RX6 142 yX1_plan, Cond.instanceMethod yX1_plan, Cond.selects RX1 yX1_plan yX1_plan, Cond.initialized RX1, Cond.code yX1_plan cX1_plan 6 none, Cond.fieldLink RX1 35 "CupReceipts$Delivery" "places" "I", Cond.fieldLink RX1 39 "CupReceipts$House" "settings" "[I", Cond.fieldLink RX1 44 "CupReceipts$Delivery" "missing" "I", Cond.fieldLink RX1 47 "CupReceipts$Delivery" "pay" "I", Cond.fieldLink RX1 50 "CupReceipts$Delivery" "gain" "I", Cond.fieldLink RX1 53 "CupReceipts$Delivery" "sumOfCups" "I", Cond.fieldLink RX1 56 "CupReceipts$Delivery" "usedUp" "I", Cond.fieldLink RX1 59 "CupReceipts$House" "lots" "LCupReceipts$Lots;", Cond.fieldLink RX1 63 "CupReceipts$Lots" "size" "I", Cond.fieldLink RX1 72 "CupReceipts$Lots" "bags" "[I", Cond.methodLink RX1 31 yX1_rate, Cond.instanceMethod yX1_rate, Cond.selects RX1 yX1_rate yX1_rate, Cond.code yX1_rate cX1_rate 6 none, Cond.fieldLink RX1 18 "CupReceipts$Delivery" "waiting" "[Z", Cond.fieldLink RX1 22 "CupReceipts$Delivery" "cups" "[I", Cond.fieldLink RX1 25 "CupReceipts$Delivery" "pays" "[I", Cond.fieldLink RX1 28 "CupReceipts$Delivery" "gains" "[I", Cond.fieldLink RX1 88 "CupReceipts$House" "worths" "[I"]
def wsX6_would_r3 : List Cond := [Cond.methodLink RX1 77 yX4_cupAt, Cond.instanceMethod yX4_cupAt, Cond.selects RX4 yX4_cupAt yX4_cupAt, Cond.initialized RX4, Cond.code yX4_cupAt cX4_cupAt 4 (some .int), Cond.fieldLink RX4 18 "CupReceipts$Lots" "cups" "[I", Cond.fieldLink RX4 21 "CupReceipts$Lots" "months" "[I", Cond.methodLink RX1 81 yX4_monthsTooOld, Cond.instanceMethod yX4_monthsTooOld, Cond.selects RX4 yX4_monthsTooOld yX4_monthsTooOld, Cond.code yX4_monthsTooOld cX4_monthsTooOld 4 (some .int), Cond.methodLink RX1 84 yX3_payForBag, Cond.instanceMethod yX3_payForBag, Cond.selects RX3 yX3_payForBag yX3_payForBag, Cond.initialized RX3, Cond.code yX3_payForBag cX3_payForBag 5 (some .int), Cond.fieldLink RX3 40 "CupReceipts$House" "settings" "[I", Cond.static yX6_bandOf, Cond.code yX6_bandOf cX6_bandOf 1 (some .int), Cond.methodLink RX1 68 yX1_rowOfGreatestGain, Cond.instanceMethod yX1_rowOfGreatestGain, Cond.selects RX1 yX1_rowOfGreatestGain yX1_rowOfGreatestGain, Cond.code yX1_rowOfGreatestGain cX1_rowOfGreatestGain 4 (some .int), Cond.methodLink RX1 73 yX1_take]
def wsX6_would_r4 : List Cond := [Cond.instanceMethod yX1_take, Cond.selects RX1 yX1_take yX1_take, Cond.code yX1_take cX1_take 4 none, Cond.methodLink RX1 94 Lib.Math.min.name, Cond.static Lib.Math.min.name, Cond.initialized "java/lang/Math", Cond.code Lib.Math.min.name Lib.Math.min.code 2 (some .int), Cond.fieldLink RX1 9 "CupReceipts$Delivery" "rows" "[I", Cond.fieldLink RX1 15 "CupReceipts$Delivery" "bags" "[I", Cond.methodLink RX6 175 yX6_bitsOfMeanCup, Cond.static yX6_bitsOfMeanCup, Cond.code yX6_bitsOfMeanCup cX6_bitsOfMeanCup 4 (some .int), Cond.constantFloat RX6 223 (1207959552), Cond.constant RX6 224 (1115684864), Cond.constant RX6 225 (8388608)]
def wsX6_would : List Cond := .code yX6_would cX6_would 3 (some .int) :: ((wsX6_would_r1 ++ (wsX6_would_r2 ++ (wsX6_would_r3 ++ wsX6_would_r4))) ++ wsX60 ++ wsX30 ++ wsX00 ++ wsX10 ++ wsX40)
def wsX6_leastStepsTo : List Cond := .code yX6_leastStepsTo cX6_leastStepsTo 2 (some .int) :: ([])
def wsX6_lift_r1 : List Cond := [Cond.fieldLink RX6 10 "CupReceipts" "house" "LCupReceipts$House;", Cond.fieldLink RX6 81 "CupReceipts$House" "lots" "LCupReceipts$Lots;", Cond.constant RX6 90 (-2000000001), Cond.fieldLink RX6 119 "CupReceipts$House" "month" "I", Cond.fieldLink RX6 178 "CupReceipts$Lots" "bags" "[I", Cond.constant RX6 102 (-2000000004), Cond.methodLink RX6 85 yX4_rowOf, Cond.instanceMethod yX4_rowOf, Cond.selects RX4 yX4_rowOf yX4_rowOf, Cond.initialized RX4, Cond.code yX4_rowOf cX4_rowOf 3 (some .int), Cond.fieldLink RX4 24 "CupReceipts$Lots" "size" "I", Cond.fieldLink RX4 9 "CupReceipts$Lots" "numbers" "[I", Cond.methodLink RX6 122 yX6_isWithin, Cond.static yX6_isWithin, Cond.initialized RX6, Cond.code yX6_isWithin cX6_isWithin 3 (some .boolean), Cond.methodLink RX6 126 yX4_cupAt, Cond.instanceMethod yX4_cupAt, Cond.selects RX4 yX4_cupAt yX4_cupAt, Cond.code yX4_cupAt cX4_cupAt 4 (some .int), Cond.fieldLink RX4 18 "CupReceipts$Lots" "cups" "[I", Cond.fieldLink RX4 21 "CupReceipts$Lots" "months" "[I", Cond.methodLink RX6 179 yX6_leastStepsTo]
def wsX6_lift_r2 : List Cond := [Cond.static yX6_leastStepsTo, Cond.code yX6_leastStepsTo cX6_leastStepsTo 2 (some .int)]
def wsX6_lift : List Cond := .code yX6_lift cX6_lift 9 (some .int) :: ((wsX6_lift_r1 ++ wsX6_lift_r2) ++ wsX60 ++ wsX30 ++ wsX40)
def wsX6_bestMonth_r1 : List Cond := [Cond.constant RX6 90 (-2000000001), Cond.constant RX6 102 (-2000000004), Cond.fieldLink RX6 10 "CupReceipts" "house" "LCupReceipts$House;", Cond.fieldLink RX6 119 "CupReceipts$House" "month" "I", Cond.fieldLink RX6 29 "CupReceipts" "delivery" "LCupReceipts$Delivery;", Cond.fieldLink RX6 155 "CupReceipts$Delivery" "missing" "I", Cond.fieldLink RX6 162 "CupReceipts$Delivery" "gain" "I", Cond.constant RX6 165 (1000000), Cond.methodLink RX6 122 yX6_isWithin, Cond.static yX6_isWithin, Cond.initialized RX6, Cond.code yX6_isWithin cX6_isWithin 3 (some .boolean), Cond.methodLink RX6 182 yX3_isDeliveryMonth, Cond.instanceMethod yX3_isDeliveryMonth, Cond.selects RX3 yX3_isDeliveryMonth yX3_isDeliveryMonth, Cond.initialized RX3, Cond.code yX3_isDeliveryMonth cX3_isDeliveryMonth 2 (some .boolean), Cond.fieldLink RX3 40 "CupReceipts$House" "settings" "[I", Cond.methodLink RX3 149 yJ9_floorMod_7cf53, Cond.static yJ9_floorMod_7cf53, Cond.initialized RJ9, Cond.code yJ9_floorMod_7cf53 cJ9_floorMod_7cf53 3 (some .int), Cond.methodLink RX6 142 yX1_plan, Cond.instanceMethod yX1_plan]
def wsX6_bestMonth_r2 : List Cond := [Cond.selects RX1 yX1_plan yX1_plan, Cond.initialized RX1, Cond.code yX1_plan cX1_plan 6 none, Cond.fieldLink RX1 35 "CupReceipts$Delivery" "places" "I", Cond.fieldLink RX1 39 "CupReceipts$House" "settings" "[I", Cond.fieldLink RX1 44 "CupReceipts$Delivery" "missing" "I", Cond.fieldLink RX1 47 "CupReceipts$Delivery" "pay" "I", Cond.fieldLink RX1 50 "CupReceipts$Delivery" "gain" "I", Cond.fieldLink RX1 53 "CupReceipts$Delivery" "sumOfCups" "I", Cond.fieldLink RX1 56 "CupReceipts$Delivery" "usedUp" "I", Cond.fieldLink RX1 59 "CupReceipts$House" "lots" "LCupReceipts$Lots;", Cond.fieldLink RX1 63 "CupReceipts$Lots" "size" "I", Cond.fieldLink RX1 72 "CupReceipts$Lots" "bags" "[I", Cond.methodLink RX1 31 yX1_rate, Cond.instanceMethod yX1_rate, Cond.selects RX1 yX1_rate yX1_rate, Cond.code yX1_rate cX1_rate 6 none, Cond.fieldLink RX1 18 "CupReceipts$Delivery" "waiting" "[Z", Cond.fieldLink RX1 22 "CupReceipts$Delivery" "cups" "[I", Cond.fieldLink RX1 25 "CupReceipts$Delivery" "pays" "[I", Cond.fieldLink RX1 28 "CupReceipts$Delivery" "gains" "[I", Cond.fieldLink RX1 88 "CupReceipts$House" "worths" "[I", Cond.methodLink RX1 77 yX4_cupAt, Cond.instanceMethod yX4_cupAt]
def wsX6_bestMonth_r3 : List Cond := [Cond.selects RX4 yX4_cupAt yX4_cupAt, Cond.initialized RX4, Cond.code yX4_cupAt cX4_cupAt 4 (some .int), Cond.fieldLink RX4 18 "CupReceipts$Lots" "cups" "[I", Cond.fieldLink RX4 21 "CupReceipts$Lots" "months" "[I", Cond.methodLink RX1 81 yX4_monthsTooOld, Cond.instanceMethod yX4_monthsTooOld, Cond.selects RX4 yX4_monthsTooOld yX4_monthsTooOld, Cond.code yX4_monthsTooOld cX4_monthsTooOld 4 (some .int), Cond.methodLink RX1 84 yX3_payForBag, Cond.instanceMethod yX3_payForBag, Cond.selects RX3 yX3_payForBag yX3_payForBag, Cond.code yX3_payForBag cX3_payForBag 5 (some .int), Cond.static yX6_bandOf, Cond.code yX6_bandOf cX6_bandOf 1 (some .int), Cond.methodLink RX1 68 yX1_rowOfGreatestGain, Cond.instanceMethod yX1_rowOfGreatestGain, Cond.selects RX1 yX1_rowOfGreatestGain yX1_rowOfGreatestGain, Cond.code yX1_rowOfGreatestGain cX1_rowOfGreatestGain 4 (some .int), Cond.methodLink RX1 73 yX1_take, Cond.instanceMethod yX1_take, Cond.selects RX1 yX1_take yX1_take, Cond.code yX1_take cX1_take 4 none, Cond.methodLink RX1 94 Lib.Math.min.name]
def wsX6_bestMonth_r4 : List Cond := [Cond.static Lib.Math.min.name, Cond.initialized "java/lang/Math", Cond.code Lib.Math.min.name Lib.Math.min.code 2 (some .int), Cond.fieldLink RX1 9 "CupReceipts$Delivery" "rows" "[I", Cond.fieldLink RX1 15 "CupReceipts$Delivery" "bags" "[I"]
def wsX6_bestMonth : List Cond := .code yX6_bestMonth cX6_bestMonth 6 (some .int) :: ((wsX6_bestMonth_r1 ++ (wsX6_bestMonth_r2 ++ (wsX6_bestMonth_r3 ++ wsX6_bestMonth_r4))) ++ wsX60 ++ wsX30 ++ wsX10 ++ wsX40)
def wsX6_count_r1 : List Cond := [Cond.fieldLink RX6 10 "CupReceipts" "house" "LCupReceipts$House;", Cond.fieldLink RX6 172 "CupReceipts$House" "settings" "[I", Cond.fieldLink RX6 22 "CupReceipts" "history" "LCupReceipts$History;", Cond.fieldLink RX6 185 "CupReceipts$History" "states" "I", Cond.fieldLink RX6 36 "CupReceipts" "orders" "LCupReceipts$Orders;", Cond.fieldLink RX6 188 "CupReceipts$Orders" "length" "I", Cond.methodLink RX6 122 yX6_isWithin, Cond.static yX6_isWithin, Cond.initialized RX6, Cond.code yX6_isWithin cX6_isWithin 3 (some .boolean), Cond.methodLink RX6 191 yX3_tellCount, Cond.instanceMethod yX3_tellCount, Cond.selects RX3 yX3_tellCount yX3_tellCount, Cond.initialized RX3, Cond.code yX3_tellCount cX3_tellCount 2 (some .int), Cond.fieldLink RX3 12 "CupReceipts$House" "lots" "LCupReceipts$Lots;", Cond.fieldLink RX3 160 "CupReceipts$Lots" "size" "I", Cond.fieldLink RX3 50 "CupReceipts$House" "month" "I", Cond.fieldLink RX3 21 "CupReceipts$House" "contracts" "LCupReceipts$Contracts;", Cond.fieldLink RX3 146 "CupReceipts$Contracts" "size" "I", Cond.fieldLink RX3 54 "CupReceipts$House" "account" "I", Cond.fieldLink RX3 57 "CupReceipts$House" "contractsMet" "I", Cond.fieldLink RX3 60 "CupReceipts$House" "contractsFailed" "I", Cond.fieldLink RX3 63 "CupReceipts$House" "bagsGiven" "I"]
def wsX6_count_r2 : List Cond := [Cond.fieldLink RX3 168 "CupReceipts$Lots" "made" "I", Cond.constant RX3 70 (-2000000001), Cond.methodLink RX3 161 yX4_allBags, Cond.instanceMethod yX4_allBags, Cond.selects RX4 yX4_allBags yX4_allBags, Cond.initialized RX4, Cond.code yX4_allBags cX4_allBags 3 (some .int), Cond.fieldLink RX4 24 "CupReceipts$Lots" "size" "I", Cond.fieldLink RX4 15 "CupReceipts$Lots" "bags" "[I", Cond.methodLink RX3 165 yX4_bagsToGive, Cond.instanceMethod yX4_bagsToGive, Cond.selects RX4 yX4_bagsToGive yX4_bagsToGive, Cond.code yX4_bagsToGive cX4_bagsToGive 4 (some .int), Cond.methodLink RX4 36 yX4_cupAt, Cond.instanceMethod yX4_cupAt, Cond.selects RX4 yX4_cupAt yX4_cupAt, Cond.code yX4_cupAt cX4_cupAt 4 (some .int), Cond.fieldLink RX4 18 "CupReceipts$Lots" "cups" "[I", Cond.fieldLink RX4 21 "CupReceipts$Lots" "months" "[I"]
def wsX6_count : List Cond := .code yX6_count cX6_count 2 (some .int) :: ((wsX6_count_r1 ++ wsX6_count_r2) ++ wsX60 ++ wsX30 ++ wsX20 ++ wsX50 ++ wsX40 ++ wsX00)
def wsX6_undo_r1 : List Cond := [Cond.fieldLink RX6 22 "CupReceipts" "history" "LCupReceipts$History;", Cond.fieldLink RX6 185 "CupReceipts$History" "states" "I", Cond.constant RX6 158 (-2000000002), Cond.fieldLink RX6 10 "CupReceipts" "house" "LCupReceipts$House;", Cond.methodLink RX6 194 yX2_restoreLatest, Cond.instanceMethod yX2_restoreLatest, Cond.selects RX2 yX2_restoreLatest yX2_restoreLatest, Cond.initialized RX2, Cond.code yX2_restoreLatest cX2_restoreLatest 2 none, Cond.fieldLink RX2 18 "CupReceipts$History" "states" "I", Cond.fieldLink RX2 11 "CupReceipts$History" "rooms" "[LCupReceipts$House;", Cond.methodLink RX2 25 yX3_copyFrom, Cond.instanceMethod yX3_copyFrom, Cond.selects RX3 yX3_copyFrom yX3_copyFrom, Cond.initialized RX3, Cond.code yX3_copyFrom cX3_copyFrom 3 none, Cond.fieldLink RX3 12 "CupReceipts$House" "lots" "LCupReceipts$Lots;", Cond.fieldLink RX3 21 "CupReceipts$House" "contracts" "LCupReceipts$Contracts;", Cond.fieldLink RX3 34 "CupReceipts$House" "worths" "[I", Cond.fieldLink RX3 40 "CupReceipts$House" "settings" "[I", Cond.fieldLink RX3 50 "CupReceipts$House" "month" "I", Cond.fieldLink RX3 54 "CupReceipts$House" "account" "I", Cond.fieldLink RX3 57 "CupReceipts$House" "contractsMet" "I", Cond.fieldLink RX3 60 "CupReceipts$House" "contractsFailed" "I"]
def wsX6_undo_r2 : List Cond := [Cond.fieldLink RX3 63 "CupReceipts$House" "bagsGiven" "I", Cond.methodLink RX3 43 yX4_copyFrom, Cond.instanceMethod yX4_copyFrom, Cond.selects RX4 yX4_copyFrom yX4_copyFrom, Cond.initialized RX4, Cond.code yX4_copyFrom cX4_copyFrom 3 none, Cond.fieldLink RX4 9 "CupReceipts$Lots" "numbers" "[I", Cond.fieldLink RX4 15 "CupReceipts$Lots" "bags" "[I", Cond.fieldLink RX4 18 "CupReceipts$Lots" "cups" "[I", Cond.fieldLink RX4 21 "CupReceipts$Lots" "months" "[I", Cond.fieldLink RX4 24 "CupReceipts$Lots" "size" "I", Cond.fieldLink RX4 28 "CupReceipts$Lots" "made" "I", Cond.methodLink RX3 47 yX0_copyFrom, Cond.instanceMethod yX0_copyFrom, Cond.selects RX0 yX0_copyFrom yX0_copyFrom, Cond.initialized RX0, Cond.code yX0_copyFrom cX0_copyFrom 3 none, Cond.fieldLink RX0 9 "CupReceipts$Contracts" "months" "[I", Cond.fieldLink RX0 15 "CupReceipts$Contracts" "prices" "[I", Cond.fieldLink RX0 18 "CupReceipts$Contracts" "size" "I"]
def wsX6_undo : List Cond := .code yX6_undo cX6_undo 1 (some .int) :: ((wsX6_undo_r1 ++ wsX6_undo_r2) ++ wsX60 ++ wsX20 ++ wsX30 ++ wsX40 ++ wsX00)
def wsX6_type : List Cond := .code yX6_type cX6_type 2 (some .int) :: ([.fieldLink RX6 36 "CupReceipts" "orders" "LCupReceipts$Orders;", .constant RX6 90 (-2000000001), .methodLink RX6 122 yX6_isWithin, .static yX6_isWithin, .initialized RX6, .code yX6_isWithin cX6_isWithin 3 (some .boolean), .methodLink RX6 197 yX5_append, .instanceMethod yX5_append, .selects RX5 yX5_append yX5_append, .initialized RX5, .code yX5_append cX5_append 2 (some .int), .fieldLink RX5 19 "CupReceipts$Orders" "length" "I", .constant RX5 23 (-2000000003), .fieldLink RX5 9 "CupReceipts$Orders" "signs" "[C"] ++ wsX60 ++ wsX50)
def wsX6_clearText : List Cond := .code yX6_clearText cX6_clearText 2 (some .int) :: ([.fieldLink RX6 36 "CupReceipts" "orders" "LCupReceipts$Orders;", .fieldLink RX6 188 "CupReceipts$Orders" "length" "I"] ++ wsX60 ++ wsX50)
def wsX6_fault_r1 : List Cond := [Cond.constant RX6 90 (-2000000001), Cond.fieldLink RX6 16 "CupReceipts" "trial" "LCupReceipts$House;", Cond.fieldLink RX6 10 "CupReceipts" "house" "LCupReceipts$House;", Cond.fieldLink RX6 36 "CupReceipts" "orders" "LCupReceipts$Orders;", Cond.fieldLink RX6 29 "CupReceipts" "delivery" "LCupReceipts$Delivery;", Cond.fieldLink RX6 205 "CupReceipts$Orders" "reason" "I", Cond.constant RX6 102 (-2000000004), Cond.fieldLink RX6 208 "CupReceipts$Orders" "start" "I", Cond.fieldLink RX6 211 "CupReceipts$Orders" "cause" "I", Cond.methodLink RX6 122 yX6_isWithin, Cond.static yX6_isWithin, Cond.initialized RX6, Cond.code yX6_isWithin cX6_isWithin 3 (some .boolean), Cond.methodLink RX6 40 yX3_copyFrom, Cond.instanceMethod yX3_copyFrom, Cond.selects RX3 yX3_copyFrom yX3_copyFrom, Cond.initialized RX3, Cond.code yX3_copyFrom cX3_copyFrom 3 none, Cond.fieldLink RX3 12 "CupReceipts$House" "lots" "LCupReceipts$Lots;", Cond.fieldLink RX3 21 "CupReceipts$House" "contracts" "LCupReceipts$Contracts;", Cond.fieldLink RX3 34 "CupReceipts$House" "worths" "[I", Cond.fieldLink RX3 40 "CupReceipts$House" "settings" "[I", Cond.fieldLink RX3 50 "CupReceipts$House" "month" "I", Cond.fieldLink RX3 54 "CupReceipts$House" "account" "I"]
def wsX6_fault_r2 : List Cond := [Cond.fieldLink RX3 57 "CupReceipts$House" "contractsMet" "I", Cond.fieldLink RX3 60 "CupReceipts$House" "contractsFailed" "I", Cond.fieldLink RX3 63 "CupReceipts$House" "bagsGiven" "I", Cond.methodLink RX3 43 yX4_copyFrom, Cond.instanceMethod yX4_copyFrom, Cond.selects RX4 yX4_copyFrom yX4_copyFrom, Cond.initialized RX4, Cond.code yX4_copyFrom cX4_copyFrom 3 none, Cond.fieldLink RX4 9 "CupReceipts$Lots" "numbers" "[I", Cond.fieldLink RX4 15 "CupReceipts$Lots" "bags" "[I", Cond.fieldLink RX4 18 "CupReceipts$Lots" "cups" "[I", Cond.fieldLink RX4 21 "CupReceipts$Lots" "months" "[I", Cond.fieldLink RX4 24 "CupReceipts$Lots" "size" "I", Cond.fieldLink RX4 28 "CupReceipts$Lots" "made" "I", Cond.methodLink RX3 47 yX0_copyFrom, Cond.instanceMethod yX0_copyFrom, Cond.selects RX0 yX0_copyFrom yX0_copyFrom, Cond.initialized RX0, Cond.code yX0_copyFrom cX0_copyFrom 3 none, Cond.fieldLink RX0 9 "CupReceipts$Contracts" "months" "[I", Cond.fieldLink RX0 15 "CupReceipts$Contracts" "prices" "[I", Cond.fieldLink RX0 18 "CupReceipts$Contracts" "size" "I", Cond.methodLink RX6 201 yX5_runOn, Cond.instanceMethod yX5_runOn]
def wsX6_fault_r3 : List Cond := [Cond.selects RX5 yX5_runOn yX5_runOn, Cond.initialized RX5, Cond.code yX5_runOn cX5_runOn 4 none, Cond.fieldLink RX5 24 "CupReceipts$Orders" "start" "I", Cond.fieldLink RX5 27 "CupReceipts$Orders" "reason" "I", Cond.fieldLink RX5 30 "CupReceipts$Orders" "cause" "I", Cond.fieldLink RX5 33 "CupReceipts$Orders" "done" "I", Cond.fieldLink RX5 19 "CupReceipts$Orders" "length" "I", Cond.fieldLink RX5 48 "CupReceipts$Orders" "next" "I", Cond.methodLink RX5 36 yX5_readOrder, Cond.instanceMethod yX5_readOrder, Cond.selects RX5 yX5_readOrder yX5_readOrder, Cond.code yX5_readOrder cX5_readOrder 3 (some .boolean), Cond.methodLink RX5 55 yX5_signAt, Cond.instanceMethod yX5_signAt, Cond.selects RX5 yX5_signAt yX5_signAt, Cond.code yX5_signAt cX5_signAt 2 (some .char), Cond.fieldLink RX5 9 "CupReceipts$Orders" "signs" "[C", Cond.methodLink RX5 59 yX5_numbersOf, Cond.static yX5_numbersOf, Cond.code yX5_numbersOf cX5_numbersOf 1 (some .int), Cond.methodLink RX5 63 yX5_readNumber, Cond.instanceMethod yX5_readNumber, Cond.selects RX5 yX5_readNumber yX5_readNumber]
def wsX6_fault_r4 : List Cond := [Cond.code yX5_readNumber cX5_readNumber 4 (some .boolean), Cond.fieldLink RX5 15 "CupReceipts$Orders" "numbers" "[I", Cond.methodLink RX5 66 yX5_isDigit, Cond.static yX5_isDigit, Cond.code yX5_isDigit cX5_isDigit 1 (some .boolean), Cond.methodLink RX5 40 yX5_perform, Cond.instanceMethod yX5_perform, Cond.selects RX5 yX5_perform yX5_perform, Cond.code yX5_perform cX5_perform 3 (some .int), Cond.constant RX5 94 (-2000000001), Cond.methodLink RX5 70 yX3_bringLot, Cond.instanceMethod yX3_bringLot, Cond.selects RX3 yX3_bringLot yX3_bringLot, Cond.code yX3_bringLot cX3_bringLot 3 (some .int), Cond.constant RX3 70 (-2000000001), Cond.methodLink RX3 71 yX4_add, Cond.instanceMethod yX4_add, Cond.selects RX4 yX4_add yX4_add, Cond.code yX4_add cX4_add 4 (some .int), Cond.constant RX4 35 (-2000000003), Cond.methodLink RX4 31 yX4_isFull, Cond.instanceMethod yX4_isFull, Cond.selects RX4 yX4_isFull yX4_isFull, Cond.code yX4_isFull cX4_isFull 1 (some .boolean)]
def wsX6_fault_r5 : List Cond := [Cond.methodLink RX5 76 yX3_blendLots, Cond.instanceMethod yX3_blendLots, Cond.selects RX3 yX3_blendLots yX3_blendLots, Cond.code yX3_blendLots cX3_blendLots 11 (some .int), Cond.fieldLink RX3 79 "CupReceipts$Lots" "bags" "[I", Cond.constant RX3 82 (-2000000002), Cond.constant RX3 87 (-2000000003), Cond.methodLink RX3 75 yX4_rowOf, Cond.instanceMethod yX4_rowOf, Cond.selects RX4 yX4_rowOf yX4_rowOf, Cond.code yX4_rowOf cX4_rowOf 3 (some .int), Cond.methodLink RX3 83 yX4_isFull, Cond.methodLink RX3 94 yX4_cupAt, Cond.instanceMethod yX4_cupAt, Cond.selects RX4 yX4_cupAt yX4_cupAt, Cond.code yX4_cupAt cX4_cupAt 4 (some .int), Cond.methodLink RX3 98 yX4_dropEmpty, Cond.instanceMethod yX4_dropEmpty, Cond.selects RX4 yX4_dropEmpty yX4_dropEmpty, Cond.code yX4_dropEmpty cX4_dropEmpty 3 none, Cond.methodLink RX5 80 yX3_cupAnew, Cond.instanceMethod yX3_cupAnew, Cond.selects RX3 yX3_cupAnew yX3_cupAnew, Cond.code yX3_cupAnew cX3_cupAnew 3 (some .int)]
def wsX6_fault_r6 : List Cond := [Cond.fieldLink RX3 88 "CupReceipts$Lots" "cups" "[I", Cond.fieldLink RX3 91 "CupReceipts$Lots" "months" "[I", Cond.methodLink RX5 84 yX3_sellContract, Cond.instanceMethod yX3_sellContract, Cond.selects RX3 yX3_sellContract yX3_sellContract, Cond.code yX3_sellContract cX3_sellContract 3 (some .int), Cond.methodLink RX3 101 yX3_isDeliveryMonth, Cond.instanceMethod yX3_isDeliveryMonth, Cond.selects RX3 yX3_isDeliveryMonth yX3_isDeliveryMonth, Cond.code yX3_isDeliveryMonth cX3_isDeliveryMonth 2 (some .boolean), Cond.methodLink RX3 149 yJ9_floorMod_7cf53, Cond.static yJ9_floorMod_7cf53, Cond.initialized RJ9, Cond.code yJ9_floorMod_7cf53 cJ9_floorMod_7cf53 3 (some .int), Cond.methodLink RX3 105 yX0_add, Cond.instanceMethod yX0_add, Cond.selects RX0 yX0_add yX0_add, Cond.code yX0_add cX0_add 3 (some .int), Cond.constant RX0 22 (-2000000003), Cond.methodLink RX5 87 yX3_meetContract, Cond.instanceMethod yX3_meetContract, Cond.selects RX3 yX3_meetContract yX3_meetContract, Cond.code yX3_meetContract cX3_meetContract 4 (some .int), Cond.fieldLink RX3 117 "CupReceipts$Contracts" "months" "[I"]
def wsX6_fault_r7 : List Cond := [Cond.fieldLink RX3 110 "CupReceipts$Contracts" "prices" "[I", Cond.fieldLink RX3 124 "CupReceipts$Delivery" "missing" "I", Cond.fieldLink RX3 127 "CupReceipts$Delivery" "places" "I", Cond.fieldLink RX3 130 "CupReceipts$Delivery" "rows" "[I", Cond.fieldLink RX3 133 "CupReceipts$Delivery" "bags" "[I", Cond.fieldLink RX3 134 "CupReceipts$Delivery" "pay" "I", Cond.methodLink RX3 107 yX0_isOpen, Cond.instanceMethod yX0_isOpen, Cond.selects RX0 yX0_isOpen yX0_isOpen, Cond.code yX0_isOpen cX0_isOpen 2 (some .boolean), Cond.methodLink RX3 118 yX1_plan, Cond.instanceMethod yX1_plan, Cond.selects RX1 yX1_plan yX1_plan, Cond.initialized RX1, Cond.code yX1_plan cX1_plan 6 none, Cond.fieldLink RX1 35 "CupReceipts$Delivery" "places" "I", Cond.fieldLink RX1 39 "CupReceipts$House" "settings" "[I", Cond.fieldLink RX1 44 "CupReceipts$Delivery" "missing" "I", Cond.fieldLink RX1 47 "CupReceipts$Delivery" "pay" "I", Cond.fieldLink RX1 50 "CupReceipts$Delivery" "gain" "I", Cond.fieldLink RX1 53 "CupReceipts$Delivery" "sumOfCups" "I", Cond.fieldLink RX1 56 "CupReceipts$Delivery" "usedUp" "I", Cond.fieldLink RX1 59 "CupReceipts$House" "lots" "LCupReceipts$Lots;", Cond.fieldLink RX1 63 "CupReceipts$Lots" "size" "I"]
def wsX6_fault_r8 : List Cond := [Cond.fieldLink RX1 72 "CupReceipts$Lots" "bags" "[I", Cond.methodLink RX1 31 yX1_rate, Cond.instanceMethod yX1_rate, Cond.selects RX1 yX1_rate yX1_rate, Cond.code yX1_rate cX1_rate 6 none, Cond.fieldLink RX1 18 "CupReceipts$Delivery" "waiting" "[Z", Cond.fieldLink RX1 22 "CupReceipts$Delivery" "cups" "[I", Cond.fieldLink RX1 25 "CupReceipts$Delivery" "pays" "[I", Cond.fieldLink RX1 28 "CupReceipts$Delivery" "gains" "[I", Cond.fieldLink RX1 88 "CupReceipts$House" "worths" "[I", Cond.methodLink RX1 77 yX4_cupAt, Cond.methodLink RX1 81 yX4_monthsTooOld, Cond.instanceMethod yX4_monthsTooOld, Cond.selects RX4 yX4_monthsTooOld yX4_monthsTooOld, Cond.code yX4_monthsTooOld cX4_monthsTooOld 4 (some .int), Cond.methodLink RX1 84 yX3_payForBag, Cond.instanceMethod yX3_payForBag, Cond.selects RX3 yX3_payForBag yX3_payForBag, Cond.code yX3_payForBag cX3_payForBag 5 (some .int), Cond.static yX6_bandOf, Cond.code yX6_bandOf cX6_bandOf 1 (some .int), Cond.methodLink RX1 68 yX1_rowOfGreatestGain, Cond.instanceMethod yX1_rowOfGreatestGain, Cond.selects RX1 yX1_rowOfGreatestGain yX1_rowOfGreatestGain]
def wsX6_fault_r9 : List Cond := [Cond.code yX1_rowOfGreatestGain cX1_rowOfGreatestGain 4 (some .int), Cond.methodLink RX1 73 yX1_take, Cond.instanceMethod yX1_take, Cond.selects RX1 yX1_take yX1_take, Cond.code yX1_take cX1_take 4 none, Cond.methodLink RX1 94 Lib.Math.min.name, Cond.static Lib.Math.min.name, Cond.initialized "java/lang/Math", Cond.code Lib.Math.min.name Lib.Math.min.code 2 (some .int), Cond.fieldLink RX1 9 "CupReceipts$Delivery" "rows" "[I", Cond.fieldLink RX1 15 "CupReceipts$Delivery" "bags" "[I", Cond.methodLink RX3 113 yX0_drop, Cond.instanceMethod yX0_drop, Cond.selects RX0 yX0_drop yX0_drop, Cond.code yX0_drop cX0_drop 3 none, Cond.methodLink RX0 23 yX0_isOpen, Cond.methodLink RX5 91 yX3_passMonths, Cond.instanceMethod yX3_passMonths, Cond.selects RX3 yX3_passMonths yX3_passMonths, Cond.code yX3_passMonths cX3_passMonths 3 (some .int), Cond.methodLink RX3 137 yX0_dropBefore, Cond.instanceMethod yX0_dropBefore, Cond.selects RX0 yX0_dropBefore yX0_dropBefore, Cond.code yX0_dropBefore cX0_dropBefore 4 (some .int)]
def wsX6_fault_r10 : List Cond := [Cond.methodLink RX5 44 yX5_settle, Cond.instanceMethod yX5_settle, Cond.selects RX5 yX5_settle yX5_settle, Cond.code yX5_settle cX5_settle 2 none, Cond.static yX6_isError, Cond.code yX6_isError cX6_isError 1 (some .boolean)]
def wsX6_fault : List Cond := .code yX6_fault cX6_fault 2 (some .int) :: ((wsX6_fault_r1 ++ (wsX6_fault_r2 ++ (wsX6_fault_r3 ++ (wsX6_fault_r4 ++ (wsX6_fault_r5 ++ (wsX6_fault_r6 ++ (wsX6_fault_r7 ++ (wsX6_fault_r8 ++ (wsX6_fault_r9 ++ wsX6_fault_r10))))))))) ++ wsX60 ++ wsX50 ++ wsX30 ++ wsX40 ++ wsX00 ++ wsX10)
def wsX6_play_r1 : List Cond := [Cond.fieldLink RX6 16 "CupReceipts" "trial" "LCupReceipts$House;", Cond.fieldLink RX6 10 "CupReceipts" "house" "LCupReceipts$House;", Cond.fieldLink RX6 36 "CupReceipts" "orders" "LCupReceipts$Orders;", Cond.fieldLink RX6 29 "CupReceipts" "delivery" "LCupReceipts$Delivery;", Cond.fieldLink RX6 205 "CupReceipts$Orders" "reason" "I", Cond.fieldLink RX6 214 "CupReceipts$Orders" "done" "I", Cond.constant RX6 158 (-2000000002), Cond.methodLink RX6 40 yX3_copyFrom, Cond.instanceMethod yX3_copyFrom, Cond.selects RX3 yX3_copyFrom yX3_copyFrom, Cond.initialized RX3, Cond.code yX3_copyFrom cX3_copyFrom 3 none, Cond.fieldLink RX3 12 "CupReceipts$House" "lots" "LCupReceipts$Lots;", Cond.fieldLink RX3 21 "CupReceipts$House" "contracts" "LCupReceipts$Contracts;", Cond.fieldLink RX3 34 "CupReceipts$House" "worths" "[I", Cond.fieldLink RX3 40 "CupReceipts$House" "settings" "[I", Cond.fieldLink RX3 50 "CupReceipts$House" "month" "I", Cond.fieldLink RX3 54 "CupReceipts$House" "account" "I", Cond.fieldLink RX3 57 "CupReceipts$House" "contractsMet" "I", Cond.fieldLink RX3 60 "CupReceipts$House" "contractsFailed" "I", Cond.fieldLink RX3 63 "CupReceipts$House" "bagsGiven" "I", Cond.methodLink RX3 43 yX4_copyFrom, Cond.instanceMethod yX4_copyFrom, Cond.selects RX4 yX4_copyFrom yX4_copyFrom]
def wsX6_play_r2 : List Cond := [Cond.initialized RX4, Cond.code yX4_copyFrom cX4_copyFrom 3 none, Cond.fieldLink RX4 9 "CupReceipts$Lots" "numbers" "[I", Cond.fieldLink RX4 15 "CupReceipts$Lots" "bags" "[I", Cond.fieldLink RX4 18 "CupReceipts$Lots" "cups" "[I", Cond.fieldLink RX4 21 "CupReceipts$Lots" "months" "[I", Cond.fieldLink RX4 24 "CupReceipts$Lots" "size" "I", Cond.fieldLink RX4 28 "CupReceipts$Lots" "made" "I", Cond.methodLink RX3 47 yX0_copyFrom, Cond.instanceMethod yX0_copyFrom, Cond.selects RX0 yX0_copyFrom yX0_copyFrom, Cond.initialized RX0, Cond.code yX0_copyFrom cX0_copyFrom 3 none, Cond.fieldLink RX0 9 "CupReceipts$Contracts" "months" "[I", Cond.fieldLink RX0 15 "CupReceipts$Contracts" "prices" "[I", Cond.fieldLink RX0 18 "CupReceipts$Contracts" "size" "I", Cond.methodLink RX6 201 yX5_runOn, Cond.instanceMethod yX5_runOn, Cond.selects RX5 yX5_runOn yX5_runOn, Cond.initialized RX5, Cond.code yX5_runOn cX5_runOn 4 none, Cond.fieldLink RX5 24 "CupReceipts$Orders" "start" "I", Cond.fieldLink RX5 27 "CupReceipts$Orders" "reason" "I", Cond.fieldLink RX5 30 "CupReceipts$Orders" "cause" "I"]
def wsX6_play_r3 : List Cond := [Cond.fieldLink RX5 33 "CupReceipts$Orders" "done" "I", Cond.fieldLink RX5 19 "CupReceipts$Orders" "length" "I", Cond.fieldLink RX5 48 "CupReceipts$Orders" "next" "I", Cond.methodLink RX5 36 yX5_readOrder, Cond.instanceMethod yX5_readOrder, Cond.selects RX5 yX5_readOrder yX5_readOrder, Cond.code yX5_readOrder cX5_readOrder 3 (some .boolean), Cond.methodLink RX5 55 yX5_signAt, Cond.instanceMethod yX5_signAt, Cond.selects RX5 yX5_signAt yX5_signAt, Cond.code yX5_signAt cX5_signAt 2 (some .char), Cond.fieldLink RX5 9 "CupReceipts$Orders" "signs" "[C", Cond.methodLink RX5 59 yX5_numbersOf, Cond.static yX5_numbersOf, Cond.code yX5_numbersOf cX5_numbersOf 1 (some .int), Cond.methodLink RX5 63 yX5_readNumber, Cond.instanceMethod yX5_readNumber, Cond.selects RX5 yX5_readNumber yX5_readNumber, Cond.code yX5_readNumber cX5_readNumber 4 (some .boolean), Cond.fieldLink RX5 15 "CupReceipts$Orders" "numbers" "[I", Cond.methodLink RX5 66 yX5_isDigit, Cond.static yX5_isDigit, Cond.code yX5_isDigit cX5_isDigit 1 (some .boolean), Cond.methodLink RX5 40 yX5_perform]
def wsX6_play_r4 : List Cond := [Cond.instanceMethod yX5_perform, Cond.selects RX5 yX5_perform yX5_perform, Cond.code yX5_perform cX5_perform 3 (some .int), Cond.constant RX5 94 (-2000000001), Cond.methodLink RX5 70 yX3_bringLot, Cond.instanceMethod yX3_bringLot, Cond.selects RX3 yX3_bringLot yX3_bringLot, Cond.code yX3_bringLot cX3_bringLot 3 (some .int), Cond.constant RX3 70 (-2000000001), Cond.static yX6_isWithin, Cond.initialized RX6, Cond.code yX6_isWithin cX6_isWithin 3 (some .boolean), Cond.methodLink RX3 71 yX4_add, Cond.instanceMethod yX4_add, Cond.selects RX4 yX4_add yX4_add, Cond.code yX4_add cX4_add 4 (some .int), Cond.constant RX4 35 (-2000000003), Cond.methodLink RX4 31 yX4_isFull, Cond.instanceMethod yX4_isFull, Cond.selects RX4 yX4_isFull yX4_isFull, Cond.code yX4_isFull cX4_isFull 1 (some .boolean), Cond.methodLink RX5 76 yX3_blendLots, Cond.instanceMethod yX3_blendLots, Cond.selects RX3 yX3_blendLots yX3_blendLots]
def wsX6_play_r5 : List Cond := [Cond.code yX3_blendLots cX3_blendLots 11 (some .int), Cond.fieldLink RX3 79 "CupReceipts$Lots" "bags" "[I", Cond.constant RX3 82 (-2000000002), Cond.constant RX3 87 (-2000000003), Cond.methodLink RX3 75 yX4_rowOf, Cond.instanceMethod yX4_rowOf, Cond.selects RX4 yX4_rowOf yX4_rowOf, Cond.code yX4_rowOf cX4_rowOf 3 (some .int), Cond.methodLink RX3 83 yX4_isFull, Cond.methodLink RX3 94 yX4_cupAt, Cond.instanceMethod yX4_cupAt, Cond.selects RX4 yX4_cupAt yX4_cupAt, Cond.code yX4_cupAt cX4_cupAt 4 (some .int), Cond.methodLink RX3 98 yX4_dropEmpty, Cond.instanceMethod yX4_dropEmpty, Cond.selects RX4 yX4_dropEmpty yX4_dropEmpty, Cond.code yX4_dropEmpty cX4_dropEmpty 3 none, Cond.methodLink RX5 80 yX3_cupAnew, Cond.instanceMethod yX3_cupAnew, Cond.selects RX3 yX3_cupAnew yX3_cupAnew, Cond.code yX3_cupAnew cX3_cupAnew 3 (some .int), Cond.fieldLink RX3 88 "CupReceipts$Lots" "cups" "[I", Cond.fieldLink RX3 91 "CupReceipts$Lots" "months" "[I", Cond.methodLink RX5 84 yX3_sellContract]
def wsX6_play_r6 : List Cond := [Cond.instanceMethod yX3_sellContract, Cond.selects RX3 yX3_sellContract yX3_sellContract, Cond.code yX3_sellContract cX3_sellContract 3 (some .int), Cond.methodLink RX3 101 yX3_isDeliveryMonth, Cond.instanceMethod yX3_isDeliveryMonth, Cond.selects RX3 yX3_isDeliveryMonth yX3_isDeliveryMonth, Cond.code yX3_isDeliveryMonth cX3_isDeliveryMonth 2 (some .boolean), Cond.methodLink RX3 149 yJ9_floorMod_7cf53, Cond.static yJ9_floorMod_7cf53, Cond.initialized RJ9, Cond.code yJ9_floorMod_7cf53 cJ9_floorMod_7cf53 3 (some .int), Cond.methodLink RX3 105 yX0_add, Cond.instanceMethod yX0_add, Cond.selects RX0 yX0_add yX0_add, Cond.code yX0_add cX0_add 3 (some .int), Cond.constant RX0 22 (-2000000003), Cond.methodLink RX5 87 yX3_meetContract, Cond.instanceMethod yX3_meetContract, Cond.selects RX3 yX3_meetContract yX3_meetContract, Cond.code yX3_meetContract cX3_meetContract 4 (some .int), Cond.fieldLink RX3 117 "CupReceipts$Contracts" "months" "[I", Cond.fieldLink RX3 110 "CupReceipts$Contracts" "prices" "[I", Cond.fieldLink RX3 124 "CupReceipts$Delivery" "missing" "I", Cond.fieldLink RX3 127 "CupReceipts$Delivery" "places" "I"]
def wsX6_play_r7 : List Cond := [Cond.fieldLink RX3 130 "CupReceipts$Delivery" "rows" "[I", Cond.fieldLink RX3 133 "CupReceipts$Delivery" "bags" "[I", Cond.fieldLink RX3 134 "CupReceipts$Delivery" "pay" "I", Cond.methodLink RX3 107 yX0_isOpen, Cond.instanceMethod yX0_isOpen, Cond.selects RX0 yX0_isOpen yX0_isOpen, Cond.code yX0_isOpen cX0_isOpen 2 (some .boolean), Cond.methodLink RX3 118 yX1_plan, Cond.instanceMethod yX1_plan, Cond.selects RX1 yX1_plan yX1_plan, Cond.initialized RX1, Cond.code yX1_plan cX1_plan 6 none, Cond.fieldLink RX1 35 "CupReceipts$Delivery" "places" "I", Cond.fieldLink RX1 39 "CupReceipts$House" "settings" "[I", Cond.fieldLink RX1 44 "CupReceipts$Delivery" "missing" "I", Cond.fieldLink RX1 47 "CupReceipts$Delivery" "pay" "I", Cond.fieldLink RX1 50 "CupReceipts$Delivery" "gain" "I", Cond.fieldLink RX1 53 "CupReceipts$Delivery" "sumOfCups" "I", Cond.fieldLink RX1 56 "CupReceipts$Delivery" "usedUp" "I", Cond.fieldLink RX1 59 "CupReceipts$House" "lots" "LCupReceipts$Lots;", Cond.fieldLink RX1 63 "CupReceipts$Lots" "size" "I", Cond.fieldLink RX1 72 "CupReceipts$Lots" "bags" "[I", Cond.methodLink RX1 31 yX1_rate, Cond.instanceMethod yX1_rate]
def wsX6_play_r8 : List Cond := [Cond.selects RX1 yX1_rate yX1_rate, Cond.code yX1_rate cX1_rate 6 none, Cond.fieldLink RX1 18 "CupReceipts$Delivery" "waiting" "[Z", Cond.fieldLink RX1 22 "CupReceipts$Delivery" "cups" "[I", Cond.fieldLink RX1 25 "CupReceipts$Delivery" "pays" "[I", Cond.fieldLink RX1 28 "CupReceipts$Delivery" "gains" "[I", Cond.fieldLink RX1 88 "CupReceipts$House" "worths" "[I", Cond.methodLink RX1 77 yX4_cupAt, Cond.methodLink RX1 81 yX4_monthsTooOld, Cond.instanceMethod yX4_monthsTooOld, Cond.selects RX4 yX4_monthsTooOld yX4_monthsTooOld, Cond.code yX4_monthsTooOld cX4_monthsTooOld 4 (some .int), Cond.methodLink RX1 84 yX3_payForBag, Cond.instanceMethod yX3_payForBag, Cond.selects RX3 yX3_payForBag yX3_payForBag, Cond.code yX3_payForBag cX3_payForBag 5 (some .int), Cond.static yX6_bandOf, Cond.code yX6_bandOf cX6_bandOf 1 (some .int), Cond.methodLink RX1 68 yX1_rowOfGreatestGain, Cond.instanceMethod yX1_rowOfGreatestGain, Cond.selects RX1 yX1_rowOfGreatestGain yX1_rowOfGreatestGain, Cond.code yX1_rowOfGreatestGain cX1_rowOfGreatestGain 4 (some .int), Cond.methodLink RX1 73 yX1_take, Cond.instanceMethod yX1_take]
def wsX6_play_r9 : List Cond := [Cond.selects RX1 yX1_take yX1_take, Cond.code yX1_take cX1_take 4 none, Cond.methodLink RX1 94 Lib.Math.min.name, Cond.static Lib.Math.min.name, Cond.initialized "java/lang/Math", Cond.code Lib.Math.min.name Lib.Math.min.code 2 (some .int), Cond.fieldLink RX1 9 "CupReceipts$Delivery" "rows" "[I", Cond.fieldLink RX1 15 "CupReceipts$Delivery" "bags" "[I", Cond.methodLink RX3 113 yX0_drop, Cond.instanceMethod yX0_drop, Cond.selects RX0 yX0_drop yX0_drop, Cond.code yX0_drop cX0_drop 3 none, Cond.methodLink RX0 23 yX0_isOpen, Cond.methodLink RX5 91 yX3_passMonths, Cond.instanceMethod yX3_passMonths, Cond.selects RX3 yX3_passMonths yX3_passMonths, Cond.code yX3_passMonths cX3_passMonths 3 (some .int), Cond.methodLink RX3 137 yX0_dropBefore, Cond.instanceMethod yX0_dropBefore, Cond.selects RX0 yX0_dropBefore yX0_dropBefore, Cond.code yX0_dropBefore cX0_dropBefore 4 (some .int), Cond.methodLink RX5 44 yX5_settle, Cond.instanceMethod yX5_settle, Cond.selects RX5 yX5_settle yX5_settle]
def wsX6_play_r10 : List Cond := [Cond.code yX5_settle cX5_settle 2 none, Cond.static yX6_isError, Cond.code yX6_isError cX6_isError 1 (some .boolean), Cond.constant RX6 102 (-2000000004), Cond.constant RX6 90 (-2000000001), Cond.methodLink RX6 122 yX6_isWithin, Cond.methodLink RX6 48 yX6_accept, Cond.instanceMethod yX6_accept, Cond.selects RX6 yX6_accept yX6_accept, Cond.code yX6_accept cX6_accept 2 (some .int), Cond.fieldLink RX6 22 "CupReceipts" "history" "LCupReceipts$History;", Cond.methodLink RX6 217 yX6_isError, Cond.methodLink RX6 220 yX2_record, Cond.instanceMethod yX2_record, Cond.selects RX2 yX2_record yX2_record, Cond.initialized RX2, Cond.code yX2_record cX2_record 2 none, Cond.fieldLink RX2 18 "CupReceipts$History" "states" "I", Cond.fieldLink RX2 11 "CupReceipts$History" "rooms" "[LCupReceipts$House;", Cond.methodLink RX2 22 yX2_dropOldest, Cond.instanceMethod yX2_dropOldest, Cond.selects RX2 yX2_dropOldest yX2_dropOldest, Cond.code yX2_dropOldest cX2_dropOldest 3 none, Cond.methodLink RX2 25 yX3_copyFrom]
def wsX6_play : List Cond := .code yX6_play cX6_play 1 (some .int) :: ((wsX6_play_r1 ++ (wsX6_play_r2 ++ (wsX6_play_r3 ++ (wsX6_play_r4 ++ (wsX6_play_r5 ++ (wsX6_play_r6 ++ (wsX6_play_r7 ++ (wsX6_play_r8 ++ (wsX6_play_r9 ++ wsX6_play_r10))))))))) ++ wsX60 ++ wsX50 ++ wsX30 ++ wsX40 ++ wsX00 ++ wsX10 ++ wsX20)
def wsX7_init : List Cond := .code yX7_init cX7_init 1 none :: ([.methodLink RX7 1 objectInit, .instanceMethod objectInit, .code objectInit ⟨#[0xb1]⟩ 1 none, .arrayClass .int, .fieldLink RX7 7 "CupReceiptsModel" "s" "[I", .fieldLink RX7 13 "CupReceiptsModel" "past" "[I", .fieldLink RX7 16 "CupReceiptsModel" "held" "[I", .fieldLink RX7 19 "CupReceiptsModel" "text" "[I", .fieldLink RX7 22 "CupReceiptsModel" "lots" "[I", .fieldLink RX7 25 "CupReceiptsModel" "bagsOf" "[I", .fieldLink RX7 28 "CupReceiptsModel" "told" "[I"] ++ wsX70)
def wsX7_in : List Cond := .code yX7_in cX7_in 3 (some .boolean) :: ([])
def wsX7_copies : List Cond := .code yX7_copies cX7_copies 3 none :: ([])
def wsX7_changes : List Cond := .code yX7_changes cX7_changes 2 none :: ([.fieldLink RX7 31 "CupReceiptsModel" "runs" "Z", .fieldLink RX7 35 "CupReceiptsModel" "pasts" "I", .fieldLink RX7 13 "CupReceiptsModel" "past" "[I", .fieldLink RX7 7 "CupReceiptsModel" "s" "[I"] ++ wsX70)
def wsX7_of : List Cond := .code yX7_of cX7_of 3 (some .int) :: ([.fieldLink RX7 7 "CupReceiptsModel" "s" "[I"] ++ wsX70)
def wsX7_placeOf : List Cond := .code yX7_placeOf cX7_placeOf 3 (some .int) :: ([.fieldLink RX7 7 "CupReceiptsModel" "s" "[I", .constant RX7 43 (-2000000004), .methodLink RX7 39 yX7_of, .instanceMethod yX7_of, .selects RX7 yX7_of yX7_of, .initialized RX7, .code yX7_of cX7_of 3 (some .int)] ++ wsX70)
def wsX7_isLot : List Cond := .code yX7_isLot cX7_isLot 2 (some .boolean) :: ([.methodLink RX7 44 yX7_placeOf, .instanceMethod yX7_placeOf, .selects RX7 yX7_placeOf yX7_placeOf, .initialized RX7, .code yX7_placeOf cX7_placeOf 3 (some .int), .fieldLink RX7 7 "CupReceiptsModel" "s" "[I", .constant RX7 43 (-2000000004), .methodLink RX7 39 yX7_of, .instanceMethod yX7_of, .selects RX7 yX7_of yX7_of, .code yX7_of cX7_of 3 (some .int)] ++ wsX70)
def wsX7_cupAt : List Cond := .code yX7_cupAt cX7_cupAt 4 (some .int) :: ([.methodLink RX7 39 yX7_of, .instanceMethod yX7_of, .selects RX7 yX7_of yX7_of, .initialized RX7, .code yX7_of cX7_of 3 (some .int), .fieldLink RX7 7 "CupReceiptsModel" "s" "[I"] ++ wsX70)
def wsX7_cupOf : List Cond := .code yX7_cupOf cX7_cupOf 2 (some .int) :: ([.fieldLink RX7 7 "CupReceiptsModel" "s" "[I", .methodLink RX7 48 yX7_cupAt, .instanceMethod yX7_cupAt, .selects RX7 yX7_cupAt yX7_cupAt, .initialized RX7, .code yX7_cupAt cX7_cupAt 4 (some .int), .methodLink RX7 39 yX7_of, .instanceMethod yX7_of, .selects RX7 yX7_of yX7_of, .code yX7_of cX7_of 3 (some .int)] ++ wsX70)
def wsX7_bandOf : List Cond := .code yX7_bandOf cX7_bandOf 1 (some .int) :: ([])
def wsX7_lateAt : List Cond := .code yX7_lateAt cX7_lateAt 4 (some .int) :: ([.methodLink RX7 39 yX7_of, .instanceMethod yX7_of, .selects RX7 yX7_of yX7_of, .initialized RX7, .code yX7_of cX7_of 3 (some .int), .fieldLink RX7 7 "CupReceiptsModel" "s" "[I"] ++ wsX70)
def wsX7_paidAt : List Cond := .code yX7_paidAt cX7_paidAt 5 (some .int) :: ([.fieldLink RX7 7 "CupReceiptsModel" "s" "[I", .methodLink RX7 48 yX7_cupAt, .instanceMethod yX7_cupAt, .selects RX7 yX7_cupAt yX7_cupAt, .initialized RX7, .code yX7_cupAt cX7_cupAt 4 (some .int), .methodLink RX7 39 yX7_of, .instanceMethod yX7_of, .selects RX7 yX7_of yX7_of, .code yX7_of cX7_of 3 (some .int), .methodLink RX7 51 yX7_lateAt, .instanceMethod yX7_lateAt, .selects RX7 yX7_lateAt yX7_lateAt, .code yX7_lateAt cX7_lateAt 4 (some .int)] ++ wsX70)
def wsX7_gainAt : List Cond := .code yX7_gainAt cX7_gainAt 4 (some .int) :: ([.fieldLink RX7 7 "CupReceiptsModel" "s" "[I", .methodLink RX7 54 yX7_paidAt, .instanceMethod yX7_paidAt, .selects RX7 yX7_paidAt yX7_paidAt, .initialized RX7, .code yX7_paidAt cX7_paidAt 5 (some .int), .methodLink RX7 48 yX7_cupAt, .instanceMethod yX7_cupAt, .selects RX7 yX7_cupAt yX7_cupAt, .code yX7_cupAt cX7_cupAt 4 (some .int), .methodLink RX7 39 yX7_of, .instanceMethod yX7_of, .selects RX7 yX7_of yX7_of, .code yX7_of cX7_of 3 (some .int), .methodLink RX7 51 yX7_lateAt, .instanceMethod yX7_lateAt, .selects RX7 yX7_lateAt yX7_lateAt, .code yX7_lateAt cX7_lateAt 4 (some .int), .methodLink RX7 58 yX7_bandOf, .static yX7_bandOf, .code yX7_bandOf cX7_bandOf 1 (some .int)] ++ wsX70)
def wsX7_makes : List Cond := .code yX7_makes cX7_makes 5 (some .int) :: ([.fieldLink RX7 7 "CupReceiptsModel" "s" "[I"] ++ wsX70)
def wsX7_takes : List Cond := .code yX7_takes cX7_takes 5 none :: ([.fieldLink RX7 7 "CupReceiptsModel" "s" "[I", .methodLink RX7 44 yX7_placeOf, .instanceMethod yX7_placeOf, .selects RX7 yX7_placeOf yX7_placeOf, .initialized RX7, .code yX7_placeOf cX7_placeOf 3 (some .int), .constant RX7 43 (-2000000004), .methodLink RX7 39 yX7_of, .instanceMethod yX7_of, .selects RX7 yX7_of yX7_of, .code yX7_of cX7_of 3 (some .int)] ++ wsX70)
def wsX7_lot : List Cond := .code yX7_lot cX7_lot 3 (some .int) :: ([.constant RX7 65 (-2000000001), .fieldLink RX7 7 "CupReceiptsModel" "s" "[I", .constant RX7 66 (-2000000003), .methodLink RX7 61 yX7_in, .static yX7_in, .initialized RX7, .code yX7_in cX7_in 3 (some .boolean), .methodLink RX7 67 yX7_changes, .instanceMethod yX7_changes, .selects RX7 yX7_changes yX7_changes, .code yX7_changes cX7_changes 2 none, .fieldLink RX7 31 "CupReceiptsModel" "runs" "Z", .fieldLink RX7 35 "CupReceiptsModel" "pasts" "I", .fieldLink RX7 13 "CupReceiptsModel" "past" "[I", .methodLink RX7 70 yX7_makes, .instanceMethod yX7_makes, .selects RX7 yX7_makes yX7_makes, .code yX7_makes cX7_makes 5 (some .int)] ++ wsX70)
def wsX7_part_r1 : List Cond := [Cond.constant RX7 65 (-2000000001), Cond.constant RX7 77 (-2000000002), Cond.fieldLink RX7 7 "CupReceiptsModel" "s" "[I", Cond.constant RX7 66 (-2000000003), Cond.methodLink RX7 73 yX7_isLot, Cond.instanceMethod yX7_isLot, Cond.selects RX7 yX7_isLot yX7_isLot, Cond.initialized RX7, Cond.code yX7_isLot cX7_isLot 2 (some .boolean), Cond.methodLink RX7 44 yX7_placeOf, Cond.instanceMethod yX7_placeOf, Cond.selects RX7 yX7_placeOf yX7_placeOf, Cond.code yX7_placeOf cX7_placeOf 3 (some .int), Cond.constant RX7 43 (-2000000004), Cond.methodLink RX7 39 yX7_of, Cond.instanceMethod yX7_of, Cond.selects RX7 yX7_of yX7_of, Cond.code yX7_of cX7_of 3 (some .int), Cond.methodLink RX7 67 yX7_changes, Cond.instanceMethod yX7_changes, Cond.selects RX7 yX7_changes yX7_changes, Cond.code yX7_changes cX7_changes 2 none, Cond.fieldLink RX7 31 "CupReceiptsModel" "runs" "Z", Cond.fieldLink RX7 35 "CupReceiptsModel" "pasts" "I"]
def wsX7_part_r2 : List Cond := [Cond.fieldLink RX7 13 "CupReceiptsModel" "past" "[I", Cond.methodLink RX7 78 yX7_takes, Cond.instanceMethod yX7_takes, Cond.selects RX7 yX7_takes yX7_takes, Cond.code yX7_takes cX7_takes 5 none, Cond.methodLink RX7 70 yX7_makes, Cond.instanceMethod yX7_makes, Cond.selects RX7 yX7_makes yX7_makes, Cond.code yX7_makes cX7_makes 5 (some .int)]
def wsX7_part : List Cond := .code yX7_part cX7_part 4 (some .int) :: ((wsX7_part_r1 ++ wsX7_part_r2) ++ wsX70)
def wsX7_blended : List Cond := .code yX7_blended cX7_blended 4 (some .int) :: ([])
def wsX7_blend_r1 : List Cond := [Cond.constant RX7 65 (-2000000001), Cond.constant RX7 77 (-2000000002), Cond.fieldLink RX7 7 "CupReceiptsModel" "s" "[I", Cond.constant RX7 66 (-2000000003), Cond.methodLink RX7 73 yX7_isLot, Cond.instanceMethod yX7_isLot, Cond.selects RX7 yX7_isLot yX7_isLot, Cond.initialized RX7, Cond.code yX7_isLot cX7_isLot 2 (some .boolean), Cond.methodLink RX7 44 yX7_placeOf, Cond.instanceMethod yX7_placeOf, Cond.selects RX7 yX7_placeOf yX7_placeOf, Cond.code yX7_placeOf cX7_placeOf 3 (some .int), Cond.constant RX7 43 (-2000000004), Cond.methodLink RX7 39 yX7_of, Cond.instanceMethod yX7_of, Cond.selects RX7 yX7_of yX7_of, Cond.code yX7_of cX7_of 3 (some .int), Cond.methodLink RX7 67 yX7_changes, Cond.instanceMethod yX7_changes, Cond.selects RX7 yX7_changes yX7_changes, Cond.code yX7_changes cX7_changes 2 none, Cond.fieldLink RX7 31 "CupReceiptsModel" "runs" "Z", Cond.fieldLink RX7 35 "CupReceiptsModel" "pasts" "I"]
def wsX7_blend_r2 : List Cond := [Cond.fieldLink RX7 13 "CupReceiptsModel" "past" "[I", Cond.methodLink RX7 82 yX7_cupOf, Cond.instanceMethod yX7_cupOf, Cond.selects RX7 yX7_cupOf yX7_cupOf, Cond.code yX7_cupOf cX7_cupOf 2 (some .int), Cond.methodLink RX7 48 yX7_cupAt, Cond.instanceMethod yX7_cupAt, Cond.selects RX7 yX7_cupAt yX7_cupAt, Cond.code yX7_cupAt cX7_cupAt 4 (some .int), Cond.methodLink RX7 85 yX7_blended, Cond.static yX7_blended, Cond.code yX7_blended cX7_blended 4 (some .int), Cond.methodLink RX7 78 yX7_takes, Cond.instanceMethod yX7_takes, Cond.selects RX7 yX7_takes yX7_takes, Cond.code yX7_takes cX7_takes 5 none, Cond.methodLink RX7 70 yX7_makes, Cond.instanceMethod yX7_makes, Cond.selects RX7 yX7_makes yX7_makes, Cond.code yX7_makes cX7_makes 5 (some .int)]
def wsX7_blend : List Cond := .code yX7_blend cX7_blend 9 (some .int) :: ((wsX7_blend_r1 ++ wsX7_blend_r2) ++ wsX70)
def wsX7_cup_r1 : List Cond := [Cond.constant RX7 65 (-2000000001), Cond.constant RX7 77 (-2000000002), Cond.fieldLink RX7 7 "CupReceiptsModel" "s" "[I", Cond.methodLink RX7 73 yX7_isLot, Cond.instanceMethod yX7_isLot, Cond.selects RX7 yX7_isLot yX7_isLot, Cond.initialized RX7, Cond.code yX7_isLot cX7_isLot 2 (some .boolean), Cond.methodLink RX7 44 yX7_placeOf, Cond.instanceMethod yX7_placeOf, Cond.selects RX7 yX7_placeOf yX7_placeOf, Cond.code yX7_placeOf cX7_placeOf 3 (some .int), Cond.constant RX7 43 (-2000000004), Cond.methodLink RX7 39 yX7_of, Cond.instanceMethod yX7_of, Cond.selects RX7 yX7_of yX7_of, Cond.code yX7_of cX7_of 3 (some .int), Cond.methodLink RX7 67 yX7_changes, Cond.instanceMethod yX7_changes, Cond.selects RX7 yX7_changes yX7_changes, Cond.code yX7_changes cX7_changes 2 none, Cond.fieldLink RX7 31 "CupReceiptsModel" "runs" "Z", Cond.fieldLink RX7 35 "CupReceiptsModel" "pasts" "I", Cond.fieldLink RX7 13 "CupReceiptsModel" "past" "[I"]
def wsX7_cup_r2 : List Cond := [Cond.methodLink RX7 82 yX7_cupOf, Cond.instanceMethod yX7_cupOf, Cond.selects RX7 yX7_cupOf yX7_cupOf, Cond.code yX7_cupOf cX7_cupOf 2 (some .int), Cond.methodLink RX7 48 yX7_cupAt, Cond.instanceMethod yX7_cupAt, Cond.selects RX7 yX7_cupAt yX7_cupAt, Cond.code yX7_cupAt cX7_cupAt 4 (some .int)]
def wsX7_cup : List Cond := .code yX7_cup cX7_cup 4 (some .int) :: ((wsX7_cup_r1 ++ wsX7_cup_r2) ++ wsX70)
def wsX7_worth : List Cond := .code yX7_worth cX7_worth 4 (some .int) :: ([.constant RX7 65 (-2000000001), .fieldLink RX7 7 "CupReceiptsModel" "s" "[I", .methodLink RX7 61 yX7_in, .static yX7_in, .initialized RX7, .code yX7_in cX7_in 3 (some .boolean), .methodLink RX7 67 yX7_changes, .instanceMethod yX7_changes, .selects RX7 yX7_changes yX7_changes, .code yX7_changes cX7_changes 2 none, .fieldLink RX7 31 "CupReceiptsModel" "runs" "Z", .fieldLink RX7 35 "CupReceiptsModel" "pasts" "I", .fieldLink RX7 13 "CupReceiptsModel" "past" "[I"] ++ wsX70)
def wsX7_isContract : List Cond := .code yX7_isContract cX7_isContract 2 (some .boolean) :: ([.fieldLink RX7 7 "CupReceiptsModel" "s" "[I"] ++ wsX70)
def wsX7_monthOf : List Cond := .code yX7_monthOf cX7_monthOf 2 (some .int) :: ([.fieldLink RX7 7 "CupReceiptsModel" "s" "[I"] ++ wsX70)
def wsX7_priceOf : List Cond := .code yX7_priceOf cX7_priceOf 2 (some .int) :: ([.fieldLink RX7 7 "CupReceiptsModel" "s" "[I"] ++ wsX70)
def wsX7_isDelivery : List Cond := .code yX7_isDelivery cX7_isDelivery 2 (some .boolean) :: ([.fieldLink RX7 7 "CupReceiptsModel" "s" "[I"] ++ wsX70)
def wsX7_closes : List Cond := .code yX7_closes cX7_closes 3 none :: ([.fieldLink RX7 7 "CupReceiptsModel" "s" "[I"] ++ wsX70)
def wsX7_sell : List Cond := .code yX7_sell cX7_sell 4 (some .int) :: ([.constant RX7 65 (-2000000001), .fieldLink RX7 7 "CupReceiptsModel" "s" "[I", .constant RX7 77 (-2000000002), .constant RX7 66 (-2000000003), .methodLink RX7 61 yX7_in, .static yX7_in, .initialized RX7, .code yX7_in cX7_in 3 (some .boolean), .methodLink RX7 89 yX7_isDelivery, .instanceMethod yX7_isDelivery, .selects RX7 yX7_isDelivery yX7_isDelivery, .code yX7_isDelivery cX7_isDelivery 2 (some .boolean), .methodLink RX7 67 yX7_changes, .instanceMethod yX7_changes, .selects RX7 yX7_changes yX7_changes, .code yX7_changes cX7_changes 2 none, .fieldLink RX7 31 "CupReceiptsModel" "runs" "Z", .fieldLink RX7 35 "CupReceiptsModel" "pasts" "I", .fieldLink RX7 13 "CupReceiptsModel" "past" "[I"] ++ wsX70)
def wsX7_buyBack_r1 : List Cond := [Cond.constant RX7 65 (-2000000001), Cond.fieldLink RX7 7 "CupReceiptsModel" "s" "[I", Cond.methodLink RX7 92 yX7_isContract, Cond.instanceMethod yX7_isContract, Cond.selects RX7 yX7_isContract yX7_isContract, Cond.initialized RX7, Cond.code yX7_isContract cX7_isContract 2 (some .boolean), Cond.methodLink RX7 61 yX7_in, Cond.static yX7_in, Cond.code yX7_in cX7_in 3 (some .boolean), Cond.methodLink RX7 67 yX7_changes, Cond.instanceMethod yX7_changes, Cond.selects RX7 yX7_changes yX7_changes, Cond.code yX7_changes cX7_changes 2 none, Cond.fieldLink RX7 31 "CupReceiptsModel" "runs" "Z", Cond.fieldLink RX7 35 "CupReceiptsModel" "pasts" "I", Cond.fieldLink RX7 13 "CupReceiptsModel" "past" "[I", Cond.methodLink RX7 95 yX7_priceOf, Cond.instanceMethod yX7_priceOf, Cond.selects RX7 yX7_priceOf yX7_priceOf, Cond.code yX7_priceOf cX7_priceOf 2 (some .int), Cond.methodLink RX7 98 yX7_closes, Cond.instanceMethod yX7_closes, Cond.selects RX7 yX7_closes yX7_closes]
def wsX7_buyBack_r2 : List Cond := [Cond.code yX7_closes cX7_closes 3 none]
def wsX7_buyBack : List Cond := .code yX7_buyBack cX7_buyBack 4 (some .int) :: ((wsX7_buyBack_r1 ++ wsX7_buyBack_r2) ++ wsX70)
def wsX7_gives_r1 : List Cond := [Cond.fieldLink RX7 102 "CupReceiptsModel" "places" "I", Cond.fieldLink RX7 7 "CupReceiptsModel" "s" "[I", Cond.fieldLink RX7 105 "CupReceiptsModel" "wanting" "I", Cond.constant RX7 43 (-2000000004), Cond.fieldLink RX7 22 "CupReceiptsModel" "lots" "[I", Cond.fieldLink RX7 25 "CupReceiptsModel" "bagsOf" "[I", Cond.methodLink RX7 48 yX7_cupAt, Cond.instanceMethod yX7_cupAt, Cond.selects RX7 yX7_cupAt yX7_cupAt, Cond.initialized RX7, Cond.code yX7_cupAt cX7_cupAt 4 (some .int), Cond.methodLink RX7 39 yX7_of, Cond.instanceMethod yX7_of, Cond.selects RX7 yX7_of yX7_of, Cond.code yX7_of cX7_of 3 (some .int), Cond.methodLink RX7 108 yX7_gainAt, Cond.instanceMethod yX7_gainAt, Cond.selects RX7 yX7_gainAt yX7_gainAt, Cond.code yX7_gainAt cX7_gainAt 4 (some .int), Cond.methodLink RX7 54 yX7_paidAt, Cond.instanceMethod yX7_paidAt, Cond.selects RX7 yX7_paidAt yX7_paidAt, Cond.code yX7_paidAt cX7_paidAt 5 (some .int), Cond.methodLink RX7 51 yX7_lateAt]
def wsX7_gives_r2 : List Cond := [Cond.instanceMethod yX7_lateAt, Cond.selects RX7 yX7_lateAt yX7_lateAt, Cond.code yX7_lateAt cX7_lateAt 4 (some .int), Cond.methodLink RX7 58 yX7_bandOf, Cond.static yX7_bandOf, Cond.code yX7_bandOf cX7_bandOf 1 (some .int)]
def wsX7_gives : List Cond := .code yX7_gives cX7_gives 8 none :: ((wsX7_gives_r1 ++ wsX7_gives_r2) ++ wsX70)
def wsX7_paidAll_r1 : List Cond := [Cond.fieldLink RX7 102 "CupReceiptsModel" "places" "I", Cond.fieldLink RX7 25 "CupReceiptsModel" "bagsOf" "[I", Cond.fieldLink RX7 22 "CupReceiptsModel" "lots" "[I", Cond.methodLink RX7 108 yX7_gainAt, Cond.instanceMethod yX7_gainAt, Cond.selects RX7 yX7_gainAt yX7_gainAt, Cond.initialized RX7, Cond.code yX7_gainAt cX7_gainAt 4 (some .int), Cond.fieldLink RX7 7 "CupReceiptsModel" "s" "[I", Cond.methodLink RX7 54 yX7_paidAt, Cond.instanceMethod yX7_paidAt, Cond.selects RX7 yX7_paidAt yX7_paidAt, Cond.code yX7_paidAt cX7_paidAt 5 (some .int), Cond.methodLink RX7 48 yX7_cupAt, Cond.instanceMethod yX7_cupAt, Cond.selects RX7 yX7_cupAt yX7_cupAt, Cond.code yX7_cupAt cX7_cupAt 4 (some .int), Cond.methodLink RX7 39 yX7_of, Cond.instanceMethod yX7_of, Cond.selects RX7 yX7_of yX7_of, Cond.code yX7_of cX7_of 3 (some .int), Cond.methodLink RX7 51 yX7_lateAt, Cond.instanceMethod yX7_lateAt, Cond.selects RX7 yX7_lateAt yX7_lateAt]
def wsX7_paidAll_r2 : List Cond := [Cond.code yX7_lateAt cX7_lateAt 4 (some .int), Cond.methodLink RX7 58 yX7_bandOf, Cond.static yX7_bandOf, Cond.code yX7_bandOf cX7_bandOf 1 (some .int)]
def wsX7_paidAll : List Cond := .code yX7_paidAll cX7_paidAll 6 (some .int) :: ((wsX7_paidAll_r1 ++ wsX7_paidAll_r2) ++ wsX70)
def wsX7_meet_r1 : List Cond := [Cond.constant RX7 65 (-2000000001), Cond.fieldLink RX7 7 "CupReceiptsModel" "s" "[I", Cond.fieldLink RX7 105 "CupReceiptsModel" "wanting" "I", Cond.constant RX7 77 (-2000000002), Cond.fieldLink RX7 102 "CupReceiptsModel" "places" "I", Cond.fieldLink RX7 22 "CupReceiptsModel" "lots" "[I", Cond.fieldLink RX7 25 "CupReceiptsModel" "bagsOf" "[I", Cond.methodLink RX7 92 yX7_isContract, Cond.instanceMethod yX7_isContract, Cond.selects RX7 yX7_isContract yX7_isContract, Cond.initialized RX7, Cond.code yX7_isContract cX7_isContract 2 (some .boolean), Cond.methodLink RX7 95 yX7_priceOf, Cond.instanceMethod yX7_priceOf, Cond.selects RX7 yX7_priceOf yX7_priceOf, Cond.code yX7_priceOf cX7_priceOf 2 (some .int), Cond.methodLink RX7 111 yX7_gives, Cond.instanceMethod yX7_gives, Cond.selects RX7 yX7_gives yX7_gives, Cond.code yX7_gives cX7_gives 8 none, Cond.constant RX7 43 (-2000000004), Cond.methodLink RX7 48 yX7_cupAt, Cond.instanceMethod yX7_cupAt, Cond.selects RX7 yX7_cupAt yX7_cupAt]
def wsX7_meet_r2 : List Cond := [Cond.code yX7_cupAt cX7_cupAt 4 (some .int), Cond.methodLink RX7 39 yX7_of, Cond.instanceMethod yX7_of, Cond.selects RX7 yX7_of yX7_of, Cond.code yX7_of cX7_of 3 (some .int), Cond.methodLink RX7 108 yX7_gainAt, Cond.instanceMethod yX7_gainAt, Cond.selects RX7 yX7_gainAt yX7_gainAt, Cond.code yX7_gainAt cX7_gainAt 4 (some .int), Cond.methodLink RX7 54 yX7_paidAt, Cond.instanceMethod yX7_paidAt, Cond.selects RX7 yX7_paidAt yX7_paidAt, Cond.code yX7_paidAt cX7_paidAt 5 (some .int), Cond.methodLink RX7 51 yX7_lateAt, Cond.instanceMethod yX7_lateAt, Cond.selects RX7 yX7_lateAt yX7_lateAt, Cond.code yX7_lateAt cX7_lateAt 4 (some .int), Cond.methodLink RX7 58 yX7_bandOf, Cond.static yX7_bandOf, Cond.code yX7_bandOf cX7_bandOf 1 (some .int), Cond.methodLink RX7 114 yX7_monthOf, Cond.instanceMethod yX7_monthOf, Cond.selects RX7 yX7_monthOf yX7_monthOf, Cond.code yX7_monthOf cX7_monthOf 2 (some .int)]
def wsX7_meet_r3 : List Cond := [Cond.methodLink RX7 67 yX7_changes, Cond.instanceMethod yX7_changes, Cond.selects RX7 yX7_changes yX7_changes, Cond.code yX7_changes cX7_changes 2 none, Cond.fieldLink RX7 31 "CupReceiptsModel" "runs" "Z", Cond.fieldLink RX7 35 "CupReceiptsModel" "pasts" "I", Cond.fieldLink RX7 13 "CupReceiptsModel" "past" "[I", Cond.methodLink RX7 117 yX7_paidAll, Cond.instanceMethod yX7_paidAll, Cond.selects RX7 yX7_paidAll yX7_paidAll, Cond.code yX7_paidAll cX7_paidAll 6 (some .int), Cond.methodLink RX7 78 yX7_takes, Cond.instanceMethod yX7_takes, Cond.selects RX7 yX7_takes yX7_takes, Cond.code yX7_takes cX7_takes 5 none, Cond.methodLink RX7 44 yX7_placeOf, Cond.instanceMethod yX7_placeOf, Cond.selects RX7 yX7_placeOf yX7_placeOf, Cond.code yX7_placeOf cX7_placeOf 3 (some .int), Cond.methodLink RX7 98 yX7_closes, Cond.instanceMethod yX7_closes, Cond.selects RX7 yX7_closes yX7_closes, Cond.code yX7_closes cX7_closes 3 none]
def wsX7_meet : List Cond := .code yX7_meet cX7_meet 4 (some .int) :: ((wsX7_meet_r1 ++ (wsX7_meet_r2 ++ wsX7_meet_r3)) ++ wsX70)
def wsX7_fails : List Cond := .code yX7_fails cX7_fails 3 (some .int) :: ([.fieldLink RX7 7 "CupReceiptsModel" "s" "[I", .methodLink RX7 114 yX7_monthOf, .instanceMethod yX7_monthOf, .selects RX7 yX7_monthOf yX7_monthOf, .initialized RX7, .code yX7_monthOf cX7_monthOf 2 (some .int), .methodLink RX7 98 yX7_closes, .instanceMethod yX7_closes, .selects RX7 yX7_closes yX7_closes, .code yX7_closes cX7_closes 3 none] ++ wsX70)
def wsX7_pass_r1 : List Cond := [Cond.constant RX7 65 (-2000000001), Cond.fieldLink RX7 7 "CupReceiptsModel" "s" "[I", Cond.constant RX7 66 (-2000000003), Cond.methodLink RX7 61 yX7_in, Cond.static yX7_in, Cond.initialized RX7, Cond.code yX7_in cX7_in 3 (some .boolean), Cond.methodLink RX7 67 yX7_changes, Cond.instanceMethod yX7_changes, Cond.selects RX7 yX7_changes yX7_changes, Cond.code yX7_changes cX7_changes 2 none, Cond.fieldLink RX7 31 "CupReceiptsModel" "runs" "Z", Cond.fieldLink RX7 35 "CupReceiptsModel" "pasts" "I", Cond.fieldLink RX7 13 "CupReceiptsModel" "past" "[I", Cond.methodLink RX7 121 yX7_fails, Cond.instanceMethod yX7_fails, Cond.selects RX7 yX7_fails yX7_fails, Cond.code yX7_fails cX7_fails 3 (some .int), Cond.methodLink RX7 114 yX7_monthOf, Cond.instanceMethod yX7_monthOf, Cond.selects RX7 yX7_monthOf yX7_monthOf, Cond.code yX7_monthOf cX7_monthOf 2 (some .int), Cond.methodLink RX7 98 yX7_closes, Cond.instanceMethod yX7_closes]
def wsX7_pass_r2 : List Cond := [Cond.selects RX7 yX7_closes yX7_closes, Cond.code yX7_closes cX7_closes 3 none]
def wsX7_pass : List Cond := .code yX7_pass cX7_pass 4 (some .int) :: ((wsX7_pass_r1 ++ wsX7_pass_r2) ++ wsX70)
def wsX7_set : List Cond := .code yX7_set cX7_set 6 (some .int) :: ([.constant RX7 65 (-2000000001), .fieldLink RX7 7 "CupReceiptsModel" "s" "[I", .constant RX7 77 (-2000000002), .methodLink RX7 61 yX7_in, .static yX7_in, .initialized RX7, .code yX7_in cX7_in 3 (some .boolean), .methodLink RX7 67 yX7_changes, .instanceMethod yX7_changes, .selects RX7 yX7_changes yX7_changes, .code yX7_changes cX7_changes 2 none, .fieldLink RX7 31 "CupReceiptsModel" "runs" "Z", .fieldLink RX7 35 "CupReceiptsModel" "pasts" "I", .fieldLink RX7 13 "CupReceiptsModel" "past" "[I"] ++ wsX70)
def wsX7_lotOf_r1 : List Cond := [Cond.constant RX7 65 (-2000000001), Cond.fieldLink RX7 7 "CupReceiptsModel" "s" "[I", Cond.methodLink RX7 73 yX7_isLot, Cond.instanceMethod yX7_isLot, Cond.selects RX7 yX7_isLot yX7_isLot, Cond.initialized RX7, Cond.code yX7_isLot cX7_isLot 2 (some .boolean), Cond.methodLink RX7 44 yX7_placeOf, Cond.instanceMethod yX7_placeOf, Cond.selects RX7 yX7_placeOf yX7_placeOf, Cond.code yX7_placeOf cX7_placeOf 3 (some .int), Cond.constant RX7 43 (-2000000004), Cond.methodLink RX7 39 yX7_of, Cond.instanceMethod yX7_of, Cond.selects RX7 yX7_of yX7_of, Cond.code yX7_of cX7_of 3 (some .int), Cond.methodLink RX7 61 yX7_in, Cond.static yX7_in, Cond.code yX7_in cX7_in 3 (some .boolean), Cond.methodLink RX7 82 yX7_cupOf, Cond.instanceMethod yX7_cupOf, Cond.selects RX7 yX7_cupOf yX7_cupOf, Cond.code yX7_cupOf cX7_cupOf 2 (some .int), Cond.methodLink RX7 48 yX7_cupAt]
def wsX7_lotOf_r2 : List Cond := [Cond.instanceMethod yX7_cupAt, Cond.selects RX7 yX7_cupAt yX7_cupAt, Cond.code yX7_cupAt cX7_cupAt 4 (some .int), Cond.methodLink RX7 58 yX7_bandOf, Cond.static yX7_bandOf, Cond.code yX7_bandOf cX7_bandOf 1 (some .int), Cond.methodLink RX7 51 yX7_lateAt, Cond.instanceMethod yX7_lateAt, Cond.selects RX7 yX7_lateAt yX7_lateAt, Cond.code yX7_lateAt cX7_lateAt 4 (some .int)]
def wsX7_lotOf : List Cond := .code yX7_lotOf cX7_lotOf 4 (some .int) :: ((wsX7_lotOf_r1 ++ wsX7_lotOf_r2) ++ wsX70)
def wsX7_numberOf : List Cond := .code yX7_numberOf cX7_numberOf 2 (some .int) :: ([.constant RX7 65 (-2000000001), .fieldLink RX7 7 "CupReceiptsModel" "s" "[I", .constant RX7 43 (-2000000004), .methodLink RX7 39 yX7_of, .instanceMethod yX7_of, .selects RX7 yX7_of yX7_of, .initialized RX7, .code yX7_of cX7_of 3 (some .int)] ++ wsX70)
def wsX7_contractOf : List Cond := .code yX7_contractOf cX7_contractOf 3 (some .int) :: ([.constant RX7 65 (-2000000001), .fieldLink RX7 7 "CupReceiptsModel" "s" "[I", .methodLink RX7 92 yX7_isContract, .instanceMethod yX7_isContract, .selects RX7 yX7_isContract yX7_isContract, .initialized RX7, .code yX7_isContract cX7_isContract 2 (some .boolean), .methodLink RX7 61 yX7_in, .static yX7_in, .code yX7_in cX7_in 3 (some .boolean), .methodLink RX7 114 yX7_monthOf, .instanceMethod yX7_monthOf, .selects RX7 yX7_monthOf yX7_monthOf, .code yX7_monthOf cX7_monthOf 2 (some .int), .methodLink RX7 95 yX7_priceOf, .instanceMethod yX7_priceOf, .selects RX7 yX7_priceOf yX7_priceOf, .code yX7_priceOf cX7_priceOf 2 (some .int)] ++ wsX70)
def wsX7_paid_r1 : List Cond := [Cond.constant RX7 65 (-2000000001), Cond.constant RX7 43 (-2000000004), Cond.fieldLink RX7 7 "CupReceiptsModel" "s" "[I", Cond.methodLink RX7 73 yX7_isLot, Cond.instanceMethod yX7_isLot, Cond.selects RX7 yX7_isLot yX7_isLot, Cond.initialized RX7, Cond.code yX7_isLot cX7_isLot 2 (some .boolean), Cond.methodLink RX7 44 yX7_placeOf, Cond.instanceMethod yX7_placeOf, Cond.selects RX7 yX7_placeOf yX7_placeOf, Cond.code yX7_placeOf cX7_placeOf 3 (some .int), Cond.methodLink RX7 39 yX7_of, Cond.instanceMethod yX7_of, Cond.selects RX7 yX7_of yX7_of, Cond.code yX7_of cX7_of 3 (some .int), Cond.methodLink RX7 61 yX7_in, Cond.static yX7_in, Cond.code yX7_in cX7_in 3 (some .boolean), Cond.methodLink RX7 82 yX7_cupOf, Cond.instanceMethod yX7_cupOf, Cond.selects RX7 yX7_cupOf yX7_cupOf, Cond.code yX7_cupOf cX7_cupOf 2 (some .int), Cond.methodLink RX7 48 yX7_cupAt]
def wsX7_paid_r2 : List Cond := [Cond.instanceMethod yX7_cupAt, Cond.selects RX7 yX7_cupAt yX7_cupAt, Cond.code yX7_cupAt cX7_cupAt 4 (some .int), Cond.methodLink RX7 54 yX7_paidAt, Cond.instanceMethod yX7_paidAt, Cond.selects RX7 yX7_paidAt yX7_paidAt, Cond.code yX7_paidAt cX7_paidAt 5 (some .int), Cond.methodLink RX7 51 yX7_lateAt, Cond.instanceMethod yX7_lateAt, Cond.selects RX7 yX7_lateAt yX7_lateAt, Cond.code yX7_lateAt cX7_lateAt 4 (some .int), Cond.methodLink RX7 108 yX7_gainAt, Cond.instanceMethod yX7_gainAt, Cond.selects RX7 yX7_gainAt yX7_gainAt, Cond.code yX7_gainAt cX7_gainAt 4 (some .int), Cond.methodLink RX7 58 yX7_bandOf, Cond.static yX7_bandOf, Cond.code yX7_bandOf cX7_bandOf 1 (some .int)]
def wsX7_paid : List Cond := .code yX7_paid cX7_paid 5 (some .int) :: ((wsX7_paid_r1 ++ wsX7_paid_r2) ++ wsX70)
def wsX7_given_r1 : List Cond := [Cond.constant RX7 65 (-2000000001), Cond.fieldLink RX7 7 "CupReceiptsModel" "s" "[I", Cond.fieldLink RX7 102 "CupReceiptsModel" "places" "I", Cond.constant RX7 43 (-2000000004), Cond.fieldLink RX7 22 "CupReceiptsModel" "lots" "[I", Cond.fieldLink RX7 25 "CupReceiptsModel" "bagsOf" "[I", Cond.methodLink RX7 92 yX7_isContract, Cond.instanceMethod yX7_isContract, Cond.selects RX7 yX7_isContract yX7_isContract, Cond.initialized RX7, Cond.code yX7_isContract cX7_isContract 2 (some .boolean), Cond.methodLink RX7 61 yX7_in, Cond.static yX7_in, Cond.code yX7_in cX7_in 3 (some .boolean), Cond.methodLink RX7 95 yX7_priceOf, Cond.instanceMethod yX7_priceOf, Cond.selects RX7 yX7_priceOf yX7_priceOf, Cond.code yX7_priceOf cX7_priceOf 2 (some .int), Cond.methodLink RX7 111 yX7_gives, Cond.instanceMethod yX7_gives, Cond.selects RX7 yX7_gives yX7_gives, Cond.code yX7_gives cX7_gives 8 none, Cond.fieldLink RX7 105 "CupReceiptsModel" "wanting" "I", Cond.methodLink RX7 48 yX7_cupAt]
def wsX7_given_r2 : List Cond := [Cond.instanceMethod yX7_cupAt, Cond.selects RX7 yX7_cupAt yX7_cupAt, Cond.code yX7_cupAt cX7_cupAt 4 (some .int), Cond.methodLink RX7 39 yX7_of, Cond.instanceMethod yX7_of, Cond.selects RX7 yX7_of yX7_of, Cond.code yX7_of cX7_of 3 (some .int), Cond.methodLink RX7 108 yX7_gainAt, Cond.instanceMethod yX7_gainAt, Cond.selects RX7 yX7_gainAt yX7_gainAt, Cond.code yX7_gainAt cX7_gainAt 4 (some .int), Cond.methodLink RX7 54 yX7_paidAt, Cond.instanceMethod yX7_paidAt, Cond.selects RX7 yX7_paidAt yX7_paidAt, Cond.code yX7_paidAt cX7_paidAt 5 (some .int), Cond.methodLink RX7 51 yX7_lateAt, Cond.instanceMethod yX7_lateAt, Cond.selects RX7 yX7_lateAt yX7_lateAt, Cond.code yX7_lateAt cX7_lateAt 4 (some .int), Cond.methodLink RX7 58 yX7_bandOf, Cond.static yX7_bandOf, Cond.code yX7_bandOf cX7_bandOf 1 (some .int)]
def wsX7_given : List Cond := .code yX7_given cX7_given 4 (some .int) :: ((wsX7_given_r1 ++ wsX7_given_r2) ++ wsX70)
def wsJxf58ca_isNaN_12338 : List Cond := .code yJxf58ca_isNaN_12338 cJxf58ca_isNaN_12338 1 (some .boolean) :: ([])
def wsJxf58ca_floatToIntBits_5c35a : List Cond := .code yJxf58ca_floatToIntBits_5c35a cJxf58ca_floatToIntBits_5c35a 1 (some .int) :: ([.methodLink RJxf58ca 74 ⟨"java/lang/Float", "floatToRawIntBits", "(F)I"⟩, .native ⟨"java/lang/Float", "floatToRawIntBits", "(F)I"⟩, .static ⟨"java/lang/Float", "floatToRawIntBits", "(F)I"⟩, .initialized "java/lang/Float", .constant RJxf58ca 77 (2143289344), .methodLink RJxf58ca 59 yJxf58ca_isNaN_12338, .static yJxf58ca_isNaN_12338, .initialized RJxf58ca, .code yJxf58ca_isNaN_12338 cJxf58ca_isNaN_12338 1 (some .boolean)])
def wsX7_would_r1 : List Cond := [Cond.constant RX7 65 (-2000000001), Cond.fieldLink RX7 7 "CupReceiptsModel" "s" "[I", Cond.fieldLink RX7 105 "CupReceiptsModel" "wanting" "I", Cond.constant RX7 77 (-2000000002), Cond.constant RX7 125 (1000000), Cond.fieldLink RX7 102 "CupReceiptsModel" "places" "I", Cond.fieldLink RX7 25 "CupReceiptsModel" "bagsOf" "[I", Cond.fieldLink RX7 22 "CupReceiptsModel" "lots" "[I", Cond.methodLink RX7 92 yX7_isContract, Cond.instanceMethod yX7_isContract, Cond.selects RX7 yX7_isContract yX7_isContract, Cond.initialized RX7, Cond.code yX7_isContract cX7_isContract 2 (some .boolean), Cond.methodLink RX7 61 yX7_in, Cond.static yX7_in, Cond.code yX7_in cX7_in 3 (some .boolean), Cond.methodLink RX7 95 yX7_priceOf, Cond.instanceMethod yX7_priceOf, Cond.selects RX7 yX7_priceOf yX7_priceOf, Cond.code yX7_priceOf cX7_priceOf 2 (some .int), Cond.methodLink RX7 111 yX7_gives, Cond.instanceMethod yX7_gives, Cond.selects RX7 yX7_gives yX7_gives, Cond.code yX7_gives cX7_gives 8 none]
def wsX7_would_r2 : List Cond := [Cond.constant RX7 43 (-2000000004), Cond.methodLink RX7 48 yX7_cupAt, Cond.instanceMethod yX7_cupAt, Cond.selects RX7 yX7_cupAt yX7_cupAt, Cond.code yX7_cupAt cX7_cupAt 4 (some .int), Cond.methodLink RX7 39 yX7_of, Cond.instanceMethod yX7_of, Cond.selects RX7 yX7_of yX7_of, Cond.code yX7_of cX7_of 3 (some .int), Cond.methodLink RX7 108 yX7_gainAt, Cond.instanceMethod yX7_gainAt, Cond.selects RX7 yX7_gainAt yX7_gainAt, Cond.code yX7_gainAt cX7_gainAt 4 (some .int), Cond.methodLink RX7 54 yX7_paidAt, Cond.instanceMethod yX7_paidAt, Cond.selects RX7 yX7_paidAt yX7_paidAt, Cond.code yX7_paidAt cX7_paidAt 5 (some .int), Cond.methodLink RX7 51 yX7_lateAt, Cond.instanceMethod yX7_lateAt, Cond.selects RX7 yX7_lateAt yX7_lateAt, Cond.code yX7_lateAt cX7_lateAt 4 (some .int), Cond.methodLink RX7 58 yX7_bandOf, Cond.static yX7_bandOf, Cond.code yX7_bandOf cX7_bandOf 1 (some .int)]
def wsX7_would_r3 : List Cond := [Cond.methodLink RX7 117 yX7_paidAll, Cond.instanceMethod yX7_paidAll, Cond.selects RX7 yX7_paidAll yX7_paidAll, Cond.code yX7_paidAll cX7_paidAll 6 (some .int), Cond.methodLink RX7 82 yX7_cupOf, Cond.instanceMethod yX7_cupOf, Cond.selects RX7 yX7_cupOf yX7_cupOf, Cond.code yX7_cupOf cX7_cupOf 2 (some .int), Cond.methodLink RX7 126 yJxf58ca_floatToIntBits_5c35a, Cond.static yJxf58ca_floatToIntBits_5c35a, Cond.initialized RJxf58ca, Cond.code yJxf58ca_floatToIntBits_5c35a cJxf58ca_floatToIntBits_5c35a 1 (some .int), Cond.methodLink RJxf58ca 74 ⟨"java/lang/Float", "floatToRawIntBits", "(F)I"⟩, Cond.native ⟨"java/lang/Float", "floatToRawIntBits", "(F)I"⟩, Cond.static ⟨"java/lang/Float", "floatToRawIntBits", "(F)I"⟩, Cond.initialized "java/lang/Float", Cond.constant RJxf58ca 77 (2143289344), Cond.methodLink RJxf58ca 59 yJxf58ca_isNaN_12338, Cond.static yJxf58ca_isNaN_12338, Cond.code yJxf58ca_isNaN_12338 cJxf58ca_isNaN_12338 1 (some .boolean)]
def wsX7_would : List Cond := .code yX7_would cX7_would 7 (some .int) :: ((wsX7_would_r1 ++ (wsX7_would_r2 ++ wsX7_would_r3)) ++ wsX70)
def wsX7_lift_r1 : List Cond := [Cond.constant RX7 65 (-2000000001), Cond.constant RX7 43 (-2000000004), Cond.methodLink RX7 73 yX7_isLot, Cond.instanceMethod yX7_isLot, Cond.selects RX7 yX7_isLot yX7_isLot, Cond.initialized RX7, Cond.code yX7_isLot cX7_isLot 2 (some .boolean), Cond.methodLink RX7 44 yX7_placeOf, Cond.instanceMethod yX7_placeOf, Cond.selects RX7 yX7_placeOf yX7_placeOf, Cond.code yX7_placeOf cX7_placeOf 3 (some .int), Cond.fieldLink RX7 7 "CupReceiptsModel" "s" "[I", Cond.methodLink RX7 39 yX7_of, Cond.instanceMethod yX7_of, Cond.selects RX7 yX7_of yX7_of, Cond.code yX7_of cX7_of 3 (some .int), Cond.methodLink RX7 61 yX7_in, Cond.static yX7_in, Cond.code yX7_in cX7_in 3 (some .boolean), Cond.methodLink RX7 82 yX7_cupOf, Cond.instanceMethod yX7_cupOf, Cond.selects RX7 yX7_cupOf yX7_cupOf, Cond.code yX7_cupOf cX7_cupOf 2 (some .int), Cond.methodLink RX7 48 yX7_cupAt]
def wsX7_lift_r2 : List Cond := [Cond.instanceMethod yX7_cupAt, Cond.selects RX7 yX7_cupAt yX7_cupAt, Cond.code yX7_cupAt cX7_cupAt 4 (some .int), Cond.methodLink RX7 85 yX7_blended, Cond.static yX7_blended, Cond.code yX7_blended cX7_blended 4 (some .int)]
def wsX7_lift : List Cond := .code yX7_lift cX7_lift 7 (some .int) :: ((wsX7_lift_r1 ++ wsX7_lift_r2) ++ wsX70)
def wsX7_bestMonth_r1 : List Cond := [Cond.constant RX7 65 (-2000000001), Cond.constant RX7 43 (-2000000004), Cond.fieldLink RX7 7 "CupReceiptsModel" "s" "[I", Cond.fieldLink RX7 105 "CupReceiptsModel" "wanting" "I", Cond.constant RX7 125 (1000000), Cond.methodLink RX7 61 yX7_in, Cond.static yX7_in, Cond.initialized RX7, Cond.code yX7_in cX7_in 3 (some .boolean), Cond.methodLink RX7 111 yX7_gives, Cond.instanceMethod yX7_gives, Cond.selects RX7 yX7_gives yX7_gives, Cond.code yX7_gives cX7_gives 8 none, Cond.fieldLink RX7 102 "CupReceiptsModel" "places" "I", Cond.fieldLink RX7 22 "CupReceiptsModel" "lots" "[I", Cond.fieldLink RX7 25 "CupReceiptsModel" "bagsOf" "[I", Cond.methodLink RX7 48 yX7_cupAt, Cond.instanceMethod yX7_cupAt, Cond.selects RX7 yX7_cupAt yX7_cupAt, Cond.code yX7_cupAt cX7_cupAt 4 (some .int), Cond.methodLink RX7 39 yX7_of, Cond.instanceMethod yX7_of, Cond.selects RX7 yX7_of yX7_of, Cond.code yX7_of cX7_of 3 (some .int)]
def wsX7_bestMonth_r2 : List Cond := [Cond.methodLink RX7 108 yX7_gainAt, Cond.instanceMethod yX7_gainAt, Cond.selects RX7 yX7_gainAt yX7_gainAt, Cond.code yX7_gainAt cX7_gainAt 4 (some .int), Cond.methodLink RX7 54 yX7_paidAt, Cond.instanceMethod yX7_paidAt, Cond.selects RX7 yX7_paidAt yX7_paidAt, Cond.code yX7_paidAt cX7_paidAt 5 (some .int), Cond.methodLink RX7 51 yX7_lateAt, Cond.instanceMethod yX7_lateAt, Cond.selects RX7 yX7_lateAt yX7_lateAt, Cond.code yX7_lateAt cX7_lateAt 4 (some .int), Cond.methodLink RX7 58 yX7_bandOf, Cond.static yX7_bandOf, Cond.code yX7_bandOf cX7_bandOf 1 (some .int), Cond.methodLink RX7 117 yX7_paidAll, Cond.instanceMethod yX7_paidAll, Cond.selects RX7 yX7_paidAll yX7_paidAll, Cond.code yX7_paidAll cX7_paidAll 6 (some .int), Cond.methodLink RX7 89 yX7_isDelivery, Cond.instanceMethod yX7_isDelivery, Cond.selects RX7 yX7_isDelivery yX7_isDelivery, Cond.code yX7_isDelivery cX7_isDelivery 2 (some .boolean)]
def wsX7_bestMonth : List Cond := .code yX7_bestMonth cX7_bestMonth 8 (some .int) :: ((wsX7_bestMonth_r1 ++ wsX7_bestMonth_r2) ++ wsX70)
def wsX7_bags : List Cond := .code yX7_bags cX7_bags 4 (some .int) :: ([.fieldLink RX7 7 "CupReceiptsModel" "s" "[I", .methodLink RX7 82 yX7_cupOf, .instanceMethod yX7_cupOf, .selects RX7 yX7_cupOf yX7_cupOf, .initialized RX7, .code yX7_cupOf cX7_cupOf 2 (some .int), .methodLink RX7 48 yX7_cupAt, .instanceMethod yX7_cupAt, .selects RX7 yX7_cupAt yX7_cupAt, .code yX7_cupAt cX7_cupAt 4 (some .int), .methodLink RX7 39 yX7_of, .instanceMethod yX7_of, .selects RX7 yX7_of yX7_of, .code yX7_of cX7_of 3 (some .int)] ++ wsX70)
def wsX7_count : List Cond := .code yX7_count cX7_count 2 (some .int) :: ([.fieldLink RX7 7 "CupReceiptsModel" "s" "[I", .fieldLink RX7 35 "CupReceiptsModel" "pasts" "I", .fieldLink RX7 135 "CupReceiptsModel" "typed" "I", .constant RX7 65 (-2000000001), .methodLink RX7 132 yX7_bags, .instanceMethod yX7_bags, .selects RX7 yX7_bags yX7_bags, .initialized RX7, .code yX7_bags cX7_bags 4 (some .int), .methodLink RX7 82 yX7_cupOf, .instanceMethod yX7_cupOf, .selects RX7 yX7_cupOf yX7_cupOf, .code yX7_cupOf cX7_cupOf 2 (some .int), .methodLink RX7 48 yX7_cupAt, .instanceMethod yX7_cupAt, .selects RX7 yX7_cupAt yX7_cupAt, .code yX7_cupAt cX7_cupAt 4 (some .int), .methodLink RX7 39 yX7_of, .instanceMethod yX7_of, .selects RX7 yX7_of yX7_of, .code yX7_of cX7_of 3 (some .int), .methodLink RX7 61 yX7_in, .static yX7_in, .code yX7_in cX7_in 3 (some .boolean)] ++ wsX70)
def wsX7_undo : List Cond := .code yX7_undo cX7_undo 2 (some .int) :: ([.fieldLink RX7 35 "CupReceiptsModel" "pasts" "I", .constant RX7 77 (-2000000002), .fieldLink RX7 7 "CupReceiptsModel" "s" "[I", .fieldLink RX7 13 "CupReceiptsModel" "past" "[I"] ++ wsX70)
def wsX7_type : List Cond := .code yX7_type cX7_type 2 (some .int) :: ([.constant RX7 65 (-2000000001), .fieldLink RX7 135 "CupReceiptsModel" "typed" "I", .constant RX7 66 (-2000000003), .fieldLink RX7 19 "CupReceiptsModel" "text" "[I", .methodLink RX7 61 yX7_in, .static yX7_in, .initialized RX7, .code yX7_in cX7_in 3 (some .boolean)] ++ wsX70)
def wsX7_clearText : List Cond := .code yX7_clearText cX7_clearText 2 (some .int) :: ([.fieldLink RX7 135 "CupReceiptsModel" "typed" "I"] ++ wsX70)
def wsX7_isAt : List Cond := .code yX7_isAt cX7_isAt 3 (some .boolean) :: ([.fieldLink RX7 138 "CupReceiptsModel" "spot" "I", .fieldLink RX7 135 "CupReceiptsModel" "typed" "I", .fieldLink RX7 19 "CupReceiptsModel" "text" "[I", .methodLink RX7 61 yX7_in, .static yX7_in, .initialized RX7, .code yX7_in cX7_in 3 (some .boolean)] ++ wsX70)
def wsX7_sign : List Cond := .code yX7_sign cX7_sign 3 (some .boolean) :: ([.fieldLink RX7 138 "CupReceiptsModel" "spot" "I", .methodLink RX7 141 yX7_isAt, .instanceMethod yX7_isAt, .selects RX7 yX7_isAt yX7_isAt, .initialized RX7, .code yX7_isAt cX7_isAt 3 (some .boolean), .fieldLink RX7 135 "CupReceiptsModel" "typed" "I", .fieldLink RX7 19 "CupReceiptsModel" "text" "[I", .methodLink RX7 61 yX7_in, .static yX7_in, .code yX7_in cX7_in 3 (some .boolean)] ++ wsX70)
def wsX7_number : List Cond := .code yX7_number cX7_number 3 (some .boolean) :: ([.fieldLink RX7 138 "CupReceiptsModel" "spot" "I", .fieldLink RX7 28 "CupReceiptsModel" "told" "[I", .fieldLink RX7 19 "CupReceiptsModel" "text" "[I", .methodLink RX7 141 yX7_isAt, .instanceMethod yX7_isAt, .selects RX7 yX7_isAt yX7_isAt, .initialized RX7, .code yX7_isAt cX7_isAt 3 (some .boolean), .fieldLink RX7 135 "CupReceiptsModel" "typed" "I", .methodLink RX7 61 yX7_in, .static yX7_in, .code yX7_in cX7_in 3 (some .boolean)] ++ wsX70)
def wsX7_numbersOf : List Cond := .code yX7_numbersOf cX7_numbersOf 1 (some .int) :: ([])
def wsX7_reads : List Cond := .code yX7_reads cX7_reads 4 (some .boolean) :: ([.fieldLink RX7 19 "CupReceiptsModel" "text" "[I", .fieldLink RX7 138 "CupReceiptsModel" "spot" "I", .fieldLink RX7 145 "CupReceiptsModel" "order" "I", .methodLink RX7 141 yX7_isAt, .instanceMethod yX7_isAt, .selects RX7 yX7_isAt yX7_isAt, .initialized RX7, .code yX7_isAt cX7_isAt 3 (some .boolean), .fieldLink RX7 135 "CupReceiptsModel" "typed" "I", .methodLink RX7 61 yX7_in, .static yX7_in, .code yX7_in cX7_in 3 (some .boolean), .methodLink RX7 148 yX7_numbersOf, .static yX7_numbersOf, .code yX7_numbersOf cX7_numbersOf 1 (some .int), .methodLink RX7 151 yX7_number, .instanceMethod yX7_number, .selects RX7 yX7_number yX7_number, .code yX7_number cX7_number 3 (some .boolean), .fieldLink RX7 28 "CupReceiptsModel" "told" "[I", .methodLink RX7 154 yX7_sign, .instanceMethod yX7_sign, .selects RX7 yX7_sign yX7_sign, .code yX7_sign cX7_sign 3 (some .boolean)] ++ wsX70)
def wsX7_calls_r1 : List Cond := [Cond.fieldLink RX7 145 "CupReceiptsModel" "order" "I", Cond.fieldLink RX7 28 "CupReceiptsModel" "told" "[I", Cond.methodLink RX7 157 yX7_lot, Cond.instanceMethod yX7_lot, Cond.selects RX7 yX7_lot yX7_lot, Cond.initialized RX7, Cond.code yX7_lot cX7_lot 3 (some .int), Cond.constant RX7 65 (-2000000001), Cond.fieldLink RX7 7 "CupReceiptsModel" "s" "[I", Cond.constant RX7 66 (-2000000003), Cond.methodLink RX7 61 yX7_in, Cond.static yX7_in, Cond.code yX7_in cX7_in 3 (some .boolean), Cond.methodLink RX7 67 yX7_changes, Cond.instanceMethod yX7_changes, Cond.selects RX7 yX7_changes yX7_changes, Cond.code yX7_changes cX7_changes 2 none, Cond.fieldLink RX7 31 "CupReceiptsModel" "runs" "Z", Cond.fieldLink RX7 35 "CupReceiptsModel" "pasts" "I", Cond.fieldLink RX7 13 "CupReceiptsModel" "past" "[I", Cond.methodLink RX7 70 yX7_makes, Cond.instanceMethod yX7_makes, Cond.selects RX7 yX7_makes yX7_makes, Cond.code yX7_makes cX7_makes 5 (some .int)]
def wsX7_calls_r2 : List Cond := [Cond.methodLink RX7 160 yX7_blend, Cond.instanceMethod yX7_blend, Cond.selects RX7 yX7_blend yX7_blend, Cond.code yX7_blend cX7_blend 9 (some .int), Cond.constant RX7 77 (-2000000002), Cond.methodLink RX7 73 yX7_isLot, Cond.instanceMethod yX7_isLot, Cond.selects RX7 yX7_isLot yX7_isLot, Cond.code yX7_isLot cX7_isLot 2 (some .boolean), Cond.methodLink RX7 44 yX7_placeOf, Cond.instanceMethod yX7_placeOf, Cond.selects RX7 yX7_placeOf yX7_placeOf, Cond.code yX7_placeOf cX7_placeOf 3 (some .int), Cond.constant RX7 43 (-2000000004), Cond.methodLink RX7 39 yX7_of, Cond.instanceMethod yX7_of, Cond.selects RX7 yX7_of yX7_of, Cond.code yX7_of cX7_of 3 (some .int), Cond.methodLink RX7 82 yX7_cupOf, Cond.instanceMethod yX7_cupOf, Cond.selects RX7 yX7_cupOf yX7_cupOf, Cond.code yX7_cupOf cX7_cupOf 2 (some .int), Cond.methodLink RX7 48 yX7_cupAt, Cond.instanceMethod yX7_cupAt]
def wsX7_calls_r3 : List Cond := [Cond.selects RX7 yX7_cupAt yX7_cupAt, Cond.code yX7_cupAt cX7_cupAt 4 (some .int), Cond.methodLink RX7 85 yX7_blended, Cond.static yX7_blended, Cond.code yX7_blended cX7_blended 4 (some .int), Cond.methodLink RX7 78 yX7_takes, Cond.instanceMethod yX7_takes, Cond.selects RX7 yX7_takes yX7_takes, Cond.code yX7_takes cX7_takes 5 none, Cond.methodLink RX7 163 yX7_cup, Cond.instanceMethod yX7_cup, Cond.selects RX7 yX7_cup yX7_cup, Cond.code yX7_cup cX7_cup 4 (some .int), Cond.methodLink RX7 166 yX7_sell, Cond.instanceMethod yX7_sell, Cond.selects RX7 yX7_sell yX7_sell, Cond.code yX7_sell cX7_sell 4 (some .int), Cond.methodLink RX7 89 yX7_isDelivery, Cond.instanceMethod yX7_isDelivery, Cond.selects RX7 yX7_isDelivery yX7_isDelivery, Cond.code yX7_isDelivery cX7_isDelivery 2 (some .boolean), Cond.methodLink RX7 169 yX7_meet, Cond.instanceMethod yX7_meet, Cond.selects RX7 yX7_meet yX7_meet]
def wsX7_calls_r4 : List Cond := [Cond.code yX7_meet cX7_meet 4 (some .int), Cond.fieldLink RX7 105 "CupReceiptsModel" "wanting" "I", Cond.fieldLink RX7 102 "CupReceiptsModel" "places" "I", Cond.fieldLink RX7 22 "CupReceiptsModel" "lots" "[I", Cond.fieldLink RX7 25 "CupReceiptsModel" "bagsOf" "[I", Cond.methodLink RX7 92 yX7_isContract, Cond.instanceMethod yX7_isContract, Cond.selects RX7 yX7_isContract yX7_isContract, Cond.code yX7_isContract cX7_isContract 2 (some .boolean), Cond.methodLink RX7 95 yX7_priceOf, Cond.instanceMethod yX7_priceOf, Cond.selects RX7 yX7_priceOf yX7_priceOf, Cond.code yX7_priceOf cX7_priceOf 2 (some .int), Cond.methodLink RX7 111 yX7_gives, Cond.instanceMethod yX7_gives, Cond.selects RX7 yX7_gives yX7_gives, Cond.code yX7_gives cX7_gives 8 none, Cond.methodLink RX7 108 yX7_gainAt, Cond.instanceMethod yX7_gainAt, Cond.selects RX7 yX7_gainAt yX7_gainAt, Cond.code yX7_gainAt cX7_gainAt 4 (some .int), Cond.methodLink RX7 54 yX7_paidAt, Cond.instanceMethod yX7_paidAt, Cond.selects RX7 yX7_paidAt yX7_paidAt]
def wsX7_calls_r5 : List Cond := [Cond.code yX7_paidAt cX7_paidAt 5 (some .int), Cond.methodLink RX7 51 yX7_lateAt, Cond.instanceMethod yX7_lateAt, Cond.selects RX7 yX7_lateAt yX7_lateAt, Cond.code yX7_lateAt cX7_lateAt 4 (some .int), Cond.methodLink RX7 58 yX7_bandOf, Cond.static yX7_bandOf, Cond.code yX7_bandOf cX7_bandOf 1 (some .int), Cond.methodLink RX7 114 yX7_monthOf, Cond.instanceMethod yX7_monthOf, Cond.selects RX7 yX7_monthOf yX7_monthOf, Cond.code yX7_monthOf cX7_monthOf 2 (some .int), Cond.methodLink RX7 117 yX7_paidAll, Cond.instanceMethod yX7_paidAll, Cond.selects RX7 yX7_paidAll yX7_paidAll, Cond.code yX7_paidAll cX7_paidAll 6 (some .int), Cond.methodLink RX7 98 yX7_closes, Cond.instanceMethod yX7_closes, Cond.selects RX7 yX7_closes yX7_closes, Cond.code yX7_closes cX7_closes 3 none, Cond.methodLink RX7 172 yX7_pass, Cond.instanceMethod yX7_pass, Cond.selects RX7 yX7_pass yX7_pass, Cond.code yX7_pass cX7_pass 4 (some .int)]
def wsX7_calls_r6 : List Cond := [Cond.methodLink RX7 121 yX7_fails, Cond.instanceMethod yX7_fails, Cond.selects RX7 yX7_fails yX7_fails, Cond.code yX7_fails cX7_fails 3 (some .int)]
def wsX7_calls : List Cond := .code yX7_calls cX7_calls 1 (some .int) :: ((wsX7_calls_r1 ++ (wsX7_calls_r2 ++ (wsX7_calls_r3 ++ (wsX7_calls_r4 ++ (wsX7_calls_r5 ++ wsX7_calls_r6))))) ++ wsX70)
def wsX7_plays_r1 : List Cond := [Cond.fieldLink RX7 31 "CupReceiptsModel" "runs" "Z", Cond.fieldLink RX7 138 "CupReceiptsModel" "spot" "I", Cond.fieldLink RX7 175 "CupReceiptsModel" "from" "I", Cond.fieldLink RX7 178 "CupReceiptsModel" "orders" "I", Cond.fieldLink RX7 135 "CupReceiptsModel" "typed" "I", Cond.constant RX7 65 (-2000000001), Cond.fieldLink RX7 188 "CupReceiptsModel" "reason" "I", Cond.fieldLink RX7 191 "CupReceiptsModel" "cause" "I", Cond.methodLink RX7 181 yX7_reads, Cond.instanceMethod yX7_reads, Cond.selects RX7 yX7_reads yX7_reads, Cond.initialized RX7, Cond.code yX7_reads cX7_reads 4 (some .boolean), Cond.fieldLink RX7 19 "CupReceiptsModel" "text" "[I", Cond.fieldLink RX7 145 "CupReceiptsModel" "order" "I", Cond.methodLink RX7 141 yX7_isAt, Cond.instanceMethod yX7_isAt, Cond.selects RX7 yX7_isAt yX7_isAt, Cond.code yX7_isAt cX7_isAt 3 (some .boolean), Cond.methodLink RX7 61 yX7_in, Cond.static yX7_in, Cond.code yX7_in cX7_in 3 (some .boolean), Cond.methodLink RX7 148 yX7_numbersOf, Cond.static yX7_numbersOf]
def wsX7_plays_r2 : List Cond := [Cond.code yX7_numbersOf cX7_numbersOf 1 (some .int), Cond.methodLink RX7 151 yX7_number, Cond.instanceMethod yX7_number, Cond.selects RX7 yX7_number yX7_number, Cond.code yX7_number cX7_number 3 (some .boolean), Cond.fieldLink RX7 28 "CupReceiptsModel" "told" "[I", Cond.methodLink RX7 154 yX7_sign, Cond.instanceMethod yX7_sign, Cond.selects RX7 yX7_sign yX7_sign, Cond.code yX7_sign cX7_sign 3 (some .boolean), Cond.methodLink RX7 185 yX7_calls, Cond.instanceMethod yX7_calls, Cond.selects RX7 yX7_calls yX7_calls, Cond.code yX7_calls cX7_calls 1 (some .int), Cond.methodLink RX7 157 yX7_lot, Cond.instanceMethod yX7_lot, Cond.selects RX7 yX7_lot yX7_lot, Cond.code yX7_lot cX7_lot 3 (some .int), Cond.fieldLink RX7 7 "CupReceiptsModel" "s" "[I", Cond.constant RX7 66 (-2000000003), Cond.methodLink RX7 67 yX7_changes, Cond.instanceMethod yX7_changes, Cond.selects RX7 yX7_changes yX7_changes, Cond.code yX7_changes cX7_changes 2 none]
def wsX7_plays_r3 : List Cond := [Cond.fieldLink RX7 35 "CupReceiptsModel" "pasts" "I", Cond.fieldLink RX7 13 "CupReceiptsModel" "past" "[I", Cond.methodLink RX7 70 yX7_makes, Cond.instanceMethod yX7_makes, Cond.selects RX7 yX7_makes yX7_makes, Cond.code yX7_makes cX7_makes 5 (some .int), Cond.methodLink RX7 160 yX7_blend, Cond.instanceMethod yX7_blend, Cond.selects RX7 yX7_blend yX7_blend, Cond.code yX7_blend cX7_blend 9 (some .int), Cond.constant RX7 77 (-2000000002), Cond.methodLink RX7 73 yX7_isLot, Cond.instanceMethod yX7_isLot, Cond.selects RX7 yX7_isLot yX7_isLot, Cond.code yX7_isLot cX7_isLot 2 (some .boolean), Cond.methodLink RX7 44 yX7_placeOf, Cond.instanceMethod yX7_placeOf, Cond.selects RX7 yX7_placeOf yX7_placeOf, Cond.code yX7_placeOf cX7_placeOf 3 (some .int), Cond.constant RX7 43 (-2000000004), Cond.methodLink RX7 39 yX7_of, Cond.instanceMethod yX7_of, Cond.selects RX7 yX7_of yX7_of, Cond.code yX7_of cX7_of 3 (some .int)]
def wsX7_plays_r4 : List Cond := [Cond.methodLink RX7 82 yX7_cupOf, Cond.instanceMethod yX7_cupOf, Cond.selects RX7 yX7_cupOf yX7_cupOf, Cond.code yX7_cupOf cX7_cupOf 2 (some .int), Cond.methodLink RX7 48 yX7_cupAt, Cond.instanceMethod yX7_cupAt, Cond.selects RX7 yX7_cupAt yX7_cupAt, Cond.code yX7_cupAt cX7_cupAt 4 (some .int), Cond.methodLink RX7 85 yX7_blended, Cond.static yX7_blended, Cond.code yX7_blended cX7_blended 4 (some .int), Cond.methodLink RX7 78 yX7_takes, Cond.instanceMethod yX7_takes, Cond.selects RX7 yX7_takes yX7_takes, Cond.code yX7_takes cX7_takes 5 none, Cond.methodLink RX7 163 yX7_cup, Cond.instanceMethod yX7_cup, Cond.selects RX7 yX7_cup yX7_cup, Cond.code yX7_cup cX7_cup 4 (some .int), Cond.methodLink RX7 166 yX7_sell, Cond.instanceMethod yX7_sell, Cond.selects RX7 yX7_sell yX7_sell, Cond.code yX7_sell cX7_sell 4 (some .int), Cond.methodLink RX7 89 yX7_isDelivery]
def wsX7_plays_r5 : List Cond := [Cond.instanceMethod yX7_isDelivery, Cond.selects RX7 yX7_isDelivery yX7_isDelivery, Cond.code yX7_isDelivery cX7_isDelivery 2 (some .boolean), Cond.methodLink RX7 169 yX7_meet, Cond.instanceMethod yX7_meet, Cond.selects RX7 yX7_meet yX7_meet, Cond.code yX7_meet cX7_meet 4 (some .int), Cond.fieldLink RX7 105 "CupReceiptsModel" "wanting" "I", Cond.fieldLink RX7 102 "CupReceiptsModel" "places" "I", Cond.fieldLink RX7 22 "CupReceiptsModel" "lots" "[I", Cond.fieldLink RX7 25 "CupReceiptsModel" "bagsOf" "[I", Cond.methodLink RX7 92 yX7_isContract, Cond.instanceMethod yX7_isContract, Cond.selects RX7 yX7_isContract yX7_isContract, Cond.code yX7_isContract cX7_isContract 2 (some .boolean), Cond.methodLink RX7 95 yX7_priceOf, Cond.instanceMethod yX7_priceOf, Cond.selects RX7 yX7_priceOf yX7_priceOf, Cond.code yX7_priceOf cX7_priceOf 2 (some .int), Cond.methodLink RX7 111 yX7_gives, Cond.instanceMethod yX7_gives, Cond.selects RX7 yX7_gives yX7_gives, Cond.code yX7_gives cX7_gives 8 none, Cond.methodLink RX7 108 yX7_gainAt]
def wsX7_plays_r6 : List Cond := [Cond.instanceMethod yX7_gainAt, Cond.selects RX7 yX7_gainAt yX7_gainAt, Cond.code yX7_gainAt cX7_gainAt 4 (some .int), Cond.methodLink RX7 54 yX7_paidAt, Cond.instanceMethod yX7_paidAt, Cond.selects RX7 yX7_paidAt yX7_paidAt, Cond.code yX7_paidAt cX7_paidAt 5 (some .int), Cond.methodLink RX7 51 yX7_lateAt, Cond.instanceMethod yX7_lateAt, Cond.selects RX7 yX7_lateAt yX7_lateAt, Cond.code yX7_lateAt cX7_lateAt 4 (some .int), Cond.methodLink RX7 58 yX7_bandOf, Cond.static yX7_bandOf, Cond.code yX7_bandOf cX7_bandOf 1 (some .int), Cond.methodLink RX7 114 yX7_monthOf, Cond.instanceMethod yX7_monthOf, Cond.selects RX7 yX7_monthOf yX7_monthOf, Cond.code yX7_monthOf cX7_monthOf 2 (some .int), Cond.methodLink RX7 117 yX7_paidAll, Cond.instanceMethod yX7_paidAll, Cond.selects RX7 yX7_paidAll yX7_paidAll, Cond.code yX7_paidAll cX7_paidAll 6 (some .int), Cond.methodLink RX7 98 yX7_closes, Cond.instanceMethod yX7_closes]
def wsX7_plays_r7 : List Cond := [Cond.selects RX7 yX7_closes yX7_closes, Cond.code yX7_closes cX7_closes 3 none, Cond.methodLink RX7 172 yX7_pass, Cond.instanceMethod yX7_pass, Cond.selects RX7 yX7_pass yX7_pass, Cond.code yX7_pass cX7_pass 4 (some .int), Cond.methodLink RX7 121 yX7_fails, Cond.instanceMethod yX7_fails, Cond.selects RX7 yX7_fails yX7_fails, Cond.code yX7_fails cX7_fails 3 (some .int)]
def wsX7_plays : List Cond := .code yX7_plays cX7_plays 4 (some .boolean) :: ((wsX7_plays_r1 ++ (wsX7_plays_r2 ++ (wsX7_plays_r3 ++ (wsX7_plays_r4 ++ (wsX7_plays_r5 ++ (wsX7_plays_r6 ++ wsX7_plays_r7)))))) ++ wsX70)
def wsX7_fault_r1 : List Cond := [Cond.constant RX7 65 (-2000000001), Cond.fieldLink RX7 7 "CupReceiptsModel" "s" "[I", Cond.fieldLink RX7 16 "CupReceiptsModel" "held" "[I", Cond.constant RX7 43 (-2000000004), Cond.fieldLink RX7 175 "CupReceiptsModel" "from" "I", Cond.fieldLink RX7 188 "CupReceiptsModel" "reason" "I", Cond.fieldLink RX7 191 "CupReceiptsModel" "cause" "I", Cond.methodLink RX7 61 yX7_in, Cond.static yX7_in, Cond.initialized RX7, Cond.code yX7_in cX7_in 3 (some .boolean), Cond.methodLink RX7 194 yX7_copies, Cond.static yX7_copies, Cond.code yX7_copies cX7_copies 3 none, Cond.methodLink RX7 198 yX7_plays, Cond.instanceMethod yX7_plays, Cond.selects RX7 yX7_plays yX7_plays, Cond.code yX7_plays cX7_plays 4 (some .boolean), Cond.fieldLink RX7 31 "CupReceiptsModel" "runs" "Z", Cond.fieldLink RX7 138 "CupReceiptsModel" "spot" "I", Cond.fieldLink RX7 178 "CupReceiptsModel" "orders" "I", Cond.fieldLink RX7 135 "CupReceiptsModel" "typed" "I", Cond.methodLink RX7 181 yX7_reads, Cond.instanceMethod yX7_reads]
def wsX7_fault_r2 : List Cond := [Cond.selects RX7 yX7_reads yX7_reads, Cond.code yX7_reads cX7_reads 4 (some .boolean), Cond.fieldLink RX7 19 "CupReceiptsModel" "text" "[I", Cond.fieldLink RX7 145 "CupReceiptsModel" "order" "I", Cond.methodLink RX7 141 yX7_isAt, Cond.instanceMethod yX7_isAt, Cond.selects RX7 yX7_isAt yX7_isAt, Cond.code yX7_isAt cX7_isAt 3 (some .boolean), Cond.methodLink RX7 148 yX7_numbersOf, Cond.static yX7_numbersOf, Cond.code yX7_numbersOf cX7_numbersOf 1 (some .int), Cond.methodLink RX7 151 yX7_number, Cond.instanceMethod yX7_number, Cond.selects RX7 yX7_number yX7_number, Cond.code yX7_number cX7_number 3 (some .boolean), Cond.fieldLink RX7 28 "CupReceiptsModel" "told" "[I", Cond.methodLink RX7 154 yX7_sign, Cond.instanceMethod yX7_sign, Cond.selects RX7 yX7_sign yX7_sign, Cond.code yX7_sign cX7_sign 3 (some .boolean), Cond.methodLink RX7 185 yX7_calls, Cond.instanceMethod yX7_calls, Cond.selects RX7 yX7_calls yX7_calls, Cond.code yX7_calls cX7_calls 1 (some .int)]
def wsX7_fault_r3 : List Cond := [Cond.methodLink RX7 157 yX7_lot, Cond.instanceMethod yX7_lot, Cond.selects RX7 yX7_lot yX7_lot, Cond.code yX7_lot cX7_lot 3 (some .int), Cond.constant RX7 66 (-2000000003), Cond.methodLink RX7 67 yX7_changes, Cond.instanceMethod yX7_changes, Cond.selects RX7 yX7_changes yX7_changes, Cond.code yX7_changes cX7_changes 2 none, Cond.fieldLink RX7 35 "CupReceiptsModel" "pasts" "I", Cond.fieldLink RX7 13 "CupReceiptsModel" "past" "[I", Cond.methodLink RX7 70 yX7_makes, Cond.instanceMethod yX7_makes, Cond.selects RX7 yX7_makes yX7_makes, Cond.code yX7_makes cX7_makes 5 (some .int), Cond.methodLink RX7 160 yX7_blend, Cond.instanceMethod yX7_blend, Cond.selects RX7 yX7_blend yX7_blend, Cond.code yX7_blend cX7_blend 9 (some .int), Cond.constant RX7 77 (-2000000002), Cond.methodLink RX7 73 yX7_isLot, Cond.instanceMethod yX7_isLot, Cond.selects RX7 yX7_isLot yX7_isLot, Cond.code yX7_isLot cX7_isLot 2 (some .boolean)]
def wsX7_fault_r4 : List Cond := [Cond.methodLink RX7 44 yX7_placeOf, Cond.instanceMethod yX7_placeOf, Cond.selects RX7 yX7_placeOf yX7_placeOf, Cond.code yX7_placeOf cX7_placeOf 3 (some .int), Cond.methodLink RX7 39 yX7_of, Cond.instanceMethod yX7_of, Cond.selects RX7 yX7_of yX7_of, Cond.code yX7_of cX7_of 3 (some .int), Cond.methodLink RX7 82 yX7_cupOf, Cond.instanceMethod yX7_cupOf, Cond.selects RX7 yX7_cupOf yX7_cupOf, Cond.code yX7_cupOf cX7_cupOf 2 (some .int), Cond.methodLink RX7 48 yX7_cupAt, Cond.instanceMethod yX7_cupAt, Cond.selects RX7 yX7_cupAt yX7_cupAt, Cond.code yX7_cupAt cX7_cupAt 4 (some .int), Cond.methodLink RX7 85 yX7_blended, Cond.static yX7_blended, Cond.code yX7_blended cX7_blended 4 (some .int), Cond.methodLink RX7 78 yX7_takes, Cond.instanceMethod yX7_takes, Cond.selects RX7 yX7_takes yX7_takes, Cond.code yX7_takes cX7_takes 5 none, Cond.methodLink RX7 163 yX7_cup]
def wsX7_fault_r5 : List Cond := [Cond.instanceMethod yX7_cup, Cond.selects RX7 yX7_cup yX7_cup, Cond.code yX7_cup cX7_cup 4 (some .int), Cond.methodLink RX7 166 yX7_sell, Cond.instanceMethod yX7_sell, Cond.selects RX7 yX7_sell yX7_sell, Cond.code yX7_sell cX7_sell 4 (some .int), Cond.methodLink RX7 89 yX7_isDelivery, Cond.instanceMethod yX7_isDelivery, Cond.selects RX7 yX7_isDelivery yX7_isDelivery, Cond.code yX7_isDelivery cX7_isDelivery 2 (some .boolean), Cond.methodLink RX7 169 yX7_meet, Cond.instanceMethod yX7_meet, Cond.selects RX7 yX7_meet yX7_meet, Cond.code yX7_meet cX7_meet 4 (some .int), Cond.fieldLink RX7 105 "CupReceiptsModel" "wanting" "I", Cond.fieldLink RX7 102 "CupReceiptsModel" "places" "I", Cond.fieldLink RX7 22 "CupReceiptsModel" "lots" "[I", Cond.fieldLink RX7 25 "CupReceiptsModel" "bagsOf" "[I", Cond.methodLink RX7 92 yX7_isContract, Cond.instanceMethod yX7_isContract, Cond.selects RX7 yX7_isContract yX7_isContract, Cond.code yX7_isContract cX7_isContract 2 (some .boolean), Cond.methodLink RX7 95 yX7_priceOf]
def wsX7_fault_r6 : List Cond := [Cond.instanceMethod yX7_priceOf, Cond.selects RX7 yX7_priceOf yX7_priceOf, Cond.code yX7_priceOf cX7_priceOf 2 (some .int), Cond.methodLink RX7 111 yX7_gives, Cond.instanceMethod yX7_gives, Cond.selects RX7 yX7_gives yX7_gives, Cond.code yX7_gives cX7_gives 8 none, Cond.methodLink RX7 108 yX7_gainAt, Cond.instanceMethod yX7_gainAt, Cond.selects RX7 yX7_gainAt yX7_gainAt, Cond.code yX7_gainAt cX7_gainAt 4 (some .int), Cond.methodLink RX7 54 yX7_paidAt, Cond.instanceMethod yX7_paidAt, Cond.selects RX7 yX7_paidAt yX7_paidAt, Cond.code yX7_paidAt cX7_paidAt 5 (some .int), Cond.methodLink RX7 51 yX7_lateAt, Cond.instanceMethod yX7_lateAt, Cond.selects RX7 yX7_lateAt yX7_lateAt, Cond.code yX7_lateAt cX7_lateAt 4 (some .int), Cond.methodLink RX7 58 yX7_bandOf, Cond.static yX7_bandOf, Cond.code yX7_bandOf cX7_bandOf 1 (some .int), Cond.methodLink RX7 114 yX7_monthOf, Cond.instanceMethod yX7_monthOf]
def wsX7_fault_r7 : List Cond := [Cond.selects RX7 yX7_monthOf yX7_monthOf, Cond.code yX7_monthOf cX7_monthOf 2 (some .int), Cond.methodLink RX7 117 yX7_paidAll, Cond.instanceMethod yX7_paidAll, Cond.selects RX7 yX7_paidAll yX7_paidAll, Cond.code yX7_paidAll cX7_paidAll 6 (some .int), Cond.methodLink RX7 98 yX7_closes, Cond.instanceMethod yX7_closes, Cond.selects RX7 yX7_closes yX7_closes, Cond.code yX7_closes cX7_closes 3 none, Cond.methodLink RX7 172 yX7_pass, Cond.instanceMethod yX7_pass, Cond.selects RX7 yX7_pass yX7_pass, Cond.code yX7_pass cX7_pass 4 (some .int), Cond.methodLink RX7 121 yX7_fails, Cond.instanceMethod yX7_fails, Cond.selects RX7 yX7_fails yX7_fails, Cond.code yX7_fails cX7_fails 3 (some .int)]
def wsX7_fault : List Cond := .code yX7_fault cX7_fault 3 (some .int) :: ((wsX7_fault_r1 ++ (wsX7_fault_r2 ++ (wsX7_fault_r3 ++ (wsX7_fault_r4 ++ (wsX7_fault_r5 ++ (wsX7_fault_r6 ++ wsX7_fault_r7)))))) ++ wsX70)
def wsX7_play_r1 : List Cond := [Cond.fieldLink RX7 7 "CupReceiptsModel" "s" "[I", Cond.fieldLink RX7 16 "CupReceiptsModel" "held" "[I", Cond.constant RX7 77 (-2000000002), Cond.fieldLink RX7 178 "CupReceiptsModel" "orders" "I", Cond.constant RX7 43 (-2000000004), Cond.methodLink RX7 194 yX7_copies, Cond.static yX7_copies, Cond.initialized RX7, Cond.code yX7_copies cX7_copies 3 none, Cond.methodLink RX7 198 yX7_plays, Cond.instanceMethod yX7_plays, Cond.selects RX7 yX7_plays yX7_plays, Cond.code yX7_plays cX7_plays 4 (some .boolean), Cond.fieldLink RX7 31 "CupReceiptsModel" "runs" "Z", Cond.fieldLink RX7 138 "CupReceiptsModel" "spot" "I", Cond.fieldLink RX7 175 "CupReceiptsModel" "from" "I", Cond.fieldLink RX7 135 "CupReceiptsModel" "typed" "I", Cond.constant RX7 65 (-2000000001), Cond.fieldLink RX7 188 "CupReceiptsModel" "reason" "I", Cond.fieldLink RX7 191 "CupReceiptsModel" "cause" "I", Cond.methodLink RX7 181 yX7_reads, Cond.instanceMethod yX7_reads, Cond.selects RX7 yX7_reads yX7_reads, Cond.code yX7_reads cX7_reads 4 (some .boolean)]
def wsX7_play_r2 : List Cond := [Cond.fieldLink RX7 19 "CupReceiptsModel" "text" "[I", Cond.fieldLink RX7 145 "CupReceiptsModel" "order" "I", Cond.methodLink RX7 141 yX7_isAt, Cond.instanceMethod yX7_isAt, Cond.selects RX7 yX7_isAt yX7_isAt, Cond.code yX7_isAt cX7_isAt 3 (some .boolean), Cond.methodLink RX7 61 yX7_in, Cond.static yX7_in, Cond.code yX7_in cX7_in 3 (some .boolean), Cond.methodLink RX7 148 yX7_numbersOf, Cond.static yX7_numbersOf, Cond.code yX7_numbersOf cX7_numbersOf 1 (some .int), Cond.methodLink RX7 151 yX7_number, Cond.instanceMethod yX7_number, Cond.selects RX7 yX7_number yX7_number, Cond.code yX7_number cX7_number 3 (some .boolean), Cond.fieldLink RX7 28 "CupReceiptsModel" "told" "[I", Cond.methodLink RX7 154 yX7_sign, Cond.instanceMethod yX7_sign, Cond.selects RX7 yX7_sign yX7_sign, Cond.code yX7_sign cX7_sign 3 (some .boolean), Cond.methodLink RX7 185 yX7_calls, Cond.instanceMethod yX7_calls, Cond.selects RX7 yX7_calls yX7_calls]
def wsX7_play_r3 : List Cond := [Cond.code yX7_calls cX7_calls 1 (some .int), Cond.methodLink RX7 157 yX7_lot, Cond.instanceMethod yX7_lot, Cond.selects RX7 yX7_lot yX7_lot, Cond.code yX7_lot cX7_lot 3 (some .int), Cond.constant RX7 66 (-2000000003), Cond.methodLink RX7 67 yX7_changes, Cond.instanceMethod yX7_changes, Cond.selects RX7 yX7_changes yX7_changes, Cond.code yX7_changes cX7_changes 2 none, Cond.fieldLink RX7 35 "CupReceiptsModel" "pasts" "I", Cond.fieldLink RX7 13 "CupReceiptsModel" "past" "[I", Cond.methodLink RX7 70 yX7_makes, Cond.instanceMethod yX7_makes, Cond.selects RX7 yX7_makes yX7_makes, Cond.code yX7_makes cX7_makes 5 (some .int), Cond.methodLink RX7 160 yX7_blend, Cond.instanceMethod yX7_blend, Cond.selects RX7 yX7_blend yX7_blend, Cond.code yX7_blend cX7_blend 9 (some .int), Cond.methodLink RX7 73 yX7_isLot, Cond.instanceMethod yX7_isLot, Cond.selects RX7 yX7_isLot yX7_isLot, Cond.code yX7_isLot cX7_isLot 2 (some .boolean)]
def wsX7_play_r4 : List Cond := [Cond.methodLink RX7 44 yX7_placeOf, Cond.instanceMethod yX7_placeOf, Cond.selects RX7 yX7_placeOf yX7_placeOf, Cond.code yX7_placeOf cX7_placeOf 3 (some .int), Cond.methodLink RX7 39 yX7_of, Cond.instanceMethod yX7_of, Cond.selects RX7 yX7_of yX7_of, Cond.code yX7_of cX7_of 3 (some .int), Cond.methodLink RX7 82 yX7_cupOf, Cond.instanceMethod yX7_cupOf, Cond.selects RX7 yX7_cupOf yX7_cupOf, Cond.code yX7_cupOf cX7_cupOf 2 (some .int), Cond.methodLink RX7 48 yX7_cupAt, Cond.instanceMethod yX7_cupAt, Cond.selects RX7 yX7_cupAt yX7_cupAt, Cond.code yX7_cupAt cX7_cupAt 4 (some .int), Cond.methodLink RX7 85 yX7_blended, Cond.static yX7_blended, Cond.code yX7_blended cX7_blended 4 (some .int), Cond.methodLink RX7 78 yX7_takes, Cond.instanceMethod yX7_takes, Cond.selects RX7 yX7_takes yX7_takes, Cond.code yX7_takes cX7_takes 5 none, Cond.methodLink RX7 163 yX7_cup]
def wsX7_play_r5 : List Cond := [Cond.instanceMethod yX7_cup, Cond.selects RX7 yX7_cup yX7_cup, Cond.code yX7_cup cX7_cup 4 (some .int), Cond.methodLink RX7 166 yX7_sell, Cond.instanceMethod yX7_sell, Cond.selects RX7 yX7_sell yX7_sell, Cond.code yX7_sell cX7_sell 4 (some .int), Cond.methodLink RX7 89 yX7_isDelivery, Cond.instanceMethod yX7_isDelivery, Cond.selects RX7 yX7_isDelivery yX7_isDelivery, Cond.code yX7_isDelivery cX7_isDelivery 2 (some .boolean), Cond.methodLink RX7 169 yX7_meet, Cond.instanceMethod yX7_meet, Cond.selects RX7 yX7_meet yX7_meet, Cond.code yX7_meet cX7_meet 4 (some .int), Cond.fieldLink RX7 105 "CupReceiptsModel" "wanting" "I", Cond.fieldLink RX7 102 "CupReceiptsModel" "places" "I", Cond.fieldLink RX7 22 "CupReceiptsModel" "lots" "[I", Cond.fieldLink RX7 25 "CupReceiptsModel" "bagsOf" "[I", Cond.methodLink RX7 92 yX7_isContract, Cond.instanceMethod yX7_isContract, Cond.selects RX7 yX7_isContract yX7_isContract, Cond.code yX7_isContract cX7_isContract 2 (some .boolean), Cond.methodLink RX7 95 yX7_priceOf]
def wsX7_play_r6 : List Cond := [Cond.instanceMethod yX7_priceOf, Cond.selects RX7 yX7_priceOf yX7_priceOf, Cond.code yX7_priceOf cX7_priceOf 2 (some .int), Cond.methodLink RX7 111 yX7_gives, Cond.instanceMethod yX7_gives, Cond.selects RX7 yX7_gives yX7_gives, Cond.code yX7_gives cX7_gives 8 none, Cond.methodLink RX7 108 yX7_gainAt, Cond.instanceMethod yX7_gainAt, Cond.selects RX7 yX7_gainAt yX7_gainAt, Cond.code yX7_gainAt cX7_gainAt 4 (some .int), Cond.methodLink RX7 54 yX7_paidAt, Cond.instanceMethod yX7_paidAt, Cond.selects RX7 yX7_paidAt yX7_paidAt, Cond.code yX7_paidAt cX7_paidAt 5 (some .int), Cond.methodLink RX7 51 yX7_lateAt, Cond.instanceMethod yX7_lateAt, Cond.selects RX7 yX7_lateAt yX7_lateAt, Cond.code yX7_lateAt cX7_lateAt 4 (some .int), Cond.methodLink RX7 58 yX7_bandOf, Cond.static yX7_bandOf, Cond.code yX7_bandOf cX7_bandOf 1 (some .int), Cond.methodLink RX7 114 yX7_monthOf, Cond.instanceMethod yX7_monthOf]
def wsX7_play_r7 : List Cond := [Cond.selects RX7 yX7_monthOf yX7_monthOf, Cond.code yX7_monthOf cX7_monthOf 2 (some .int), Cond.methodLink RX7 117 yX7_paidAll, Cond.instanceMethod yX7_paidAll, Cond.selects RX7 yX7_paidAll yX7_paidAll, Cond.code yX7_paidAll cX7_paidAll 6 (some .int), Cond.methodLink RX7 98 yX7_closes, Cond.instanceMethod yX7_closes, Cond.selects RX7 yX7_closes yX7_closes, Cond.code yX7_closes cX7_closes 3 none, Cond.methodLink RX7 172 yX7_pass, Cond.instanceMethod yX7_pass, Cond.selects RX7 yX7_pass yX7_pass, Cond.code yX7_pass cX7_pass 4 (some .int), Cond.methodLink RX7 121 yX7_fails, Cond.instanceMethod yX7_fails, Cond.selects RX7 yX7_fails yX7_fails, Cond.code yX7_fails cX7_fails 3 (some .int)]
def wsX7_play : List Cond := .code yX7_play cX7_play 2 (some .int) :: ((wsX7_play_r1 ++ (wsX7_play_r2 ++ (wsX7_play_r3 ++ (wsX7_play_r4 ++ (wsX7_play_r5 ++ (wsX7_play_r6 ++ wsX7_play_r7)))))) ++ wsX70)
def wsJ9_min_7cf53 : List Cond := .code yJ9_min_7cf53 cJ9_min_7cf53 2 (some .int) :: ([])
def wsL_law_r1 : List Cond := [Cond.classLink RL 7 RX6, Cond.instantiable RX6 5, Cond.initialized RX6, Cond.classLink RL 10 RX7, Cond.instantiable RX7 18, Cond.initialized RX7, Cond.methodLink RL 9 yX6_init, Cond.instanceMethod yX6_init, Cond.code yX6_init cX6_init 1 none, Cond.methodLink RX6 1 objectInit, Cond.instanceMethod objectInit, Cond.code objectInit ⟨#[0xb1]⟩ 1 none, Cond.classLink RX6 7 RX3, Cond.instantiable RX3 9, Cond.initialized RX3, Cond.fieldLink RX6 10 "CupReceipts" "house" "LCupReceipts$House;", Cond.fieldLink RX6 16 "CupReceipts" "trial" "LCupReceipts$House;", Cond.classLink RX6 19 RX2, Cond.instantiable RX2 2, Cond.initialized RX2, Cond.fieldLink RX6 22 "CupReceipts" "history" "LCupReceipts$History;", Cond.classLink RX6 26 RX1, Cond.instantiable RX1 12, Cond.initialized RX1]
def wsL_law_r2 : List Cond := [Cond.fieldLink RX6 29 "CupReceipts" "delivery" "LCupReceipts$Delivery;", Cond.classLink RX6 33 RX5, Cond.instantiable RX5 8, Cond.initialized RX5, Cond.fieldLink RX6 36 "CupReceipts" "orders" "LCupReceipts$Orders;", Cond.instanceMethod yX3_init, Cond.code yX3_init cX3_init 1 none, Cond.methodLink RX3 3 objectInit, Cond.classLink RX3 9 RX4, Cond.instantiable RX4 6, Cond.initialized RX4, Cond.fieldLink RX3 12 "CupReceipts$House" "lots" "LCupReceipts$Lots;", Cond.classLink RX3 18 RX0, Cond.instantiable RX0 3, Cond.initialized RX0, Cond.fieldLink RX3 21 "CupReceipts$House" "contracts" "LCupReceipts$Contracts;", Cond.methodLink RX3 29 ⟨"[I", "clone", "()Ljava/lang/Object;"⟩, Cond.sameMethod "[I" "java/lang/Object" "clone" "()Ljava/lang/Object;", Cond.native ⟨"java/lang/Object", "clone", "()Ljava/lang/Object;"⟩, Cond.instanceMethod ⟨"java/lang/Object", "clone", "()Ljava/lang/Object;"⟩, Cond.selects "[I" ⟨"[I", "clone", "()Ljava/lang/Object;"⟩ ⟨"java/lang/Object", "clone", "()Ljava/lang/Object;"⟩, Cond.classLink RX3 30 "[I", Cond.fieldLink RX3 34 "CupReceipts$House" "worths" "[I", Cond.fieldLink RX3 40 "CupReceipts$House" "settings" "[I"]
def wsL_law_r3 : List Cond := [Cond.instanceMethod yX4_init, Cond.code yX4_init cX4_init 1 none, Cond.methodLink RX4 3 objectInit, Cond.arrayClass .int, Cond.fieldLink RX4 9 "CupReceipts$Lots" "numbers" "[I", Cond.fieldLink RX4 15 "CupReceipts$Lots" "bags" "[I", Cond.fieldLink RX4 18 "CupReceipts$Lots" "cups" "[I", Cond.fieldLink RX4 21 "CupReceipts$Lots" "months" "[I", Cond.instanceMethod yX0_init, Cond.code yX0_init cX0_init 1 none, Cond.methodLink RX0 3 objectInit, Cond.fieldLink RX0 9 "CupReceipts$Contracts" "months" "[I", Cond.fieldLink RX0 15 "CupReceipts$Contracts" "prices" "[I", Cond.methodLink RX6 21 yX2_init, Cond.instanceMethod yX2_init, Cond.code yX2_init cX2_init 2 none, Cond.methodLink RX2 3 objectInit, Cond.classLink RX2 9 RX3, Cond.fieldLink RX2 11 "CupReceipts$History" "rooms" "[LCupReceipts$House;", Cond.instanceMethod yX1_init, Cond.code yX1_init cX1_init 1 none, Cond.methodLink RX1 3 objectInit, Cond.fieldLink RX1 9 "CupReceipts$Delivery" "rows" "[I", Cond.fieldLink RX1 15 "CupReceipts$Delivery" "bags" "[I"]
def wsL_law_r4 : List Cond := [Cond.arrayClass .boolean, Cond.fieldLink RX1 18 "CupReceipts$Delivery" "waiting" "[Z", Cond.fieldLink RX1 22 "CupReceipts$Delivery" "cups" "[I", Cond.fieldLink RX1 25 "CupReceipts$Delivery" "pays" "[I", Cond.fieldLink RX1 28 "CupReceipts$Delivery" "gains" "[I", Cond.instanceMethod yX5_init, Cond.code yX5_init cX5_init 1 none, Cond.methodLink RX5 3 objectInit, Cond.arrayClass .char, Cond.fieldLink RX5 9 "CupReceipts$Orders" "signs" "[C", Cond.fieldLink RX5 15 "CupReceipts$Orders" "numbers" "[I", Cond.methodLink RL 12 yX7_init, Cond.instanceMethod yX7_init, Cond.code yX7_init cX7_init 1 none, Cond.methodLink RX7 1 objectInit, Cond.fieldLink RX7 7 "CupReceiptsModel" "s" "[I", Cond.fieldLink RX7 13 "CupReceiptsModel" "past" "[I", Cond.fieldLink RX7 16 "CupReceiptsModel" "held" "[I", Cond.fieldLink RX7 19 "CupReceiptsModel" "text" "[I", Cond.fieldLink RX7 22 "CupReceiptsModel" "lots" "[I", Cond.fieldLink RX7 25 "CupReceiptsModel" "bagsOf" "[I", Cond.fieldLink RX7 28 "CupReceiptsModel" "told" "[I", Cond.methodLink RL 13 yX6_lot, Cond.instanceMethod yX6_lot]
def wsL_law_r5 : List Cond := [Cond.selects RX6 yX6_lot yX6_lot, Cond.code yX6_lot cX6_lot 3 (some .int), Cond.methodLink RX6 40 yX3_copyFrom, Cond.instanceMethod yX3_copyFrom, Cond.selects RX3 yX3_copyFrom yX3_copyFrom, Cond.code yX3_copyFrom cX3_copyFrom 3 none, Cond.fieldLink RX3 50 "CupReceipts$House" "month" "I", Cond.fieldLink RX3 54 "CupReceipts$House" "account" "I", Cond.fieldLink RX3 57 "CupReceipts$House" "contractsMet" "I", Cond.fieldLink RX3 60 "CupReceipts$House" "contractsFailed" "I", Cond.fieldLink RX3 63 "CupReceipts$House" "bagsGiven" "I", Cond.methodLink RX3 43 yX4_copyFrom, Cond.instanceMethod yX4_copyFrom, Cond.selects RX4 yX4_copyFrom yX4_copyFrom, Cond.code yX4_copyFrom cX4_copyFrom 3 none, Cond.fieldLink RX4 24 "CupReceipts$Lots" "size" "I", Cond.fieldLink RX4 28 "CupReceipts$Lots" "made" "I", Cond.methodLink RX3 47 yX0_copyFrom, Cond.instanceMethod yX0_copyFrom, Cond.selects RX0 yX0_copyFrom yX0_copyFrom, Cond.code yX0_copyFrom cX0_copyFrom 3 none, Cond.fieldLink RX0 18 "CupReceipts$Contracts" "size" "I", Cond.methodLink RX6 44 yX3_bringLot, Cond.instanceMethod yX3_bringLot]
def wsL_law_r6 : List Cond := [Cond.selects RX3 yX3_bringLot yX3_bringLot, Cond.code yX3_bringLot cX3_bringLot 3 (some .int), Cond.constant RX3 70 (-2000000001), Cond.static yX6_isWithin, Cond.code yX6_isWithin cX6_isWithin 3 (some .boolean), Cond.methodLink RX3 71 yX4_add, Cond.instanceMethod yX4_add, Cond.selects RX4 yX4_add yX4_add, Cond.code yX4_add cX4_add 4 (some .int), Cond.constant RX4 35 (-2000000003), Cond.methodLink RX4 31 yX4_isFull, Cond.instanceMethod yX4_isFull, Cond.selects RX4 yX4_isFull yX4_isFull, Cond.code yX4_isFull cX4_isFull 1 (some .boolean), Cond.methodLink RX6 48 yX6_accept, Cond.instanceMethod yX6_accept, Cond.selects RX6 yX6_accept yX6_accept, Cond.code yX6_accept cX6_accept 2 (some .int), Cond.methodLink RX6 217 yX6_isError, Cond.static yX6_isError, Cond.code yX6_isError cX6_isError 1 (some .boolean), Cond.constant RX6 102 (-2000000004), Cond.constant RX6 90 (-2000000001), Cond.methodLink RX6 122 yX6_isWithin]
def wsL_law_r7 : List Cond := [Cond.methodLink RX6 220 yX2_record, Cond.instanceMethod yX2_record, Cond.selects RX2 yX2_record yX2_record, Cond.code yX2_record cX2_record 2 none, Cond.fieldLink RX2 18 "CupReceipts$History" "states" "I", Cond.methodLink RX2 22 yX2_dropOldest, Cond.instanceMethod yX2_dropOldest, Cond.selects RX2 yX2_dropOldest yX2_dropOldest, Cond.code yX2_dropOldest cX2_dropOldest 3 none, Cond.methodLink RX2 25 yX3_copyFrom, Cond.methodLink RL 17 yX7_lot, Cond.instanceMethod yX7_lot, Cond.selects RX7 yX7_lot yX7_lot, Cond.code yX7_lot cX7_lot 3 (some .int), Cond.constant RX7 65 (-2000000001), Cond.constant RX7 66 (-2000000003), Cond.methodLink RX7 61 yX7_in, Cond.static yX7_in, Cond.code yX7_in cX7_in 3 (some .boolean), Cond.methodLink RX7 67 yX7_changes, Cond.instanceMethod yX7_changes, Cond.selects RX7 yX7_changes yX7_changes, Cond.code yX7_changes cX7_changes 2 none, Cond.fieldLink RX7 31 "CupReceiptsModel" "runs" "Z"]
def wsL_law_r8 : List Cond := [Cond.fieldLink RX7 35 "CupReceiptsModel" "pasts" "I", Cond.methodLink RX7 70 yX7_makes, Cond.instanceMethod yX7_makes, Cond.selects RX7 yX7_makes yX7_makes, Cond.code yX7_makes cX7_makes 5 (some .int), Cond.methodLink RL 18 yX6_part, Cond.instanceMethod yX6_part, Cond.selects RX6 yX6_part yX6_part, Cond.code yX6_part cX6_part 3 (some .int), Cond.methodLink RX6 52 yX3_partLot, Cond.instanceMethod yX3_partLot, Cond.selects RX3 yX3_partLot yX3_partLot, Cond.code yX3_partLot cX3_partLot 4 (some .int), Cond.fieldLink RX3 79 "CupReceipts$Lots" "bags" "[I", Cond.constant RX3 82 (-2000000002), Cond.constant RX3 87 (-2000000003), Cond.fieldLink RX3 88 "CupReceipts$Lots" "cups" "[I", Cond.fieldLink RX3 91 "CupReceipts$Lots" "months" "[I", Cond.methodLink RX3 75 yX4_rowOf, Cond.instanceMethod yX4_rowOf, Cond.selects RX4 yX4_rowOf yX4_rowOf, Cond.code yX4_rowOf cX4_rowOf 3 (some .int), Cond.methodLink RX3 83 yX4_isFull, Cond.methodLink RL 21 yX7_part]
def wsL_law_r9 : List Cond := [Cond.instanceMethod yX7_part, Cond.selects RX7 yX7_part yX7_part, Cond.code yX7_part cX7_part 4 (some .int), Cond.constant RX7 77 (-2000000002), Cond.methodLink RX7 73 yX7_isLot, Cond.instanceMethod yX7_isLot, Cond.selects RX7 yX7_isLot yX7_isLot, Cond.code yX7_isLot cX7_isLot 2 (some .boolean), Cond.methodLink RX7 44 yX7_placeOf, Cond.instanceMethod yX7_placeOf, Cond.selects RX7 yX7_placeOf yX7_placeOf, Cond.code yX7_placeOf cX7_placeOf 3 (some .int), Cond.constant RX7 43 (-2000000004), Cond.methodLink RX7 39 yX7_of, Cond.instanceMethod yX7_of, Cond.selects RX7 yX7_of yX7_of, Cond.code yX7_of cX7_of 3 (some .int), Cond.methodLink RX7 78 yX7_takes, Cond.instanceMethod yX7_takes, Cond.selects RX7 yX7_takes yX7_takes, Cond.code yX7_takes cX7_takes 5 none, Cond.methodLink RL 22 yX6_blend, Cond.instanceMethod yX6_blend, Cond.selects RX6 yX6_blend yX6_blend]
def wsL_law_r10 : List Cond := [Cond.code yX6_blend cX6_blend 5 (some .int), Cond.methodLink RX6 55 yX3_blendLots, Cond.instanceMethod yX3_blendLots, Cond.selects RX3 yX3_blendLots yX3_blendLots, Cond.code yX3_blendLots cX3_blendLots 11 (some .int), Cond.methodLink RX3 94 yX4_cupAt, Cond.instanceMethod yX4_cupAt, Cond.selects RX4 yX4_cupAt yX4_cupAt, Cond.code yX4_cupAt cX4_cupAt 4 (some .int), Cond.methodLink RX3 98 yX4_dropEmpty, Cond.instanceMethod yX4_dropEmpty, Cond.selects RX4 yX4_dropEmpty yX4_dropEmpty, Cond.code yX4_dropEmpty cX4_dropEmpty 3 none, Cond.methodLink RL 26 yX7_blend, Cond.instanceMethod yX7_blend, Cond.selects RX7 yX7_blend yX7_blend, Cond.code yX7_blend cX7_blend 9 (some .int), Cond.methodLink RX7 82 yX7_cupOf, Cond.instanceMethod yX7_cupOf, Cond.selects RX7 yX7_cupOf yX7_cupOf, Cond.code yX7_cupOf cX7_cupOf 2 (some .int), Cond.methodLink RX7 48 yX7_cupAt, Cond.instanceMethod yX7_cupAt, Cond.selects RX7 yX7_cupAt yX7_cupAt]
def wsL_law_r11 : List Cond := [Cond.code yX7_cupAt cX7_cupAt 4 (some .int), Cond.methodLink RX7 85 yX7_blended, Cond.static yX7_blended, Cond.code yX7_blended cX7_blended 4 (some .int), Cond.methodLink RL 27 yX6_cup, Cond.instanceMethod yX6_cup, Cond.selects RX6 yX6_cup yX6_cup, Cond.code yX6_cup cX6_cup 2 (some .int), Cond.methodLink RX6 59 yX3_cupAnew, Cond.instanceMethod yX3_cupAnew, Cond.selects RX3 yX3_cupAnew yX3_cupAnew, Cond.code yX3_cupAnew cX3_cupAnew 3 (some .int), Cond.methodLink RL 31 yX7_cup, Cond.instanceMethod yX7_cup, Cond.selects RX7 yX7_cup yX7_cup, Cond.code yX7_cup cX7_cup 4 (some .int), Cond.methodLink RL 32 yX6_worth, Cond.instanceMethod yX6_worth, Cond.selects RX6 yX6_worth yX6_worth, Cond.code yX6_worth cX6_worth 3 (some .int), Cond.methodLink RX6 62 yX3_changeWorth, Cond.instanceMethod yX3_changeWorth, Cond.selects RX3 yX3_changeWorth yX3_changeWorth, Cond.code yX3_changeWorth cX3_changeWorth 4 (some .int)]
def wsL_law_r12 : List Cond := [Cond.methodLink RL 35 yX7_worth, Cond.instanceMethod yX7_worth, Cond.selects RX7 yX7_worth yX7_worth, Cond.code yX7_worth cX7_worth 4 (some .int), Cond.methodLink RL 36 yX6_sell, Cond.instanceMethod yX6_sell, Cond.selects RX6 yX6_sell yX6_sell, Cond.code yX6_sell cX6_sell 3 (some .int), Cond.methodLink RX6 65 yX3_sellContract, Cond.instanceMethod yX3_sellContract, Cond.selects RX3 yX3_sellContract yX3_sellContract, Cond.code yX3_sellContract cX3_sellContract 3 (some .int), Cond.methodLink RX3 101 yX3_isDeliveryMonth, Cond.instanceMethod yX3_isDeliveryMonth, Cond.selects RX3 yX3_isDeliveryMonth yX3_isDeliveryMonth, Cond.code yX3_isDeliveryMonth cX3_isDeliveryMonth 2 (some .boolean), Cond.methodLink RX3 149 yJ9_floorMod_7cf53, Cond.static yJ9_floorMod_7cf53, Cond.initialized RJ9, Cond.code yJ9_floorMod_7cf53 cJ9_floorMod_7cf53 3 (some .int), Cond.methodLink RX3 105 yX0_add, Cond.instanceMethod yX0_add, Cond.selects RX0 yX0_add yX0_add, Cond.code yX0_add cX0_add 3 (some .int)]
def wsL_law_r13 : List Cond := [Cond.constant RX0 22 (-2000000003), Cond.methodLink RL 39 yX7_sell, Cond.instanceMethod yX7_sell, Cond.selects RX7 yX7_sell yX7_sell, Cond.code yX7_sell cX7_sell 4 (some .int), Cond.methodLink RX7 89 yX7_isDelivery, Cond.instanceMethod yX7_isDelivery, Cond.selects RX7 yX7_isDelivery yX7_isDelivery, Cond.code yX7_isDelivery cX7_isDelivery 2 (some .boolean), Cond.methodLink RL 40 yX6_buyBack, Cond.instanceMethod yX6_buyBack, Cond.selects RX6 yX6_buyBack yX6_buyBack, Cond.code yX6_buyBack cX6_buyBack 3 (some .int), Cond.methodLink RX6 68 yX3_buyContractBack, Cond.instanceMethod yX3_buyContractBack, Cond.selects RX3 yX3_buyContractBack yX3_buyContractBack, Cond.code yX3_buyContractBack cX3_buyContractBack 4 (some .int), Cond.fieldLink RX3 110 "CupReceipts$Contracts" "prices" "[I", Cond.methodLink RX3 107 yX0_isOpen, Cond.instanceMethod yX0_isOpen, Cond.selects RX0 yX0_isOpen yX0_isOpen, Cond.code yX0_isOpen cX0_isOpen 2 (some .boolean), Cond.methodLink RX3 113 yX0_drop, Cond.instanceMethod yX0_drop]
def wsL_law_r14 : List Cond := [Cond.selects RX0 yX0_drop yX0_drop, Cond.code yX0_drop cX0_drop 3 none, Cond.methodLink RX0 23 yX0_isOpen, Cond.methodLink RL 43 yX7_buyBack, Cond.instanceMethod yX7_buyBack, Cond.selects RX7 yX7_buyBack yX7_buyBack, Cond.code yX7_buyBack cX7_buyBack 4 (some .int), Cond.methodLink RX7 92 yX7_isContract, Cond.instanceMethod yX7_isContract, Cond.selects RX7 yX7_isContract yX7_isContract, Cond.code yX7_isContract cX7_isContract 2 (some .boolean), Cond.methodLink RX7 95 yX7_priceOf, Cond.instanceMethod yX7_priceOf, Cond.selects RX7 yX7_priceOf yX7_priceOf, Cond.code yX7_priceOf cX7_priceOf 2 (some .int), Cond.methodLink RX7 98 yX7_closes, Cond.instanceMethod yX7_closes, Cond.selects RX7 yX7_closes yX7_closes, Cond.code yX7_closes cX7_closes 3 none, Cond.methodLink RL 44 yX6_meet, Cond.instanceMethod yX6_meet, Cond.selects RX6 yX6_meet yX6_meet, Cond.code yX6_meet cX6_meet 2 (some .int), Cond.methodLink RX6 71 yX3_meetContract]
def wsL_law_r15 : List Cond := [Cond.instanceMethod yX3_meetContract, Cond.selects RX3 yX3_meetContract yX3_meetContract, Cond.code yX3_meetContract cX3_meetContract 4 (some .int), Cond.fieldLink RX3 117 "CupReceipts$Contracts" "months" "[I", Cond.fieldLink RX3 124 "CupReceipts$Delivery" "missing" "I", Cond.fieldLink RX3 127 "CupReceipts$Delivery" "places" "I", Cond.fieldLink RX3 130 "CupReceipts$Delivery" "rows" "[I", Cond.fieldLink RX3 133 "CupReceipts$Delivery" "bags" "[I", Cond.fieldLink RX3 134 "CupReceipts$Delivery" "pay" "I", Cond.methodLink RX3 118 yX1_plan, Cond.instanceMethod yX1_plan, Cond.selects RX1 yX1_plan yX1_plan, Cond.code yX1_plan cX1_plan 6 none, Cond.fieldLink RX1 35 "CupReceipts$Delivery" "places" "I", Cond.fieldLink RX1 39 "CupReceipts$House" "settings" "[I", Cond.fieldLink RX1 44 "CupReceipts$Delivery" "missing" "I", Cond.fieldLink RX1 47 "CupReceipts$Delivery" "pay" "I", Cond.fieldLink RX1 50 "CupReceipts$Delivery" "gain" "I", Cond.fieldLink RX1 53 "CupReceipts$Delivery" "sumOfCups" "I", Cond.fieldLink RX1 56 "CupReceipts$Delivery" "usedUp" "I", Cond.fieldLink RX1 59 "CupReceipts$House" "lots" "LCupReceipts$Lots;", Cond.fieldLink RX1 63 "CupReceipts$Lots" "size" "I", Cond.fieldLink RX1 72 "CupReceipts$Lots" "bags" "[I", Cond.methodLink RX1 31 yX1_rate]
def wsL_law_r16 : List Cond := [Cond.instanceMethod yX1_rate, Cond.selects RX1 yX1_rate yX1_rate, Cond.code yX1_rate cX1_rate 6 none, Cond.fieldLink RX1 88 "CupReceipts$House" "worths" "[I", Cond.methodLink RX1 77 yX4_cupAt, Cond.methodLink RX1 81 yX4_monthsTooOld, Cond.instanceMethod yX4_monthsTooOld, Cond.selects RX4 yX4_monthsTooOld yX4_monthsTooOld, Cond.code yX4_monthsTooOld cX4_monthsTooOld 4 (some .int), Cond.methodLink RX1 84 yX3_payForBag, Cond.instanceMethod yX3_payForBag, Cond.selects RX3 yX3_payForBag yX3_payForBag, Cond.code yX3_payForBag cX3_payForBag 5 (some .int), Cond.static yX6_bandOf, Cond.code yX6_bandOf cX6_bandOf 1 (some .int), Cond.methodLink RX1 68 yX1_rowOfGreatestGain, Cond.instanceMethod yX1_rowOfGreatestGain, Cond.selects RX1 yX1_rowOfGreatestGain yX1_rowOfGreatestGain, Cond.code yX1_rowOfGreatestGain cX1_rowOfGreatestGain 4 (some .int), Cond.methodLink RX1 73 yX1_take, Cond.instanceMethod yX1_take, Cond.selects RX1 yX1_take yX1_take, Cond.code yX1_take cX1_take 4 none, Cond.methodLink RX1 94 Lib.Math.min.name]
def wsL_law_r17 : List Cond := [Cond.static Lib.Math.min.name, Cond.initialized "java/lang/Math", Cond.code Lib.Math.min.name Lib.Math.min.code 2 (some .int), Cond.methodLink RL 47 yX7_meet, Cond.instanceMethod yX7_meet, Cond.selects RX7 yX7_meet yX7_meet, Cond.code yX7_meet cX7_meet 4 (some .int), Cond.fieldLink RX7 105 "CupReceiptsModel" "wanting" "I", Cond.fieldLink RX7 102 "CupReceiptsModel" "places" "I", Cond.methodLink RX7 111 yX7_gives, Cond.instanceMethod yX7_gives, Cond.selects RX7 yX7_gives yX7_gives, Cond.code yX7_gives cX7_gives 8 none, Cond.methodLink RX7 108 yX7_gainAt, Cond.instanceMethod yX7_gainAt, Cond.selects RX7 yX7_gainAt yX7_gainAt, Cond.code yX7_gainAt cX7_gainAt 4 (some .int), Cond.methodLink RX7 54 yX7_paidAt, Cond.instanceMethod yX7_paidAt, Cond.selects RX7 yX7_paidAt yX7_paidAt, Cond.code yX7_paidAt cX7_paidAt 5 (some .int), Cond.methodLink RX7 51 yX7_lateAt, Cond.instanceMethod yX7_lateAt, Cond.selects RX7 yX7_lateAt yX7_lateAt]
def wsL_law_r18 : List Cond := [Cond.code yX7_lateAt cX7_lateAt 4 (some .int), Cond.methodLink RX7 58 yX7_bandOf, Cond.static yX7_bandOf, Cond.code yX7_bandOf cX7_bandOf 1 (some .int), Cond.methodLink RX7 114 yX7_monthOf, Cond.instanceMethod yX7_monthOf, Cond.selects RX7 yX7_monthOf yX7_monthOf, Cond.code yX7_monthOf cX7_monthOf 2 (some .int), Cond.methodLink RX7 117 yX7_paidAll, Cond.instanceMethod yX7_paidAll, Cond.selects RX7 yX7_paidAll yX7_paidAll, Cond.code yX7_paidAll cX7_paidAll 6 (some .int), Cond.methodLink RL 48 yX6_pass, Cond.instanceMethod yX6_pass, Cond.selects RX6 yX6_pass yX6_pass, Cond.code yX6_pass cX6_pass 2 (some .int), Cond.methodLink RX6 75 yX3_passMonths, Cond.instanceMethod yX3_passMonths, Cond.selects RX3 yX3_passMonths yX3_passMonths, Cond.code yX3_passMonths cX3_passMonths 3 (some .int), Cond.methodLink RX3 137 yX0_dropBefore, Cond.instanceMethod yX0_dropBefore, Cond.selects RX0 yX0_dropBefore yX0_dropBefore, Cond.code yX0_dropBefore cX0_dropBefore 4 (some .int)]
def wsL_law_r19 : List Cond := [Cond.methodLink RL 51 yX7_pass, Cond.instanceMethod yX7_pass, Cond.selects RX7 yX7_pass yX7_pass, Cond.code yX7_pass cX7_pass 4 (some .int), Cond.methodLink RX7 121 yX7_fails, Cond.instanceMethod yX7_fails, Cond.selects RX7 yX7_fails yX7_fails, Cond.code yX7_fails cX7_fails 3 (some .int), Cond.methodLink RL 52 yX6_set, Cond.instanceMethod yX6_set, Cond.selects RX6 yX6_set yX6_set, Cond.code yX6_set cX6_set 3 (some .int), Cond.methodLink RX6 78 yX3_changeSetting, Cond.instanceMethod yX3_changeSetting, Cond.selects RX3 yX3_changeSetting yX3_changeSetting, Cond.code yX3_changeSetting cX3_changeSetting 4 (some .int), Cond.fieldLink RX3 146 "CupReceipts$Contracts" "size" "I", Cond.methodLink RL 55 yX7_set, Cond.instanceMethod yX7_set, Cond.selects RX7 yX7_set yX7_set, Cond.code yX7_set cX7_set 6 (some .int), Cond.methodLink RL 56 yX6_lotOf, Cond.instanceMethod yX6_lotOf, Cond.selects RX6 yX6_lotOf yX6_lotOf]
def wsL_law_r20 : List Cond := [Cond.code yX6_lotOf cX6_lotOf 4 (some .int), Cond.fieldLink RX6 81 "CupReceipts$House" "lots" "LCupReceipts$Lots;", Cond.methodLink RX6 85 yX4_rowOf, Cond.methodLink RX6 91 yX3_tellOfLot, Cond.instanceMethod yX3_tellOfLot, Cond.selects RX3 yX3_tellOfLot yX3_tellOfLot, Cond.code yX3_tellOfLot cX3_tellOfLot 3 (some .int), Cond.methodLink RX3 157 yX4_monthsTooOld, Cond.methodLink RL 59 yX7_lotOf, Cond.instanceMethod yX7_lotOf, Cond.selects RX7 yX7_lotOf yX7_lotOf, Cond.code yX7_lotOf cX7_lotOf 4 (some .int), Cond.methodLink RL 60 yX6_numberOf, Cond.instanceMethod yX6_numberOf, Cond.selects RX6 yX6_numberOf yX6_numberOf, Cond.code yX6_numberOf cX6_numberOf 2 (some .int), Cond.fieldLink RX6 94 "CupReceipts$Lots" "size" "I", Cond.fieldLink RX6 98 "CupReceipts$Lots" "numbers" "[I", Cond.methodLink RL 63 yX7_numberOf, Cond.instanceMethod yX7_numberOf, Cond.selects RX7 yX7_numberOf yX7_numberOf, Cond.code yX7_numberOf cX7_numberOf 2 (some .int), Cond.methodLink RL 64 yX6_contractOf, Cond.instanceMethod yX6_contractOf]
def wsL_law_r21 : List Cond := [Cond.selects RX6 yX6_contractOf yX6_contractOf, Cond.code yX6_contractOf cX6_contractOf 3 (some .int), Cond.fieldLink RX6 103 "CupReceipts$House" "contracts" "LCupReceipts$Contracts;", Cond.fieldLink RX6 113 "CupReceipts$Contracts" "months" "[I", Cond.fieldLink RX6 116 "CupReceipts$Contracts" "prices" "[I", Cond.fieldLink RX6 119 "CupReceipts$House" "month" "I", Cond.methodLink RX6 107 yX0_isOpen, Cond.methodLink RL 67 yX7_contractOf, Cond.instanceMethod yX7_contractOf, Cond.selects RX7 yX7_contractOf yX7_contractOf, Cond.code yX7_contractOf cX7_contractOf 3 (some .int), Cond.methodLink RL 68 yX6_paid, Cond.instanceMethod yX6_paid, Cond.selects RX6 yX6_paid yX6_paid, Cond.code yX6_paid cX6_paid 7 (some .int), Cond.fieldLink RX6 136 "CupReceipts$House" "worths" "[I", Cond.methodLink RX6 126 yX4_cupAt, Cond.methodLink RX6 129 yX4_monthsTooOld, Cond.methodLink RX6 132 yX3_payForBag, Cond.methodLink RX6 139 yX6_bandOf, Cond.methodLink RL 72 yX7_paid, Cond.instanceMethod yX7_paid, Cond.selects RX7 yX7_paid yX7_paid, Cond.code yX7_paid cX7_paid 5 (some .int)]
def wsL_law_r22 : List Cond := [Cond.methodLink RL 73 yX6_given, Cond.instanceMethod yX6_given, Cond.selects RX6 yX6_given yX6_given, Cond.code yX6_given cX6_given 4 (some .int), Cond.fieldLink RX6 146 "CupReceipts$Delivery" "places" "I", Cond.fieldLink RX6 149 "CupReceipts$Delivery" "rows" "[I", Cond.fieldLink RX6 152 "CupReceipts$Delivery" "bags" "[I", Cond.methodLink RX6 142 yX1_plan, Cond.methodLink RL 76 yX7_given, Cond.instanceMethod yX7_given, Cond.selects RX7 yX7_given yX7_given, Cond.code yX7_given cX7_given 4 (some .int), Cond.methodLink RL 77 yX6_would, Cond.instanceMethod yX6_would, Cond.selects RX6 yX6_would yX6_would, Cond.code yX6_would cX6_would 3 (some .int), Cond.fieldLink RX6 155 "CupReceipts$Delivery" "missing" "I", Cond.constant RX6 158 (-2000000002), Cond.fieldLink RX6 159 "CupReceipts$Delivery" "pay" "I", Cond.fieldLink RX6 162 "CupReceipts$Delivery" "gain" "I", Cond.constant RX6 165 (1000000), Cond.fieldLink RX6 166 "CupReceipts$Delivery" "usedUp" "I", Cond.fieldLink RX6 169 "CupReceipts$Delivery" "sumOfCups" "I", Cond.fieldLink RX6 172 "CupReceipts$House" "settings" "[I"]
def wsL_law_r23 : List Cond := [Cond.methodLink RX6 175 yX6_bitsOfMeanCup, Cond.static yX6_bitsOfMeanCup, Cond.code yX6_bitsOfMeanCup cX6_bitsOfMeanCup 4 (some .int), Cond.constantFloat RX6 223 (1207959552), Cond.constant RX6 224 (1115684864), Cond.constant RX6 225 (8388608), Cond.methodLink RL 80 yX7_would, Cond.instanceMethod yX7_would, Cond.selects RX7 yX7_would yX7_would, Cond.code yX7_would cX7_would 7 (some .int), Cond.constant RX7 125 (1000000), Cond.methodLink RX7 126 yJxf58ca_floatToIntBits_5c35a, Cond.static yJxf58ca_floatToIntBits_5c35a, Cond.initialized RJxf58ca, Cond.code yJxf58ca_floatToIntBits_5c35a cJxf58ca_floatToIntBits_5c35a 1 (some .int), Cond.methodLink RJxf58ca 74 ⟨"java/lang/Float", "floatToRawIntBits", "(F)I"⟩, Cond.native ⟨"java/lang/Float", "floatToRawIntBits", "(F)I"⟩, Cond.static ⟨"java/lang/Float", "floatToRawIntBits", "(F)I"⟩, Cond.initialized "java/lang/Float", Cond.constant RJxf58ca 77 (2143289344), Cond.methodLink RJxf58ca 59 yJxf58ca_isNaN_12338, Cond.static yJxf58ca_isNaN_12338, Cond.code yJxf58ca_isNaN_12338 cJxf58ca_isNaN_12338 1 (some .boolean), Cond.methodLink RL 81 yX6_lift]
def wsL_law_r24 : List Cond := [Cond.instanceMethod yX6_lift, Cond.selects RX6 yX6_lift yX6_lift, Cond.code yX6_lift cX6_lift 9 (some .int), Cond.fieldLink RX6 178 "CupReceipts$Lots" "bags" "[I", Cond.methodLink RX6 179 yX6_leastStepsTo, Cond.static yX6_leastStepsTo, Cond.code yX6_leastStepsTo cX6_leastStepsTo 2 (some .int), Cond.methodLink RL 84 yX7_lift, Cond.instanceMethod yX7_lift, Cond.selects RX7 yX7_lift yX7_lift, Cond.code yX7_lift cX7_lift 7 (some .int), Cond.methodLink RL 85 yX6_bestMonth, Cond.instanceMethod yX6_bestMonth, Cond.selects RX6 yX6_bestMonth yX6_bestMonth, Cond.code yX6_bestMonth cX6_bestMonth 6 (some .int), Cond.methodLink RX6 182 yX3_isDeliveryMonth, Cond.methodLink RL 88 yX7_bestMonth, Cond.instanceMethod yX7_bestMonth, Cond.selects RX7 yX7_bestMonth yX7_bestMonth, Cond.code yX7_bestMonth cX7_bestMonth 8 (some .int), Cond.methodLink RL 89 yX6_count, Cond.instanceMethod yX6_count, Cond.selects RX6 yX6_count yX6_count, Cond.code yX6_count cX6_count 2 (some .int)]
def wsL_law_r25 : List Cond := [Cond.fieldLink RX6 185 "CupReceipts$History" "states" "I", Cond.fieldLink RX6 188 "CupReceipts$Orders" "length" "I", Cond.methodLink RX6 191 yX3_tellCount, Cond.instanceMethod yX3_tellCount, Cond.selects RX3 yX3_tellCount yX3_tellCount, Cond.code yX3_tellCount cX3_tellCount 2 (some .int), Cond.fieldLink RX3 160 "CupReceipts$Lots" "size" "I", Cond.fieldLink RX3 168 "CupReceipts$Lots" "made" "I", Cond.methodLink RX3 161 yX4_allBags, Cond.instanceMethod yX4_allBags, Cond.selects RX4 yX4_allBags yX4_allBags, Cond.code yX4_allBags cX4_allBags 3 (some .int), Cond.methodLink RX3 165 yX4_bagsToGive, Cond.instanceMethod yX4_bagsToGive, Cond.selects RX4 yX4_bagsToGive yX4_bagsToGive, Cond.code yX4_bagsToGive cX4_bagsToGive 4 (some .int), Cond.methodLink RX4 36 yX4_cupAt, Cond.methodLink RL 92 yX7_count, Cond.instanceMethod yX7_count, Cond.selects RX7 yX7_count yX7_count, Cond.code yX7_count cX7_count 2 (some .int), Cond.fieldLink RX7 135 "CupReceiptsModel" "typed" "I", Cond.methodLink RX7 132 yX7_bags, Cond.instanceMethod yX7_bags]
def wsL_law_r26 : List Cond := [Cond.selects RX7 yX7_bags yX7_bags, Cond.code yX7_bags cX7_bags 4 (some .int), Cond.methodLink RL 93 yX6_undo, Cond.instanceMethod yX6_undo, Cond.selects RX6 yX6_undo yX6_undo, Cond.code yX6_undo cX6_undo 1 (some .int), Cond.methodLink RX6 194 yX2_restoreLatest, Cond.instanceMethod yX2_restoreLatest, Cond.selects RX2 yX2_restoreLatest yX2_restoreLatest, Cond.code yX2_restoreLatest cX2_restoreLatest 2 none, Cond.methodLink RL 97 yX7_undo, Cond.instanceMethod yX7_undo, Cond.selects RX7 yX7_undo yX7_undo, Cond.code yX7_undo cX7_undo 2 (some .int), Cond.methodLink RL 98 yX6_type, Cond.instanceMethod yX6_type, Cond.selects RX6 yX6_type yX6_type, Cond.code yX6_type cX6_type 2 (some .int), Cond.methodLink RX6 197 yX5_append, Cond.instanceMethod yX5_append, Cond.selects RX5 yX5_append yX5_append, Cond.code yX5_append cX5_append 2 (some .int), Cond.fieldLink RX5 19 "CupReceipts$Orders" "length" "I", Cond.constant RX5 23 (-2000000003)]
def wsL_law_r27 : List Cond := [Cond.methodLink RL 101 yX7_type, Cond.instanceMethod yX7_type, Cond.selects RX7 yX7_type yX7_type, Cond.code yX7_type cX7_type 2 (some .int), Cond.methodLink RL 102 yX6_clearText, Cond.instanceMethod yX6_clearText, Cond.selects RX6 yX6_clearText yX6_clearText, Cond.code yX6_clearText cX6_clearText 2 (some .int), Cond.methodLink RL 105 yX7_clearText, Cond.instanceMethod yX7_clearText, Cond.selects RX7 yX7_clearText yX7_clearText, Cond.code yX7_clearText cX7_clearText 2 (some .int), Cond.methodLink RL 106 yX6_fault, Cond.instanceMethod yX6_fault, Cond.selects RX6 yX6_fault yX6_fault, Cond.code yX6_fault cX6_fault 2 (some .int), Cond.fieldLink RX6 205 "CupReceipts$Orders" "reason" "I", Cond.fieldLink RX6 208 "CupReceipts$Orders" "start" "I", Cond.fieldLink RX6 211 "CupReceipts$Orders" "cause" "I", Cond.methodLink RX6 201 yX5_runOn, Cond.instanceMethod yX5_runOn, Cond.selects RX5 yX5_runOn yX5_runOn, Cond.code yX5_runOn cX5_runOn 4 none, Cond.fieldLink RX5 24 "CupReceipts$Orders" "start" "I"]
def wsL_law_r28 : List Cond := [Cond.fieldLink RX5 27 "CupReceipts$Orders" "reason" "I", Cond.fieldLink RX5 30 "CupReceipts$Orders" "cause" "I", Cond.fieldLink RX5 33 "CupReceipts$Orders" "done" "I", Cond.fieldLink RX5 48 "CupReceipts$Orders" "next" "I", Cond.methodLink RX5 36 yX5_readOrder, Cond.instanceMethod yX5_readOrder, Cond.selects RX5 yX5_readOrder yX5_readOrder, Cond.code yX5_readOrder cX5_readOrder 3 (some .boolean), Cond.methodLink RX5 55 yX5_signAt, Cond.instanceMethod yX5_signAt, Cond.selects RX5 yX5_signAt yX5_signAt, Cond.code yX5_signAt cX5_signAt 2 (some .char), Cond.methodLink RX5 59 yX5_numbersOf, Cond.static yX5_numbersOf, Cond.code yX5_numbersOf cX5_numbersOf 1 (some .int), Cond.methodLink RX5 63 yX5_readNumber, Cond.instanceMethod yX5_readNumber, Cond.selects RX5 yX5_readNumber yX5_readNumber, Cond.code yX5_readNumber cX5_readNumber 4 (some .boolean), Cond.methodLink RX5 66 yX5_isDigit, Cond.static yX5_isDigit, Cond.code yX5_isDigit cX5_isDigit 1 (some .boolean), Cond.methodLink RX5 40 yX5_perform, Cond.instanceMethod yX5_perform]
def wsL_law_r29 : List Cond := [Cond.selects RX5 yX5_perform yX5_perform, Cond.code yX5_perform cX5_perform 3 (some .int), Cond.constant RX5 94 (-2000000001), Cond.methodLink RX5 70 yX3_bringLot, Cond.methodLink RX5 76 yX3_blendLots, Cond.methodLink RX5 80 yX3_cupAnew, Cond.methodLink RX5 84 yX3_sellContract, Cond.methodLink RX5 87 yX3_meetContract, Cond.methodLink RX5 91 yX3_passMonths, Cond.methodLink RX5 44 yX5_settle, Cond.instanceMethod yX5_settle, Cond.selects RX5 yX5_settle yX5_settle, Cond.code yX5_settle cX5_settle 2 none, Cond.methodLink RL 109 yX7_fault, Cond.instanceMethod yX7_fault, Cond.selects RX7 yX7_fault yX7_fault, Cond.code yX7_fault cX7_fault 3 (some .int), Cond.fieldLink RX7 175 "CupReceiptsModel" "from" "I", Cond.fieldLink RX7 188 "CupReceiptsModel" "reason" "I", Cond.fieldLink RX7 191 "CupReceiptsModel" "cause" "I", Cond.methodLink RX7 194 yX7_copies, Cond.static yX7_copies, Cond.code yX7_copies cX7_copies 3 none, Cond.methodLink RX7 198 yX7_plays]
def wsL_law_r30 : List Cond := [Cond.instanceMethod yX7_plays, Cond.selects RX7 yX7_plays yX7_plays, Cond.code yX7_plays cX7_plays 4 (some .boolean), Cond.fieldLink RX7 138 "CupReceiptsModel" "spot" "I", Cond.fieldLink RX7 178 "CupReceiptsModel" "orders" "I", Cond.methodLink RX7 181 yX7_reads, Cond.instanceMethod yX7_reads, Cond.selects RX7 yX7_reads yX7_reads, Cond.code yX7_reads cX7_reads 4 (some .boolean), Cond.fieldLink RX7 145 "CupReceiptsModel" "order" "I", Cond.methodLink RX7 141 yX7_isAt, Cond.instanceMethod yX7_isAt, Cond.selects RX7 yX7_isAt yX7_isAt, Cond.code yX7_isAt cX7_isAt 3 (some .boolean), Cond.methodLink RX7 148 yX7_numbersOf, Cond.static yX7_numbersOf, Cond.code yX7_numbersOf cX7_numbersOf 1 (some .int), Cond.methodLink RX7 151 yX7_number, Cond.instanceMethod yX7_number, Cond.selects RX7 yX7_number yX7_number, Cond.code yX7_number cX7_number 3 (some .boolean), Cond.methodLink RX7 154 yX7_sign, Cond.instanceMethod yX7_sign, Cond.selects RX7 yX7_sign yX7_sign]
def wsL_law_r31 : List Cond := [Cond.code yX7_sign cX7_sign 3 (some .boolean), Cond.methodLink RX7 185 yX7_calls, Cond.instanceMethod yX7_calls, Cond.selects RX7 yX7_calls yX7_calls, Cond.code yX7_calls cX7_calls 1 (some .int), Cond.methodLink RX7 157 yX7_lot, Cond.methodLink RX7 160 yX7_blend, Cond.methodLink RX7 163 yX7_cup, Cond.methodLink RX7 166 yX7_sell, Cond.methodLink RX7 169 yX7_meet, Cond.methodLink RX7 172 yX7_pass, Cond.methodLink RL 110 yX6_play, Cond.instanceMethod yX6_play, Cond.selects RX6 yX6_play yX6_play, Cond.code yX6_play cX6_play 1 (some .int), Cond.fieldLink RX6 214 "CupReceipts$Orders" "done" "I", Cond.methodLink RL 113 yX7_play, Cond.instanceMethod yX7_play, Cond.selects RX7 yX7_play yX7_play, Cond.code yX7_play cX7_play 2 (some .int)]
def wsL_law : List Cond := (wsL_law_r1 ++ (wsL_law_r2 ++ (wsL_law_r3 ++ (wsL_law_r4 ++ (wsL_law_r5 ++ (wsL_law_r6 ++ (wsL_law_r7 ++ (wsL_law_r8 ++ (wsL_law_r9 ++ (wsL_law_r10 ++ (wsL_law_r11 ++ (wsL_law_r12 ++ (wsL_law_r13 ++ (wsL_law_r14 ++ (wsL_law_r15 ++ (wsL_law_r16 ++ (wsL_law_r17 ++ (wsL_law_r18 ++ (wsL_law_r19 ++ (wsL_law_r20 ++ (wsL_law_r21 ++ (wsL_law_r22 ++ (wsL_law_r23 ++ (wsL_law_r24 ++ (wsL_law_r25 ++ (wsL_law_r26 ++ (wsL_law_r27 ++ (wsL_law_r28 ++ (wsL_law_r29 ++ (wsL_law_r30 ++ wsL_law_r31)))))))))))))))))))))))))))))) ++ wsX60 ++ wsX70 ++ wsX30 ++ wsX20 ++ wsX10 ++ wsX50 ++ wsX40 ++ wsX00 ++ ([] : List Cond)
abbrev vwCl : List vw_C := [(RX0, TX0, 3), (RX1, TX1, 12), (RX2, TX2, 2), (RX3, TX3, 9), (RX4, TX4, 6), (RX5, TX5, 8), (RX6, TX6, 5), (RX7, TX7, 18)]
end
section
theorem dX0_init_0 : decode cX0_init 0 = .ok (.aload_n 0, 1) := by decide +kernel
theorem dX0_init_1 : decode cX0_init 1 = .ok (.invokespecial 3, 3) := by decide +kernel
theorem dX0_init_4 : decode cX0_init 4 = .ok (.aload_n 0, 1) := by decide +kernel
theorem dX0_init_5 : decode cX0_init 5 = .ok (.bipush 6, 2) := by decide +kernel
theorem dX0_init_7 : decode cX0_init 7 = .ok (.newarray .int, 2) := by decide +kernel
theorem dX0_init_9 : decode cX0_init 9 = .ok (.putfield 9, 3) := by decide +kernel
theorem dX0_init_12 : decode cX0_init 12 = .ok (.aload_n 0, 1) := by decide +kernel
theorem dX0_init_13 : decode cX0_init 13 = .ok (.bipush 6, 2) := by decide +kernel
theorem dX0_init_15 : decode cX0_init 15 = .ok (.newarray .int, 2) := by decide +kernel
theorem dX0_init_17 : decode cX0_init 17 = .ok (.putfield 15, 3) := by decide +kernel
theorem dX0_init_20 : decode cX0_init 20 = .ok (.return_, 1) := by decide +kernel
theorem dX0_copyFrom_0 : decode cX0_copyFrom 0 = .ok (.iconst 0, 1) := by decide +kernel
theorem dX0_copyFrom_1 : decode cX0_copyFrom 1 = .ok (.istore_n 2, 1) := by decide +kernel
theorem dX0_copyFrom_2 : decode cX0_copyFrom 2 = .ok (.iload_n 2, 1) := by decide +kernel
theorem dX0_copyFrom_3 : decode cX0_copyFrom 3 = .ok (.bipush 6, 2) := by decide +kernel
theorem dX0_copyFrom_5 : decode cX0_copyFrom 5 = .ok (.if_icmp .ge 33, 3) := by decide +kernel
theorem dX0_copyFrom_8 : decode cX0_copyFrom 8 = .ok (.aload_n 0, 1) := by decide +kernel
theorem dX0_copyFrom_9 : decode cX0_copyFrom 9 = .ok (.getfield 9, 3) := by decide +kernel
theorem dX0_copyFrom_12 : decode cX0_copyFrom 12 = .ok (.iload_n 2, 1) := by decide +kernel
theorem dX0_copyFrom_13 : decode cX0_copyFrom 13 = .ok (.aload_n 1, 1) := by decide +kernel
theorem dX0_copyFrom_14 : decode cX0_copyFrom 14 = .ok (.getfield 9, 3) := by decide +kernel
theorem dX0_copyFrom_17 : decode cX0_copyFrom 17 = .ok (.iload_n 2, 1) := by decide +kernel
theorem dX0_copyFrom_18 : decode cX0_copyFrom 18 = .ok (.iaload, 1) := by decide +kernel
theorem dX0_copyFrom_19 : decode cX0_copyFrom 19 = .ok (.iastore, 1) := by decide +kernel
theorem dX0_copyFrom_20 : decode cX0_copyFrom 20 = .ok (.aload_n 0, 1) := by decide +kernel
theorem dX0_copyFrom_21 : decode cX0_copyFrom 21 = .ok (.getfield 15, 3) := by decide +kernel
theorem dX0_copyFrom_24 : decode cX0_copyFrom 24 = .ok (.iload_n 2, 1) := by decide +kernel
theorem dX0_copyFrom_25 : decode cX0_copyFrom 25 = .ok (.aload_n 1, 1) := by decide +kernel
theorem dX0_copyFrom_26 : decode cX0_copyFrom 26 = .ok (.getfield 15, 3) := by decide +kernel
theorem dX0_copyFrom_29 : decode cX0_copyFrom 29 = .ok (.iload_n 2, 1) := by decide +kernel
theorem dX0_copyFrom_30 : decode cX0_copyFrom 30 = .ok (.iaload, 1) := by decide +kernel
theorem dX0_copyFrom_31 : decode cX0_copyFrom 31 = .ok (.iastore, 1) := by decide +kernel
theorem dX0_copyFrom_32 : decode cX0_copyFrom 32 = .ok (.iinc 2 1, 3) := by decide +kernel
theorem dX0_copyFrom_35 : decode cX0_copyFrom 35 = .ok (.goto (-33), 3) := by decide +kernel
theorem dX0_copyFrom_38 : decode cX0_copyFrom 38 = .ok (.aload_n 0, 1) := by decide +kernel
theorem dX0_copyFrom_39 : decode cX0_copyFrom 39 = .ok (.aload_n 1, 1) := by decide +kernel
theorem dX0_copyFrom_40 : decode cX0_copyFrom 40 = .ok (.getfield 18, 3) := by decide +kernel
theorem dX0_copyFrom_43 : decode cX0_copyFrom 43 = .ok (.putfield 18, 3) := by decide +kernel
theorem dX0_copyFrom_46 : decode cX0_copyFrom 46 = .ok (.return_, 1) := by decide +kernel
theorem dX0_isOpen_0 : decode cX0_isOpen 0 = .ok (.iload_n 1, 1) := by decide +kernel
theorem dX0_isOpen_1 : decode cX0_isOpen 1 = .ok (.ifCond .lt 15, 3) := by decide +kernel
theorem dX0_isOpen_4 : decode cX0_isOpen 4 = .ok (.iload_n 1, 1) := by decide +kernel
theorem dX0_isOpen_5 : decode cX0_isOpen 5 = .ok (.aload_n 0, 1) := by decide +kernel
theorem dX0_isOpen_6 : decode cX0_isOpen 6 = .ok (.getfield 18, 3) := by decide +kernel
theorem dX0_isOpen_9 : decode cX0_isOpen 9 = .ok (.if_icmp .ge 7, 3) := by decide +kernel
theorem dX0_isOpen_12 : decode cX0_isOpen 12 = .ok (.iconst 1, 1) := by decide +kernel
theorem dX0_isOpen_13 : decode cX0_isOpen 13 = .ok (.goto 4, 3) := by decide +kernel
theorem dX0_isOpen_16 : decode cX0_isOpen 16 = .ok (.iconst 0, 1) := by decide +kernel
theorem dX0_isOpen_17 : decode cX0_isOpen 17 = .ok (.ireturn, 1) := by decide +kernel
theorem dX0_add_0 : decode cX0_add 0 = .ok (.aload_n 0, 1) := by decide +kernel
theorem dX0_add_1 : decode cX0_add 1 = .ok (.getfield 18, 3) := by decide +kernel
theorem dX0_add_4 : decode cX0_add 4 = .ok (.bipush 6, 2) := by decide +kernel
theorem dX0_add_6 : decode cX0_add 6 = .ok (.if_icmp .lt 6, 3) := by decide +kernel
theorem dX0_add_9 : decode cX0_add 9 = .ok (.ldc 22, 2) := by decide +kernel
theorem dX0_add_11 : decode cX0_add 11 = .ok (.ireturn, 1) := by decide +kernel
theorem dX0_add_12 : decode cX0_add 12 = .ok (.aload_n 0, 1) := by decide +kernel
theorem dX0_add_13 : decode cX0_add 13 = .ok (.getfield 9, 3) := by decide +kernel
theorem dX0_add_16 : decode cX0_add 16 = .ok (.aload_n 0, 1) := by decide +kernel
theorem dX0_add_17 : decode cX0_add 17 = .ok (.getfield 18, 3) := by decide +kernel
theorem dX0_add_20 : decode cX0_add 20 = .ok (.iload_n 1, 1) := by decide +kernel
theorem dX0_add_21 : decode cX0_add 21 = .ok (.iastore, 1) := by decide +kernel
theorem dX0_add_22 : decode cX0_add 22 = .ok (.aload_n 0, 1) := by decide +kernel
theorem dX0_add_23 : decode cX0_add 23 = .ok (.getfield 15, 3) := by decide +kernel
theorem dX0_add_26 : decode cX0_add 26 = .ok (.aload_n 0, 1) := by decide +kernel
theorem dX0_add_27 : decode cX0_add 27 = .ok (.getfield 18, 3) := by decide +kernel
theorem dX0_add_30 : decode cX0_add 30 = .ok (.iload_n 2, 1) := by decide +kernel
theorem dX0_add_31 : decode cX0_add 31 = .ok (.iastore, 1) := by decide +kernel
theorem dX0_add_32 : decode cX0_add 32 = .ok (.aload_n 0, 1) := by decide +kernel
theorem dX0_add_33 : decode cX0_add 33 = .ok (.dup, 1) := by decide +kernel
theorem dX0_add_34 : decode cX0_add 34 = .ok (.getfield 18, 3) := by decide +kernel
theorem dX0_add_37 : decode cX0_add 37 = .ok (.iconst 1, 1) := by decide +kernel
theorem dX0_add_38 : decode cX0_add 38 = .ok (.iadd, 1) := by decide +kernel
theorem dX0_add_39 : decode cX0_add 39 = .ok (.putfield 18, 3) := by decide +kernel
theorem dX0_add_42 : decode cX0_add 42 = .ok (.aload_n 0, 1) := by decide +kernel
theorem dX0_add_43 : decode cX0_add 43 = .ok (.getfield 18, 3) := by decide +kernel
theorem dX0_add_46 : decode cX0_add 46 = .ok (.iconst 1, 1) := by decide +kernel
theorem dX0_add_47 : decode cX0_add 47 = .ok (.isub, 1) := by decide +kernel
theorem dX0_add_48 : decode cX0_add 48 = .ok (.ireturn, 1) := by decide +kernel
set_option maxRecDepth 20000 in
theorem ggX0_drop_X0_isOpen : GoodIn wsX0_drop wsX0_isOpen := goodIn_r _ [8, 1, 9, 10, 11] (by decide +kernel) (by decide +kernel)
set_option maxRecDepth 20000 in
theorem gX0_drop_X0_isOpen : GoodIn wsX0_drop (wsV RX0 23 RX0 yX0_isOpen wsX0_isOpen) := goodIn_app (goodIn_of _ (by decide +kernel)) ggX0_drop_X0_isOpen
theorem dX0_drop_0 : decode cX0_drop 0 = .ok (.aload_n 0, 1) := by decide +kernel
theorem dX0_drop_1 : decode cX0_drop 1 = .ok (.iload_n 1, 1) := by decide +kernel
theorem dX0_drop_2 : decode cX0_drop 2 = .ok (.invokevirtual 23, 3) := by decide +kernel
theorem dX0_drop_5 : decode cX0_drop 5 = .ok (.ifCond .ne 4, 3) := by decide +kernel
theorem dX0_drop_8 : decode cX0_drop 8 = .ok (.return_, 1) := by decide +kernel
theorem dX0_drop_9 : decode cX0_drop 9 = .ok (.iload_n 1, 1) := by decide +kernel
theorem dX0_drop_10 : decode cX0_drop 10 = .ok (.iconst 1, 1) := by decide +kernel
theorem dX0_drop_11 : decode cX0_drop 11 = .ok (.iadd, 1) := by decide +kernel
theorem dX0_drop_12 : decode cX0_drop 12 = .ok (.istore_n 2, 1) := by decide +kernel
theorem dX0_drop_13 : decode cX0_drop 13 = .ok (.iload_n 2, 1) := by decide +kernel
theorem dX0_drop_14 : decode cX0_drop 14 = .ok (.aload_n 0, 1) := by decide +kernel
theorem dX0_drop_15 : decode cX0_drop 15 = .ok (.getfield 18, 3) := by decide +kernel
theorem dX0_drop_18 : decode cX0_drop 18 = .ok (.if_icmp .ge 37, 3) := by decide +kernel
theorem dX0_drop_21 : decode cX0_drop 21 = .ok (.aload_n 0, 1) := by decide +kernel
theorem dX0_drop_22 : decode cX0_drop 22 = .ok (.getfield 9, 3) := by decide +kernel
theorem dX0_drop_25 : decode cX0_drop 25 = .ok (.iload_n 2, 1) := by decide +kernel
theorem dX0_drop_26 : decode cX0_drop 26 = .ok (.iconst 1, 1) := by decide +kernel
theorem dX0_drop_27 : decode cX0_drop 27 = .ok (.isub, 1) := by decide +kernel
theorem dX0_drop_28 : decode cX0_drop 28 = .ok (.aload_n 0, 1) := by decide +kernel
theorem dX0_drop_29 : decode cX0_drop 29 = .ok (.getfield 9, 3) := by decide +kernel
theorem dX0_drop_32 : decode cX0_drop 32 = .ok (.iload_n 2, 1) := by decide +kernel
theorem dX0_drop_33 : decode cX0_drop 33 = .ok (.iaload, 1) := by decide +kernel
theorem dX0_drop_34 : decode cX0_drop 34 = .ok (.iastore, 1) := by decide +kernel
theorem dX0_drop_35 : decode cX0_drop 35 = .ok (.aload_n 0, 1) := by decide +kernel
theorem dX0_drop_36 : decode cX0_drop 36 = .ok (.getfield 15, 3) := by decide +kernel
theorem dX0_drop_39 : decode cX0_drop 39 = .ok (.iload_n 2, 1) := by decide +kernel
theorem dX0_drop_40 : decode cX0_drop 40 = .ok (.iconst 1, 1) := by decide +kernel
theorem dX0_drop_41 : decode cX0_drop 41 = .ok (.isub, 1) := by decide +kernel
theorem dX0_drop_42 : decode cX0_drop 42 = .ok (.aload_n 0, 1) := by decide +kernel
theorem dX0_drop_43 : decode cX0_drop 43 = .ok (.getfield 15, 3) := by decide +kernel
theorem dX0_drop_46 : decode cX0_drop 46 = .ok (.iload_n 2, 1) := by decide +kernel
theorem dX0_drop_47 : decode cX0_drop 47 = .ok (.iaload, 1) := by decide +kernel
theorem dX0_drop_48 : decode cX0_drop 48 = .ok (.iastore, 1) := by decide +kernel
theorem dX0_drop_49 : decode cX0_drop 49 = .ok (.iinc 2 1, 3) := by decide +kernel
theorem dX0_drop_52 : decode cX0_drop 52 = .ok (.goto (-39), 3) := by decide +kernel
theorem dX0_drop_55 : decode cX0_drop 55 = .ok (.aload_n 0, 1) := by decide +kernel
theorem dX0_drop_56 : decode cX0_drop 56 = .ok (.dup, 1) := by decide +kernel
theorem dX0_drop_57 : decode cX0_drop 57 = .ok (.getfield 18, 3) := by decide +kernel
theorem dX0_drop_60 : decode cX0_drop 60 = .ok (.iconst 1, 1) := by decide +kernel
theorem dX0_drop_61 : decode cX0_drop 61 = .ok (.isub, 1) := by decide +kernel
theorem dX0_drop_62 : decode cX0_drop 62 = .ok (.putfield 18, 3) := by decide +kernel
theorem dX0_drop_65 : decode cX0_drop 65 = .ok (.return_, 1) := by decide +kernel
theorem dX0_dropBefore_0 : decode cX0_dropBefore 0 = .ok (.iconst 0, 1) := by decide +kernel
theorem dX0_dropBefore_1 : decode cX0_dropBefore 1 = .ok (.istore_n 2, 1) := by decide +kernel
theorem dX0_dropBefore_2 : decode cX0_dropBefore 2 = .ok (.iconst 0, 1) := by decide +kernel
theorem dX0_dropBefore_3 : decode cX0_dropBefore 3 = .ok (.istore_n 3, 1) := by decide +kernel
theorem dX0_dropBefore_4 : decode cX0_dropBefore 4 = .ok (.iload_n 3, 1) := by decide +kernel
theorem dX0_dropBefore_5 : decode cX0_dropBefore 5 = .ok (.aload_n 0, 1) := by decide +kernel
theorem dX0_dropBefore_6 : decode cX0_dropBefore 6 = .ok (.getfield 18, 3) := by decide +kernel
theorem dX0_dropBefore_9 : decode cX0_dropBefore 9 = .ok (.if_icmp .ge 46, 3) := by decide +kernel
theorem dX0_dropBefore_12 : decode cX0_dropBefore 12 = .ok (.aload_n 0, 1) := by decide +kernel
theorem dX0_dropBefore_13 : decode cX0_dropBefore 13 = .ok (.getfield 9, 3) := by decide +kernel
theorem dX0_dropBefore_16 : decode cX0_dropBefore 16 = .ok (.iload_n 3, 1) := by decide +kernel
theorem dX0_dropBefore_17 : decode cX0_dropBefore 17 = .ok (.iaload, 1) := by decide +kernel
theorem dX0_dropBefore_18 : decode cX0_dropBefore 18 = .ok (.iload_n 1, 1) := by decide +kernel
theorem dX0_dropBefore_19 : decode cX0_dropBefore 19 = .ok (.if_icmp .lt 30, 3) := by decide +kernel
theorem dX0_dropBefore_22 : decode cX0_dropBefore 22 = .ok (.aload_n 0, 1) := by decide +kernel
theorem dX0_dropBefore_23 : decode cX0_dropBefore 23 = .ok (.getfield 9, 3) := by decide +kernel
theorem dX0_dropBefore_26 : decode cX0_dropBefore 26 = .ok (.iload_n 2, 1) := by decide +kernel
theorem dX0_dropBefore_27 : decode cX0_dropBefore 27 = .ok (.aload_n 0, 1) := by decide +kernel
theorem dX0_dropBefore_28 : decode cX0_dropBefore 28 = .ok (.getfield 9, 3) := by decide +kernel
theorem dX0_dropBefore_31 : decode cX0_dropBefore 31 = .ok (.iload_n 3, 1) := by decide +kernel
theorem dX0_dropBefore_32 : decode cX0_dropBefore 32 = .ok (.iaload, 1) := by decide +kernel
theorem dX0_dropBefore_33 : decode cX0_dropBefore 33 = .ok (.iastore, 1) := by decide +kernel
theorem dX0_dropBefore_34 : decode cX0_dropBefore 34 = .ok (.aload_n 0, 1) := by decide +kernel
theorem dX0_dropBefore_35 : decode cX0_dropBefore 35 = .ok (.getfield 15, 3) := by decide +kernel
theorem dX0_dropBefore_38 : decode cX0_dropBefore 38 = .ok (.iload_n 2, 1) := by decide +kernel
theorem dX0_dropBefore_39 : decode cX0_dropBefore 39 = .ok (.aload_n 0, 1) := by decide +kernel
theorem dX0_dropBefore_40 : decode cX0_dropBefore 40 = .ok (.getfield 15, 3) := by decide +kernel
theorem dX0_dropBefore_43 : decode cX0_dropBefore 43 = .ok (.iload_n 3, 1) := by decide +kernel
theorem dX0_dropBefore_44 : decode cX0_dropBefore 44 = .ok (.iaload, 1) := by decide +kernel
theorem dX0_dropBefore_45 : decode cX0_dropBefore 45 = .ok (.iastore, 1) := by decide +kernel
theorem dX0_dropBefore_46 : decode cX0_dropBefore 46 = .ok (.iinc 2 1, 3) := by decide +kernel
theorem dX0_dropBefore_49 : decode cX0_dropBefore 49 = .ok (.iinc 3 1, 3) := by decide +kernel
theorem dX0_dropBefore_52 : decode cX0_dropBefore 52 = .ok (.goto (-48), 3) := by decide +kernel
theorem dX0_dropBefore_55 : decode cX0_dropBefore 55 = .ok (.aload_n 0, 1) := by decide +kernel
theorem dX0_dropBefore_56 : decode cX0_dropBefore 56 = .ok (.getfield 18, 3) := by decide +kernel
theorem dX0_dropBefore_59 : decode cX0_dropBefore 59 = .ok (.iload_n 2, 1) := by decide +kernel
theorem dX0_dropBefore_60 : decode cX0_dropBefore 60 = .ok (.isub, 1) := by decide +kernel
theorem dX0_dropBefore_61 : decode cX0_dropBefore 61 = .ok (.istore_n 3, 1) := by decide +kernel
theorem dX0_dropBefore_62 : decode cX0_dropBefore 62 = .ok (.aload_n 0, 1) := by decide +kernel
theorem dX0_dropBefore_63 : decode cX0_dropBefore 63 = .ok (.iload_n 2, 1) := by decide +kernel
theorem dX0_dropBefore_64 : decode cX0_dropBefore 64 = .ok (.putfield 18, 3) := by decide +kernel
theorem dX0_dropBefore_67 : decode cX0_dropBefore 67 = .ok (.iload_n 3, 1) := by decide +kernel
theorem dX0_dropBefore_68 : decode cX0_dropBefore 68 = .ok (.ireturn, 1) := by decide +kernel
theorem dX1_init_0 : decode cX1_init 0 = .ok (.aload_n 0, 1) := by decide +kernel
theorem dX1_init_1 : decode cX1_init 1 = .ok (.invokespecial 3, 3) := by decide +kernel
theorem dX1_init_4 : decode cX1_init 4 = .ok (.aload_n 0, 1) := by decide +kernel
theorem dX1_init_5 : decode cX1_init 5 = .ok (.bipush 12, 2) := by decide +kernel
theorem dX1_init_7 : decode cX1_init 7 = .ok (.newarray .int, 2) := by decide +kernel
theorem dX1_init_9 : decode cX1_init 9 = .ok (.putfield 9, 3) := by decide +kernel
theorem dX1_init_12 : decode cX1_init 12 = .ok (.aload_n 0, 1) := by decide +kernel
theorem dX1_init_13 : decode cX1_init 13 = .ok (.bipush 12, 2) := by decide +kernel
theorem dX1_init_15 : decode cX1_init 15 = .ok (.newarray .int, 2) := by decide +kernel
theorem dX1_init_17 : decode cX1_init 17 = .ok (.putfield 15, 3) := by decide +kernel
theorem dX1_init_20 : decode cX1_init 20 = .ok (.aload_n 0, 1) := by decide +kernel
theorem dX1_init_21 : decode cX1_init 21 = .ok (.bipush 12, 2) := by decide +kernel
theorem dX1_init_23 : decode cX1_init 23 = .ok (.newarray .boolean, 2) := by decide +kernel
theorem dX1_init_25 : decode cX1_init 25 = .ok (.putfield 18, 3) := by decide +kernel
theorem dX1_init_28 : decode cX1_init 28 = .ok (.aload_n 0, 1) := by decide +kernel
theorem dX1_init_29 : decode cX1_init 29 = .ok (.bipush 12, 2) := by decide +kernel
theorem dX1_init_31 : decode cX1_init 31 = .ok (.newarray .int, 2) := by decide +kernel
theorem dX1_init_33 : decode cX1_init 33 = .ok (.putfield 22, 3) := by decide +kernel
theorem dX1_init_36 : decode cX1_init 36 = .ok (.aload_n 0, 1) := by decide +kernel
theorem dX1_init_37 : decode cX1_init 37 = .ok (.bipush 12, 2) := by decide +kernel
theorem dX1_init_39 : decode cX1_init 39 = .ok (.newarray .int, 2) := by decide +kernel
theorem dX1_init_41 : decode cX1_init 41 = .ok (.putfield 25, 3) := by decide +kernel
theorem dX1_init_44 : decode cX1_init 44 = .ok (.aload_n 0, 1) := by decide +kernel
theorem dX1_init_45 : decode cX1_init 45 = .ok (.bipush 12, 2) := by decide +kernel
theorem dX1_init_47 : decode cX1_init 47 = .ok (.newarray .int, 2) := by decide +kernel
theorem dX1_init_49 : decode cX1_init 49 = .ok (.putfield 28, 3) := by decide +kernel
theorem dX1_init_52 : decode cX1_init 52 = .ok (.return_, 1) := by decide +kernel
set_option maxRecDepth 20000 in
theorem ggX1_plan_X1_rate : GoodIn wsX1_plan wsX1_rate := goodIn_r _ [15, 8, 9, 16, 17, 18, 19, 20, 21, 22, 23, 24, 25, 26, 27, 28, 29, 30, 31, 32, 33, 34, 35, 36, 37, 38, 39, 40, 67, 68, 69, 70, 71, 72, 73, 74, 75, 76, 77, 78, 79, 80, 81, 55, 56, 57, 58, 59, 60, 61, 62, 63, 64, 65, 66] (by decide +kernel) (by decide +kernel)
set_option maxRecDepth 20000 in
theorem gX1_plan_X1_rate : GoodIn wsX1_plan (wsV RX1 31 RX1 yX1_rate wsX1_rate) := goodIn_app (goodIn_of _ (by decide +kernel)) ggX1_plan_X1_rate
set_option maxRecDepth 20000 in
theorem ggX1_plan_X1_rowOfGreatestGain : GoodIn wsX1_plan wsX1_rowOfGreatestGain := goodIn_r _ [44, 16, 19, 55, 56, 57, 58, 59, 60, 61, 62, 63, 64, 65, 66] (by decide +kernel) (by decide +kernel)
set_option maxRecDepth 20000 in
theorem gX1_plan_X1_rowOfGreatestGain : GoodIn wsX1_plan (wsV RX1 68 RX1 yX1_rowOfGreatestGain wsX1_rowOfGreatestGain) := goodIn_app (goodIn_of _ (by decide +kernel)) ggX1_plan_X1_rowOfGreatestGain
set_option maxRecDepth 20000 in
theorem ggX1_plan_X1_take : GoodIn wsX1_plan wsX1_take := goodIn_r _ [48, 1, 3, 49, 50, 51, 52, 53, 54, 4, 18, 5, 19, 6, 17, 7, 16, 55, 56, 57, 58, 59, 60, 61, 62, 63, 64, 65, 66] (by decide +kernel) (by decide +kernel)
set_option maxRecDepth 20000 in
theorem gX1_plan_X1_take : GoodIn wsX1_plan (wsV RX1 73 RX1 yX1_take wsX1_take) := goodIn_app (goodIn_of _ (by decide +kernel)) ggX1_plan_X1_take
theorem dX1_plan_0 : decode cX1_plan 0 = .ok (.aload_n 0, 1) := by decide +kernel
theorem dX1_plan_1 : decode cX1_plan 1 = .ok (.aload_n 1, 1) := by decide +kernel
theorem dX1_plan_2 : decode cX1_plan 2 = .ok (.iload_n 2, 1) := by decide +kernel
theorem dX1_plan_3 : decode cX1_plan 3 = .ok (.iload_n 3, 1) := by decide +kernel
theorem dX1_plan_4 : decode cX1_plan 4 = .ok (.invokevirtual 31, 3) := by decide +kernel
theorem dX1_plan_7 : decode cX1_plan 7 = .ok (.aload_n 0, 1) := by decide +kernel
theorem dX1_plan_8 : decode cX1_plan 8 = .ok (.iconst 0, 1) := by decide +kernel
theorem dX1_plan_9 : decode cX1_plan 9 = .ok (.putfield 35, 3) := by decide +kernel
theorem dX1_plan_12 : decode cX1_plan 12 = .ok (.aload_n 0, 1) := by decide +kernel
theorem dX1_plan_13 : decode cX1_plan 13 = .ok (.aload_n 1, 1) := by decide +kernel
theorem dX1_plan_14 : decode cX1_plan 14 = .ok (.getfield 39, 3) := by decide +kernel
theorem dX1_plan_17 : decode cX1_plan 17 = .ok (.iconst 0, 1) := by decide +kernel
theorem dX1_plan_18 : decode cX1_plan 18 = .ok (.iaload, 1) := by decide +kernel
theorem dX1_plan_19 : decode cX1_plan 19 = .ok (.putfield 44, 3) := by decide +kernel
theorem dX1_plan_22 : decode cX1_plan 22 = .ok (.aload_n 0, 1) := by decide +kernel
theorem dX1_plan_23 : decode cX1_plan 23 = .ok (.iconst 0, 1) := by decide +kernel
theorem dX1_plan_24 : decode cX1_plan 24 = .ok (.putfield 47, 3) := by decide +kernel
theorem dX1_plan_27 : decode cX1_plan 27 = .ok (.aload_n 0, 1) := by decide +kernel
theorem dX1_plan_28 : decode cX1_plan 28 = .ok (.iconst 0, 1) := by decide +kernel
theorem dX1_plan_29 : decode cX1_plan 29 = .ok (.putfield 50, 3) := by decide +kernel
theorem dX1_plan_32 : decode cX1_plan 32 = .ok (.aload_n 0, 1) := by decide +kernel
theorem dX1_plan_33 : decode cX1_plan 33 = .ok (.iconst 0, 1) := by decide +kernel
theorem dX1_plan_34 : decode cX1_plan 34 = .ok (.putfield 53, 3) := by decide +kernel
theorem dX1_plan_37 : decode cX1_plan 37 = .ok (.aload_n 0, 1) := by decide +kernel
theorem dX1_plan_38 : decode cX1_plan 38 = .ok (.iconst 0, 1) := by decide +kernel
theorem dX1_plan_39 : decode cX1_plan 39 = .ok (.putfield 56, 3) := by decide +kernel
theorem dX1_plan_42 : decode cX1_plan 42 = .ok (.iconst 0, 1) := by decide +kernel
theorem dX1_plan_43 : decode cX1_plan 43 = .ok (.istore 4, 2) := by decide +kernel
theorem dX1_plan_45 : decode cX1_plan 45 = .ok (.iload 4, 2) := by decide +kernel
theorem dX1_plan_47 : decode cX1_plan 47 = .ok (.bipush 12, 2) := by decide +kernel
theorem dX1_plan_49 : decode cX1_plan 49 = .ok (.if_icmp .ge 50, 3) := by decide +kernel
theorem dX1_plan_52 : decode cX1_plan 52 = .ok (.aload_n 0, 1) := by decide +kernel
theorem dX1_plan_53 : decode cX1_plan 53 = .ok (.getfield 44, 3) := by decide +kernel
theorem dX1_plan_56 : decode cX1_plan 56 = .ok (.ifCond .le 43, 3) := by decide +kernel
theorem dX1_plan_59 : decode cX1_plan 59 = .ok (.aload_n 0, 1) := by decide +kernel
theorem dX1_plan_60 : decode cX1_plan 60 = .ok (.aload_n 1, 1) := by decide +kernel
theorem dX1_plan_61 : decode cX1_plan 61 = .ok (.getfield 59, 3) := by decide +kernel
theorem dX1_plan_64 : decode cX1_plan 64 = .ok (.getfield 63, 3) := by decide +kernel
theorem dX1_plan_67 : decode cX1_plan 67 = .ok (.invokevirtual 68, 3) := by decide +kernel
theorem dX1_plan_70 : decode cX1_plan 70 = .ok (.istore 5, 2) := by decide +kernel
theorem dX1_plan_72 : decode cX1_plan 72 = .ok (.iload 5, 2) := by decide +kernel
theorem dX1_plan_74 : decode cX1_plan 74 = .ok (.ifCond .lt 19, 3) := by decide +kernel
theorem dX1_plan_77 : decode cX1_plan 77 = .ok (.aload_n 0, 1) := by decide +kernel
theorem dX1_plan_78 : decode cX1_plan 78 = .ok (.iload 5, 2) := by decide +kernel
theorem dX1_plan_80 : decode cX1_plan 80 = .ok (.aload_n 1, 1) := by decide +kernel
theorem dX1_plan_81 : decode cX1_plan 81 = .ok (.getfield 59, 3) := by decide +kernel
theorem dX1_plan_84 : decode cX1_plan 84 = .ok (.getfield 72, 3) := by decide +kernel
theorem dX1_plan_87 : decode cX1_plan 87 = .ok (.iload 5, 2) := by decide +kernel
theorem dX1_plan_89 : decode cX1_plan 89 = .ok (.iaload, 1) := by decide +kernel
theorem dX1_plan_90 : decode cX1_plan 90 = .ok (.invokevirtual 73, 3) := by decide +kernel
theorem dX1_plan_93 : decode cX1_plan 93 = .ok (.iinc 4 1, 3) := by decide +kernel
theorem dX1_plan_96 : decode cX1_plan 96 = .ok (.goto (-51), 3) := by decide +kernel
theorem dX1_plan_99 : decode cX1_plan 99 = .ok (.return_, 1) := by decide +kernel
set_option maxRecDepth 20000 in
theorem ggX1_rate_X4_cupAt : GoodIn wsX1_rate wsX4_cupAt := goodIn_r _ [12, 13, 14, 37, 38, 39, 40, 41, 42] (by decide +kernel) (by decide +kernel)
set_option maxRecDepth 20000 in
theorem gX1_rate_X4_cupAt : GoodIn wsX1_rate (wsV RX1 77 RX4 yX4_cupAt wsX4_cupAt) := goodIn_app (goodIn_of _ (by decide +kernel)) ggX1_rate_X4_cupAt
set_option maxRecDepth 20000 in
theorem ggX1_rate_X4_monthsTooOld : GoodIn wsX1_rate wsX4_monthsTooOld := goodIn_r _ [18, 14, 37, 38, 39, 40, 41, 42] (by decide +kernel) (by decide +kernel)
set_option maxRecDepth 20000 in
theorem gX1_rate_X4_monthsTooOld : GoodIn wsX1_rate (wsV RX1 81 RX4 yX4_monthsTooOld wsX4_monthsTooOld) := goodIn_app (goodIn_of _ (by decide +kernel)) ggX1_rate_X4_monthsTooOld
set_option maxRecDepth 20000 in
theorem ggX1_rate_X3_payForBag : GoodIn wsX1_rate wsX3_payForBag := goodIn_r _ [23, 24, 28, 29, 30, 31, 32, 33, 34, 35, 36] (by decide +kernel) (by decide +kernel)
set_option maxRecDepth 20000 in
theorem gX1_rate_X3_payForBag : GoodIn wsX1_rate (wsV RX1 84 RX3 yX3_payForBag wsX3_payForBag) := goodIn_app (goodIn_of _ (by decide +kernel)) ggX1_rate_X3_payForBag
set_option maxRecDepth 20000 in
theorem ggX1_rate_X6_bandOf : GoodIn wsX1_rate wsX6_bandOf := goodIn_r _ [27] (by decide +kernel) (by decide +kernel)
set_option maxRecDepth 20000 in
theorem gX1_rate_X6_bandOf_n91 : GoodIn wsX1_rate (wsX6_bandOf) := ggX1_rate_X6_bandOf
theorem dX1_rate_0 : decode cX1_rate 0 = .ok (.iconst 0, 1) := by decide +kernel
theorem dX1_rate_1 : decode cX1_rate 1 = .ok (.istore 4, 2) := by decide +kernel
theorem dX1_rate_3 : decode cX1_rate 3 = .ok (.iload 4, 2) := by decide +kernel
theorem dX1_rate_5 : decode cX1_rate 5 = .ok (.aload_n 1, 1) := by decide +kernel
theorem dX1_rate_6 : decode cX1_rate 6 = .ok (.getfield 59, 3) := by decide +kernel
theorem dX1_rate_9 : decode cX1_rate 9 = .ok (.getfield 63, 3) := by decide +kernel
theorem dX1_rate_12 : decode cX1_rate 12 = .ok (.if_icmp .ge 98, 3) := by decide +kernel
theorem dX1_rate_15 : decode cX1_rate 15 = .ok (.aload_n 1, 1) := by decide +kernel
theorem dX1_rate_16 : decode cX1_rate 16 = .ok (.getfield 59, 3) := by decide +kernel
theorem dX1_rate_19 : decode cX1_rate 19 = .ok (.iload 4, 2) := by decide +kernel
theorem dX1_rate_21 : decode cX1_rate 21 = .ok (.iload_n 3, 1) := by decide +kernel
theorem dX1_rate_22 : decode cX1_rate 22 = .ok (.invokevirtual 77, 3) := by decide +kernel
theorem dX1_rate_25 : decode cX1_rate 25 = .ok (.istore 5, 2) := by decide +kernel
theorem dX1_rate_27 : decode cX1_rate 27 = .ok (.aload_n 0, 1) := by decide +kernel
theorem dX1_rate_28 : decode cX1_rate 28 = .ok (.getfield 18, 3) := by decide +kernel
theorem dX1_rate_31 : decode cX1_rate 31 = .ok (.iload 4, 2) := by decide +kernel
theorem dX1_rate_33 : decode cX1_rate 33 = .ok (.iload 5, 2) := by decide +kernel
theorem dX1_rate_35 : decode cX1_rate 35 = .ok (.bipush 70, 2) := by decide +kernel
theorem dX1_rate_37 : decode cX1_rate 37 = .ok (.if_icmp .lt 7, 3) := by decide +kernel
theorem dX1_rate_40 : decode cX1_rate 40 = .ok (.iconst 1, 1) := by decide +kernel
theorem dX1_rate_41 : decode cX1_rate 41 = .ok (.goto 4, 3) := by decide +kernel
theorem dX1_rate_44 : decode cX1_rate 44 = .ok (.iconst 0, 1) := by decide +kernel
theorem dX1_rate_45 : decode cX1_rate 45 = .ok (.bastore, 1) := by decide +kernel
theorem dX1_rate_46 : decode cX1_rate 46 = .ok (.aload_n 0, 1) := by decide +kernel
theorem dX1_rate_47 : decode cX1_rate 47 = .ok (.getfield 22, 3) := by decide +kernel
theorem dX1_rate_50 : decode cX1_rate 50 = .ok (.iload 4, 2) := by decide +kernel
theorem dX1_rate_52 : decode cX1_rate 52 = .ok (.iload 5, 2) := by decide +kernel
theorem dX1_rate_54 : decode cX1_rate 54 = .ok (.iastore, 1) := by decide +kernel
theorem dX1_rate_55 : decode cX1_rate 55 = .ok (.aload_n 0, 1) := by decide +kernel
theorem dX1_rate_56 : decode cX1_rate 56 = .ok (.getfield 25, 3) := by decide +kernel
theorem dX1_rate_59 : decode cX1_rate 59 = .ok (.iload 4, 2) := by decide +kernel
theorem dX1_rate_61 : decode cX1_rate 61 = .ok (.aload_n 1, 1) := by decide +kernel
theorem dX1_rate_62 : decode cX1_rate 62 = .ok (.iload_n 2, 1) := by decide +kernel
theorem dX1_rate_63 : decode cX1_rate 63 = .ok (.iload 5, 2) := by decide +kernel
theorem dX1_rate_65 : decode cX1_rate 65 = .ok (.aload_n 1, 1) := by decide +kernel
theorem dX1_rate_66 : decode cX1_rate 66 = .ok (.getfield 59, 3) := by decide +kernel
theorem dX1_rate_69 : decode cX1_rate 69 = .ok (.iload 4, 2) := by decide +kernel
theorem dX1_rate_71 : decode cX1_rate 71 = .ok (.iload_n 3, 1) := by decide +kernel
theorem dX1_rate_72 : decode cX1_rate 72 = .ok (.invokevirtual 81, 3) := by decide +kernel
theorem dX1_rate_75 : decode cX1_rate 75 = .ok (.invokevirtual 84, 3) := by decide +kernel
theorem dX1_rate_78 : decode cX1_rate 78 = .ok (.iastore, 1) := by decide +kernel
theorem dX1_rate_79 : decode cX1_rate 79 = .ok (.aload_n 0, 1) := by decide +kernel
theorem dX1_rate_80 : decode cX1_rate 80 = .ok (.getfield 28, 3) := by decide +kernel
theorem dX1_rate_83 : decode cX1_rate 83 = .ok (.iload 4, 2) := by decide +kernel
theorem dX1_rate_85 : decode cX1_rate 85 = .ok (.aload_n 0, 1) := by decide +kernel
theorem dX1_rate_86 : decode cX1_rate 86 = .ok (.getfield 25, 3) := by decide +kernel
theorem dX1_rate_89 : decode cX1_rate 89 = .ok (.iload 4, 2) := by decide +kernel
theorem dX1_rate_91 : decode cX1_rate 91 = .ok (.iaload, 1) := by decide +kernel
theorem dX1_rate_92 : decode cX1_rate 92 = .ok (.aload_n 1, 1) := by decide +kernel
theorem dX1_rate_93 : decode cX1_rate 93 = .ok (.getfield 88, 3) := by decide +kernel
theorem dX1_rate_96 : decode cX1_rate 96 = .ok (.iload 5, 2) := by decide +kernel
theorem dX1_rate_98 : decode cX1_rate 98 = .ok (.invokestatic 91, 3) := by decide +kernel
theorem dX1_rate_101 : decode cX1_rate 101 = .ok (.iaload, 1) := by decide +kernel
theorem dX1_rate_102 : decode cX1_rate 102 = .ok (.isub, 1) := by decide +kernel
theorem dX1_rate_103 : decode cX1_rate 103 = .ok (.iastore, 1) := by decide +kernel
theorem dX1_rate_104 : decode cX1_rate 104 = .ok (.iinc 4 1, 3) := by decide +kernel
theorem dX1_rate_107 : decode cX1_rate 107 = .ok (.goto (-104), 3) := by decide +kernel
theorem dX1_rate_110 : decode cX1_rate 110 = .ok (.return_, 1) := by decide +kernel
theorem dX1_rowOfGreatestGain_0 : decode cX1_rowOfGreatestGain 0 = .ok (.iconst (-1), 1) := by decide +kernel
theorem dX1_rowOfGreatestGain_1 : decode cX1_rowOfGreatestGain 1 = .ok (.istore_n 2, 1) := by decide +kernel
theorem dX1_rowOfGreatestGain_2 : decode cX1_rowOfGreatestGain 2 = .ok (.iconst 0, 1) := by decide +kernel
theorem dX1_rowOfGreatestGain_3 : decode cX1_rowOfGreatestGain 3 = .ok (.istore_n 3, 1) := by decide +kernel
theorem dX1_rowOfGreatestGain_4 : decode cX1_rowOfGreatestGain 4 = .ok (.iload_n 3, 1) := by decide +kernel
theorem dX1_rowOfGreatestGain_5 : decode cX1_rowOfGreatestGain 5 = .ok (.iload_n 1, 1) := by decide +kernel
theorem dX1_rowOfGreatestGain_6 : decode cX1_rowOfGreatestGain 6 = .ok (.if_icmp .ge 39, 3) := by decide +kernel
theorem dX1_rowOfGreatestGain_9 : decode cX1_rowOfGreatestGain 9 = .ok (.aload_n 0, 1) := by decide +kernel
theorem dX1_rowOfGreatestGain_10 : decode cX1_rowOfGreatestGain 10 = .ok (.getfield 18, 3) := by decide +kernel
theorem dX1_rowOfGreatestGain_13 : decode cX1_rowOfGreatestGain 13 = .ok (.iload_n 3, 1) := by decide +kernel
theorem dX1_rowOfGreatestGain_14 : decode cX1_rowOfGreatestGain 14 = .ok (.baload, 1) := by decide +kernel
theorem dX1_rowOfGreatestGain_15 : decode cX1_rowOfGreatestGain 15 = .ok (.ifCond .eq 24, 3) := by decide +kernel
theorem dX1_rowOfGreatestGain_18 : decode cX1_rowOfGreatestGain 18 = .ok (.iload_n 2, 1) := by decide +kernel
theorem dX1_rowOfGreatestGain_19 : decode cX1_rowOfGreatestGain 19 = .ok (.ifCond .lt 18, 3) := by decide +kernel
theorem dX1_rowOfGreatestGain_22 : decode cX1_rowOfGreatestGain 22 = .ok (.aload_n 0, 1) := by decide +kernel
theorem dX1_rowOfGreatestGain_23 : decode cX1_rowOfGreatestGain 23 = .ok (.getfield 28, 3) := by decide +kernel
theorem dX1_rowOfGreatestGain_26 : decode cX1_rowOfGreatestGain 26 = .ok (.iload_n 3, 1) := by decide +kernel
theorem dX1_rowOfGreatestGain_27 : decode cX1_rowOfGreatestGain 27 = .ok (.iaload, 1) := by decide +kernel
theorem dX1_rowOfGreatestGain_28 : decode cX1_rowOfGreatestGain 28 = .ok (.aload_n 0, 1) := by decide +kernel
theorem dX1_rowOfGreatestGain_29 : decode cX1_rowOfGreatestGain 29 = .ok (.getfield 28, 3) := by decide +kernel
theorem dX1_rowOfGreatestGain_32 : decode cX1_rowOfGreatestGain 32 = .ok (.iload_n 2, 1) := by decide +kernel
theorem dX1_rowOfGreatestGain_33 : decode cX1_rowOfGreatestGain 33 = .ok (.iaload, 1) := by decide +kernel
theorem dX1_rowOfGreatestGain_34 : decode cX1_rowOfGreatestGain 34 = .ok (.if_icmp .le 5, 3) := by decide +kernel
theorem dX1_rowOfGreatestGain_37 : decode cX1_rowOfGreatestGain 37 = .ok (.iload_n 3, 1) := by decide +kernel
theorem dX1_rowOfGreatestGain_38 : decode cX1_rowOfGreatestGain 38 = .ok (.istore_n 2, 1) := by decide +kernel
theorem dX1_rowOfGreatestGain_39 : decode cX1_rowOfGreatestGain 39 = .ok (.iinc 3 1, 3) := by decide +kernel
theorem dX1_rowOfGreatestGain_42 : decode cX1_rowOfGreatestGain 42 = .ok (.goto (-38), 3) := by decide +kernel
theorem dX1_rowOfGreatestGain_45 : decode cX1_rowOfGreatestGain 45 = .ok (.iload_n 2, 1) := by decide +kernel
theorem dX1_rowOfGreatestGain_46 : decode cX1_rowOfGreatestGain 46 = .ok (.ireturn, 1) := by decide +kernel
theorem dX1_take_0 : decode cX1_take 0 = .ok (.aload_n 0, 1) := by decide +kernel
theorem dX1_take_1 : decode cX1_take 1 = .ok (.getfield 35, 3) := by decide +kernel
theorem dX1_take_4 : decode cX1_take 4 = .ok (.bipush 12, 2) := by decide +kernel
theorem dX1_take_6 : decode cX1_take 6 = .ok (.if_icmp .lt 4, 3) := by decide +kernel
theorem dX1_take_9 : decode cX1_take 9 = .ok (.return_, 1) := by decide +kernel
theorem dX1_take_10 : decode cX1_take 10 = .ok (.aload_n 0, 1) := by decide +kernel
theorem dX1_take_11 : decode cX1_take 11 = .ok (.getfield 44, 3) := by decide +kernel
theorem dX1_take_14 : decode cX1_take 14 = .ok (.iload_n 2, 1) := by decide +kernel
theorem dX1_take_15 : decode cX1_take 15 = .ok (.invokestatic 94, 3) := by decide +kernel
theorem dX1_take_18 : decode cX1_take 18 = .ok (.istore_n 3, 1) := by decide +kernel
theorem dX1_take_19 : decode cX1_take 19 = .ok (.aload_n 0, 1) := by decide +kernel
theorem dX1_take_20 : decode cX1_take 20 = .ok (.getfield 9, 3) := by decide +kernel
theorem dX1_take_23 : decode cX1_take 23 = .ok (.aload_n 0, 1) := by decide +kernel
theorem dX1_take_24 : decode cX1_take 24 = .ok (.getfield 35, 3) := by decide +kernel
theorem dX1_take_27 : decode cX1_take 27 = .ok (.iload_n 1, 1) := by decide +kernel
theorem dX1_take_28 : decode cX1_take 28 = .ok (.iastore, 1) := by decide +kernel
theorem dX1_take_29 : decode cX1_take 29 = .ok (.aload_n 0, 1) := by decide +kernel
theorem dX1_take_30 : decode cX1_take 30 = .ok (.getfield 15, 3) := by decide +kernel
theorem dX1_take_33 : decode cX1_take 33 = .ok (.aload_n 0, 1) := by decide +kernel
theorem dX1_take_34 : decode cX1_take 34 = .ok (.getfield 35, 3) := by decide +kernel
theorem dX1_take_37 : decode cX1_take 37 = .ok (.iload_n 3, 1) := by decide +kernel
theorem dX1_take_38 : decode cX1_take 38 = .ok (.iastore, 1) := by decide +kernel
theorem dX1_take_39 : decode cX1_take 39 = .ok (.aload_n 0, 1) := by decide +kernel
theorem dX1_take_40 : decode cX1_take 40 = .ok (.dup, 1) := by decide +kernel
theorem dX1_take_41 : decode cX1_take 41 = .ok (.getfield 35, 3) := by decide +kernel
theorem dX1_take_44 : decode cX1_take 44 = .ok (.iconst 1, 1) := by decide +kernel
theorem dX1_take_45 : decode cX1_take 45 = .ok (.iadd, 1) := by decide +kernel
theorem dX1_take_46 : decode cX1_take 46 = .ok (.putfield 35, 3) := by decide +kernel
theorem dX1_take_49 : decode cX1_take 49 = .ok (.aload_n 0, 1) := by decide +kernel
theorem dX1_take_50 : decode cX1_take 50 = .ok (.dup, 1) := by decide +kernel
theorem dX1_take_51 : decode cX1_take 51 = .ok (.getfield 44, 3) := by decide +kernel
theorem dX1_take_54 : decode cX1_take 54 = .ok (.iload_n 3, 1) := by decide +kernel
theorem dX1_take_55 : decode cX1_take 55 = .ok (.isub, 1) := by decide +kernel
theorem dX1_take_56 : decode cX1_take 56 = .ok (.putfield 44, 3) := by decide +kernel
theorem dX1_take_59 : decode cX1_take 59 = .ok (.aload_n 0, 1) := by decide +kernel
theorem dX1_take_60 : decode cX1_take 60 = .ok (.dup, 1) := by decide +kernel
theorem dX1_take_61 : decode cX1_take 61 = .ok (.getfield 47, 3) := by decide +kernel
theorem dX1_take_64 : decode cX1_take 64 = .ok (.iload_n 3, 1) := by decide +kernel
theorem dX1_take_65 : decode cX1_take 65 = .ok (.aload_n 0, 1) := by decide +kernel
theorem dX1_take_66 : decode cX1_take 66 = .ok (.getfield 25, 3) := by decide +kernel
theorem dX1_take_69 : decode cX1_take 69 = .ok (.iload_n 1, 1) := by decide +kernel
theorem dX1_take_70 : decode cX1_take 70 = .ok (.iaload, 1) := by decide +kernel
theorem dX1_take_71 : decode cX1_take 71 = .ok (.imul, 1) := by decide +kernel
theorem dX1_take_72 : decode cX1_take 72 = .ok (.iadd, 1) := by decide +kernel
theorem dX1_take_73 : decode cX1_take 73 = .ok (.putfield 47, 3) := by decide +kernel
theorem dX1_take_76 : decode cX1_take 76 = .ok (.aload_n 0, 1) := by decide +kernel
theorem dX1_take_77 : decode cX1_take 77 = .ok (.dup, 1) := by decide +kernel
theorem dX1_take_78 : decode cX1_take 78 = .ok (.getfield 50, 3) := by decide +kernel
theorem dX1_take_81 : decode cX1_take 81 = .ok (.iload_n 3, 1) := by decide +kernel
theorem dX1_take_82 : decode cX1_take 82 = .ok (.aload_n 0, 1) := by decide +kernel
theorem dX1_take_83 : decode cX1_take 83 = .ok (.getfield 28, 3) := by decide +kernel
theorem dX1_take_86 : decode cX1_take 86 = .ok (.iload_n 1, 1) := by decide +kernel
theorem dX1_take_87 : decode cX1_take 87 = .ok (.iaload, 1) := by decide +kernel
theorem dX1_take_88 : decode cX1_take 88 = .ok (.imul, 1) := by decide +kernel
theorem dX1_take_89 : decode cX1_take 89 = .ok (.iadd, 1) := by decide +kernel
theorem dX1_take_90 : decode cX1_take 90 = .ok (.putfield 50, 3) := by decide +kernel
theorem dX1_take_93 : decode cX1_take 93 = .ok (.aload_n 0, 1) := by decide +kernel
theorem dX1_take_94 : decode cX1_take 94 = .ok (.dup, 1) := by decide +kernel
theorem dX1_take_95 : decode cX1_take 95 = .ok (.getfield 53, 3) := by decide +kernel
theorem dX1_take_98 : decode cX1_take 98 = .ok (.iload_n 3, 1) := by decide +kernel
theorem dX1_take_99 : decode cX1_take 99 = .ok (.aload_n 0, 1) := by decide +kernel
theorem dX1_take_100 : decode cX1_take 100 = .ok (.getfield 22, 3) := by decide +kernel
theorem dX1_take_103 : decode cX1_take 103 = .ok (.iload_n 1, 1) := by decide +kernel
theorem dX1_take_104 : decode cX1_take 104 = .ok (.iaload, 1) := by decide +kernel
theorem dX1_take_105 : decode cX1_take 105 = .ok (.imul, 1) := by decide +kernel
theorem dX1_take_106 : decode cX1_take 106 = .ok (.iadd, 1) := by decide +kernel
theorem dX1_take_107 : decode cX1_take 107 = .ok (.putfield 53, 3) := by decide +kernel
theorem dX1_take_110 : decode cX1_take 110 = .ok (.iload_n 3, 1) := by decide +kernel
theorem dX1_take_111 : decode cX1_take 111 = .ok (.iload_n 2, 1) := by decide +kernel
theorem dX1_take_112 : decode cX1_take 112 = .ok (.if_icmp .ne 13, 3) := by decide +kernel
theorem dX1_take_115 : decode cX1_take 115 = .ok (.aload_n 0, 1) := by decide +kernel
theorem dX1_take_116 : decode cX1_take 116 = .ok (.dup, 1) := by decide +kernel
theorem dX1_take_117 : decode cX1_take 117 = .ok (.getfield 56, 3) := by decide +kernel
theorem dX1_take_120 : decode cX1_take 120 = .ok (.iconst 1, 1) := by decide +kernel
theorem dX1_take_121 : decode cX1_take 121 = .ok (.iadd, 1) := by decide +kernel
theorem dX1_take_122 : decode cX1_take 122 = .ok (.putfield 56, 3) := by decide +kernel
theorem dX1_take_125 : decode cX1_take 125 = .ok (.aload_n 0, 1) := by decide +kernel
theorem dX1_take_126 : decode cX1_take 126 = .ok (.getfield 18, 3) := by decide +kernel
theorem dX1_take_129 : decode cX1_take 129 = .ok (.iload_n 1, 1) := by decide +kernel
theorem dX1_take_130 : decode cX1_take 130 = .ok (.iconst 0, 1) := by decide +kernel
theorem dX1_take_131 : decode cX1_take 131 = .ok (.bastore, 1) := by decide +kernel
theorem dX1_take_132 : decode cX1_take 132 = .ok (.return_, 1) := by decide +kernel
set_option maxRecDepth 20000 in
theorem ggX2_init_X3_init : GoodIn wsX2_init wsX3_init := goodIn_r _ [9, 10, 2, 3, 11, 12, 13, 14, 15, 16, 17, 18, 19, 20, 21, 22, 23, 24, 25, 26, 27, 28, 29, 30, 31, 32, 33, 34, 35, 36, 37, 38, 39, 51, 52, 53, 54, 55, 56, 42, 43, 44, 45, 46, 47, 48, 49, 50, 57, 58, 59] (by decide +kernel) (by decide +kernel)
set_option maxRecDepth 20000 in
theorem gX2_init_X3_init_n17 : GoodIn wsX2_init (wsX3_init) := ggX2_init_X3_init
theorem dX2_init_0 : decode cX2_init 0 = .ok (.aload_n 0, 1) := by decide +kernel
theorem dX2_init_1 : decode cX2_init 1 = .ok (.invokespecial 3, 3) := by decide +kernel
theorem dX2_init_4 : decode cX2_init 4 = .ok (.aload_n 0, 1) := by decide +kernel
theorem dX2_init_5 : decode cX2_init 5 = .ok (.iconst 4, 1) := by decide +kernel
theorem dX2_init_6 : decode cX2_init 6 = .ok (.anewarray 9, 3) := by decide +kernel
theorem dX2_init_9 : decode cX2_init 9 = .ok (.putfield 11, 3) := by decide +kernel
theorem dX2_init_12 : decode cX2_init 12 = .ok (.iconst 0, 1) := by decide +kernel
theorem dX2_init_13 : decode cX2_init 13 = .ok (.istore_n 1, 1) := by decide +kernel
theorem dX2_init_14 : decode cX2_init 14 = .ok (.iload_n 1, 1) := by decide +kernel
theorem dX2_init_15 : decode cX2_init 15 = .ok (.iconst 4, 1) := by decide +kernel
theorem dX2_init_16 : decode cX2_init 16 = .ok (.if_icmp .ge 22, 3) := by decide +kernel
theorem dX2_init_19 : decode cX2_init 19 = .ok (.aload_n 0, 1) := by decide +kernel
theorem dX2_init_20 : decode cX2_init 20 = .ok (.getfield 11, 3) := by decide +kernel
theorem dX2_init_23 : decode cX2_init 23 = .ok (.iload_n 1, 1) := by decide +kernel
theorem dX2_init_24 : decode cX2_init 24 = .ok (.new 9, 3) := by decide +kernel
theorem dX2_init_27 : decode cX2_init 27 = .ok (.dup, 1) := by decide +kernel
theorem dX2_init_28 : decode cX2_init 28 = .ok (.invokespecial 17, 3) := by decide +kernel
theorem dX2_init_31 : decode cX2_init 31 = .ok (.aastore, 1) := by decide +kernel
theorem dX2_init_32 : decode cX2_init 32 = .ok (.iinc 1 1, 3) := by decide +kernel
theorem dX2_init_35 : decode cX2_init 35 = .ok (.goto (-21), 3) := by decide +kernel
theorem dX2_init_38 : decode cX2_init 38 = .ok (.return_, 1) := by decide +kernel
set_option maxRecDepth 20000 in
theorem ggX2_record_X2_dropOldest : GoodIn wsX2_record wsX2_dropOldest := goodIn_r _ [7, 2, 1, 41, 42] (by decide +kernel) (by decide +kernel)
set_option maxRecDepth 20000 in
theorem gX2_record_X2_dropOldest : GoodIn wsX2_record (wsV RX2 22 RX2 yX2_dropOldest wsX2_dropOldest) := goodIn_app (goodIn_of _ (by decide +kernel)) ggX2_record_X2_dropOldest
set_option maxRecDepth 20000 in
theorem ggX2_record_X3_copyFrom : GoodIn wsX2_record wsX3_copyFrom := goodIn_r _ [12, 13, 14, 15, 16, 17, 18, 19, 20, 21, 22, 23, 24, 25, 26, 27, 28, 29, 30, 31, 32, 33, 34, 35, 36, 37, 38, 39, 40, 43, 44, 45, 46, 47, 48, 49, 50, 51, 52, 53, 54, 55, 56, 57, 58, 59, 60] (by decide +kernel) (by decide +kernel)
set_option maxRecDepth 20000 in
theorem gX2_record_X3_copyFrom : GoodIn wsX2_record (wsV RX2 25 RX3 yX3_copyFrom wsX3_copyFrom) := goodIn_app (goodIn_of _ (by decide +kernel)) ggX2_record_X3_copyFrom
theorem dX2_record_0 : decode cX2_record 0 = .ok (.aload_n 0, 1) := by decide +kernel
theorem dX2_record_1 : decode cX2_record 1 = .ok (.getfield 18, 3) := by decide +kernel
theorem dX2_record_4 : decode cX2_record 4 = .ok (.iconst 4, 1) := by decide +kernel
theorem dX2_record_5 : decode cX2_record 5 = .ok (.if_icmp .lt 7, 3) := by decide +kernel
theorem dX2_record_8 : decode cX2_record 8 = .ok (.aload_n 0, 1) := by decide +kernel
theorem dX2_record_9 : decode cX2_record 9 = .ok (.invokevirtual 22, 3) := by decide +kernel
theorem dX2_record_12 : decode cX2_record 12 = .ok (.aload_n 0, 1) := by decide +kernel
theorem dX2_record_13 : decode cX2_record 13 = .ok (.getfield 11, 3) := by decide +kernel
theorem dX2_record_16 : decode cX2_record 16 = .ok (.aload_n 0, 1) := by decide +kernel
theorem dX2_record_17 : decode cX2_record 17 = .ok (.getfield 18, 3) := by decide +kernel
theorem dX2_record_20 : decode cX2_record 20 = .ok (.aaload, 1) := by decide +kernel
theorem dX2_record_21 : decode cX2_record 21 = .ok (.aload_n 1, 1) := by decide +kernel
theorem dX2_record_22 : decode cX2_record 22 = .ok (.invokevirtual 25, 3) := by decide +kernel
theorem dX2_record_25 : decode cX2_record 25 = .ok (.aload_n 0, 1) := by decide +kernel
theorem dX2_record_26 : decode cX2_record 26 = .ok (.dup, 1) := by decide +kernel
theorem dX2_record_27 : decode cX2_record 27 = .ok (.getfield 18, 3) := by decide +kernel
theorem dX2_record_30 : decode cX2_record 30 = .ok (.iconst 1, 1) := by decide +kernel
theorem dX2_record_31 : decode cX2_record 31 = .ok (.iadd, 1) := by decide +kernel
theorem dX2_record_32 : decode cX2_record 32 = .ok (.putfield 18, 3) := by decide +kernel
theorem dX2_record_35 : decode cX2_record 35 = .ok (.return_, 1) := by decide +kernel
set_option maxRecDepth 20000 in
theorem ggX2_restoreLatest_X3_copyFrom : GoodIn wsX2_restoreLatest wsX3_copyFrom := goodIn_r _ [7, 8, 9, 10, 11, 12, 13, 14, 15, 16, 17, 18, 19, 20, 21, 22, 23, 24, 25, 26, 27, 28, 29, 30, 31, 32, 33, 34, 35, 38, 39, 40, 41, 42, 43, 44, 45, 46, 47, 48, 49, 50, 51, 52, 53, 54, 55] (by decide +kernel) (by decide +kernel)
set_option maxRecDepth 20000 in
theorem gX2_restoreLatest_X3_copyFrom : GoodIn wsX2_restoreLatest (wsV RX2 25 RX3 yX3_copyFrom wsX3_copyFrom) := goodIn_app (goodIn_of _ (by decide +kernel)) ggX2_restoreLatest_X3_copyFrom
theorem dX2_restoreLatest_0 : decode cX2_restoreLatest 0 = .ok (.aload_n 0, 1) := by decide +kernel
theorem dX2_restoreLatest_1 : decode cX2_restoreLatest 1 = .ok (.getfield 18, 3) := by decide +kernel
theorem dX2_restoreLatest_4 : decode cX2_restoreLatest 4 = .ok (.ifCond .le 26, 3) := by decide +kernel
theorem dX2_restoreLatest_7 : decode cX2_restoreLatest 7 = .ok (.aload_n 0, 1) := by decide +kernel
theorem dX2_restoreLatest_8 : decode cX2_restoreLatest 8 = .ok (.dup, 1) := by decide +kernel
theorem dX2_restoreLatest_9 : decode cX2_restoreLatest 9 = .ok (.getfield 18, 3) := by decide +kernel
theorem dX2_restoreLatest_12 : decode cX2_restoreLatest 12 = .ok (.iconst 1, 1) := by decide +kernel
theorem dX2_restoreLatest_13 : decode cX2_restoreLatest 13 = .ok (.isub, 1) := by decide +kernel
theorem dX2_restoreLatest_14 : decode cX2_restoreLatest 14 = .ok (.putfield 18, 3) := by decide +kernel
theorem dX2_restoreLatest_17 : decode cX2_restoreLatest 17 = .ok (.aload_n 1, 1) := by decide +kernel
theorem dX2_restoreLatest_18 : decode cX2_restoreLatest 18 = .ok (.aload_n 0, 1) := by decide +kernel
theorem dX2_restoreLatest_19 : decode cX2_restoreLatest 19 = .ok (.getfield 11, 3) := by decide +kernel
theorem dX2_restoreLatest_22 : decode cX2_restoreLatest 22 = .ok (.aload_n 0, 1) := by decide +kernel
theorem dX2_restoreLatest_23 : decode cX2_restoreLatest 23 = .ok (.getfield 18, 3) := by decide +kernel
theorem dX2_restoreLatest_26 : decode cX2_restoreLatest 26 = .ok (.aaload, 1) := by decide +kernel
theorem dX2_restoreLatest_27 : decode cX2_restoreLatest 27 = .ok (.invokevirtual 25, 3) := by decide +kernel
theorem dX2_restoreLatest_30 : decode cX2_restoreLatest 30 = .ok (.return_, 1) := by decide +kernel
theorem dX2_dropOldest_0 : decode cX2_dropOldest 0 = .ok (.aload_n 0, 1) := by decide +kernel
theorem dX2_dropOldest_1 : decode cX2_dropOldest 1 = .ok (.getfield 11, 3) := by decide +kernel
theorem dX2_dropOldest_4 : decode cX2_dropOldest 4 = .ok (.iconst 0, 1) := by decide +kernel
theorem dX2_dropOldest_5 : decode cX2_dropOldest 5 = .ok (.aaload, 1) := by decide +kernel
theorem dX2_dropOldest_6 : decode cX2_dropOldest 6 = .ok (.astore_n 1, 1) := by decide +kernel
theorem dX2_dropOldest_7 : decode cX2_dropOldest 7 = .ok (.iconst 1, 1) := by decide +kernel
theorem dX2_dropOldest_8 : decode cX2_dropOldest 8 = .ok (.istore_n 2, 1) := by decide +kernel
theorem dX2_dropOldest_9 : decode cX2_dropOldest 9 = .ok (.iload_n 2, 1) := by decide +kernel
theorem dX2_dropOldest_10 : decode cX2_dropOldest 10 = .ok (.iconst 4, 1) := by decide +kernel
theorem dX2_dropOldest_11 : decode cX2_dropOldest 11 = .ok (.if_icmp .ge 23, 3) := by decide +kernel
theorem dX2_dropOldest_14 : decode cX2_dropOldest 14 = .ok (.aload_n 0, 1) := by decide +kernel
theorem dX2_dropOldest_15 : decode cX2_dropOldest 15 = .ok (.getfield 11, 3) := by decide +kernel
theorem dX2_dropOldest_18 : decode cX2_dropOldest 18 = .ok (.iload_n 2, 1) := by decide +kernel
theorem dX2_dropOldest_19 : decode cX2_dropOldest 19 = .ok (.iconst 1, 1) := by decide +kernel
theorem dX2_dropOldest_20 : decode cX2_dropOldest 20 = .ok (.isub, 1) := by decide +kernel
theorem dX2_dropOldest_21 : decode cX2_dropOldest 21 = .ok (.aload_n 0, 1) := by decide +kernel
theorem dX2_dropOldest_22 : decode cX2_dropOldest 22 = .ok (.getfield 11, 3) := by decide +kernel
theorem dX2_dropOldest_25 : decode cX2_dropOldest 25 = .ok (.iload_n 2, 1) := by decide +kernel
theorem dX2_dropOldest_26 : decode cX2_dropOldest 26 = .ok (.aaload, 1) := by decide +kernel
theorem dX2_dropOldest_27 : decode cX2_dropOldest 27 = .ok (.aastore, 1) := by decide +kernel
theorem dX2_dropOldest_28 : decode cX2_dropOldest 28 = .ok (.iinc 2 1, 3) := by decide +kernel
theorem dX2_dropOldest_31 : decode cX2_dropOldest 31 = .ok (.goto (-22), 3) := by decide +kernel
theorem dX2_dropOldest_34 : decode cX2_dropOldest 34 = .ok (.aload_n 0, 1) := by decide +kernel
theorem dX2_dropOldest_35 : decode cX2_dropOldest 35 = .ok (.getfield 11, 3) := by decide +kernel
theorem dX2_dropOldest_38 : decode cX2_dropOldest 38 = .ok (.iconst 3, 1) := by decide +kernel
theorem dX2_dropOldest_39 : decode cX2_dropOldest 39 = .ok (.aload_n 1, 1) := by decide +kernel
theorem dX2_dropOldest_40 : decode cX2_dropOldest 40 = .ok (.aastore, 1) := by decide +kernel
theorem dX2_dropOldest_41 : decode cX2_dropOldest 41 = .ok (.aload_n 0, 1) := by decide +kernel
theorem dX2_dropOldest_42 : decode cX2_dropOldest 42 = .ok (.iconst 3, 1) := by decide +kernel
theorem dX2_dropOldest_43 : decode cX2_dropOldest 43 = .ok (.putfield 18, 3) := by decide +kernel
theorem dX2_dropOldest_46 : decode cX2_dropOldest 46 = .ok (.return_, 1) := by decide +kernel
set_option maxRecDepth 20000 in
theorem ggX3_init_X4_init : GoodIn wsX3_init wsX4_init := goodIn_r _ [21, 22, 2, 3, 23, 24, 25, 26, 27, 33, 34, 35, 36, 37, 38] (by decide +kernel) (by decide +kernel)
set_option maxRecDepth 20000 in
theorem gX3_init_X4_init_n11 : GoodIn wsX3_init (wsX4_init) := ggX3_init_X4_init
set_option maxRecDepth 20000 in
theorem ggX3_init_X0_init : GoodIn wsX3_init wsX0_init := goodIn_r _ [29, 30, 2, 3, 23, 31, 32, 48, 49, 50] (by decide +kernel) (by decide +kernel)
set_option maxRecDepth 20000 in
theorem gX3_init_X0_init_n20 : GoodIn wsX3_init (wsX0_init) := ggX3_init_X0_init
theorem dX3_init_0 : decode cX3_init 0 = .ok (.aload_n 0, 1) := by decide +kernel
theorem dX3_init_1 : decode cX3_init 1 = .ok (.invokespecial 3, 3) := by decide +kernel
theorem dX3_init_4 : decode cX3_init 4 = .ok (.aload_n 0, 1) := by decide +kernel
theorem dX3_init_5 : decode cX3_init 5 = .ok (.new 9, 3) := by decide +kernel
theorem dX3_init_8 : decode cX3_init 8 = .ok (.dup, 1) := by decide +kernel
theorem dX3_init_9 : decode cX3_init 9 = .ok (.invokespecial 11, 3) := by decide +kernel
theorem dX3_init_12 : decode cX3_init 12 = .ok (.putfield 12, 3) := by decide +kernel
theorem dX3_init_15 : decode cX3_init 15 = .ok (.aload_n 0, 1) := by decide +kernel
theorem dX3_init_16 : decode cX3_init 16 = .ok (.new 18, 3) := by decide +kernel
theorem dX3_init_19 : decode cX3_init 19 = .ok (.dup, 1) := by decide +kernel
theorem dX3_init_20 : decode cX3_init 20 = .ok (.invokespecial 20, 3) := by decide +kernel
theorem dX3_init_23 : decode cX3_init 23 = .ok (.putfield 21, 3) := by decide +kernel
theorem dX3_init_26 : decode cX3_init 26 = .ok (.aload_n 0, 1) := by decide +kernel
theorem dX3_init_27 : decode cX3_init 27 = .ok (.getstatic 25, 3) := by decide +kernel
theorem dX3_init_30 : decode cX3_init 30 = .ok (.invokevirtual 29, 3) := by decide +kernel
theorem dX3_init_33 : decode cX3_init 33 = .ok (.checkcast 30, 3) := by decide +kernel
theorem dX3_init_36 : decode cX3_init 36 = .ok (.putfield 34, 3) := by decide +kernel
theorem dX3_init_39 : decode cX3_init 39 = .ok (.aload_n 0, 1) := by decide +kernel
theorem dX3_init_40 : decode cX3_init 40 = .ok (.getstatic 37, 3) := by decide +kernel
theorem dX3_init_43 : decode cX3_init 43 = .ok (.invokevirtual 29, 3) := by decide +kernel
theorem dX3_init_46 : decode cX3_init 46 = .ok (.checkcast 30, 3) := by decide +kernel
theorem dX3_init_49 : decode cX3_init 49 = .ok (.putfield 40, 3) := by decide +kernel
theorem dX3_init_52 : decode cX3_init 52 = .ok (.return_, 1) := by decide +kernel
set_option maxRecDepth 20000 in
theorem ggX3_copyFrom_X4_copyFrom : GoodIn wsX3_copyFrom wsX4_copyFrom := goodIn_r _ [14, 15, 16, 17, 18, 19, 20, 38, 39, 40, 41, 42, 43] (by decide +kernel) (by decide +kernel)
set_option maxRecDepth 20000 in
theorem gX3_copyFrom_X4_copyFrom : GoodIn wsX3_copyFrom (wsV RX3 43 RX4 yX4_copyFrom wsX4_copyFrom) := goodIn_app (goodIn_of _ (by decide +kernel)) ggX3_copyFrom_X4_copyFrom
set_option maxRecDepth 20000 in
theorem ggX3_copyFrom_X0_copyFrom : GoodIn wsX3_copyFrom wsX0_copyFrom := goodIn_r _ [25, 26, 27, 28, 44, 45, 46] (by decide +kernel) (by decide +kernel)
set_option maxRecDepth 20000 in
theorem gX3_copyFrom_X0_copyFrom : GoodIn wsX3_copyFrom (wsV RX3 47 RX0 yX0_copyFrom wsX0_copyFrom) := goodIn_app (goodIn_of _ (by decide +kernel)) ggX3_copyFrom_X0_copyFrom
theorem dX3_copyFrom_0 : decode cX3_copyFrom 0 = .ok (.aload_n 0, 1) := by decide +kernel
theorem dX3_copyFrom_1 : decode cX3_copyFrom 1 = .ok (.getfield 12, 3) := by decide +kernel
theorem dX3_copyFrom_4 : decode cX3_copyFrom 4 = .ok (.aload_n 1, 1) := by decide +kernel
theorem dX3_copyFrom_5 : decode cX3_copyFrom 5 = .ok (.getfield 12, 3) := by decide +kernel
theorem dX3_copyFrom_8 : decode cX3_copyFrom 8 = .ok (.invokevirtual 43, 3) := by decide +kernel
theorem dX3_copyFrom_11 : decode cX3_copyFrom 11 = .ok (.aload_n 0, 1) := by decide +kernel
theorem dX3_copyFrom_12 : decode cX3_copyFrom 12 = .ok (.getfield 21, 3) := by decide +kernel
theorem dX3_copyFrom_15 : decode cX3_copyFrom 15 = .ok (.aload_n 1, 1) := by decide +kernel
theorem dX3_copyFrom_16 : decode cX3_copyFrom 16 = .ok (.getfield 21, 3) := by decide +kernel
theorem dX3_copyFrom_19 : decode cX3_copyFrom 19 = .ok (.invokevirtual 47, 3) := by decide +kernel
theorem dX3_copyFrom_22 : decode cX3_copyFrom 22 = .ok (.iconst 0, 1) := by decide +kernel
theorem dX3_copyFrom_23 : decode cX3_copyFrom 23 = .ok (.istore_n 2, 1) := by decide +kernel
theorem dX3_copyFrom_24 : decode cX3_copyFrom 24 = .ok (.iload_n 2, 1) := by decide +kernel
theorem dX3_copyFrom_25 : decode cX3_copyFrom 25 = .ok (.iconst 4, 1) := by decide +kernel
theorem dX3_copyFrom_26 : decode cX3_copyFrom 26 = .ok (.if_icmp .ge 21, 3) := by decide +kernel
theorem dX3_copyFrom_29 : decode cX3_copyFrom 29 = .ok (.aload_n 0, 1) := by decide +kernel
theorem dX3_copyFrom_30 : decode cX3_copyFrom 30 = .ok (.getfield 34, 3) := by decide +kernel
theorem dX3_copyFrom_33 : decode cX3_copyFrom 33 = .ok (.iload_n 2, 1) := by decide +kernel
theorem dX3_copyFrom_34 : decode cX3_copyFrom 34 = .ok (.aload_n 1, 1) := by decide +kernel
theorem dX3_copyFrom_35 : decode cX3_copyFrom 35 = .ok (.getfield 34, 3) := by decide +kernel
theorem dX3_copyFrom_38 : decode cX3_copyFrom 38 = .ok (.iload_n 2, 1) := by decide +kernel
theorem dX3_copyFrom_39 : decode cX3_copyFrom 39 = .ok (.iaload, 1) := by decide +kernel
theorem dX3_copyFrom_40 : decode cX3_copyFrom 40 = .ok (.iastore, 1) := by decide +kernel
theorem dX3_copyFrom_41 : decode cX3_copyFrom 41 = .ok (.iinc 2 1, 3) := by decide +kernel
theorem dX3_copyFrom_44 : decode cX3_copyFrom 44 = .ok (.goto (-20), 3) := by decide +kernel
theorem dX3_copyFrom_47 : decode cX3_copyFrom 47 = .ok (.iconst 0, 1) := by decide +kernel
theorem dX3_copyFrom_48 : decode cX3_copyFrom 48 = .ok (.istore_n 2, 1) := by decide +kernel
theorem dX3_copyFrom_49 : decode cX3_copyFrom 49 = .ok (.iload_n 2, 1) := by decide +kernel
theorem dX3_copyFrom_50 : decode cX3_copyFrom 50 = .ok (.iconst 5, 1) := by decide +kernel
theorem dX3_copyFrom_51 : decode cX3_copyFrom 51 = .ok (.if_icmp .ge 21, 3) := by decide +kernel
theorem dX3_copyFrom_54 : decode cX3_copyFrom 54 = .ok (.aload_n 0, 1) := by decide +kernel
theorem dX3_copyFrom_55 : decode cX3_copyFrom 55 = .ok (.getfield 40, 3) := by decide +kernel
theorem dX3_copyFrom_58 : decode cX3_copyFrom 58 = .ok (.iload_n 2, 1) := by decide +kernel
theorem dX3_copyFrom_59 : decode cX3_copyFrom 59 = .ok (.aload_n 1, 1) := by decide +kernel
theorem dX3_copyFrom_60 : decode cX3_copyFrom 60 = .ok (.getfield 40, 3) := by decide +kernel
theorem dX3_copyFrom_63 : decode cX3_copyFrom 63 = .ok (.iload_n 2, 1) := by decide +kernel
theorem dX3_copyFrom_64 : decode cX3_copyFrom 64 = .ok (.iaload, 1) := by decide +kernel
theorem dX3_copyFrom_65 : decode cX3_copyFrom 65 = .ok (.iastore, 1) := by decide +kernel
theorem dX3_copyFrom_66 : decode cX3_copyFrom 66 = .ok (.iinc 2 1, 3) := by decide +kernel
theorem dX3_copyFrom_69 : decode cX3_copyFrom 69 = .ok (.goto (-20), 3) := by decide +kernel
theorem dX3_copyFrom_72 : decode cX3_copyFrom 72 = .ok (.aload_n 0, 1) := by decide +kernel
theorem dX3_copyFrom_73 : decode cX3_copyFrom 73 = .ok (.aload_n 1, 1) := by decide +kernel
theorem dX3_copyFrom_74 : decode cX3_copyFrom 74 = .ok (.getfield 50, 3) := by decide +kernel
theorem dX3_copyFrom_77 : decode cX3_copyFrom 77 = .ok (.putfield 50, 3) := by decide +kernel
theorem dX3_copyFrom_80 : decode cX3_copyFrom 80 = .ok (.aload_n 0, 1) := by decide +kernel
theorem dX3_copyFrom_81 : decode cX3_copyFrom 81 = .ok (.aload_n 1, 1) := by decide +kernel
theorem dX3_copyFrom_82 : decode cX3_copyFrom 82 = .ok (.getfield 54, 3) := by decide +kernel
theorem dX3_copyFrom_85 : decode cX3_copyFrom 85 = .ok (.putfield 54, 3) := by decide +kernel
theorem dX3_copyFrom_88 : decode cX3_copyFrom 88 = .ok (.aload_n 0, 1) := by decide +kernel
theorem dX3_copyFrom_89 : decode cX3_copyFrom 89 = .ok (.aload_n 1, 1) := by decide +kernel
theorem dX3_copyFrom_90 : decode cX3_copyFrom 90 = .ok (.getfield 57, 3) := by decide +kernel
theorem dX3_copyFrom_93 : decode cX3_copyFrom 93 = .ok (.putfield 57, 3) := by decide +kernel
theorem dX3_copyFrom_96 : decode cX3_copyFrom 96 = .ok (.aload_n 0, 1) := by decide +kernel
theorem dX3_copyFrom_97 : decode cX3_copyFrom 97 = .ok (.aload_n 1, 1) := by decide +kernel
theorem dX3_copyFrom_98 : decode cX3_copyFrom 98 = .ok (.getfield 60, 3) := by decide +kernel
theorem dX3_copyFrom_101 : decode cX3_copyFrom 101 = .ok (.putfield 60, 3) := by decide +kernel
theorem dX3_copyFrom_104 : decode cX3_copyFrom 104 = .ok (.aload_n 0, 1) := by decide +kernel
theorem dX3_copyFrom_105 : decode cX3_copyFrom 105 = .ok (.aload_n 1, 1) := by decide +kernel
theorem dX3_copyFrom_106 : decode cX3_copyFrom 106 = .ok (.getfield 63, 3) := by decide +kernel
theorem dX3_copyFrom_109 : decode cX3_copyFrom 109 = .ok (.putfield 63, 3) := by decide +kernel
theorem dX3_copyFrom_112 : decode cX3_copyFrom 112 = .ok (.return_, 1) := by decide +kernel
set_option maxRecDepth 20000 in
theorem ggX3_bringLot_X6_isWithin : GoodIn wsX3_bringLot wsX6_isWithin := goodIn_r _ [6] (by decide +kernel) (by decide +kernel)
set_option maxRecDepth 20000 in
theorem gX3_bringLot_X6_isWithin_n66 : GoodIn wsX3_bringLot (wsX6_isWithin) := ggX3_bringLot_X6_isWithin
set_option maxRecDepth 20000 in
theorem ggX3_bringLot_X4_add : GoodIn wsX3_bringLot wsX4_add := goodIn_r _ [11, 12, 13, 14, 15, 16, 17, 18, 19, 20, 21, 10, 22, 32, 33, 34, 35, 36, 37] (by decide +kernel) (by decide +kernel)
set_option maxRecDepth 20000 in
theorem gX3_bringLot_X4_add : GoodIn wsX3_bringLot (wsV RX3 71 RX4 yX4_add wsX4_add) := goodIn_app (goodIn_of _ (by decide +kernel)) ggX3_bringLot_X4_add
theorem dX3_bringLot_0 : decode cX3_bringLot 0 = .ok (.iload_n 1, 1) := by decide +kernel
theorem dX3_bringLot_1 : decode cX3_bringLot 1 = .ok (.iconst 1, 1) := by decide +kernel
theorem dX3_bringLot_2 : decode cX3_bringLot 2 = .ok (.sipush 999, 3) := by decide +kernel
theorem dX3_bringLot_5 : decode cX3_bringLot 5 = .ok (.invokestatic 66, 3) := by decide +kernel
theorem dX3_bringLot_8 : decode cX3_bringLot 8 = .ok (.ifCond .eq 14, 3) := by decide +kernel
theorem dX3_bringLot_11 : decode cX3_bringLot 11 = .ok (.iload_n 2, 1) := by decide +kernel
theorem dX3_bringLot_12 : decode cX3_bringLot 12 = .ok (.bipush 60, 2) := by decide +kernel
theorem dX3_bringLot_14 : decode cX3_bringLot 14 = .ok (.bipush 100, 2) := by decide +kernel
theorem dX3_bringLot_16 : decode cX3_bringLot 16 = .ok (.invokestatic 66, 3) := by decide +kernel
theorem dX3_bringLot_19 : decode cX3_bringLot 19 = .ok (.ifCond .ne 6, 3) := by decide +kernel
theorem dX3_bringLot_22 : decode cX3_bringLot 22 = .ok (.ldc 70, 2) := by decide +kernel
theorem dX3_bringLot_24 : decode cX3_bringLot 24 = .ok (.ireturn, 1) := by decide +kernel
theorem dX3_bringLot_25 : decode cX3_bringLot 25 = .ok (.aload_n 0, 1) := by decide +kernel
theorem dX3_bringLot_26 : decode cX3_bringLot 26 = .ok (.getfield 12, 3) := by decide +kernel
theorem dX3_bringLot_29 : decode cX3_bringLot 29 = .ok (.iload_n 1, 1) := by decide +kernel
theorem dX3_bringLot_30 : decode cX3_bringLot 30 = .ok (.iload_n 2, 1) := by decide +kernel
theorem dX3_bringLot_31 : decode cX3_bringLot 31 = .ok (.aload_n 0, 1) := by decide +kernel
theorem dX3_bringLot_32 : decode cX3_bringLot 32 = .ok (.getfield 50, 3) := by decide +kernel
theorem dX3_bringLot_35 : decode cX3_bringLot 35 = .ok (.invokevirtual 71, 3) := by decide +kernel
theorem dX3_bringLot_38 : decode cX3_bringLot 38 = .ok (.ireturn, 1) := by decide +kernel
set_option maxRecDepth 20000 in
theorem ggX3_partLot_X4_rowOf : GoodIn wsX3_partLot wsX4_rowOf := goodIn_r _ [12, 13, 14, 38, 39, 40, 41, 42, 43] (by decide +kernel) (by decide +kernel)
set_option maxRecDepth 20000 in
theorem gX3_partLot_X4_rowOf : GoodIn wsX3_partLot (wsV RX3 75 RX4 yX4_rowOf wsX4_rowOf) := goodIn_app (goodIn_of _ (by decide +kernel)) ggX3_partLot_X4_rowOf
set_option maxRecDepth 20000 in
theorem ggX3_partLot_X4_isFull : GoodIn wsX3_partLot wsX4_isFull := goodIn_r _ [18, 13, 38, 39, 40, 41, 42, 43] (by decide +kernel) (by decide +kernel)
set_option maxRecDepth 20000 in
theorem gX3_partLot_X4_isFull : GoodIn wsX3_partLot (wsV RX3 83 RX4 yX4_isFull wsX4_isFull) := goodIn_app (goodIn_of _ (by decide +kernel)) ggX3_partLot_X4_isFull
set_option maxRecDepth 20000 in
theorem ggX3_partLot_X4_add : GoodIn wsX3_partLot wsX4_add := goodIn_r _ [22, 23, 14, 13, 24, 25, 26, 27, 28, 16, 17, 11, 18, 38, 39, 40, 41, 42, 43] (by decide +kernel) (by decide +kernel)
set_option maxRecDepth 20000 in
theorem gX3_partLot_X4_add : GoodIn wsX3_partLot (wsV RX3 71 RX4 yX4_add wsX4_add) := goodIn_app (goodIn_of _ (by decide +kernel)) ggX3_partLot_X4_add
theorem dX3_partLot_0 : decode cX3_partLot 0 = .ok (.aload_n 0, 1) := by decide +kernel
theorem dX3_partLot_1 : decode cX3_partLot 1 = .ok (.getfield 12, 3) := by decide +kernel
theorem dX3_partLot_4 : decode cX3_partLot 4 = .ok (.iload_n 1, 1) := by decide +kernel
theorem dX3_partLot_5 : decode cX3_partLot 5 = .ok (.invokevirtual 75, 3) := by decide +kernel
theorem dX3_partLot_8 : decode cX3_partLot 8 = .ok (.istore_n 3, 1) := by decide +kernel
theorem dX3_partLot_9 : decode cX3_partLot 9 = .ok (.iload_n 3, 1) := by decide +kernel
theorem dX3_partLot_10 : decode cX3_partLot 10 = .ok (.ifCond .lt 8, 3) := by decide +kernel
theorem dX3_partLot_13 : decode cX3_partLot 13 = .ok (.iload_n 2, 1) := by decide +kernel
theorem dX3_partLot_14 : decode cX3_partLot 14 = .ok (.iconst 1, 1) := by decide +kernel
theorem dX3_partLot_15 : decode cX3_partLot 15 = .ok (.if_icmp .ge 6, 3) := by decide +kernel
theorem dX3_partLot_18 : decode cX3_partLot 18 = .ok (.ldc 70, 2) := by decide +kernel
theorem dX3_partLot_20 : decode cX3_partLot 20 = .ok (.ireturn, 1) := by decide +kernel
theorem dX3_partLot_21 : decode cX3_partLot 21 = .ok (.aload_n 0, 1) := by decide +kernel
theorem dX3_partLot_22 : decode cX3_partLot 22 = .ok (.getfield 12, 3) := by decide +kernel
theorem dX3_partLot_25 : decode cX3_partLot 25 = .ok (.getfield 79, 3) := by decide +kernel
theorem dX3_partLot_28 : decode cX3_partLot 28 = .ok (.iload_n 3, 1) := by decide +kernel
theorem dX3_partLot_29 : decode cX3_partLot 29 = .ok (.iaload, 1) := by decide +kernel
theorem dX3_partLot_30 : decode cX3_partLot 30 = .ok (.iload_n 2, 1) := by decide +kernel
theorem dX3_partLot_31 : decode cX3_partLot 31 = .ok (.if_icmp .gt 6, 3) := by decide +kernel
theorem dX3_partLot_34 : decode cX3_partLot 34 = .ok (.ldc 82, 2) := by decide +kernel
theorem dX3_partLot_36 : decode cX3_partLot 36 = .ok (.ireturn, 1) := by decide +kernel
theorem dX3_partLot_37 : decode cX3_partLot 37 = .ok (.aload_n 0, 1) := by decide +kernel
theorem dX3_partLot_38 : decode cX3_partLot 38 = .ok (.getfield 12, 3) := by decide +kernel
theorem dX3_partLot_41 : decode cX3_partLot 41 = .ok (.invokevirtual 83, 3) := by decide +kernel
theorem dX3_partLot_44 : decode cX3_partLot 44 = .ok (.ifCond .eq 6, 3) := by decide +kernel
theorem dX3_partLot_47 : decode cX3_partLot 47 = .ok (.ldc 87, 2) := by decide +kernel
theorem dX3_partLot_49 : decode cX3_partLot 49 = .ok (.ireturn, 1) := by decide +kernel
theorem dX3_partLot_50 : decode cX3_partLot 50 = .ok (.aload_n 0, 1) := by decide +kernel
theorem dX3_partLot_51 : decode cX3_partLot 51 = .ok (.getfield 12, 3) := by decide +kernel
theorem dX3_partLot_54 : decode cX3_partLot 54 = .ok (.getfield 79, 3) := by decide +kernel
theorem dX3_partLot_57 : decode cX3_partLot 57 = .ok (.iload_n 3, 1) := by decide +kernel
theorem dX3_partLot_58 : decode cX3_partLot 58 = .ok (.dup2, 1) := by decide +kernel
theorem dX3_partLot_59 : decode cX3_partLot 59 = .ok (.iaload, 1) := by decide +kernel
theorem dX3_partLot_60 : decode cX3_partLot 60 = .ok (.iload_n 2, 1) := by decide +kernel
theorem dX3_partLot_61 : decode cX3_partLot 61 = .ok (.isub, 1) := by decide +kernel
theorem dX3_partLot_62 : decode cX3_partLot 62 = .ok (.iastore, 1) := by decide +kernel
theorem dX3_partLot_63 : decode cX3_partLot 63 = .ok (.aload_n 0, 1) := by decide +kernel
theorem dX3_partLot_64 : decode cX3_partLot 64 = .ok (.getfield 12, 3) := by decide +kernel
theorem dX3_partLot_67 : decode cX3_partLot 67 = .ok (.iload_n 2, 1) := by decide +kernel
theorem dX3_partLot_68 : decode cX3_partLot 68 = .ok (.aload_n 0, 1) := by decide +kernel
theorem dX3_partLot_69 : decode cX3_partLot 69 = .ok (.getfield 12, 3) := by decide +kernel
theorem dX3_partLot_72 : decode cX3_partLot 72 = .ok (.getfield 88, 3) := by decide +kernel
theorem dX3_partLot_75 : decode cX3_partLot 75 = .ok (.iload_n 3, 1) := by decide +kernel
theorem dX3_partLot_76 : decode cX3_partLot 76 = .ok (.iaload, 1) := by decide +kernel
theorem dX3_partLot_77 : decode cX3_partLot 77 = .ok (.aload_n 0, 1) := by decide +kernel
theorem dX3_partLot_78 : decode cX3_partLot 78 = .ok (.getfield 12, 3) := by decide +kernel
theorem dX3_partLot_81 : decode cX3_partLot 81 = .ok (.getfield 91, 3) := by decide +kernel
theorem dX3_partLot_84 : decode cX3_partLot 84 = .ok (.iload_n 3, 1) := by decide +kernel
theorem dX3_partLot_85 : decode cX3_partLot 85 = .ok (.iaload, 1) := by decide +kernel
theorem dX3_partLot_86 : decode cX3_partLot 86 = .ok (.invokevirtual 71, 3) := by decide +kernel
theorem dX3_partLot_89 : decode cX3_partLot 89 = .ok (.ireturn, 1) := by decide +kernel
set_option maxRecDepth 20000 in
theorem ggX3_blendLots_X4_rowOf : GoodIn wsX3_blendLots wsX4_rowOf := goodIn_r _ [11, 12, 13, 45, 46, 47, 48, 49, 50] (by decide +kernel) (by decide +kernel)
set_option maxRecDepth 20000 in
theorem gX3_blendLots_X4_rowOf : GoodIn wsX3_blendLots (wsV RX3 75 RX4 yX4_rowOf wsX4_rowOf) := goodIn_app (goodIn_of _ (by decide +kernel)) ggX3_blendLots_X4_rowOf
set_option maxRecDepth 20000 in
theorem ggX3_blendLots_X4_isFull : GoodIn wsX3_blendLots wsX4_isFull := goodIn_r _ [17, 12, 45, 46, 47, 48, 49, 50] (by decide +kernel) (by decide +kernel)
set_option maxRecDepth 20000 in
theorem gX3_blendLots_X4_isFull : GoodIn wsX3_blendLots (wsV RX3 83 RX4 yX4_isFull wsX4_isFull) := goodIn_app (goodIn_of _ (by decide +kernel)) ggX3_blendLots_X4_isFull
set_option maxRecDepth 20000 in
theorem ggX3_blendLots_X4_cupAt : GoodIn wsX3_blendLots wsX4_cupAt := goodIn_r _ [21, 22, 23, 45, 46, 47, 48, 49, 50] (by decide +kernel) (by decide +kernel)
set_option maxRecDepth 20000 in
theorem gX3_blendLots_X4_cupAt : GoodIn wsX3_blendLots (wsV RX3 94 RX4 yX4_cupAt wsX4_cupAt) := goodIn_app (goodIn_of _ (by decide +kernel)) ggX3_blendLots_X4_cupAt
set_option maxRecDepth 20000 in
theorem ggX3_blendLots_X4_dropEmpty : GoodIn wsX3_blendLots wsX4_dropEmpty := goodIn_r _ [27, 12, 28, 13, 22, 23, 45, 46, 47, 48, 49, 50] (by decide +kernel) (by decide +kernel)
set_option maxRecDepth 20000 in
theorem gX3_blendLots_X4_dropEmpty : GoodIn wsX3_blendLots (wsV RX3 98 RX4 yX4_dropEmpty wsX4_dropEmpty) := goodIn_app (goodIn_of _ (by decide +kernel)) ggX3_blendLots_X4_dropEmpty
set_option maxRecDepth 20000 in
theorem ggX3_blendLots_X4_add : GoodIn wsX3_blendLots wsX4_add := goodIn_r _ [32, 33, 13, 12, 34, 28, 22, 23, 35, 15, 16, 10, 17, 45, 46, 47, 48, 49, 50] (by decide +kernel) (by decide +kernel)
set_option maxRecDepth 20000 in
theorem gX3_blendLots_X4_add : GoodIn wsX3_blendLots (wsV RX3 71 RX4 yX4_add wsX4_add) := goodIn_app (goodIn_of _ (by decide +kernel)) ggX3_blendLots_X4_add
theorem dX3_blendLots_0 : decode cX3_blendLots 0 = .ok (.aload_n 0, 1) := by decide +kernel
theorem dX3_blendLots_1 : decode cX3_blendLots 1 = .ok (.getfield 12, 3) := by decide +kernel
theorem dX3_blendLots_4 : decode cX3_blendLots 4 = .ok (.iload_n 1, 1) := by decide +kernel
theorem dX3_blendLots_5 : decode cX3_blendLots 5 = .ok (.invokevirtual 75, 3) := by decide +kernel
theorem dX3_blendLots_8 : decode cX3_blendLots 8 = .ok (.istore 5, 2) := by decide +kernel
theorem dX3_blendLots_10 : decode cX3_blendLots 10 = .ok (.aload_n 0, 1) := by decide +kernel
theorem dX3_blendLots_11 : decode cX3_blendLots 11 = .ok (.getfield 12, 3) := by decide +kernel
theorem dX3_blendLots_14 : decode cX3_blendLots 14 = .ok (.iload_n 3, 1) := by decide +kernel
theorem dX3_blendLots_15 : decode cX3_blendLots 15 = .ok (.invokevirtual 75, 3) := by decide +kernel
theorem dX3_blendLots_18 : decode cX3_blendLots 18 = .ok (.istore 6, 2) := by decide +kernel
theorem dX3_blendLots_20 : decode cX3_blendLots 20 = .ok (.iload 5, 2) := by decide +kernel
theorem dX3_blendLots_22 : decode cX3_blendLots 22 = .ok (.ifCond .lt 26, 3) := by decide +kernel
theorem dX3_blendLots_25 : decode cX3_blendLots 25 = .ok (.iload 6, 2) := by decide +kernel
theorem dX3_blendLots_27 : decode cX3_blendLots 27 = .ok (.ifCond .lt 21, 3) := by decide +kernel
theorem dX3_blendLots_30 : decode cX3_blendLots 30 = .ok (.iload 5, 2) := by decide +kernel
theorem dX3_blendLots_32 : decode cX3_blendLots 32 = .ok (.iload 6, 2) := by decide +kernel
theorem dX3_blendLots_34 : decode cX3_blendLots 34 = .ok (.if_icmp .eq 14, 3) := by decide +kernel
theorem dX3_blendLots_37 : decode cX3_blendLots 37 = .ok (.iload_n 2, 1) := by decide +kernel
theorem dX3_blendLots_38 : decode cX3_blendLots 38 = .ok (.iconst 1, 1) := by decide +kernel
theorem dX3_blendLots_39 : decode cX3_blendLots 39 = .ok (.if_icmp .lt 9, 3) := by decide +kernel
theorem dX3_blendLots_42 : decode cX3_blendLots 42 = .ok (.iload 4, 2) := by decide +kernel
theorem dX3_blendLots_44 : decode cX3_blendLots 44 = .ok (.iconst 1, 1) := by decide +kernel
theorem dX3_blendLots_45 : decode cX3_blendLots 45 = .ok (.if_icmp .ge 6, 3) := by decide +kernel
theorem dX3_blendLots_48 : decode cX3_blendLots 48 = .ok (.ldc 70, 2) := by decide +kernel
theorem dX3_blendLots_50 : decode cX3_blendLots 50 = .ok (.ireturn, 1) := by decide +kernel
theorem dX3_blendLots_51 : decode cX3_blendLots 51 = .ok (.iload_n 2, 1) := by decide +kernel
theorem dX3_blendLots_52 : decode cX3_blendLots 52 = .ok (.aload_n 0, 1) := by decide +kernel
theorem dX3_blendLots_53 : decode cX3_blendLots 53 = .ok (.getfield 12, 3) := by decide +kernel
theorem dX3_blendLots_56 : decode cX3_blendLots 56 = .ok (.getfield 79, 3) := by decide +kernel
theorem dX3_blendLots_59 : decode cX3_blendLots 59 = .ok (.iload 5, 2) := by decide +kernel
theorem dX3_blendLots_61 : decode cX3_blendLots 61 = .ok (.iaload, 1) := by decide +kernel
theorem dX3_blendLots_62 : decode cX3_blendLots 62 = .ok (.if_icmp .gt 18, 3) := by decide +kernel
theorem dX3_blendLots_65 : decode cX3_blendLots 65 = .ok (.iload 4, 2) := by decide +kernel
theorem dX3_blendLots_67 : decode cX3_blendLots 67 = .ok (.aload_n 0, 1) := by decide +kernel
theorem dX3_blendLots_68 : decode cX3_blendLots 68 = .ok (.getfield 12, 3) := by decide +kernel
theorem dX3_blendLots_71 : decode cX3_blendLots 71 = .ok (.getfield 79, 3) := by decide +kernel
theorem dX3_blendLots_74 : decode cX3_blendLots 74 = .ok (.iload 6, 2) := by decide +kernel
theorem dX3_blendLots_76 : decode cX3_blendLots 76 = .ok (.iaload, 1) := by decide +kernel
theorem dX3_blendLots_77 : decode cX3_blendLots 77 = .ok (.if_icmp .le 6, 3) := by decide +kernel
theorem dX3_blendLots_80 : decode cX3_blendLots 80 = .ok (.ldc 82, 2) := by decide +kernel
theorem dX3_blendLots_82 : decode cX3_blendLots 82 = .ok (.ireturn, 1) := by decide +kernel
theorem dX3_blendLots_83 : decode cX3_blendLots 83 = .ok (.iload_n 2, 1) := by decide +kernel
theorem dX3_blendLots_84 : decode cX3_blendLots 84 = .ok (.iload 4, 2) := by decide +kernel
theorem dX3_blendLots_86 : decode cX3_blendLots 86 = .ok (.iadd, 1) := by decide +kernel
theorem dX3_blendLots_87 : decode cX3_blendLots 87 = .ok (.istore 7, 2) := by decide +kernel
theorem dX3_blendLots_89 : decode cX3_blendLots 89 = .ok (.iload_n 2, 1) := by decide +kernel
theorem dX3_blendLots_90 : decode cX3_blendLots 90 = .ok (.aload_n 0, 1) := by decide +kernel
theorem dX3_blendLots_91 : decode cX3_blendLots 91 = .ok (.getfield 12, 3) := by decide +kernel
theorem dX3_blendLots_94 : decode cX3_blendLots 94 = .ok (.getfield 79, 3) := by decide +kernel
theorem dX3_blendLots_97 : decode cX3_blendLots 97 = .ok (.iload 5, 2) := by decide +kernel
theorem dX3_blendLots_99 : decode cX3_blendLots 99 = .ok (.iaload, 1) := by decide +kernel
theorem dX3_blendLots_100 : decode cX3_blendLots 100 = .ok (.if_icmp .ne 7, 3) := by decide +kernel
theorem dX3_blendLots_103 : decode cX3_blendLots 103 = .ok (.iconst 1, 1) := by decide +kernel
theorem dX3_blendLots_104 : decode cX3_blendLots 104 = .ok (.goto 4, 3) := by decide +kernel
theorem dX3_blendLots_107 : decode cX3_blendLots 107 = .ok (.iconst 0, 1) := by decide +kernel
theorem dX3_blendLots_108 : decode cX3_blendLots 108 = .ok (.istore 8, 2) := by decide +kernel
theorem dX3_blendLots_110 : decode cX3_blendLots 110 = .ok (.iload 4, 2) := by decide +kernel
theorem dX3_blendLots_112 : decode cX3_blendLots 112 = .ok (.aload_n 0, 1) := by decide +kernel
theorem dX3_blendLots_113 : decode cX3_blendLots 113 = .ok (.getfield 12, 3) := by decide +kernel
theorem dX3_blendLots_116 : decode cX3_blendLots 116 = .ok (.getfield 79, 3) := by decide +kernel
theorem dX3_blendLots_119 : decode cX3_blendLots 119 = .ok (.iload 6, 2) := by decide +kernel
theorem dX3_blendLots_121 : decode cX3_blendLots 121 = .ok (.iaload, 1) := by decide +kernel
theorem dX3_blendLots_122 : decode cX3_blendLots 122 = .ok (.if_icmp .ne 7, 3) := by decide +kernel
theorem dX3_blendLots_125 : decode cX3_blendLots 125 = .ok (.iconst 1, 1) := by decide +kernel
theorem dX3_blendLots_126 : decode cX3_blendLots 126 = .ok (.goto 4, 3) := by decide +kernel
theorem dX3_blendLots_129 : decode cX3_blendLots 129 = .ok (.iconst 0, 1) := by decide +kernel
theorem dX3_blendLots_130 : decode cX3_blendLots 130 = .ok (.istore 9, 2) := by decide +kernel
theorem dX3_blendLots_132 : decode cX3_blendLots 132 = .ok (.iload 7, 2) := by decide +kernel
theorem dX3_blendLots_134 : decode cX3_blendLots 134 = .ok (.sipush 9999, 3) := by decide +kernel
theorem dX3_blendLots_137 : decode cX3_blendLots 137 = .ok (.if_icmp .gt 23, 3) := by decide +kernel
theorem dX3_blendLots_140 : decode cX3_blendLots 140 = .ok (.aload_n 0, 1) := by decide +kernel
theorem dX3_blendLots_141 : decode cX3_blendLots 141 = .ok (.getfield 12, 3) := by decide +kernel
theorem dX3_blendLots_144 : decode cX3_blendLots 144 = .ok (.invokevirtual 83, 3) := by decide +kernel
theorem dX3_blendLots_147 : decode cX3_blendLots 147 = .ok (.ifCond .eq 16, 3) := by decide +kernel
theorem dX3_blendLots_150 : decode cX3_blendLots 150 = .ok (.iload 8, 2) := by decide +kernel
theorem dX3_blendLots_152 : decode cX3_blendLots 152 = .ok (.ifCond .ne 11, 3) := by decide +kernel
theorem dX3_blendLots_155 : decode cX3_blendLots 155 = .ok (.iload 9, 2) := by decide +kernel
theorem dX3_blendLots_157 : decode cX3_blendLots 157 = .ok (.ifCond .ne 6, 3) := by decide +kernel
theorem dX3_blendLots_160 : decode cX3_blendLots 160 = .ok (.ldc 87, 2) := by decide +kernel
theorem dX3_blendLots_162 : decode cX3_blendLots 162 = .ok (.ireturn, 1) := by decide +kernel
theorem dX3_blendLots_163 : decode cX3_blendLots 163 = .ok (.iload_n 2, 1) := by decide +kernel
theorem dX3_blendLots_164 : decode cX3_blendLots 164 = .ok (.aload_n 0, 1) := by decide +kernel
theorem dX3_blendLots_165 : decode cX3_blendLots 165 = .ok (.getfield 12, 3) := by decide +kernel
theorem dX3_blendLots_168 : decode cX3_blendLots 168 = .ok (.iload 5, 2) := by decide +kernel
theorem dX3_blendLots_170 : decode cX3_blendLots 170 = .ok (.aload_n 0, 1) := by decide +kernel
theorem dX3_blendLots_171 : decode cX3_blendLots 171 = .ok (.getfield 50, 3) := by decide +kernel
theorem dX3_blendLots_174 : decode cX3_blendLots 174 = .ok (.invokevirtual 94, 3) := by decide +kernel
theorem dX3_blendLots_177 : decode cX3_blendLots 177 = .ok (.imul, 1) := by decide +kernel
theorem dX3_blendLots_178 : decode cX3_blendLots 178 = .ok (.iload 4, 2) := by decide +kernel
theorem dX3_blendLots_180 : decode cX3_blendLots 180 = .ok (.aload_n 0, 1) := by decide +kernel
theorem dX3_blendLots_181 : decode cX3_blendLots 181 = .ok (.getfield 12, 3) := by decide +kernel
theorem dX3_blendLots_184 : decode cX3_blendLots 184 = .ok (.iload 6, 2) := by decide +kernel
theorem dX3_blendLots_186 : decode cX3_blendLots 186 = .ok (.aload_n 0, 1) := by decide +kernel
theorem dX3_blendLots_187 : decode cX3_blendLots 187 = .ok (.getfield 50, 3) := by decide +kernel
theorem dX3_blendLots_190 : decode cX3_blendLots 190 = .ok (.invokevirtual 94, 3) := by decide +kernel
theorem dX3_blendLots_193 : decode cX3_blendLots 193 = .ok (.imul, 1) := by decide +kernel
theorem dX3_blendLots_194 : decode cX3_blendLots 194 = .ok (.iadd, 1) := by decide +kernel
theorem dX3_blendLots_195 : decode cX3_blendLots 195 = .ok (.istore 10, 2) := by decide +kernel
theorem dX3_blendLots_197 : decode cX3_blendLots 197 = .ok (.aload_n 0, 1) := by decide +kernel
theorem dX3_blendLots_198 : decode cX3_blendLots 198 = .ok (.getfield 12, 3) := by decide +kernel
theorem dX3_blendLots_201 : decode cX3_blendLots 201 = .ok (.getfield 79, 3) := by decide +kernel
theorem dX3_blendLots_204 : decode cX3_blendLots 204 = .ok (.iload 5, 2) := by decide +kernel
theorem dX3_blendLots_206 : decode cX3_blendLots 206 = .ok (.dup2, 1) := by decide +kernel
theorem dX3_blendLots_207 : decode cX3_blendLots 207 = .ok (.iaload, 1) := by decide +kernel
theorem dX3_blendLots_208 : decode cX3_blendLots 208 = .ok (.iload_n 2, 1) := by decide +kernel
theorem dX3_blendLots_209 : decode cX3_blendLots 209 = .ok (.isub, 1) := by decide +kernel
theorem dX3_blendLots_210 : decode cX3_blendLots 210 = .ok (.iastore, 1) := by decide +kernel
theorem dX3_blendLots_211 : decode cX3_blendLots 211 = .ok (.aload_n 0, 1) := by decide +kernel
theorem dX3_blendLots_212 : decode cX3_blendLots 212 = .ok (.getfield 12, 3) := by decide +kernel
theorem dX3_blendLots_215 : decode cX3_blendLots 215 = .ok (.getfield 79, 3) := by decide +kernel
theorem dX3_blendLots_218 : decode cX3_blendLots 218 = .ok (.iload 6, 2) := by decide +kernel
theorem dX3_blendLots_220 : decode cX3_blendLots 220 = .ok (.dup2, 1) := by decide +kernel
theorem dX3_blendLots_221 : decode cX3_blendLots 221 = .ok (.iaload, 1) := by decide +kernel
theorem dX3_blendLots_222 : decode cX3_blendLots 222 = .ok (.iload 4, 2) := by decide +kernel
theorem dX3_blendLots_224 : decode cX3_blendLots 224 = .ok (.isub, 1) := by decide +kernel
theorem dX3_blendLots_225 : decode cX3_blendLots 225 = .ok (.iastore, 1) := by decide +kernel
theorem dX3_blendLots_226 : decode cX3_blendLots 226 = .ok (.aload_n 0, 1) := by decide +kernel
theorem dX3_blendLots_227 : decode cX3_blendLots 227 = .ok (.getfield 12, 3) := by decide +kernel
theorem dX3_blendLots_230 : decode cX3_blendLots 230 = .ok (.invokevirtual 98, 3) := by decide +kernel
theorem dX3_blendLots_233 : decode cX3_blendLots 233 = .ok (.aload_n 0, 1) := by decide +kernel
theorem dX3_blendLots_234 : decode cX3_blendLots 234 = .ok (.getfield 12, 3) := by decide +kernel
theorem dX3_blendLots_237 : decode cX3_blendLots 237 = .ok (.iload 7, 2) := by decide +kernel
theorem dX3_blendLots_239 : decode cX3_blendLots 239 = .ok (.iload 10, 2) := by decide +kernel
theorem dX3_blendLots_241 : decode cX3_blendLots 241 = .ok (.iload 7, 2) := by decide +kernel
theorem dX3_blendLots_243 : decode cX3_blendLots 243 = .ok (.idiv, 1) := by decide +kernel
theorem dX3_blendLots_244 : decode cX3_blendLots 244 = .ok (.aload_n 0, 1) := by decide +kernel
theorem dX3_blendLots_245 : decode cX3_blendLots 245 = .ok (.getfield 50, 3) := by decide +kernel
theorem dX3_blendLots_248 : decode cX3_blendLots 248 = .ok (.invokevirtual 71, 3) := by decide +kernel
theorem dX3_blendLots_251 : decode cX3_blendLots 251 = .ok (.ireturn, 1) := by decide +kernel
set_option maxRecDepth 20000 in
theorem ggX3_cupAnew_X4_rowOf : GoodIn wsX3_cupAnew wsX4_rowOf := goodIn_r _ [12, 13, 14, 30, 31, 32, 33, 34, 35] (by decide +kernel) (by decide +kernel)
set_option maxRecDepth 20000 in
theorem gX3_cupAnew_X4_rowOf : GoodIn wsX3_cupAnew (wsV RX3 75 RX4 yX4_rowOf wsX4_rowOf) := goodIn_app (goodIn_of _ (by decide +kernel)) ggX3_cupAnew_X4_rowOf
set_option maxRecDepth 20000 in
theorem ggX3_cupAnew_X4_cupAt : GoodIn wsX3_cupAnew wsX4_cupAt := goodIn_r _ [18, 19, 20, 30, 31, 32, 33, 34, 35] (by decide +kernel) (by decide +kernel)
set_option maxRecDepth 20000 in
theorem gX3_cupAnew_X4_cupAt : GoodIn wsX3_cupAnew (wsV RX3 94 RX4 yX4_cupAt wsX4_cupAt) := goodIn_app (goodIn_of _ (by decide +kernel)) ggX3_cupAnew_X4_cupAt
theorem dX3_cupAnew_0 : decode cX3_cupAnew 0 = .ok (.aload_n 0, 1) := by decide +kernel
theorem dX3_cupAnew_1 : decode cX3_cupAnew 1 = .ok (.getfield 12, 3) := by decide +kernel
theorem dX3_cupAnew_4 : decode cX3_cupAnew 4 = .ok (.iload_n 1, 1) := by decide +kernel
theorem dX3_cupAnew_5 : decode cX3_cupAnew 5 = .ok (.invokevirtual 75, 3) := by decide +kernel
theorem dX3_cupAnew_8 : decode cX3_cupAnew 8 = .ok (.istore_n 2, 1) := by decide +kernel
theorem dX3_cupAnew_9 : decode cX3_cupAnew 9 = .ok (.iload_n 2, 1) := by decide +kernel
theorem dX3_cupAnew_10 : decode cX3_cupAnew 10 = .ok (.ifCond .ge 6, 3) := by decide +kernel
theorem dX3_cupAnew_13 : decode cX3_cupAnew 13 = .ok (.ldc 70, 2) := by decide +kernel
theorem dX3_cupAnew_15 : decode cX3_cupAnew 15 = .ok (.ireturn, 1) := by decide +kernel
theorem dX3_cupAnew_16 : decode cX3_cupAnew 16 = .ok (.aload_n 0, 1) := by decide +kernel
theorem dX3_cupAnew_17 : decode cX3_cupAnew 17 = .ok (.getfield 12, 3) := by decide +kernel
theorem dX3_cupAnew_20 : decode cX3_cupAnew 20 = .ok (.getfield 79, 3) := by decide +kernel
theorem dX3_cupAnew_23 : decode cX3_cupAnew 23 = .ok (.iload_n 2, 1) := by decide +kernel
theorem dX3_cupAnew_24 : decode cX3_cupAnew 24 = .ok (.iaload, 1) := by decide +kernel
theorem dX3_cupAnew_25 : decode cX3_cupAnew 25 = .ok (.iconst 1, 1) := by decide +kernel
theorem dX3_cupAnew_26 : decode cX3_cupAnew 26 = .ok (.if_icmp .gt 6, 3) := by decide +kernel
theorem dX3_cupAnew_29 : decode cX3_cupAnew 29 = .ok (.ldc 82, 2) := by decide +kernel
theorem dX3_cupAnew_31 : decode cX3_cupAnew 31 = .ok (.ireturn, 1) := by decide +kernel
theorem dX3_cupAnew_32 : decode cX3_cupAnew 32 = .ok (.aload_n 0, 1) := by decide +kernel
theorem dX3_cupAnew_33 : decode cX3_cupAnew 33 = .ok (.getfield 12, 3) := by decide +kernel
theorem dX3_cupAnew_36 : decode cX3_cupAnew 36 = .ok (.getfield 79, 3) := by decide +kernel
theorem dX3_cupAnew_39 : decode cX3_cupAnew 39 = .ok (.iload_n 2, 1) := by decide +kernel
theorem dX3_cupAnew_40 : decode cX3_cupAnew 40 = .ok (.dup2, 1) := by decide +kernel
theorem dX3_cupAnew_41 : decode cX3_cupAnew 41 = .ok (.iaload, 1) := by decide +kernel
theorem dX3_cupAnew_42 : decode cX3_cupAnew 42 = .ok (.iconst 1, 1) := by decide +kernel
theorem dX3_cupAnew_43 : decode cX3_cupAnew 43 = .ok (.isub, 1) := by decide +kernel
theorem dX3_cupAnew_44 : decode cX3_cupAnew 44 = .ok (.iastore, 1) := by decide +kernel
theorem dX3_cupAnew_45 : decode cX3_cupAnew 45 = .ok (.aload_n 0, 1) := by decide +kernel
theorem dX3_cupAnew_46 : decode cX3_cupAnew 46 = .ok (.getfield 12, 3) := by decide +kernel
theorem dX3_cupAnew_49 : decode cX3_cupAnew 49 = .ok (.getfield 88, 3) := by decide +kernel
theorem dX3_cupAnew_52 : decode cX3_cupAnew 52 = .ok (.iload_n 2, 1) := by decide +kernel
theorem dX3_cupAnew_53 : decode cX3_cupAnew 53 = .ok (.aload_n 0, 1) := by decide +kernel
theorem dX3_cupAnew_54 : decode cX3_cupAnew 54 = .ok (.getfield 12, 3) := by decide +kernel
theorem dX3_cupAnew_57 : decode cX3_cupAnew 57 = .ok (.iload_n 2, 1) := by decide +kernel
theorem dX3_cupAnew_58 : decode cX3_cupAnew 58 = .ok (.aload_n 0, 1) := by decide +kernel
theorem dX3_cupAnew_59 : decode cX3_cupAnew 59 = .ok (.getfield 50, 3) := by decide +kernel
theorem dX3_cupAnew_62 : decode cX3_cupAnew 62 = .ok (.invokevirtual 94, 3) := by decide +kernel
theorem dX3_cupAnew_65 : decode cX3_cupAnew 65 = .ok (.iastore, 1) := by decide +kernel
theorem dX3_cupAnew_66 : decode cX3_cupAnew 66 = .ok (.aload_n 0, 1) := by decide +kernel
theorem dX3_cupAnew_67 : decode cX3_cupAnew 67 = .ok (.getfield 12, 3) := by decide +kernel
theorem dX3_cupAnew_70 : decode cX3_cupAnew 70 = .ok (.getfield 91, 3) := by decide +kernel
theorem dX3_cupAnew_73 : decode cX3_cupAnew 73 = .ok (.iload_n 2, 1) := by decide +kernel
theorem dX3_cupAnew_74 : decode cX3_cupAnew 74 = .ok (.aload_n 0, 1) := by decide +kernel
theorem dX3_cupAnew_75 : decode cX3_cupAnew 75 = .ok (.getfield 50, 3) := by decide +kernel
theorem dX3_cupAnew_78 : decode cX3_cupAnew 78 = .ok (.iastore, 1) := by decide +kernel
theorem dX3_cupAnew_79 : decode cX3_cupAnew 79 = .ok (.aload_n 0, 1) := by decide +kernel
theorem dX3_cupAnew_80 : decode cX3_cupAnew 80 = .ok (.getfield 12, 3) := by decide +kernel
theorem dX3_cupAnew_83 : decode cX3_cupAnew 83 = .ok (.getfield 88, 3) := by decide +kernel
theorem dX3_cupAnew_86 : decode cX3_cupAnew 86 = .ok (.iload_n 2, 1) := by decide +kernel
theorem dX3_cupAnew_87 : decode cX3_cupAnew 87 = .ok (.iaload, 1) := by decide +kernel
theorem dX3_cupAnew_88 : decode cX3_cupAnew 88 = .ok (.ireturn, 1) := by decide +kernel
set_option maxRecDepth 20000 in
theorem ggX3_changeWorth_X6_isWithin : GoodIn wsX3_changeWorth wsX6_isWithin := goodIn_r _ [5] (by decide +kernel) (by decide +kernel)
set_option maxRecDepth 20000 in
theorem gX3_changeWorth_X6_isWithin_n66 : GoodIn wsX3_changeWorth (wsX6_isWithin) := ggX3_changeWorth_X6_isWithin
theorem dX3_changeWorth_0 : decode cX3_changeWorth 0 = .ok (.iload_n 1, 1) := by decide +kernel
theorem dX3_changeWorth_1 : decode cX3_changeWorth 1 = .ok (.iconst 0, 1) := by decide +kernel
theorem dX3_changeWorth_2 : decode cX3_changeWorth 2 = .ok (.iconst 3, 1) := by decide +kernel
theorem dX3_changeWorth_3 : decode cX3_changeWorth 3 = .ok (.invokestatic 66, 3) := by decide +kernel
theorem dX3_changeWorth_6 : decode cX3_changeWorth 6 = .ok (.ifCond .eq 14, 3) := by decide +kernel
theorem dX3_changeWorth_9 : decode cX3_changeWorth 9 = .ok (.iload_n 2, 1) := by decide +kernel
theorem dX3_changeWorth_10 : decode cX3_changeWorth 10 = .ok (.iconst 1, 1) := by decide +kernel
theorem dX3_changeWorth_11 : decode cX3_changeWorth 11 = .ok (.sipush 999, 3) := by decide +kernel
theorem dX3_changeWorth_14 : decode cX3_changeWorth 14 = .ok (.invokestatic 66, 3) := by decide +kernel
theorem dX3_changeWorth_17 : decode cX3_changeWorth 17 = .ok (.ifCond .ne 6, 3) := by decide +kernel
theorem dX3_changeWorth_20 : decode cX3_changeWorth 20 = .ok (.ldc 70, 2) := by decide +kernel
theorem dX3_changeWorth_22 : decode cX3_changeWorth 22 = .ok (.ireturn, 1) := by decide +kernel
theorem dX3_changeWorth_23 : decode cX3_changeWorth 23 = .ok (.aload_n 0, 1) := by decide +kernel
theorem dX3_changeWorth_24 : decode cX3_changeWorth 24 = .ok (.getfield 34, 3) := by decide +kernel
theorem dX3_changeWorth_27 : decode cX3_changeWorth 27 = .ok (.iload_n 1, 1) := by decide +kernel
theorem dX3_changeWorth_28 : decode cX3_changeWorth 28 = .ok (.iaload, 1) := by decide +kernel
theorem dX3_changeWorth_29 : decode cX3_changeWorth 29 = .ok (.istore_n 3, 1) := by decide +kernel
theorem dX3_changeWorth_30 : decode cX3_changeWorth 30 = .ok (.aload_n 0, 1) := by decide +kernel
theorem dX3_changeWorth_31 : decode cX3_changeWorth 31 = .ok (.getfield 34, 3) := by decide +kernel
theorem dX3_changeWorth_34 : decode cX3_changeWorth 34 = .ok (.iload_n 1, 1) := by decide +kernel
theorem dX3_changeWorth_35 : decode cX3_changeWorth 35 = .ok (.iload_n 2, 1) := by decide +kernel
theorem dX3_changeWorth_36 : decode cX3_changeWorth 36 = .ok (.iastore, 1) := by decide +kernel
theorem dX3_changeWorth_37 : decode cX3_changeWorth 37 = .ok (.iload_n 3, 1) := by decide +kernel
theorem dX3_changeWorth_38 : decode cX3_changeWorth 38 = .ok (.ireturn, 1) := by decide +kernel
set_option maxRecDepth 20000 in
theorem ggX3_sellContract_X6_isWithin : GoodIn wsX3_sellContract wsX6_isWithin := goodIn_r _ [7] (by decide +kernel) (by decide +kernel)
set_option maxRecDepth 20000 in
theorem gX3_sellContract_X6_isWithin_n66 : GoodIn wsX3_sellContract (wsX6_isWithin) := ggX3_sellContract_X6_isWithin
set_option maxRecDepth 20000 in
theorem ggX3_sellContract_X3_isDeliveryMonth : GoodIn wsX3_sellContract wsX3_isDeliveryMonth := goodIn_r _ [12, 13, 14, 15, 16, 17, 27, 28, 29, 30, 31, 32, 33, 34, 35] (by decide +kernel) (by decide +kernel)
set_option maxRecDepth 20000 in
theorem gX3_sellContract_X3_isDeliveryMonth : GoodIn wsX3_sellContract (wsV RX3 101 RX3 yX3_isDeliveryMonth wsX3_isDeliveryMonth) := goodIn_app (goodIn_of _ (by decide +kernel)) ggX3_sellContract_X3_isDeliveryMonth
set_option maxRecDepth 20000 in
theorem ggX3_sellContract_X0_add : GoodIn wsX3_sellContract wsX0_add := goodIn_r _ [22, 23, 24, 25, 26, 36, 37, 38] (by decide +kernel) (by decide +kernel)
set_option maxRecDepth 20000 in
theorem gX3_sellContract_X0_add : GoodIn wsX3_sellContract (wsV RX3 105 RX0 yX0_add wsX0_add) := goodIn_app (goodIn_of _ (by decide +kernel)) ggX3_sellContract_X0_add
theorem dX3_sellContract_0 : decode cX3_sellContract 0 = .ok (.iload_n 1, 1) := by decide +kernel
theorem dX3_sellContract_1 : decode cX3_sellContract 1 = .ok (.iconst 0, 1) := by decide +kernel
theorem dX3_sellContract_2 : decode cX3_sellContract 2 = .ok (.sipush 999, 3) := by decide +kernel
theorem dX3_sellContract_5 : decode cX3_sellContract 5 = .ok (.invokestatic 66, 3) := by decide +kernel
theorem dX3_sellContract_8 : decode cX3_sellContract 8 = .ok (.ifCond .eq 14, 3) := by decide +kernel
theorem dX3_sellContract_11 : decode cX3_sellContract 11 = .ok (.iload_n 2, 1) := by decide +kernel
theorem dX3_sellContract_12 : decode cX3_sellContract 12 = .ok (.iconst 1, 1) := by decide +kernel
theorem dX3_sellContract_13 : decode cX3_sellContract 13 = .ok (.sipush 999, 3) := by decide +kernel
theorem dX3_sellContract_16 : decode cX3_sellContract 16 = .ok (.invokestatic 66, 3) := by decide +kernel
theorem dX3_sellContract_19 : decode cX3_sellContract 19 = .ok (.ifCond .ne 6, 3) := by decide +kernel
theorem dX3_sellContract_22 : decode cX3_sellContract 22 = .ok (.ldc 70, 2) := by decide +kernel
theorem dX3_sellContract_24 : decode cX3_sellContract 24 = .ok (.ireturn, 1) := by decide +kernel
theorem dX3_sellContract_25 : decode cX3_sellContract 25 = .ok (.iload_n 1, 1) := by decide +kernel
theorem dX3_sellContract_26 : decode cX3_sellContract 26 = .ok (.aload_n 0, 1) := by decide +kernel
theorem dX3_sellContract_27 : decode cX3_sellContract 27 = .ok (.getfield 50, 3) := by decide +kernel
theorem dX3_sellContract_30 : decode cX3_sellContract 30 = .ok (.if_icmp .lt 11, 3) := by decide +kernel
theorem dX3_sellContract_33 : decode cX3_sellContract 33 = .ok (.aload_n 0, 1) := by decide +kernel
theorem dX3_sellContract_34 : decode cX3_sellContract 34 = .ok (.iload_n 1, 1) := by decide +kernel
theorem dX3_sellContract_35 : decode cX3_sellContract 35 = .ok (.invokevirtual 101, 3) := by decide +kernel
theorem dX3_sellContract_38 : decode cX3_sellContract 38 = .ok (.ifCond .ne 6, 3) := by decide +kernel
theorem dX3_sellContract_41 : decode cX3_sellContract 41 = .ok (.ldc 82, 2) := by decide +kernel
theorem dX3_sellContract_43 : decode cX3_sellContract 43 = .ok (.ireturn, 1) := by decide +kernel
theorem dX3_sellContract_44 : decode cX3_sellContract 44 = .ok (.aload_n 0, 1) := by decide +kernel
theorem dX3_sellContract_45 : decode cX3_sellContract 45 = .ok (.getfield 21, 3) := by decide +kernel
theorem dX3_sellContract_48 : decode cX3_sellContract 48 = .ok (.iload_n 1, 1) := by decide +kernel
theorem dX3_sellContract_49 : decode cX3_sellContract 49 = .ok (.iload_n 2, 1) := by decide +kernel
theorem dX3_sellContract_50 : decode cX3_sellContract 50 = .ok (.invokevirtual 105, 3) := by decide +kernel
theorem dX3_sellContract_53 : decode cX3_sellContract 53 = .ok (.ireturn, 1) := by decide +kernel
set_option maxRecDepth 20000 in
theorem ggX3_buyContractBack_X0_isOpen : GoodIn wsX3_buyContractBack wsX0_isOpen := goodIn_r _ [10, 11, 31, 32, 33] (by decide +kernel) (by decide +kernel)
set_option maxRecDepth 20000 in
theorem gX3_buyContractBack_X0_isOpen : GoodIn wsX3_buyContractBack (wsV RX3 107 RX0 yX0_isOpen wsX0_isOpen) := goodIn_app (goodIn_of _ (by decide +kernel)) ggX3_buyContractBack_X0_isOpen
set_option maxRecDepth 20000 in
theorem ggX3_buyContractBack_X6_isWithin : GoodIn wsX3_buyContractBack wsX6_isWithin := goodIn_r _ [14] (by decide +kernel) (by decide +kernel)
set_option maxRecDepth 20000 in
theorem gX3_buyContractBack_X6_isWithin_n66 : GoodIn wsX3_buyContractBack (wsX6_isWithin) := ggX3_buyContractBack_X6_isWithin
set_option maxRecDepth 20000 in
theorem ggX3_buyContractBack_X0_drop : GoodIn wsX3_buyContractBack wsX0_drop := goodIn_r _ [18, 11, 19, 20, 21, 7, 8, 9, 10, 31, 32, 33] (by decide +kernel) (by decide +kernel)
set_option maxRecDepth 20000 in
theorem gX3_buyContractBack_X0_drop : GoodIn wsX3_buyContractBack (wsV RX3 113 RX0 yX0_drop wsX0_drop) := goodIn_app (goodIn_of _ (by decide +kernel)) ggX3_buyContractBack_X0_drop
theorem dX3_buyContractBack_0 : decode cX3_buyContractBack 0 = .ok (.aload_n 0, 1) := by decide +kernel
theorem dX3_buyContractBack_1 : decode cX3_buyContractBack 1 = .ok (.getfield 21, 3) := by decide +kernel
theorem dX3_buyContractBack_4 : decode cX3_buyContractBack 4 = .ok (.iload_n 1, 1) := by decide +kernel
theorem dX3_buyContractBack_5 : decode cX3_buyContractBack 5 = .ok (.invokevirtual 107, 3) := by decide +kernel
theorem dX3_buyContractBack_8 : decode cX3_buyContractBack 8 = .ok (.ifCond .eq 14, 3) := by decide +kernel
theorem dX3_buyContractBack_11 : decode cX3_buyContractBack 11 = .ok (.iload_n 2, 1) := by decide +kernel
theorem dX3_buyContractBack_12 : decode cX3_buyContractBack 12 = .ok (.iconst 1, 1) := by decide +kernel
theorem dX3_buyContractBack_13 : decode cX3_buyContractBack 13 = .ok (.sipush 999, 3) := by decide +kernel
theorem dX3_buyContractBack_16 : decode cX3_buyContractBack 16 = .ok (.invokestatic 66, 3) := by decide +kernel
theorem dX3_buyContractBack_19 : decode cX3_buyContractBack 19 = .ok (.ifCond .ne 6, 3) := by decide +kernel
theorem dX3_buyContractBack_22 : decode cX3_buyContractBack 22 = .ok (.ldc 70, 2) := by decide +kernel
theorem dX3_buyContractBack_24 : decode cX3_buyContractBack 24 = .ok (.ireturn, 1) := by decide +kernel
theorem dX3_buyContractBack_25 : decode cX3_buyContractBack 25 = .ok (.aload_n 0, 1) := by decide +kernel
theorem dX3_buyContractBack_26 : decode cX3_buyContractBack 26 = .ok (.getfield 40, 3) := by decide +kernel
theorem dX3_buyContractBack_29 : decode cX3_buyContractBack 29 = .ok (.iconst 0, 1) := by decide +kernel
theorem dX3_buyContractBack_30 : decode cX3_buyContractBack 30 = .ok (.iaload, 1) := by decide +kernel
theorem dX3_buyContractBack_31 : decode cX3_buyContractBack 31 = .ok (.aload_n 0, 1) := by decide +kernel
theorem dX3_buyContractBack_32 : decode cX3_buyContractBack 32 = .ok (.getfield 21, 3) := by decide +kernel
theorem dX3_buyContractBack_35 : decode cX3_buyContractBack 35 = .ok (.getfield 110, 3) := by decide +kernel
theorem dX3_buyContractBack_38 : decode cX3_buyContractBack 38 = .ok (.iload_n 1, 1) := by decide +kernel
theorem dX3_buyContractBack_39 : decode cX3_buyContractBack 39 = .ok (.iaload, 1) := by decide +kernel
theorem dX3_buyContractBack_40 : decode cX3_buyContractBack 40 = .ok (.iload_n 2, 1) := by decide +kernel
theorem dX3_buyContractBack_41 : decode cX3_buyContractBack 41 = .ok (.isub, 1) := by decide +kernel
theorem dX3_buyContractBack_42 : decode cX3_buyContractBack 42 = .ok (.imul, 1) := by decide +kernel
theorem dX3_buyContractBack_43 : decode cX3_buyContractBack 43 = .ok (.istore_n 3, 1) := by decide +kernel
theorem dX3_buyContractBack_44 : decode cX3_buyContractBack 44 = .ok (.aload_n 0, 1) := by decide +kernel
theorem dX3_buyContractBack_45 : decode cX3_buyContractBack 45 = .ok (.dup, 1) := by decide +kernel
theorem dX3_buyContractBack_46 : decode cX3_buyContractBack 46 = .ok (.getfield 54, 3) := by decide +kernel
theorem dX3_buyContractBack_49 : decode cX3_buyContractBack 49 = .ok (.iload_n 3, 1) := by decide +kernel
theorem dX3_buyContractBack_50 : decode cX3_buyContractBack 50 = .ok (.iadd, 1) := by decide +kernel
theorem dX3_buyContractBack_51 : decode cX3_buyContractBack 51 = .ok (.putfield 54, 3) := by decide +kernel
theorem dX3_buyContractBack_54 : decode cX3_buyContractBack 54 = .ok (.aload_n 0, 1) := by decide +kernel
theorem dX3_buyContractBack_55 : decode cX3_buyContractBack 55 = .ok (.getfield 21, 3) := by decide +kernel
theorem dX3_buyContractBack_58 : decode cX3_buyContractBack 58 = .ok (.iload_n 1, 1) := by decide +kernel
theorem dX3_buyContractBack_59 : decode cX3_buyContractBack 59 = .ok (.invokevirtual 113, 3) := by decide +kernel
theorem dX3_buyContractBack_62 : decode cX3_buyContractBack 62 = .ok (.iload_n 3, 1) := by decide +kernel
theorem dX3_buyContractBack_63 : decode cX3_buyContractBack 63 = .ok (.ireturn, 1) := by decide +kernel
set_option maxRecDepth 20000 in
theorem ggX3_meetContract_X0_isOpen : GoodIn wsX3_meetContract wsX0_isOpen := goodIn_r _ [22, 23, 104, 105, 106] (by decide +kernel) (by decide +kernel)
set_option maxRecDepth 20000 in
theorem gX3_meetContract_X0_isOpen : GoodIn wsX3_meetContract (wsV RX3 107 RX0 yX0_isOpen wsX0_isOpen) := goodIn_app (goodIn_of _ (by decide +kernel)) ggX3_meetContract_X0_isOpen
set_option maxRecDepth 20000 in
theorem ggX3_meetContract_X1_plan : GoodIn wsX3_meetContract wsX1_plan := goodIn_r _ [28, 29, 30, 31, 32, 33, 34, 35, 36, 37, 38, 39, 40, 41, 27, 42, 43, 44, 45, 46, 47, 48, 49, 50, 51, 52, 53, 54, 55, 56, 57, 58, 59, 60, 61, 62, 63, 17, 64, 65, 66, 67, 68, 69, 70, 71, 72, 73, 74, 75, 76, 77, 78, 79, 80, 107, 108, 109, 110, 111, 112, 113, 114, 115, 116, 117, 118, 95, 96, 97, 98, 99, 100, 101, 102, 103, 119, 120, 121, 122, 123, 124] (by decide +kernel) (by decide +kernel)
set_option maxRecDepth 20000 in
theorem gX3_meetContract_X1_plan : GoodIn wsX3_meetContract (wsV RX3 118 RX1 yX1_plan wsX1_plan) := goodIn_app (goodIn_of _ (by decide +kernel)) ggX3_meetContract_X1_plan
set_option maxRecDepth 20000 in
theorem ggX3_meetContract_X4_dropEmpty : GoodIn wsX3_meetContract wsX4_dropEmpty := goodIn_r _ [84, 85, 86, 87, 53, 54, 119, 120, 121, 122, 123, 124] (by decide +kernel) (by decide +kernel)
set_option maxRecDepth 20000 in
theorem gX3_meetContract_X4_dropEmpty : GoodIn wsX3_meetContract (wsV RX3 98 RX4 yX4_dropEmpty wsX4_dropEmpty) := goodIn_app (goodIn_of _ (by decide +kernel)) ggX3_meetContract_X4_dropEmpty
set_option maxRecDepth 20000 in
theorem ggX3_meetContract_X0_drop : GoodIn wsX3_meetContract wsX0_drop := goodIn_r _ [91, 23, 92, 93, 94, 19, 20, 21, 22, 104, 105, 106] (by decide +kernel) (by decide +kernel)
set_option maxRecDepth 20000 in
theorem gX3_meetContract_X0_drop : GoodIn wsX3_meetContract (wsV RX3 113 RX0 yX0_drop wsX0_drop) := goodIn_app (goodIn_of _ (by decide +kernel)) ggX3_meetContract_X0_drop
theorem dX3_meetContract_0 : decode cX3_meetContract 0 = .ok (.aload_n 0, 1) := by decide +kernel
theorem dX3_meetContract_1 : decode cX3_meetContract 1 = .ok (.getfield 21, 3) := by decide +kernel
theorem dX3_meetContract_4 : decode cX3_meetContract 4 = .ok (.iload_n 1, 1) := by decide +kernel
theorem dX3_meetContract_5 : decode cX3_meetContract 5 = .ok (.invokevirtual 107, 3) := by decide +kernel
theorem dX3_meetContract_8 : decode cX3_meetContract 8 = .ok (.ifCond .ne 6, 3) := by decide +kernel
theorem dX3_meetContract_11 : decode cX3_meetContract 11 = .ok (.ldc 70, 2) := by decide +kernel
theorem dX3_meetContract_13 : decode cX3_meetContract 13 = .ok (.ireturn, 1) := by decide +kernel
theorem dX3_meetContract_14 : decode cX3_meetContract 14 = .ok (.aload_n 0, 1) := by decide +kernel
theorem dX3_meetContract_15 : decode cX3_meetContract 15 = .ok (.getfield 21, 3) := by decide +kernel
theorem dX3_meetContract_18 : decode cX3_meetContract 18 = .ok (.getfield 117, 3) := by decide +kernel
theorem dX3_meetContract_21 : decode cX3_meetContract 21 = .ok (.iload_n 1, 1) := by decide +kernel
theorem dX3_meetContract_22 : decode cX3_meetContract 22 = .ok (.iaload, 1) := by decide +kernel
theorem dX3_meetContract_23 : decode cX3_meetContract 23 = .ok (.aload_n 0, 1) := by decide +kernel
theorem dX3_meetContract_24 : decode cX3_meetContract 24 = .ok (.getfield 50, 3) := by decide +kernel
theorem dX3_meetContract_27 : decode cX3_meetContract 27 = .ok (.if_icmp .eq 6, 3) := by decide +kernel
theorem dX3_meetContract_30 : decode cX3_meetContract 30 = .ok (.ldc 82, 2) := by decide +kernel
theorem dX3_meetContract_32 : decode cX3_meetContract 32 = .ok (.ireturn, 1) := by decide +kernel
theorem dX3_meetContract_33 : decode cX3_meetContract 33 = .ok (.aload_n 2, 1) := by decide +kernel
theorem dX3_meetContract_34 : decode cX3_meetContract 34 = .ok (.aload_n 0, 1) := by decide +kernel
theorem dX3_meetContract_35 : decode cX3_meetContract 35 = .ok (.aload_n 0, 1) := by decide +kernel
theorem dX3_meetContract_36 : decode cX3_meetContract 36 = .ok (.getfield 21, 3) := by decide +kernel
theorem dX3_meetContract_39 : decode cX3_meetContract 39 = .ok (.getfield 110, 3) := by decide +kernel
theorem dX3_meetContract_42 : decode cX3_meetContract 42 = .ok (.iload_n 1, 1) := by decide +kernel
theorem dX3_meetContract_43 : decode cX3_meetContract 43 = .ok (.iaload, 1) := by decide +kernel
theorem dX3_meetContract_44 : decode cX3_meetContract 44 = .ok (.aload_n 0, 1) := by decide +kernel
theorem dX3_meetContract_45 : decode cX3_meetContract 45 = .ok (.getfield 50, 3) := by decide +kernel
theorem dX3_meetContract_48 : decode cX3_meetContract 48 = .ok (.invokevirtual 118, 3) := by decide +kernel
theorem dX3_meetContract_51 : decode cX3_meetContract 51 = .ok (.aload_n 2, 1) := by decide +kernel
theorem dX3_meetContract_52 : decode cX3_meetContract 52 = .ok (.getfield 124, 3) := by decide +kernel
theorem dX3_meetContract_55 : decode cX3_meetContract 55 = .ok (.ifCond .le 6, 3) := by decide +kernel
theorem dX3_meetContract_58 : decode cX3_meetContract 58 = .ok (.ldc 82, 2) := by decide +kernel
theorem dX3_meetContract_60 : decode cX3_meetContract 60 = .ok (.ireturn, 1) := by decide +kernel
theorem dX3_meetContract_61 : decode cX3_meetContract 61 = .ok (.iconst 0, 1) := by decide +kernel
theorem dX3_meetContract_62 : decode cX3_meetContract 62 = .ok (.istore_n 3, 1) := by decide +kernel
theorem dX3_meetContract_63 : decode cX3_meetContract 63 = .ok (.iload_n 3, 1) := by decide +kernel
theorem dX3_meetContract_64 : decode cX3_meetContract 64 = .ok (.aload_n 2, 1) := by decide +kernel
theorem dX3_meetContract_65 : decode cX3_meetContract 65 = .ok (.getfield 127, 3) := by decide +kernel
theorem dX3_meetContract_68 : decode cX3_meetContract 68 = .ok (.if_icmp .ge 32, 3) := by decide +kernel
theorem dX3_meetContract_71 : decode cX3_meetContract 71 = .ok (.aload_n 0, 1) := by decide +kernel
theorem dX3_meetContract_72 : decode cX3_meetContract 72 = .ok (.getfield 12, 3) := by decide +kernel
theorem dX3_meetContract_75 : decode cX3_meetContract 75 = .ok (.getfield 79, 3) := by decide +kernel
theorem dX3_meetContract_78 : decode cX3_meetContract 78 = .ok (.aload_n 2, 1) := by decide +kernel
theorem dX3_meetContract_79 : decode cX3_meetContract 79 = .ok (.getfield 130, 3) := by decide +kernel
theorem dX3_meetContract_82 : decode cX3_meetContract 82 = .ok (.iload_n 3, 1) := by decide +kernel
theorem dX3_meetContract_83 : decode cX3_meetContract 83 = .ok (.iaload, 1) := by decide +kernel
theorem dX3_meetContract_84 : decode cX3_meetContract 84 = .ok (.dup2, 1) := by decide +kernel
theorem dX3_meetContract_85 : decode cX3_meetContract 85 = .ok (.iaload, 1) := by decide +kernel
theorem dX3_meetContract_86 : decode cX3_meetContract 86 = .ok (.aload_n 2, 1) := by decide +kernel
theorem dX3_meetContract_87 : decode cX3_meetContract 87 = .ok (.getfield 133, 3) := by decide +kernel
theorem dX3_meetContract_90 : decode cX3_meetContract 90 = .ok (.iload_n 3, 1) := by decide +kernel
theorem dX3_meetContract_91 : decode cX3_meetContract 91 = .ok (.iaload, 1) := by decide +kernel
theorem dX3_meetContract_92 : decode cX3_meetContract 92 = .ok (.isub, 1) := by decide +kernel
theorem dX3_meetContract_93 : decode cX3_meetContract 93 = .ok (.iastore, 1) := by decide +kernel
theorem dX3_meetContract_94 : decode cX3_meetContract 94 = .ok (.iinc 3 1, 3) := by decide +kernel
theorem dX3_meetContract_97 : decode cX3_meetContract 97 = .ok (.goto (-34), 3) := by decide +kernel
theorem dX3_meetContract_100 : decode cX3_meetContract 100 = .ok (.aload_n 0, 1) := by decide +kernel
theorem dX3_meetContract_101 : decode cX3_meetContract 101 = .ok (.getfield 12, 3) := by decide +kernel
theorem dX3_meetContract_104 : decode cX3_meetContract 104 = .ok (.invokevirtual 98, 3) := by decide +kernel
theorem dX3_meetContract_107 : decode cX3_meetContract 107 = .ok (.aload_n 0, 1) := by decide +kernel
theorem dX3_meetContract_108 : decode cX3_meetContract 108 = .ok (.getfield 21, 3) := by decide +kernel
theorem dX3_meetContract_111 : decode cX3_meetContract 111 = .ok (.iload_n 1, 1) := by decide +kernel
theorem dX3_meetContract_112 : decode cX3_meetContract 112 = .ok (.invokevirtual 113, 3) := by decide +kernel
theorem dX3_meetContract_115 : decode cX3_meetContract 115 = .ok (.aload_n 0, 1) := by decide +kernel
theorem dX3_meetContract_116 : decode cX3_meetContract 116 = .ok (.dup, 1) := by decide +kernel
theorem dX3_meetContract_117 : decode cX3_meetContract 117 = .ok (.getfield 54, 3) := by decide +kernel
theorem dX3_meetContract_120 : decode cX3_meetContract 120 = .ok (.aload_n 2, 1) := by decide +kernel
theorem dX3_meetContract_121 : decode cX3_meetContract 121 = .ok (.getfield 134, 3) := by decide +kernel
theorem dX3_meetContract_124 : decode cX3_meetContract 124 = .ok (.iadd, 1) := by decide +kernel
theorem dX3_meetContract_125 : decode cX3_meetContract 125 = .ok (.putfield 54, 3) := by decide +kernel
theorem dX3_meetContract_128 : decode cX3_meetContract 128 = .ok (.aload_n 0, 1) := by decide +kernel
theorem dX3_meetContract_129 : decode cX3_meetContract 129 = .ok (.dup, 1) := by decide +kernel
theorem dX3_meetContract_130 : decode cX3_meetContract 130 = .ok (.getfield 57, 3) := by decide +kernel
theorem dX3_meetContract_133 : decode cX3_meetContract 133 = .ok (.iconst 1, 1) := by decide +kernel
theorem dX3_meetContract_134 : decode cX3_meetContract 134 = .ok (.iadd, 1) := by decide +kernel
theorem dX3_meetContract_135 : decode cX3_meetContract 135 = .ok (.putfield 57, 3) := by decide +kernel
theorem dX3_meetContract_138 : decode cX3_meetContract 138 = .ok (.aload_n 0, 1) := by decide +kernel
theorem dX3_meetContract_139 : decode cX3_meetContract 139 = .ok (.dup, 1) := by decide +kernel
theorem dX3_meetContract_140 : decode cX3_meetContract 140 = .ok (.getfield 63, 3) := by decide +kernel
theorem dX3_meetContract_143 : decode cX3_meetContract 143 = .ok (.aload_n 0, 1) := by decide +kernel
theorem dX3_meetContract_144 : decode cX3_meetContract 144 = .ok (.getfield 40, 3) := by decide +kernel
theorem dX3_meetContract_147 : decode cX3_meetContract 147 = .ok (.iconst 0, 1) := by decide +kernel
theorem dX3_meetContract_148 : decode cX3_meetContract 148 = .ok (.iaload, 1) := by decide +kernel
theorem dX3_meetContract_149 : decode cX3_meetContract 149 = .ok (.iadd, 1) := by decide +kernel
theorem dX3_meetContract_150 : decode cX3_meetContract 150 = .ok (.putfield 63, 3) := by decide +kernel
theorem dX3_meetContract_153 : decode cX3_meetContract 153 = .ok (.aload_n 2, 1) := by decide +kernel
theorem dX3_meetContract_154 : decode cX3_meetContract 154 = .ok (.getfield 134, 3) := by decide +kernel
theorem dX3_meetContract_157 : decode cX3_meetContract 157 = .ok (.ireturn, 1) := by decide +kernel
set_option maxRecDepth 20000 in
theorem ggX3_passMonths_X6_isWithin : GoodIn wsX3_passMonths wsX6_isWithin := goodIn_r _ [10] (by decide +kernel) (by decide +kernel)
set_option maxRecDepth 20000 in
theorem gX3_passMonths_X6_isWithin_n66 : GoodIn wsX3_passMonths (wsX6_isWithin) := ggX3_passMonths_X6_isWithin
set_option maxRecDepth 20000 in
theorem ggX3_passMonths_X0_dropBefore : GoodIn wsX3_passMonths wsX0_dropBefore := goodIn_r _ [15, 16, 17, 18, 28, 29, 30] (by decide +kernel) (by decide +kernel)
set_option maxRecDepth 20000 in
theorem gX3_passMonths_X0_dropBefore : GoodIn wsX3_passMonths (wsV RX3 137 RX0 yX0_dropBefore wsX0_dropBefore) := goodIn_app (goodIn_of _ (by decide +kernel)) ggX3_passMonths_X0_dropBefore
theorem dX3_passMonths_0 : decode cX3_passMonths 0 = .ok (.iload_n 1, 1) := by decide +kernel
theorem dX3_passMonths_1 : decode cX3_passMonths 1 = .ok (.iconst 1, 1) := by decide +kernel
theorem dX3_passMonths_2 : decode cX3_passMonths 2 = .ok (.bipush 24, 2) := by decide +kernel
theorem dX3_passMonths_4 : decode cX3_passMonths 4 = .ok (.invokestatic 66, 3) := by decide +kernel
theorem dX3_passMonths_7 : decode cX3_passMonths 7 = .ok (.ifCond .ne 6, 3) := by decide +kernel
theorem dX3_passMonths_10 : decode cX3_passMonths 10 = .ok (.ldc 70, 2) := by decide +kernel
theorem dX3_passMonths_12 : decode cX3_passMonths 12 = .ok (.ireturn, 1) := by decide +kernel
theorem dX3_passMonths_13 : decode cX3_passMonths 13 = .ok (.aload_n 0, 1) := by decide +kernel
theorem dX3_passMonths_14 : decode cX3_passMonths 14 = .ok (.getfield 50, 3) := by decide +kernel
theorem dX3_passMonths_17 : decode cX3_passMonths 17 = .ok (.iload_n 1, 1) := by decide +kernel
theorem dX3_passMonths_18 : decode cX3_passMonths 18 = .ok (.iadd, 1) := by decide +kernel
theorem dX3_passMonths_19 : decode cX3_passMonths 19 = .ok (.sipush 999, 3) := by decide +kernel
theorem dX3_passMonths_22 : decode cX3_passMonths 22 = .ok (.if_icmp .le 6, 3) := by decide +kernel
theorem dX3_passMonths_25 : decode cX3_passMonths 25 = .ok (.ldc 87, 2) := by decide +kernel
theorem dX3_passMonths_27 : decode cX3_passMonths 27 = .ok (.ireturn, 1) := by decide +kernel
theorem dX3_passMonths_28 : decode cX3_passMonths 28 = .ok (.aload_n 0, 1) := by decide +kernel
theorem dX3_passMonths_29 : decode cX3_passMonths 29 = .ok (.dup, 1) := by decide +kernel
theorem dX3_passMonths_30 : decode cX3_passMonths 30 = .ok (.getfield 50, 3) := by decide +kernel
theorem dX3_passMonths_33 : decode cX3_passMonths 33 = .ok (.iload_n 1, 1) := by decide +kernel
theorem dX3_passMonths_34 : decode cX3_passMonths 34 = .ok (.iadd, 1) := by decide +kernel
theorem dX3_passMonths_35 : decode cX3_passMonths 35 = .ok (.putfield 50, 3) := by decide +kernel
theorem dX3_passMonths_38 : decode cX3_passMonths 38 = .ok (.aload_n 0, 1) := by decide +kernel
theorem dX3_passMonths_39 : decode cX3_passMonths 39 = .ok (.getfield 21, 3) := by decide +kernel
theorem dX3_passMonths_42 : decode cX3_passMonths 42 = .ok (.aload_n 0, 1) := by decide +kernel
theorem dX3_passMonths_43 : decode cX3_passMonths 43 = .ok (.getfield 50, 3) := by decide +kernel
theorem dX3_passMonths_46 : decode cX3_passMonths 46 = .ok (.invokevirtual 137, 3) := by decide +kernel
theorem dX3_passMonths_49 : decode cX3_passMonths 49 = .ok (.istore_n 2, 1) := by decide +kernel
theorem dX3_passMonths_50 : decode cX3_passMonths 50 = .ok (.aload_n 0, 1) := by decide +kernel
theorem dX3_passMonths_51 : decode cX3_passMonths 51 = .ok (.dup, 1) := by decide +kernel
theorem dX3_passMonths_52 : decode cX3_passMonths 52 = .ok (.getfield 60, 3) := by decide +kernel
theorem dX3_passMonths_55 : decode cX3_passMonths 55 = .ok (.iload_n 2, 1) := by decide +kernel
theorem dX3_passMonths_56 : decode cX3_passMonths 56 = .ok (.iadd, 1) := by decide +kernel
theorem dX3_passMonths_57 : decode cX3_passMonths 57 = .ok (.putfield 60, 3) := by decide +kernel
theorem dX3_passMonths_60 : decode cX3_passMonths 60 = .ok (.aload_n 0, 1) := by decide +kernel
theorem dX3_passMonths_61 : decode cX3_passMonths 61 = .ok (.dup, 1) := by decide +kernel
theorem dX3_passMonths_62 : decode cX3_passMonths 62 = .ok (.getfield 54, 3) := by decide +kernel
theorem dX3_passMonths_65 : decode cX3_passMonths 65 = .ok (.iload_n 2, 1) := by decide +kernel
theorem dX3_passMonths_66 : decode cX3_passMonths 66 = .ok (.aload_n 0, 1) := by decide +kernel
theorem dX3_passMonths_67 : decode cX3_passMonths 67 = .ok (.getfield 40, 3) := by decide +kernel
theorem dX3_passMonths_70 : decode cX3_passMonths 70 = .ok (.iconst 0, 1) := by decide +kernel
theorem dX3_passMonths_71 : decode cX3_passMonths 71 = .ok (.iaload, 1) := by decide +kernel
theorem dX3_passMonths_72 : decode cX3_passMonths 72 = .ok (.imul, 1) := by decide +kernel
theorem dX3_passMonths_73 : decode cX3_passMonths 73 = .ok (.aload_n 0, 1) := by decide +kernel
theorem dX3_passMonths_74 : decode cX3_passMonths 74 = .ok (.getfield 40, 3) := by decide +kernel
theorem dX3_passMonths_77 : decode cX3_passMonths 77 = .ok (.iconst 4, 1) := by decide +kernel
theorem dX3_passMonths_78 : decode cX3_passMonths 78 = .ok (.iaload, 1) := by decide +kernel
theorem dX3_passMonths_79 : decode cX3_passMonths 79 = .ok (.imul, 1) := by decide +kernel
theorem dX3_passMonths_80 : decode cX3_passMonths 80 = .ok (.isub, 1) := by decide +kernel
theorem dX3_passMonths_81 : decode cX3_passMonths 81 = .ok (.putfield 54, 3) := by decide +kernel
theorem dX3_passMonths_84 : decode cX3_passMonths 84 = .ok (.iload_n 2, 1) := by decide +kernel
theorem dX3_passMonths_85 : decode cX3_passMonths 85 = .ok (.ireturn, 1) := by decide +kernel
set_option maxRecDepth 20000 in
theorem ggX3_changeSetting_X6_isWithin : GoodIn wsX3_changeSetting wsX6_isWithin := goodIn_r _ [8] (by decide +kernel) (by decide +kernel)
set_option maxRecDepth 20000 in
theorem gX3_changeSetting_X6_isWithin_n66 : GoodIn wsX3_changeSetting (wsX6_isWithin) := ggX3_changeSetting_X6_isWithin
theorem dX3_changeSetting_0 : decode cX3_changeSetting 0 = .ok (.iload_n 1, 1) := by decide +kernel
theorem dX3_changeSetting_1 : decode cX3_changeSetting 1 = .ok (.iconst 0, 1) := by decide +kernel
theorem dX3_changeSetting_2 : decode cX3_changeSetting 2 = .ok (.iconst 4, 1) := by decide +kernel
theorem dX3_changeSetting_3 : decode cX3_changeSetting 3 = .ok (.invokestatic 66, 3) := by decide +kernel
theorem dX3_changeSetting_6 : decode cX3_changeSetting 6 = .ok (.ifCond .eq 20, 3) := by decide +kernel
theorem dX3_changeSetting_9 : decode cX3_changeSetting 9 = .ok (.iload_n 2, 1) := by decide +kernel
theorem dX3_changeSetting_10 : decode cX3_changeSetting 10 = .ok (.getstatic 140, 3) := by decide +kernel
theorem dX3_changeSetting_13 : decode cX3_changeSetting 13 = .ok (.iload_n 1, 1) := by decide +kernel
theorem dX3_changeSetting_14 : decode cX3_changeSetting 14 = .ok (.iaload, 1) := by decide +kernel
theorem dX3_changeSetting_15 : decode cX3_changeSetting 15 = .ok (.getstatic 143, 3) := by decide +kernel
theorem dX3_changeSetting_18 : decode cX3_changeSetting 18 = .ok (.iload_n 1, 1) := by decide +kernel
theorem dX3_changeSetting_19 : decode cX3_changeSetting 19 = .ok (.iaload, 1) := by decide +kernel
theorem dX3_changeSetting_20 : decode cX3_changeSetting 20 = .ok (.invokestatic 66, 3) := by decide +kernel
theorem dX3_changeSetting_23 : decode cX3_changeSetting 23 = .ok (.ifCond .ne 6, 3) := by decide +kernel
theorem dX3_changeSetting_26 : decode cX3_changeSetting 26 = .ok (.ldc 70, 2) := by decide +kernel
theorem dX3_changeSetting_28 : decode cX3_changeSetting 28 = .ok (.ireturn, 1) := by decide +kernel
theorem dX3_changeSetting_29 : decode cX3_changeSetting 29 = .ok (.iload_n 1, 1) := by decide +kernel
theorem dX3_changeSetting_30 : decode cX3_changeSetting 30 = .ok (.ifCond .ne 16, 3) := by decide +kernel
theorem dX3_changeSetting_33 : decode cX3_changeSetting 33 = .ok (.aload_n 0, 1) := by decide +kernel
theorem dX3_changeSetting_34 : decode cX3_changeSetting 34 = .ok (.getfield 21, 3) := by decide +kernel
theorem dX3_changeSetting_37 : decode cX3_changeSetting 37 = .ok (.getfield 146, 3) := by decide +kernel
theorem dX3_changeSetting_40 : decode cX3_changeSetting 40 = .ok (.ifCond .le 6, 3) := by decide +kernel
theorem dX3_changeSetting_43 : decode cX3_changeSetting 43 = .ok (.ldc 82, 2) := by decide +kernel
theorem dX3_changeSetting_45 : decode cX3_changeSetting 45 = .ok (.ireturn, 1) := by decide +kernel
theorem dX3_changeSetting_46 : decode cX3_changeSetting 46 = .ok (.aload_n 0, 1) := by decide +kernel
theorem dX3_changeSetting_47 : decode cX3_changeSetting 47 = .ok (.getfield 40, 3) := by decide +kernel
theorem dX3_changeSetting_50 : decode cX3_changeSetting 50 = .ok (.iload_n 1, 1) := by decide +kernel
theorem dX3_changeSetting_51 : decode cX3_changeSetting 51 = .ok (.iaload, 1) := by decide +kernel
theorem dX3_changeSetting_52 : decode cX3_changeSetting 52 = .ok (.istore_n 3, 1) := by decide +kernel
theorem dX3_changeSetting_53 : decode cX3_changeSetting 53 = .ok (.aload_n 0, 1) := by decide +kernel
theorem dX3_changeSetting_54 : decode cX3_changeSetting 54 = .ok (.getfield 40, 3) := by decide +kernel
theorem dX3_changeSetting_57 : decode cX3_changeSetting 57 = .ok (.iload_n 1, 1) := by decide +kernel
theorem dX3_changeSetting_58 : decode cX3_changeSetting 58 = .ok (.iload_n 2, 1) := by decide +kernel
theorem dX3_changeSetting_59 : decode cX3_changeSetting 59 = .ok (.iastore, 1) := by decide +kernel
theorem dX3_changeSetting_60 : decode cX3_changeSetting 60 = .ok (.iload_n 3, 1) := by decide +kernel
theorem dX3_changeSetting_61 : decode cX3_changeSetting 61 = .ok (.ireturn, 1) := by decide +kernel
set_option maxRecDepth 20000 in
theorem ggX3_isDeliveryMonth_J9_floorMod_7cf53 : GoodIn wsX3_isDeliveryMonth wsJ9_floorMod_7cf53 := goodIn_r _ [5] (by decide +kernel) (by decide +kernel)
set_option maxRecDepth 20000 in
theorem gX3_isDeliveryMonth_J9_floorMod_7cf53 : GoodIn wsX3_isDeliveryMonth (va_wsS RX3 149 yJ9_floorMod_7cf53 wsJ9_floorMod_7cf53) := goodIn_app (goodIn_of _ (by decide +kernel)) ggX3_isDeliveryMonth_J9_floorMod_7cf53
theorem dX3_isDeliveryMonth_0 : decode cX3_isDeliveryMonth 0 = .ok (.aload_n 0, 1) := by decide +kernel
theorem dX3_isDeliveryMonth_1 : decode cX3_isDeliveryMonth 1 = .ok (.getfield 40, 3) := by decide +kernel
theorem dX3_isDeliveryMonth_4 : decode cX3_isDeliveryMonth 4 = .ok (.iconst 1, 1) := by decide +kernel
theorem dX3_isDeliveryMonth_5 : decode cX3_isDeliveryMonth 5 = .ok (.iaload, 1) := by decide +kernel
theorem dX3_isDeliveryMonth_6 : decode cX3_isDeliveryMonth 6 = .ok (.iload_n 1, 1) := by decide +kernel
theorem dX3_isDeliveryMonth_7 : decode cX3_isDeliveryMonth 7 = .ok (.bipush 12, 2) := by decide +kernel
theorem dX3_isDeliveryMonth_9 : decode cX3_isDeliveryMonth 9 = .ok (.invokestatic 149, 3) := by decide +kernel
theorem dX3_isDeliveryMonth_12 : decode cX3_isDeliveryMonth 12 = .ok (.ishr, 1) := by decide +kernel
theorem dX3_isDeliveryMonth_13 : decode cX3_isDeliveryMonth 13 = .ok (.iconst 1, 1) := by decide +kernel
theorem dX3_isDeliveryMonth_14 : decode cX3_isDeliveryMonth 14 = .ok (.iand, 1) := by decide +kernel
theorem dX3_isDeliveryMonth_15 : decode cX3_isDeliveryMonth 15 = .ok (.iconst 1, 1) := by decide +kernel
theorem dX3_isDeliveryMonth_16 : decode cX3_isDeliveryMonth 16 = .ok (.if_icmp .ne 7, 3) := by decide +kernel
theorem dX3_isDeliveryMonth_19 : decode cX3_isDeliveryMonth 19 = .ok (.iconst 1, 1) := by decide +kernel
theorem dX3_isDeliveryMonth_20 : decode cX3_isDeliveryMonth 20 = .ok (.goto 4, 3) := by decide +kernel
theorem dX3_isDeliveryMonth_23 : decode cX3_isDeliveryMonth 23 = .ok (.iconst 0, 1) := by decide +kernel
theorem dX3_isDeliveryMonth_24 : decode cX3_isDeliveryMonth 24 = .ok (.ireturn, 1) := by decide +kernel
theorem dX3_payForBag_0 : decode cX3_payForBag 0 = .ok (.iload_n 1, 1) := by decide +kernel
theorem dX3_payForBag_1 : decode cX3_payForBag 1 = .ok (.iload_n 2, 1) := by decide +kernel
theorem dX3_payForBag_2 : decode cX3_payForBag 2 = .ok (.bipush 80, 2) := by decide +kernel
theorem dX3_payForBag_4 : decode cX3_payForBag 4 = .ok (.isub, 1) := by decide +kernel
theorem dX3_payForBag_5 : decode cX3_payForBag 5 = .ok (.aload_n 0, 1) := by decide +kernel
theorem dX3_payForBag_6 : decode cX3_payForBag 6 = .ok (.getfield 40, 3) := by decide +kernel
theorem dX3_payForBag_9 : decode cX3_payForBag 9 = .ok (.iconst 2, 1) := by decide +kernel
theorem dX3_payForBag_10 : decode cX3_payForBag 10 = .ok (.iaload, 1) := by decide +kernel
theorem dX3_payForBag_11 : decode cX3_payForBag 11 = .ok (.imul, 1) := by decide +kernel
theorem dX3_payForBag_12 : decode cX3_payForBag 12 = .ok (.iadd, 1) := by decide +kernel
theorem dX3_payForBag_13 : decode cX3_payForBag 13 = .ok (.aload_n 0, 1) := by decide +kernel
theorem dX3_payForBag_14 : decode cX3_payForBag 14 = .ok (.getfield 40, 3) := by decide +kernel
theorem dX3_payForBag_17 : decode cX3_payForBag 17 = .ok (.iconst 3, 1) := by decide +kernel
theorem dX3_payForBag_18 : decode cX3_payForBag 18 = .ok (.iaload, 1) := by decide +kernel
theorem dX3_payForBag_19 : decode cX3_payForBag 19 = .ok (.iload_n 3, 1) := by decide +kernel
theorem dX3_payForBag_20 : decode cX3_payForBag 20 = .ok (.imul, 1) := by decide +kernel
theorem dX3_payForBag_21 : decode cX3_payForBag 21 = .ok (.isub, 1) := by decide +kernel
theorem dX3_payForBag_22 : decode cX3_payForBag 22 = .ok (.istore 4, 2) := by decide +kernel
theorem dX3_payForBag_24 : decode cX3_payForBag 24 = .ok (.iload 4, 2) := by decide +kernel
theorem dX3_payForBag_26 : decode cX3_payForBag 26 = .ok (.iconst 1, 1) := by decide +kernel
theorem dX3_payForBag_27 : decode cX3_payForBag 27 = .ok (.if_icmp .ge 7, 3) := by decide +kernel
theorem dX3_payForBag_30 : decode cX3_payForBag 30 = .ok (.iconst 1, 1) := by decide +kernel
theorem dX3_payForBag_31 : decode cX3_payForBag 31 = .ok (.goto 5, 3) := by decide +kernel
theorem dX3_payForBag_34 : decode cX3_payForBag 34 = .ok (.iload 4, 2) := by decide +kernel
theorem dX3_payForBag_36 : decode cX3_payForBag 36 = .ok (.ireturn, 1) := by decide +kernel
set_option maxRecDepth 20000 in
theorem ggX3_tellOfLot_X4_cupAt : GoodIn wsX3_tellOfLot wsX4_cupAt := goodIn_r _ [12, 13, 14, 31, 32, 33, 34, 35, 36] (by decide +kernel) (by decide +kernel)
set_option maxRecDepth 20000 in
theorem gX3_tellOfLot_X4_cupAt : GoodIn wsX3_tellOfLot (wsV RX3 94 RX4 yX4_cupAt wsX4_cupAt) := goodIn_app (goodIn_of _ (by decide +kernel)) ggX3_tellOfLot_X4_cupAt
set_option maxRecDepth 20000 in
theorem ggX3_tellOfLot_X6_bandOf : GoodIn wsX3_tellOfLot wsX6_bandOf := goodIn_r _ [17] (by decide +kernel) (by decide +kernel)
set_option maxRecDepth 20000 in
theorem gX3_tellOfLot_X6_bandOf_n154 : GoodIn wsX3_tellOfLot (wsX6_bandOf) := ggX3_tellOfLot_X6_bandOf
set_option maxRecDepth 20000 in
theorem ggX3_tellOfLot_X4_monthsTooOld : GoodIn wsX3_tellOfLot wsX4_monthsTooOld := goodIn_r _ [21, 14, 31, 32, 33, 34, 35, 36] (by decide +kernel) (by decide +kernel)
set_option maxRecDepth 20000 in
theorem gX3_tellOfLot_X4_monthsTooOld : GoodIn wsX3_tellOfLot (wsV RX3 157 RX4 yX4_monthsTooOld wsX4_monthsTooOld) := goodIn_app (goodIn_of _ (by decide +kernel)) ggX3_tellOfLot_X4_monthsTooOld
theorem dX3_tellOfLot_0 : decode cX3_tellOfLot 0 = .ok (.iload_n 2, 1) := by decide +kernel
theorem dX3_tellOfLot_1 : decode cX3_tellOfLot 1 = .ok (.tableswitch 136 0 6 #[43, 53, 63, 73, 86, 107, 120], 43) := by decide +kernel
theorem dX3_tellOfLot_44 : decode cX3_tellOfLot 44 = .ok (.aload_n 0, 1) := by decide +kernel
theorem dX3_tellOfLot_45 : decode cX3_tellOfLot 45 = .ok (.getfield 12, 3) := by decide +kernel
theorem dX3_tellOfLot_48 : decode cX3_tellOfLot 48 = .ok (.getfield 79, 3) := by decide +kernel
theorem dX3_tellOfLot_51 : decode cX3_tellOfLot 51 = .ok (.iload_n 1, 1) := by decide +kernel
theorem dX3_tellOfLot_52 : decode cX3_tellOfLot 52 = .ok (.iaload, 1) := by decide +kernel
theorem dX3_tellOfLot_53 : decode cX3_tellOfLot 53 = .ok (.ireturn, 1) := by decide +kernel
theorem dX3_tellOfLot_54 : decode cX3_tellOfLot 54 = .ok (.aload_n 0, 1) := by decide +kernel
theorem dX3_tellOfLot_55 : decode cX3_tellOfLot 55 = .ok (.getfield 12, 3) := by decide +kernel
theorem dX3_tellOfLot_58 : decode cX3_tellOfLot 58 = .ok (.getfield 88, 3) := by decide +kernel
theorem dX3_tellOfLot_61 : decode cX3_tellOfLot 61 = .ok (.iload_n 1, 1) := by decide +kernel
theorem dX3_tellOfLot_62 : decode cX3_tellOfLot 62 = .ok (.iaload, 1) := by decide +kernel
theorem dX3_tellOfLot_63 : decode cX3_tellOfLot 63 = .ok (.ireturn, 1) := by decide +kernel
theorem dX3_tellOfLot_64 : decode cX3_tellOfLot 64 = .ok (.aload_n 0, 1) := by decide +kernel
theorem dX3_tellOfLot_65 : decode cX3_tellOfLot 65 = .ok (.getfield 12, 3) := by decide +kernel
theorem dX3_tellOfLot_68 : decode cX3_tellOfLot 68 = .ok (.getfield 91, 3) := by decide +kernel
theorem dX3_tellOfLot_71 : decode cX3_tellOfLot 71 = .ok (.iload_n 1, 1) := by decide +kernel
theorem dX3_tellOfLot_72 : decode cX3_tellOfLot 72 = .ok (.iaload, 1) := by decide +kernel
theorem dX3_tellOfLot_73 : decode cX3_tellOfLot 73 = .ok (.ireturn, 1) := by decide +kernel
theorem dX3_tellOfLot_74 : decode cX3_tellOfLot 74 = .ok (.aload_n 0, 1) := by decide +kernel
theorem dX3_tellOfLot_75 : decode cX3_tellOfLot 75 = .ok (.getfield 12, 3) := by decide +kernel
theorem dX3_tellOfLot_78 : decode cX3_tellOfLot 78 = .ok (.iload_n 1, 1) := by decide +kernel
theorem dX3_tellOfLot_79 : decode cX3_tellOfLot 79 = .ok (.aload_n 0, 1) := by decide +kernel
theorem dX3_tellOfLot_80 : decode cX3_tellOfLot 80 = .ok (.getfield 50, 3) := by decide +kernel
theorem dX3_tellOfLot_83 : decode cX3_tellOfLot 83 = .ok (.invokevirtual 94, 3) := by decide +kernel
theorem dX3_tellOfLot_86 : decode cX3_tellOfLot 86 = .ok (.ireturn, 1) := by decide +kernel
theorem dX3_tellOfLot_87 : decode cX3_tellOfLot 87 = .ok (.aload_n 0, 1) := by decide +kernel
theorem dX3_tellOfLot_88 : decode cX3_tellOfLot 88 = .ok (.getfield 34, 3) := by decide +kernel
theorem dX3_tellOfLot_91 : decode cX3_tellOfLot 91 = .ok (.aload_n 0, 1) := by decide +kernel
theorem dX3_tellOfLot_92 : decode cX3_tellOfLot 92 = .ok (.getfield 12, 3) := by decide +kernel
theorem dX3_tellOfLot_95 : decode cX3_tellOfLot 95 = .ok (.iload_n 1, 1) := by decide +kernel
theorem dX3_tellOfLot_96 : decode cX3_tellOfLot 96 = .ok (.aload_n 0, 1) := by decide +kernel
theorem dX3_tellOfLot_97 : decode cX3_tellOfLot 97 = .ok (.getfield 50, 3) := by decide +kernel
theorem dX3_tellOfLot_100 : decode cX3_tellOfLot 100 = .ok (.invokevirtual 94, 3) := by decide +kernel
theorem dX3_tellOfLot_103 : decode cX3_tellOfLot 103 = .ok (.invokestatic 154, 3) := by decide +kernel
theorem dX3_tellOfLot_106 : decode cX3_tellOfLot 106 = .ok (.iaload, 1) := by decide +kernel
theorem dX3_tellOfLot_107 : decode cX3_tellOfLot 107 = .ok (.ireturn, 1) := by decide +kernel
theorem dX3_tellOfLot_108 : decode cX3_tellOfLot 108 = .ok (.aload_n 0, 1) := by decide +kernel
theorem dX3_tellOfLot_109 : decode cX3_tellOfLot 109 = .ok (.getfield 12, 3) := by decide +kernel
theorem dX3_tellOfLot_112 : decode cX3_tellOfLot 112 = .ok (.iload_n 1, 1) := by decide +kernel
theorem dX3_tellOfLot_113 : decode cX3_tellOfLot 113 = .ok (.aload_n 0, 1) := by decide +kernel
theorem dX3_tellOfLot_114 : decode cX3_tellOfLot 114 = .ok (.getfield 50, 3) := by decide +kernel
theorem dX3_tellOfLot_117 : decode cX3_tellOfLot 117 = .ok (.invokevirtual 157, 3) := by decide +kernel
theorem dX3_tellOfLot_120 : decode cX3_tellOfLot 120 = .ok (.ireturn, 1) := by decide +kernel
theorem dX3_tellOfLot_121 : decode cX3_tellOfLot 121 = .ok (.aload_n 0, 1) := by decide +kernel
theorem dX3_tellOfLot_122 : decode cX3_tellOfLot 122 = .ok (.getfield 12, 3) := by decide +kernel
theorem dX3_tellOfLot_125 : decode cX3_tellOfLot 125 = .ok (.iload_n 1, 1) := by decide +kernel
theorem dX3_tellOfLot_126 : decode cX3_tellOfLot 126 = .ok (.aload_n 0, 1) := by decide +kernel
theorem dX3_tellOfLot_127 : decode cX3_tellOfLot 127 = .ok (.getfield 50, 3) := by decide +kernel
theorem dX3_tellOfLot_130 : decode cX3_tellOfLot 130 = .ok (.invokevirtual 94, 3) := by decide +kernel
theorem dX3_tellOfLot_133 : decode cX3_tellOfLot 133 = .ok (.invokestatic 154, 3) := by decide +kernel
theorem dX3_tellOfLot_136 : decode cX3_tellOfLot 136 = .ok (.ireturn, 1) := by decide +kernel
theorem dX3_tellOfLot_137 : decode cX3_tellOfLot 137 = .ok (.ldc 70, 2) := by decide +kernel
theorem dX3_tellOfLot_139 : decode cX3_tellOfLot 139 = .ok (.ireturn, 1) := by decide +kernel
set_option maxRecDepth 20000 in
theorem ggX3_tellCount_X4_allBags : GoodIn wsX3_tellCount wsX4_allBags := goodIn_r _ [16, 17, 18, 38, 39, 40, 41, 42, 43] (by decide +kernel) (by decide +kernel)
set_option maxRecDepth 20000 in
theorem gX3_tellCount_X4_allBags : GoodIn wsX3_tellCount (wsV RX3 161 RX4 yX4_allBags wsX4_allBags) := goodIn_app (goodIn_of _ (by decide +kernel)) ggX3_tellCount_X4_allBags
set_option maxRecDepth 20000 in
theorem ggX3_tellCount_X4_bagsToGive : GoodIn wsX3_tellCount wsX4_bagsToGive := goodIn_r _ [22, 17, 18, 23, 24, 25, 15, 26, 27, 28, 38, 39, 40, 41, 42, 43] (by decide +kernel) (by decide +kernel)
set_option maxRecDepth 20000 in
theorem gX3_tellCount_X4_bagsToGive : GoodIn wsX3_tellCount (wsV RX3 165 RX4 yX4_bagsToGive wsX4_bagsToGive) := goodIn_app (goodIn_of _ (by decide +kernel)) ggX3_tellCount_X4_bagsToGive
theorem dX3_tellCount_0 : decode cX3_tellCount 0 = .ok (.iload_n 1, 1) := by decide +kernel
theorem dX3_tellCount_1 : decode cX3_tellCount 1 = .ok (.tableswitch 124 0 9 #[55, 63, 71, 76, 84, 89, 94, 99, 104, 116], 55) := by decide +kernel
theorem dX3_tellCount_56 : decode cX3_tellCount 56 = .ok (.aload_n 0, 1) := by decide +kernel
theorem dX3_tellCount_57 : decode cX3_tellCount 57 = .ok (.getfield 12, 3) := by decide +kernel
theorem dX3_tellCount_60 : decode cX3_tellCount 60 = .ok (.getfield 160, 3) := by decide +kernel
theorem dX3_tellCount_63 : decode cX3_tellCount 63 = .ok (.ireturn, 1) := by decide +kernel
theorem dX3_tellCount_64 : decode cX3_tellCount 64 = .ok (.aload_n 0, 1) := by decide +kernel
theorem dX3_tellCount_65 : decode cX3_tellCount 65 = .ok (.getfield 12, 3) := by decide +kernel
theorem dX3_tellCount_68 : decode cX3_tellCount 68 = .ok (.invokevirtual 161, 3) := by decide +kernel
theorem dX3_tellCount_71 : decode cX3_tellCount 71 = .ok (.ireturn, 1) := by decide +kernel
theorem dX3_tellCount_72 : decode cX3_tellCount 72 = .ok (.aload_n 0, 1) := by decide +kernel
theorem dX3_tellCount_73 : decode cX3_tellCount 73 = .ok (.getfield 50, 3) := by decide +kernel
theorem dX3_tellCount_76 : decode cX3_tellCount 76 = .ok (.ireturn, 1) := by decide +kernel
theorem dX3_tellCount_77 : decode cX3_tellCount 77 = .ok (.aload_n 0, 1) := by decide +kernel
theorem dX3_tellCount_78 : decode cX3_tellCount 78 = .ok (.getfield 21, 3) := by decide +kernel
theorem dX3_tellCount_81 : decode cX3_tellCount 81 = .ok (.getfield 146, 3) := by decide +kernel
theorem dX3_tellCount_84 : decode cX3_tellCount 84 = .ok (.ireturn, 1) := by decide +kernel
theorem dX3_tellCount_85 : decode cX3_tellCount 85 = .ok (.aload_n 0, 1) := by decide +kernel
theorem dX3_tellCount_86 : decode cX3_tellCount 86 = .ok (.getfield 54, 3) := by decide +kernel
theorem dX3_tellCount_89 : decode cX3_tellCount 89 = .ok (.ireturn, 1) := by decide +kernel
theorem dX3_tellCount_90 : decode cX3_tellCount 90 = .ok (.aload_n 0, 1) := by decide +kernel
theorem dX3_tellCount_91 : decode cX3_tellCount 91 = .ok (.getfield 57, 3) := by decide +kernel
theorem dX3_tellCount_94 : decode cX3_tellCount 94 = .ok (.ireturn, 1) := by decide +kernel
theorem dX3_tellCount_95 : decode cX3_tellCount 95 = .ok (.aload_n 0, 1) := by decide +kernel
theorem dX3_tellCount_96 : decode cX3_tellCount 96 = .ok (.getfield 60, 3) := by decide +kernel
theorem dX3_tellCount_99 : decode cX3_tellCount 99 = .ok (.ireturn, 1) := by decide +kernel
theorem dX3_tellCount_100 : decode cX3_tellCount 100 = .ok (.aload_n 0, 1) := by decide +kernel
theorem dX3_tellCount_101 : decode cX3_tellCount 101 = .ok (.getfield 63, 3) := by decide +kernel
theorem dX3_tellCount_104 : decode cX3_tellCount 104 = .ok (.ireturn, 1) := by decide +kernel
theorem dX3_tellCount_105 : decode cX3_tellCount 105 = .ok (.aload_n 0, 1) := by decide +kernel
theorem dX3_tellCount_106 : decode cX3_tellCount 106 = .ok (.getfield 12, 3) := by decide +kernel
theorem dX3_tellCount_109 : decode cX3_tellCount 109 = .ok (.aload_n 0, 1) := by decide +kernel
theorem dX3_tellCount_110 : decode cX3_tellCount 110 = .ok (.getfield 50, 3) := by decide +kernel
theorem dX3_tellCount_113 : decode cX3_tellCount 113 = .ok (.invokevirtual 165, 3) := by decide +kernel
theorem dX3_tellCount_116 : decode cX3_tellCount 116 = .ok (.ireturn, 1) := by decide +kernel
theorem dX3_tellCount_117 : decode cX3_tellCount 117 = .ok (.aload_n 0, 1) := by decide +kernel
theorem dX3_tellCount_118 : decode cX3_tellCount 118 = .ok (.getfield 12, 3) := by decide +kernel
theorem dX3_tellCount_121 : decode cX3_tellCount 121 = .ok (.getfield 168, 3) := by decide +kernel
theorem dX3_tellCount_124 : decode cX3_tellCount 124 = .ok (.ireturn, 1) := by decide +kernel
theorem dX3_tellCount_125 : decode cX3_tellCount 125 = .ok (.ldc 70, 2) := by decide +kernel
theorem dX3_tellCount_127 : decode cX3_tellCount 127 = .ok (.ireturn, 1) := by decide +kernel
theorem dX4_init_0 : decode cX4_init 0 = .ok (.aload_n 0, 1) := by decide +kernel
theorem dX4_init_1 : decode cX4_init 1 = .ok (.invokespecial 3, 3) := by decide +kernel
theorem dX4_init_4 : decode cX4_init 4 = .ok (.aload_n 0, 1) := by decide +kernel
theorem dX4_init_5 : decode cX4_init 5 = .ok (.bipush 12, 2) := by decide +kernel
theorem dX4_init_7 : decode cX4_init 7 = .ok (.newarray .int, 2) := by decide +kernel
theorem dX4_init_9 : decode cX4_init 9 = .ok (.putfield 9, 3) := by decide +kernel
theorem dX4_init_12 : decode cX4_init 12 = .ok (.aload_n 0, 1) := by decide +kernel
theorem dX4_init_13 : decode cX4_init 13 = .ok (.bipush 12, 2) := by decide +kernel
theorem dX4_init_15 : decode cX4_init 15 = .ok (.newarray .int, 2) := by decide +kernel
theorem dX4_init_17 : decode cX4_init 17 = .ok (.putfield 15, 3) := by decide +kernel
theorem dX4_init_20 : decode cX4_init 20 = .ok (.aload_n 0, 1) := by decide +kernel
theorem dX4_init_21 : decode cX4_init 21 = .ok (.bipush 12, 2) := by decide +kernel
theorem dX4_init_23 : decode cX4_init 23 = .ok (.newarray .int, 2) := by decide +kernel
theorem dX4_init_25 : decode cX4_init 25 = .ok (.putfield 18, 3) := by decide +kernel
theorem dX4_init_28 : decode cX4_init 28 = .ok (.aload_n 0, 1) := by decide +kernel
theorem dX4_init_29 : decode cX4_init 29 = .ok (.bipush 12, 2) := by decide +kernel
theorem dX4_init_31 : decode cX4_init 31 = .ok (.newarray .int, 2) := by decide +kernel
theorem dX4_init_33 : decode cX4_init 33 = .ok (.putfield 21, 3) := by decide +kernel
theorem dX4_init_36 : decode cX4_init 36 = .ok (.return_, 1) := by decide +kernel
theorem dX4_copyFrom_0 : decode cX4_copyFrom 0 = .ok (.iconst 0, 1) := by decide +kernel
theorem dX4_copyFrom_1 : decode cX4_copyFrom 1 = .ok (.istore_n 2, 1) := by decide +kernel
theorem dX4_copyFrom_2 : decode cX4_copyFrom 2 = .ok (.iload_n 2, 1) := by decide +kernel
theorem dX4_copyFrom_3 : decode cX4_copyFrom 3 = .ok (.bipush 12, 2) := by decide +kernel
theorem dX4_copyFrom_5 : decode cX4_copyFrom 5 = .ok (.if_icmp .ge 57, 3) := by decide +kernel
theorem dX4_copyFrom_8 : decode cX4_copyFrom 8 = .ok (.aload_n 0, 1) := by decide +kernel
theorem dX4_copyFrom_9 : decode cX4_copyFrom 9 = .ok (.getfield 9, 3) := by decide +kernel
theorem dX4_copyFrom_12 : decode cX4_copyFrom 12 = .ok (.iload_n 2, 1) := by decide +kernel
theorem dX4_copyFrom_13 : decode cX4_copyFrom 13 = .ok (.aload_n 1, 1) := by decide +kernel
theorem dX4_copyFrom_14 : decode cX4_copyFrom 14 = .ok (.getfield 9, 3) := by decide +kernel
theorem dX4_copyFrom_17 : decode cX4_copyFrom 17 = .ok (.iload_n 2, 1) := by decide +kernel
theorem dX4_copyFrom_18 : decode cX4_copyFrom 18 = .ok (.iaload, 1) := by decide +kernel
theorem dX4_copyFrom_19 : decode cX4_copyFrom 19 = .ok (.iastore, 1) := by decide +kernel
theorem dX4_copyFrom_20 : decode cX4_copyFrom 20 = .ok (.aload_n 0, 1) := by decide +kernel
theorem dX4_copyFrom_21 : decode cX4_copyFrom 21 = .ok (.getfield 15, 3) := by decide +kernel
theorem dX4_copyFrom_24 : decode cX4_copyFrom 24 = .ok (.iload_n 2, 1) := by decide +kernel
theorem dX4_copyFrom_25 : decode cX4_copyFrom 25 = .ok (.aload_n 1, 1) := by decide +kernel
theorem dX4_copyFrom_26 : decode cX4_copyFrom 26 = .ok (.getfield 15, 3) := by decide +kernel
theorem dX4_copyFrom_29 : decode cX4_copyFrom 29 = .ok (.iload_n 2, 1) := by decide +kernel
theorem dX4_copyFrom_30 : decode cX4_copyFrom 30 = .ok (.iaload, 1) := by decide +kernel
theorem dX4_copyFrom_31 : decode cX4_copyFrom 31 = .ok (.iastore, 1) := by decide +kernel
theorem dX4_copyFrom_32 : decode cX4_copyFrom 32 = .ok (.aload_n 0, 1) := by decide +kernel
theorem dX4_copyFrom_33 : decode cX4_copyFrom 33 = .ok (.getfield 18, 3) := by decide +kernel
theorem dX4_copyFrom_36 : decode cX4_copyFrom 36 = .ok (.iload_n 2, 1) := by decide +kernel
theorem dX4_copyFrom_37 : decode cX4_copyFrom 37 = .ok (.aload_n 1, 1) := by decide +kernel
theorem dX4_copyFrom_38 : decode cX4_copyFrom 38 = .ok (.getfield 18, 3) := by decide +kernel
theorem dX4_copyFrom_41 : decode cX4_copyFrom 41 = .ok (.iload_n 2, 1) := by decide +kernel
theorem dX4_copyFrom_42 : decode cX4_copyFrom 42 = .ok (.iaload, 1) := by decide +kernel
theorem dX4_copyFrom_43 : decode cX4_copyFrom 43 = .ok (.iastore, 1) := by decide +kernel
theorem dX4_copyFrom_44 : decode cX4_copyFrom 44 = .ok (.aload_n 0, 1) := by decide +kernel
theorem dX4_copyFrom_45 : decode cX4_copyFrom 45 = .ok (.getfield 21, 3) := by decide +kernel
theorem dX4_copyFrom_48 : decode cX4_copyFrom 48 = .ok (.iload_n 2, 1) := by decide +kernel
theorem dX4_copyFrom_49 : decode cX4_copyFrom 49 = .ok (.aload_n 1, 1) := by decide +kernel
theorem dX4_copyFrom_50 : decode cX4_copyFrom 50 = .ok (.getfield 21, 3) := by decide +kernel
theorem dX4_copyFrom_53 : decode cX4_copyFrom 53 = .ok (.iload_n 2, 1) := by decide +kernel
theorem dX4_copyFrom_54 : decode cX4_copyFrom 54 = .ok (.iaload, 1) := by decide +kernel
theorem dX4_copyFrom_55 : decode cX4_copyFrom 55 = .ok (.iastore, 1) := by decide +kernel
theorem dX4_copyFrom_56 : decode cX4_copyFrom 56 = .ok (.iinc 2 1, 3) := by decide +kernel
theorem dX4_copyFrom_59 : decode cX4_copyFrom 59 = .ok (.goto (-57), 3) := by decide +kernel
theorem dX4_copyFrom_62 : decode cX4_copyFrom 62 = .ok (.aload_n 0, 1) := by decide +kernel
theorem dX4_copyFrom_63 : decode cX4_copyFrom 63 = .ok (.aload_n 1, 1) := by decide +kernel
theorem dX4_copyFrom_64 : decode cX4_copyFrom 64 = .ok (.getfield 24, 3) := by decide +kernel
theorem dX4_copyFrom_67 : decode cX4_copyFrom 67 = .ok (.putfield 24, 3) := by decide +kernel
theorem dX4_copyFrom_70 : decode cX4_copyFrom 70 = .ok (.aload_n 0, 1) := by decide +kernel
theorem dX4_copyFrom_71 : decode cX4_copyFrom 71 = .ok (.aload_n 1, 1) := by decide +kernel
theorem dX4_copyFrom_72 : decode cX4_copyFrom 72 = .ok (.getfield 28, 3) := by decide +kernel
theorem dX4_copyFrom_75 : decode cX4_copyFrom 75 = .ok (.putfield 28, 3) := by decide +kernel
theorem dX4_copyFrom_78 : decode cX4_copyFrom 78 = .ok (.return_, 1) := by decide +kernel
theorem dX4_rowOf_0 : decode cX4_rowOf 0 = .ok (.iconst 0, 1) := by decide +kernel
theorem dX4_rowOf_1 : decode cX4_rowOf 1 = .ok (.istore_n 2, 1) := by decide +kernel
theorem dX4_rowOf_2 : decode cX4_rowOf 2 = .ok (.iload_n 2, 1) := by decide +kernel
theorem dX4_rowOf_3 : decode cX4_rowOf 3 = .ok (.aload_n 0, 1) := by decide +kernel
theorem dX4_rowOf_4 : decode cX4_rowOf 4 = .ok (.getfield 24, 3) := by decide +kernel
theorem dX4_rowOf_7 : decode cX4_rowOf 7 = .ok (.if_icmp .ge 21, 3) := by decide +kernel
theorem dX4_rowOf_10 : decode cX4_rowOf 10 = .ok (.aload_n 0, 1) := by decide +kernel
theorem dX4_rowOf_11 : decode cX4_rowOf 11 = .ok (.getfield 9, 3) := by decide +kernel
theorem dX4_rowOf_14 : decode cX4_rowOf 14 = .ok (.iload_n 2, 1) := by decide +kernel
theorem dX4_rowOf_15 : decode cX4_rowOf 15 = .ok (.iaload, 1) := by decide +kernel
theorem dX4_rowOf_16 : decode cX4_rowOf 16 = .ok (.iload_n 1, 1) := by decide +kernel
theorem dX4_rowOf_17 : decode cX4_rowOf 17 = .ok (.if_icmp .ne 5, 3) := by decide +kernel
theorem dX4_rowOf_20 : decode cX4_rowOf 20 = .ok (.iload_n 2, 1) := by decide +kernel
theorem dX4_rowOf_21 : decode cX4_rowOf 21 = .ok (.ireturn, 1) := by decide +kernel
theorem dX4_rowOf_22 : decode cX4_rowOf 22 = .ok (.iinc 2 1, 3) := by decide +kernel
theorem dX4_rowOf_25 : decode cX4_rowOf 25 = .ok (.goto (-23), 3) := by decide +kernel
theorem dX4_rowOf_28 : decode cX4_rowOf 28 = .ok (.iconst (-1), 1) := by decide +kernel
theorem dX4_rowOf_29 : decode cX4_rowOf 29 = .ok (.ireturn, 1) := by decide +kernel
theorem dX4_isFull_0 : decode cX4_isFull 0 = .ok (.aload_n 0, 1) := by decide +kernel
theorem dX4_isFull_1 : decode cX4_isFull 1 = .ok (.getfield 24, 3) := by decide +kernel
theorem dX4_isFull_4 : decode cX4_isFull 4 = .ok (.bipush 12, 2) := by decide +kernel
theorem dX4_isFull_6 : decode cX4_isFull 6 = .ok (.if_icmp .lt 7, 3) := by decide +kernel
theorem dX4_isFull_9 : decode cX4_isFull 9 = .ok (.iconst 1, 1) := by decide +kernel
theorem dX4_isFull_10 : decode cX4_isFull 10 = .ok (.goto 4, 3) := by decide +kernel
theorem dX4_isFull_13 : decode cX4_isFull 13 = .ok (.iconst 0, 1) := by decide +kernel
theorem dX4_isFull_14 : decode cX4_isFull 14 = .ok (.ireturn, 1) := by decide +kernel
set_option maxRecDepth 20000 in
theorem ggX4_add_X4_isFull : GoodIn wsX4_add wsX4_isFull := goodIn_r _ [12, 3, 13, 14, 15, 16, 17, 18] (by decide +kernel) (by decide +kernel)
set_option maxRecDepth 20000 in
theorem gX4_add_X4_isFull : GoodIn wsX4_add (wsV RX4 31 RX4 yX4_isFull wsX4_isFull) := goodIn_app (goodIn_of _ (by decide +kernel)) ggX4_add_X4_isFull
theorem dX4_add_0 : decode cX4_add 0 = .ok (.aload_n 0, 1) := by decide +kernel
theorem dX4_add_1 : decode cX4_add 1 = .ok (.invokevirtual 31, 3) := by decide +kernel
theorem dX4_add_4 : decode cX4_add 4 = .ok (.ifCond .eq 6, 3) := by decide +kernel
theorem dX4_add_7 : decode cX4_add 7 = .ok (.ldc 35, 2) := by decide +kernel
theorem dX4_add_9 : decode cX4_add 9 = .ok (.ireturn, 1) := by decide +kernel
theorem dX4_add_10 : decode cX4_add 10 = .ok (.aload_n 0, 1) := by decide +kernel
theorem dX4_add_11 : decode cX4_add 11 = .ok (.getfield 9, 3) := by decide +kernel
theorem dX4_add_14 : decode cX4_add 14 = .ok (.aload_n 0, 1) := by decide +kernel
theorem dX4_add_15 : decode cX4_add 15 = .ok (.getfield 24, 3) := by decide +kernel
theorem dX4_add_18 : decode cX4_add 18 = .ok (.aload_n 0, 1) := by decide +kernel
theorem dX4_add_19 : decode cX4_add 19 = .ok (.getfield 28, 3) := by decide +kernel
theorem dX4_add_22 : decode cX4_add 22 = .ok (.iastore, 1) := by decide +kernel
theorem dX4_add_23 : decode cX4_add 23 = .ok (.aload_n 0, 1) := by decide +kernel
theorem dX4_add_24 : decode cX4_add 24 = .ok (.getfield 15, 3) := by decide +kernel
theorem dX4_add_27 : decode cX4_add 27 = .ok (.aload_n 0, 1) := by decide +kernel
theorem dX4_add_28 : decode cX4_add 28 = .ok (.getfield 24, 3) := by decide +kernel
theorem dX4_add_31 : decode cX4_add 31 = .ok (.iload_n 1, 1) := by decide +kernel
theorem dX4_add_32 : decode cX4_add 32 = .ok (.iastore, 1) := by decide +kernel
theorem dX4_add_33 : decode cX4_add 33 = .ok (.aload_n 0, 1) := by decide +kernel
theorem dX4_add_34 : decode cX4_add 34 = .ok (.getfield 18, 3) := by decide +kernel
theorem dX4_add_37 : decode cX4_add 37 = .ok (.aload_n 0, 1) := by decide +kernel
theorem dX4_add_38 : decode cX4_add 38 = .ok (.getfield 24, 3) := by decide +kernel
theorem dX4_add_41 : decode cX4_add 41 = .ok (.iload_n 2, 1) := by decide +kernel
theorem dX4_add_42 : decode cX4_add 42 = .ok (.iastore, 1) := by decide +kernel
theorem dX4_add_43 : decode cX4_add 43 = .ok (.aload_n 0, 1) := by decide +kernel
theorem dX4_add_44 : decode cX4_add 44 = .ok (.getfield 21, 3) := by decide +kernel
theorem dX4_add_47 : decode cX4_add 47 = .ok (.aload_n 0, 1) := by decide +kernel
theorem dX4_add_48 : decode cX4_add 48 = .ok (.getfield 24, 3) := by decide +kernel
theorem dX4_add_51 : decode cX4_add 51 = .ok (.iload_n 3, 1) := by decide +kernel
theorem dX4_add_52 : decode cX4_add 52 = .ok (.iastore, 1) := by decide +kernel
theorem dX4_add_53 : decode cX4_add 53 = .ok (.aload_n 0, 1) := by decide +kernel
theorem dX4_add_54 : decode cX4_add 54 = .ok (.dup, 1) := by decide +kernel
theorem dX4_add_55 : decode cX4_add 55 = .ok (.getfield 24, 3) := by decide +kernel
theorem dX4_add_58 : decode cX4_add 58 = .ok (.iconst 1, 1) := by decide +kernel
theorem dX4_add_59 : decode cX4_add 59 = .ok (.iadd, 1) := by decide +kernel
theorem dX4_add_60 : decode cX4_add 60 = .ok (.putfield 24, 3) := by decide +kernel
theorem dX4_add_63 : decode cX4_add 63 = .ok (.aload_n 0, 1) := by decide +kernel
theorem dX4_add_64 : decode cX4_add 64 = .ok (.dup, 1) := by decide +kernel
theorem dX4_add_65 : decode cX4_add 65 = .ok (.getfield 28, 3) := by decide +kernel
theorem dX4_add_68 : decode cX4_add 68 = .ok (.iconst 1, 1) := by decide +kernel
theorem dX4_add_69 : decode cX4_add 69 = .ok (.iadd, 1) := by decide +kernel
theorem dX4_add_70 : decode cX4_add 70 = .ok (.putfield 28, 3) := by decide +kernel
theorem dX4_add_73 : decode cX4_add 73 = .ok (.aload_n 0, 1) := by decide +kernel
theorem dX4_add_74 : decode cX4_add 74 = .ok (.getfield 28, 3) := by decide +kernel
theorem dX4_add_77 : decode cX4_add 77 = .ok (.iconst 1, 1) := by decide +kernel
theorem dX4_add_78 : decode cX4_add 78 = .ok (.isub, 1) := by decide +kernel
theorem dX4_add_79 : decode cX4_add 79 = .ok (.ireturn, 1) := by decide +kernel
theorem dX4_dropEmpty_0 : decode cX4_dropEmpty 0 = .ok (.iconst 0, 1) := by decide +kernel
theorem dX4_dropEmpty_1 : decode cX4_dropEmpty 1 = .ok (.istore_n 1, 1) := by decide +kernel
theorem dX4_dropEmpty_2 : decode cX4_dropEmpty 2 = .ok (.iconst 0, 1) := by decide +kernel
theorem dX4_dropEmpty_3 : decode cX4_dropEmpty 3 = .ok (.istore_n 2, 1) := by decide +kernel
theorem dX4_dropEmpty_4 : decode cX4_dropEmpty 4 = .ok (.iload_n 2, 1) := by decide +kernel
theorem dX4_dropEmpty_5 : decode cX4_dropEmpty 5 = .ok (.aload_n 0, 1) := by decide +kernel
theorem dX4_dropEmpty_6 : decode cX4_dropEmpty 6 = .ok (.getfield 24, 3) := by decide +kernel
theorem dX4_dropEmpty_9 : decode cX4_dropEmpty 9 = .ok (.if_icmp .ge 69, 3) := by decide +kernel
theorem dX4_dropEmpty_12 : decode cX4_dropEmpty 12 = .ok (.aload_n 0, 1) := by decide +kernel
theorem dX4_dropEmpty_13 : decode cX4_dropEmpty 13 = .ok (.getfield 15, 3) := by decide +kernel
theorem dX4_dropEmpty_16 : decode cX4_dropEmpty 16 = .ok (.iload_n 2, 1) := by decide +kernel
theorem dX4_dropEmpty_17 : decode cX4_dropEmpty 17 = .ok (.iaload, 1) := by decide +kernel
theorem dX4_dropEmpty_18 : decode cX4_dropEmpty 18 = .ok (.ifCond .le 54, 3) := by decide +kernel
theorem dX4_dropEmpty_21 : decode cX4_dropEmpty 21 = .ok (.aload_n 0, 1) := by decide +kernel
theorem dX4_dropEmpty_22 : decode cX4_dropEmpty 22 = .ok (.getfield 9, 3) := by decide +kernel
theorem dX4_dropEmpty_25 : decode cX4_dropEmpty 25 = .ok (.iload_n 1, 1) := by decide +kernel
theorem dX4_dropEmpty_26 : decode cX4_dropEmpty 26 = .ok (.aload_n 0, 1) := by decide +kernel
theorem dX4_dropEmpty_27 : decode cX4_dropEmpty 27 = .ok (.getfield 9, 3) := by decide +kernel
theorem dX4_dropEmpty_30 : decode cX4_dropEmpty 30 = .ok (.iload_n 2, 1) := by decide +kernel
theorem dX4_dropEmpty_31 : decode cX4_dropEmpty 31 = .ok (.iaload, 1) := by decide +kernel
theorem dX4_dropEmpty_32 : decode cX4_dropEmpty 32 = .ok (.iastore, 1) := by decide +kernel
theorem dX4_dropEmpty_33 : decode cX4_dropEmpty 33 = .ok (.aload_n 0, 1) := by decide +kernel
theorem dX4_dropEmpty_34 : decode cX4_dropEmpty 34 = .ok (.getfield 15, 3) := by decide +kernel
theorem dX4_dropEmpty_37 : decode cX4_dropEmpty 37 = .ok (.iload_n 1, 1) := by decide +kernel
theorem dX4_dropEmpty_38 : decode cX4_dropEmpty 38 = .ok (.aload_n 0, 1) := by decide +kernel
theorem dX4_dropEmpty_39 : decode cX4_dropEmpty 39 = .ok (.getfield 15, 3) := by decide +kernel
theorem dX4_dropEmpty_42 : decode cX4_dropEmpty 42 = .ok (.iload_n 2, 1) := by decide +kernel
theorem dX4_dropEmpty_43 : decode cX4_dropEmpty 43 = .ok (.iaload, 1) := by decide +kernel
theorem dX4_dropEmpty_44 : decode cX4_dropEmpty 44 = .ok (.iastore, 1) := by decide +kernel
theorem dX4_dropEmpty_45 : decode cX4_dropEmpty 45 = .ok (.aload_n 0, 1) := by decide +kernel
theorem dX4_dropEmpty_46 : decode cX4_dropEmpty 46 = .ok (.getfield 18, 3) := by decide +kernel
theorem dX4_dropEmpty_49 : decode cX4_dropEmpty 49 = .ok (.iload_n 1, 1) := by decide +kernel
theorem dX4_dropEmpty_50 : decode cX4_dropEmpty 50 = .ok (.aload_n 0, 1) := by decide +kernel
theorem dX4_dropEmpty_51 : decode cX4_dropEmpty 51 = .ok (.getfield 18, 3) := by decide +kernel
theorem dX4_dropEmpty_54 : decode cX4_dropEmpty 54 = .ok (.iload_n 2, 1) := by decide +kernel
theorem dX4_dropEmpty_55 : decode cX4_dropEmpty 55 = .ok (.iaload, 1) := by decide +kernel
theorem dX4_dropEmpty_56 : decode cX4_dropEmpty 56 = .ok (.iastore, 1) := by decide +kernel
theorem dX4_dropEmpty_57 : decode cX4_dropEmpty 57 = .ok (.aload_n 0, 1) := by decide +kernel
theorem dX4_dropEmpty_58 : decode cX4_dropEmpty 58 = .ok (.getfield 21, 3) := by decide +kernel
theorem dX4_dropEmpty_61 : decode cX4_dropEmpty 61 = .ok (.iload_n 1, 1) := by decide +kernel
theorem dX4_dropEmpty_62 : decode cX4_dropEmpty 62 = .ok (.aload_n 0, 1) := by decide +kernel
theorem dX4_dropEmpty_63 : decode cX4_dropEmpty 63 = .ok (.getfield 21, 3) := by decide +kernel
theorem dX4_dropEmpty_66 : decode cX4_dropEmpty 66 = .ok (.iload_n 2, 1) := by decide +kernel
theorem dX4_dropEmpty_67 : decode cX4_dropEmpty 67 = .ok (.iaload, 1) := by decide +kernel
theorem dX4_dropEmpty_68 : decode cX4_dropEmpty 68 = .ok (.iastore, 1) := by decide +kernel
theorem dX4_dropEmpty_69 : decode cX4_dropEmpty 69 = .ok (.iinc 1 1, 3) := by decide +kernel
theorem dX4_dropEmpty_72 : decode cX4_dropEmpty 72 = .ok (.iinc 2 1, 3) := by decide +kernel
theorem dX4_dropEmpty_75 : decode cX4_dropEmpty 75 = .ok (.goto (-71), 3) := by decide +kernel
theorem dX4_dropEmpty_78 : decode cX4_dropEmpty 78 = .ok (.aload_n 0, 1) := by decide +kernel
theorem dX4_dropEmpty_79 : decode cX4_dropEmpty 79 = .ok (.iload_n 1, 1) := by decide +kernel
theorem dX4_dropEmpty_80 : decode cX4_dropEmpty 80 = .ok (.putfield 24, 3) := by decide +kernel
theorem dX4_dropEmpty_83 : decode cX4_dropEmpty 83 = .ok (.return_, 1) := by decide +kernel
theorem dX4_cupAt_0 : decode cX4_cupAt 0 = .ok (.aload_n 0, 1) := by decide +kernel
theorem dX4_cupAt_1 : decode cX4_cupAt 1 = .ok (.getfield 18, 3) := by decide +kernel
theorem dX4_cupAt_4 : decode cX4_cupAt 4 = .ok (.iload_n 1, 1) := by decide +kernel
theorem dX4_cupAt_5 : decode cX4_cupAt 5 = .ok (.iaload, 1) := by decide +kernel
theorem dX4_cupAt_6 : decode cX4_cupAt 6 = .ok (.iload_n 2, 1) := by decide +kernel
theorem dX4_cupAt_7 : decode cX4_cupAt 7 = .ok (.aload_n 0, 1) := by decide +kernel
theorem dX4_cupAt_8 : decode cX4_cupAt 8 = .ok (.getfield 21, 3) := by decide +kernel
theorem dX4_cupAt_11 : decode cX4_cupAt 11 = .ok (.iload_n 1, 1) := by decide +kernel
theorem dX4_cupAt_12 : decode cX4_cupAt 12 = .ok (.iaload, 1) := by decide +kernel
theorem dX4_cupAt_13 : decode cX4_cupAt 13 = .ok (.isub, 1) := by decide +kernel
theorem dX4_cupAt_14 : decode cX4_cupAt 14 = .ok (.iconst 4, 1) := by decide +kernel
theorem dX4_cupAt_15 : decode cX4_cupAt 15 = .ok (.idiv, 1) := by decide +kernel
theorem dX4_cupAt_16 : decode cX4_cupAt 16 = .ok (.isub, 1) := by decide +kernel
theorem dX4_cupAt_17 : decode cX4_cupAt 17 = .ok (.istore_n 3, 1) := by decide +kernel
theorem dX4_cupAt_18 : decode cX4_cupAt 18 = .ok (.iload_n 3, 1) := by decide +kernel
theorem dX4_cupAt_19 : decode cX4_cupAt 19 = .ok (.bipush 60, 2) := by decide +kernel
theorem dX4_cupAt_21 : decode cX4_cupAt 21 = .ok (.if_icmp .ge 8, 3) := by decide +kernel
theorem dX4_cupAt_24 : decode cX4_cupAt 24 = .ok (.bipush 60, 2) := by decide +kernel
theorem dX4_cupAt_26 : decode cX4_cupAt 26 = .ok (.goto 4, 3) := by decide +kernel
theorem dX4_cupAt_29 : decode cX4_cupAt 29 = .ok (.iload_n 3, 1) := by decide +kernel
theorem dX4_cupAt_30 : decode cX4_cupAt 30 = .ok (.ireturn, 1) := by decide +kernel
theorem dX4_monthsTooOld_0 : decode cX4_monthsTooOld 0 = .ok (.iload_n 2, 1) := by decide +kernel
theorem dX4_monthsTooOld_1 : decode cX4_monthsTooOld 1 = .ok (.aload_n 0, 1) := by decide +kernel
theorem dX4_monthsTooOld_2 : decode cX4_monthsTooOld 2 = .ok (.getfield 21, 3) := by decide +kernel
theorem dX4_monthsTooOld_5 : decode cX4_monthsTooOld 5 = .ok (.iload_n 1, 1) := by decide +kernel
theorem dX4_monthsTooOld_6 : decode cX4_monthsTooOld 6 = .ok (.iaload, 1) := by decide +kernel
theorem dX4_monthsTooOld_7 : decode cX4_monthsTooOld 7 = .ok (.isub, 1) := by decide +kernel
theorem dX4_monthsTooOld_8 : decode cX4_monthsTooOld 8 = .ok (.iconst 3, 1) := by decide +kernel
theorem dX4_monthsTooOld_9 : decode cX4_monthsTooOld 9 = .ok (.isub, 1) := by decide +kernel
theorem dX4_monthsTooOld_10 : decode cX4_monthsTooOld 10 = .ok (.istore_n 3, 1) := by decide +kernel
theorem dX4_monthsTooOld_11 : decode cX4_monthsTooOld 11 = .ok (.iload_n 3, 1) := by decide +kernel
theorem dX4_monthsTooOld_12 : decode cX4_monthsTooOld 12 = .ok (.ifCond .ge 7, 3) := by decide +kernel
theorem dX4_monthsTooOld_15 : decode cX4_monthsTooOld 15 = .ok (.iconst 0, 1) := by decide +kernel
theorem dX4_monthsTooOld_16 : decode cX4_monthsTooOld 16 = .ok (.goto 4, 3) := by decide +kernel
theorem dX4_monthsTooOld_19 : decode cX4_monthsTooOld 19 = .ok (.iload_n 3, 1) := by decide +kernel
theorem dX4_monthsTooOld_20 : decode cX4_monthsTooOld 20 = .ok (.ireturn, 1) := by decide +kernel
theorem dX4_allBags_0 : decode cX4_allBags 0 = .ok (.iconst 0, 1) := by decide +kernel
theorem dX4_allBags_1 : decode cX4_allBags 1 = .ok (.istore_n 1, 1) := by decide +kernel
theorem dX4_allBags_2 : decode cX4_allBags 2 = .ok (.iconst 0, 1) := by decide +kernel
theorem dX4_allBags_3 : decode cX4_allBags 3 = .ok (.istore_n 2, 1) := by decide +kernel
theorem dX4_allBags_4 : decode cX4_allBags 4 = .ok (.iload_n 2, 1) := by decide +kernel
theorem dX4_allBags_5 : decode cX4_allBags 5 = .ok (.aload_n 0, 1) := by decide +kernel
theorem dX4_allBags_6 : decode cX4_allBags 6 = .ok (.getfield 24, 3) := by decide +kernel
theorem dX4_allBags_9 : decode cX4_allBags 9 = .ok (.if_icmp .ge 18, 3) := by decide +kernel
theorem dX4_allBags_12 : decode cX4_allBags 12 = .ok (.iload_n 1, 1) := by decide +kernel
theorem dX4_allBags_13 : decode cX4_allBags 13 = .ok (.aload_n 0, 1) := by decide +kernel
theorem dX4_allBags_14 : decode cX4_allBags 14 = .ok (.getfield 15, 3) := by decide +kernel
theorem dX4_allBags_17 : decode cX4_allBags 17 = .ok (.iload_n 2, 1) := by decide +kernel
theorem dX4_allBags_18 : decode cX4_allBags 18 = .ok (.iaload, 1) := by decide +kernel
theorem dX4_allBags_19 : decode cX4_allBags 19 = .ok (.iadd, 1) := by decide +kernel
theorem dX4_allBags_20 : decode cX4_allBags 20 = .ok (.istore_n 1, 1) := by decide +kernel
theorem dX4_allBags_21 : decode cX4_allBags 21 = .ok (.iinc 2 1, 3) := by decide +kernel
theorem dX4_allBags_24 : decode cX4_allBags 24 = .ok (.goto (-20), 3) := by decide +kernel
theorem dX4_allBags_27 : decode cX4_allBags 27 = .ok (.iload_n 1, 1) := by decide +kernel
theorem dX4_allBags_28 : decode cX4_allBags 28 = .ok (.ireturn, 1) := by decide +kernel
set_option maxRecDepth 20000 in
theorem ggX4_bagsToGive_X4_cupAt : GoodIn wsX4_bagsToGive wsX4_cupAt := goodIn_r _ [7, 8, 9, 10, 11, 12, 13, 14, 15] (by decide +kernel) (by decide +kernel)
set_option maxRecDepth 20000 in
theorem gX4_bagsToGive_X4_cupAt : GoodIn wsX4_bagsToGive (wsV RX4 36 RX4 yX4_cupAt wsX4_cupAt) := goodIn_app (goodIn_of _ (by decide +kernel)) ggX4_bagsToGive_X4_cupAt
theorem dX4_bagsToGive_0 : decode cX4_bagsToGive 0 = .ok (.iconst 0, 1) := by decide +kernel
theorem dX4_bagsToGive_1 : decode cX4_bagsToGive 1 = .ok (.istore_n 2, 1) := by decide +kernel
theorem dX4_bagsToGive_2 : decode cX4_bagsToGive 2 = .ok (.iconst 0, 1) := by decide +kernel
theorem dX4_bagsToGive_3 : decode cX4_bagsToGive 3 = .ok (.istore_n 3, 1) := by decide +kernel
theorem dX4_bagsToGive_4 : decode cX4_bagsToGive 4 = .ok (.iload_n 3, 1) := by decide +kernel
theorem dX4_bagsToGive_5 : decode cX4_bagsToGive 5 = .ok (.aload_n 0, 1) := by decide +kernel
theorem dX4_bagsToGive_6 : decode cX4_bagsToGive 6 = .ok (.getfield 24, 3) := by decide +kernel
theorem dX4_bagsToGive_9 : decode cX4_bagsToGive 9 = .ok (.if_icmp .ge 29, 3) := by decide +kernel
theorem dX4_bagsToGive_12 : decode cX4_bagsToGive 12 = .ok (.aload_n 0, 1) := by decide +kernel
theorem dX4_bagsToGive_13 : decode cX4_bagsToGive 13 = .ok (.iload_n 3, 1) := by decide +kernel
theorem dX4_bagsToGive_14 : decode cX4_bagsToGive 14 = .ok (.iload_n 1, 1) := by decide +kernel
theorem dX4_bagsToGive_15 : decode cX4_bagsToGive 15 = .ok (.invokevirtual 36, 3) := by decide +kernel
theorem dX4_bagsToGive_18 : decode cX4_bagsToGive 18 = .ok (.bipush 70, 2) := by decide +kernel
theorem dX4_bagsToGive_20 : decode cX4_bagsToGive 20 = .ok (.if_icmp .lt 12, 3) := by decide +kernel
theorem dX4_bagsToGive_23 : decode cX4_bagsToGive 23 = .ok (.iload_n 2, 1) := by decide +kernel
theorem dX4_bagsToGive_24 : decode cX4_bagsToGive 24 = .ok (.aload_n 0, 1) := by decide +kernel
theorem dX4_bagsToGive_25 : decode cX4_bagsToGive 25 = .ok (.getfield 15, 3) := by decide +kernel
theorem dX4_bagsToGive_28 : decode cX4_bagsToGive 28 = .ok (.iload_n 3, 1) := by decide +kernel
theorem dX4_bagsToGive_29 : decode cX4_bagsToGive 29 = .ok (.iaload, 1) := by decide +kernel
theorem dX4_bagsToGive_30 : decode cX4_bagsToGive 30 = .ok (.iadd, 1) := by decide +kernel
theorem dX4_bagsToGive_31 : decode cX4_bagsToGive 31 = .ok (.istore_n 2, 1) := by decide +kernel
theorem dX4_bagsToGive_32 : decode cX4_bagsToGive 32 = .ok (.iinc 3 1, 3) := by decide +kernel
theorem dX4_bagsToGive_35 : decode cX4_bagsToGive 35 = .ok (.goto (-31), 3) := by decide +kernel
theorem dX4_bagsToGive_38 : decode cX4_bagsToGive 38 = .ok (.iload_n 2, 1) := by decide +kernel
theorem dX4_bagsToGive_39 : decode cX4_bagsToGive 39 = .ok (.ireturn, 1) := by decide +kernel
end
section
theorem dX5_init_0 : decode cX5_init 0 = .ok (.aload_n 0, 1) := by decide +kernel
theorem dX5_init_1 : decode cX5_init 1 = .ok (.invokespecial 3, 3) := by decide +kernel
theorem dX5_init_4 : decode cX5_init 4 = .ok (.aload_n 0, 1) := by decide +kernel
theorem dX5_init_5 : decode cX5_init 5 = .ok (.bipush 60, 2) := by decide +kernel
theorem dX5_init_7 : decode cX5_init 7 = .ok (.newarray .char, 2) := by decide +kernel
theorem dX5_init_9 : decode cX5_init 9 = .ok (.putfield 9, 3) := by decide +kernel
theorem dX5_init_12 : decode cX5_init 12 = .ok (.aload_n 0, 1) := by decide +kernel
theorem dX5_init_13 : decode cX5_init 13 = .ok (.iconst 4, 1) := by decide +kernel
theorem dX5_init_14 : decode cX5_init 14 = .ok (.newarray .int, 2) := by decide +kernel
theorem dX5_init_16 : decode cX5_init 16 = .ok (.putfield 15, 3) := by decide +kernel
theorem dX5_init_19 : decode cX5_init 19 = .ok (.return_, 1) := by decide +kernel
theorem dX5_append_0 : decode cX5_append 0 = .ok (.aload_n 0, 1) := by decide +kernel
theorem dX5_append_1 : decode cX5_append 1 = .ok (.getfield 19, 3) := by decide +kernel
theorem dX5_append_4 : decode cX5_append 4 = .ok (.bipush 60, 2) := by decide +kernel
theorem dX5_append_6 : decode cX5_append 6 = .ok (.if_icmp .lt 6, 3) := by decide +kernel
theorem dX5_append_9 : decode cX5_append 9 = .ok (.ldc 23, 2) := by decide +kernel
theorem dX5_append_11 : decode cX5_append 11 = .ok (.ireturn, 1) := by decide +kernel
theorem dX5_append_12 : decode cX5_append 12 = .ok (.aload_n 0, 1) := by decide +kernel
theorem dX5_append_13 : decode cX5_append 13 = .ok (.getfield 9, 3) := by decide +kernel
theorem dX5_append_16 : decode cX5_append 16 = .ok (.aload_n 0, 1) := by decide +kernel
theorem dX5_append_17 : decode cX5_append 17 = .ok (.getfield 19, 3) := by decide +kernel
theorem dX5_append_20 : decode cX5_append 20 = .ok (.iload_n 1, 1) := by decide +kernel
theorem dX5_append_21 : decode cX5_append 21 = .ok (.castore, 1) := by decide +kernel
theorem dX5_append_22 : decode cX5_append 22 = .ok (.aload_n 0, 1) := by decide +kernel
theorem dX5_append_23 : decode cX5_append 23 = .ok (.dup, 1) := by decide +kernel
theorem dX5_append_24 : decode cX5_append 24 = .ok (.getfield 19, 3) := by decide +kernel
theorem dX5_append_27 : decode cX5_append 27 = .ok (.iconst 1, 1) := by decide +kernel
theorem dX5_append_28 : decode cX5_append 28 = .ok (.iadd, 1) := by decide +kernel
theorem dX5_append_29 : decode cX5_append 29 = .ok (.putfield 19, 3) := by decide +kernel
theorem dX5_append_32 : decode cX5_append 32 = .ok (.aload_n 0, 1) := by decide +kernel
theorem dX5_append_33 : decode cX5_append 33 = .ok (.getfield 19, 3) := by decide +kernel
theorem dX5_append_36 : decode cX5_append 36 = .ok (.ireturn, 1) := by decide +kernel
set_option maxRecDepth 20000 in
theorem ggX5_runOn_X5_readOrder : GoodIn wsX5_runOn wsX5_readOrder := goodIn_r _ [11, 1, 6, 12, 13, 14, 10, 15, 5, 16, 17, 18, 19, 20, 21, 22, 23, 24, 25, 26, 27, 199, 200, 201, 202, 203, 204, 205, 206] (by decide +kernel) (by decide +kernel)
set_option maxRecDepth 20000 in
theorem gX5_runOn_X5_readOrder : GoodIn wsX5_runOn (wsV RX5 36 RX5 yX5_readOrder wsX5_readOrder) := goodIn_app (goodIn_of _ (by decide +kernel)) ggX5_runOn_X5_readOrder
set_option maxRecDepth 20000 in
theorem ggX5_runOn_X5_perform : GoodIn wsX5_runOn wsX5_perform := goodIn_r _ [31, 1, 24, 32, 12, 13, 14, 10, 15, 5, 16, 33, 34, 35, 36, 37, 38, 39, 40, 41, 42, 43, 44, 45, 46, 47, 48, 49, 50, 51, 52, 53, 54, 55, 56, 57, 58, 59, 60, 61, 62, 63, 64, 65, 66, 67, 68, 69, 70, 71, 72, 73, 74, 75, 76, 77, 78, 79, 80, 81, 82, 83, 84, 85, 86, 87, 88, 89, 90, 91, 92, 93, 94, 95, 96, 97, 98, 99, 100, 101, 102, 103, 104, 105, 106, 107, 108, 109, 110, 111, 112, 113, 114, 115, 116, 117, 118, 119, 120, 121, 122, 123, 124, 125, 126, 127, 128, 129, 130, 131, 132, 133, 134, 135, 136, 137, 138, 139, 140, 141, 142, 143, 144, 145, 146, 147, 148, 149, 150, 151, 152, 153, 154, 155, 156, 157, 158, 159, 160, 161, 162, 163, 164, 165, 166, 167, 168, 169, 170, 171, 172, 173, 174, 175, 176, 177, 178, 179, 180, 181, 182, 183, 184, 185, 186, 187, 188, 189, 199, 200, 201, 202, 203, 204, 205, 206, 207, 208, 209, 210, 211, 212, 213, 214, 215, 216, 217, 218, 219, 220, 221, 222, 223, 224, 225, 226, 227, 228, 229, 230, 231, 232, 233, 234, 235, 236] (by decide +kernel) (by decide +kernel)
set_option maxRecDepth 20000 in
theorem gX5_runOn_X5_perform : GoodIn wsX5_runOn (wsV RX5 40 RX5 yX5_perform wsX5_perform) := goodIn_app (goodIn_of _ (by decide +kernel)) ggX5_runOn_X5_perform
set_option maxRecDepth 20000 in
theorem ggX5_runOn_X5_settle : GoodIn wsX5_runOn wsX5_settle := goodIn_r _ [193, 2, 3, 4, 6, 1, 194, 42, 195, 196, 197, 198, 41, 43, 199, 200, 201, 202, 203, 204, 205, 206] (by decide +kernel) (by decide +kernel)
set_option maxRecDepth 20000 in
theorem gX5_runOn_X5_settle : GoodIn wsX5_runOn (wsV RX5 44 RX5 yX5_settle wsX5_settle) := goodIn_app (goodIn_of _ (by decide +kernel)) ggX5_runOn_X5_settle
theorem dX5_runOn_0 : decode cX5_runOn 0 = .ok (.aload_n 0, 1) := by decide +kernel
theorem dX5_runOn_1 : decode cX5_runOn 1 = .ok (.iconst 0, 1) := by decide +kernel
theorem dX5_runOn_2 : decode cX5_runOn 2 = .ok (.putfield 24, 3) := by decide +kernel
theorem dX5_runOn_5 : decode cX5_runOn 5 = .ok (.aload_n 0, 1) := by decide +kernel
theorem dX5_runOn_6 : decode cX5_runOn 6 = .ok (.iconst 0, 1) := by decide +kernel
theorem dX5_runOn_7 : decode cX5_runOn 7 = .ok (.putfield 27, 3) := by decide +kernel
theorem dX5_runOn_10 : decode cX5_runOn 10 = .ok (.aload_n 0, 1) := by decide +kernel
theorem dX5_runOn_11 : decode cX5_runOn 11 = .ok (.iconst 0, 1) := by decide +kernel
theorem dX5_runOn_12 : decode cX5_runOn 12 = .ok (.putfield 30, 3) := by decide +kernel
theorem dX5_runOn_15 : decode cX5_runOn 15 = .ok (.aload_n 0, 1) := by decide +kernel
theorem dX5_runOn_16 : decode cX5_runOn 16 = .ok (.iconst 0, 1) := by decide +kernel
theorem dX5_runOn_17 : decode cX5_runOn 17 = .ok (.putfield 33, 3) := by decide +kernel
theorem dX5_runOn_20 : decode cX5_runOn 20 = .ok (.iconst 0, 1) := by decide +kernel
theorem dX5_runOn_21 : decode cX5_runOn 21 = .ok (.istore_n 3, 1) := by decide +kernel
theorem dX5_runOn_22 : decode cX5_runOn 22 = .ok (.iload_n 3, 1) := by decide +kernel
theorem dX5_runOn_23 : decode cX5_runOn 23 = .ok (.bipush 60, 2) := by decide +kernel
theorem dX5_runOn_25 : decode cX5_runOn 25 = .ok (.if_icmp .ge 65, 3) := by decide +kernel
theorem dX5_runOn_28 : decode cX5_runOn 28 = .ok (.aload_n 0, 1) := by decide +kernel
theorem dX5_runOn_29 : decode cX5_runOn 29 = .ok (.getfield 24, 3) := by decide +kernel
theorem dX5_runOn_32 : decode cX5_runOn 32 = .ok (.aload_n 0, 1) := by decide +kernel
theorem dX5_runOn_33 : decode cX5_runOn 33 = .ok (.getfield 19, 3) := by decide +kernel
theorem dX5_runOn_36 : decode cX5_runOn 36 = .ok (.if_icmp .ge 54, 3) := by decide +kernel
theorem dX5_runOn_39 : decode cX5_runOn 39 = .ok (.aload_n 0, 1) := by decide +kernel
theorem dX5_runOn_40 : decode cX5_runOn 40 = .ok (.getfield 27, 3) := by decide +kernel
theorem dX5_runOn_43 : decode cX5_runOn 43 = .ok (.ifCond .ne 47, 3) := by decide +kernel
theorem dX5_runOn_46 : decode cX5_runOn 46 = .ok (.aload_n 0, 1) := by decide +kernel
theorem dX5_runOn_47 : decode cX5_runOn 47 = .ok (.invokevirtual 36, 3) := by decide +kernel
theorem dX5_runOn_50 : decode cX5_runOn 50 = .ok (.ifCond .eq 16, 3) := by decide +kernel
theorem dX5_runOn_53 : decode cX5_runOn 53 = .ok (.aload_n 0, 1) := by decide +kernel
theorem dX5_runOn_54 : decode cX5_runOn 54 = .ok (.aload_n 0, 1) := by decide +kernel
theorem dX5_runOn_55 : decode cX5_runOn 55 = .ok (.aload_n 1, 1) := by decide +kernel
theorem dX5_runOn_56 : decode cX5_runOn 56 = .ok (.aload_n 2, 1) := by decide +kernel
theorem dX5_runOn_57 : decode cX5_runOn 57 = .ok (.invokevirtual 40, 3) := by decide +kernel
theorem dX5_runOn_60 : decode cX5_runOn 60 = .ok (.invokevirtual 44, 3) := by decide +kernel
theorem dX5_runOn_63 : decode cX5_runOn 63 = .ok (.goto 21, 3) := by decide +kernel
theorem dX5_runOn_66 : decode cX5_runOn 66 = .ok (.aload_n 0, 1) := by decide +kernel
theorem dX5_runOn_67 : decode cX5_runOn 67 = .ok (.iconst 1, 1) := by decide +kernel
theorem dX5_runOn_68 : decode cX5_runOn 68 = .ok (.putfield 27, 3) := by decide +kernel
theorem dX5_runOn_71 : decode cX5_runOn 71 = .ok (.aload_n 0, 1) := by decide +kernel
theorem dX5_runOn_72 : decode cX5_runOn 72 = .ok (.aload_n 0, 1) := by decide +kernel
theorem dX5_runOn_73 : decode cX5_runOn 73 = .ok (.getfield 48, 3) := by decide +kernel
theorem dX5_runOn_76 : decode cX5_runOn 76 = .ok (.aload_n 0, 1) := by decide +kernel
theorem dX5_runOn_77 : decode cX5_runOn 77 = .ok (.getfield 24, 3) := by decide +kernel
theorem dX5_runOn_80 : decode cX5_runOn 80 = .ok (.isub, 1) := by decide +kernel
theorem dX5_runOn_81 : decode cX5_runOn 81 = .ok (.putfield 30, 3) := by decide +kernel
theorem dX5_runOn_84 : decode cX5_runOn 84 = .ok (.iinc 3 1, 3) := by decide +kernel
theorem dX5_runOn_87 : decode cX5_runOn 87 = .ok (.goto (-65), 3) := by decide +kernel
theorem dX5_runOn_90 : decode cX5_runOn 90 = .ok (.return_, 1) := by decide +kernel
set_option maxRecDepth 20000 in
theorem ggX5_settle_X6_isError : GoodIn wsX5_settle wsX6_isError := goodIn_r _ [8, 9, 10, 11, 12, 7, 13] (by decide +kernel) (by decide +kernel)
set_option maxRecDepth 20000 in
theorem gX5_settle_X6_isError_n51 : GoodIn wsX5_settle (wsX6_isError) := ggX5_settle_X6_isError
theorem dX5_settle_0 : decode cX5_settle 0 = .ok (.iload_n 1, 1) := by decide +kernel
theorem dX5_settle_1 : decode cX5_settle 1 = .ok (.invokestatic 51, 3) := by decide +kernel
theorem dX5_settle_4 : decode cX5_settle 4 = .ok (.ifCond .eq 16, 3) := by decide +kernel
theorem dX5_settle_7 : decode cX5_settle 7 = .ok (.aload_n 0, 1) := by decide +kernel
theorem dX5_settle_8 : decode cX5_settle 8 = .ok (.iconst 2, 1) := by decide +kernel
theorem dX5_settle_9 : decode cX5_settle 9 = .ok (.putfield 27, 3) := by decide +kernel
theorem dX5_settle_12 : decode cX5_settle 12 = .ok (.aload_n 0, 1) := by decide +kernel
theorem dX5_settle_13 : decode cX5_settle 13 = .ok (.iload_n 1, 1) := by decide +kernel
theorem dX5_settle_14 : decode cX5_settle 14 = .ok (.putfield 30, 3) := by decide +kernel
theorem dX5_settle_17 : decode cX5_settle 17 = .ok (.goto 21, 3) := by decide +kernel
theorem dX5_settle_20 : decode cX5_settle 20 = .ok (.aload_n 0, 1) := by decide +kernel
theorem dX5_settle_21 : decode cX5_settle 21 = .ok (.dup, 1) := by decide +kernel
theorem dX5_settle_22 : decode cX5_settle 22 = .ok (.getfield 33, 3) := by decide +kernel
theorem dX5_settle_25 : decode cX5_settle 25 = .ok (.iconst 1, 1) := by decide +kernel
theorem dX5_settle_26 : decode cX5_settle 26 = .ok (.iadd, 1) := by decide +kernel
theorem dX5_settle_27 : decode cX5_settle 27 = .ok (.putfield 33, 3) := by decide +kernel
theorem dX5_settle_30 : decode cX5_settle 30 = .ok (.aload_n 0, 1) := by decide +kernel
theorem dX5_settle_31 : decode cX5_settle 31 = .ok (.aload_n 0, 1) := by decide +kernel
theorem dX5_settle_32 : decode cX5_settle 32 = .ok (.getfield 48, 3) := by decide +kernel
theorem dX5_settle_35 : decode cX5_settle 35 = .ok (.putfield 24, 3) := by decide +kernel
theorem dX5_settle_38 : decode cX5_settle 38 = .ok (.return_, 1) := by decide +kernel
set_option maxRecDepth 20000 in
theorem ggX5_readOrder_X5_signAt : GoodIn wsX5_readOrder wsX5_signAt := goodIn_r _ [7, 8, 9, 21, 22, 23, 24, 25, 26, 27, 28] (by decide +kernel) (by decide +kernel)
set_option maxRecDepth 20000 in
theorem gX5_readOrder_X5_signAt : GoodIn wsX5_readOrder (wsV RX5 55 RX5 yX5_signAt wsX5_signAt) := goodIn_app (goodIn_of _ (by decide +kernel)) ggX5_readOrder_X5_signAt
set_option maxRecDepth 20000 in
theorem ggX5_readOrder_X5_numbersOf : GoodIn wsX5_readOrder wsX5_numbersOf := goodIn_r _ [12] (by decide +kernel) (by decide +kernel)
set_option maxRecDepth 20000 in
theorem gX5_readOrder_X5_numbersOf : GoodIn wsX5_readOrder (va_wsS RX5 59 yX5_numbersOf wsX5_numbersOf) := goodIn_app (goodIn_of _ (by decide +kernel)) ggX5_readOrder_X5_numbersOf
set_option maxRecDepth 20000 in
theorem ggX5_readOrder_X5_readNumber : GoodIn wsX5_readOrder wsX5_readNumber := goodIn_r _ [16, 2, 17, 3, 4, 5, 6, 7, 8, 9, 18, 19, 20, 21, 22, 23, 24, 25, 26, 27, 28] (by decide +kernel) (by decide +kernel)
set_option maxRecDepth 20000 in
theorem gX5_readOrder_X5_readNumber : GoodIn wsX5_readOrder (wsV RX5 63 RX5 yX5_readNumber wsX5_readNumber) := goodIn_app (goodIn_of _ (by decide +kernel)) ggX5_readOrder_X5_readNumber
theorem dX5_readOrder_0 : decode cX5_readOrder 0 = .ok (.aload_n 0, 1) := by decide +kernel
theorem dX5_readOrder_1 : decode cX5_readOrder 1 = .ok (.aload_n 0, 1) := by decide +kernel
theorem dX5_readOrder_2 : decode cX5_readOrder 2 = .ok (.getfield 24, 3) := by decide +kernel
theorem dX5_readOrder_5 : decode cX5_readOrder 5 = .ok (.putfield 48, 3) := by decide +kernel
theorem dX5_readOrder_8 : decode cX5_readOrder 8 = .ok (.aload_n 0, 1) := by decide +kernel
theorem dX5_readOrder_9 : decode cX5_readOrder 9 = .ok (.aload_n 0, 1) := by decide +kernel
theorem dX5_readOrder_10 : decode cX5_readOrder 10 = .ok (.getfield 48, 3) := by decide +kernel
theorem dX5_readOrder_13 : decode cX5_readOrder 13 = .ok (.invokevirtual 55, 3) := by decide +kernel
theorem dX5_readOrder_16 : decode cX5_readOrder 16 = .ok (.invokestatic 59, 3) := by decide +kernel
theorem dX5_readOrder_19 : decode cX5_readOrder 19 = .ok (.istore_n 1, 1) := by decide +kernel
theorem dX5_readOrder_20 : decode cX5_readOrder 20 = .ok (.iload_n 1, 1) := by decide +kernel
theorem dX5_readOrder_21 : decode cX5_readOrder 21 = .ok (.ifCond .ne 5, 3) := by decide +kernel
theorem dX5_readOrder_24 : decode cX5_readOrder 24 = .ok (.iconst 0, 1) := by decide +kernel
theorem dX5_readOrder_25 : decode cX5_readOrder 25 = .ok (.ireturn, 1) := by decide +kernel
theorem dX5_readOrder_26 : decode cX5_readOrder 26 = .ok (.aload_n 0, 1) := by decide +kernel
theorem dX5_readOrder_27 : decode cX5_readOrder 27 = .ok (.dup, 1) := by decide +kernel
theorem dX5_readOrder_28 : decode cX5_readOrder 28 = .ok (.getfield 48, 3) := by decide +kernel
theorem dX5_readOrder_31 : decode cX5_readOrder 31 = .ok (.iconst 1, 1) := by decide +kernel
theorem dX5_readOrder_32 : decode cX5_readOrder 32 = .ok (.iadd, 1) := by decide +kernel
theorem dX5_readOrder_33 : decode cX5_readOrder 33 = .ok (.putfield 48, 3) := by decide +kernel
theorem dX5_readOrder_36 : decode cX5_readOrder 36 = .ok (.iconst 0, 1) := by decide +kernel
theorem dX5_readOrder_37 : decode cX5_readOrder 37 = .ok (.istore_n 2, 1) := by decide +kernel
theorem dX5_readOrder_38 : decode cX5_readOrder 38 = .ok (.iload_n 2, 1) := by decide +kernel
theorem dX5_readOrder_39 : decode cX5_readOrder 39 = .ok (.iload_n 1, 1) := by decide +kernel
theorem dX5_readOrder_40 : decode cX5_readOrder 40 = .ok (.if_icmp .ge 54, 3) := by decide +kernel
theorem dX5_readOrder_43 : decode cX5_readOrder 43 = .ok (.aload_n 0, 1) := by decide +kernel
theorem dX5_readOrder_44 : decode cX5_readOrder 44 = .ok (.iload_n 2, 1) := by decide +kernel
theorem dX5_readOrder_45 : decode cX5_readOrder 45 = .ok (.invokevirtual 63, 3) := by decide +kernel
theorem dX5_readOrder_48 : decode cX5_readOrder 48 = .ok (.ifCond .eq 28, 3) := by decide +kernel
theorem dX5_readOrder_51 : decode cX5_readOrder 51 = .ok (.aload_n 0, 1) := by decide +kernel
theorem dX5_readOrder_52 : decode cX5_readOrder 52 = .ok (.aload_n 0, 1) := by decide +kernel
theorem dX5_readOrder_53 : decode cX5_readOrder 53 = .ok (.getfield 48, 3) := by decide +kernel
theorem dX5_readOrder_56 : decode cX5_readOrder 56 = .ok (.invokevirtual 55, 3) := by decide +kernel
theorem dX5_readOrder_59 : decode cX5_readOrder 59 = .ok (.iload_n 2, 1) := by decide +kernel
theorem dX5_readOrder_60 : decode cX5_readOrder 60 = .ok (.iload_n 1, 1) := by decide +kernel
theorem dX5_readOrder_61 : decode cX5_readOrder 61 = .ok (.iconst 1, 1) := by decide +kernel
theorem dX5_readOrder_62 : decode cX5_readOrder 62 = .ok (.isub, 1) := by decide +kernel
theorem dX5_readOrder_63 : decode cX5_readOrder 63 = .ok (.if_icmp .ne 8, 3) := by decide +kernel
theorem dX5_readOrder_66 : decode cX5_readOrder 66 = .ok (.bipush 59, 2) := by decide +kernel
theorem dX5_readOrder_68 : decode cX5_readOrder 68 = .ok (.goto 5, 3) := by decide +kernel
theorem dX5_readOrder_71 : decode cX5_readOrder 71 = .ok (.bipush 44, 2) := by decide +kernel
theorem dX5_readOrder_73 : decode cX5_readOrder 73 = .ok (.if_icmp .eq 5, 3) := by decide +kernel
theorem dX5_readOrder_76 : decode cX5_readOrder 76 = .ok (.iconst 0, 1) := by decide +kernel
theorem dX5_readOrder_77 : decode cX5_readOrder 77 = .ok (.ireturn, 1) := by decide +kernel
theorem dX5_readOrder_78 : decode cX5_readOrder 78 = .ok (.aload_n 0, 1) := by decide +kernel
theorem dX5_readOrder_79 : decode cX5_readOrder 79 = .ok (.dup, 1) := by decide +kernel
theorem dX5_readOrder_80 : decode cX5_readOrder 80 = .ok (.getfield 48, 3) := by decide +kernel
theorem dX5_readOrder_83 : decode cX5_readOrder 83 = .ok (.iconst 1, 1) := by decide +kernel
theorem dX5_readOrder_84 : decode cX5_readOrder 84 = .ok (.iadd, 1) := by decide +kernel
theorem dX5_readOrder_85 : decode cX5_readOrder 85 = .ok (.putfield 48, 3) := by decide +kernel
theorem dX5_readOrder_88 : decode cX5_readOrder 88 = .ok (.iinc 2 1, 3) := by decide +kernel
theorem dX5_readOrder_91 : decode cX5_readOrder 91 = .ok (.goto (-53), 3) := by decide +kernel
theorem dX5_readOrder_94 : decode cX5_readOrder 94 = .ok (.iconst 1, 1) := by decide +kernel
theorem dX5_readOrder_95 : decode cX5_readOrder 95 = .ok (.ireturn, 1) := by decide +kernel
set_option maxRecDepth 20000 in
theorem ggX5_readNumber_X5_signAt : GoodIn wsX5_readNumber wsX5_signAt := goodIn_r _ [7, 8, 9, 13, 14, 15, 16, 17, 18, 19, 20] (by decide +kernel) (by decide +kernel)
set_option maxRecDepth 20000 in
theorem gX5_readNumber_X5_signAt : GoodIn wsX5_readNumber (wsV RX5 55 RX5 yX5_signAt wsX5_signAt) := goodIn_app (goodIn_of _ (by decide +kernel)) ggX5_readNumber_X5_signAt
set_option maxRecDepth 20000 in
theorem ggX5_readNumber_X5_isDigit : GoodIn wsX5_readNumber wsX5_isDigit := goodIn_r _ [12] (by decide +kernel) (by decide +kernel)
set_option maxRecDepth 20000 in
theorem gX5_readNumber_X5_isDigit : GoodIn wsX5_readNumber (va_wsS RX5 66 yX5_isDigit wsX5_isDigit) := goodIn_app (goodIn_of _ (by decide +kernel)) ggX5_readNumber_X5_isDigit
theorem dX5_readNumber_0 : decode cX5_readNumber 0 = .ok (.iconst 0, 1) := by decide +kernel
theorem dX5_readNumber_1 : decode cX5_readNumber 1 = .ok (.istore_n 2, 1) := by decide +kernel
theorem dX5_readNumber_2 : decode cX5_readNumber 2 = .ok (.iconst 0, 1) := by decide +kernel
theorem dX5_readNumber_3 : decode cX5_readNumber 3 = .ok (.istore_n 3, 1) := by decide +kernel
theorem dX5_readNumber_4 : decode cX5_readNumber 4 = .ok (.iload_n 3, 1) := by decide +kernel
theorem dX5_readNumber_5 : decode cX5_readNumber 5 = .ok (.iconst 4, 1) := by decide +kernel
theorem dX5_readNumber_6 : decode cX5_readNumber 6 = .ok (.if_icmp .ge 50, 3) := by decide +kernel
theorem dX5_readNumber_9 : decode cX5_readNumber 9 = .ok (.aload_n 0, 1) := by decide +kernel
theorem dX5_readNumber_10 : decode cX5_readNumber 10 = .ok (.aload_n 0, 1) := by decide +kernel
theorem dX5_readNumber_11 : decode cX5_readNumber 11 = .ok (.getfield 48, 3) := by decide +kernel
theorem dX5_readNumber_14 : decode cX5_readNumber 14 = .ok (.invokevirtual 55, 3) := by decide +kernel
theorem dX5_readNumber_17 : decode cX5_readNumber 17 = .ok (.invokestatic 66, 3) := by decide +kernel
theorem dX5_readNumber_20 : decode cX5_readNumber 20 = .ok (.ifCond .eq 36, 3) := by decide +kernel
theorem dX5_readNumber_23 : decode cX5_readNumber 23 = .ok (.bipush 10, 2) := by decide +kernel
theorem dX5_readNumber_25 : decode cX5_readNumber 25 = .ok (.iload_n 2, 1) := by decide +kernel
theorem dX5_readNumber_26 : decode cX5_readNumber 26 = .ok (.imul, 1) := by decide +kernel
theorem dX5_readNumber_27 : decode cX5_readNumber 27 = .ok (.aload_n 0, 1) := by decide +kernel
theorem dX5_readNumber_28 : decode cX5_readNumber 28 = .ok (.aload_n 0, 1) := by decide +kernel
theorem dX5_readNumber_29 : decode cX5_readNumber 29 = .ok (.getfield 48, 3) := by decide +kernel
theorem dX5_readNumber_32 : decode cX5_readNumber 32 = .ok (.invokevirtual 55, 3) := by decide +kernel
theorem dX5_readNumber_35 : decode cX5_readNumber 35 = .ok (.iadd, 1) := by decide +kernel
theorem dX5_readNumber_36 : decode cX5_readNumber 36 = .ok (.bipush 48, 2) := by decide +kernel
theorem dX5_readNumber_38 : decode cX5_readNumber 38 = .ok (.isub, 1) := by decide +kernel
theorem dX5_readNumber_39 : decode cX5_readNumber 39 = .ok (.istore_n 2, 1) := by decide +kernel
theorem dX5_readNumber_40 : decode cX5_readNumber 40 = .ok (.iinc 3 1, 3) := by decide +kernel
theorem dX5_readNumber_43 : decode cX5_readNumber 43 = .ok (.aload_n 0, 1) := by decide +kernel
theorem dX5_readNumber_44 : decode cX5_readNumber 44 = .ok (.dup, 1) := by decide +kernel
theorem dX5_readNumber_45 : decode cX5_readNumber 45 = .ok (.getfield 48, 3) := by decide +kernel
theorem dX5_readNumber_48 : decode cX5_readNumber 48 = .ok (.iconst 1, 1) := by decide +kernel
theorem dX5_readNumber_49 : decode cX5_readNumber 49 = .ok (.iadd, 1) := by decide +kernel
theorem dX5_readNumber_50 : decode cX5_readNumber 50 = .ok (.putfield 48, 3) := by decide +kernel
theorem dX5_readNumber_53 : decode cX5_readNumber 53 = .ok (.goto (-49), 3) := by decide +kernel
theorem dX5_readNumber_56 : decode cX5_readNumber 56 = .ok (.iload_n 3, 1) := by decide +kernel
theorem dX5_readNumber_57 : decode cX5_readNumber 57 = .ok (.ifCond .eq 8, 3) := by decide +kernel
theorem dX5_readNumber_60 : decode cX5_readNumber 60 = .ok (.iload_n 1, 1) := by decide +kernel
theorem dX5_readNumber_61 : decode cX5_readNumber 61 = .ok (.iconst 4, 1) := by decide +kernel
theorem dX5_readNumber_62 : decode cX5_readNumber 62 = .ok (.if_icmp .lt 5, 3) := by decide +kernel
theorem dX5_readNumber_65 : decode cX5_readNumber 65 = .ok (.iconst 0, 1) := by decide +kernel
theorem dX5_readNumber_66 : decode cX5_readNumber 66 = .ok (.ireturn, 1) := by decide +kernel
theorem dX5_readNumber_67 : decode cX5_readNumber 67 = .ok (.aload_n 0, 1) := by decide +kernel
theorem dX5_readNumber_68 : decode cX5_readNumber 68 = .ok (.getfield 15, 3) := by decide +kernel
theorem dX5_readNumber_71 : decode cX5_readNumber 71 = .ok (.iload_n 1, 1) := by decide +kernel
theorem dX5_readNumber_72 : decode cX5_readNumber 72 = .ok (.iload_n 2, 1) := by decide +kernel
theorem dX5_readNumber_73 : decode cX5_readNumber 73 = .ok (.iastore, 1) := by decide +kernel
theorem dX5_readNumber_74 : decode cX5_readNumber 74 = .ok (.iconst 1, 1) := by decide +kernel
theorem dX5_readNumber_75 : decode cX5_readNumber 75 = .ok (.ireturn, 1) := by decide +kernel
theorem dX5_signAt_0 : decode cX5_signAt 0 = .ok (.iload_n 1, 1) := by decide +kernel
theorem dX5_signAt_1 : decode cX5_signAt 1 = .ok (.ifCond .lt 26, 3) := by decide +kernel
theorem dX5_signAt_4 : decode cX5_signAt 4 = .ok (.iload_n 1, 1) := by decide +kernel
theorem dX5_signAt_5 : decode cX5_signAt 5 = .ok (.aload_n 0, 1) := by decide +kernel
theorem dX5_signAt_6 : decode cX5_signAt 6 = .ok (.getfield 19, 3) := by decide +kernel
theorem dX5_signAt_9 : decode cX5_signAt 9 = .ok (.if_icmp .ge 18, 3) := by decide +kernel
theorem dX5_signAt_12 : decode cX5_signAt 12 = .ok (.iload_n 1, 1) := by decide +kernel
theorem dX5_signAt_13 : decode cX5_signAt 13 = .ok (.bipush 60, 2) := by decide +kernel
theorem dX5_signAt_15 : decode cX5_signAt 15 = .ok (.if_icmp .ge 12, 3) := by decide +kernel
theorem dX5_signAt_18 : decode cX5_signAt 18 = .ok (.aload_n 0, 1) := by decide +kernel
theorem dX5_signAt_19 : decode cX5_signAt 19 = .ok (.getfield 9, 3) := by decide +kernel
theorem dX5_signAt_22 : decode cX5_signAt 22 = .ok (.iload_n 1, 1) := by decide +kernel
theorem dX5_signAt_23 : decode cX5_signAt 23 = .ok (.caload, 1) := by decide +kernel
theorem dX5_signAt_24 : decode cX5_signAt 24 = .ok (.goto 4, 3) := by decide +kernel
theorem dX5_signAt_27 : decode cX5_signAt 27 = .ok (.iconst 0, 1) := by decide +kernel
theorem dX5_signAt_28 : decode cX5_signAt 28 = .ok (.ireturn, 1) := by decide +kernel
theorem dX5_isDigit_0 : decode cX5_isDigit 0 = .ok (.iload_n 0, 1) := by decide +kernel
theorem dX5_isDigit_1 : decode cX5_isDigit 1 = .ok (.bipush 48, 2) := by decide +kernel
theorem dX5_isDigit_3 : decode cX5_isDigit 3 = .ok (.if_icmp .lt 13, 3) := by decide +kernel
theorem dX5_isDigit_6 : decode cX5_isDigit 6 = .ok (.iload_n 0, 1) := by decide +kernel
theorem dX5_isDigit_7 : decode cX5_isDigit 7 = .ok (.bipush 57, 2) := by decide +kernel
theorem dX5_isDigit_9 : decode cX5_isDigit 9 = .ok (.if_icmp .gt 7, 3) := by decide +kernel
theorem dX5_isDigit_12 : decode cX5_isDigit 12 = .ok (.iconst 1, 1) := by decide +kernel
theorem dX5_isDigit_13 : decode cX5_isDigit 13 = .ok (.goto 4, 3) := by decide +kernel
theorem dX5_isDigit_16 : decode cX5_isDigit 16 = .ok (.iconst 0, 1) := by decide +kernel
theorem dX5_isDigit_17 : decode cX5_isDigit 17 = .ok (.ireturn, 1) := by decide +kernel
theorem dX5_numbersOf_0 : decode cX5_numbersOf 0 = .ok (.iload_n 0, 1) := by decide +kernel
theorem dX5_numbersOf_1 : decode cX5_numbersOf 1 = .ok (.tableswitch 93 98 115 #[89, 91, 91, 93, 93, 93, 93, 93, 93, 93, 87, 91, 93, 93, 93, 93, 93, 87], 87) := by decide +kernel
theorem dX5_numbersOf_88 : decode cX5_numbersOf 88 = .ok (.iconst 2, 1) := by decide +kernel
theorem dX5_numbersOf_89 : decode cX5_numbersOf 89 = .ok (.ireturn, 1) := by decide +kernel
theorem dX5_numbersOf_90 : decode cX5_numbersOf 90 = .ok (.iconst 4, 1) := by decide +kernel
theorem dX5_numbersOf_91 : decode cX5_numbersOf 91 = .ok (.ireturn, 1) := by decide +kernel
theorem dX5_numbersOf_92 : decode cX5_numbersOf 92 = .ok (.iconst 1, 1) := by decide +kernel
theorem dX5_numbersOf_93 : decode cX5_numbersOf 93 = .ok (.ireturn, 1) := by decide +kernel
theorem dX5_numbersOf_94 : decode cX5_numbersOf 94 = .ok (.iconst 0, 1) := by decide +kernel
theorem dX5_numbersOf_95 : decode cX5_numbersOf 95 = .ok (.ireturn, 1) := by decide +kernel
set_option maxRecDepth 20000 in
theorem ggX5_perform_X5_signAt : GoodIn wsX5_perform wsX5_signAt := goodIn_r _ [8, 9, 10, 168, 169, 170, 171, 172, 173, 174, 175] (by decide +kernel) (by decide +kernel)
set_option maxRecDepth 20000 in
theorem gX5_perform_X5_signAt : GoodIn wsX5_perform (wsV RX5 55 RX5 yX5_signAt wsX5_signAt) := goodIn_app (goodIn_of _ (by decide +kernel)) ggX5_perform_X5_signAt
set_option maxRecDepth 20000 in
theorem ggX5_perform_X3_bringLot : GoodIn wsX5_perform wsX3_bringLot := goodIn_r _ [15, 16, 17, 18, 19, 20, 21, 22, 23, 24, 25, 26, 27, 28, 29, 30, 31, 32, 33, 34, 35, 36, 37, 176, 177, 178, 179, 180, 181, 182, 183, 184, 185, 186, 187, 188, 189, 190] (by decide +kernel) (by decide +kernel)
set_option maxRecDepth 20000 in
theorem gX5_perform_X3_bringLot : GoodIn wsX5_perform (wsV RX5 70 RX3 yX3_bringLot wsX3_bringLot) := goodIn_app (goodIn_of _ (by decide +kernel)) ggX5_perform_X3_bringLot
set_option maxRecDepth 20000 in
theorem ggX5_perform_X3_blendLots : GoodIn wsX5_perform wsX3_blendLots := goodIn_r _ [41, 17, 16, 42, 43, 44, 18, 45, 46, 47, 25, 48, 29, 28, 49, 35, 36, 37, 50, 51, 52, 53, 32, 33, 54, 55, 56, 57, 31, 22, 23, 24, 26, 27, 30, 34, 176, 177, 178, 179, 180, 181, 182, 183, 184, 185, 186, 187, 188, 189, 190] (by decide +kernel) (by decide +kernel)
set_option maxRecDepth 20000 in
theorem gX5_perform_X3_blendLots : GoodIn wsX5_perform (wsV RX5 76 RX3 yX3_blendLots wsX3_blendLots) := goodIn_app (goodIn_of _ (by decide +kernel)) ggX5_perform_X3_blendLots
set_option maxRecDepth 20000 in
theorem ggX5_perform_X3_cupAnew : GoodIn wsX5_perform wsX3_cupAnew := goodIn_r _ [61, 17, 16, 42, 43, 62, 18, 63, 45, 46, 47, 25, 48, 29, 28, 50, 51, 52, 53, 32, 33, 176, 177, 178, 179, 180, 181, 182, 183, 184, 185, 186, 187, 188, 189, 190] (by decide +kernel) (by decide +kernel)
set_option maxRecDepth 20000 in
theorem gX5_perform_X3_cupAnew : GoodIn wsX5_perform (wsV RX5 80 RX3 yX3_cupAnew wsX3_cupAnew) := goodIn_app (goodIn_of _ (by decide +kernel)) ggX5_perform_X3_cupAnew
set_option maxRecDepth 20000 in
theorem ggX5_perform_X3_sellContract : GoodIn wsX5_perform wsX3_sellContract := goodIn_r _ [67, 16, 18, 43, 68, 19, 20, 21, 69, 70, 71, 14, 72, 73, 74, 75, 76, 77, 78, 79, 80, 81, 82, 83, 84, 85, 86, 176, 177, 178, 179, 180, 181, 182, 183, 184, 191, 192, 193] (by decide +kernel) (by decide +kernel)
set_option maxRecDepth 20000 in
theorem gX5_perform_X3_sellContract : GoodIn wsX5_perform (wsV RX5 84 RX3 yX3_sellContract wsX3_sellContract) := goodIn_app (goodIn_of _ (by decide +kernel)) ggX5_perform_X3_sellContract
set_option maxRecDepth 20000 in
theorem ggX5_perform_X3_meetContract : GoodIn wsX5_perform wsX3_meetContract := goodIn_r _ [90, 68, 16, 91, 18, 43, 92, 93, 94, 17, 42, 95, 96, 97, 98, 99, 100, 73, 101, 102, 103, 81, 104, 83, 105, 106, 107, 108, 109, 110, 111, 112, 113, 114, 115, 116, 117, 118, 119, 120, 121, 122, 123, 124, 125, 126, 127, 128, 129, 51, 52, 25, 53, 32, 33, 130, 131, 132, 133, 134, 135, 136, 14, 137, 138, 20, 139, 140, 141, 142, 143, 144, 145, 146, 147, 148, 149, 150, 151, 152, 153, 54, 55, 56, 57, 29, 31, 28, 154, 155, 156, 157, 85, 86, 158, 176, 177, 178, 179, 180, 181, 182, 183, 184, 191, 192, 193, 194, 195, 196, 197, 198, 199, 200, 201, 202, 203, 204, 205, 185, 186, 187, 188, 189, 190] (by decide +kernel) (by decide +kernel)
set_option maxRecDepth 20000 in
theorem gX5_perform_X3_meetContract : GoodIn wsX5_perform (wsV RX5 87 RX3 yX3_meetContract wsX3_meetContract) := goodIn_app (goodIn_of _ (by decide +kernel)) ggX5_perform_X3_meetContract
set_option maxRecDepth 20000 in
theorem ggX5_perform_X3_passMonths : GoodIn wsX5_perform wsX3_passMonths := goodIn_r _ [162, 16, 18, 44, 68, 163, 97, 73, 19, 20, 21, 164, 165, 166, 81, 167, 83, 85, 86, 176, 177, 178, 179, 180, 181, 182, 183, 184, 191, 192, 193] (by decide +kernel) (by decide +kernel)
set_option maxRecDepth 20000 in
theorem gX5_perform_X3_passMonths : GoodIn wsX5_perform (wsV RX5 91 RX3 yX3_passMonths wsX3_passMonths) := goodIn_app (goodIn_of _ (by decide +kernel)) ggX5_perform_X3_passMonths
theorem dX5_perform_0 : decode cX5_perform 0 = .ok (.aload_n 0, 1) := by decide +kernel
theorem dX5_perform_1 : decode cX5_perform 1 = .ok (.aload_n 0, 1) := by decide +kernel
theorem dX5_perform_2 : decode cX5_perform 2 = .ok (.getfield 24, 3) := by decide +kernel
theorem dX5_perform_5 : decode cX5_perform 5 = .ok (.invokevirtual 55, 3) := by decide +kernel
theorem dX5_perform_8 : decode cX5_perform 8 = .ok (.tableswitch 185 98 115 #[105, 134, 162, 185, 185, 185, 185, 185, 185, 185, 88, 174, 185, 185, 185, 185, 185, 145], 88) := by decide +kernel
theorem dX5_perform_96 : decode cX5_perform 96 = .ok (.aload_n 1, 1) := by decide +kernel
theorem dX5_perform_97 : decode cX5_perform 97 = .ok (.aload_n 0, 1) := by decide +kernel
theorem dX5_perform_98 : decode cX5_perform 98 = .ok (.getfield 15, 3) := by decide +kernel
theorem dX5_perform_101 : decode cX5_perform 101 = .ok (.iconst 0, 1) := by decide +kernel
theorem dX5_perform_102 : decode cX5_perform 102 = .ok (.iaload, 1) := by decide +kernel
theorem dX5_perform_103 : decode cX5_perform 103 = .ok (.aload_n 0, 1) := by decide +kernel
theorem dX5_perform_104 : decode cX5_perform 104 = .ok (.getfield 15, 3) := by decide +kernel
theorem dX5_perform_107 : decode cX5_perform 107 = .ok (.iconst 1, 1) := by decide +kernel
theorem dX5_perform_108 : decode cX5_perform 108 = .ok (.iaload, 1) := by decide +kernel
theorem dX5_perform_109 : decode cX5_perform 109 = .ok (.invokevirtual 70, 3) := by decide +kernel
theorem dX5_perform_112 : decode cX5_perform 112 = .ok (.ireturn, 1) := by decide +kernel
theorem dX5_perform_113 : decode cX5_perform 113 = .ok (.aload_n 1, 1) := by decide +kernel
theorem dX5_perform_114 : decode cX5_perform 114 = .ok (.aload_n 0, 1) := by decide +kernel
theorem dX5_perform_115 : decode cX5_perform 115 = .ok (.getfield 15, 3) := by decide +kernel
theorem dX5_perform_118 : decode cX5_perform 118 = .ok (.iconst 0, 1) := by decide +kernel
theorem dX5_perform_119 : decode cX5_perform 119 = .ok (.iaload, 1) := by decide +kernel
theorem dX5_perform_120 : decode cX5_perform 120 = .ok (.aload_n 0, 1) := by decide +kernel
theorem dX5_perform_121 : decode cX5_perform 121 = .ok (.getfield 15, 3) := by decide +kernel
theorem dX5_perform_124 : decode cX5_perform 124 = .ok (.iconst 1, 1) := by decide +kernel
theorem dX5_perform_125 : decode cX5_perform 125 = .ok (.iaload, 1) := by decide +kernel
theorem dX5_perform_126 : decode cX5_perform 126 = .ok (.aload_n 0, 1) := by decide +kernel
theorem dX5_perform_127 : decode cX5_perform 127 = .ok (.getfield 15, 3) := by decide +kernel
theorem dX5_perform_130 : decode cX5_perform 130 = .ok (.iconst 2, 1) := by decide +kernel
theorem dX5_perform_131 : decode cX5_perform 131 = .ok (.iaload, 1) := by decide +kernel
theorem dX5_perform_132 : decode cX5_perform 132 = .ok (.aload_n 0, 1) := by decide +kernel
theorem dX5_perform_133 : decode cX5_perform 133 = .ok (.getfield 15, 3) := by decide +kernel
theorem dX5_perform_136 : decode cX5_perform 136 = .ok (.iconst 3, 1) := by decide +kernel
theorem dX5_perform_137 : decode cX5_perform 137 = .ok (.iaload, 1) := by decide +kernel
theorem dX5_perform_138 : decode cX5_perform 138 = .ok (.invokevirtual 76, 3) := by decide +kernel
theorem dX5_perform_141 : decode cX5_perform 141 = .ok (.ireturn, 1) := by decide +kernel
theorem dX5_perform_142 : decode cX5_perform 142 = .ok (.aload_n 1, 1) := by decide +kernel
theorem dX5_perform_143 : decode cX5_perform 143 = .ok (.aload_n 0, 1) := by decide +kernel
theorem dX5_perform_144 : decode cX5_perform 144 = .ok (.getfield 15, 3) := by decide +kernel
theorem dX5_perform_147 : decode cX5_perform 147 = .ok (.iconst 0, 1) := by decide +kernel
theorem dX5_perform_148 : decode cX5_perform 148 = .ok (.iaload, 1) := by decide +kernel
theorem dX5_perform_149 : decode cX5_perform 149 = .ok (.invokevirtual 80, 3) := by decide +kernel
theorem dX5_perform_152 : decode cX5_perform 152 = .ok (.ireturn, 1) := by decide +kernel
theorem dX5_perform_153 : decode cX5_perform 153 = .ok (.aload_n 1, 1) := by decide +kernel
theorem dX5_perform_154 : decode cX5_perform 154 = .ok (.aload_n 0, 1) := by decide +kernel
theorem dX5_perform_155 : decode cX5_perform 155 = .ok (.getfield 15, 3) := by decide +kernel
theorem dX5_perform_158 : decode cX5_perform 158 = .ok (.iconst 0, 1) := by decide +kernel
theorem dX5_perform_159 : decode cX5_perform 159 = .ok (.iaload, 1) := by decide +kernel
theorem dX5_perform_160 : decode cX5_perform 160 = .ok (.aload_n 0, 1) := by decide +kernel
theorem dX5_perform_161 : decode cX5_perform 161 = .ok (.getfield 15, 3) := by decide +kernel
theorem dX5_perform_164 : decode cX5_perform 164 = .ok (.iconst 1, 1) := by decide +kernel
theorem dX5_perform_165 : decode cX5_perform 165 = .ok (.iaload, 1) := by decide +kernel
theorem dX5_perform_166 : decode cX5_perform 166 = .ok (.invokevirtual 84, 3) := by decide +kernel
theorem dX5_perform_169 : decode cX5_perform 169 = .ok (.ireturn, 1) := by decide +kernel
theorem dX5_perform_170 : decode cX5_perform 170 = .ok (.aload_n 1, 1) := by decide +kernel
theorem dX5_perform_171 : decode cX5_perform 171 = .ok (.aload_n 0, 1) := by decide +kernel
theorem dX5_perform_172 : decode cX5_perform 172 = .ok (.getfield 15, 3) := by decide +kernel
theorem dX5_perform_175 : decode cX5_perform 175 = .ok (.iconst 0, 1) := by decide +kernel
theorem dX5_perform_176 : decode cX5_perform 176 = .ok (.iaload, 1) := by decide +kernel
theorem dX5_perform_177 : decode cX5_perform 177 = .ok (.aload_n 2, 1) := by decide +kernel
theorem dX5_perform_178 : decode cX5_perform 178 = .ok (.invokevirtual 87, 3) := by decide +kernel
theorem dX5_perform_181 : decode cX5_perform 181 = .ok (.ireturn, 1) := by decide +kernel
theorem dX5_perform_182 : decode cX5_perform 182 = .ok (.aload_n 1, 1) := by decide +kernel
theorem dX5_perform_183 : decode cX5_perform 183 = .ok (.aload_n 0, 1) := by decide +kernel
theorem dX5_perform_184 : decode cX5_perform 184 = .ok (.getfield 15, 3) := by decide +kernel
theorem dX5_perform_187 : decode cX5_perform 187 = .ok (.iconst 0, 1) := by decide +kernel
theorem dX5_perform_188 : decode cX5_perform 188 = .ok (.iaload, 1) := by decide +kernel
theorem dX5_perform_189 : decode cX5_perform 189 = .ok (.invokevirtual 91, 3) := by decide +kernel
theorem dX5_perform_192 : decode cX5_perform 192 = .ok (.ireturn, 1) := by decide +kernel
theorem dX5_perform_193 : decode cX5_perform 193 = .ok (.ldc 94, 2) := by decide +kernel
theorem dX5_perform_195 : decode cX5_perform 195 = .ok (.ireturn, 1) := by decide +kernel
set_option maxRecDepth 20000 in
theorem ggX6_init_X3_init : GoodIn wsX6_init wsX3_init := goodIn_r _ [22, 23, 2, 3, 24, 25, 26, 27, 28, 29, 30, 31, 32, 33, 34, 35, 36, 37, 38, 39, 40, 41, 42, 43, 44, 45, 46, 47, 48, 49, 50, 51, 52, 111, 112, 113, 114, 115, 116, 75, 76, 77, 78, 79, 80, 81, 82, 83, 117, 118, 119] (by decide +kernel) (by decide +kernel)
set_option maxRecDepth 20000 in
theorem gX6_init_X3_init_n9 : GoodIn wsX6_init (wsX3_init) := ggX6_init_X3_init
set_option maxRecDepth 20000 in
theorem ggX6_init_X2_init : GoodIn wsX6_init wsX2_init := goodIn_r _ [55, 56, 2, 3, 57, 58, 5, 6, 21, 22, 23, 24, 25, 26, 27, 28, 29, 30, 31, 32, 33, 34, 35, 36, 37, 38, 39, 40, 41, 42, 43, 44, 45, 46, 47, 48, 49, 50, 51, 52, 89, 90, 75, 76, 77, 78, 79, 80, 81, 82, 83, 111, 112, 113, 114, 115, 116, 117, 118, 119] (by decide +kernel) (by decide +kernel)
set_option maxRecDepth 20000 in
theorem gX6_init_X2_init : GoodIn wsX6_init (wsX2_init) := ggX6_init_X2_init
set_option maxRecDepth 20000 in
theorem ggX6_init_X1_init : GoodIn wsX6_init wsX1_init := goodIn_r _ [60, 61, 2, 3, 43, 62, 63, 64, 65, 66, 67, 68, 91, 92, 93, 94, 95, 96, 97, 98, 99, 100, 101, 102] (by decide +kernel) (by decide +kernel)
set_option maxRecDepth 20000 in
theorem gX6_init_X1_init_n28 : GoodIn wsX6_init (wsX1_init) := ggX6_init_X1_init
set_option maxRecDepth 20000 in
theorem ggX6_init_X5_init : GoodIn wsX6_init wsX5_init := goodIn_r _ [70, 71, 2, 3, 72, 73, 43, 74, 103, 104, 105, 106, 107, 108, 109, 110] (by decide +kernel) (by decide +kernel)
set_option maxRecDepth 20000 in
theorem gX6_init_X5_init_n35 : GoodIn wsX6_init (wsX5_init) := ggX6_init_X5_init
theorem dX6_init_0 : decode cX6_init 0 = .ok (.aload_n 0, 1) := by decide +kernel
theorem dX6_init_1 : decode cX6_init 1 = .ok (.invokespecial 1, 3) := by decide +kernel
theorem dX6_init_4 : decode cX6_init 4 = .ok (.aload_n 0, 1) := by decide +kernel
theorem dX6_init_5 : decode cX6_init 5 = .ok (.new 7, 3) := by decide +kernel
theorem dX6_init_8 : decode cX6_init 8 = .ok (.dup, 1) := by decide +kernel
theorem dX6_init_9 : decode cX6_init 9 = .ok (.invokespecial 9, 3) := by decide +kernel
theorem dX6_init_12 : decode cX6_init 12 = .ok (.putfield 10, 3) := by decide +kernel
theorem dX6_init_15 : decode cX6_init 15 = .ok (.aload_n 0, 1) := by decide +kernel
theorem dX6_init_16 : decode cX6_init 16 = .ok (.new 7, 3) := by decide +kernel
theorem dX6_init_19 : decode cX6_init 19 = .ok (.dup, 1) := by decide +kernel
theorem dX6_init_20 : decode cX6_init 20 = .ok (.invokespecial 9, 3) := by decide +kernel
theorem dX6_init_23 : decode cX6_init 23 = .ok (.putfield 16, 3) := by decide +kernel
theorem dX6_init_26 : decode cX6_init 26 = .ok (.aload_n 0, 1) := by decide +kernel
theorem dX6_init_27 : decode cX6_init 27 = .ok (.new 19, 3) := by decide +kernel
theorem dX6_init_30 : decode cX6_init 30 = .ok (.dup, 1) := by decide +kernel
theorem dX6_init_31 : decode cX6_init 31 = .ok (.invokespecial 21, 3) := by decide +kernel
theorem dX6_init_34 : decode cX6_init 34 = .ok (.putfield 22, 3) := by decide +kernel
theorem dX6_init_37 : decode cX6_init 37 = .ok (.aload_n 0, 1) := by decide +kernel
theorem dX6_init_38 : decode cX6_init 38 = .ok (.new 26, 3) := by decide +kernel
theorem dX6_init_41 : decode cX6_init 41 = .ok (.dup, 1) := by decide +kernel
theorem dX6_init_42 : decode cX6_init 42 = .ok (.invokespecial 28, 3) := by decide +kernel
theorem dX6_init_45 : decode cX6_init 45 = .ok (.putfield 29, 3) := by decide +kernel
theorem dX6_init_48 : decode cX6_init 48 = .ok (.aload_n 0, 1) := by decide +kernel
theorem dX6_init_49 : decode cX6_init 49 = .ok (.new 33, 3) := by decide +kernel
theorem dX6_init_52 : decode cX6_init 52 = .ok (.dup, 1) := by decide +kernel
theorem dX6_init_53 : decode cX6_init 53 = .ok (.invokespecial 35, 3) := by decide +kernel
theorem dX6_init_56 : decode cX6_init 56 = .ok (.putfield 36, 3) := by decide +kernel
theorem dX6_init_59 : decode cX6_init 59 = .ok (.return_, 1) := by decide +kernel
set_option maxRecDepth 20000 in
theorem ggX6_lot_X3_copyFrom : GoodIn wsX6_lot wsX3_copyFrom := goodIn_r _ [7, 8, 9, 10, 11, 12, 13, 14, 15, 16, 17, 18, 19, 20, 21, 22, 23, 24, 25, 26, 27, 28, 29, 30, 31, 32, 33, 34, 35, 81, 82, 83, 84, 85, 86, 87, 88, 89, 90, 91, 92, 93, 94, 95, 96, 97, 98] (by decide +kernel) (by decide +kernel)
set_option maxRecDepth 20000 in
theorem gX6_lot_X3_copyFrom : GoodIn wsX6_lot (wsV RX6 40 RX3 yX3_copyFrom wsX3_copyFrom) := goodIn_app (goodIn_of _ (by decide +kernel)) ggX6_lot_X3_copyFrom
set_option maxRecDepth 20000 in
theorem ggX6_lot_X3_bringLot : GoodIn wsX6_lot wsX3_bringLot := goodIn_r _ [39, 40, 8, 12, 41, 42, 43, 44, 45, 46, 20, 47, 48, 22, 26, 27, 23, 24, 25, 49, 50, 51, 52, 81, 82, 83, 84, 85, 86, 87, 88, 89, 90, 91, 92, 93, 94, 95] (by decide +kernel) (by decide +kernel)
set_option maxRecDepth 20000 in
theorem gX6_lot_X3_bringLot : GoodIn wsX6_lot (wsV RX6 44 RX3 yX3_bringLot wsX3_bringLot) := goodIn_app (goodIn_of _ (by decide +kernel)) ggX6_lot_X3_bringLot
set_option maxRecDepth 20000 in
theorem ggX6_lot_X6_accept : GoodIn wsX6_lot wsX6_accept := goodIn_r _ [56, 57, 2, 1, 58, 59, 42, 60, 61, 62, 63, 41, 43, 64, 65, 66, 67, 68, 69, 70, 71, 72, 73, 74, 75, 4, 5, 6, 7, 8, 9, 10, 11, 12, 13, 14, 15, 16, 17, 18, 19, 20, 21, 22, 23, 24, 25, 26, 27, 28, 29, 30, 31, 32, 33, 34, 35, 3, 76, 77, 78, 79, 80, 99, 100, 81, 82, 83, 84, 85, 86, 87, 88, 89, 90, 91, 92, 93, 94, 95, 96, 97, 98] (by decide +kernel) (by decide +kernel)
set_option maxRecDepth 20000 in
theorem gX6_lot_X6_accept : GoodIn wsX6_lot (wsV RX6 48 RX6 yX6_accept wsX6_accept) := goodIn_app (goodIn_of _ (by decide +kernel)) ggX6_lot_X6_accept
theorem dX6_lot_0 : decode cX6_lot 0 = .ok (.aload_n 0, 1) := by decide +kernel
theorem dX6_lot_1 : decode cX6_lot 1 = .ok (.getfield 16, 3) := by decide +kernel
theorem dX6_lot_4 : decode cX6_lot 4 = .ok (.aload_n 0, 1) := by decide +kernel
theorem dX6_lot_5 : decode cX6_lot 5 = .ok (.getfield 10, 3) := by decide +kernel
theorem dX6_lot_8 : decode cX6_lot 8 = .ok (.invokevirtual 40, 3) := by decide +kernel
theorem dX6_lot_11 : decode cX6_lot 11 = .ok (.aload_n 0, 1) := by decide +kernel
theorem dX6_lot_12 : decode cX6_lot 12 = .ok (.aload_n 0, 1) := by decide +kernel
theorem dX6_lot_13 : decode cX6_lot 13 = .ok (.getfield 16, 3) := by decide +kernel
theorem dX6_lot_16 : decode cX6_lot 16 = .ok (.iload_n 1, 1) := by decide +kernel
theorem dX6_lot_17 : decode cX6_lot 17 = .ok (.iload_n 2, 1) := by decide +kernel
theorem dX6_lot_18 : decode cX6_lot 18 = .ok (.invokevirtual 44, 3) := by decide +kernel
theorem dX6_lot_21 : decode cX6_lot 21 = .ok (.invokevirtual 48, 3) := by decide +kernel
theorem dX6_lot_24 : decode cX6_lot 24 = .ok (.ireturn, 1) := by decide +kernel
set_option maxRecDepth 20000 in
theorem ggX6_part_X3_copyFrom : GoodIn wsX6_part wsX3_copyFrom := goodIn_r _ [7, 8, 9, 10, 11, 12, 13, 14, 15, 16, 17, 18, 19, 20, 21, 22, 23, 24, 25, 26, 27, 28, 29, 30, 31, 32, 33, 34, 35, 91, 92, 93, 94, 95, 96, 97, 98, 99, 100, 101, 102, 103, 104, 105, 106, 107, 108] (by decide +kernel) (by decide +kernel)
set_option maxRecDepth 20000 in
theorem gX6_part_X3_copyFrom : GoodIn wsX6_part (wsV RX6 40 RX3 yX3_copyFrom wsX3_copyFrom) := goodIn_app (goodIn_of _ (by decide +kernel)) ggX6_part_X3_copyFrom
set_option maxRecDepth 20000 in
theorem ggX6_part_X3_partLot : GoodIn wsX6_part wsX3_partLot := goodIn_r _ [39, 8, 40, 41, 42, 43, 44, 45, 46, 47, 48, 20, 49, 26, 22, 50, 51, 52, 53, 54, 55, 56, 57, 58, 27, 23, 24, 25, 59, 91, 92, 93, 94, 95, 96, 97, 98, 99, 100, 101, 102, 103, 104, 105] (by decide +kernel) (by decide +kernel)
set_option maxRecDepth 20000 in
theorem gX6_part_X3_partLot : GoodIn wsX6_part (wsV RX6 52 RX3 yX3_partLot wsX3_partLot) := goodIn_app (goodIn_of _ (by decide +kernel)) ggX6_part_X3_partLot
set_option maxRecDepth 20000 in
theorem ggX6_part_X6_accept : GoodIn wsX6_part wsX6_accept := goodIn_r _ [64, 65, 2, 1, 66, 67, 63, 68, 69, 70, 71, 72, 73, 74, 75, 76, 77, 78, 79, 80, 81, 82, 83, 84, 85, 4, 5, 6, 7, 8, 9, 10, 11, 12, 13, 14, 15, 16, 17, 18, 19, 20, 21, 22, 23, 24, 25, 26, 27, 28, 29, 30, 31, 32, 33, 34, 35, 3, 86, 87, 88, 89, 90, 109, 110, 91, 92, 93, 94, 95, 96, 97, 98, 99, 100, 101, 102, 103, 104, 105, 106, 107, 108] (by decide +kernel) (by decide +kernel)
set_option maxRecDepth 20000 in
theorem gX6_part_X6_accept : GoodIn wsX6_part (wsV RX6 48 RX6 yX6_accept wsX6_accept) := goodIn_app (goodIn_of _ (by decide +kernel)) ggX6_part_X6_accept
theorem dX6_part_0 : decode cX6_part 0 = .ok (.aload_n 0, 1) := by decide +kernel
theorem dX6_part_1 : decode cX6_part 1 = .ok (.getfield 16, 3) := by decide +kernel
theorem dX6_part_4 : decode cX6_part 4 = .ok (.aload_n 0, 1) := by decide +kernel
theorem dX6_part_5 : decode cX6_part 5 = .ok (.getfield 10, 3) := by decide +kernel
theorem dX6_part_8 : decode cX6_part 8 = .ok (.invokevirtual 40, 3) := by decide +kernel
theorem dX6_part_11 : decode cX6_part 11 = .ok (.aload_n 0, 1) := by decide +kernel
theorem dX6_part_12 : decode cX6_part 12 = .ok (.aload_n 0, 1) := by decide +kernel
theorem dX6_part_13 : decode cX6_part 13 = .ok (.getfield 16, 3) := by decide +kernel
theorem dX6_part_16 : decode cX6_part 16 = .ok (.iload_n 1, 1) := by decide +kernel
theorem dX6_part_17 : decode cX6_part 17 = .ok (.iload_n 2, 1) := by decide +kernel
theorem dX6_part_18 : decode cX6_part 18 = .ok (.invokevirtual 52, 3) := by decide +kernel
theorem dX6_part_21 : decode cX6_part 21 = .ok (.invokevirtual 48, 3) := by decide +kernel
theorem dX6_part_24 : decode cX6_part 24 = .ok (.ireturn, 1) := by decide +kernel
set_option maxRecDepth 20000 in
theorem ggX6_blend_X3_copyFrom : GoodIn wsX6_blend wsX3_copyFrom := goodIn_r _ [7, 8, 9, 10, 11, 12, 13, 14, 15, 16, 17, 18, 19, 20, 21, 22, 23, 24, 25, 26, 27, 28, 29, 30, 31, 32, 33, 34, 35, 97, 98, 99, 100, 101, 102, 103, 104, 105, 106, 107, 108, 109, 110, 111, 112, 113, 114] (by decide +kernel) (by decide +kernel)
set_option maxRecDepth 20000 in
theorem gX6_blend_X3_copyFrom : GoodIn wsX6_blend (wsV RX6 40 RX3 yX3_copyFrom wsX3_copyFrom) := goodIn_app (goodIn_of _ (by decide +kernel)) ggX6_blend_X3_copyFrom
set_option maxRecDepth 20000 in
theorem ggX6_blend_X3_blendLots : GoodIn wsX6_blend wsX3_blendLots := goodIn_r _ [39, 8, 40, 41, 42, 43, 12, 44, 45, 46, 20, 47, 26, 22, 48, 49, 50, 51, 52, 53, 54, 55, 24, 25, 56, 57, 58, 59, 23, 60, 61, 62, 63, 64, 27, 65, 97, 98, 99, 100, 101, 102, 103, 104, 105, 106, 107, 108, 109, 110, 111] (by decide +kernel) (by decide +kernel)
set_option maxRecDepth 20000 in
theorem gX6_blend_X3_blendLots : GoodIn wsX6_blend (wsV RX6 55 RX3 yX3_blendLots wsX3_blendLots) := goodIn_app (goodIn_of _ (by decide +kernel)) ggX6_blend_X3_blendLots
set_option maxRecDepth 20000 in
theorem ggX6_blend_X6_accept : GoodIn wsX6_blend wsX6_accept := goodIn_r _ [70, 71, 2, 1, 72, 73, 69, 74, 75, 76, 77, 78, 79, 80, 81, 82, 83, 84, 85, 86, 87, 88, 89, 90, 91, 4, 5, 6, 7, 8, 9, 10, 11, 12, 13, 14, 15, 16, 17, 18, 19, 20, 21, 22, 23, 24, 25, 26, 27, 28, 29, 30, 31, 32, 33, 34, 35, 3, 92, 93, 94, 95, 96, 115, 116, 97, 98, 99, 100, 101, 102, 103, 104, 105, 106, 107, 108, 109, 110, 111, 112, 113, 114] (by decide +kernel) (by decide +kernel)
set_option maxRecDepth 20000 in
theorem gX6_blend_X6_accept : GoodIn wsX6_blend (wsV RX6 48 RX6 yX6_accept wsX6_accept) := goodIn_app (goodIn_of _ (by decide +kernel)) ggX6_blend_X6_accept
theorem dX6_blend_0 : decode cX6_blend 0 = .ok (.aload_n 0, 1) := by decide +kernel
theorem dX6_blend_1 : decode cX6_blend 1 = .ok (.getfield 16, 3) := by decide +kernel
theorem dX6_blend_4 : decode cX6_blend 4 = .ok (.aload_n 0, 1) := by decide +kernel
theorem dX6_blend_5 : decode cX6_blend 5 = .ok (.getfield 10, 3) := by decide +kernel
theorem dX6_blend_8 : decode cX6_blend 8 = .ok (.invokevirtual 40, 3) := by decide +kernel
theorem dX6_blend_11 : decode cX6_blend 11 = .ok (.aload_n 0, 1) := by decide +kernel
theorem dX6_blend_12 : decode cX6_blend 12 = .ok (.aload_n 0, 1) := by decide +kernel
theorem dX6_blend_13 : decode cX6_blend 13 = .ok (.getfield 16, 3) := by decide +kernel
theorem dX6_blend_16 : decode cX6_blend 16 = .ok (.iload_n 1, 1) := by decide +kernel
theorem dX6_blend_17 : decode cX6_blend 17 = .ok (.iload_n 2, 1) := by decide +kernel
theorem dX6_blend_18 : decode cX6_blend 18 = .ok (.iload_n 3, 1) := by decide +kernel
theorem dX6_blend_19 : decode cX6_blend 19 = .ok (.iload 4, 2) := by decide +kernel
theorem dX6_blend_21 : decode cX6_blend 21 = .ok (.invokevirtual 55, 3) := by decide +kernel
theorem dX6_blend_24 : decode cX6_blend 24 = .ok (.invokevirtual 48, 3) := by decide +kernel
theorem dX6_blend_27 : decode cX6_blend 27 = .ok (.ireturn, 1) := by decide +kernel
set_option maxRecDepth 20000 in
theorem ggX6_cup_X3_copyFrom : GoodIn wsX6_cup wsX3_copyFrom := goodIn_r _ [7, 8, 9, 10, 11, 12, 13, 14, 15, 16, 17, 18, 19, 20, 21, 22, 23, 24, 25, 26, 27, 28, 29, 30, 31, 32, 33, 34, 35, 84, 85, 86, 87, 88, 89, 90, 91, 92, 93, 94, 95, 96, 97, 98, 99, 100, 101] (by decide +kernel) (by decide +kernel)
set_option maxRecDepth 20000 in
theorem gX6_cup_X3_copyFrom : GoodIn wsX6_cup (wsV RX6 40 RX3 yX3_copyFrom wsX3_copyFrom) := goodIn_app (goodIn_of _ (by decide +kernel)) ggX6_cup_X3_copyFrom
set_option maxRecDepth 20000 in
theorem ggX6_cup_X3_cupAnew : GoodIn wsX6_cup wsX3_cupAnew := goodIn_r _ [39, 8, 40, 41, 42, 43, 12, 44, 45, 46, 47, 20, 48, 26, 22, 49, 50, 51, 52, 24, 25, 84, 85, 86, 87, 88, 89, 90, 91, 92, 93, 94, 95, 96, 97, 98] (by decide +kernel) (by decide +kernel)
set_option maxRecDepth 20000 in
theorem gX6_cup_X3_cupAnew : GoodIn wsX6_cup (wsV RX6 59 RX3 yX3_cupAnew wsX3_cupAnew) := goodIn_app (goodIn_of _ (by decide +kernel)) ggX6_cup_X3_cupAnew
set_option maxRecDepth 20000 in
theorem ggX6_cup_X6_accept : GoodIn wsX6_cup wsX6_accept := goodIn_r _ [57, 58, 2, 1, 59, 60, 56, 61, 62, 63, 64, 65, 66, 67, 68, 69, 70, 71, 72, 73, 74, 75, 76, 77, 78, 4, 5, 6, 7, 8, 9, 10, 11, 12, 13, 14, 15, 16, 17, 18, 19, 20, 21, 22, 23, 24, 25, 26, 27, 28, 29, 30, 31, 32, 33, 34, 35, 3, 79, 80, 81, 82, 83, 102, 103, 84, 85, 86, 87, 88, 89, 90, 91, 92, 93, 94, 95, 96, 97, 98, 99, 100, 101] (by decide +kernel) (by decide +kernel)
set_option maxRecDepth 20000 in
theorem gX6_cup_X6_accept : GoodIn wsX6_cup (wsV RX6 48 RX6 yX6_accept wsX6_accept) := goodIn_app (goodIn_of _ (by decide +kernel)) ggX6_cup_X6_accept
theorem dX6_cup_0 : decode cX6_cup 0 = .ok (.aload_n 0, 1) := by decide +kernel
theorem dX6_cup_1 : decode cX6_cup 1 = .ok (.getfield 16, 3) := by decide +kernel
theorem dX6_cup_4 : decode cX6_cup 4 = .ok (.aload_n 0, 1) := by decide +kernel
theorem dX6_cup_5 : decode cX6_cup 5 = .ok (.getfield 10, 3) := by decide +kernel
theorem dX6_cup_8 : decode cX6_cup 8 = .ok (.invokevirtual 40, 3) := by decide +kernel
theorem dX6_cup_11 : decode cX6_cup 11 = .ok (.aload_n 0, 1) := by decide +kernel
theorem dX6_cup_12 : decode cX6_cup 12 = .ok (.aload_n 0, 1) := by decide +kernel
theorem dX6_cup_13 : decode cX6_cup 13 = .ok (.getfield 16, 3) := by decide +kernel
theorem dX6_cup_16 : decode cX6_cup 16 = .ok (.iload_n 1, 1) := by decide +kernel
theorem dX6_cup_17 : decode cX6_cup 17 = .ok (.invokevirtual 59, 3) := by decide +kernel
theorem dX6_cup_20 : decode cX6_cup 20 = .ok (.invokevirtual 48, 3) := by decide +kernel
theorem dX6_cup_23 : decode cX6_cup 23 = .ok (.ireturn, 1) := by decide +kernel
set_option maxRecDepth 20000 in
theorem ggX6_worth_X3_copyFrom : GoodIn wsX6_worth wsX3_copyFrom := goodIn_r _ [7, 8, 9, 10, 11, 12, 13, 14, 15, 16, 17, 18, 19, 20, 21, 22, 23, 24, 25, 26, 27, 28, 29, 30, 31, 32, 33, 34, 35, 72, 73, 74, 75, 76, 77, 78, 79, 80, 81, 82, 83, 84, 85, 86, 87, 88, 89] (by decide +kernel) (by decide +kernel)
set_option maxRecDepth 20000 in
theorem gX6_worth_X3_copyFrom : GoodIn wsX6_worth (wsV RX6 40 RX3 yX3_copyFrom wsX3_copyFrom) := goodIn_app (goodIn_of _ (by decide +kernel)) ggX6_worth_X3_copyFrom
set_option maxRecDepth 20000 in
theorem ggX6_worth_X3_changeWorth : GoodIn wsX6_worth wsX3_changeWorth := goodIn_r _ [39, 40, 10, 41, 42, 43, 72, 73, 74, 75, 76, 77, 78, 79, 80] (by decide +kernel) (by decide +kernel)
set_option maxRecDepth 20000 in
theorem gX6_worth_X3_changeWorth : GoodIn wsX6_worth (wsV RX6 62 RX3 yX3_changeWorth wsX3_changeWorth) := goodIn_app (goodIn_of _ (by decide +kernel)) ggX6_worth_X3_changeWorth
set_option maxRecDepth 20000 in
theorem ggX6_worth_X6_accept : GoodIn wsX6_worth wsX6_accept := goodIn_r _ [47, 48, 2, 1, 49, 50, 42, 51, 52, 53, 54, 41, 43, 55, 56, 57, 58, 59, 60, 61, 62, 63, 64, 65, 66, 4, 5, 6, 7, 8, 9, 10, 11, 12, 13, 14, 15, 16, 17, 18, 19, 20, 21, 22, 23, 24, 25, 26, 27, 28, 29, 30, 31, 32, 33, 34, 35, 3, 67, 68, 69, 70, 71, 90, 91, 72, 73, 74, 75, 76, 77, 78, 79, 80, 81, 82, 83, 84, 85, 86, 87, 88, 89] (by decide +kernel) (by decide +kernel)
set_option maxRecDepth 20000 in
theorem gX6_worth_X6_accept : GoodIn wsX6_worth (wsV RX6 48 RX6 yX6_accept wsX6_accept) := goodIn_app (goodIn_of _ (by decide +kernel)) ggX6_worth_X6_accept
theorem dX6_worth_0 : decode cX6_worth 0 = .ok (.aload_n 0, 1) := by decide +kernel
theorem dX6_worth_1 : decode cX6_worth 1 = .ok (.getfield 16, 3) := by decide +kernel
theorem dX6_worth_4 : decode cX6_worth 4 = .ok (.aload_n 0, 1) := by decide +kernel
theorem dX6_worth_5 : decode cX6_worth 5 = .ok (.getfield 10, 3) := by decide +kernel
theorem dX6_worth_8 : decode cX6_worth 8 = .ok (.invokevirtual 40, 3) := by decide +kernel
theorem dX6_worth_11 : decode cX6_worth 11 = .ok (.aload_n 0, 1) := by decide +kernel
theorem dX6_worth_12 : decode cX6_worth 12 = .ok (.aload_n 0, 1) := by decide +kernel
theorem dX6_worth_13 : decode cX6_worth 13 = .ok (.getfield 16, 3) := by decide +kernel
theorem dX6_worth_16 : decode cX6_worth 16 = .ok (.iload_n 1, 1) := by decide +kernel
theorem dX6_worth_17 : decode cX6_worth 17 = .ok (.iload_n 2, 1) := by decide +kernel
theorem dX6_worth_18 : decode cX6_worth 18 = .ok (.invokevirtual 62, 3) := by decide +kernel
theorem dX6_worth_21 : decode cX6_worth 21 = .ok (.invokevirtual 48, 3) := by decide +kernel
theorem dX6_worth_24 : decode cX6_worth 24 = .ok (.ireturn, 1) := by decide +kernel
set_option maxRecDepth 20000 in
theorem ggX6_sell_X3_copyFrom : GoodIn wsX6_sell wsX3_copyFrom := goodIn_r _ [7, 8, 9, 10, 11, 12, 13, 14, 15, 16, 17, 18, 19, 20, 21, 22, 23, 24, 25, 26, 27, 28, 29, 30, 31, 32, 33, 34, 35, 86, 87, 88, 89, 90, 91, 92, 93, 94, 95, 96, 97, 98, 99, 100, 101, 102, 103] (by decide +kernel) (by decide +kernel)
set_option maxRecDepth 20000 in
theorem gX6_sell_X3_copyFrom : GoodIn wsX6_sell (wsV RX6 40 RX3 yX3_copyFrom wsX3_copyFrom) := goodIn_app (goodIn_of _ (by decide +kernel)) ggX6_sell_X3_copyFrom
set_option maxRecDepth 20000 in
theorem ggX6_sell_X3_sellContract : GoodIn wsX6_sell wsX3_sellContract := goodIn_r _ [39, 40, 12, 41, 9, 42, 43, 44, 45, 46, 47, 6, 48, 11, 49, 50, 51, 52, 53, 54, 55, 31, 56, 35, 57, 33, 34, 86, 87, 88, 89, 90, 91, 92, 93, 94, 101, 102, 103] (by decide +kernel) (by decide +kernel)
set_option maxRecDepth 20000 in
theorem gX6_sell_X3_sellContract : GoodIn wsX6_sell (wsV RX6 65 RX3 yX3_sellContract wsX3_sellContract) := goodIn_app (goodIn_of _ (by decide +kernel)) ggX6_sell_X3_sellContract
set_option maxRecDepth 20000 in
theorem ggX6_sell_X6_accept : GoodIn wsX6_sell wsX6_accept := goodIn_r _ [61, 62, 2, 1, 63, 64, 43, 65, 66, 67, 68, 42, 44, 69, 70, 71, 72, 73, 74, 75, 76, 77, 78, 79, 80, 4, 5, 6, 7, 8, 9, 10, 11, 12, 13, 14, 15, 16, 17, 18, 19, 20, 21, 22, 23, 24, 25, 26, 27, 28, 29, 30, 31, 32, 33, 34, 35, 3, 81, 82, 83, 84, 85, 104, 105, 86, 87, 88, 89, 90, 91, 92, 93, 94, 95, 96, 97, 98, 99, 100, 101, 102, 103] (by decide +kernel) (by decide +kernel)
set_option maxRecDepth 20000 in
theorem gX6_sell_X6_accept : GoodIn wsX6_sell (wsV RX6 48 RX6 yX6_accept wsX6_accept) := goodIn_app (goodIn_of _ (by decide +kernel)) ggX6_sell_X6_accept
theorem dX6_sell_0 : decode cX6_sell 0 = .ok (.aload_n 0, 1) := by decide +kernel
theorem dX6_sell_1 : decode cX6_sell 1 = .ok (.getfield 16, 3) := by decide +kernel
theorem dX6_sell_4 : decode cX6_sell 4 = .ok (.aload_n 0, 1) := by decide +kernel
theorem dX6_sell_5 : decode cX6_sell 5 = .ok (.getfield 10, 3) := by decide +kernel
theorem dX6_sell_8 : decode cX6_sell 8 = .ok (.invokevirtual 40, 3) := by decide +kernel
theorem dX6_sell_11 : decode cX6_sell 11 = .ok (.aload_n 0, 1) := by decide +kernel
theorem dX6_sell_12 : decode cX6_sell 12 = .ok (.aload_n 0, 1) := by decide +kernel
theorem dX6_sell_13 : decode cX6_sell 13 = .ok (.getfield 16, 3) := by decide +kernel
theorem dX6_sell_16 : decode cX6_sell 16 = .ok (.iload_n 1, 1) := by decide +kernel
theorem dX6_sell_17 : decode cX6_sell 17 = .ok (.iload_n 2, 1) := by decide +kernel
theorem dX6_sell_18 : decode cX6_sell 18 = .ok (.invokevirtual 65, 3) := by decide +kernel
theorem dX6_sell_21 : decode cX6_sell 21 = .ok (.invokevirtual 48, 3) := by decide +kernel
theorem dX6_sell_24 : decode cX6_sell 24 = .ok (.ireturn, 1) := by decide +kernel
set_option maxRecDepth 20000 in
theorem ggX6_buyBack_X3_copyFrom : GoodIn wsX6_buyBack wsX3_copyFrom := goodIn_r _ [7, 8, 9, 10, 11, 12, 13, 14, 15, 16, 17, 18, 19, 20, 21, 22, 23, 24, 25, 26, 27, 28, 29, 30, 31, 32, 33, 34, 35, 82, 83, 84, 85, 86, 87, 88, 89, 90, 91, 92, 93, 94, 95, 96, 97, 98, 99] (by decide +kernel) (by decide +kernel)
set_option maxRecDepth 20000 in
theorem gX6_buyBack_X3_copyFrom : GoodIn wsX6_buyBack (wsV RX6 40 RX3 yX3_copyFrom wsX3_copyFrom) := goodIn_app (goodIn_of _ (by decide +kernel)) ggX6_buyBack_X3_copyFrom
set_option maxRecDepth 20000 in
theorem ggX6_buyBack_X3_buyContractBack : GoodIn wsX6_buyBack wsX3_buyContractBack := goodIn_r _ [39, 9, 40, 11, 41, 13, 42, 43, 44, 31, 45, 35, 46, 47, 48, 49, 50, 51, 52, 33, 34, 53, 82, 83, 84, 85, 86, 87, 88, 89, 90, 97, 98, 99] (by decide +kernel) (by decide +kernel)
set_option maxRecDepth 20000 in
theorem gX6_buyBack_X3_buyContractBack : GoodIn wsX6_buyBack (wsV RX6 68 RX3 yX3_buyContractBack wsX3_buyContractBack) := goodIn_app (goodIn_of _ (by decide +kernel)) ggX6_buyBack_X3_buyContractBack
set_option maxRecDepth 20000 in
theorem ggX6_buyBack_X6_accept : GoodIn wsX6_buyBack wsX6_accept := goodIn_r _ [57, 58, 2, 1, 59, 60, 47, 61, 62, 63, 64, 46, 48, 65, 66, 67, 68, 69, 70, 71, 72, 73, 74, 75, 76, 4, 5, 6, 7, 8, 9, 10, 11, 12, 13, 14, 15, 16, 17, 18, 19, 20, 21, 22, 23, 24, 25, 26, 27, 28, 29, 30, 31, 32, 33, 34, 35, 3, 77, 78, 79, 80, 81, 100, 101, 82, 83, 84, 85, 86, 87, 88, 89, 90, 91, 92, 93, 94, 95, 96, 97, 98, 99] (by decide +kernel) (by decide +kernel)
set_option maxRecDepth 20000 in
theorem gX6_buyBack_X6_accept : GoodIn wsX6_buyBack (wsV RX6 48 RX6 yX6_accept wsX6_accept) := goodIn_app (goodIn_of _ (by decide +kernel)) ggX6_buyBack_X6_accept
theorem dX6_buyBack_0 : decode cX6_buyBack 0 = .ok (.aload_n 0, 1) := by decide +kernel
theorem dX6_buyBack_1 : decode cX6_buyBack 1 = .ok (.getfield 16, 3) := by decide +kernel
theorem dX6_buyBack_4 : decode cX6_buyBack 4 = .ok (.aload_n 0, 1) := by decide +kernel
theorem dX6_buyBack_5 : decode cX6_buyBack 5 = .ok (.getfield 10, 3) := by decide +kernel
theorem dX6_buyBack_8 : decode cX6_buyBack 8 = .ok (.invokevirtual 40, 3) := by decide +kernel
theorem dX6_buyBack_11 : decode cX6_buyBack 11 = .ok (.aload_n 0, 1) := by decide +kernel
theorem dX6_buyBack_12 : decode cX6_buyBack 12 = .ok (.aload_n 0, 1) := by decide +kernel
theorem dX6_buyBack_13 : decode cX6_buyBack 13 = .ok (.getfield 16, 3) := by decide +kernel
theorem dX6_buyBack_16 : decode cX6_buyBack 16 = .ok (.iload_n 1, 1) := by decide +kernel
theorem dX6_buyBack_17 : decode cX6_buyBack 17 = .ok (.iload_n 2, 1) := by decide +kernel
theorem dX6_buyBack_18 : decode cX6_buyBack 18 = .ok (.invokevirtual 68, 3) := by decide +kernel
theorem dX6_buyBack_21 : decode cX6_buyBack 21 = .ok (.invokevirtual 48, 3) := by decide +kernel
theorem dX6_buyBack_24 : decode cX6_buyBack 24 = .ok (.ireturn, 1) := by decide +kernel
set_option maxRecDepth 20000 in
theorem ggX6_meet_X3_copyFrom : GoodIn wsX6_meet wsX3_copyFrom := goodIn_r _ [8, 9, 10, 11, 12, 13, 14, 15, 16, 17, 18, 19, 20, 21, 22, 23, 24, 25, 26, 27, 28, 29, 30, 31, 32, 33, 34, 35, 36, 147, 148, 149, 150, 151, 152, 153, 154, 155, 156, 157, 158, 159, 160, 161, 162, 163, 164] (by decide +kernel) (by decide +kernel)
set_option maxRecDepth 20000 in
theorem gX6_meet_X3_copyFrom : GoodIn wsX6_meet (wsV RX6 40 RX3 yX3_copyFrom wsX3_copyFrom) := goodIn_app (goodIn_of _ (by decide +kernel)) ggX6_meet_X3_copyFrom
set_option maxRecDepth 20000 in
theorem ggX6_meet_X3_meetContract : GoodIn wsX6_meet wsX3_meetContract := goodIn_r _ [40, 10, 41, 42, 13, 43, 44, 45, 46, 9, 47, 48, 49, 14, 50, 15, 17, 12, 51, 52, 53, 32, 54, 36, 55, 56, 57, 58, 59, 60, 61, 62, 63, 64, 65, 66, 67, 68, 69, 70, 71, 72, 73, 74, 75, 76, 77, 78, 79, 80, 81, 21, 82, 25, 26, 83, 84, 85, 86, 87, 88, 89, 7, 90, 91, 92, 93, 94, 95, 96, 97, 98, 99, 100, 101, 102, 103, 104, 105, 106, 107, 108, 109, 110, 111, 27, 24, 23, 112, 113, 114, 115, 34, 35, 116, 147, 148, 149, 150, 151, 152, 153, 154, 155, 162, 163, 164, 165, 166, 167, 168, 169, 170, 171, 172, 173, 174, 175, 176, 156, 157, 158, 159, 160, 161] (by decide +kernel) (by decide +kernel)
set_option maxRecDepth 20000 in
theorem gX6_meet_X3_meetContract : GoodIn wsX6_meet (wsV RX6 71 RX3 yX3_meetContract wsX3_meetContract) := goodIn_app (goodIn_of _ (by decide +kernel)) ggX6_meet_X3_meetContract
set_option maxRecDepth 20000 in
theorem ggX6_meet_X6_accept : GoodIn wsX6_meet wsX6_accept := goodIn_r _ [120, 121, 2, 1, 122, 123, 92, 124, 125, 126, 127, 128, 129, 130, 131, 132, 133, 134, 135, 136, 137, 138, 139, 140, 141, 5, 6, 7, 8, 9, 10, 11, 12, 13, 14, 15, 16, 17, 18, 19, 20, 21, 22, 23, 24, 25, 26, 27, 28, 29, 30, 31, 32, 33, 34, 35, 36, 4, 142, 143, 144, 145, 146, 177, 178, 147, 148, 149, 150, 151, 152, 153, 154, 155, 156, 157, 158, 159, 160, 161, 162, 163, 164] (by decide +kernel) (by decide +kernel)
set_option maxRecDepth 20000 in
theorem gX6_meet_X6_accept : GoodIn wsX6_meet (wsV RX6 48 RX6 yX6_accept wsX6_accept) := goodIn_app (goodIn_of _ (by decide +kernel)) ggX6_meet_X6_accept
theorem dX6_meet_0 : decode cX6_meet 0 = .ok (.aload_n 0, 1) := by decide +kernel
theorem dX6_meet_1 : decode cX6_meet 1 = .ok (.getfield 16, 3) := by decide +kernel
theorem dX6_meet_4 : decode cX6_meet 4 = .ok (.aload_n 0, 1) := by decide +kernel
theorem dX6_meet_5 : decode cX6_meet 5 = .ok (.getfield 10, 3) := by decide +kernel
theorem dX6_meet_8 : decode cX6_meet 8 = .ok (.invokevirtual 40, 3) := by decide +kernel
theorem dX6_meet_11 : decode cX6_meet 11 = .ok (.aload_n 0, 1) := by decide +kernel
theorem dX6_meet_12 : decode cX6_meet 12 = .ok (.aload_n 0, 1) := by decide +kernel
theorem dX6_meet_13 : decode cX6_meet 13 = .ok (.getfield 16, 3) := by decide +kernel
theorem dX6_meet_16 : decode cX6_meet 16 = .ok (.iload_n 1, 1) := by decide +kernel
theorem dX6_meet_17 : decode cX6_meet 17 = .ok (.aload_n 0, 1) := by decide +kernel
theorem dX6_meet_18 : decode cX6_meet 18 = .ok (.getfield 29, 3) := by decide +kernel
theorem dX6_meet_21 : decode cX6_meet 21 = .ok (.invokevirtual 71, 3) := by decide +kernel
theorem dX6_meet_24 : decode cX6_meet 24 = .ok (.invokevirtual 48, 3) := by decide +kernel
theorem dX6_meet_27 : decode cX6_meet 27 = .ok (.ireturn, 1) := by decide +kernel
set_option maxRecDepth 20000 in
theorem ggX6_pass_X3_copyFrom : GoodIn wsX6_pass wsX3_copyFrom := goodIn_r _ [7, 8, 9, 10, 11, 12, 13, 14, 15, 16, 17, 18, 19, 20, 21, 22, 23, 24, 25, 26, 27, 28, 29, 30, 31, 32, 33, 34, 35, 77, 78, 79, 80, 81, 82, 83, 84, 85, 86, 87, 88, 89, 90, 91, 92, 93, 94] (by decide +kernel) (by decide +kernel)
set_option maxRecDepth 20000 in
theorem gX6_pass_X3_copyFrom : GoodIn wsX6_pass (wsV RX6 40 RX3 yX3_copyFrom wsX3_copyFrom) := goodIn_app (goodIn_of _ (by decide +kernel)) ggX6_pass_X3_copyFrom
set_option maxRecDepth 20000 in
theorem ggX6_pass_X3_passMonths : GoodIn wsX6_pass wsX3_passMonths := goodIn_r _ [39, 40, 12, 41, 9, 15, 13, 11, 42, 43, 44, 45, 46, 47, 31, 48, 35, 33, 34, 77, 78, 79, 80, 81, 82, 83, 84, 85, 92, 93, 94] (by decide +kernel) (by decide +kernel)
set_option maxRecDepth 20000 in
theorem gX6_pass_X3_passMonths : GoodIn wsX6_pass (wsV RX6 75 RX3 yX3_passMonths wsX3_passMonths) := goodIn_app (goodIn_of _ (by decide +kernel)) ggX6_pass_X3_passMonths
set_option maxRecDepth 20000 in
theorem ggX6_pass_X6_accept : GoodIn wsX6_pass wsX6_accept := goodIn_r _ [52, 53, 2, 1, 54, 55, 43, 56, 57, 58, 59, 42, 44, 60, 61, 62, 63, 64, 65, 66, 67, 68, 69, 70, 71, 4, 5, 6, 7, 8, 9, 10, 11, 12, 13, 14, 15, 16, 17, 18, 19, 20, 21, 22, 23, 24, 25, 26, 27, 28, 29, 30, 31, 32, 33, 34, 35, 3, 72, 73, 74, 75, 76, 95, 96, 77, 78, 79, 80, 81, 82, 83, 84, 85, 86, 87, 88, 89, 90, 91, 92, 93, 94] (by decide +kernel) (by decide +kernel)
set_option maxRecDepth 20000 in
theorem gX6_pass_X6_accept : GoodIn wsX6_pass (wsV RX6 48 RX6 yX6_accept wsX6_accept) := goodIn_app (goodIn_of _ (by decide +kernel)) ggX6_pass_X6_accept
theorem dX6_pass_0 : decode cX6_pass 0 = .ok (.aload_n 0, 1) := by decide +kernel
theorem dX6_pass_1 : decode cX6_pass 1 = .ok (.getfield 16, 3) := by decide +kernel
theorem dX6_pass_4 : decode cX6_pass 4 = .ok (.aload_n 0, 1) := by decide +kernel
theorem dX6_pass_5 : decode cX6_pass 5 = .ok (.getfield 10, 3) := by decide +kernel
theorem dX6_pass_8 : decode cX6_pass 8 = .ok (.invokevirtual 40, 3) := by decide +kernel
theorem dX6_pass_11 : decode cX6_pass 11 = .ok (.aload_n 0, 1) := by decide +kernel
theorem dX6_pass_12 : decode cX6_pass 12 = .ok (.aload_n 0, 1) := by decide +kernel
theorem dX6_pass_13 : decode cX6_pass 13 = .ok (.getfield 16, 3) := by decide +kernel
theorem dX6_pass_16 : decode cX6_pass 16 = .ok (.iload_n 1, 1) := by decide +kernel
theorem dX6_pass_17 : decode cX6_pass 17 = .ok (.invokevirtual 75, 3) := by decide +kernel
theorem dX6_pass_20 : decode cX6_pass 20 = .ok (.invokevirtual 48, 3) := by decide +kernel
theorem dX6_pass_23 : decode cX6_pass 23 = .ok (.ireturn, 1) := by decide +kernel
set_option maxRecDepth 20000 in
theorem ggX6_set_X3_copyFrom : GoodIn wsX6_set wsX3_copyFrom := goodIn_r _ [7, 8, 9, 10, 11, 12, 13, 14, 15, 16, 17, 18, 19, 20, 21, 22, 23, 24, 25, 26, 27, 28, 29, 30, 31, 32, 33, 34, 35, 74, 75, 76, 77, 78, 79, 80, 81, 82, 83, 84, 85, 86, 87, 88, 89, 90, 91] (by decide +kernel) (by decide +kernel)
set_option maxRecDepth 20000 in
theorem gX6_set_X3_copyFrom : GoodIn wsX6_set (wsV RX6 40 RX3 yX3_copyFrom wsX3_copyFrom) := goodIn_app (goodIn_of _ (by decide +kernel)) ggX6_set_X3_copyFrom
set_option maxRecDepth 20000 in
theorem ggX6_set_X3_changeSetting : GoodIn wsX6_set wsX3_changeSetting := goodIn_r _ [39, 40, 9, 41, 42, 11, 43, 44, 45, 74, 75, 76, 77, 78, 79, 80, 81, 82, 89, 90, 91] (by decide +kernel) (by decide +kernel)
set_option maxRecDepth 20000 in
theorem gX6_set_X3_changeSetting : GoodIn wsX6_set (wsV RX6 78 RX3 yX3_changeSetting wsX3_changeSetting) := goodIn_app (goodIn_of _ (by decide +kernel)) ggX6_set_X3_changeSetting
set_option maxRecDepth 20000 in
theorem ggX6_set_X6_accept : GoodIn wsX6_set wsX6_accept := goodIn_r _ [49, 50, 2, 1, 51, 52, 44, 53, 54, 55, 56, 43, 45, 57, 58, 59, 60, 61, 62, 63, 64, 65, 66, 67, 68, 4, 5, 6, 7, 8, 9, 10, 11, 12, 13, 14, 15, 16, 17, 18, 19, 20, 21, 22, 23, 24, 25, 26, 27, 28, 29, 30, 31, 32, 33, 34, 35, 3, 69, 70, 71, 72, 73, 92, 93, 74, 75, 76, 77, 78, 79, 80, 81, 82, 83, 84, 85, 86, 87, 88, 89, 90, 91] (by decide +kernel) (by decide +kernel)
set_option maxRecDepth 20000 in
theorem gX6_set_X6_accept : GoodIn wsX6_set (wsV RX6 48 RX6 yX6_accept wsX6_accept) := goodIn_app (goodIn_of _ (by decide +kernel)) ggX6_set_X6_accept
theorem dX6_set_0 : decode cX6_set 0 = .ok (.aload_n 0, 1) := by decide +kernel
theorem dX6_set_1 : decode cX6_set 1 = .ok (.getfield 16, 3) := by decide +kernel
theorem dX6_set_4 : decode cX6_set 4 = .ok (.aload_n 0, 1) := by decide +kernel
theorem dX6_set_5 : decode cX6_set 5 = .ok (.getfield 10, 3) := by decide +kernel
theorem dX6_set_8 : decode cX6_set 8 = .ok (.invokevirtual 40, 3) := by decide +kernel
theorem dX6_set_11 : decode cX6_set 11 = .ok (.aload_n 0, 1) := by decide +kernel
theorem dX6_set_12 : decode cX6_set 12 = .ok (.aload_n 0, 1) := by decide +kernel
theorem dX6_set_13 : decode cX6_set 13 = .ok (.getfield 16, 3) := by decide +kernel
theorem dX6_set_16 : decode cX6_set 16 = .ok (.iload_n 1, 1) := by decide +kernel
theorem dX6_set_17 : decode cX6_set 17 = .ok (.iload_n 2, 1) := by decide +kernel
theorem dX6_set_18 : decode cX6_set 18 = .ok (.invokevirtual 78, 3) := by decide +kernel
theorem dX6_set_21 : decode cX6_set 21 = .ok (.invokevirtual 48, 3) := by decide +kernel
theorem dX6_set_24 : decode cX6_set 24 = .ok (.ireturn, 1) := by decide +kernel
set_option maxRecDepth 20000 in
theorem ggX6_lotOf_X4_rowOf : GoodIn wsX6_lotOf wsX4_rowOf := goodIn_r _ [8, 9, 10, 50, 51, 52, 53, 54, 55] (by decide +kernel) (by decide +kernel)
set_option maxRecDepth 20000 in
theorem gX6_lotOf_X4_rowOf : GoodIn wsX6_lotOf (wsV RX6 85 RX4 yX4_rowOf wsX4_rowOf) := goodIn_app (goodIn_of _ (by decide +kernel)) ggX6_lotOf_X4_rowOf
set_option maxRecDepth 20000 in
theorem ggX6_lotOf_X3_tellOfLot : GoodIn wsX6_lotOf wsX3_tellOfLot := goodIn_r _ [15, 16, 17, 18, 19, 20, 21, 22, 23, 24, 25, 7, 26, 27, 28, 29, 30, 31, 32, 33, 34, 35, 41, 42, 43, 44, 45, 46, 47, 48, 49, 50, 51, 52, 53, 54, 55] (by decide +kernel) (by decide +kernel)
set_option maxRecDepth 20000 in
theorem gX6_lotOf_X3_tellOfLot : GoodIn wsX6_lotOf (wsV RX6 91 RX3 yX3_tellOfLot wsX3_tellOfLot) := goodIn_app (goodIn_of _ (by decide +kernel)) ggX6_lotOf_X3_tellOfLot
theorem dX6_lotOf_0 : decode cX6_lotOf 0 = .ok (.aload_n 0, 1) := by decide +kernel
theorem dX6_lotOf_1 : decode cX6_lotOf 1 = .ok (.getfield 10, 3) := by decide +kernel
theorem dX6_lotOf_4 : decode cX6_lotOf 4 = .ok (.getfield 81, 3) := by decide +kernel
theorem dX6_lotOf_7 : decode cX6_lotOf 7 = .ok (.iload_n 1, 1) := by decide +kernel
theorem dX6_lotOf_8 : decode cX6_lotOf 8 = .ok (.invokevirtual 85, 3) := by decide +kernel
theorem dX6_lotOf_11 : decode cX6_lotOf 11 = .ok (.istore_n 3, 1) := by decide +kernel
theorem dX6_lotOf_12 : decode cX6_lotOf 12 = .ok (.iload_n 3, 1) := by decide +kernel
theorem dX6_lotOf_13 : decode cX6_lotOf 13 = .ok (.ifCond .ge 8, 3) := by decide +kernel
theorem dX6_lotOf_16 : decode cX6_lotOf 16 = .ok (.ldc 90, 2) := by decide +kernel
theorem dX6_lotOf_18 : decode cX6_lotOf 18 = .ok (.goto 12, 3) := by decide +kernel
theorem dX6_lotOf_21 : decode cX6_lotOf 21 = .ok (.aload_n 0, 1) := by decide +kernel
theorem dX6_lotOf_22 : decode cX6_lotOf 22 = .ok (.getfield 10, 3) := by decide +kernel
theorem dX6_lotOf_25 : decode cX6_lotOf 25 = .ok (.iload_n 3, 1) := by decide +kernel
theorem dX6_lotOf_26 : decode cX6_lotOf 26 = .ok (.iload_n 2, 1) := by decide +kernel
theorem dX6_lotOf_27 : decode cX6_lotOf 27 = .ok (.invokevirtual 91, 3) := by decide +kernel
theorem dX6_lotOf_30 : decode cX6_lotOf 30 = .ok (.ireturn, 1) := by decide +kernel
theorem dX6_numberOf_0 : decode cX6_numberOf 0 = .ok (.iload_n 1, 1) := by decide +kernel
theorem dX6_numberOf_1 : decode cX6_numberOf 1 = .ok (.ifCond .ge 6, 3) := by decide +kernel
theorem dX6_numberOf_4 : decode cX6_numberOf 4 = .ok (.ldc 90, 2) := by decide +kernel
theorem dX6_numberOf_6 : decode cX6_numberOf 6 = .ok (.ireturn, 1) := by decide +kernel
theorem dX6_numberOf_7 : decode cX6_numberOf 7 = .ok (.iload_n 1, 1) := by decide +kernel
theorem dX6_numberOf_8 : decode cX6_numberOf 8 = .ok (.aload_n 0, 1) := by decide +kernel
theorem dX6_numberOf_9 : decode cX6_numberOf 9 = .ok (.getfield 10, 3) := by decide +kernel
theorem dX6_numberOf_12 : decode cX6_numberOf 12 = .ok (.getfield 81, 3) := by decide +kernel
theorem dX6_numberOf_15 : decode cX6_numberOf 15 = .ok (.getfield 94, 3) := by decide +kernel
theorem dX6_numberOf_18 : decode cX6_numberOf 18 = .ok (.if_icmp .ge 18, 3) := by decide +kernel
theorem dX6_numberOf_21 : decode cX6_numberOf 21 = .ok (.aload_n 0, 1) := by decide +kernel
theorem dX6_numberOf_22 : decode cX6_numberOf 22 = .ok (.getfield 10, 3) := by decide +kernel
theorem dX6_numberOf_25 : decode cX6_numberOf 25 = .ok (.getfield 81, 3) := by decide +kernel
theorem dX6_numberOf_28 : decode cX6_numberOf 28 = .ok (.getfield 98, 3) := by decide +kernel
theorem dX6_numberOf_31 : decode cX6_numberOf 31 = .ok (.iload_n 1, 1) := by decide +kernel
theorem dX6_numberOf_32 : decode cX6_numberOf 32 = .ok (.iaload, 1) := by decide +kernel
theorem dX6_numberOf_33 : decode cX6_numberOf 33 = .ok (.goto 5, 3) := by decide +kernel
theorem dX6_numberOf_36 : decode cX6_numberOf 36 = .ok (.ldc 102, 2) := by decide +kernel
theorem dX6_numberOf_38 : decode cX6_numberOf 38 = .ok (.ireturn, 1) := by decide +kernel
set_option maxRecDepth 20000 in
theorem ggX6_contractOf_X0_isOpen : GoodIn wsX6_contractOf wsX0_isOpen := goodIn_r _ [11, 12, 27, 28, 29] (by decide +kernel) (by decide +kernel)
set_option maxRecDepth 20000 in
theorem gX6_contractOf_X0_isOpen : GoodIn wsX6_contractOf (wsV RX6 107 RX0 yX0_isOpen wsX0_isOpen) := goodIn_app (goodIn_of _ (by decide +kernel)) ggX6_contractOf_X0_isOpen
theorem dX6_contractOf_0 : decode cX6_contractOf 0 = .ok (.aload_n 0, 1) := by decide +kernel
theorem dX6_contractOf_1 : decode cX6_contractOf 1 = .ok (.getfield 10, 3) := by decide +kernel
theorem dX6_contractOf_4 : decode cX6_contractOf 4 = .ok (.getfield 103, 3) := by decide +kernel
theorem dX6_contractOf_7 : decode cX6_contractOf 7 = .ok (.iload_n 1, 1) := by decide +kernel
theorem dX6_contractOf_8 : decode cX6_contractOf 8 = .ok (.invokevirtual 107, 3) := by decide +kernel
theorem dX6_contractOf_11 : decode cX6_contractOf 11 = .ok (.ifCond .ne 6, 3) := by decide +kernel
theorem dX6_contractOf_14 : decode cX6_contractOf 14 = .ok (.ldc 90, 2) := by decide +kernel
theorem dX6_contractOf_16 : decode cX6_contractOf 16 = .ok (.ireturn, 1) := by decide +kernel
theorem dX6_contractOf_17 : decode cX6_contractOf 17 = .ok (.iload_n 2, 1) := by decide +kernel
theorem dX6_contractOf_18 : decode cX6_contractOf 18 = .ok (.tableswitch 73 0 2 #[26, 39, 52], 26) := by decide +kernel
theorem dX6_contractOf_44 : decode cX6_contractOf 44 = .ok (.aload_n 0, 1) := by decide +kernel
theorem dX6_contractOf_45 : decode cX6_contractOf 45 = .ok (.getfield 10, 3) := by decide +kernel
theorem dX6_contractOf_48 : decode cX6_contractOf 48 = .ok (.getfield 103, 3) := by decide +kernel
theorem dX6_contractOf_51 : decode cX6_contractOf 51 = .ok (.getfield 113, 3) := by decide +kernel
theorem dX6_contractOf_54 : decode cX6_contractOf 54 = .ok (.iload_n 1, 1) := by decide +kernel
theorem dX6_contractOf_55 : decode cX6_contractOf 55 = .ok (.iaload, 1) := by decide +kernel
theorem dX6_contractOf_56 : decode cX6_contractOf 56 = .ok (.ireturn, 1) := by decide +kernel
theorem dX6_contractOf_57 : decode cX6_contractOf 57 = .ok (.aload_n 0, 1) := by decide +kernel
theorem dX6_contractOf_58 : decode cX6_contractOf 58 = .ok (.getfield 10, 3) := by decide +kernel
theorem dX6_contractOf_61 : decode cX6_contractOf 61 = .ok (.getfield 103, 3) := by decide +kernel
theorem dX6_contractOf_64 : decode cX6_contractOf 64 = .ok (.getfield 116, 3) := by decide +kernel
theorem dX6_contractOf_67 : decode cX6_contractOf 67 = .ok (.iload_n 1, 1) := by decide +kernel
theorem dX6_contractOf_68 : decode cX6_contractOf 68 = .ok (.iaload, 1) := by decide +kernel
theorem dX6_contractOf_69 : decode cX6_contractOf 69 = .ok (.ireturn, 1) := by decide +kernel
theorem dX6_contractOf_70 : decode cX6_contractOf 70 = .ok (.aload_n 0, 1) := by decide +kernel
theorem dX6_contractOf_71 : decode cX6_contractOf 71 = .ok (.getfield 10, 3) := by decide +kernel
theorem dX6_contractOf_74 : decode cX6_contractOf 74 = .ok (.getfield 103, 3) := by decide +kernel
theorem dX6_contractOf_77 : decode cX6_contractOf 77 = .ok (.getfield 113, 3) := by decide +kernel
theorem dX6_contractOf_80 : decode cX6_contractOf 80 = .ok (.iload_n 1, 1) := by decide +kernel
theorem dX6_contractOf_81 : decode cX6_contractOf 81 = .ok (.iaload, 1) := by decide +kernel
theorem dX6_contractOf_82 : decode cX6_contractOf 82 = .ok (.aload_n 0, 1) := by decide +kernel
theorem dX6_contractOf_83 : decode cX6_contractOf 83 = .ok (.getfield 10, 3) := by decide +kernel
theorem dX6_contractOf_86 : decode cX6_contractOf 86 = .ok (.getfield 119, 3) := by decide +kernel
theorem dX6_contractOf_89 : decode cX6_contractOf 89 = .ok (.isub, 1) := by decide +kernel
theorem dX6_contractOf_90 : decode cX6_contractOf 90 = .ok (.ireturn, 1) := by decide +kernel
theorem dX6_contractOf_91 : decode cX6_contractOf 91 = .ok (.ldc 90, 2) := by decide +kernel
theorem dX6_contractOf_93 : decode cX6_contractOf 93 = .ok (.ireturn, 1) := by decide +kernel
set_option maxRecDepth 20000 in
theorem ggX6_paid_X4_rowOf : GoodIn wsX6_paid wsX4_rowOf := goodIn_r _ [11, 12, 13, 51, 52, 53, 54, 55, 56] (by decide +kernel) (by decide +kernel)
set_option maxRecDepth 20000 in
theorem gX6_paid_X4_rowOf : GoodIn wsX6_paid (wsV RX6 85 RX4 yX4_rowOf wsX4_rowOf) := goodIn_app (goodIn_of _ (by decide +kernel)) ggX6_paid_X4_rowOf
set_option maxRecDepth 20000 in
theorem ggX6_paid_X6_isWithin : GoodIn wsX6_paid wsX6_isWithin := goodIn_r _ [17] (by decide +kernel) (by decide +kernel)
set_option maxRecDepth 20000 in
theorem gX6_paid_X6_isWithin : GoodIn wsX6_paid (va_wsS RX6 122 yX6_isWithin wsX6_isWithin) := goodIn_app (goodIn_of _ (by decide +kernel)) ggX6_paid_X6_isWithin
set_option maxRecDepth 20000 in
theorem ggX6_paid_X4_cupAt : GoodIn wsX6_paid wsX4_cupAt := goodIn_r _ [21, 22, 23, 51, 52, 53, 54, 55, 56] (by decide +kernel) (by decide +kernel)
set_option maxRecDepth 20000 in
theorem gX6_paid_X4_cupAt : GoodIn wsX6_paid (wsV RX6 126 RX4 yX4_cupAt wsX4_cupAt) := goodIn_app (goodIn_of _ (by decide +kernel)) ggX6_paid_X4_cupAt
set_option maxRecDepth 20000 in
theorem ggX6_paid_X4_monthsTooOld : GoodIn wsX6_paid wsX4_monthsTooOld := goodIn_r _ [27, 23, 51, 52, 53, 54, 55, 56] (by decide +kernel) (by decide +kernel)
set_option maxRecDepth 20000 in
theorem gX6_paid_X4_monthsTooOld : GoodIn wsX6_paid (wsV RX6 129 RX4 yX4_monthsTooOld wsX4_monthsTooOld) := goodIn_app (goodIn_of _ (by decide +kernel)) ggX6_paid_X4_monthsTooOld
set_option maxRecDepth 20000 in
theorem ggX6_paid_X3_payForBag : GoodIn wsX6_paid wsX3_payForBag := goodIn_r _ [32, 33, 42, 43, 44, 45, 46, 47, 48, 49, 50] (by decide +kernel) (by decide +kernel)
set_option maxRecDepth 20000 in
theorem gX6_paid_X3_payForBag : GoodIn wsX6_paid (wsV RX6 132 RX3 yX3_payForBag wsX3_payForBag) := goodIn_app (goodIn_of _ (by decide +kernel)) ggX6_paid_X3_payForBag
set_option maxRecDepth 20000 in
theorem ggX6_paid_X6_bandOf : GoodIn wsX6_paid wsX6_bandOf := goodIn_r _ [36] (by decide +kernel) (by decide +kernel)
set_option maxRecDepth 20000 in
theorem gX6_paid_X6_bandOf : GoodIn wsX6_paid (va_wsS RX6 139 yX6_bandOf wsX6_bandOf) := goodIn_app (goodIn_of _ (by decide +kernel)) ggX6_paid_X6_bandOf
theorem dX6_paid_0 : decode cX6_paid 0 = .ok (.aload_n 0, 1) := by decide +kernel
theorem dX6_paid_1 : decode cX6_paid 1 = .ok (.getfield 10, 3) := by decide +kernel
theorem dX6_paid_4 : decode cX6_paid 4 = .ok (.getfield 81, 3) := by decide +kernel
theorem dX6_paid_7 : decode cX6_paid 7 = .ok (.iload_n 1, 1) := by decide +kernel
theorem dX6_paid_8 : decode cX6_paid 8 = .ok (.invokevirtual 85, 3) := by decide +kernel
theorem dX6_paid_11 : decode cX6_paid 11 = .ok (.istore 4, 2) := by decide +kernel
theorem dX6_paid_13 : decode cX6_paid 13 = .ok (.iload 4, 2) := by decide +kernel
theorem dX6_paid_15 : decode cX6_paid 15 = .ok (.ifCond .lt 23, 3) := by decide +kernel
theorem dX6_paid_18 : decode cX6_paid 18 = .ok (.iload_n 2, 1) := by decide +kernel
theorem dX6_paid_19 : decode cX6_paid 19 = .ok (.iconst 1, 1) := by decide +kernel
theorem dX6_paid_20 : decode cX6_paid 20 = .ok (.sipush 999, 3) := by decide +kernel
theorem dX6_paid_23 : decode cX6_paid 23 = .ok (.invokestatic 122, 3) := by decide +kernel
theorem dX6_paid_26 : decode cX6_paid 26 = .ok (.ifCond .eq 12, 3) := by decide +kernel
theorem dX6_paid_29 : decode cX6_paid 29 = .ok (.iload_n 3, 1) := by decide +kernel
theorem dX6_paid_30 : decode cX6_paid 30 = .ok (.iconst 0, 1) := by decide +kernel
theorem dX6_paid_31 : decode cX6_paid 31 = .ok (.iconst 1, 1) := by decide +kernel
theorem dX6_paid_32 : decode cX6_paid 32 = .ok (.invokestatic 122, 3) := by decide +kernel
theorem dX6_paid_35 : decode cX6_paid 35 = .ok (.ifCond .ne 6, 3) := by decide +kernel
theorem dX6_paid_38 : decode cX6_paid 38 = .ok (.ldc 90, 2) := by decide +kernel
theorem dX6_paid_40 : decode cX6_paid 40 = .ok (.ireturn, 1) := by decide +kernel
theorem dX6_paid_41 : decode cX6_paid 41 = .ok (.aload_n 0, 1) := by decide +kernel
theorem dX6_paid_42 : decode cX6_paid 42 = .ok (.getfield 10, 3) := by decide +kernel
theorem dX6_paid_45 : decode cX6_paid 45 = .ok (.getfield 81, 3) := by decide +kernel
theorem dX6_paid_48 : decode cX6_paid 48 = .ok (.iload 4, 2) := by decide +kernel
theorem dX6_paid_50 : decode cX6_paid 50 = .ok (.aload_n 0, 1) := by decide +kernel
theorem dX6_paid_51 : decode cX6_paid 51 = .ok (.getfield 10, 3) := by decide +kernel
theorem dX6_paid_54 : decode cX6_paid 54 = .ok (.getfield 119, 3) := by decide +kernel
theorem dX6_paid_57 : decode cX6_paid 57 = .ok (.invokevirtual 126, 3) := by decide +kernel
theorem dX6_paid_60 : decode cX6_paid 60 = .ok (.istore 5, 2) := by decide +kernel
theorem dX6_paid_62 : decode cX6_paid 62 = .ok (.iload 5, 2) := by decide +kernel
theorem dX6_paid_64 : decode cX6_paid 64 = .ok (.bipush 70, 2) := by decide +kernel
theorem dX6_paid_66 : decode cX6_paid 66 = .ok (.if_icmp .ge 6, 3) := by decide +kernel
theorem dX6_paid_69 : decode cX6_paid 69 = .ok (.ldc 102, 2) := by decide +kernel
theorem dX6_paid_71 : decode cX6_paid 71 = .ok (.ireturn, 1) := by decide +kernel
theorem dX6_paid_72 : decode cX6_paid 72 = .ok (.aload_n 0, 1) := by decide +kernel
theorem dX6_paid_73 : decode cX6_paid 73 = .ok (.getfield 10, 3) := by decide +kernel
theorem dX6_paid_76 : decode cX6_paid 76 = .ok (.iload_n 2, 1) := by decide +kernel
theorem dX6_paid_77 : decode cX6_paid 77 = .ok (.iload 5, 2) := by decide +kernel
theorem dX6_paid_79 : decode cX6_paid 79 = .ok (.aload_n 0, 1) := by decide +kernel
theorem dX6_paid_80 : decode cX6_paid 80 = .ok (.getfield 10, 3) := by decide +kernel
theorem dX6_paid_83 : decode cX6_paid 83 = .ok (.getfield 81, 3) := by decide +kernel
theorem dX6_paid_86 : decode cX6_paid 86 = .ok (.iload 4, 2) := by decide +kernel
theorem dX6_paid_88 : decode cX6_paid 88 = .ok (.aload_n 0, 1) := by decide +kernel
theorem dX6_paid_89 : decode cX6_paid 89 = .ok (.getfield 10, 3) := by decide +kernel
theorem dX6_paid_92 : decode cX6_paid 92 = .ok (.getfield 119, 3) := by decide +kernel
theorem dX6_paid_95 : decode cX6_paid 95 = .ok (.invokevirtual 129, 3) := by decide +kernel
theorem dX6_paid_98 : decode cX6_paid 98 = .ok (.invokevirtual 132, 3) := by decide +kernel
theorem dX6_paid_101 : decode cX6_paid 101 = .ok (.istore 6, 2) := by decide +kernel
theorem dX6_paid_103 : decode cX6_paid 103 = .ok (.iload_n 3, 1) := by decide +kernel
theorem dX6_paid_104 : decode cX6_paid 104 = .ok (.ifCond .ne 8, 3) := by decide +kernel
theorem dX6_paid_107 : decode cX6_paid 107 = .ok (.iload 6, 2) := by decide +kernel
theorem dX6_paid_109 : decode cX6_paid 109 = .ok (.goto 23, 3) := by decide +kernel
theorem dX6_paid_112 : decode cX6_paid 112 = .ok (.iload 6, 2) := by decide +kernel
theorem dX6_paid_114 : decode cX6_paid 114 = .ok (.aload_n 0, 1) := by decide +kernel
theorem dX6_paid_115 : decode cX6_paid 115 = .ok (.getfield 10, 3) := by decide +kernel
theorem dX6_paid_118 : decode cX6_paid 118 = .ok (.getfield 136, 3) := by decide +kernel
theorem dX6_paid_121 : decode cX6_paid 121 = .ok (.iload 5, 2) := by decide +kernel
theorem dX6_paid_123 : decode cX6_paid 123 = .ok (.invokestatic 139, 3) := by decide +kernel
theorem dX6_paid_126 : decode cX6_paid 126 = .ok (.iaload, 1) := by decide +kernel
theorem dX6_paid_127 : decode cX6_paid 127 = .ok (.isub, 1) := by decide +kernel
theorem dX6_paid_128 : decode cX6_paid 128 = .ok (.sipush 10000, 3) := by decide +kernel
theorem dX6_paid_131 : decode cX6_paid 131 = .ok (.iadd, 1) := by decide +kernel
theorem dX6_paid_132 : decode cX6_paid 132 = .ok (.ireturn, 1) := by decide +kernel
set_option maxRecDepth 20000 in
theorem ggX6_given_X0_isOpen : GoodIn wsX6_given wsX0_isOpen := goodIn_r _ [17, 18, 94, 95, 96] (by decide +kernel) (by decide +kernel)
set_option maxRecDepth 20000 in
theorem gX6_given_X0_isOpen : GoodIn wsX6_given (wsV RX6 107 RX0 yX0_isOpen wsX0_isOpen) := goodIn_app (goodIn_of _ (by decide +kernel)) ggX6_given_X0_isOpen
set_option maxRecDepth 20000 in
theorem ggX6_given_X6_isWithin : GoodIn wsX6_given wsX6_isWithin := goodIn_r _ [22] (by decide +kernel) (by decide +kernel)
set_option maxRecDepth 20000 in
theorem gX6_given_X6_isWithin : GoodIn wsX6_given (va_wsS RX6 122 yX6_isWithin wsX6_isWithin) := goodIn_app (goodIn_of _ (by decide +kernel)) ggX6_given_X6_isWithin
set_option maxRecDepth 20000 in
theorem ggX6_given_X1_plan : GoodIn wsX6_given wsX1_plan := goodIn_r _ [27, 28, 29, 30, 31, 32, 33, 34, 35, 36, 37, 38, 39, 40, 26, 41, 42, 43, 44, 45, 46, 47, 48, 49, 50, 51, 52, 53, 54, 55, 56, 57, 58, 59, 60, 61, 62, 63, 64, 21, 65, 66, 67, 68, 69, 70, 71, 72, 73, 74, 75, 76, 77, 78, 79, 97, 98, 99, 100, 101, 102, 103, 104, 105, 106, 107, 108, 85, 86, 87, 88, 89, 90, 91, 92, 93, 109, 110, 111, 112, 113, 114] (by decide +kernel) (by decide +kernel)
set_option maxRecDepth 20000 in
theorem gX6_given_X1_plan : GoodIn wsX6_given (wsV RX6 142 RX1 yX1_plan wsX1_plan) := goodIn_app (goodIn_of _ (by decide +kernel)) ggX6_given_X1_plan
theorem dX6_given_0 : decode cX6_given 0 = .ok (.aload_n 0, 1) := by decide +kernel
theorem dX6_given_1 : decode cX6_given 1 = .ok (.getfield 10, 3) := by decide +kernel
theorem dX6_given_4 : decode cX6_given 4 = .ok (.getfield 103, 3) := by decide +kernel
theorem dX6_given_7 : decode cX6_given 7 = .ok (.iload_n 1, 1) := by decide +kernel
theorem dX6_given_8 : decode cX6_given 8 = .ok (.invokevirtual 107, 3) := by decide +kernel
theorem dX6_given_11 : decode cX6_given 11 = .ok (.ifCond .eq 16, 3) := by decide +kernel
theorem dX6_given_14 : decode cX6_given 14 = .ok (.iload_n 2, 1) := by decide +kernel
theorem dX6_given_15 : decode cX6_given 15 = .ok (.ifCond .lt 12, 3) := by decide +kernel
theorem dX6_given_18 : decode cX6_given 18 = .ok (.iload_n 3, 1) := by decide +kernel
theorem dX6_given_19 : decode cX6_given 19 = .ok (.iconst 0, 1) := by decide +kernel
theorem dX6_given_20 : decode cX6_given 20 = .ok (.iconst 1, 1) := by decide +kernel
theorem dX6_given_21 : decode cX6_given 21 = .ok (.invokestatic 122, 3) := by decide +kernel
theorem dX6_given_24 : decode cX6_given 24 = .ok (.ifCond .ne 6, 3) := by decide +kernel
theorem dX6_given_27 : decode cX6_given 27 = .ok (.ldc 90, 2) := by decide +kernel
theorem dX6_given_29 : decode cX6_given 29 = .ok (.ireturn, 1) := by decide +kernel
theorem dX6_given_30 : decode cX6_given 30 = .ok (.aload_n 0, 1) := by decide +kernel
theorem dX6_given_31 : decode cX6_given 31 = .ok (.getfield 29, 3) := by decide +kernel
theorem dX6_given_34 : decode cX6_given 34 = .ok (.aload_n 0, 1) := by decide +kernel
theorem dX6_given_35 : decode cX6_given 35 = .ok (.getfield 10, 3) := by decide +kernel
theorem dX6_given_38 : decode cX6_given 38 = .ok (.aload_n 0, 1) := by decide +kernel
theorem dX6_given_39 : decode cX6_given 39 = .ok (.getfield 10, 3) := by decide +kernel
theorem dX6_given_42 : decode cX6_given 42 = .ok (.getfield 103, 3) := by decide +kernel
theorem dX6_given_45 : decode cX6_given 45 = .ok (.getfield 116, 3) := by decide +kernel
theorem dX6_given_48 : decode cX6_given 48 = .ok (.iload_n 1, 1) := by decide +kernel
theorem dX6_given_49 : decode cX6_given 49 = .ok (.iaload, 1) := by decide +kernel
theorem dX6_given_50 : decode cX6_given 50 = .ok (.aload_n 0, 1) := by decide +kernel
theorem dX6_given_51 : decode cX6_given 51 = .ok (.getfield 10, 3) := by decide +kernel
theorem dX6_given_54 : decode cX6_given 54 = .ok (.getfield 119, 3) := by decide +kernel
theorem dX6_given_57 : decode cX6_given 57 = .ok (.invokevirtual 142, 3) := by decide +kernel
theorem dX6_given_60 : decode cX6_given 60 = .ok (.iload_n 2, 1) := by decide +kernel
theorem dX6_given_61 : decode cX6_given 61 = .ok (.aload_n 0, 1) := by decide +kernel
theorem dX6_given_62 : decode cX6_given 62 = .ok (.getfield 29, 3) := by decide +kernel
theorem dX6_given_65 : decode cX6_given 65 = .ok (.getfield 146, 3) := by decide +kernel
theorem dX6_given_68 : decode cX6_given 68 = .ok (.if_icmp .lt 6, 3) := by decide +kernel
theorem dX6_given_71 : decode cX6_given 71 = .ok (.ldc 102, 2) := by decide +kernel
theorem dX6_given_73 : decode cX6_given 73 = .ok (.ireturn, 1) := by decide +kernel
theorem dX6_given_74 : decode cX6_given 74 = .ok (.iload_n 3, 1) := by decide +kernel
theorem dX6_given_75 : decode cX6_given 75 = .ok (.ifCond .ne 26, 3) := by decide +kernel
theorem dX6_given_78 : decode cX6_given 78 = .ok (.aload_n 0, 1) := by decide +kernel
theorem dX6_given_79 : decode cX6_given 79 = .ok (.getfield 10, 3) := by decide +kernel
theorem dX6_given_82 : decode cX6_given 82 = .ok (.getfield 81, 3) := by decide +kernel
theorem dX6_given_85 : decode cX6_given 85 = .ok (.getfield 98, 3) := by decide +kernel
theorem dX6_given_88 : decode cX6_given 88 = .ok (.aload_n 0, 1) := by decide +kernel
theorem dX6_given_89 : decode cX6_given 89 = .ok (.getfield 29, 3) := by decide +kernel
theorem dX6_given_92 : decode cX6_given 92 = .ok (.getfield 149, 3) := by decide +kernel
theorem dX6_given_95 : decode cX6_given 95 = .ok (.iload_n 2, 1) := by decide +kernel
theorem dX6_given_96 : decode cX6_given 96 = .ok (.iaload, 1) := by decide +kernel
theorem dX6_given_97 : decode cX6_given 97 = .ok (.iaload, 1) := by decide +kernel
theorem dX6_given_98 : decode cX6_given 98 = .ok (.goto 12, 3) := by decide +kernel
theorem dX6_given_101 : decode cX6_given 101 = .ok (.aload_n 0, 1) := by decide +kernel
theorem dX6_given_102 : decode cX6_given 102 = .ok (.getfield 29, 3) := by decide +kernel
theorem dX6_given_105 : decode cX6_given 105 = .ok (.getfield 152, 3) := by decide +kernel
theorem dX6_given_108 : decode cX6_given 108 = .ok (.iload_n 2, 1) := by decide +kernel
theorem dX6_given_109 : decode cX6_given 109 = .ok (.iaload, 1) := by decide +kernel
theorem dX6_given_110 : decode cX6_given 110 = .ok (.ireturn, 1) := by decide +kernel
set_option maxRecDepth 20000 in
theorem ggX6_would_X0_isOpen : GoodIn wsX6_would wsX0_isOpen := goodIn_r _ [19, 20, 102, 103, 104] (by decide +kernel) (by decide +kernel)
set_option maxRecDepth 20000 in
theorem gX6_would_X0_isOpen : GoodIn wsX6_would (wsV RX6 107 RX0 yX0_isOpen wsX0_isOpen) := goodIn_app (goodIn_of _ (by decide +kernel)) ggX6_would_X0_isOpen
set_option maxRecDepth 20000 in
theorem ggX6_would_X6_isWithin : GoodIn wsX6_would wsX6_isWithin := goodIn_r _ [24] (by decide +kernel) (by decide +kernel)
set_option maxRecDepth 20000 in
theorem gX6_would_X6_isWithin : GoodIn wsX6_would (va_wsS RX6 122 yX6_isWithin wsX6_isWithin) := goodIn_app (goodIn_of _ (by decide +kernel)) ggX6_would_X6_isWithin
set_option maxRecDepth 20000 in
theorem ggX6_would_X1_plan : GoodIn wsX6_would wsX1_plan := goodIn_r _ [29, 30, 31, 32, 33, 34, 35, 36, 37, 38, 39, 40, 41, 42, 28, 43, 44, 45, 46, 47, 48, 49, 50, 51, 52, 53, 54, 55, 56, 57, 58, 59, 60, 61, 62, 63, 64, 65, 66, 23, 67, 68, 69, 70, 71, 72, 73, 74, 75, 76, 77, 78, 79, 80, 81, 105, 106, 107, 108, 109, 110, 111, 112, 113, 114, 115, 116, 93, 94, 95, 96, 97, 98, 99, 100, 101, 117, 118, 119, 120, 121, 122] (by decide +kernel) (by decide +kernel)
set_option maxRecDepth 20000 in
theorem gX6_would_X1_plan : GoodIn wsX6_would (wsV RX6 142 RX1 yX1_plan wsX1_plan) := goodIn_app (goodIn_of _ (by decide +kernel)) ggX6_would_X1_plan
set_option maxRecDepth 20000 in
theorem ggX6_would_X6_bitsOfMeanCup : GoodIn wsX6_would wsX6_bitsOfMeanCup := goodIn_r _ [84, 8, 85, 86, 87] (by decide +kernel) (by decide +kernel)
set_option maxRecDepth 20000 in
theorem gX6_would_X6_bitsOfMeanCup : GoodIn wsX6_would (va_wsS RX6 175 yX6_bitsOfMeanCup wsX6_bitsOfMeanCup) := goodIn_app (goodIn_of _ (by decide +kernel)) ggX6_would_X6_bitsOfMeanCup
theorem dX6_would_0 : decode cX6_would 0 = .ok (.aload_n 0, 1) := by decide +kernel
theorem dX6_would_1 : decode cX6_would 1 = .ok (.getfield 10, 3) := by decide +kernel
theorem dX6_would_4 : decode cX6_would 4 = .ok (.getfield 103, 3) := by decide +kernel
theorem dX6_would_7 : decode cX6_would 7 = .ok (.iload_n 1, 1) := by decide +kernel
theorem dX6_would_8 : decode cX6_would 8 = .ok (.invokevirtual 107, 3) := by decide +kernel
theorem dX6_would_11 : decode cX6_would 11 = .ok (.ifCond .eq 12, 3) := by decide +kernel
theorem dX6_would_14 : decode cX6_would 14 = .ok (.iload_n 2, 1) := by decide +kernel
theorem dX6_would_15 : decode cX6_would 15 = .ok (.iconst 0, 1) := by decide +kernel
theorem dX6_would_16 : decode cX6_would 16 = .ok (.iconst 3, 1) := by decide +kernel
theorem dX6_would_17 : decode cX6_would 17 = .ok (.invokestatic 122, 3) := by decide +kernel
theorem dX6_would_20 : decode cX6_would 20 = .ok (.ifCond .ne 6, 3) := by decide +kernel
theorem dX6_would_23 : decode cX6_would 23 = .ok (.ldc 90, 2) := by decide +kernel
theorem dX6_would_25 : decode cX6_would 25 = .ok (.ireturn, 1) := by decide +kernel
theorem dX6_would_26 : decode cX6_would 26 = .ok (.aload_n 0, 1) := by decide +kernel
theorem dX6_would_27 : decode cX6_would 27 = .ok (.getfield 29, 3) := by decide +kernel
theorem dX6_would_30 : decode cX6_would 30 = .ok (.aload_n 0, 1) := by decide +kernel
theorem dX6_would_31 : decode cX6_would 31 = .ok (.getfield 10, 3) := by decide +kernel
theorem dX6_would_34 : decode cX6_would 34 = .ok (.aload_n 0, 1) := by decide +kernel
theorem dX6_would_35 : decode cX6_would 35 = .ok (.getfield 10, 3) := by decide +kernel
theorem dX6_would_38 : decode cX6_would 38 = .ok (.getfield 103, 3) := by decide +kernel
theorem dX6_would_41 : decode cX6_would 41 = .ok (.getfield 116, 3) := by decide +kernel
theorem dX6_would_44 : decode cX6_would 44 = .ok (.iload_n 1, 1) := by decide +kernel
theorem dX6_would_45 : decode cX6_would 45 = .ok (.iaload, 1) := by decide +kernel
theorem dX6_would_46 : decode cX6_would 46 = .ok (.aload_n 0, 1) := by decide +kernel
theorem dX6_would_47 : decode cX6_would 47 = .ok (.getfield 10, 3) := by decide +kernel
theorem dX6_would_50 : decode cX6_would 50 = .ok (.getfield 119, 3) := by decide +kernel
theorem dX6_would_53 : decode cX6_would 53 = .ok (.invokevirtual 142, 3) := by decide +kernel
theorem dX6_would_56 : decode cX6_would 56 = .ok (.aload_n 0, 1) := by decide +kernel
theorem dX6_would_57 : decode cX6_would 57 = .ok (.getfield 29, 3) := by decide +kernel
theorem dX6_would_60 : decode cX6_would 60 = .ok (.getfield 155, 3) := by decide +kernel
theorem dX6_would_63 : decode cX6_would 63 = .ok (.ifCond .le 6, 3) := by decide +kernel
theorem dX6_would_66 : decode cX6_would 66 = .ok (.ldc 158, 2) := by decide +kernel
theorem dX6_would_68 : decode cX6_would 68 = .ok (.ireturn, 1) := by decide +kernel
theorem dX6_would_69 : decode cX6_would 69 = .ok (.iload_n 2, 1) := by decide +kernel
theorem dX6_would_70 : decode cX6_would 70 = .ok (.tableswitch 53 0 2 #[26, 34, 45], 26) := by decide +kernel
theorem dX6_would_96 : decode cX6_would 96 = .ok (.aload_n 0, 1) := by decide +kernel
theorem dX6_would_97 : decode cX6_would 97 = .ok (.getfield 29, 3) := by decide +kernel
theorem dX6_would_100 : decode cX6_would 100 = .ok (.getfield 159, 3) := by decide +kernel
theorem dX6_would_103 : decode cX6_would 103 = .ok (.ireturn, 1) := by decide +kernel
theorem dX6_would_104 : decode cX6_would 104 = .ok (.aload_n 0, 1) := by decide +kernel
theorem dX6_would_105 : decode cX6_would 105 = .ok (.getfield 29, 3) := by decide +kernel
theorem dX6_would_108 : decode cX6_would 108 = .ok (.getfield 162, 3) := by decide +kernel
theorem dX6_would_111 : decode cX6_would 111 = .ok (.ldc 165, 2) := by decide +kernel
theorem dX6_would_113 : decode cX6_would 113 = .ok (.iadd, 1) := by decide +kernel
theorem dX6_would_114 : decode cX6_would 114 = .ok (.ireturn, 1) := by decide +kernel
theorem dX6_would_115 : decode cX6_would 115 = .ok (.aload_n 0, 1) := by decide +kernel
theorem dX6_would_116 : decode cX6_would 116 = .ok (.getfield 29, 3) := by decide +kernel
theorem dX6_would_119 : decode cX6_would 119 = .ok (.getfield 166, 3) := by decide +kernel
theorem dX6_would_122 : decode cX6_would 122 = .ok (.ireturn, 1) := by decide +kernel
theorem dX6_would_123 : decode cX6_would 123 = .ok (.aload_n 0, 1) := by decide +kernel
theorem dX6_would_124 : decode cX6_would 124 = .ok (.getfield 29, 3) := by decide +kernel
theorem dX6_would_127 : decode cX6_would 127 = .ok (.getfield 169, 3) := by decide +kernel
theorem dX6_would_130 : decode cX6_would 130 = .ok (.aload_n 0, 1) := by decide +kernel
theorem dX6_would_131 : decode cX6_would 131 = .ok (.getfield 10, 3) := by decide +kernel
theorem dX6_would_134 : decode cX6_would 134 = .ok (.getfield 172, 3) := by decide +kernel
theorem dX6_would_137 : decode cX6_would 137 = .ok (.iconst 0, 1) := by decide +kernel
theorem dX6_would_138 : decode cX6_would 138 = .ok (.iaload, 1) := by decide +kernel
theorem dX6_would_139 : decode cX6_would 139 = .ok (.invokestatic 175, 3) := by decide +kernel
theorem dX6_would_142 : decode cX6_would 142 = .ok (.ireturn, 1) := by decide +kernel
set_option maxRecDepth 20000 in
theorem ggX6_lift_X4_rowOf : GoodIn wsX6_lift wsX4_rowOf := goodIn_r _ [11, 12, 13, 41, 42, 43, 44, 45, 46] (by decide +kernel) (by decide +kernel)
set_option maxRecDepth 20000 in
theorem gX6_lift_X4_rowOf : GoodIn wsX6_lift (wsV RX6 85 RX4 yX4_rowOf wsX4_rowOf) := goodIn_app (goodIn_of _ (by decide +kernel)) ggX6_lift_X4_rowOf
set_option maxRecDepth 20000 in
theorem ggX6_lift_X6_isWithin : GoodIn wsX6_lift wsX6_isWithin := goodIn_r _ [17] (by decide +kernel) (by decide +kernel)
set_option maxRecDepth 20000 in
theorem gX6_lift_X6_isWithin : GoodIn wsX6_lift (va_wsS RX6 122 yX6_isWithin wsX6_isWithin) := goodIn_app (goodIn_of _ (by decide +kernel)) ggX6_lift_X6_isWithin
set_option maxRecDepth 20000 in
theorem ggX6_lift_X4_cupAt : GoodIn wsX6_lift wsX4_cupAt := goodIn_r _ [21, 22, 23, 41, 42, 43, 44, 45, 46] (by decide +kernel) (by decide +kernel)
set_option maxRecDepth 20000 in
theorem gX6_lift_X4_cupAt : GoodIn wsX6_lift (wsV RX6 126 RX4 yX4_cupAt wsX4_cupAt) := goodIn_app (goodIn_of _ (by decide +kernel)) ggX6_lift_X4_cupAt
set_option maxRecDepth 20000 in
theorem ggX6_lift_X6_leastStepsTo : GoodIn wsX6_lift wsX6_leastStepsTo := goodIn_r _ [26] (by decide +kernel) (by decide +kernel)
set_option maxRecDepth 20000 in
theorem gX6_lift_X6_leastStepsTo : GoodIn wsX6_lift (va_wsS RX6 179 yX6_leastStepsTo wsX6_leastStepsTo) := goodIn_app (goodIn_of _ (by decide +kernel)) ggX6_lift_X6_leastStepsTo
theorem dX6_lift_0 : decode cX6_lift 0 = .ok (.aload_n 0, 1) := by decide +kernel
theorem dX6_lift_1 : decode cX6_lift 1 = .ok (.getfield 10, 3) := by decide +kernel
theorem dX6_lift_4 : decode cX6_lift 4 = .ok (.getfield 81, 3) := by decide +kernel
theorem dX6_lift_7 : decode cX6_lift 7 = .ok (.iload_n 1, 1) := by decide +kernel
theorem dX6_lift_8 : decode cX6_lift 8 = .ok (.invokevirtual 85, 3) := by decide +kernel
theorem dX6_lift_11 : decode cX6_lift 11 = .ok (.istore 4, 2) := by decide +kernel
theorem dX6_lift_13 : decode cX6_lift 13 = .ok (.aload_n 0, 1) := by decide +kernel
theorem dX6_lift_14 : decode cX6_lift 14 = .ok (.getfield 10, 3) := by decide +kernel
theorem dX6_lift_17 : decode cX6_lift 17 = .ok (.getfield 81, 3) := by decide +kernel
theorem dX6_lift_20 : decode cX6_lift 20 = .ok (.iload_n 2, 1) := by decide +kernel
theorem dX6_lift_21 : decode cX6_lift 21 = .ok (.invokevirtual 85, 3) := by decide +kernel
theorem dX6_lift_24 : decode cX6_lift 24 = .ok (.istore 5, 2) := by decide +kernel
theorem dX6_lift_26 : decode cX6_lift 26 = .ok (.iload 4, 2) := by decide +kernel
theorem dX6_lift_28 : decode cX6_lift 28 = .ok (.ifCond .lt 26, 3) := by decide +kernel
theorem dX6_lift_31 : decode cX6_lift 31 = .ok (.iload 5, 2) := by decide +kernel
theorem dX6_lift_33 : decode cX6_lift 33 = .ok (.ifCond .lt 21, 3) := by decide +kernel
theorem dX6_lift_36 : decode cX6_lift 36 = .ok (.iload 4, 2) := by decide +kernel
theorem dX6_lift_38 : decode cX6_lift 38 = .ok (.iload 5, 2) := by decide +kernel
theorem dX6_lift_40 : decode cX6_lift 40 = .ok (.if_icmp .eq 14, 3) := by decide +kernel
theorem dX6_lift_43 : decode cX6_lift 43 = .ok (.iload_n 3, 1) := by decide +kernel
theorem dX6_lift_44 : decode cX6_lift 44 = .ok (.bipush 60, 2) := by decide +kernel
theorem dX6_lift_46 : decode cX6_lift 46 = .ok (.bipush 100, 2) := by decide +kernel
theorem dX6_lift_48 : decode cX6_lift 48 = .ok (.invokestatic 122, 3) := by decide +kernel
theorem dX6_lift_51 : decode cX6_lift 51 = .ok (.ifCond .ne 6, 3) := by decide +kernel
theorem dX6_lift_54 : decode cX6_lift 54 = .ok (.ldc 90, 2) := by decide +kernel
theorem dX6_lift_56 : decode cX6_lift 56 = .ok (.ireturn, 1) := by decide +kernel
theorem dX6_lift_57 : decode cX6_lift 57 = .ok (.iload_n 3, 1) := by decide +kernel
theorem dX6_lift_58 : decode cX6_lift 58 = .ok (.aload_n 0, 1) := by decide +kernel
theorem dX6_lift_59 : decode cX6_lift 59 = .ok (.getfield 10, 3) := by decide +kernel
theorem dX6_lift_62 : decode cX6_lift 62 = .ok (.getfield 81, 3) := by decide +kernel
theorem dX6_lift_65 : decode cX6_lift 65 = .ok (.iload 4, 2) := by decide +kernel
theorem dX6_lift_67 : decode cX6_lift 67 = .ok (.aload_n 0, 1) := by decide +kernel
theorem dX6_lift_68 : decode cX6_lift 68 = .ok (.getfield 10, 3) := by decide +kernel
theorem dX6_lift_71 : decode cX6_lift 71 = .ok (.getfield 119, 3) := by decide +kernel
theorem dX6_lift_74 : decode cX6_lift 74 = .ok (.invokevirtual 126, 3) := by decide +kernel
theorem dX6_lift_77 : decode cX6_lift 77 = .ok (.isub, 1) := by decide +kernel
theorem dX6_lift_78 : decode cX6_lift 78 = .ok (.aload_n 0, 1) := by decide +kernel
theorem dX6_lift_79 : decode cX6_lift 79 = .ok (.getfield 10, 3) := by decide +kernel
theorem dX6_lift_82 : decode cX6_lift 82 = .ok (.getfield 81, 3) := by decide +kernel
theorem dX6_lift_85 : decode cX6_lift 85 = .ok (.getfield 178, 3) := by decide +kernel
theorem dX6_lift_88 : decode cX6_lift 88 = .ok (.iload 4, 2) := by decide +kernel
theorem dX6_lift_90 : decode cX6_lift 90 = .ok (.iaload, 1) := by decide +kernel
theorem dX6_lift_91 : decode cX6_lift 91 = .ok (.imul, 1) := by decide +kernel
theorem dX6_lift_92 : decode cX6_lift 92 = .ok (.istore 6, 2) := by decide +kernel
theorem dX6_lift_94 : decode cX6_lift 94 = .ok (.aload_n 0, 1) := by decide +kernel
theorem dX6_lift_95 : decode cX6_lift 95 = .ok (.getfield 10, 3) := by decide +kernel
theorem dX6_lift_98 : decode cX6_lift 98 = .ok (.getfield 81, 3) := by decide +kernel
theorem dX6_lift_101 : decode cX6_lift 101 = .ok (.iload 5, 2) := by decide +kernel
theorem dX6_lift_103 : decode cX6_lift 103 = .ok (.aload_n 0, 1) := by decide +kernel
theorem dX6_lift_104 : decode cX6_lift 104 = .ok (.getfield 10, 3) := by decide +kernel
theorem dX6_lift_107 : decode cX6_lift 107 = .ok (.getfield 119, 3) := by decide +kernel
theorem dX6_lift_110 : decode cX6_lift 110 = .ok (.invokevirtual 126, 3) := by decide +kernel
theorem dX6_lift_113 : decode cX6_lift 113 = .ok (.iload_n 3, 1) := by decide +kernel
theorem dX6_lift_114 : decode cX6_lift 114 = .ok (.isub, 1) := by decide +kernel
theorem dX6_lift_115 : decode cX6_lift 115 = .ok (.istore 7, 2) := by decide +kernel
theorem dX6_lift_117 : decode cX6_lift 117 = .ok (.iload 6, 2) := by decide +kernel
theorem dX6_lift_119 : decode cX6_lift 119 = .ok (.iload 7, 2) := by decide +kernel
theorem dX6_lift_121 : decode cX6_lift 121 = .ok (.invokestatic 179, 3) := by decide +kernel
theorem dX6_lift_124 : decode cX6_lift 124 = .ok (.istore 8, 2) := by decide +kernel
theorem dX6_lift_126 : decode cX6_lift 126 = .ok (.iload 8, 2) := by decide +kernel
theorem dX6_lift_128 : decode cX6_lift 128 = .ok (.iconst 1, 1) := by decide +kernel
theorem dX6_lift_129 : decode cX6_lift 129 = .ok (.if_icmp .lt 21, 3) := by decide +kernel
theorem dX6_lift_132 : decode cX6_lift 132 = .ok (.iload 8, 2) := by decide +kernel
theorem dX6_lift_134 : decode cX6_lift 134 = .ok (.aload_n 0, 1) := by decide +kernel
theorem dX6_lift_135 : decode cX6_lift 135 = .ok (.getfield 10, 3) := by decide +kernel
theorem dX6_lift_138 : decode cX6_lift 138 = .ok (.getfield 81, 3) := by decide +kernel
theorem dX6_lift_141 : decode cX6_lift 141 = .ok (.getfield 178, 3) := by decide +kernel
theorem dX6_lift_144 : decode cX6_lift 144 = .ok (.iload 5, 2) := by decide +kernel
theorem dX6_lift_146 : decode cX6_lift 146 = .ok (.iaload, 1) := by decide +kernel
theorem dX6_lift_147 : decode cX6_lift 147 = .ok (.if_icmp .le 8, 3) := by decide +kernel
theorem dX6_lift_150 : decode cX6_lift 150 = .ok (.ldc 102, 2) := by decide +kernel
theorem dX6_lift_152 : decode cX6_lift 152 = .ok (.goto 5, 3) := by decide +kernel
theorem dX6_lift_155 : decode cX6_lift 155 = .ok (.iload 8, 2) := by decide +kernel
theorem dX6_lift_157 : decode cX6_lift 157 = .ok (.ireturn, 1) := by decide +kernel
set_option maxRecDepth 20000 in
theorem ggX6_bestMonth_X6_isWithin : GoodIn wsX6_bestMonth wsX6_isWithin := goodIn_r _ [12] (by decide +kernel) (by decide +kernel)
set_option maxRecDepth 20000 in
theorem gX6_bestMonth_X6_isWithin : GoodIn wsX6_bestMonth (va_wsS RX6 122 yX6_isWithin wsX6_isWithin) := goodIn_app (goodIn_of _ (by decide +kernel)) ggX6_bestMonth_X6_isWithin
set_option maxRecDepth 20000 in
theorem ggX6_bestMonth_X3_isDeliveryMonth : GoodIn wsX6_bestMonth wsX3_isDeliveryMonth := goodIn_r _ [17, 18, 19, 20, 21, 22, 83, 84, 85, 86, 87, 88, 89, 90, 91] (by decide +kernel) (by decide +kernel)
set_option maxRecDepth 20000 in
theorem gX6_bestMonth_X3_isDeliveryMonth : GoodIn wsX6_bestMonth (wsV RX6 182 RX3 yX3_isDeliveryMonth wsX3_isDeliveryMonth) := goodIn_app (goodIn_of _ (by decide +kernel)) ggX6_bestMonth_X3_isDeliveryMonth
set_option maxRecDepth 20000 in
theorem ggX6_bestMonth_X1_plan : GoodIn wsX6_bestMonth wsX1_plan := goodIn_r _ [27, 28, 29, 30, 31, 32, 33, 34, 35, 36, 37, 38, 39, 40, 26, 41, 42, 43, 44, 45, 46, 47, 48, 49, 50, 51, 52, 53, 54, 55, 56, 57, 58, 59, 60, 16, 61, 18, 62, 11, 63, 64, 65, 66, 67, 68, 69, 70, 71, 72, 73, 74, 75, 76, 77, 92, 93, 94, 95, 96, 97, 98, 99, 100, 101, 102, 103, 83, 84, 85, 86, 87, 88, 89, 90, 91, 104, 105, 106, 107, 108, 109] (by decide +kernel) (by decide +kernel)
set_option maxRecDepth 20000 in
theorem gX6_bestMonth_X1_plan : GoodIn wsX6_bestMonth (wsV RX6 142 RX1 yX1_plan wsX1_plan) := goodIn_app (goodIn_of _ (by decide +kernel)) ggX6_bestMonth_X1_plan
theorem dX6_bestMonth_0 : decode cX6_bestMonth 0 = .ok (.iload_n 1, 1) := by decide +kernel
theorem dX6_bestMonth_1 : decode cX6_bestMonth 1 = .ok (.iconst 1, 1) := by decide +kernel
theorem dX6_bestMonth_2 : decode cX6_bestMonth 2 = .ok (.sipush 999, 3) := by decide +kernel
theorem dX6_bestMonth_5 : decode cX6_bestMonth 5 = .ok (.invokestatic 122, 3) := by decide +kernel
theorem dX6_bestMonth_8 : decode cX6_bestMonth 8 = .ok (.ifCond .eq 12, 3) := by decide +kernel
theorem dX6_bestMonth_11 : decode cX6_bestMonth 11 = .ok (.iload_n 2, 1) := by decide +kernel
theorem dX6_bestMonth_12 : decode cX6_bestMonth 12 = .ok (.iconst 0, 1) := by decide +kernel
theorem dX6_bestMonth_13 : decode cX6_bestMonth 13 = .ok (.iconst 1, 1) := by decide +kernel
theorem dX6_bestMonth_14 : decode cX6_bestMonth 14 = .ok (.invokestatic 122, 3) := by decide +kernel
theorem dX6_bestMonth_17 : decode cX6_bestMonth 17 = .ok (.ifCond .ne 6, 3) := by decide +kernel
theorem dX6_bestMonth_20 : decode cX6_bestMonth 20 = .ok (.ldc 90, 2) := by decide +kernel
theorem dX6_bestMonth_22 : decode cX6_bestMonth 22 = .ok (.ireturn, 1) := by decide +kernel
theorem dX6_bestMonth_23 : decode cX6_bestMonth 23 = .ok (.ldc 102, 2) := by decide +kernel
theorem dX6_bestMonth_25 : decode cX6_bestMonth 25 = .ok (.istore_n 3, 1) := by decide +kernel
theorem dX6_bestMonth_26 : decode cX6_bestMonth 26 = .ok (.iconst 0, 1) := by decide +kernel
theorem dX6_bestMonth_27 : decode cX6_bestMonth 27 = .ok (.istore 4, 2) := by decide +kernel
theorem dX6_bestMonth_29 : decode cX6_bestMonth 29 = .ok (.iconst 0, 1) := by decide +kernel
theorem dX6_bestMonth_30 : decode cX6_bestMonth 30 = .ok (.istore 5, 2) := by decide +kernel
theorem dX6_bestMonth_32 : decode cX6_bestMonth 32 = .ok (.iload 5, 2) := by decide +kernel
theorem dX6_bestMonth_34 : decode cX6_bestMonth 34 = .ok (.bipush 24, 2) := by decide +kernel
theorem dX6_bestMonth_36 : decode cX6_bestMonth 36 = .ok (.if_icmp .ge 91, 3) := by decide +kernel
theorem dX6_bestMonth_39 : decode cX6_bestMonth 39 = .ok (.aload_n 0, 1) := by decide +kernel
theorem dX6_bestMonth_40 : decode cX6_bestMonth 40 = .ok (.getfield 10, 3) := by decide +kernel
theorem dX6_bestMonth_43 : decode cX6_bestMonth 43 = .ok (.aload_n 0, 1) := by decide +kernel
theorem dX6_bestMonth_44 : decode cX6_bestMonth 44 = .ok (.getfield 10, 3) := by decide +kernel
theorem dX6_bestMonth_47 : decode cX6_bestMonth 47 = .ok (.getfield 119, 3) := by decide +kernel
theorem dX6_bestMonth_50 : decode cX6_bestMonth 50 = .ok (.iload 5, 2) := by decide +kernel
theorem dX6_bestMonth_52 : decode cX6_bestMonth 52 = .ok (.iadd, 1) := by decide +kernel
theorem dX6_bestMonth_53 : decode cX6_bestMonth 53 = .ok (.invokevirtual 182, 3) := by decide +kernel
theorem dX6_bestMonth_56 : decode cX6_bestMonth 56 = .ok (.ifCond .eq 65, 3) := by decide +kernel
theorem dX6_bestMonth_59 : decode cX6_bestMonth 59 = .ok (.aload_n 0, 1) := by decide +kernel
theorem dX6_bestMonth_60 : decode cX6_bestMonth 60 = .ok (.getfield 29, 3) := by decide +kernel
theorem dX6_bestMonth_63 : decode cX6_bestMonth 63 = .ok (.aload_n 0, 1) := by decide +kernel
theorem dX6_bestMonth_64 : decode cX6_bestMonth 64 = .ok (.getfield 10, 3) := by decide +kernel
theorem dX6_bestMonth_67 : decode cX6_bestMonth 67 = .ok (.iload_n 1, 1) := by decide +kernel
theorem dX6_bestMonth_68 : decode cX6_bestMonth 68 = .ok (.aload_n 0, 1) := by decide +kernel
theorem dX6_bestMonth_69 : decode cX6_bestMonth 69 = .ok (.getfield 10, 3) := by decide +kernel
theorem dX6_bestMonth_72 : decode cX6_bestMonth 72 = .ok (.getfield 119, 3) := by decide +kernel
theorem dX6_bestMonth_75 : decode cX6_bestMonth 75 = .ok (.iload 5, 2) := by decide +kernel
theorem dX6_bestMonth_77 : decode cX6_bestMonth 77 = .ok (.iadd, 1) := by decide +kernel
theorem dX6_bestMonth_78 : decode cX6_bestMonth 78 = .ok (.invokevirtual 142, 3) := by decide +kernel
theorem dX6_bestMonth_81 : decode cX6_bestMonth 81 = .ok (.aload_n 0, 1) := by decide +kernel
theorem dX6_bestMonth_82 : decode cX6_bestMonth 82 = .ok (.getfield 29, 3) := by decide +kernel
theorem dX6_bestMonth_85 : decode cX6_bestMonth 85 = .ok (.getfield 155, 3) := by decide +kernel
theorem dX6_bestMonth_88 : decode cX6_bestMonth 88 = .ok (.ifCond .ne 33, 3) := by decide +kernel
theorem dX6_bestMonth_91 : decode cX6_bestMonth 91 = .ok (.iload_n 3, 1) := by decide +kernel
theorem dX6_bestMonth_92 : decode cX6_bestMonth 92 = .ok (.ldc 102, 2) := by decide +kernel
theorem dX6_bestMonth_94 : decode cX6_bestMonth 94 = .ok (.if_icmp .eq 15, 3) := by decide +kernel
theorem dX6_bestMonth_97 : decode cX6_bestMonth 97 = .ok (.aload_n 0, 1) := by decide +kernel
theorem dX6_bestMonth_98 : decode cX6_bestMonth 98 = .ok (.getfield 29, 3) := by decide +kernel
theorem dX6_bestMonth_101 : decode cX6_bestMonth 101 = .ok (.getfield 162, 3) := by decide +kernel
theorem dX6_bestMonth_104 : decode cX6_bestMonth 104 = .ok (.iload 4, 2) := by decide +kernel
theorem dX6_bestMonth_106 : decode cX6_bestMonth 106 = .ok (.if_icmp .le 15, 3) := by decide +kernel
theorem dX6_bestMonth_109 : decode cX6_bestMonth 109 = .ok (.iload 5, 2) := by decide +kernel
theorem dX6_bestMonth_111 : decode cX6_bestMonth 111 = .ok (.istore_n 3, 1) := by decide +kernel
theorem dX6_bestMonth_112 : decode cX6_bestMonth 112 = .ok (.aload_n 0, 1) := by decide +kernel
theorem dX6_bestMonth_113 : decode cX6_bestMonth 113 = .ok (.getfield 29, 3) := by decide +kernel
theorem dX6_bestMonth_116 : decode cX6_bestMonth 116 = .ok (.getfield 162, 3) := by decide +kernel
theorem dX6_bestMonth_119 : decode cX6_bestMonth 119 = .ok (.istore 4, 2) := by decide +kernel
theorem dX6_bestMonth_121 : decode cX6_bestMonth 121 = .ok (.iinc 5 1, 3) := by decide +kernel
theorem dX6_bestMonth_124 : decode cX6_bestMonth 124 = .ok (.goto (-92), 3) := by decide +kernel
theorem dX6_bestMonth_127 : decode cX6_bestMonth 127 = .ok (.iload_n 2, 1) := by decide +kernel
theorem dX6_bestMonth_128 : decode cX6_bestMonth 128 = .ok (.ifCond .eq 9, 3) := by decide +kernel
theorem dX6_bestMonth_131 : decode cX6_bestMonth 131 = .ok (.iload_n 3, 1) := by decide +kernel
theorem dX6_bestMonth_132 : decode cX6_bestMonth 132 = .ok (.ldc 102, 2) := by decide +kernel
theorem dX6_bestMonth_134 : decode cX6_bestMonth 134 = .ok (.if_icmp .ne 7, 3) := by decide +kernel
theorem dX6_bestMonth_137 : decode cX6_bestMonth 137 = .ok (.iload_n 3, 1) := by decide +kernel
theorem dX6_bestMonth_138 : decode cX6_bestMonth 138 = .ok (.goto 8, 3) := by decide +kernel
theorem dX6_bestMonth_141 : decode cX6_bestMonth 141 = .ok (.iload 4, 2) := by decide +kernel
theorem dX6_bestMonth_143 : decode cX6_bestMonth 143 = .ok (.ldc 165, 2) := by decide +kernel
theorem dX6_bestMonth_145 : decode cX6_bestMonth 145 = .ok (.iadd, 1) := by decide +kernel
theorem dX6_bestMonth_146 : decode cX6_bestMonth 146 = .ok (.ireturn, 1) := by decide +kernel
set_option maxRecDepth 20000 in
theorem ggX6_count_X6_isWithin : GoodIn wsX6_count wsX6_isWithin := goodIn_r _ [10] (by decide +kernel) (by decide +kernel)
set_option maxRecDepth 20000 in
theorem gX6_count_X6_isWithin : GoodIn wsX6_count (va_wsS RX6 122 yX6_isWithin wsX6_isWithin) := goodIn_app (goodIn_of _ (by decide +kernel)) ggX6_count_X6_isWithin
set_option maxRecDepth 20000 in
theorem ggX6_count_X3_tellCount : GoodIn wsX6_count wsX3_tellCount := goodIn_r _ [15, 16, 17, 18, 19, 20, 21, 22, 23, 24, 25, 26, 27, 28, 29, 30, 31, 32, 33, 34, 35, 36, 37, 38, 39, 40, 41, 42, 43, 49, 50, 51, 52, 53, 54, 55, 56, 57, 68, 69, 70, 71, 72, 73, 74, 75, 76] (by decide +kernel) (by decide +kernel)
set_option maxRecDepth 20000 in
theorem gX6_count_X3_tellCount : GoodIn wsX6_count (wsV RX6 191 RX3 yX3_tellCount wsX3_tellCount) := goodIn_app (goodIn_of _ (by decide +kernel)) ggX6_count_X3_tellCount
theorem dX6_count_0 : decode cX6_count 0 = .ok (.iload_n 1, 1) := by decide +kernel
theorem dX6_count_1 : decode cX6_count 1 = .ok (.bipush 20, 2) := by decide +kernel
theorem dX6_count_3 : decode cX6_count 3 = .ok (.bipush 24, 2) := by decide +kernel
theorem dX6_count_5 : decode cX6_count 5 = .ok (.invokestatic 122, 3) := by decide +kernel
theorem dX6_count_8 : decode cX6_count 8 = .ok (.ifCond .eq 16, 3) := by decide +kernel
theorem dX6_count_11 : decode cX6_count 11 = .ok (.aload_n 0, 1) := by decide +kernel
theorem dX6_count_12 : decode cX6_count 12 = .ok (.getfield 10, 3) := by decide +kernel
theorem dX6_count_15 : decode cX6_count 15 = .ok (.getfield 172, 3) := by decide +kernel
theorem dX6_count_18 : decode cX6_count 18 = .ok (.iload_n 1, 1) := by decide +kernel
theorem dX6_count_19 : decode cX6_count 19 = .ok (.bipush 20, 2) := by decide +kernel
theorem dX6_count_21 : decode cX6_count 21 = .ok (.isub, 1) := by decide +kernel
theorem dX6_count_22 : decode cX6_count 22 = .ok (.iaload, 1) := by decide +kernel
theorem dX6_count_23 : decode cX6_count 23 = .ok (.ireturn, 1) := by decide +kernel
theorem dX6_count_24 : decode cX6_count 24 = .ok (.iload_n 1, 1) := by decide +kernel
theorem dX6_count_25 : decode cX6_count 25 = .ok (.lookupswitch 43 #[(10, 27), (11, 35)], 27) := by decide +kernel
theorem dX6_count_52 : decode cX6_count 52 = .ok (.aload_n 0, 1) := by decide +kernel
theorem dX6_count_53 : decode cX6_count 53 = .ok (.getfield 22, 3) := by decide +kernel
theorem dX6_count_56 : decode cX6_count 56 = .ok (.getfield 185, 3) := by decide +kernel
theorem dX6_count_59 : decode cX6_count 59 = .ok (.ireturn, 1) := by decide +kernel
theorem dX6_count_60 : decode cX6_count 60 = .ok (.aload_n 0, 1) := by decide +kernel
theorem dX6_count_61 : decode cX6_count 61 = .ok (.getfield 36, 3) := by decide +kernel
theorem dX6_count_64 : decode cX6_count 64 = .ok (.getfield 188, 3) := by decide +kernel
theorem dX6_count_67 : decode cX6_count 67 = .ok (.ireturn, 1) := by decide +kernel
theorem dX6_count_68 : decode cX6_count 68 = .ok (.aload_n 0, 1) := by decide +kernel
theorem dX6_count_69 : decode cX6_count 69 = .ok (.getfield 10, 3) := by decide +kernel
theorem dX6_count_72 : decode cX6_count 72 = .ok (.iload_n 1, 1) := by decide +kernel
theorem dX6_count_73 : decode cX6_count 73 = .ok (.invokevirtual 191, 3) := by decide +kernel
theorem dX6_count_76 : decode cX6_count 76 = .ok (.ireturn, 1) := by decide +kernel
set_option maxRecDepth 20000 in
theorem ggX6_undo_X2_restoreLatest : GoodIn wsX6_undo wsX2_restoreLatest := goodIn_r _ [9, 10, 11, 12, 13, 14, 15, 16, 17, 18, 19, 20, 21, 22, 23, 24, 25, 26, 27, 28, 29, 30, 31, 32, 33, 34, 35, 36, 37, 38, 39, 40, 41, 42, 43, 44, 50, 51, 52, 53, 54, 55, 56, 57, 58, 59, 60, 61, 62, 63, 64, 65, 66, 67, 68, 69] (by decide +kernel) (by decide +kernel)
set_option maxRecDepth 20000 in
theorem gX6_undo_X2_restoreLatest : GoodIn wsX6_undo (wsV RX6 194 RX2 yX2_restoreLatest wsX2_restoreLatest) := goodIn_app (goodIn_of _ (by decide +kernel)) ggX6_undo_X2_restoreLatest
theorem dX6_undo_0 : decode cX6_undo 0 = .ok (.aload_n 0, 1) := by decide +kernel
theorem dX6_undo_1 : decode cX6_undo 1 = .ok (.getfield 22, 3) := by decide +kernel
theorem dX6_undo_4 : decode cX6_undo 4 = .ok (.getfield 185, 3) := by decide +kernel
theorem dX6_undo_7 : decode cX6_undo 7 = .ok (.ifCond .ne 6, 3) := by decide +kernel
theorem dX6_undo_10 : decode cX6_undo 10 = .ok (.ldc 158, 2) := by decide +kernel
theorem dX6_undo_12 : decode cX6_undo 12 = .ok (.ireturn, 1) := by decide +kernel
theorem dX6_undo_13 : decode cX6_undo 13 = .ok (.aload_n 0, 1) := by decide +kernel
theorem dX6_undo_14 : decode cX6_undo 14 = .ok (.getfield 22, 3) := by decide +kernel
theorem dX6_undo_17 : decode cX6_undo 17 = .ok (.aload_n 0, 1) := by decide +kernel
theorem dX6_undo_18 : decode cX6_undo 18 = .ok (.getfield 10, 3) := by decide +kernel
theorem dX6_undo_21 : decode cX6_undo 21 = .ok (.invokevirtual 194, 3) := by decide +kernel
theorem dX6_undo_24 : decode cX6_undo 24 = .ok (.aload_n 0, 1) := by decide +kernel
theorem dX6_undo_25 : decode cX6_undo 25 = .ok (.getfield 22, 3) := by decide +kernel
theorem dX6_undo_28 : decode cX6_undo 28 = .ok (.getfield 185, 3) := by decide +kernel
theorem dX6_undo_31 : decode cX6_undo 31 = .ok (.ireturn, 1) := by decide +kernel
set_option maxRecDepth 20000 in
theorem ggX6_type_X6_isWithin : GoodIn wsX6_type wsX6_isWithin := goodIn_r _ [6] (by decide +kernel) (by decide +kernel)
set_option maxRecDepth 20000 in
theorem gX6_type_X6_isWithin : GoodIn wsX6_type (va_wsS RX6 122 yX6_isWithin wsX6_isWithin) := goodIn_app (goodIn_of _ (by decide +kernel)) ggX6_type_X6_isWithin
set_option maxRecDepth 20000 in
theorem ggX6_type_X5_append : GoodIn wsX6_type wsX5_append := goodIn_r _ [11, 12, 13, 14, 20, 21, 22, 23, 24, 25, 26, 27] (by decide +kernel) (by decide +kernel)
set_option maxRecDepth 20000 in
theorem gX6_type_X5_append : GoodIn wsX6_type (wsV RX6 197 RX5 yX5_append wsX5_append) := goodIn_app (goodIn_of _ (by decide +kernel)) ggX6_type_X5_append
theorem dX6_type_0 : decode cX6_type 0 = .ok (.iload_n 1, 1) := by decide +kernel
theorem dX6_type_1 : decode cX6_type 1 = .ok (.bipush 32, 2) := by decide +kernel
theorem dX6_type_3 : decode cX6_type 3 = .ok (.bipush 126, 2) := by decide +kernel
theorem dX6_type_5 : decode cX6_type 5 = .ok (.invokestatic 122, 3) := by decide +kernel
theorem dX6_type_8 : decode cX6_type 8 = .ok (.ifCond .eq 15, 3) := by decide +kernel
theorem dX6_type_11 : decode cX6_type 11 = .ok (.aload_n 0, 1) := by decide +kernel
theorem dX6_type_12 : decode cX6_type 12 = .ok (.getfield 36, 3) := by decide +kernel
theorem dX6_type_15 : decode cX6_type 15 = .ok (.iload_n 1, 1) := by decide +kernel
theorem dX6_type_16 : decode cX6_type 16 = .ok (.i2c, 1) := by decide +kernel
theorem dX6_type_17 : decode cX6_type 17 = .ok (.invokevirtual 197, 3) := by decide +kernel
theorem dX6_type_20 : decode cX6_type 20 = .ok (.goto 5, 3) := by decide +kernel
theorem dX6_type_23 : decode cX6_type 23 = .ok (.ldc 90, 2) := by decide +kernel
theorem dX6_type_25 : decode cX6_type 25 = .ok (.ireturn, 1) := by decide +kernel
theorem dX6_clearText_0 : decode cX6_clearText 0 = .ok (.aload_n 0, 1) := by decide +kernel
theorem dX6_clearText_1 : decode cX6_clearText 1 = .ok (.getfield 36, 3) := by decide +kernel
theorem dX6_clearText_4 : decode cX6_clearText 4 = .ok (.getfield 188, 3) := by decide +kernel
theorem dX6_clearText_7 : decode cX6_clearText 7 = .ok (.istore_n 1, 1) := by decide +kernel
theorem dX6_clearText_8 : decode cX6_clearText 8 = .ok (.aload_n 0, 1) := by decide +kernel
theorem dX6_clearText_9 : decode cX6_clearText 9 = .ok (.getfield 36, 3) := by decide +kernel
theorem dX6_clearText_12 : decode cX6_clearText 12 = .ok (.iconst 0, 1) := by decide +kernel
theorem dX6_clearText_13 : decode cX6_clearText 13 = .ok (.putfield 188, 3) := by decide +kernel
theorem dX6_clearText_16 : decode cX6_clearText 16 = .ok (.iload_n 1, 1) := by decide +kernel
theorem dX6_clearText_17 : decode cX6_clearText 17 = .ok (.ireturn, 1) := by decide +kernel
set_option maxRecDepth 20000 in
theorem ggX6_fault_X6_isWithin : GoodIn wsX6_fault wsX6_isWithin := goodIn_r _ [13] (by decide +kernel) (by decide +kernel)
set_option maxRecDepth 20000 in
theorem gX6_fault_X6_isWithin : GoodIn wsX6_fault (va_wsS RX6 122 yX6_isWithin wsX6_isWithin) := goodIn_app (goodIn_of _ (by decide +kernel)) ggX6_fault_X6_isWithin
set_option maxRecDepth 20000 in
theorem ggX6_fault_X3_copyFrom : GoodIn wsX6_fault wsX3_copyFrom := goodIn_r _ [18, 19, 20, 21, 22, 23, 24, 25, 26, 27, 28, 29, 30, 31, 32, 33, 34, 35, 36, 37, 38, 39, 40, 41, 42, 43, 44, 45, 46, 236, 237, 238, 239, 240, 241, 242, 243, 244, 245, 246, 247, 248, 249, 250, 251, 252, 253] (by decide +kernel) (by decide +kernel)
set_option maxRecDepth 20000 in
theorem gX6_fault_X3_copyFrom : GoodIn wsX6_fault (wsV RX6 40 RX3 yX3_copyFrom wsX3_copyFrom) := goodIn_app (goodIn_of _ (by decide +kernel)) ggX6_fault_X3_copyFrom
set_option maxRecDepth 20000 in
theorem ggX6_fault_X5_runOn : GoodIn wsX6_fault wsX5_runOn := goodIn_r _ [51, 52, 53, 54, 55, 56, 57, 58, 59, 60, 50, 61, 62, 63, 64, 65, 66, 67, 68, 69, 70, 71, 72, 73, 74, 75, 76, 77, 78, 79, 80, 81, 82, 83, 84, 85, 17, 86, 87, 19, 23, 11, 12, 13, 88, 89, 90, 31, 91, 92, 33, 37, 38, 34, 35, 36, 93, 94, 95, 96, 97, 98, 99, 100, 101, 102, 103, 104, 105, 106, 107, 108, 109, 110, 111, 112, 113, 114, 115, 116, 117, 118, 119, 120, 121, 122, 123, 124, 125, 126, 20, 127, 128, 129, 130, 22, 131, 132, 133, 134, 135, 136, 137, 42, 138, 46, 139, 44, 45, 140, 141, 142, 143, 144, 145, 146, 147, 148, 149, 24, 150, 25, 27, 151, 152, 153, 154, 155, 156, 157, 158, 159, 160, 161, 162, 163, 164, 165, 166, 167, 168, 169, 170, 171, 172, 173, 174, 175, 176, 177, 178, 179, 180, 181, 182, 183, 184, 185, 186, 187, 188, 189, 190, 191, 192, 193, 194, 195, 196, 197, 198, 199, 200, 201, 202, 203, 204, 205, 206, 207, 208, 209, 210, 211, 212, 26, 213, 214, 215, 216, 217, 218, 219, 220, 221, 222, 7, 1, 10, 228, 229, 230, 231, 232, 233, 234, 235, 236, 237, 238, 239, 240, 241, 242, 243, 244, 245, 246, 247, 248, 249, 250, 251, 252, 253, 254, 255, 256, 257, 258, 259, 260, 261, 262, 263, 264, 265] (by decide +kernel) (by decide +kernel)
set_option maxRecDepth 20000 in
theorem gX6_fault_X5_runOn : GoodIn wsX6_fault (wsV RX6 201 RX5 yX5_runOn wsX5_runOn) := goodIn_app (goodIn_of _ (by decide +kernel)) ggX6_fault_X5_runOn
theorem dX6_fault_0 : decode cX6_fault 0 = .ok (.iload_n 1, 1) := by decide +kernel
theorem dX6_fault_1 : decode cX6_fault 1 = .ok (.iconst 0, 1) := by decide +kernel
theorem dX6_fault_2 : decode cX6_fault 2 = .ok (.iconst 2, 1) := by decide +kernel
theorem dX6_fault_3 : decode cX6_fault 3 = .ok (.invokestatic 122, 3) := by decide +kernel
theorem dX6_fault_6 : decode cX6_fault 6 = .ok (.ifCond .ne 6, 3) := by decide +kernel
theorem dX6_fault_9 : decode cX6_fault 9 = .ok (.ldc 90, 2) := by decide +kernel
theorem dX6_fault_11 : decode cX6_fault 11 = .ok (.ireturn, 1) := by decide +kernel
theorem dX6_fault_12 : decode cX6_fault 12 = .ok (.aload_n 0, 1) := by decide +kernel
theorem dX6_fault_13 : decode cX6_fault 13 = .ok (.getfield 16, 3) := by decide +kernel
theorem dX6_fault_16 : decode cX6_fault 16 = .ok (.aload_n 0, 1) := by decide +kernel
theorem dX6_fault_17 : decode cX6_fault 17 = .ok (.getfield 10, 3) := by decide +kernel
theorem dX6_fault_20 : decode cX6_fault 20 = .ok (.invokevirtual 40, 3) := by decide +kernel
theorem dX6_fault_23 : decode cX6_fault 23 = .ok (.aload_n 0, 1) := by decide +kernel
theorem dX6_fault_24 : decode cX6_fault 24 = .ok (.getfield 36, 3) := by decide +kernel
theorem dX6_fault_27 : decode cX6_fault 27 = .ok (.aload_n 0, 1) := by decide +kernel
theorem dX6_fault_28 : decode cX6_fault 28 = .ok (.getfield 16, 3) := by decide +kernel
theorem dX6_fault_31 : decode cX6_fault 31 = .ok (.aload_n 0, 1) := by decide +kernel
theorem dX6_fault_32 : decode cX6_fault 32 = .ok (.getfield 29, 3) := by decide +kernel
theorem dX6_fault_35 : decode cX6_fault 35 = .ok (.invokevirtual 201, 3) := by decide +kernel
theorem dX6_fault_38 : decode cX6_fault 38 = .ok (.aload_n 0, 1) := by decide +kernel
theorem dX6_fault_39 : decode cX6_fault 39 = .ok (.getfield 36, 3) := by decide +kernel
theorem dX6_fault_42 : decode cX6_fault 42 = .ok (.getfield 205, 3) := by decide +kernel
theorem dX6_fault_45 : decode cX6_fault 45 = .ok (.ifCond .ne 6, 3) := by decide +kernel
theorem dX6_fault_48 : decode cX6_fault 48 = .ok (.ldc 102, 2) := by decide +kernel
theorem dX6_fault_50 : decode cX6_fault 50 = .ok (.ireturn, 1) := by decide +kernel
theorem dX6_fault_51 : decode cX6_fault 51 = .ok (.iload_n 1, 1) := by decide +kernel
theorem dX6_fault_52 : decode cX6_fault 52 = .ok (.lookupswitch 44 #[(0, 28), (1, 36)], 28) := by decide +kernel
theorem dX6_fault_80 : decode cX6_fault 80 = .ok (.aload_n 0, 1) := by decide +kernel
theorem dX6_fault_81 : decode cX6_fault 81 = .ok (.getfield 36, 3) := by decide +kernel
theorem dX6_fault_84 : decode cX6_fault 84 = .ok (.getfield 208, 3) := by decide +kernel
theorem dX6_fault_87 : decode cX6_fault 87 = .ok (.ireturn, 1) := by decide +kernel
theorem dX6_fault_88 : decode cX6_fault 88 = .ok (.aload_n 0, 1) := by decide +kernel
theorem dX6_fault_89 : decode cX6_fault 89 = .ok (.getfield 36, 3) := by decide +kernel
theorem dX6_fault_92 : decode cX6_fault 92 = .ok (.getfield 205, 3) := by decide +kernel
theorem dX6_fault_95 : decode cX6_fault 95 = .ok (.ireturn, 1) := by decide +kernel
theorem dX6_fault_96 : decode cX6_fault 96 = .ok (.aload_n 0, 1) := by decide +kernel
theorem dX6_fault_97 : decode cX6_fault 97 = .ok (.getfield 36, 3) := by decide +kernel
theorem dX6_fault_100 : decode cX6_fault 100 = .ok (.getfield 211, 3) := by decide +kernel
theorem dX6_fault_103 : decode cX6_fault 103 = .ok (.ireturn, 1) := by decide +kernel
set_option maxRecDepth 20000 in
theorem ggX6_play_X3_copyFrom : GoodIn wsX6_play wsX3_copyFrom := goodIn_r _ [12, 13, 14, 15, 16, 17, 18, 19, 20, 21, 22, 23, 24, 25, 26, 27, 28, 29, 30, 31, 32, 33, 34, 35, 36, 37, 38, 39, 40, 254, 255, 256, 257, 258, 259, 260, 261, 262, 263, 264, 265, 266, 267, 268, 269, 270, 271] (by decide +kernel) (by decide +kernel)
set_option maxRecDepth 20000 in
theorem gX6_play_X3_copyFrom : GoodIn wsX6_play (wsV RX6 40 RX3 yX3_copyFrom wsX3_copyFrom) := goodIn_app (goodIn_of _ (by decide +kernel)) ggX6_play_X3_copyFrom
set_option maxRecDepth 20000 in
theorem ggX6_play_X5_runOn : GoodIn wsX6_play wsX5_runOn := goodIn_r _ [45, 46, 47, 48, 49, 50, 51, 52, 53, 54, 44, 55, 56, 57, 58, 59, 60, 61, 62, 63, 64, 65, 66, 67, 68, 69, 70, 71, 72, 73, 74, 75, 76, 77, 78, 79, 11, 80, 81, 13, 17, 82, 83, 84, 85, 86, 87, 25, 88, 89, 27, 31, 32, 28, 29, 30, 90, 91, 92, 93, 94, 95, 96, 97, 98, 99, 100, 101, 102, 103, 104, 105, 106, 107, 108, 109, 110, 111, 112, 113, 114, 115, 116, 117, 118, 119, 120, 121, 122, 123, 14, 124, 125, 126, 127, 16, 128, 129, 130, 131, 132, 133, 134, 36, 135, 40, 136, 38, 39, 137, 138, 139, 140, 141, 142, 143, 144, 145, 146, 18, 147, 19, 21, 148, 149, 150, 151, 152, 153, 154, 155, 156, 157, 158, 159, 160, 161, 162, 163, 164, 165, 166, 167, 168, 169, 170, 171, 172, 173, 174, 175, 176, 177, 178, 179, 180, 181, 182, 183, 184, 185, 186, 187, 188, 189, 190, 191, 192, 193, 194, 195, 196, 197, 198, 199, 200, 201, 202, 203, 204, 205, 206, 207, 208, 209, 20, 210, 211, 212, 213, 214, 215, 216, 217, 218, 219, 220, 221, 222, 246, 247, 248, 249, 250, 251, 252, 253, 254, 255, 256, 257, 258, 259, 260, 261, 262, 263, 264, 265, 266, 267, 268, 269, 270, 271, 272, 273, 274, 275, 276, 277, 278, 279, 280, 281, 282, 283] (by decide +kernel) (by decide +kernel)
set_option maxRecDepth 20000 in
theorem gX6_play_X5_runOn : GoodIn wsX6_play (wsV RX6 201 RX5 yX5_runOn wsX5_runOn) := goodIn_app (goodIn_of _ (by decide +kernel)) ggX6_play_X5_runOn
set_option maxRecDepth 20000 in
theorem ggX6_play_X6_accept : GoodIn wsX6_play wsX6_accept := goodIn_r _ [226, 227, 2, 1, 228, 218, 83, 219, 220, 221, 222, 82, 84, 229, 230, 231, 232, 233, 234, 235, 236, 237, 238, 239, 240, 9, 10, 11, 12, 13, 14, 15, 16, 17, 18, 19, 20, 21, 22, 23, 24, 25, 26, 27, 28, 29, 30, 31, 32, 33, 34, 35, 36, 37, 38, 39, 40, 8, 241, 242, 243, 244, 245, 284, 285, 254, 255, 256, 257, 258, 259, 260, 261, 262, 263, 264, 265, 266, 267, 268, 269, 270, 271] (by decide +kernel) (by decide +kernel)
set_option maxRecDepth 20000 in
theorem gX6_play_X6_accept : GoodIn wsX6_play (wsV RX6 48 RX6 yX6_accept wsX6_accept) := goodIn_app (goodIn_of _ (by decide +kernel)) ggX6_play_X6_accept
theorem dX6_play_0 : decode cX6_play 0 = .ok (.aload_n 0, 1) := by decide +kernel
theorem dX6_play_1 : decode cX6_play 1 = .ok (.getfield 16, 3) := by decide +kernel
theorem dX6_play_4 : decode cX6_play 4 = .ok (.aload_n 0, 1) := by decide +kernel
theorem dX6_play_5 : decode cX6_play 5 = .ok (.getfield 10, 3) := by decide +kernel
theorem dX6_play_8 : decode cX6_play 8 = .ok (.invokevirtual 40, 3) := by decide +kernel
theorem dX6_play_11 : decode cX6_play 11 = .ok (.aload_n 0, 1) := by decide +kernel
theorem dX6_play_12 : decode cX6_play 12 = .ok (.getfield 36, 3) := by decide +kernel
theorem dX6_play_15 : decode cX6_play 15 = .ok (.aload_n 0, 1) := by decide +kernel
theorem dX6_play_16 : decode cX6_play 16 = .ok (.getfield 16, 3) := by decide +kernel
theorem dX6_play_19 : decode cX6_play 19 = .ok (.aload_n 0, 1) := by decide +kernel
theorem dX6_play_20 : decode cX6_play 20 = .ok (.getfield 29, 3) := by decide +kernel
theorem dX6_play_23 : decode cX6_play 23 = .ok (.invokevirtual 201, 3) := by decide +kernel
theorem dX6_play_26 : decode cX6_play 26 = .ok (.aload_n 0, 1) := by decide +kernel
theorem dX6_play_27 : decode cX6_play 27 = .ok (.aload_n 0, 1) := by decide +kernel
theorem dX6_play_28 : decode cX6_play 28 = .ok (.getfield 36, 3) := by decide +kernel
theorem dX6_play_31 : decode cX6_play 31 = .ok (.getfield 205, 3) := by decide +kernel
theorem dX6_play_34 : decode cX6_play 34 = .ok (.ifCond .ne 13, 3) := by decide +kernel
theorem dX6_play_37 : decode cX6_play 37 = .ok (.aload_n 0, 1) := by decide +kernel
theorem dX6_play_38 : decode cX6_play 38 = .ok (.getfield 36, 3) := by decide +kernel
theorem dX6_play_41 : decode cX6_play 41 = .ok (.getfield 214, 3) := by decide +kernel
theorem dX6_play_44 : decode cX6_play 44 = .ok (.goto 5, 3) := by decide +kernel
theorem dX6_play_47 : decode cX6_play 47 = .ok (.ldc 158, 2) := by decide +kernel
theorem dX6_play_49 : decode cX6_play 49 = .ok (.invokevirtual 48, 3) := by decide +kernel
theorem dX6_play_52 : decode cX6_play 52 = .ok (.ireturn, 1) := by decide +kernel
set_option maxRecDepth 20000 in
theorem ggX6_accept_X6_isError : GoodIn wsX6_accept wsX6_isError := goodIn_r _ [7, 8, 9, 10, 11, 6, 12] (by decide +kernel) (by decide +kernel)
set_option maxRecDepth 20000 in
theorem gX6_accept_X6_isError : GoodIn wsX6_accept (va_wsS RX6 217 yX6_isError wsX6_isError) := goodIn_app (goodIn_of _ (by decide +kernel)) ggX6_accept_X6_isError
set_option maxRecDepth 20000 in
theorem ggX6_accept_X2_record : GoodIn wsX6_accept wsX2_record := goodIn_r _ [17, 18, 19, 20, 21, 22, 16, 23, 24, 25, 26, 27, 28, 29, 30, 31, 32, 33, 34, 35, 36, 37, 38, 39, 40, 41, 42, 43, 44, 45, 46, 47, 48, 49, 50, 51, 52, 53, 54, 55, 56, 63, 64, 65, 66, 67, 68, 69, 70, 71, 72, 73, 74, 75, 76, 77, 78, 79, 80, 81, 82] (by decide +kernel) (by decide +kernel)
set_option maxRecDepth 20000 in
theorem gX6_accept_X2_record : GoodIn wsX6_accept (wsV RX6 220 RX2 yX2_record wsX2_record) := goodIn_app (goodIn_of _ (by decide +kernel)) ggX6_accept_X2_record
set_option maxRecDepth 20000 in
theorem ggX6_accept_X3_copyFrom : GoodIn wsX6_accept wsX3_copyFrom := goodIn_r _ [28, 29, 30, 31, 32, 33, 34, 35, 36, 37, 38, 39, 40, 41, 42, 43, 44, 45, 46, 47, 48, 49, 50, 51, 52, 53, 54, 55, 56, 65, 66, 67, 68, 69, 70, 71, 72, 73, 74, 75, 76, 77, 78, 79, 80, 81, 82] (by decide +kernel) (by decide +kernel)
set_option maxRecDepth 20000 in
theorem gX6_accept_X3_copyFrom : GoodIn wsX6_accept (wsV RX6 40 RX3 yX3_copyFrom wsX3_copyFrom) := goodIn_app (goodIn_of _ (by decide +kernel)) ggX6_accept_X3_copyFrom
theorem dX6_accept_0 : decode cX6_accept 0 = .ok (.iload_n 1, 1) := by decide +kernel
theorem dX6_accept_1 : decode cX6_accept 1 = .ok (.invokestatic 217, 3) := by decide +kernel
theorem dX6_accept_4 : decode cX6_accept 4 = .ok (.ifCond .ne 25, 3) := by decide +kernel
theorem dX6_accept_7 : decode cX6_accept 7 = .ok (.aload_n 0, 1) := by decide +kernel
theorem dX6_accept_8 : decode cX6_accept 8 = .ok (.getfield 22, 3) := by decide +kernel
theorem dX6_accept_11 : decode cX6_accept 11 = .ok (.aload_n 0, 1) := by decide +kernel
theorem dX6_accept_12 : decode cX6_accept 12 = .ok (.getfield 10, 3) := by decide +kernel
theorem dX6_accept_15 : decode cX6_accept 15 = .ok (.invokevirtual 220, 3) := by decide +kernel
theorem dX6_accept_18 : decode cX6_accept 18 = .ok (.aload_n 0, 1) := by decide +kernel
theorem dX6_accept_19 : decode cX6_accept 19 = .ok (.getfield 10, 3) := by decide +kernel
theorem dX6_accept_22 : decode cX6_accept 22 = .ok (.aload_n 0, 1) := by decide +kernel
theorem dX6_accept_23 : decode cX6_accept 23 = .ok (.getfield 16, 3) := by decide +kernel
theorem dX6_accept_26 : decode cX6_accept 26 = .ok (.invokevirtual 40, 3) := by decide +kernel
theorem dX6_accept_29 : decode cX6_accept 29 = .ok (.iload_n 1, 1) := by decide +kernel
theorem dX6_accept_30 : decode cX6_accept 30 = .ok (.ireturn, 1) := by decide +kernel
theorem dX6_isWithin_0 : decode cX6_isWithin 0 = .ok (.iload_n 0, 1) := by decide +kernel
theorem dX6_isWithin_1 : decode cX6_isWithin 1 = .ok (.iload_n 1, 1) := by decide +kernel
theorem dX6_isWithin_2 : decode cX6_isWithin 2 = .ok (.if_icmp .lt 12, 3) := by decide +kernel
theorem dX6_isWithin_5 : decode cX6_isWithin 5 = .ok (.iload_n 0, 1) := by decide +kernel
theorem dX6_isWithin_6 : decode cX6_isWithin 6 = .ok (.iload_n 2, 1) := by decide +kernel
theorem dX6_isWithin_7 : decode cX6_isWithin 7 = .ok (.if_icmp .gt 7, 3) := by decide +kernel
theorem dX6_isWithin_10 : decode cX6_isWithin 10 = .ok (.iconst 1, 1) := by decide +kernel
theorem dX6_isWithin_11 : decode cX6_isWithin 11 = .ok (.goto 4, 3) := by decide +kernel
theorem dX6_isWithin_14 : decode cX6_isWithin 14 = .ok (.iconst 0, 1) := by decide +kernel
theorem dX6_isWithin_15 : decode cX6_isWithin 15 = .ok (.ireturn, 1) := by decide +kernel
set_option maxRecDepth 20000 in
theorem ggX6_isError_X6_isWithin : GoodIn wsX6_isError wsX6_isWithin := goodIn_r _ [6] (by decide +kernel) (by decide +kernel)
set_option maxRecDepth 20000 in
theorem gX6_isError_X6_isWithin : GoodIn wsX6_isError (va_wsS RX6 122 yX6_isWithin wsX6_isWithin) := goodIn_app (goodIn_of _ (by decide +kernel)) ggX6_isError_X6_isWithin
theorem dX6_isError_0 : decode cX6_isError 0 = .ok (.iload_n 0, 1) := by decide +kernel
theorem dX6_isError_1 : decode cX6_isError 1 = .ok (.ldc 102, 2) := by decide +kernel
theorem dX6_isError_3 : decode cX6_isError 3 = .ok (.ldc 90, 2) := by decide +kernel
theorem dX6_isError_5 : decode cX6_isError 5 = .ok (.invokestatic 122, 3) := by decide +kernel
theorem dX6_isError_8 : decode cX6_isError 8 = .ok (.ireturn, 1) := by decide +kernel
theorem dX6_bandOf_0 : decode cX6_bandOf 0 = .ok (.iload_n 0, 1) := by decide +kernel
theorem dX6_bandOf_1 : decode cX6_bandOf 1 = .ok (.bipush 70, 2) := by decide +kernel
theorem dX6_bandOf_3 : decode cX6_bandOf 3 = .ok (.if_icmp .ge 5, 3) := by decide +kernel
theorem dX6_bandOf_6 : decode cX6_bandOf 6 = .ok (.iconst 0, 1) := by decide +kernel
theorem dX6_bandOf_7 : decode cX6_bandOf 7 = .ok (.ireturn, 1) := by decide +kernel
theorem dX6_bandOf_8 : decode cX6_bandOf 8 = .ok (.iload_n 0, 1) := by decide +kernel
theorem dX6_bandOf_9 : decode cX6_bandOf 9 = .ok (.bipush 80, 2) := by decide +kernel
theorem dX6_bandOf_11 : decode cX6_bandOf 11 = .ok (.if_icmp .ge 5, 3) := by decide +kernel
theorem dX6_bandOf_14 : decode cX6_bandOf 14 = .ok (.iconst 1, 1) := by decide +kernel
theorem dX6_bandOf_15 : decode cX6_bandOf 15 = .ok (.ireturn, 1) := by decide +kernel
theorem dX6_bandOf_16 : decode cX6_bandOf 16 = .ok (.iload_n 0, 1) := by decide +kernel
theorem dX6_bandOf_17 : decode cX6_bandOf 17 = .ok (.bipush 90, 2) := by decide +kernel
theorem dX6_bandOf_19 : decode cX6_bandOf 19 = .ok (.if_icmp .ge 7, 3) := by decide +kernel
theorem dX6_bandOf_22 : decode cX6_bandOf 22 = .ok (.iconst 2, 1) := by decide +kernel
theorem dX6_bandOf_23 : decode cX6_bandOf 23 = .ok (.goto 4, 3) := by decide +kernel
theorem dX6_bandOf_26 : decode cX6_bandOf 26 = .ok (.iconst 3, 1) := by decide +kernel
theorem dX6_bandOf_27 : decode cX6_bandOf 27 = .ok (.ireturn, 1) := by decide +kernel
theorem dX6_leastStepsTo_0 : decode cX6_leastStepsTo 0 = .ok (.iload_n 1, 1) := by decide +kernel
theorem dX6_leastStepsTo_1 : decode cX6_leastStepsTo 1 = .ok (.iload_n 0, 1) := by decide +kernel
theorem dX6_leastStepsTo_2 : decode cX6_leastStepsTo 2 = .ok (.if_icmp .lt 5, 3) := by decide +kernel
theorem dX6_leastStepsTo_5 : decode cX6_leastStepsTo 5 = .ok (.iconst 1, 1) := by decide +kernel
theorem dX6_leastStepsTo_6 : decode cX6_leastStepsTo 6 = .ok (.ireturn, 1) := by decide +kernel
theorem dX6_leastStepsTo_7 : decode cX6_leastStepsTo 7 = .ok (.iload_n 1, 1) := by decide +kernel
theorem dX6_leastStepsTo_8 : decode cX6_leastStepsTo 8 = .ok (.ifCond .gt 7, 3) := by decide +kernel
theorem dX6_leastStepsTo_11 : decode cX6_leastStepsTo 11 = .ok (.iconst 0, 1) := by decide +kernel
theorem dX6_leastStepsTo_12 : decode cX6_leastStepsTo 12 = .ok (.goto 10, 3) := by decide +kernel
theorem dX6_leastStepsTo_15 : decode cX6_leastStepsTo 15 = .ok (.iload_n 0, 1) := by decide +kernel
theorem dX6_leastStepsTo_16 : decode cX6_leastStepsTo 16 = .ok (.iload_n 1, 1) := by decide +kernel
theorem dX6_leastStepsTo_17 : decode cX6_leastStepsTo 17 = .ok (.iadd, 1) := by decide +kernel
theorem dX6_leastStepsTo_18 : decode cX6_leastStepsTo 18 = .ok (.iconst 1, 1) := by decide +kernel
theorem dX6_leastStepsTo_19 : decode cX6_leastStepsTo 19 = .ok (.isub, 1) := by decide +kernel
theorem dX6_leastStepsTo_20 : decode cX6_leastStepsTo 20 = .ok (.iload_n 1, 1) := by decide +kernel
theorem dX6_leastStepsTo_21 : decode cX6_leastStepsTo 21 = .ok (.idiv, 1) := by decide +kernel
theorem dX6_leastStepsTo_22 : decode cX6_leastStepsTo 22 = .ok (.ireturn, 1) := by decide +kernel
theorem dX6_bitsOfMeanCup_0 : decode cX6_bitsOfMeanCup 0 = .ok (.iload_n 1, 1) := by decide +kernel
theorem dX6_bitsOfMeanCup_1 : decode cX6_bitsOfMeanCup 1 = .ok (.iconst 1, 1) := by decide +kernel
theorem dX6_bitsOfMeanCup_2 : decode cX6_bitsOfMeanCup 2 = .ok (.if_icmp .ge 6, 3) := by decide +kernel
theorem dX6_bitsOfMeanCup_5 : decode cX6_bitsOfMeanCup 5 = .ok (.ldc 158, 2) := by decide +kernel
theorem dX6_bitsOfMeanCup_7 : decode cX6_bitsOfMeanCup 7 = .ok (.ireturn, 1) := by decide +kernel
theorem dX6_bitsOfMeanCup_8 : decode cX6_bitsOfMeanCup 8 = .ok (.iload_n 0, 1) := by decide +kernel
theorem dX6_bitsOfMeanCup_9 : decode cX6_bitsOfMeanCup 9 = .ok (.i2f, 1) := by decide +kernel
theorem dX6_bitsOfMeanCup_10 : decode cX6_bitsOfMeanCup 10 = .ok (.iload_n 1, 1) := by decide +kernel
theorem dX6_bitsOfMeanCup_11 : decode cX6_bitsOfMeanCup 11 = .ok (.i2f, 1) := by decide +kernel
theorem dX6_bitsOfMeanCup_12 : decode cX6_bitsOfMeanCup 12 = .ok (.fdiv, 1) := by decide +kernel
theorem dX6_bitsOfMeanCup_13 : decode cX6_bitsOfMeanCup 13 = .ok (.fstore_n 2, 1) := by decide +kernel
theorem dX6_bitsOfMeanCup_14 : decode cX6_bitsOfMeanCup 14 = .ok (.fload_n 2, 1) := by decide +kernel
theorem dX6_bitsOfMeanCup_15 : decode cX6_bitsOfMeanCup 15 = .ok (.ldc 223, 2) := by decide +kernel
theorem dX6_bitsOfMeanCup_17 : decode cX6_bitsOfMeanCup 17 = .ok (.fmul, 1) := by decide +kernel
theorem dX6_bitsOfMeanCup_18 : decode cX6_bitsOfMeanCup 18 = .ok (.f2i, 1) := by decide +kernel
theorem dX6_bitsOfMeanCup_19 : decode cX6_bitsOfMeanCup 19 = .ok (.istore_n 3, 1) := by decide +kernel
theorem dX6_bitsOfMeanCup_20 : decode cX6_bitsOfMeanCup 20 = .ok (.ldc 224, 2) := by decide +kernel
theorem dX6_bitsOfMeanCup_22 : decode cX6_bitsOfMeanCup 22 = .ok (.iload_n 3, 1) := by decide +kernel
theorem dX6_bitsOfMeanCup_23 : decode cX6_bitsOfMeanCup 23 = .ok (.iadd, 1) := by decide +kernel
theorem dX6_bitsOfMeanCup_24 : decode cX6_bitsOfMeanCup 24 = .ok (.ldc 225, 2) := by decide +kernel
theorem dX6_bitsOfMeanCup_26 : decode cX6_bitsOfMeanCup 26 = .ok (.isub, 1) := by decide +kernel
theorem dX6_bitsOfMeanCup_27 : decode cX6_bitsOfMeanCup 27 = .ok (.ireturn, 1) := by decide +kernel
end
section
theorem dX7_init_0 : decode cX7_init 0 = .ok (.aload_n 0, 1) := by decide +kernel
theorem dX7_init_1 : decode cX7_init 1 = .ok (.invokespecial 1, 3) := by decide +kernel
theorem dX7_init_4 : decode cX7_init 4 = .ok (.aload_n 0, 1) := by decide +kernel
theorem dX7_init_5 : decode cX7_init 5 = .ok (.bipush 81, 2) := by decide +kernel
theorem dX7_init_7 : decode cX7_init 7 = .ok (.newarray .int, 2) := by decide +kernel
theorem dX7_init_9 : decode cX7_init 9 = .ok (.putfield 7, 3) := by decide +kernel
theorem dX7_init_12 : decode cX7_init 12 = .ok (.aload_n 0, 1) := by decide +kernel
theorem dX7_init_13 : decode cX7_init 13 = .ok (.sipush 324, 3) := by decide +kernel
theorem dX7_init_16 : decode cX7_init 16 = .ok (.newarray .int, 2) := by decide +kernel
theorem dX7_init_18 : decode cX7_init 18 = .ok (.putfield 13, 3) := by decide +kernel
theorem dX7_init_21 : decode cX7_init 21 = .ok (.aload_n 0, 1) := by decide +kernel
theorem dX7_init_22 : decode cX7_init 22 = .ok (.bipush 81, 2) := by decide +kernel
theorem dX7_init_24 : decode cX7_init 24 = .ok (.newarray .int, 2) := by decide +kernel
theorem dX7_init_26 : decode cX7_init 26 = .ok (.putfield 16, 3) := by decide +kernel
theorem dX7_init_29 : decode cX7_init 29 = .ok (.aload_n 0, 1) := by decide +kernel
theorem dX7_init_30 : decode cX7_init 30 = .ok (.bipush 60, 2) := by decide +kernel
theorem dX7_init_32 : decode cX7_init 32 = .ok (.newarray .int, 2) := by decide +kernel
theorem dX7_init_34 : decode cX7_init 34 = .ok (.putfield 19, 3) := by decide +kernel
theorem dX7_init_37 : decode cX7_init 37 = .ok (.aload_n 0, 1) := by decide +kernel
theorem dX7_init_38 : decode cX7_init 38 = .ok (.bipush 12, 2) := by decide +kernel
theorem dX7_init_40 : decode cX7_init 40 = .ok (.newarray .int, 2) := by decide +kernel
theorem dX7_init_42 : decode cX7_init 42 = .ok (.putfield 22, 3) := by decide +kernel
theorem dX7_init_45 : decode cX7_init 45 = .ok (.aload_n 0, 1) := by decide +kernel
theorem dX7_init_46 : decode cX7_init 46 = .ok (.bipush 12, 2) := by decide +kernel
theorem dX7_init_48 : decode cX7_init 48 = .ok (.newarray .int, 2) := by decide +kernel
theorem dX7_init_50 : decode cX7_init 50 = .ok (.putfield 25, 3) := by decide +kernel
theorem dX7_init_53 : decode cX7_init 53 = .ok (.aload_n 0, 1) := by decide +kernel
theorem dX7_init_54 : decode cX7_init 54 = .ok (.iconst 4, 1) := by decide +kernel
theorem dX7_init_55 : decode cX7_init 55 = .ok (.newarray .int, 2) := by decide +kernel
theorem dX7_init_57 : decode cX7_init 57 = .ok (.putfield 28, 3) := by decide +kernel
theorem dX7_init_60 : decode cX7_init 60 = .ok (.aload_n 0, 1) := by decide +kernel
theorem dX7_init_61 : decode cX7_init 61 = .ok (.getfield 7, 3) := by decide +kernel
theorem dX7_init_64 : decode cX7_init 64 = .ok (.bipush 8, 2) := by decide +kernel
theorem dX7_init_66 : decode cX7_init 66 = .ok (.bipush 100, 2) := by decide +kernel
theorem dX7_init_68 : decode cX7_init 68 = .ok (.iastore, 1) := by decide +kernel
theorem dX7_init_69 : decode cX7_init 69 = .ok (.aload_n 0, 1) := by decide +kernel
theorem dX7_init_70 : decode cX7_init 70 = .ok (.getfield 7, 3) := by decide +kernel
theorem dX7_init_73 : decode cX7_init 73 = .ok (.bipush 9, 2) := by decide +kernel
theorem dX7_init_75 : decode cX7_init 75 = .ok (.sipush 2388, 3) := by decide +kernel
theorem dX7_init_78 : decode cX7_init 78 = .ok (.iastore, 1) := by decide +kernel
theorem dX7_init_79 : decode cX7_init 79 = .ok (.aload_n 0, 1) := by decide +kernel
theorem dX7_init_80 : decode cX7_init 80 = .ok (.getfield 7, 3) := by decide +kernel
theorem dX7_init_83 : decode cX7_init 83 = .ok (.bipush 10, 2) := by decide +kernel
theorem dX7_init_85 : decode cX7_init 85 = .ok (.iconst 3, 1) := by decide +kernel
theorem dX7_init_86 : decode cX7_init 86 = .ok (.iastore, 1) := by decide +kernel
theorem dX7_init_87 : decode cX7_init 87 = .ok (.aload_n 0, 1) := by decide +kernel
theorem dX7_init_88 : decode cX7_init 88 = .ok (.getfield 7, 3) := by decide +kernel
theorem dX7_init_91 : decode cX7_init 91 = .ok (.bipush 11, 2) := by decide +kernel
theorem dX7_init_93 : decode cX7_init 93 = .ok (.iconst 2, 1) := by decide +kernel
theorem dX7_init_94 : decode cX7_init 94 = .ok (.iastore, 1) := by decide +kernel
theorem dX7_init_95 : decode cX7_init 95 = .ok (.aload_n 0, 1) := by decide +kernel
theorem dX7_init_96 : decode cX7_init 96 = .ok (.getfield 7, 3) := by decide +kernel
theorem dX7_init_99 : decode cX7_init 99 = .ok (.bipush 12, 2) := by decide +kernel
theorem dX7_init_101 : decode cX7_init 101 = .ok (.bipush 20, 2) := by decide +kernel
theorem dX7_init_103 : decode cX7_init 103 = .ok (.iastore, 1) := by decide +kernel
theorem dX7_init_104 : decode cX7_init 104 = .ok (.aload_n 0, 1) := by decide +kernel
theorem dX7_init_105 : decode cX7_init 105 = .ok (.getfield 7, 3) := by decide +kernel
theorem dX7_init_108 : decode cX7_init 108 = .ok (.bipush 13, 2) := by decide +kernel
theorem dX7_init_110 : decode cX7_init 110 = .ok (.bipush 100, 2) := by decide +kernel
theorem dX7_init_112 : decode cX7_init 112 = .ok (.iastore, 1) := by decide +kernel
theorem dX7_init_113 : decode cX7_init 113 = .ok (.aload_n 0, 1) := by decide +kernel
theorem dX7_init_114 : decode cX7_init 114 = .ok (.getfield 7, 3) := by decide +kernel
theorem dX7_init_117 : decode cX7_init 117 = .ok (.bipush 14, 2) := by decide +kernel
theorem dX7_init_119 : decode cX7_init 119 = .ok (.sipush 150, 3) := by decide +kernel
theorem dX7_init_122 : decode cX7_init 122 = .ok (.iastore, 1) := by decide +kernel
theorem dX7_init_123 : decode cX7_init 123 = .ok (.aload_n 0, 1) := by decide +kernel
theorem dX7_init_124 : decode cX7_init 124 = .ok (.getfield 7, 3) := by decide +kernel
theorem dX7_init_127 : decode cX7_init 127 = .ok (.bipush 15, 2) := by decide +kernel
theorem dX7_init_129 : decode cX7_init 129 = .ok (.sipush 200, 3) := by decide +kernel
theorem dX7_init_132 : decode cX7_init 132 = .ok (.iastore, 1) := by decide +kernel
theorem dX7_init_133 : decode cX7_init 133 = .ok (.aload_n 0, 1) := by decide +kernel
theorem dX7_init_134 : decode cX7_init 134 = .ok (.getfield 7, 3) := by decide +kernel
theorem dX7_init_137 : decode cX7_init 137 = .ok (.bipush 16, 2) := by decide +kernel
theorem dX7_init_139 : decode cX7_init 139 = .ok (.sipush 300, 3) := by decide +kernel
theorem dX7_init_142 : decode cX7_init 142 = .ok (.iastore, 1) := by decide +kernel
theorem dX7_init_143 : decode cX7_init 143 = .ok (.return_, 1) := by decide +kernel
theorem dX7_in_0 : decode cX7_in 0 = .ok (.iload_n 0, 1) := by decide +kernel
theorem dX7_in_1 : decode cX7_in 1 = .ok (.iload_n 1, 1) := by decide +kernel
theorem dX7_in_2 : decode cX7_in 2 = .ok (.if_icmp .lt 12, 3) := by decide +kernel
theorem dX7_in_5 : decode cX7_in 5 = .ok (.iload_n 0, 1) := by decide +kernel
theorem dX7_in_6 : decode cX7_in 6 = .ok (.iload_n 2, 1) := by decide +kernel
theorem dX7_in_7 : decode cX7_in 7 = .ok (.if_icmp .gt 7, 3) := by decide +kernel
theorem dX7_in_10 : decode cX7_in 10 = .ok (.iconst 1, 1) := by decide +kernel
theorem dX7_in_11 : decode cX7_in 11 = .ok (.goto 4, 3) := by decide +kernel
theorem dX7_in_14 : decode cX7_in 14 = .ok (.iconst 0, 1) := by decide +kernel
theorem dX7_in_15 : decode cX7_in 15 = .ok (.ireturn, 1) := by decide +kernel
theorem dX7_copies_0 : decode cX7_copies 0 = .ok (.iconst 0, 1) := by decide +kernel
theorem dX7_copies_1 : decode cX7_copies 1 = .ok (.istore_n 2, 1) := by decide +kernel
theorem dX7_copies_2 : decode cX7_copies 2 = .ok (.iload_n 2, 1) := by decide +kernel
theorem dX7_copies_3 : decode cX7_copies 3 = .ok (.bipush 81, 2) := by decide +kernel
theorem dX7_copies_5 : decode cX7_copies 5 = .ok (.if_icmp .ge 15, 3) := by decide +kernel
theorem dX7_copies_8 : decode cX7_copies 8 = .ok (.aload_n 1, 1) := by decide +kernel
theorem dX7_copies_9 : decode cX7_copies 9 = .ok (.iload_n 2, 1) := by decide +kernel
theorem dX7_copies_10 : decode cX7_copies 10 = .ok (.aload_n 0, 1) := by decide +kernel
theorem dX7_copies_11 : decode cX7_copies 11 = .ok (.iload_n 2, 1) := by decide +kernel
theorem dX7_copies_12 : decode cX7_copies 12 = .ok (.iaload, 1) := by decide +kernel
theorem dX7_copies_13 : decode cX7_copies 13 = .ok (.iastore, 1) := by decide +kernel
theorem dX7_copies_14 : decode cX7_copies 14 = .ok (.iinc 2 1, 3) := by decide +kernel
theorem dX7_copies_17 : decode cX7_copies 17 = .ok (.goto (-15), 3) := by decide +kernel
theorem dX7_copies_20 : decode cX7_copies 20 = .ok (.return_, 1) := by decide +kernel
theorem dX7_changes_0 : decode cX7_changes 0 = .ok (.aload_n 0, 1) := by decide +kernel
theorem dX7_changes_1 : decode cX7_changes 1 = .ok (.getfield 31, 3) := by decide +kernel
theorem dX7_changes_4 : decode cX7_changes 4 = .ok (.ifCond .eq 4, 3) := by decide +kernel
theorem dX7_changes_7 : decode cX7_changes 7 = .ok (.return_, 1) := by decide +kernel
theorem dX7_changes_8 : decode cX7_changes 8 = .ok (.aload_n 0, 1) := by decide +kernel
theorem dX7_changes_9 : decode cX7_changes 9 = .ok (.getfield 35, 3) := by decide +kernel
theorem dX7_changes_12 : decode cX7_changes 12 = .ok (.iconst 4, 1) := by decide +kernel
theorem dX7_changes_13 : decode cX7_changes 13 = .ok (.if_icmp .ne 43, 3) := by decide +kernel
theorem dX7_changes_16 : decode cX7_changes 16 = .ok (.iconst 0, 1) := by decide +kernel
theorem dX7_changes_17 : decode cX7_changes 17 = .ok (.istore_n 1, 1) := by decide +kernel
theorem dX7_changes_18 : decode cX7_changes 18 = .ok (.iload_n 1, 1) := by decide +kernel
theorem dX7_changes_19 : decode cX7_changes 19 = .ok (.sipush 243, 3) := by decide +kernel
theorem dX7_changes_22 : decode cX7_changes 22 = .ok (.if_icmp .ge 24, 3) := by decide +kernel
theorem dX7_changes_25 : decode cX7_changes 25 = .ok (.aload_n 0, 1) := by decide +kernel
theorem dX7_changes_26 : decode cX7_changes 26 = .ok (.getfield 13, 3) := by decide +kernel
theorem dX7_changes_29 : decode cX7_changes 29 = .ok (.iload_n 1, 1) := by decide +kernel
theorem dX7_changes_30 : decode cX7_changes 30 = .ok (.aload_n 0, 1) := by decide +kernel
theorem dX7_changes_31 : decode cX7_changes 31 = .ok (.getfield 13, 3) := by decide +kernel
theorem dX7_changes_34 : decode cX7_changes 34 = .ok (.iload_n 1, 1) := by decide +kernel
theorem dX7_changes_35 : decode cX7_changes 35 = .ok (.bipush 81, 2) := by decide +kernel
theorem dX7_changes_37 : decode cX7_changes 37 = .ok (.iadd, 1) := by decide +kernel
theorem dX7_changes_38 : decode cX7_changes 38 = .ok (.iaload, 1) := by decide +kernel
theorem dX7_changes_39 : decode cX7_changes 39 = .ok (.iastore, 1) := by decide +kernel
theorem dX7_changes_40 : decode cX7_changes 40 = .ok (.iinc 1 1, 3) := by decide +kernel
theorem dX7_changes_43 : decode cX7_changes 43 = .ok (.goto (-25), 3) := by decide +kernel
theorem dX7_changes_46 : decode cX7_changes 46 = .ok (.aload_n 0, 1) := by decide +kernel
theorem dX7_changes_47 : decode cX7_changes 47 = .ok (.dup, 1) := by decide +kernel
theorem dX7_changes_48 : decode cX7_changes 48 = .ok (.getfield 35, 3) := by decide +kernel
theorem dX7_changes_51 : decode cX7_changes 51 = .ok (.iconst 1, 1) := by decide +kernel
theorem dX7_changes_52 : decode cX7_changes 52 = .ok (.isub, 1) := by decide +kernel
theorem dX7_changes_53 : decode cX7_changes 53 = .ok (.putfield 35, 3) := by decide +kernel
theorem dX7_changes_56 : decode cX7_changes 56 = .ok (.iconst 0, 1) := by decide +kernel
theorem dX7_changes_57 : decode cX7_changes 57 = .ok (.istore_n 1, 1) := by decide +kernel
theorem dX7_changes_58 : decode cX7_changes 58 = .ok (.iload_n 1, 1) := by decide +kernel
theorem dX7_changes_59 : decode cX7_changes 59 = .ok (.bipush 81, 2) := by decide +kernel
theorem dX7_changes_61 : decode cX7_changes 61 = .ok (.if_icmp .ge 29, 3) := by decide +kernel
theorem dX7_changes_64 : decode cX7_changes 64 = .ok (.aload_n 0, 1) := by decide +kernel
theorem dX7_changes_65 : decode cX7_changes 65 = .ok (.getfield 13, 3) := by decide +kernel
theorem dX7_changes_68 : decode cX7_changes 68 = .ok (.bipush 81, 2) := by decide +kernel
theorem dX7_changes_70 : decode cX7_changes 70 = .ok (.aload_n 0, 1) := by decide +kernel
theorem dX7_changes_71 : decode cX7_changes 71 = .ok (.getfield 35, 3) := by decide +kernel
theorem dX7_changes_74 : decode cX7_changes 74 = .ok (.imul, 1) := by decide +kernel
theorem dX7_changes_75 : decode cX7_changes 75 = .ok (.iload_n 1, 1) := by decide +kernel
theorem dX7_changes_76 : decode cX7_changes 76 = .ok (.iadd, 1) := by decide +kernel
theorem dX7_changes_77 : decode cX7_changes 77 = .ok (.aload_n 0, 1) := by decide +kernel
theorem dX7_changes_78 : decode cX7_changes 78 = .ok (.getfield 7, 3) := by decide +kernel
theorem dX7_changes_81 : decode cX7_changes 81 = .ok (.iload_n 1, 1) := by decide +kernel
theorem dX7_changes_82 : decode cX7_changes 82 = .ok (.iaload, 1) := by decide +kernel
theorem dX7_changes_83 : decode cX7_changes 83 = .ok (.iastore, 1) := by decide +kernel
theorem dX7_changes_84 : decode cX7_changes 84 = .ok (.iinc 1 1, 3) := by decide +kernel
theorem dX7_changes_87 : decode cX7_changes 87 = .ok (.goto (-29), 3) := by decide +kernel
theorem dX7_changes_90 : decode cX7_changes 90 = .ok (.aload_n 0, 1) := by decide +kernel
theorem dX7_changes_91 : decode cX7_changes 91 = .ok (.dup, 1) := by decide +kernel
theorem dX7_changes_92 : decode cX7_changes 92 = .ok (.getfield 35, 3) := by decide +kernel
theorem dX7_changes_95 : decode cX7_changes 95 = .ok (.iconst 1, 1) := by decide +kernel
theorem dX7_changes_96 : decode cX7_changes 96 = .ok (.iadd, 1) := by decide +kernel
theorem dX7_changes_97 : decode cX7_changes 97 = .ok (.putfield 35, 3) := by decide +kernel
theorem dX7_changes_100 : decode cX7_changes 100 = .ok (.return_, 1) := by decide +kernel
theorem dX7_of_0 : decode cX7_of 0 = .ok (.aload_n 0, 1) := by decide +kernel
theorem dX7_of_1 : decode cX7_of 1 = .ok (.getfield 7, 3) := by decide +kernel
theorem dX7_of_4 : decode cX7_of 4 = .ok (.bipush 17, 2) := by decide +kernel
theorem dX7_of_6 : decode cX7_of 6 = .ok (.iconst 4, 1) := by decide +kernel
theorem dX7_of_7 : decode cX7_of 7 = .ok (.iload_n 1, 1) := by decide +kernel
theorem dX7_of_8 : decode cX7_of 8 = .ok (.imul, 1) := by decide +kernel
theorem dX7_of_9 : decode cX7_of 9 = .ok (.iadd, 1) := by decide +kernel
theorem dX7_of_10 : decode cX7_of 10 = .ok (.iload_n 2, 1) := by decide +kernel
theorem dX7_of_11 : decode cX7_of 11 = .ok (.iadd, 1) := by decide +kernel
theorem dX7_of_12 : decode cX7_of 12 = .ok (.iaload, 1) := by decide +kernel
theorem dX7_of_13 : decode cX7_of 13 = .ok (.ireturn, 1) := by decide +kernel
set_option maxRecDepth 20000 in
theorem ggX7_placeOf_X7_of : GoodIn wsX7_placeOf wsX7_of := goodIn_r _ [7, 1, 8, 9, 10, 11, 12, 13, 14, 15, 16, 17, 18, 19, 20, 21, 22, 23, 24, 25] (by decide +kernel) (by decide +kernel)
set_option maxRecDepth 20000 in
theorem gX7_placeOf_X7_of : GoodIn wsX7_placeOf (wsV RX7 39 RX7 yX7_of wsX7_of) := goodIn_app (goodIn_of _ (by decide +kernel)) ggX7_placeOf_X7_of
theorem dX7_placeOf_0 : decode cX7_placeOf 0 = .ok (.iconst 0, 1) := by decide +kernel
theorem dX7_placeOf_1 : decode cX7_placeOf 1 = .ok (.istore_n 2, 1) := by decide +kernel
theorem dX7_placeOf_2 : decode cX7_placeOf 2 = .ok (.iload_n 2, 1) := by decide +kernel
theorem dX7_placeOf_3 : decode cX7_placeOf 3 = .ok (.aload_n 0, 1) := by decide +kernel
theorem dX7_placeOf_4 : decode cX7_placeOf 4 = .ok (.getfield 7, 3) := by decide +kernel
theorem dX7_placeOf_7 : decode cX7_placeOf 7 = .ok (.bipush 6, 2) := by decide +kernel
theorem dX7_placeOf_9 : decode cX7_placeOf 9 = .ok (.iaload, 1) := by decide +kernel
theorem dX7_placeOf_10 : decode cX7_placeOf 10 = .ok (.if_icmp .ge 21, 3) := by decide +kernel
theorem dX7_placeOf_13 : decode cX7_placeOf 13 = .ok (.aload_n 0, 1) := by decide +kernel
theorem dX7_placeOf_14 : decode cX7_placeOf 14 = .ok (.iload_n 2, 1) := by decide +kernel
theorem dX7_placeOf_15 : decode cX7_placeOf 15 = .ok (.iconst 0, 1) := by decide +kernel
theorem dX7_placeOf_16 : decode cX7_placeOf 16 = .ok (.invokevirtual 39, 3) := by decide +kernel
theorem dX7_placeOf_19 : decode cX7_placeOf 19 = .ok (.iload_n 1, 1) := by decide +kernel
theorem dX7_placeOf_20 : decode cX7_placeOf 20 = .ok (.if_icmp .ne 5, 3) := by decide +kernel
theorem dX7_placeOf_23 : decode cX7_placeOf 23 = .ok (.iload_n 2, 1) := by decide +kernel
theorem dX7_placeOf_24 : decode cX7_placeOf 24 = .ok (.ireturn, 1) := by decide +kernel
theorem dX7_placeOf_25 : decode cX7_placeOf 25 = .ok (.iinc 2 1, 3) := by decide +kernel
theorem dX7_placeOf_28 : decode cX7_placeOf 28 = .ok (.goto (-26), 3) := by decide +kernel
theorem dX7_placeOf_31 : decode cX7_placeOf 31 = .ok (.ldc 43, 2) := by decide +kernel
theorem dX7_placeOf_33 : decode cX7_placeOf 33 = .ok (.ireturn, 1) := by decide +kernel
set_option maxRecDepth 20000 in
theorem ggX7_isLot_X7_placeOf : GoodIn wsX7_isLot wsX7_placeOf := goodIn_r _ [5, 6, 7, 8, 9, 10, 4, 11, 12, 13, 14, 15, 16, 17, 18, 19, 20, 21, 22, 23, 24, 25, 26, 27, 28, 29] (by decide +kernel) (by decide +kernel)
set_option maxRecDepth 20000 in
theorem gX7_isLot_X7_placeOf : GoodIn wsX7_isLot (wsV RX7 44 RX7 yX7_placeOf wsX7_placeOf) := goodIn_app (goodIn_of _ (by decide +kernel)) ggX7_isLot_X7_placeOf
theorem dX7_isLot_0 : decode cX7_isLot 0 = .ok (.aload_n 0, 1) := by decide +kernel
theorem dX7_isLot_1 : decode cX7_isLot 1 = .ok (.iload_n 1, 1) := by decide +kernel
theorem dX7_isLot_2 : decode cX7_isLot 2 = .ok (.invokevirtual 44, 3) := by decide +kernel
theorem dX7_isLot_5 : decode cX7_isLot 5 = .ok (.ifCond .lt 7, 3) := by decide +kernel
theorem dX7_isLot_8 : decode cX7_isLot 8 = .ok (.iconst 1, 1) := by decide +kernel
theorem dX7_isLot_9 : decode cX7_isLot 9 = .ok (.goto 4, 3) := by decide +kernel
theorem dX7_isLot_12 : decode cX7_isLot 12 = .ok (.iconst 0, 1) := by decide +kernel
theorem dX7_isLot_13 : decode cX7_isLot 13 = .ok (.ireturn, 1) := by decide +kernel
set_option maxRecDepth 20000 in
theorem ggX7_cupAt_X7_of : GoodIn wsX7_cupAt wsX7_of := goodIn_r _ [5, 6, 7, 8, 9, 10, 11, 12, 13, 14, 15, 16, 17, 18, 19, 20, 21, 22, 23, 24] (by decide +kernel) (by decide +kernel)
set_option maxRecDepth 20000 in
theorem gX7_cupAt_X7_of : GoodIn wsX7_cupAt (wsV RX7 39 RX7 yX7_of wsX7_of) := goodIn_app (goodIn_of _ (by decide +kernel)) ggX7_cupAt_X7_of
theorem dX7_cupAt_0 : decode cX7_cupAt 0 = .ok (.aload_n 0, 1) := by decide +kernel
theorem dX7_cupAt_1 : decode cX7_cupAt 1 = .ok (.iload_n 1, 1) := by decide +kernel
theorem dX7_cupAt_2 : decode cX7_cupAt 2 = .ok (.iconst 2, 1) := by decide +kernel
theorem dX7_cupAt_3 : decode cX7_cupAt 3 = .ok (.invokevirtual 39, 3) := by decide +kernel
theorem dX7_cupAt_6 : decode cX7_cupAt 6 = .ok (.iload_n 2, 1) := by decide +kernel
theorem dX7_cupAt_7 : decode cX7_cupAt 7 = .ok (.aload_n 0, 1) := by decide +kernel
theorem dX7_cupAt_8 : decode cX7_cupAt 8 = .ok (.iload_n 1, 1) := by decide +kernel
theorem dX7_cupAt_9 : decode cX7_cupAt 9 = .ok (.iconst 3, 1) := by decide +kernel
theorem dX7_cupAt_10 : decode cX7_cupAt 10 = .ok (.invokevirtual 39, 3) := by decide +kernel
theorem dX7_cupAt_13 : decode cX7_cupAt 13 = .ok (.isub, 1) := by decide +kernel
theorem dX7_cupAt_14 : decode cX7_cupAt 14 = .ok (.iconst 4, 1) := by decide +kernel
theorem dX7_cupAt_15 : decode cX7_cupAt 15 = .ok (.idiv, 1) := by decide +kernel
theorem dX7_cupAt_16 : decode cX7_cupAt 16 = .ok (.isub, 1) := by decide +kernel
theorem dX7_cupAt_17 : decode cX7_cupAt 17 = .ok (.istore_n 3, 1) := by decide +kernel
theorem dX7_cupAt_18 : decode cX7_cupAt 18 = .ok (.iload_n 3, 1) := by decide +kernel
theorem dX7_cupAt_19 : decode cX7_cupAt 19 = .ok (.bipush 60, 2) := by decide +kernel
theorem dX7_cupAt_21 : decode cX7_cupAt 21 = .ok (.if_icmp .ge 8, 3) := by decide +kernel
theorem dX7_cupAt_24 : decode cX7_cupAt 24 = .ok (.bipush 60, 2) := by decide +kernel
theorem dX7_cupAt_26 : decode cX7_cupAt 26 = .ok (.goto 4, 3) := by decide +kernel
theorem dX7_cupAt_29 : decode cX7_cupAt 29 = .ok (.iload_n 3, 1) := by decide +kernel
theorem dX7_cupAt_30 : decode cX7_cupAt 30 = .ok (.ireturn, 1) := by decide +kernel
set_option maxRecDepth 20000 in
theorem ggX7_cupOf_X7_cupAt : GoodIn wsX7_cupOf wsX7_cupAt := goodIn_r _ [6, 7, 8, 9, 5, 10, 1, 11, 12, 13, 14, 15, 16, 17, 18, 19, 20, 21, 22, 23, 24, 25, 26, 27, 28] (by decide +kernel) (by decide +kernel)
set_option maxRecDepth 20000 in
theorem gX7_cupOf_X7_cupAt : GoodIn wsX7_cupOf (wsV RX7 48 RX7 yX7_cupAt wsX7_cupAt) := goodIn_app (goodIn_of _ (by decide +kernel)) ggX7_cupOf_X7_cupAt
theorem dX7_cupOf_0 : decode cX7_cupOf 0 = .ok (.aload_n 0, 1) := by decide +kernel
theorem dX7_cupOf_1 : decode cX7_cupOf 1 = .ok (.iload_n 1, 1) := by decide +kernel
theorem dX7_cupOf_2 : decode cX7_cupOf 2 = .ok (.aload_n 0, 1) := by decide +kernel
theorem dX7_cupOf_3 : decode cX7_cupOf 3 = .ok (.getfield 7, 3) := by decide +kernel
theorem dX7_cupOf_6 : decode cX7_cupOf 6 = .ok (.iconst 0, 1) := by decide +kernel
theorem dX7_cupOf_7 : decode cX7_cupOf 7 = .ok (.iaload, 1) := by decide +kernel
theorem dX7_cupOf_8 : decode cX7_cupOf 8 = .ok (.invokevirtual 48, 3) := by decide +kernel
theorem dX7_cupOf_11 : decode cX7_cupOf 11 = .ok (.ireturn, 1) := by decide +kernel
theorem dX7_bandOf_0 : decode cX7_bandOf 0 = .ok (.iload_n 0, 1) := by decide +kernel
theorem dX7_bandOf_1 : decode cX7_bandOf 1 = .ok (.bipush 70, 2) := by decide +kernel
theorem dX7_bandOf_3 : decode cX7_bandOf 3 = .ok (.if_icmp .ge 7, 3) := by decide +kernel
theorem dX7_bandOf_6 : decode cX7_bandOf 6 = .ok (.iconst 0, 1) := by decide +kernel
theorem dX7_bandOf_7 : decode cX7_bandOf 7 = .ok (.goto 24, 3) := by decide +kernel
theorem dX7_bandOf_10 : decode cX7_bandOf 10 = .ok (.iload_n 0, 1) := by decide +kernel
theorem dX7_bandOf_11 : decode cX7_bandOf 11 = .ok (.bipush 80, 2) := by decide +kernel
theorem dX7_bandOf_13 : decode cX7_bandOf 13 = .ok (.if_icmp .ge 7, 3) := by decide +kernel
theorem dX7_bandOf_16 : decode cX7_bandOf 16 = .ok (.iconst 1, 1) := by decide +kernel
theorem dX7_bandOf_17 : decode cX7_bandOf 17 = .ok (.goto 14, 3) := by decide +kernel
theorem dX7_bandOf_20 : decode cX7_bandOf 20 = .ok (.iload_n 0, 1) := by decide +kernel
theorem dX7_bandOf_21 : decode cX7_bandOf 21 = .ok (.bipush 90, 2) := by decide +kernel
theorem dX7_bandOf_23 : decode cX7_bandOf 23 = .ok (.if_icmp .ge 7, 3) := by decide +kernel
theorem dX7_bandOf_26 : decode cX7_bandOf 26 = .ok (.iconst 2, 1) := by decide +kernel
theorem dX7_bandOf_27 : decode cX7_bandOf 27 = .ok (.goto 4, 3) := by decide +kernel
theorem dX7_bandOf_30 : decode cX7_bandOf 30 = .ok (.iconst 3, 1) := by decide +kernel
theorem dX7_bandOf_31 : decode cX7_bandOf 31 = .ok (.ireturn, 1) := by decide +kernel
set_option maxRecDepth 20000 in
theorem ggX7_lateAt_X7_of : GoodIn wsX7_lateAt wsX7_of := goodIn_r _ [5, 6, 7, 8, 9, 10, 11, 12, 13, 14, 15, 16, 17, 18, 19, 20, 21, 22, 23, 24] (by decide +kernel) (by decide +kernel)
set_option maxRecDepth 20000 in
theorem gX7_lateAt_X7_of : GoodIn wsX7_lateAt (wsV RX7 39 RX7 yX7_of wsX7_of) := goodIn_app (goodIn_of _ (by decide +kernel)) ggX7_lateAt_X7_of
theorem dX7_lateAt_0 : decode cX7_lateAt 0 = .ok (.iload_n 2, 1) := by decide +kernel
theorem dX7_lateAt_1 : decode cX7_lateAt 1 = .ok (.aload_n 0, 1) := by decide +kernel
theorem dX7_lateAt_2 : decode cX7_lateAt 2 = .ok (.iload_n 1, 1) := by decide +kernel
theorem dX7_lateAt_3 : decode cX7_lateAt 3 = .ok (.iconst 3, 1) := by decide +kernel
theorem dX7_lateAt_4 : decode cX7_lateAt 4 = .ok (.invokevirtual 39, 3) := by decide +kernel
theorem dX7_lateAt_7 : decode cX7_lateAt 7 = .ok (.isub, 1) := by decide +kernel
theorem dX7_lateAt_8 : decode cX7_lateAt 8 = .ok (.iconst 3, 1) := by decide +kernel
theorem dX7_lateAt_9 : decode cX7_lateAt 9 = .ok (.isub, 1) := by decide +kernel
theorem dX7_lateAt_10 : decode cX7_lateAt 10 = .ok (.istore_n 3, 1) := by decide +kernel
theorem dX7_lateAt_11 : decode cX7_lateAt 11 = .ok (.iload_n 3, 1) := by decide +kernel
theorem dX7_lateAt_12 : decode cX7_lateAt 12 = .ok (.ifCond .ge 7, 3) := by decide +kernel
theorem dX7_lateAt_15 : decode cX7_lateAt 15 = .ok (.iconst 0, 1) := by decide +kernel
theorem dX7_lateAt_16 : decode cX7_lateAt 16 = .ok (.goto 4, 3) := by decide +kernel
theorem dX7_lateAt_19 : decode cX7_lateAt 19 = .ok (.iload_n 3, 1) := by decide +kernel
theorem dX7_lateAt_20 : decode cX7_lateAt 20 = .ok (.ireturn, 1) := by decide +kernel
set_option maxRecDepth 20000 in
theorem ggX7_paidAt_X7_cupAt : GoodIn wsX7_paidAt wsX7_cupAt := goodIn_r _ [6, 7, 8, 9, 5, 10, 1, 15, 16, 17, 18, 19, 20, 21, 22, 23, 24, 25, 26, 27, 28, 29, 30, 31, 32] (by decide +kernel) (by decide +kernel)
set_option maxRecDepth 20000 in
theorem gX7_paidAt_X7_cupAt : GoodIn wsX7_paidAt (wsV RX7 48 RX7 yX7_cupAt wsX7_cupAt) := goodIn_app (goodIn_of _ (by decide +kernel)) ggX7_paidAt_X7_cupAt
set_option maxRecDepth 20000 in
theorem ggX7_paidAt_X7_lateAt : GoodIn wsX7_paidAt wsX7_lateAt := goodIn_r _ [14, 7, 8, 9, 5, 10, 1, 15, 16, 17, 18, 19, 20, 21, 22, 23, 24, 25, 26, 27, 28, 29, 30, 31, 32] (by decide +kernel) (by decide +kernel)
set_option maxRecDepth 20000 in
theorem gX7_paidAt_X7_lateAt : GoodIn wsX7_paidAt (wsV RX7 51 RX7 yX7_lateAt wsX7_lateAt) := goodIn_app (goodIn_of _ (by decide +kernel)) ggX7_paidAt_X7_lateAt
theorem dX7_paidAt_0 : decode cX7_paidAt 0 = .ok (.iload_n 2, 1) := by decide +kernel
theorem dX7_paidAt_1 : decode cX7_paidAt 1 = .ok (.aload_n 0, 1) := by decide +kernel
theorem dX7_paidAt_2 : decode cX7_paidAt 2 = .ok (.iload_n 1, 1) := by decide +kernel
theorem dX7_paidAt_3 : decode cX7_paidAt 3 = .ok (.iload_n 3, 1) := by decide +kernel
theorem dX7_paidAt_4 : decode cX7_paidAt 4 = .ok (.invokevirtual 48, 3) := by decide +kernel
theorem dX7_paidAt_7 : decode cX7_paidAt 7 = .ok (.bipush 80, 2) := by decide +kernel
theorem dX7_paidAt_9 : decode cX7_paidAt 9 = .ok (.isub, 1) := by decide +kernel
theorem dX7_paidAt_10 : decode cX7_paidAt 10 = .ok (.aload_n 0, 1) := by decide +kernel
theorem dX7_paidAt_11 : decode cX7_paidAt 11 = .ok (.getfield 7, 3) := by decide +kernel
theorem dX7_paidAt_14 : decode cX7_paidAt 14 = .ok (.bipush 10, 2) := by decide +kernel
theorem dX7_paidAt_16 : decode cX7_paidAt 16 = .ok (.iaload, 1) := by decide +kernel
theorem dX7_paidAt_17 : decode cX7_paidAt 17 = .ok (.imul, 1) := by decide +kernel
theorem dX7_paidAt_18 : decode cX7_paidAt 18 = .ok (.iadd, 1) := by decide +kernel
theorem dX7_paidAt_19 : decode cX7_paidAt 19 = .ok (.aload_n 0, 1) := by decide +kernel
theorem dX7_paidAt_20 : decode cX7_paidAt 20 = .ok (.getfield 7, 3) := by decide +kernel
theorem dX7_paidAt_23 : decode cX7_paidAt 23 = .ok (.bipush 11, 2) := by decide +kernel
theorem dX7_paidAt_25 : decode cX7_paidAt 25 = .ok (.iaload, 1) := by decide +kernel
theorem dX7_paidAt_26 : decode cX7_paidAt 26 = .ok (.aload_n 0, 1) := by decide +kernel
theorem dX7_paidAt_27 : decode cX7_paidAt 27 = .ok (.iload_n 1, 1) := by decide +kernel
theorem dX7_paidAt_28 : decode cX7_paidAt 28 = .ok (.iload_n 3, 1) := by decide +kernel
theorem dX7_paidAt_29 : decode cX7_paidAt 29 = .ok (.invokevirtual 51, 3) := by decide +kernel
theorem dX7_paidAt_32 : decode cX7_paidAt 32 = .ok (.imul, 1) := by decide +kernel
theorem dX7_paidAt_33 : decode cX7_paidAt 33 = .ok (.isub, 1) := by decide +kernel
theorem dX7_paidAt_34 : decode cX7_paidAt 34 = .ok (.istore 4, 2) := by decide +kernel
theorem dX7_paidAt_36 : decode cX7_paidAt 36 = .ok (.iload 4, 2) := by decide +kernel
theorem dX7_paidAt_38 : decode cX7_paidAt 38 = .ok (.iconst 1, 1) := by decide +kernel
theorem dX7_paidAt_39 : decode cX7_paidAt 39 = .ok (.if_icmp .ge 7, 3) := by decide +kernel
theorem dX7_paidAt_42 : decode cX7_paidAt 42 = .ok (.iconst 1, 1) := by decide +kernel
theorem dX7_paidAt_43 : decode cX7_paidAt 43 = .ok (.goto 5, 3) := by decide +kernel
theorem dX7_paidAt_46 : decode cX7_paidAt 46 = .ok (.iload 4, 2) := by decide +kernel
theorem dX7_paidAt_48 : decode cX7_paidAt 48 = .ok (.ireturn, 1) := by decide +kernel
set_option maxRecDepth 20000 in
theorem ggX7_gainAt_X7_paidAt : GoodIn wsX7_gainAt wsX7_paidAt := goodIn_r _ [6, 1, 7, 8, 9, 5, 10, 11, 12, 13, 14, 15, 16, 17, 18, 22, 23, 24, 25, 26, 27, 28, 29, 30, 31, 32, 33, 34, 35, 36, 37, 38, 39] (by decide +kernel) (by decide +kernel)
set_option maxRecDepth 20000 in
theorem gX7_gainAt_X7_paidAt : GoodIn wsX7_gainAt (wsV RX7 54 RX7 yX7_paidAt wsX7_paidAt) := goodIn_app (goodIn_of _ (by decide +kernel)) ggX7_gainAt_X7_paidAt
set_option maxRecDepth 20000 in
theorem ggX7_gainAt_X7_cupAt : GoodIn wsX7_gainAt wsX7_cupAt := goodIn_r _ [10, 11, 12, 13, 5, 14, 1, 22, 23, 24, 25, 26, 27, 28, 29, 30, 31, 32, 33, 34, 35, 36, 37, 38, 39] (by decide +kernel) (by decide +kernel)
set_option maxRecDepth 20000 in
theorem gX7_gainAt_X7_cupAt : GoodIn wsX7_gainAt (wsV RX7 48 RX7 yX7_cupAt wsX7_cupAt) := goodIn_app (goodIn_of _ (by decide +kernel)) ggX7_gainAt_X7_cupAt
set_option maxRecDepth 20000 in
theorem ggX7_gainAt_X7_bandOf : GoodIn wsX7_gainAt wsX7_bandOf := goodIn_r _ [21] (by decide +kernel) (by decide +kernel)
set_option maxRecDepth 20000 in
theorem gX7_gainAt_X7_bandOf : GoodIn wsX7_gainAt (va_wsS RX7 58 yX7_bandOf wsX7_bandOf) := goodIn_app (goodIn_of _ (by decide +kernel)) ggX7_gainAt_X7_bandOf
theorem dX7_gainAt_0 : decode cX7_gainAt 0 = .ok (.aload_n 0, 1) := by decide +kernel
theorem dX7_gainAt_1 : decode cX7_gainAt 1 = .ok (.iload_n 1, 1) := by decide +kernel
theorem dX7_gainAt_2 : decode cX7_gainAt 2 = .ok (.iload_n 2, 1) := by decide +kernel
theorem dX7_gainAt_3 : decode cX7_gainAt 3 = .ok (.iload_n 3, 1) := by decide +kernel
theorem dX7_gainAt_4 : decode cX7_gainAt 4 = .ok (.invokevirtual 54, 3) := by decide +kernel
theorem dX7_gainAt_7 : decode cX7_gainAt 7 = .ok (.aload_n 0, 1) := by decide +kernel
theorem dX7_gainAt_8 : decode cX7_gainAt 8 = .ok (.getfield 7, 3) := by decide +kernel
theorem dX7_gainAt_11 : decode cX7_gainAt 11 = .ok (.bipush 13, 2) := by decide +kernel
theorem dX7_gainAt_13 : decode cX7_gainAt 13 = .ok (.aload_n 0, 1) := by decide +kernel
theorem dX7_gainAt_14 : decode cX7_gainAt 14 = .ok (.iload_n 1, 1) := by decide +kernel
theorem dX7_gainAt_15 : decode cX7_gainAt 15 = .ok (.iload_n 3, 1) := by decide +kernel
theorem dX7_gainAt_16 : decode cX7_gainAt 16 = .ok (.invokevirtual 48, 3) := by decide +kernel
theorem dX7_gainAt_19 : decode cX7_gainAt 19 = .ok (.invokestatic 58, 3) := by decide +kernel
theorem dX7_gainAt_22 : decode cX7_gainAt 22 = .ok (.iadd, 1) := by decide +kernel
theorem dX7_gainAt_23 : decode cX7_gainAt 23 = .ok (.iaload, 1) := by decide +kernel
theorem dX7_gainAt_24 : decode cX7_gainAt 24 = .ok (.isub, 1) := by decide +kernel
theorem dX7_gainAt_25 : decode cX7_gainAt 25 = .ok (.ireturn, 1) := by decide +kernel
theorem dX7_makes_0 : decode cX7_makes 0 = .ok (.bipush 17, 2) := by decide +kernel
theorem dX7_makes_2 : decode cX7_makes 2 = .ok (.iconst 4, 1) := by decide +kernel
theorem dX7_makes_3 : decode cX7_makes 3 = .ok (.aload_n 0, 1) := by decide +kernel
theorem dX7_makes_4 : decode cX7_makes 4 = .ok (.getfield 7, 3) := by decide +kernel
theorem dX7_makes_7 : decode cX7_makes 7 = .ok (.bipush 6, 2) := by decide +kernel
theorem dX7_makes_9 : decode cX7_makes 9 = .ok (.iaload, 1) := by decide +kernel
theorem dX7_makes_10 : decode cX7_makes 10 = .ok (.imul, 1) := by decide +kernel
theorem dX7_makes_11 : decode cX7_makes 11 = .ok (.iadd, 1) := by decide +kernel
theorem dX7_makes_12 : decode cX7_makes 12 = .ok (.istore 4, 2) := by decide +kernel
theorem dX7_makes_14 : decode cX7_makes 14 = .ok (.aload_n 0, 1) := by decide +kernel
theorem dX7_makes_15 : decode cX7_makes 15 = .ok (.getfield 7, 3) := by decide +kernel
theorem dX7_makes_18 : decode cX7_makes 18 = .ok (.iload 4, 2) := by decide +kernel
theorem dX7_makes_20 : decode cX7_makes 20 = .ok (.iconst 0, 1) := by decide +kernel
theorem dX7_makes_21 : decode cX7_makes 21 = .ok (.iadd, 1) := by decide +kernel
theorem dX7_makes_22 : decode cX7_makes 22 = .ok (.aload_n 0, 1) := by decide +kernel
theorem dX7_makes_23 : decode cX7_makes 23 = .ok (.getfield 7, 3) := by decide +kernel
theorem dX7_makes_26 : decode cX7_makes 26 = .ok (.iconst 5, 1) := by decide +kernel
theorem dX7_makes_27 : decode cX7_makes 27 = .ok (.iaload, 1) := by decide +kernel
theorem dX7_makes_28 : decode cX7_makes 28 = .ok (.iastore, 1) := by decide +kernel
theorem dX7_makes_29 : decode cX7_makes 29 = .ok (.aload_n 0, 1) := by decide +kernel
theorem dX7_makes_30 : decode cX7_makes 30 = .ok (.getfield 7, 3) := by decide +kernel
theorem dX7_makes_33 : decode cX7_makes 33 = .ok (.iload 4, 2) := by decide +kernel
theorem dX7_makes_35 : decode cX7_makes 35 = .ok (.iconst 1, 1) := by decide +kernel
theorem dX7_makes_36 : decode cX7_makes 36 = .ok (.iadd, 1) := by decide +kernel
theorem dX7_makes_37 : decode cX7_makes 37 = .ok (.iload_n 1, 1) := by decide +kernel
theorem dX7_makes_38 : decode cX7_makes 38 = .ok (.iastore, 1) := by decide +kernel
theorem dX7_makes_39 : decode cX7_makes 39 = .ok (.aload_n 0, 1) := by decide +kernel
theorem dX7_makes_40 : decode cX7_makes 40 = .ok (.getfield 7, 3) := by decide +kernel
theorem dX7_makes_43 : decode cX7_makes 43 = .ok (.iload 4, 2) := by decide +kernel
theorem dX7_makes_45 : decode cX7_makes 45 = .ok (.iconst 2, 1) := by decide +kernel
theorem dX7_makes_46 : decode cX7_makes 46 = .ok (.iadd, 1) := by decide +kernel
theorem dX7_makes_47 : decode cX7_makes 47 = .ok (.iload_n 2, 1) := by decide +kernel
theorem dX7_makes_48 : decode cX7_makes 48 = .ok (.iastore, 1) := by decide +kernel
theorem dX7_makes_49 : decode cX7_makes 49 = .ok (.aload_n 0, 1) := by decide +kernel
theorem dX7_makes_50 : decode cX7_makes 50 = .ok (.getfield 7, 3) := by decide +kernel
theorem dX7_makes_53 : decode cX7_makes 53 = .ok (.iload 4, 2) := by decide +kernel
theorem dX7_makes_55 : decode cX7_makes 55 = .ok (.iconst 3, 1) := by decide +kernel
theorem dX7_makes_56 : decode cX7_makes 56 = .ok (.iadd, 1) := by decide +kernel
theorem dX7_makes_57 : decode cX7_makes 57 = .ok (.iload_n 3, 1) := by decide +kernel
theorem dX7_makes_58 : decode cX7_makes 58 = .ok (.iastore, 1) := by decide +kernel
theorem dX7_makes_59 : decode cX7_makes 59 = .ok (.aload_n 0, 1) := by decide +kernel
theorem dX7_makes_60 : decode cX7_makes 60 = .ok (.getfield 7, 3) := by decide +kernel
theorem dX7_makes_63 : decode cX7_makes 63 = .ok (.bipush 6, 2) := by decide +kernel
theorem dX7_makes_65 : decode cX7_makes 65 = .ok (.dup2, 1) := by decide +kernel
theorem dX7_makes_66 : decode cX7_makes 66 = .ok (.iaload, 1) := by decide +kernel
theorem dX7_makes_67 : decode cX7_makes 67 = .ok (.iconst 1, 1) := by decide +kernel
theorem dX7_makes_68 : decode cX7_makes 68 = .ok (.iadd, 1) := by decide +kernel
theorem dX7_makes_69 : decode cX7_makes 69 = .ok (.iastore, 1) := by decide +kernel
theorem dX7_makes_70 : decode cX7_makes 70 = .ok (.aload_n 0, 1) := by decide +kernel
theorem dX7_makes_71 : decode cX7_makes 71 = .ok (.getfield 7, 3) := by decide +kernel
theorem dX7_makes_74 : decode cX7_makes 74 = .ok (.iconst 5, 1) := by decide +kernel
theorem dX7_makes_75 : decode cX7_makes 75 = .ok (.dup2, 1) := by decide +kernel
theorem dX7_makes_76 : decode cX7_makes 76 = .ok (.iaload, 1) := by decide +kernel
theorem dX7_makes_77 : decode cX7_makes 77 = .ok (.iconst 1, 1) := by decide +kernel
theorem dX7_makes_78 : decode cX7_makes 78 = .ok (.iadd, 1) := by decide +kernel
theorem dX7_makes_79 : decode cX7_makes 79 = .ok (.iastore, 1) := by decide +kernel
theorem dX7_makes_80 : decode cX7_makes 80 = .ok (.aload_n 0, 1) := by decide +kernel
theorem dX7_makes_81 : decode cX7_makes 81 = .ok (.getfield 7, 3) := by decide +kernel
theorem dX7_makes_84 : decode cX7_makes 84 = .ok (.iconst 5, 1) := by decide +kernel
theorem dX7_makes_85 : decode cX7_makes 85 = .ok (.iaload, 1) := by decide +kernel
theorem dX7_makes_86 : decode cX7_makes 86 = .ok (.iconst 1, 1) := by decide +kernel
theorem dX7_makes_87 : decode cX7_makes 87 = .ok (.isub, 1) := by decide +kernel
theorem dX7_makes_88 : decode cX7_makes 88 = .ok (.ireturn, 1) := by decide +kernel
set_option maxRecDepth 20000 in
theorem ggX7_takes_X7_placeOf : GoodIn wsX7_takes wsX7_placeOf := goodIn_r _ [6, 1, 7, 8, 9, 10, 5, 11, 12, 13, 14, 15, 16, 17, 18, 19, 20, 21, 22, 23, 24, 25, 26, 27, 28, 29] (by decide +kernel) (by decide +kernel)
set_option maxRecDepth 20000 in
theorem gX7_takes_X7_placeOf : GoodIn wsX7_takes (wsV RX7 44 RX7 yX7_placeOf wsX7_placeOf) := goodIn_app (goodIn_of _ (by decide +kernel)) ggX7_takes_X7_placeOf
set_option maxRecDepth 20000 in
theorem ggX7_takes_X7_of : GoodIn wsX7_takes wsX7_of := goodIn_r _ [11, 1, 12, 13, 14, 15, 16, 17, 18, 19, 20, 21, 22, 23, 24, 25, 26, 27, 28, 29] (by decide +kernel) (by decide +kernel)
set_option maxRecDepth 20000 in
theorem gX7_takes_X7_of : GoodIn wsX7_takes (wsV RX7 39 RX7 yX7_of wsX7_of) := goodIn_app (goodIn_of _ (by decide +kernel)) ggX7_takes_X7_of
theorem dX7_takes_0 : decode cX7_takes 0 = .ok (.aload_n 0, 1) := by decide +kernel
theorem dX7_takes_1 : decode cX7_takes 1 = .ok (.iload_n 1, 1) := by decide +kernel
theorem dX7_takes_2 : decode cX7_takes 2 = .ok (.invokevirtual 44, 3) := by decide +kernel
theorem dX7_takes_5 : decode cX7_takes 5 = .ok (.istore_n 3, 1) := by decide +kernel
theorem dX7_takes_6 : decode cX7_takes 6 = .ok (.aload_n 0, 1) := by decide +kernel
theorem dX7_takes_7 : decode cX7_takes 7 = .ok (.getfield 7, 3) := by decide +kernel
theorem dX7_takes_10 : decode cX7_takes 10 = .ok (.bipush 17, 2) := by decide +kernel
theorem dX7_takes_12 : decode cX7_takes 12 = .ok (.iconst 4, 1) := by decide +kernel
theorem dX7_takes_13 : decode cX7_takes 13 = .ok (.iload_n 3, 1) := by decide +kernel
theorem dX7_takes_14 : decode cX7_takes 14 = .ok (.imul, 1) := by decide +kernel
theorem dX7_takes_15 : decode cX7_takes 15 = .ok (.iadd, 1) := by decide +kernel
theorem dX7_takes_16 : decode cX7_takes 16 = .ok (.iconst 1, 1) := by decide +kernel
theorem dX7_takes_17 : decode cX7_takes 17 = .ok (.iadd, 1) := by decide +kernel
theorem dX7_takes_18 : decode cX7_takes 18 = .ok (.dup2, 1) := by decide +kernel
theorem dX7_takes_19 : decode cX7_takes 19 = .ok (.iaload, 1) := by decide +kernel
theorem dX7_takes_20 : decode cX7_takes 20 = .ok (.iload_n 2, 1) := by decide +kernel
theorem dX7_takes_21 : decode cX7_takes 21 = .ok (.isub, 1) := by decide +kernel
theorem dX7_takes_22 : decode cX7_takes 22 = .ok (.iastore, 1) := by decide +kernel
theorem dX7_takes_23 : decode cX7_takes 23 = .ok (.aload_n 0, 1) := by decide +kernel
theorem dX7_takes_24 : decode cX7_takes 24 = .ok (.iload_n 3, 1) := by decide +kernel
theorem dX7_takes_25 : decode cX7_takes 25 = .ok (.iconst 1, 1) := by decide +kernel
theorem dX7_takes_26 : decode cX7_takes 26 = .ok (.invokevirtual 39, 3) := by decide +kernel
theorem dX7_takes_29 : decode cX7_takes 29 = .ok (.ifCond .ne 61, 3) := by decide +kernel
theorem dX7_takes_32 : decode cX7_takes 32 = .ok (.aload_n 0, 1) := by decide +kernel
theorem dX7_takes_33 : decode cX7_takes 33 = .ok (.getfield 7, 3) := by decide +kernel
theorem dX7_takes_36 : decode cX7_takes 36 = .ok (.bipush 6, 2) := by decide +kernel
theorem dX7_takes_38 : decode cX7_takes 38 = .ok (.dup2, 1) := by decide +kernel
theorem dX7_takes_39 : decode cX7_takes 39 = .ok (.iaload, 1) := by decide +kernel
theorem dX7_takes_40 : decode cX7_takes 40 = .ok (.iconst 1, 1) := by decide +kernel
theorem dX7_takes_41 : decode cX7_takes 41 = .ok (.isub, 1) := by decide +kernel
theorem dX7_takes_42 : decode cX7_takes 42 = .ok (.iastore, 1) := by decide +kernel
theorem dX7_takes_43 : decode cX7_takes 43 = .ok (.bipush 17, 2) := by decide +kernel
theorem dX7_takes_45 : decode cX7_takes 45 = .ok (.iconst 4, 1) := by decide +kernel
theorem dX7_takes_46 : decode cX7_takes 46 = .ok (.iload_n 3, 1) := by decide +kernel
theorem dX7_takes_47 : decode cX7_takes 47 = .ok (.imul, 1) := by decide +kernel
theorem dX7_takes_48 : decode cX7_takes 48 = .ok (.iadd, 1) := by decide +kernel
theorem dX7_takes_49 : decode cX7_takes 49 = .ok (.istore 4, 2) := by decide +kernel
theorem dX7_takes_51 : decode cX7_takes 51 = .ok (.iload 4, 2) := by decide +kernel
theorem dX7_takes_53 : decode cX7_takes 53 = .ok (.bipush 17, 2) := by decide +kernel
theorem dX7_takes_55 : decode cX7_takes 55 = .ok (.iconst 4, 1) := by decide +kernel
theorem dX7_takes_56 : decode cX7_takes 56 = .ok (.aload_n 0, 1) := by decide +kernel
theorem dX7_takes_57 : decode cX7_takes 57 = .ok (.getfield 7, 3) := by decide +kernel
theorem dX7_takes_60 : decode cX7_takes 60 = .ok (.bipush 6, 2) := by decide +kernel
theorem dX7_takes_62 : decode cX7_takes 62 = .ok (.iaload, 1) := by decide +kernel
theorem dX7_takes_63 : decode cX7_takes 63 = .ok (.imul, 1) := by decide +kernel
theorem dX7_takes_64 : decode cX7_takes 64 = .ok (.iadd, 1) := by decide +kernel
theorem dX7_takes_65 : decode cX7_takes 65 = .ok (.if_icmp .ge 25, 3) := by decide +kernel
theorem dX7_takes_68 : decode cX7_takes 68 = .ok (.aload_n 0, 1) := by decide +kernel
theorem dX7_takes_69 : decode cX7_takes 69 = .ok (.getfield 7, 3) := by decide +kernel
theorem dX7_takes_72 : decode cX7_takes 72 = .ok (.iload 4, 2) := by decide +kernel
theorem dX7_takes_74 : decode cX7_takes 74 = .ok (.aload_n 0, 1) := by decide +kernel
theorem dX7_takes_75 : decode cX7_takes 75 = .ok (.getfield 7, 3) := by decide +kernel
theorem dX7_takes_78 : decode cX7_takes 78 = .ok (.iload 4, 2) := by decide +kernel
theorem dX7_takes_80 : decode cX7_takes 80 = .ok (.iconst 4, 1) := by decide +kernel
theorem dX7_takes_81 : decode cX7_takes 81 = .ok (.iadd, 1) := by decide +kernel
theorem dX7_takes_82 : decode cX7_takes 82 = .ok (.iaload, 1) := by decide +kernel
theorem dX7_takes_83 : decode cX7_takes 83 = .ok (.iastore, 1) := by decide +kernel
theorem dX7_takes_84 : decode cX7_takes 84 = .ok (.iinc 4 1, 3) := by decide +kernel
theorem dX7_takes_87 : decode cX7_takes 87 = .ok (.goto (-36), 3) := by decide +kernel
theorem dX7_takes_90 : decode cX7_takes 90 = .ok (.return_, 1) := by decide +kernel
set_option maxRecDepth 20000 in
theorem ggX7_lot_X7_in : GoodIn wsX7_lot wsX7_in := goodIn_r _ [7] (by decide +kernel) (by decide +kernel)
set_option maxRecDepth 20000 in
theorem gX7_lot_X7_in : GoodIn wsX7_lot (va_wsS RX7 61 yX7_in wsX7_in) := goodIn_app (goodIn_of _ (by decide +kernel)) ggX7_lot_X7_in
set_option maxRecDepth 20000 in
theorem ggX7_lot_X7_changes : GoodIn wsX7_lot wsX7_changes := goodIn_r _ [11, 12, 13, 14, 2, 19, 20, 21, 22, 23, 24, 25, 26, 27, 28, 29, 30, 31, 32, 33, 34, 35, 36] (by decide +kernel) (by decide +kernel)
set_option maxRecDepth 20000 in
theorem gX7_lot_X7_changes : GoodIn wsX7_lot (wsV RX7 67 RX7 yX7_changes wsX7_changes) := goodIn_app (goodIn_of _ (by decide +kernel)) ggX7_lot_X7_changes
set_option maxRecDepth 20000 in
theorem ggX7_lot_X7_makes : GoodIn wsX7_lot wsX7_makes := goodIn_r _ [18, 2, 19, 20, 21, 22, 23, 24, 25, 26, 27, 28, 29, 30, 31, 32, 33, 34, 35, 36] (by decide +kernel) (by decide +kernel)
set_option maxRecDepth 20000 in
theorem gX7_lot_X7_makes : GoodIn wsX7_lot (wsV RX7 70 RX7 yX7_makes wsX7_makes) := goodIn_app (goodIn_of _ (by decide +kernel)) ggX7_lot_X7_makes
theorem dX7_lot_0 : decode cX7_lot 0 = .ok (.iload_n 1, 1) := by decide +kernel
theorem dX7_lot_1 : decode cX7_lot 1 = .ok (.iconst 1, 1) := by decide +kernel
theorem dX7_lot_2 : decode cX7_lot 2 = .ok (.sipush 999, 3) := by decide +kernel
theorem dX7_lot_5 : decode cX7_lot 5 = .ok (.invokestatic 61, 3) := by decide +kernel
theorem dX7_lot_8 : decode cX7_lot 8 = .ok (.ifCond .eq 14, 3) := by decide +kernel
theorem dX7_lot_11 : decode cX7_lot 11 = .ok (.iload_n 2, 1) := by decide +kernel
theorem dX7_lot_12 : decode cX7_lot 12 = .ok (.bipush 60, 2) := by decide +kernel
theorem dX7_lot_14 : decode cX7_lot 14 = .ok (.bipush 100, 2) := by decide +kernel
theorem dX7_lot_16 : decode cX7_lot 16 = .ok (.invokestatic 61, 3) := by decide +kernel
theorem dX7_lot_19 : decode cX7_lot 19 = .ok (.ifCond .ne 6, 3) := by decide +kernel
theorem dX7_lot_22 : decode cX7_lot 22 = .ok (.ldc 65, 2) := by decide +kernel
theorem dX7_lot_24 : decode cX7_lot 24 = .ok (.ireturn, 1) := by decide +kernel
theorem dX7_lot_25 : decode cX7_lot 25 = .ok (.aload_n 0, 1) := by decide +kernel
theorem dX7_lot_26 : decode cX7_lot 26 = .ok (.getfield 7, 3) := by decide +kernel
theorem dX7_lot_29 : decode cX7_lot 29 = .ok (.bipush 6, 2) := by decide +kernel
theorem dX7_lot_31 : decode cX7_lot 31 = .ok (.iaload, 1) := by decide +kernel
theorem dX7_lot_32 : decode cX7_lot 32 = .ok (.bipush 12, 2) := by decide +kernel
theorem dX7_lot_34 : decode cX7_lot 34 = .ok (.if_icmp .ne 6, 3) := by decide +kernel
theorem dX7_lot_37 : decode cX7_lot 37 = .ok (.ldc 66, 2) := by decide +kernel
theorem dX7_lot_39 : decode cX7_lot 39 = .ok (.ireturn, 1) := by decide +kernel
theorem dX7_lot_40 : decode cX7_lot 40 = .ok (.aload_n 0, 1) := by decide +kernel
theorem dX7_lot_41 : decode cX7_lot 41 = .ok (.invokevirtual 67, 3) := by decide +kernel
theorem dX7_lot_44 : decode cX7_lot 44 = .ok (.aload_n 0, 1) := by decide +kernel
theorem dX7_lot_45 : decode cX7_lot 45 = .ok (.iload_n 1, 1) := by decide +kernel
theorem dX7_lot_46 : decode cX7_lot 46 = .ok (.iload_n 2, 1) := by decide +kernel
theorem dX7_lot_47 : decode cX7_lot 47 = .ok (.aload_n 0, 1) := by decide +kernel
theorem dX7_lot_48 : decode cX7_lot 48 = .ok (.getfield 7, 3) := by decide +kernel
theorem dX7_lot_51 : decode cX7_lot 51 = .ok (.iconst 0, 1) := by decide +kernel
theorem dX7_lot_52 : decode cX7_lot 52 = .ok (.iaload, 1) := by decide +kernel
theorem dX7_lot_53 : decode cX7_lot 53 = .ok (.invokevirtual 70, 3) := by decide +kernel
theorem dX7_lot_56 : decode cX7_lot 56 = .ok (.ireturn, 1) := by decide +kernel
set_option maxRecDepth 20000 in
theorem ggX7_part_X7_isLot : GoodIn wsX7_part wsX7_isLot := goodIn_r _ [9, 10, 11, 12, 8, 13, 3, 14, 15, 16, 17, 18, 34, 35, 36, 37, 38, 39, 40, 41, 42, 43, 44, 45, 46, 47, 48, 49, 50, 51] (by decide +kernel) (by decide +kernel)
set_option maxRecDepth 20000 in
theorem gX7_part_X7_isLot : GoodIn wsX7_part (wsV RX7 73 RX7 yX7_isLot wsX7_isLot) := goodIn_app (goodIn_of _ (by decide +kernel)) ggX7_part_X7_isLot
set_option maxRecDepth 20000 in
theorem ggX7_part_X7_placeOf : GoodIn wsX7_part wsX7_placeOf := goodIn_r _ [13, 3, 14, 15, 16, 17, 8, 18, 34, 35, 36, 37, 38, 39, 40, 41, 42, 43, 44, 45, 46, 47, 48, 49, 50, 51] (by decide +kernel) (by decide +kernel)
set_option maxRecDepth 20000 in
theorem gX7_part_X7_placeOf : GoodIn wsX7_part (wsV RX7 44 RX7 yX7_placeOf wsX7_placeOf) := goodIn_app (goodIn_of _ (by decide +kernel)) ggX7_part_X7_placeOf
set_option maxRecDepth 20000 in
theorem ggX7_part_X7_of : GoodIn wsX7_part wsX7_of := goodIn_r _ [18, 3, 34, 35, 36, 37, 38, 39, 40, 41, 42, 43, 44, 45, 46, 47, 48, 49, 50, 51] (by decide +kernel) (by decide +kernel)
set_option maxRecDepth 20000 in
theorem gX7_part_X7_of : GoodIn wsX7_part (wsV RX7 39 RX7 yX7_of wsX7_of) := goodIn_app (goodIn_of _ (by decide +kernel)) ggX7_part_X7_of
set_option maxRecDepth 20000 in
theorem ggX7_part_X7_changes : GoodIn wsX7_part wsX7_changes := goodIn_r _ [22, 23, 24, 25, 3, 34, 35, 36, 37, 38, 39, 40, 41, 42, 43, 44, 45, 46, 47, 48, 49, 50, 51] (by decide +kernel) (by decide +kernel)
set_option maxRecDepth 20000 in
theorem gX7_part_X7_changes : GoodIn wsX7_part (wsV RX7 67 RX7 yX7_changes wsX7_changes) := goodIn_app (goodIn_of _ (by decide +kernel)) ggX7_part_X7_changes
set_option maxRecDepth 20000 in
theorem ggX7_part_X7_takes : GoodIn wsX7_part wsX7_takes := goodIn_r _ [29, 3, 10, 11, 12, 8, 13, 14, 15, 16, 17, 18, 34, 35, 36, 37, 38, 39, 40, 41, 42, 43, 44, 45, 46, 47, 48, 49, 50, 51] (by decide +kernel) (by decide +kernel)
set_option maxRecDepth 20000 in
theorem gX7_part_X7_takes : GoodIn wsX7_part (wsV RX7 78 RX7 yX7_takes wsX7_takes) := goodIn_app (goodIn_of _ (by decide +kernel)) ggX7_part_X7_takes
set_option maxRecDepth 20000 in
theorem ggX7_part_X7_makes : GoodIn wsX7_part wsX7_makes := goodIn_r _ [33, 3, 34, 35, 36, 37, 38, 39, 40, 41, 42, 43, 44, 45, 46, 47, 48, 49, 50, 51] (by decide +kernel) (by decide +kernel)
set_option maxRecDepth 20000 in
theorem gX7_part_X7_makes : GoodIn wsX7_part (wsV RX7 70 RX7 yX7_makes wsX7_makes) := goodIn_app (goodIn_of _ (by decide +kernel)) ggX7_part_X7_makes
theorem dX7_part_0 : decode cX7_part 0 = .ok (.aload_n 0, 1) := by decide +kernel
theorem dX7_part_1 : decode cX7_part 1 = .ok (.iload_n 1, 1) := by decide +kernel
theorem dX7_part_2 : decode cX7_part 2 = .ok (.invokevirtual 73, 3) := by decide +kernel
theorem dX7_part_5 : decode cX7_part 5 = .ok (.ifCond .eq 8, 3) := by decide +kernel
theorem dX7_part_8 : decode cX7_part 8 = .ok (.iload_n 2, 1) := by decide +kernel
theorem dX7_part_9 : decode cX7_part 9 = .ok (.iconst 1, 1) := by decide +kernel
theorem dX7_part_10 : decode cX7_part 10 = .ok (.if_icmp .ge 6, 3) := by decide +kernel
theorem dX7_part_13 : decode cX7_part 13 = .ok (.ldc 65, 2) := by decide +kernel
theorem dX7_part_15 : decode cX7_part 15 = .ok (.ireturn, 1) := by decide +kernel
theorem dX7_part_16 : decode cX7_part 16 = .ok (.aload_n 0, 1) := by decide +kernel
theorem dX7_part_17 : decode cX7_part 17 = .ok (.iload_n 1, 1) := by decide +kernel
theorem dX7_part_18 : decode cX7_part 18 = .ok (.invokevirtual 44, 3) := by decide +kernel
theorem dX7_part_21 : decode cX7_part 21 = .ok (.istore_n 3, 1) := by decide +kernel
theorem dX7_part_22 : decode cX7_part 22 = .ok (.aload_n 0, 1) := by decide +kernel
theorem dX7_part_23 : decode cX7_part 23 = .ok (.iload_n 3, 1) := by decide +kernel
theorem dX7_part_24 : decode cX7_part 24 = .ok (.iconst 1, 1) := by decide +kernel
theorem dX7_part_25 : decode cX7_part 25 = .ok (.invokevirtual 39, 3) := by decide +kernel
theorem dX7_part_28 : decode cX7_part 28 = .ok (.iload_n 2, 1) := by decide +kernel
theorem dX7_part_29 : decode cX7_part 29 = .ok (.if_icmp .gt 6, 3) := by decide +kernel
theorem dX7_part_32 : decode cX7_part 32 = .ok (.ldc 77, 2) := by decide +kernel
theorem dX7_part_34 : decode cX7_part 34 = .ok (.ireturn, 1) := by decide +kernel
theorem dX7_part_35 : decode cX7_part 35 = .ok (.aload_n 0, 1) := by decide +kernel
theorem dX7_part_36 : decode cX7_part 36 = .ok (.getfield 7, 3) := by decide +kernel
theorem dX7_part_39 : decode cX7_part 39 = .ok (.bipush 6, 2) := by decide +kernel
theorem dX7_part_41 : decode cX7_part 41 = .ok (.iaload, 1) := by decide +kernel
theorem dX7_part_42 : decode cX7_part 42 = .ok (.bipush 12, 2) := by decide +kernel
theorem dX7_part_44 : decode cX7_part 44 = .ok (.if_icmp .ne 6, 3) := by decide +kernel
theorem dX7_part_47 : decode cX7_part 47 = .ok (.ldc 66, 2) := by decide +kernel
theorem dX7_part_49 : decode cX7_part 49 = .ok (.ireturn, 1) := by decide +kernel
theorem dX7_part_50 : decode cX7_part 50 = .ok (.aload_n 0, 1) := by decide +kernel
theorem dX7_part_51 : decode cX7_part 51 = .ok (.invokevirtual 67, 3) := by decide +kernel
theorem dX7_part_54 : decode cX7_part 54 = .ok (.aload_n 0, 1) := by decide +kernel
theorem dX7_part_55 : decode cX7_part 55 = .ok (.iload_n 1, 1) := by decide +kernel
theorem dX7_part_56 : decode cX7_part 56 = .ok (.iload_n 2, 1) := by decide +kernel
theorem dX7_part_57 : decode cX7_part 57 = .ok (.invokevirtual 78, 3) := by decide +kernel
theorem dX7_part_60 : decode cX7_part 60 = .ok (.aload_n 0, 1) := by decide +kernel
theorem dX7_part_61 : decode cX7_part 61 = .ok (.iload_n 2, 1) := by decide +kernel
theorem dX7_part_62 : decode cX7_part 62 = .ok (.aload_n 0, 1) := by decide +kernel
theorem dX7_part_63 : decode cX7_part 63 = .ok (.iload_n 3, 1) := by decide +kernel
theorem dX7_part_64 : decode cX7_part 64 = .ok (.iconst 2, 1) := by decide +kernel
theorem dX7_part_65 : decode cX7_part 65 = .ok (.invokevirtual 39, 3) := by decide +kernel
theorem dX7_part_68 : decode cX7_part 68 = .ok (.aload_n 0, 1) := by decide +kernel
theorem dX7_part_69 : decode cX7_part 69 = .ok (.iload_n 3, 1) := by decide +kernel
theorem dX7_part_70 : decode cX7_part 70 = .ok (.iconst 3, 1) := by decide +kernel
theorem dX7_part_71 : decode cX7_part 71 = .ok (.invokevirtual 39, 3) := by decide +kernel
theorem dX7_part_74 : decode cX7_part 74 = .ok (.invokevirtual 70, 3) := by decide +kernel
theorem dX7_part_77 : decode cX7_part 77 = .ok (.ireturn, 1) := by decide +kernel
theorem dX7_blended_0 : decode cX7_blended 0 = .ok (.iload_n 0, 1) := by decide +kernel
theorem dX7_blended_1 : decode cX7_blended 1 = .ok (.iload_n 1, 1) := by decide +kernel
theorem dX7_blended_2 : decode cX7_blended 2 = .ok (.imul, 1) := by decide +kernel
theorem dX7_blended_3 : decode cX7_blended 3 = .ok (.iload_n 2, 1) := by decide +kernel
theorem dX7_blended_4 : decode cX7_blended 4 = .ok (.iload_n 3, 1) := by decide +kernel
theorem dX7_blended_5 : decode cX7_blended 5 = .ok (.imul, 1) := by decide +kernel
theorem dX7_blended_6 : decode cX7_blended 6 = .ok (.iadd, 1) := by decide +kernel
theorem dX7_blended_7 : decode cX7_blended 7 = .ok (.iload_n 0, 1) := by decide +kernel
theorem dX7_blended_8 : decode cX7_blended 8 = .ok (.iload_n 2, 1) := by decide +kernel
theorem dX7_blended_9 : decode cX7_blended 9 = .ok (.iadd, 1) := by decide +kernel
theorem dX7_blended_10 : decode cX7_blended 10 = .ok (.idiv, 1) := by decide +kernel
theorem dX7_blended_11 : decode cX7_blended 11 = .ok (.ireturn, 1) := by decide +kernel
set_option maxRecDepth 20000 in
theorem ggX7_blend_X7_isLot : GoodIn wsX7_blend wsX7_isLot := goodIn_r _ [9, 10, 11, 12, 8, 13, 3, 14, 15, 16, 17, 18, 45, 46, 47, 48, 49, 50, 51, 52, 53, 54, 55, 56, 57, 58, 59, 60, 61, 62] (by decide +kernel) (by decide +kernel)
set_option maxRecDepth 20000 in
theorem gX7_blend_X7_isLot : GoodIn wsX7_blend (wsV RX7 73 RX7 yX7_isLot wsX7_isLot) := goodIn_app (goodIn_of _ (by decide +kernel)) ggX7_blend_X7_isLot
set_option maxRecDepth 20000 in
theorem ggX7_blend_X7_placeOf : GoodIn wsX7_blend wsX7_placeOf := goodIn_r _ [13, 3, 14, 15, 16, 17, 8, 18, 45, 46, 47, 48, 49, 50, 51, 52, 53, 54, 55, 56, 57, 58, 59, 60, 61, 62] (by decide +kernel) (by decide +kernel)
set_option maxRecDepth 20000 in
theorem gX7_blend_X7_placeOf : GoodIn wsX7_blend (wsV RX7 44 RX7 yX7_placeOf wsX7_placeOf) := goodIn_app (goodIn_of _ (by decide +kernel)) ggX7_blend_X7_placeOf
set_option maxRecDepth 20000 in
theorem ggX7_blend_X7_of : GoodIn wsX7_blend wsX7_of := goodIn_r _ [18, 3, 45, 46, 47, 48, 49, 50, 51, 52, 53, 54, 55, 56, 57, 58, 59, 60, 61, 62] (by decide +kernel) (by decide +kernel)
set_option maxRecDepth 20000 in
theorem gX7_blend_X7_of : GoodIn wsX7_blend (wsV RX7 39 RX7 yX7_of wsX7_of) := goodIn_app (goodIn_of _ (by decide +kernel)) ggX7_blend_X7_of
set_option maxRecDepth 20000 in
theorem ggX7_blend_X7_changes : GoodIn wsX7_blend wsX7_changes := goodIn_r _ [22, 23, 24, 25, 3, 45, 46, 47, 48, 49, 50, 51, 52, 53, 54, 55, 56, 57, 58, 59, 60, 61, 62] (by decide +kernel) (by decide +kernel)
set_option maxRecDepth 20000 in
theorem gX7_blend_X7_changes : GoodIn wsX7_blend (wsV RX7 67 RX7 yX7_changes wsX7_changes) := goodIn_app (goodIn_of _ (by decide +kernel)) ggX7_blend_X7_changes
set_option maxRecDepth 20000 in
theorem ggX7_blend_X7_cupOf : GoodIn wsX7_blend wsX7_cupOf := goodIn_r _ [29, 3, 30, 31, 32, 8, 33, 15, 16, 17, 18, 45, 46, 47, 48, 49, 50, 51, 52, 53, 54, 55, 56, 57, 58, 59, 60, 61, 62] (by decide +kernel) (by decide +kernel)
set_option maxRecDepth 20000 in
theorem gX7_blend_X7_cupOf : GoodIn wsX7_blend (wsV RX7 82 RX7 yX7_cupOf wsX7_cupOf) := goodIn_app (goodIn_of _ (by decide +kernel)) ggX7_blend_X7_cupOf
set_option maxRecDepth 20000 in
theorem ggX7_blend_X7_blended : GoodIn wsX7_blend wsX7_blended := goodIn_r _ [36] (by decide +kernel) (by decide +kernel)
set_option maxRecDepth 20000 in
theorem gX7_blend_X7_blended : GoodIn wsX7_blend (va_wsS RX7 85 yX7_blended wsX7_blended) := goodIn_app (goodIn_of _ (by decide +kernel)) ggX7_blend_X7_blended
set_option maxRecDepth 20000 in
theorem ggX7_blend_X7_takes : GoodIn wsX7_blend wsX7_takes := goodIn_r _ [40, 3, 10, 11, 12, 8, 13, 14, 15, 16, 17, 18, 45, 46, 47, 48, 49, 50, 51, 52, 53, 54, 55, 56, 57, 58, 59, 60, 61, 62] (by decide +kernel) (by decide +kernel)
set_option maxRecDepth 20000 in
theorem gX7_blend_X7_takes : GoodIn wsX7_blend (wsV RX7 78 RX7 yX7_takes wsX7_takes) := goodIn_app (goodIn_of _ (by decide +kernel)) ggX7_blend_X7_takes
set_option maxRecDepth 20000 in
theorem ggX7_blend_X7_makes : GoodIn wsX7_blend wsX7_makes := goodIn_r _ [44, 3, 45, 46, 47, 48, 49, 50, 51, 52, 53, 54, 55, 56, 57, 58, 59, 60, 61, 62] (by decide +kernel) (by decide +kernel)
set_option maxRecDepth 20000 in
theorem gX7_blend_X7_makes : GoodIn wsX7_blend (wsV RX7 70 RX7 yX7_makes wsX7_makes) := goodIn_app (goodIn_of _ (by decide +kernel)) ggX7_blend_X7_makes
theorem dX7_blend_0 : decode cX7_blend 0 = .ok (.aload_n 0, 1) := by decide +kernel
theorem dX7_blend_1 : decode cX7_blend 1 = .ok (.iload_n 1, 1) := by decide +kernel
theorem dX7_blend_2 : decode cX7_blend 2 = .ok (.invokevirtual 73, 3) := by decide +kernel
theorem dX7_blend_5 : decode cX7_blend 5 = .ok (.ifCond .eq 27, 3) := by decide +kernel
theorem dX7_blend_8 : decode cX7_blend 8 = .ok (.aload_n 0, 1) := by decide +kernel
theorem dX7_blend_9 : decode cX7_blend 9 = .ok (.iload_n 3, 1) := by decide +kernel
theorem dX7_blend_10 : decode cX7_blend 10 = .ok (.invokevirtual 73, 3) := by decide +kernel
theorem dX7_blend_13 : decode cX7_blend 13 = .ok (.ifCond .eq 19, 3) := by decide +kernel
theorem dX7_blend_16 : decode cX7_blend 16 = .ok (.iload_n 1, 1) := by decide +kernel
theorem dX7_blend_17 : decode cX7_blend 17 = .ok (.iload_n 3, 1) := by decide +kernel
theorem dX7_blend_18 : decode cX7_blend 18 = .ok (.if_icmp .eq 14, 3) := by decide +kernel
theorem dX7_blend_21 : decode cX7_blend 21 = .ok (.iload_n 2, 1) := by decide +kernel
theorem dX7_blend_22 : decode cX7_blend 22 = .ok (.iconst 1, 1) := by decide +kernel
theorem dX7_blend_23 : decode cX7_blend 23 = .ok (.if_icmp .lt 9, 3) := by decide +kernel
theorem dX7_blend_26 : decode cX7_blend 26 = .ok (.iload 4, 2) := by decide +kernel
theorem dX7_blend_28 : decode cX7_blend 28 = .ok (.iconst 1, 1) := by decide +kernel
theorem dX7_blend_29 : decode cX7_blend 29 = .ok (.if_icmp .ge 6, 3) := by decide +kernel
theorem dX7_blend_32 : decode cX7_blend 32 = .ok (.ldc 65, 2) := by decide +kernel
theorem dX7_blend_34 : decode cX7_blend 34 = .ok (.ireturn, 1) := by decide +kernel
theorem dX7_blend_35 : decode cX7_blend 35 = .ok (.aload_n 0, 1) := by decide +kernel
theorem dX7_blend_36 : decode cX7_blend 36 = .ok (.iload_n 1, 1) := by decide +kernel
theorem dX7_blend_37 : decode cX7_blend 37 = .ok (.invokevirtual 44, 3) := by decide +kernel
theorem dX7_blend_40 : decode cX7_blend 40 = .ok (.istore 5, 2) := by decide +kernel
theorem dX7_blend_42 : decode cX7_blend 42 = .ok (.aload_n 0, 1) := by decide +kernel
theorem dX7_blend_43 : decode cX7_blend 43 = .ok (.iload_n 3, 1) := by decide +kernel
theorem dX7_blend_44 : decode cX7_blend 44 = .ok (.invokevirtual 44, 3) := by decide +kernel
theorem dX7_blend_47 : decode cX7_blend 47 = .ok (.istore 6, 2) := by decide +kernel
theorem dX7_blend_49 : decode cX7_blend 49 = .ok (.iload_n 2, 1) := by decide +kernel
theorem dX7_blend_50 : decode cX7_blend 50 = .ok (.aload_n 0, 1) := by decide +kernel
theorem dX7_blend_51 : decode cX7_blend 51 = .ok (.iload 5, 2) := by decide +kernel
theorem dX7_blend_53 : decode cX7_blend 53 = .ok (.iconst 1, 1) := by decide +kernel
theorem dX7_blend_54 : decode cX7_blend 54 = .ok (.invokevirtual 39, 3) := by decide +kernel
theorem dX7_blend_57 : decode cX7_blend 57 = .ok (.if_icmp .gt 15, 3) := by decide +kernel
theorem dX7_blend_60 : decode cX7_blend 60 = .ok (.iload 4, 2) := by decide +kernel
theorem dX7_blend_62 : decode cX7_blend 62 = .ok (.aload_n 0, 1) := by decide +kernel
theorem dX7_blend_63 : decode cX7_blend 63 = .ok (.iload 6, 2) := by decide +kernel
theorem dX7_blend_65 : decode cX7_blend 65 = .ok (.iconst 1, 1) := by decide +kernel
theorem dX7_blend_66 : decode cX7_blend 66 = .ok (.invokevirtual 39, 3) := by decide +kernel
theorem dX7_blend_69 : decode cX7_blend 69 = .ok (.if_icmp .le 6, 3) := by decide +kernel
theorem dX7_blend_72 : decode cX7_blend 72 = .ok (.ldc 77, 2) := by decide +kernel
theorem dX7_blend_74 : decode cX7_blend 74 = .ok (.ireturn, 1) := by decide +kernel
theorem dX7_blend_75 : decode cX7_blend 75 = .ok (.aload_n 0, 1) := by decide +kernel
theorem dX7_blend_76 : decode cX7_blend 76 = .ok (.getfield 7, 3) := by decide +kernel
theorem dX7_blend_79 : decode cX7_blend 79 = .ok (.bipush 6, 2) := by decide +kernel
theorem dX7_blend_81 : decode cX7_blend 81 = .ok (.iaload, 1) := by decide +kernel
theorem dX7_blend_82 : decode cX7_blend 82 = .ok (.iconst 1, 1) := by decide +kernel
theorem dX7_blend_83 : decode cX7_blend 83 = .ok (.iadd, 1) := by decide +kernel
theorem dX7_blend_84 : decode cX7_blend 84 = .ok (.iload_n 2, 1) := by decide +kernel
theorem dX7_blend_85 : decode cX7_blend 85 = .ok (.aload_n 0, 1) := by decide +kernel
theorem dX7_blend_86 : decode cX7_blend 86 = .ok (.iload 5, 2) := by decide +kernel
theorem dX7_blend_88 : decode cX7_blend 88 = .ok (.iconst 1, 1) := by decide +kernel
theorem dX7_blend_89 : decode cX7_blend 89 = .ok (.invokevirtual 39, 3) := by decide +kernel
theorem dX7_blend_92 : decode cX7_blend 92 = .ok (.if_icmp .ne 7, 3) := by decide +kernel
theorem dX7_blend_95 : decode cX7_blend 95 = .ok (.iconst 1, 1) := by decide +kernel
theorem dX7_blend_96 : decode cX7_blend 96 = .ok (.goto 4, 3) := by decide +kernel
theorem dX7_blend_99 : decode cX7_blend 99 = .ok (.iconst 0, 1) := by decide +kernel
theorem dX7_blend_100 : decode cX7_blend 100 = .ok (.isub, 1) := by decide +kernel
theorem dX7_blend_101 : decode cX7_blend 101 = .ok (.iload 4, 2) := by decide +kernel
theorem dX7_blend_103 : decode cX7_blend 103 = .ok (.aload_n 0, 1) := by decide +kernel
theorem dX7_blend_104 : decode cX7_blend 104 = .ok (.iload 6, 2) := by decide +kernel
theorem dX7_blend_106 : decode cX7_blend 106 = .ok (.iconst 1, 1) := by decide +kernel
theorem dX7_blend_107 : decode cX7_blend 107 = .ok (.invokevirtual 39, 3) := by decide +kernel
theorem dX7_blend_110 : decode cX7_blend 110 = .ok (.if_icmp .ne 7, 3) := by decide +kernel
theorem dX7_blend_113 : decode cX7_blend 113 = .ok (.iconst 1, 1) := by decide +kernel
theorem dX7_blend_114 : decode cX7_blend 114 = .ok (.goto 4, 3) := by decide +kernel
theorem dX7_blend_117 : decode cX7_blend 117 = .ok (.iconst 0, 1) := by decide +kernel
theorem dX7_blend_118 : decode cX7_blend 118 = .ok (.isub, 1) := by decide +kernel
theorem dX7_blend_119 : decode cX7_blend 119 = .ok (.istore 7, 2) := by decide +kernel
theorem dX7_blend_121 : decode cX7_blend 121 = .ok (.iload 7, 2) := by decide +kernel
theorem dX7_blend_123 : decode cX7_blend 123 = .ok (.bipush 12, 2) := by decide +kernel
theorem dX7_blend_125 : decode cX7_blend 125 = .ok (.if_icmp .gt 13, 3) := by decide +kernel
theorem dX7_blend_128 : decode cX7_blend 128 = .ok (.iload_n 2, 1) := by decide +kernel
theorem dX7_blend_129 : decode cX7_blend 129 = .ok (.iload 4, 2) := by decide +kernel
theorem dX7_blend_131 : decode cX7_blend 131 = .ok (.iadd, 1) := by decide +kernel
theorem dX7_blend_132 : decode cX7_blend 132 = .ok (.sipush 9999, 3) := by decide +kernel
theorem dX7_blend_135 : decode cX7_blend 135 = .ok (.if_icmp .le 6, 3) := by decide +kernel
theorem dX7_blend_138 : decode cX7_blend 138 = .ok (.ldc 66, 2) := by decide +kernel
theorem dX7_blend_140 : decode cX7_blend 140 = .ok (.ireturn, 1) := by decide +kernel
theorem dX7_blend_141 : decode cX7_blend 141 = .ok (.aload_n 0, 1) := by decide +kernel
theorem dX7_blend_142 : decode cX7_blend 142 = .ok (.invokevirtual 67, 3) := by decide +kernel
theorem dX7_blend_145 : decode cX7_blend 145 = .ok (.iload_n 2, 1) := by decide +kernel
theorem dX7_blend_146 : decode cX7_blend 146 = .ok (.aload_n 0, 1) := by decide +kernel
theorem dX7_blend_147 : decode cX7_blend 147 = .ok (.iload 5, 2) := by decide +kernel
theorem dX7_blend_149 : decode cX7_blend 149 = .ok (.invokevirtual 82, 3) := by decide +kernel
theorem dX7_blend_152 : decode cX7_blend 152 = .ok (.iload 4, 2) := by decide +kernel
theorem dX7_blend_154 : decode cX7_blend 154 = .ok (.aload_n 0, 1) := by decide +kernel
theorem dX7_blend_155 : decode cX7_blend 155 = .ok (.iload 6, 2) := by decide +kernel
theorem dX7_blend_157 : decode cX7_blend 157 = .ok (.invokevirtual 82, 3) := by decide +kernel
theorem dX7_blend_160 : decode cX7_blend 160 = .ok (.invokestatic 85, 3) := by decide +kernel
theorem dX7_blend_163 : decode cX7_blend 163 = .ok (.istore 8, 2) := by decide +kernel
theorem dX7_blend_165 : decode cX7_blend 165 = .ok (.aload_n 0, 1) := by decide +kernel
theorem dX7_blend_166 : decode cX7_blend 166 = .ok (.iload_n 1, 1) := by decide +kernel
theorem dX7_blend_167 : decode cX7_blend 167 = .ok (.iload_n 2, 1) := by decide +kernel
theorem dX7_blend_168 : decode cX7_blend 168 = .ok (.invokevirtual 78, 3) := by decide +kernel
theorem dX7_blend_171 : decode cX7_blend 171 = .ok (.aload_n 0, 1) := by decide +kernel
theorem dX7_blend_172 : decode cX7_blend 172 = .ok (.iload_n 3, 1) := by decide +kernel
theorem dX7_blend_173 : decode cX7_blend 173 = .ok (.iload 4, 2) := by decide +kernel
theorem dX7_blend_175 : decode cX7_blend 175 = .ok (.invokevirtual 78, 3) := by decide +kernel
theorem dX7_blend_178 : decode cX7_blend 178 = .ok (.aload_n 0, 1) := by decide +kernel
theorem dX7_blend_179 : decode cX7_blend 179 = .ok (.iload_n 2, 1) := by decide +kernel
theorem dX7_blend_180 : decode cX7_blend 180 = .ok (.iload 4, 2) := by decide +kernel
theorem dX7_blend_182 : decode cX7_blend 182 = .ok (.iadd, 1) := by decide +kernel
theorem dX7_blend_183 : decode cX7_blend 183 = .ok (.iload 8, 2) := by decide +kernel
theorem dX7_blend_185 : decode cX7_blend 185 = .ok (.aload_n 0, 1) := by decide +kernel
theorem dX7_blend_186 : decode cX7_blend 186 = .ok (.getfield 7, 3) := by decide +kernel
theorem dX7_blend_189 : decode cX7_blend 189 = .ok (.iconst 0, 1) := by decide +kernel
theorem dX7_blend_190 : decode cX7_blend 190 = .ok (.iaload, 1) := by decide +kernel
theorem dX7_blend_191 : decode cX7_blend 191 = .ok (.invokevirtual 70, 3) := by decide +kernel
theorem dX7_blend_194 : decode cX7_blend 194 = .ok (.ireturn, 1) := by decide +kernel
set_option maxRecDepth 20000 in
theorem ggX7_cup_X7_isLot : GoodIn wsX7_cup wsX7_isLot := goodIn_r _ [8, 9, 10, 11, 7, 12, 3, 13, 14, 15, 16, 17, 33, 34, 35, 36, 37, 38, 39, 40, 41, 42, 43, 44, 45, 46, 47, 48, 49, 50] (by decide +kernel) (by decide +kernel)
set_option maxRecDepth 20000 in
theorem gX7_cup_X7_isLot : GoodIn wsX7_cup (wsV RX7 73 RX7 yX7_isLot wsX7_isLot) := goodIn_app (goodIn_of _ (by decide +kernel)) ggX7_cup_X7_isLot
set_option maxRecDepth 20000 in
theorem ggX7_cup_X7_placeOf : GoodIn wsX7_cup wsX7_placeOf := goodIn_r _ [12, 3, 13, 14, 15, 16, 7, 17, 33, 34, 35, 36, 37, 38, 39, 40, 41, 42, 43, 44, 45, 46, 47, 48, 49, 50] (by decide +kernel) (by decide +kernel)
set_option maxRecDepth 20000 in
theorem gX7_cup_X7_placeOf : GoodIn wsX7_cup (wsV RX7 44 RX7 yX7_placeOf wsX7_placeOf) := goodIn_app (goodIn_of _ (by decide +kernel)) ggX7_cup_X7_placeOf
set_option maxRecDepth 20000 in
theorem ggX7_cup_X7_of : GoodIn wsX7_cup wsX7_of := goodIn_r _ [17, 3, 33, 34, 35, 36, 37, 38, 39, 40, 41, 42, 43, 44, 45, 46, 47, 48, 49, 50] (by decide +kernel) (by decide +kernel)
set_option maxRecDepth 20000 in
theorem gX7_cup_X7_of : GoodIn wsX7_cup (wsV RX7 39 RX7 yX7_of wsX7_of) := goodIn_app (goodIn_of _ (by decide +kernel)) ggX7_cup_X7_of
set_option maxRecDepth 20000 in
theorem ggX7_cup_X7_changes : GoodIn wsX7_cup wsX7_changes := goodIn_r _ [21, 22, 23, 24, 3, 33, 34, 35, 36, 37, 38, 39, 40, 41, 42, 43, 44, 45, 46, 47, 48, 49, 50] (by decide +kernel) (by decide +kernel)
set_option maxRecDepth 20000 in
theorem gX7_cup_X7_changes : GoodIn wsX7_cup (wsV RX7 67 RX7 yX7_changes wsX7_changes) := goodIn_app (goodIn_of _ (by decide +kernel)) ggX7_cup_X7_changes
set_option maxRecDepth 20000 in
theorem ggX7_cup_X7_cupOf : GoodIn wsX7_cup wsX7_cupOf := goodIn_r _ [28, 3, 29, 30, 31, 7, 32, 14, 15, 16, 17, 33, 34, 35, 36, 37, 38, 39, 40, 41, 42, 43, 44, 45, 46, 47, 48, 49, 50] (by decide +kernel) (by decide +kernel)
set_option maxRecDepth 20000 in
theorem gX7_cup_X7_cupOf : GoodIn wsX7_cup (wsV RX7 82 RX7 yX7_cupOf wsX7_cupOf) := goodIn_app (goodIn_of _ (by decide +kernel)) ggX7_cup_X7_cupOf
theorem dX7_cup_0 : decode cX7_cup 0 = .ok (.aload_n 0, 1) := by decide +kernel
theorem dX7_cup_1 : decode cX7_cup 1 = .ok (.iload_n 1, 1) := by decide +kernel
theorem dX7_cup_2 : decode cX7_cup 2 = .ok (.invokevirtual 73, 3) := by decide +kernel
theorem dX7_cup_5 : decode cX7_cup 5 = .ok (.ifCond .ne 6, 3) := by decide +kernel
theorem dX7_cup_8 : decode cX7_cup 8 = .ok (.ldc 65, 2) := by decide +kernel
theorem dX7_cup_10 : decode cX7_cup 10 = .ok (.ireturn, 1) := by decide +kernel
theorem dX7_cup_11 : decode cX7_cup 11 = .ok (.aload_n 0, 1) := by decide +kernel
theorem dX7_cup_12 : decode cX7_cup 12 = .ok (.iload_n 1, 1) := by decide +kernel
theorem dX7_cup_13 : decode cX7_cup 13 = .ok (.invokevirtual 44, 3) := by decide +kernel
theorem dX7_cup_16 : decode cX7_cup 16 = .ok (.istore_n 2, 1) := by decide +kernel
theorem dX7_cup_17 : decode cX7_cup 17 = .ok (.aload_n 0, 1) := by decide +kernel
theorem dX7_cup_18 : decode cX7_cup 18 = .ok (.iload_n 2, 1) := by decide +kernel
theorem dX7_cup_19 : decode cX7_cup 19 = .ok (.iconst 1, 1) := by decide +kernel
theorem dX7_cup_20 : decode cX7_cup 20 = .ok (.invokevirtual 39, 3) := by decide +kernel
theorem dX7_cup_23 : decode cX7_cup 23 = .ok (.iconst 1, 1) := by decide +kernel
theorem dX7_cup_24 : decode cX7_cup 24 = .ok (.if_icmp .ne 6, 3) := by decide +kernel
theorem dX7_cup_27 : decode cX7_cup 27 = .ok (.ldc 77, 2) := by decide +kernel
theorem dX7_cup_29 : decode cX7_cup 29 = .ok (.ireturn, 1) := by decide +kernel
theorem dX7_cup_30 : decode cX7_cup 30 = .ok (.aload_n 0, 1) := by decide +kernel
theorem dX7_cup_31 : decode cX7_cup 31 = .ok (.invokevirtual 67, 3) := by decide +kernel
theorem dX7_cup_34 : decode cX7_cup 34 = .ok (.aload_n 0, 1) := by decide +kernel
theorem dX7_cup_35 : decode cX7_cup 35 = .ok (.iload_n 2, 1) := by decide +kernel
theorem dX7_cup_36 : decode cX7_cup 36 = .ok (.invokevirtual 82, 3) := by decide +kernel
theorem dX7_cup_39 : decode cX7_cup 39 = .ok (.istore_n 3, 1) := by decide +kernel
theorem dX7_cup_40 : decode cX7_cup 40 = .ok (.aload_n 0, 1) := by decide +kernel
theorem dX7_cup_41 : decode cX7_cup 41 = .ok (.getfield 7, 3) := by decide +kernel
theorem dX7_cup_44 : decode cX7_cup 44 = .ok (.bipush 17, 2) := by decide +kernel
theorem dX7_cup_46 : decode cX7_cup 46 = .ok (.iconst 4, 1) := by decide +kernel
theorem dX7_cup_47 : decode cX7_cup 47 = .ok (.iload_n 2, 1) := by decide +kernel
theorem dX7_cup_48 : decode cX7_cup 48 = .ok (.imul, 1) := by decide +kernel
theorem dX7_cup_49 : decode cX7_cup 49 = .ok (.iadd, 1) := by decide +kernel
theorem dX7_cup_50 : decode cX7_cup 50 = .ok (.iconst 1, 1) := by decide +kernel
theorem dX7_cup_51 : decode cX7_cup 51 = .ok (.iadd, 1) := by decide +kernel
theorem dX7_cup_52 : decode cX7_cup 52 = .ok (.dup2, 1) := by decide +kernel
theorem dX7_cup_53 : decode cX7_cup 53 = .ok (.iaload, 1) := by decide +kernel
theorem dX7_cup_54 : decode cX7_cup 54 = .ok (.iconst 1, 1) := by decide +kernel
theorem dX7_cup_55 : decode cX7_cup 55 = .ok (.isub, 1) := by decide +kernel
theorem dX7_cup_56 : decode cX7_cup 56 = .ok (.iastore, 1) := by decide +kernel
theorem dX7_cup_57 : decode cX7_cup 57 = .ok (.aload_n 0, 1) := by decide +kernel
theorem dX7_cup_58 : decode cX7_cup 58 = .ok (.getfield 7, 3) := by decide +kernel
theorem dX7_cup_61 : decode cX7_cup 61 = .ok (.bipush 17, 2) := by decide +kernel
theorem dX7_cup_63 : decode cX7_cup 63 = .ok (.iconst 4, 1) := by decide +kernel
theorem dX7_cup_64 : decode cX7_cup 64 = .ok (.iload_n 2, 1) := by decide +kernel
theorem dX7_cup_65 : decode cX7_cup 65 = .ok (.imul, 1) := by decide +kernel
theorem dX7_cup_66 : decode cX7_cup 66 = .ok (.iadd, 1) := by decide +kernel
theorem dX7_cup_67 : decode cX7_cup 67 = .ok (.iconst 2, 1) := by decide +kernel
theorem dX7_cup_68 : decode cX7_cup 68 = .ok (.iadd, 1) := by decide +kernel
theorem dX7_cup_69 : decode cX7_cup 69 = .ok (.iload_n 3, 1) := by decide +kernel
theorem dX7_cup_70 : decode cX7_cup 70 = .ok (.iastore, 1) := by decide +kernel
theorem dX7_cup_71 : decode cX7_cup 71 = .ok (.aload_n 0, 1) := by decide +kernel
theorem dX7_cup_72 : decode cX7_cup 72 = .ok (.getfield 7, 3) := by decide +kernel
theorem dX7_cup_75 : decode cX7_cup 75 = .ok (.bipush 17, 2) := by decide +kernel
theorem dX7_cup_77 : decode cX7_cup 77 = .ok (.iconst 4, 1) := by decide +kernel
theorem dX7_cup_78 : decode cX7_cup 78 = .ok (.iload_n 2, 1) := by decide +kernel
theorem dX7_cup_79 : decode cX7_cup 79 = .ok (.imul, 1) := by decide +kernel
theorem dX7_cup_80 : decode cX7_cup 80 = .ok (.iadd, 1) := by decide +kernel
theorem dX7_cup_81 : decode cX7_cup 81 = .ok (.iconst 3, 1) := by decide +kernel
theorem dX7_cup_82 : decode cX7_cup 82 = .ok (.iadd, 1) := by decide +kernel
theorem dX7_cup_83 : decode cX7_cup 83 = .ok (.aload_n 0, 1) := by decide +kernel
theorem dX7_cup_84 : decode cX7_cup 84 = .ok (.getfield 7, 3) := by decide +kernel
theorem dX7_cup_87 : decode cX7_cup 87 = .ok (.iconst 0, 1) := by decide +kernel
theorem dX7_cup_88 : decode cX7_cup 88 = .ok (.iaload, 1) := by decide +kernel
theorem dX7_cup_89 : decode cX7_cup 89 = .ok (.iastore, 1) := by decide +kernel
theorem dX7_cup_90 : decode cX7_cup 90 = .ok (.iload_n 3, 1) := by decide +kernel
theorem dX7_cup_91 : decode cX7_cup 91 = .ok (.ireturn, 1) := by decide +kernel
set_option maxRecDepth 20000 in
theorem ggX7_worth_X7_in : GoodIn wsX7_worth wsX7_in := goodIn_r _ [6] (by decide +kernel) (by decide +kernel)
set_option maxRecDepth 20000 in
theorem gX7_worth_X7_in : GoodIn wsX7_worth (va_wsS RX7 61 yX7_in wsX7_in) := goodIn_app (goodIn_of _ (by decide +kernel)) ggX7_worth_X7_in
set_option maxRecDepth 20000 in
theorem ggX7_worth_X7_changes : GoodIn wsX7_worth wsX7_changes := goodIn_r _ [10, 11, 12, 13, 2, 14, 15, 16, 17, 18, 19, 20, 21, 22, 23, 24, 25, 26, 27, 28, 29, 30, 31] (by decide +kernel) (by decide +kernel)
set_option maxRecDepth 20000 in
theorem gX7_worth_X7_changes : GoodIn wsX7_worth (wsV RX7 67 RX7 yX7_changes wsX7_changes) := goodIn_app (goodIn_of _ (by decide +kernel)) ggX7_worth_X7_changes
theorem dX7_worth_0 : decode cX7_worth 0 = .ok (.iload_n 1, 1) := by decide +kernel
theorem dX7_worth_1 : decode cX7_worth 1 = .ok (.iconst 0, 1) := by decide +kernel
theorem dX7_worth_2 : decode cX7_worth 2 = .ok (.iconst 3, 1) := by decide +kernel
theorem dX7_worth_3 : decode cX7_worth 3 = .ok (.invokestatic 61, 3) := by decide +kernel
theorem dX7_worth_6 : decode cX7_worth 6 = .ok (.ifCond .eq 14, 3) := by decide +kernel
theorem dX7_worth_9 : decode cX7_worth 9 = .ok (.iload_n 2, 1) := by decide +kernel
theorem dX7_worth_10 : decode cX7_worth 10 = .ok (.iconst 1, 1) := by decide +kernel
theorem dX7_worth_11 : decode cX7_worth 11 = .ok (.sipush 999, 3) := by decide +kernel
theorem dX7_worth_14 : decode cX7_worth 14 = .ok (.invokestatic 61, 3) := by decide +kernel
theorem dX7_worth_17 : decode cX7_worth 17 = .ok (.ifCond .ne 6, 3) := by decide +kernel
theorem dX7_worth_20 : decode cX7_worth 20 = .ok (.ldc 65, 2) := by decide +kernel
theorem dX7_worth_22 : decode cX7_worth 22 = .ok (.ireturn, 1) := by decide +kernel
theorem dX7_worth_23 : decode cX7_worth 23 = .ok (.aload_n 0, 1) := by decide +kernel
theorem dX7_worth_24 : decode cX7_worth 24 = .ok (.invokevirtual 67, 3) := by decide +kernel
theorem dX7_worth_27 : decode cX7_worth 27 = .ok (.aload_n 0, 1) := by decide +kernel
theorem dX7_worth_28 : decode cX7_worth 28 = .ok (.getfield 7, 3) := by decide +kernel
theorem dX7_worth_31 : decode cX7_worth 31 = .ok (.bipush 13, 2) := by decide +kernel
theorem dX7_worth_33 : decode cX7_worth 33 = .ok (.iload_n 1, 1) := by decide +kernel
theorem dX7_worth_34 : decode cX7_worth 34 = .ok (.iadd, 1) := by decide +kernel
theorem dX7_worth_35 : decode cX7_worth 35 = .ok (.iaload, 1) := by decide +kernel
theorem dX7_worth_36 : decode cX7_worth 36 = .ok (.istore_n 3, 1) := by decide +kernel
theorem dX7_worth_37 : decode cX7_worth 37 = .ok (.aload_n 0, 1) := by decide +kernel
theorem dX7_worth_38 : decode cX7_worth 38 = .ok (.getfield 7, 3) := by decide +kernel
theorem dX7_worth_41 : decode cX7_worth 41 = .ok (.bipush 13, 2) := by decide +kernel
theorem dX7_worth_43 : decode cX7_worth 43 = .ok (.iload_n 1, 1) := by decide +kernel
theorem dX7_worth_44 : decode cX7_worth 44 = .ok (.iadd, 1) := by decide +kernel
theorem dX7_worth_45 : decode cX7_worth 45 = .ok (.iload_n 2, 1) := by decide +kernel
theorem dX7_worth_46 : decode cX7_worth 46 = .ok (.iastore, 1) := by decide +kernel
theorem dX7_worth_47 : decode cX7_worth 47 = .ok (.iload_n 3, 1) := by decide +kernel
theorem dX7_worth_48 : decode cX7_worth 48 = .ok (.ireturn, 1) := by decide +kernel
theorem dX7_isContract_0 : decode cX7_isContract 0 = .ok (.iload_n 1, 1) := by decide +kernel
theorem dX7_isContract_1 : decode cX7_isContract 1 = .ok (.ifCond .lt 18, 3) := by decide +kernel
theorem dX7_isContract_4 : decode cX7_isContract 4 = .ok (.iload_n 1, 1) := by decide +kernel
theorem dX7_isContract_5 : decode cX7_isContract 5 = .ok (.aload_n 0, 1) := by decide +kernel
theorem dX7_isContract_6 : decode cX7_isContract 6 = .ok (.getfield 7, 3) := by decide +kernel
theorem dX7_isContract_9 : decode cX7_isContract 9 = .ok (.bipush 7, 2) := by decide +kernel
theorem dX7_isContract_11 : decode cX7_isContract 11 = .ok (.iaload, 1) := by decide +kernel
theorem dX7_isContract_12 : decode cX7_isContract 12 = .ok (.if_icmp .ge 7, 3) := by decide +kernel
theorem dX7_isContract_15 : decode cX7_isContract 15 = .ok (.iconst 1, 1) := by decide +kernel
theorem dX7_isContract_16 : decode cX7_isContract 16 = .ok (.goto 4, 3) := by decide +kernel
theorem dX7_isContract_19 : decode cX7_isContract 19 = .ok (.iconst 0, 1) := by decide +kernel
theorem dX7_isContract_20 : decode cX7_isContract 20 = .ok (.ireturn, 1) := by decide +kernel
theorem dX7_monthOf_0 : decode cX7_monthOf 0 = .ok (.aload_n 0, 1) := by decide +kernel
theorem dX7_monthOf_1 : decode cX7_monthOf 1 = .ok (.getfield 7, 3) := by decide +kernel
theorem dX7_monthOf_4 : decode cX7_monthOf 4 = .ok (.bipush 69, 2) := by decide +kernel
theorem dX7_monthOf_6 : decode cX7_monthOf 6 = .ok (.iconst 2, 1) := by decide +kernel
theorem dX7_monthOf_7 : decode cX7_monthOf 7 = .ok (.iload_n 1, 1) := by decide +kernel
theorem dX7_monthOf_8 : decode cX7_monthOf 8 = .ok (.imul, 1) := by decide +kernel
theorem dX7_monthOf_9 : decode cX7_monthOf 9 = .ok (.iadd, 1) := by decide +kernel
theorem dX7_monthOf_10 : decode cX7_monthOf 10 = .ok (.iaload, 1) := by decide +kernel
theorem dX7_monthOf_11 : decode cX7_monthOf 11 = .ok (.ireturn, 1) := by decide +kernel
theorem dX7_priceOf_0 : decode cX7_priceOf 0 = .ok (.aload_n 0, 1) := by decide +kernel
theorem dX7_priceOf_1 : decode cX7_priceOf 1 = .ok (.getfield 7, 3) := by decide +kernel
theorem dX7_priceOf_4 : decode cX7_priceOf 4 = .ok (.bipush 69, 2) := by decide +kernel
theorem dX7_priceOf_6 : decode cX7_priceOf 6 = .ok (.iconst 2, 1) := by decide +kernel
theorem dX7_priceOf_7 : decode cX7_priceOf 7 = .ok (.iload_n 1, 1) := by decide +kernel
theorem dX7_priceOf_8 : decode cX7_priceOf 8 = .ok (.imul, 1) := by decide +kernel
theorem dX7_priceOf_9 : decode cX7_priceOf 9 = .ok (.iadd, 1) := by decide +kernel
theorem dX7_priceOf_10 : decode cX7_priceOf 10 = .ok (.iconst 1, 1) := by decide +kernel
theorem dX7_priceOf_11 : decode cX7_priceOf 11 = .ok (.iadd, 1) := by decide +kernel
theorem dX7_priceOf_12 : decode cX7_priceOf 12 = .ok (.iaload, 1) := by decide +kernel
theorem dX7_priceOf_13 : decode cX7_priceOf 13 = .ok (.ireturn, 1) := by decide +kernel
theorem dX7_isDelivery_0 : decode cX7_isDelivery 0 = .ok (.aload_n 0, 1) := by decide +kernel
theorem dX7_isDelivery_1 : decode cX7_isDelivery 1 = .ok (.getfield 7, 3) := by decide +kernel
theorem dX7_isDelivery_4 : decode cX7_isDelivery 4 = .ok (.bipush 9, 2) := by decide +kernel
theorem dX7_isDelivery_6 : decode cX7_isDelivery 6 = .ok (.iaload, 1) := by decide +kernel
theorem dX7_isDelivery_7 : decode cX7_isDelivery 7 = .ok (.iload_n 1, 1) := by decide +kernel
theorem dX7_isDelivery_8 : decode cX7_isDelivery 8 = .ok (.bipush 12, 2) := by decide +kernel
theorem dX7_isDelivery_10 : decode cX7_isDelivery 10 = .ok (.irem, 1) := by decide +kernel
theorem dX7_isDelivery_11 : decode cX7_isDelivery 11 = .ok (.ishr, 1) := by decide +kernel
theorem dX7_isDelivery_12 : decode cX7_isDelivery 12 = .ok (.iconst 1, 1) := by decide +kernel
theorem dX7_isDelivery_13 : decode cX7_isDelivery 13 = .ok (.iand, 1) := by decide +kernel
theorem dX7_isDelivery_14 : decode cX7_isDelivery 14 = .ok (.iconst 1, 1) := by decide +kernel
theorem dX7_isDelivery_15 : decode cX7_isDelivery 15 = .ok (.if_icmp .ne 7, 3) := by decide +kernel
theorem dX7_isDelivery_18 : decode cX7_isDelivery 18 = .ok (.iconst 1, 1) := by decide +kernel
theorem dX7_isDelivery_19 : decode cX7_isDelivery 19 = .ok (.goto 4, 3) := by decide +kernel
theorem dX7_isDelivery_22 : decode cX7_isDelivery 22 = .ok (.iconst 0, 1) := by decide +kernel
theorem dX7_isDelivery_23 : decode cX7_isDelivery 23 = .ok (.ireturn, 1) := by decide +kernel
theorem dX7_closes_0 : decode cX7_closes 0 = .ok (.aload_n 0, 1) := by decide +kernel
theorem dX7_closes_1 : decode cX7_closes 1 = .ok (.getfield 7, 3) := by decide +kernel
theorem dX7_closes_4 : decode cX7_closes 4 = .ok (.bipush 7, 2) := by decide +kernel
theorem dX7_closes_6 : decode cX7_closes 6 = .ok (.dup2, 1) := by decide +kernel
theorem dX7_closes_7 : decode cX7_closes 7 = .ok (.iaload, 1) := by decide +kernel
theorem dX7_closes_8 : decode cX7_closes 8 = .ok (.iconst 1, 1) := by decide +kernel
theorem dX7_closes_9 : decode cX7_closes 9 = .ok (.isub, 1) := by decide +kernel
theorem dX7_closes_10 : decode cX7_closes 10 = .ok (.iastore, 1) := by decide +kernel
theorem dX7_closes_11 : decode cX7_closes 11 = .ok (.bipush 69, 2) := by decide +kernel
theorem dX7_closes_13 : decode cX7_closes 13 = .ok (.iconst 2, 1) := by decide +kernel
theorem dX7_closes_14 : decode cX7_closes 14 = .ok (.iload_n 1, 1) := by decide +kernel
theorem dX7_closes_15 : decode cX7_closes 15 = .ok (.imul, 1) := by decide +kernel
theorem dX7_closes_16 : decode cX7_closes 16 = .ok (.iadd, 1) := by decide +kernel
theorem dX7_closes_17 : decode cX7_closes 17 = .ok (.istore_n 2, 1) := by decide +kernel
theorem dX7_closes_18 : decode cX7_closes 18 = .ok (.iload_n 2, 1) := by decide +kernel
theorem dX7_closes_19 : decode cX7_closes 19 = .ok (.bipush 69, 2) := by decide +kernel
theorem dX7_closes_21 : decode cX7_closes 21 = .ok (.iconst 2, 1) := by decide +kernel
theorem dX7_closes_22 : decode cX7_closes 22 = .ok (.aload_n 0, 1) := by decide +kernel
theorem dX7_closes_23 : decode cX7_closes 23 = .ok (.getfield 7, 3) := by decide +kernel
theorem dX7_closes_26 : decode cX7_closes 26 = .ok (.bipush 7, 2) := by decide +kernel
theorem dX7_closes_28 : decode cX7_closes 28 = .ok (.iaload, 1) := by decide +kernel
theorem dX7_closes_29 : decode cX7_closes 29 = .ok (.imul, 1) := by decide +kernel
theorem dX7_closes_30 : decode cX7_closes 30 = .ok (.iadd, 1) := by decide +kernel
theorem dX7_closes_31 : decode cX7_closes 31 = .ok (.if_icmp .ge 23, 3) := by decide +kernel
theorem dX7_closes_34 : decode cX7_closes 34 = .ok (.aload_n 0, 1) := by decide +kernel
theorem dX7_closes_35 : decode cX7_closes 35 = .ok (.getfield 7, 3) := by decide +kernel
theorem dX7_closes_38 : decode cX7_closes 38 = .ok (.iload_n 2, 1) := by decide +kernel
theorem dX7_closes_39 : decode cX7_closes 39 = .ok (.aload_n 0, 1) := by decide +kernel
theorem dX7_closes_40 : decode cX7_closes 40 = .ok (.getfield 7, 3) := by decide +kernel
theorem dX7_closes_43 : decode cX7_closes 43 = .ok (.iload_n 2, 1) := by decide +kernel
theorem dX7_closes_44 : decode cX7_closes 44 = .ok (.iconst 2, 1) := by decide +kernel
theorem dX7_closes_45 : decode cX7_closes 45 = .ok (.iadd, 1) := by decide +kernel
theorem dX7_closes_46 : decode cX7_closes 46 = .ok (.iaload, 1) := by decide +kernel
theorem dX7_closes_47 : decode cX7_closes 47 = .ok (.iastore, 1) := by decide +kernel
theorem dX7_closes_48 : decode cX7_closes 48 = .ok (.iinc 2 1, 3) := by decide +kernel
theorem dX7_closes_51 : decode cX7_closes 51 = .ok (.goto (-33), 3) := by decide +kernel
theorem dX7_closes_54 : decode cX7_closes 54 = .ok (.return_, 1) := by decide +kernel
set_option maxRecDepth 20000 in
theorem ggX7_sell_X7_in : GoodIn wsX7_sell wsX7_in := goodIn_r _ [8] (by decide +kernel) (by decide +kernel)
set_option maxRecDepth 20000 in
theorem gX7_sell_X7_in : GoodIn wsX7_sell (va_wsS RX7 61 yX7_in wsX7_in) := goodIn_app (goodIn_of _ (by decide +kernel)) ggX7_sell_X7_in
set_option maxRecDepth 20000 in
theorem ggX7_sell_X7_isDelivery : GoodIn wsX7_sell wsX7_isDelivery := goodIn_r _ [12, 2, 20, 21, 22, 23, 24, 25, 26, 27, 28, 29, 30, 31, 32, 33, 34, 35, 36, 37] (by decide +kernel) (by decide +kernel)
set_option maxRecDepth 20000 in
theorem gX7_sell_X7_isDelivery : GoodIn wsX7_sell (wsV RX7 89 RX7 yX7_isDelivery wsX7_isDelivery) := goodIn_app (goodIn_of _ (by decide +kernel)) ggX7_sell_X7_isDelivery
set_option maxRecDepth 20000 in
theorem ggX7_sell_X7_changes : GoodIn wsX7_sell wsX7_changes := goodIn_r _ [16, 17, 18, 19, 2, 20, 21, 22, 23, 24, 25, 26, 27, 28, 29, 30, 31, 32, 33, 34, 35, 36, 37] (by decide +kernel) (by decide +kernel)
set_option maxRecDepth 20000 in
theorem gX7_sell_X7_changes : GoodIn wsX7_sell (wsV RX7 67 RX7 yX7_changes wsX7_changes) := goodIn_app (goodIn_of _ (by decide +kernel)) ggX7_sell_X7_changes
theorem dX7_sell_0 : decode cX7_sell 0 = .ok (.iload_n 1, 1) := by decide +kernel
theorem dX7_sell_1 : decode cX7_sell 1 = .ok (.iconst 0, 1) := by decide +kernel
theorem dX7_sell_2 : decode cX7_sell 2 = .ok (.sipush 999, 3) := by decide +kernel
theorem dX7_sell_5 : decode cX7_sell 5 = .ok (.invokestatic 61, 3) := by decide +kernel
theorem dX7_sell_8 : decode cX7_sell 8 = .ok (.ifCond .eq 14, 3) := by decide +kernel
theorem dX7_sell_11 : decode cX7_sell 11 = .ok (.iload_n 2, 1) := by decide +kernel
theorem dX7_sell_12 : decode cX7_sell 12 = .ok (.iconst 1, 1) := by decide +kernel
theorem dX7_sell_13 : decode cX7_sell 13 = .ok (.sipush 999, 3) := by decide +kernel
theorem dX7_sell_16 : decode cX7_sell 16 = .ok (.invokestatic 61, 3) := by decide +kernel
theorem dX7_sell_19 : decode cX7_sell 19 = .ok (.ifCond .ne 6, 3) := by decide +kernel
theorem dX7_sell_22 : decode cX7_sell 22 = .ok (.ldc 65, 2) := by decide +kernel
theorem dX7_sell_24 : decode cX7_sell 24 = .ok (.ireturn, 1) := by decide +kernel
theorem dX7_sell_25 : decode cX7_sell 25 = .ok (.iload_n 1, 1) := by decide +kernel
theorem dX7_sell_26 : decode cX7_sell 26 = .ok (.aload_n 0, 1) := by decide +kernel
theorem dX7_sell_27 : decode cX7_sell 27 = .ok (.getfield 7, 3) := by decide +kernel
theorem dX7_sell_30 : decode cX7_sell 30 = .ok (.iconst 0, 1) := by decide +kernel
theorem dX7_sell_31 : decode cX7_sell 31 = .ok (.iaload, 1) := by decide +kernel
theorem dX7_sell_32 : decode cX7_sell 32 = .ok (.if_icmp .lt 11, 3) := by decide +kernel
theorem dX7_sell_35 : decode cX7_sell 35 = .ok (.aload_n 0, 1) := by decide +kernel
theorem dX7_sell_36 : decode cX7_sell 36 = .ok (.iload_n 1, 1) := by decide +kernel
theorem dX7_sell_37 : decode cX7_sell 37 = .ok (.invokevirtual 89, 3) := by decide +kernel
theorem dX7_sell_40 : decode cX7_sell 40 = .ok (.ifCond .ne 6, 3) := by decide +kernel
theorem dX7_sell_43 : decode cX7_sell 43 = .ok (.ldc 77, 2) := by decide +kernel
theorem dX7_sell_45 : decode cX7_sell 45 = .ok (.ireturn, 1) := by decide +kernel
theorem dX7_sell_46 : decode cX7_sell 46 = .ok (.aload_n 0, 1) := by decide +kernel
theorem dX7_sell_47 : decode cX7_sell 47 = .ok (.getfield 7, 3) := by decide +kernel
theorem dX7_sell_50 : decode cX7_sell 50 = .ok (.bipush 7, 2) := by decide +kernel
theorem dX7_sell_52 : decode cX7_sell 52 = .ok (.iaload, 1) := by decide +kernel
theorem dX7_sell_53 : decode cX7_sell 53 = .ok (.istore_n 3, 1) := by decide +kernel
theorem dX7_sell_54 : decode cX7_sell 54 = .ok (.iload_n 3, 1) := by decide +kernel
theorem dX7_sell_55 : decode cX7_sell 55 = .ok (.bipush 6, 2) := by decide +kernel
theorem dX7_sell_57 : decode cX7_sell 57 = .ok (.if_icmp .ne 6, 3) := by decide +kernel
theorem dX7_sell_60 : decode cX7_sell 60 = .ok (.ldc 66, 2) := by decide +kernel
theorem dX7_sell_62 : decode cX7_sell 62 = .ok (.ireturn, 1) := by decide +kernel
theorem dX7_sell_63 : decode cX7_sell 63 = .ok (.aload_n 0, 1) := by decide +kernel
theorem dX7_sell_64 : decode cX7_sell 64 = .ok (.invokevirtual 67, 3) := by decide +kernel
theorem dX7_sell_67 : decode cX7_sell 67 = .ok (.aload_n 0, 1) := by decide +kernel
theorem dX7_sell_68 : decode cX7_sell 68 = .ok (.getfield 7, 3) := by decide +kernel
theorem dX7_sell_71 : decode cX7_sell 71 = .ok (.bipush 69, 2) := by decide +kernel
theorem dX7_sell_73 : decode cX7_sell 73 = .ok (.iconst 2, 1) := by decide +kernel
theorem dX7_sell_74 : decode cX7_sell 74 = .ok (.iload_n 3, 1) := by decide +kernel
theorem dX7_sell_75 : decode cX7_sell 75 = .ok (.imul, 1) := by decide +kernel
theorem dX7_sell_76 : decode cX7_sell 76 = .ok (.iadd, 1) := by decide +kernel
theorem dX7_sell_77 : decode cX7_sell 77 = .ok (.iload_n 1, 1) := by decide +kernel
theorem dX7_sell_78 : decode cX7_sell 78 = .ok (.iastore, 1) := by decide +kernel
theorem dX7_sell_79 : decode cX7_sell 79 = .ok (.aload_n 0, 1) := by decide +kernel
theorem dX7_sell_80 : decode cX7_sell 80 = .ok (.getfield 7, 3) := by decide +kernel
theorem dX7_sell_83 : decode cX7_sell 83 = .ok (.bipush 69, 2) := by decide +kernel
theorem dX7_sell_85 : decode cX7_sell 85 = .ok (.iconst 2, 1) := by decide +kernel
theorem dX7_sell_86 : decode cX7_sell 86 = .ok (.iload_n 3, 1) := by decide +kernel
theorem dX7_sell_87 : decode cX7_sell 87 = .ok (.imul, 1) := by decide +kernel
theorem dX7_sell_88 : decode cX7_sell 88 = .ok (.iadd, 1) := by decide +kernel
theorem dX7_sell_89 : decode cX7_sell 89 = .ok (.iconst 1, 1) := by decide +kernel
theorem dX7_sell_90 : decode cX7_sell 90 = .ok (.iadd, 1) := by decide +kernel
theorem dX7_sell_91 : decode cX7_sell 91 = .ok (.iload_n 2, 1) := by decide +kernel
theorem dX7_sell_92 : decode cX7_sell 92 = .ok (.iastore, 1) := by decide +kernel
theorem dX7_sell_93 : decode cX7_sell 93 = .ok (.aload_n 0, 1) := by decide +kernel
theorem dX7_sell_94 : decode cX7_sell 94 = .ok (.getfield 7, 3) := by decide +kernel
theorem dX7_sell_97 : decode cX7_sell 97 = .ok (.bipush 7, 2) := by decide +kernel
theorem dX7_sell_99 : decode cX7_sell 99 = .ok (.dup2, 1) := by decide +kernel
theorem dX7_sell_100 : decode cX7_sell 100 = .ok (.iaload, 1) := by decide +kernel
theorem dX7_sell_101 : decode cX7_sell 101 = .ok (.iconst 1, 1) := by decide +kernel
theorem dX7_sell_102 : decode cX7_sell 102 = .ok (.iadd, 1) := by decide +kernel
theorem dX7_sell_103 : decode cX7_sell 103 = .ok (.iastore, 1) := by decide +kernel
theorem dX7_sell_104 : decode cX7_sell 104 = .ok (.iload_n 3, 1) := by decide +kernel
theorem dX7_sell_105 : decode cX7_sell 105 = .ok (.ireturn, 1) := by decide +kernel
set_option maxRecDepth 20000 in
theorem ggX7_buyBack_X7_isContract : GoodIn wsX7_buyBack wsX7_isContract := goodIn_r _ [7, 2, 26, 27, 28, 29, 30, 31, 32, 33, 34, 35, 36, 37, 38, 39, 40, 41, 42, 43] (by decide +kernel) (by decide +kernel)
set_option maxRecDepth 20000 in
theorem gX7_buyBack_X7_isContract : GoodIn wsX7_buyBack (wsV RX7 92 RX7 yX7_isContract wsX7_isContract) := goodIn_app (goodIn_of _ (by decide +kernel)) ggX7_buyBack_X7_isContract
set_option maxRecDepth 20000 in
theorem ggX7_buyBack_X7_in : GoodIn wsX7_buyBack wsX7_in := goodIn_r _ [10] (by decide +kernel) (by decide +kernel)
set_option maxRecDepth 20000 in
theorem gX7_buyBack_X7_in : GoodIn wsX7_buyBack (va_wsS RX7 61 yX7_in wsX7_in) := goodIn_app (goodIn_of _ (by decide +kernel)) ggX7_buyBack_X7_in
set_option maxRecDepth 20000 in
theorem ggX7_buyBack_X7_changes : GoodIn wsX7_buyBack wsX7_changes := goodIn_r _ [14, 15, 16, 17, 2, 26, 27, 28, 29, 30, 31, 32, 33, 34, 35, 36, 37, 38, 39, 40, 41, 42, 43] (by decide +kernel) (by decide +kernel)
set_option maxRecDepth 20000 in
theorem gX7_buyBack_X7_changes : GoodIn wsX7_buyBack (wsV RX7 67 RX7 yX7_changes wsX7_changes) := goodIn_app (goodIn_of _ (by decide +kernel)) ggX7_buyBack_X7_changes
set_option maxRecDepth 20000 in
theorem ggX7_buyBack_X7_priceOf : GoodIn wsX7_buyBack wsX7_priceOf := goodIn_r _ [21, 2, 26, 27, 28, 29, 30, 31, 32, 33, 34, 35, 36, 37, 38, 39, 40, 41, 42, 43] (by decide +kernel) (by decide +kernel)
set_option maxRecDepth 20000 in
theorem gX7_buyBack_X7_priceOf : GoodIn wsX7_buyBack (wsV RX7 95 RX7 yX7_priceOf wsX7_priceOf) := goodIn_app (goodIn_of _ (by decide +kernel)) ggX7_buyBack_X7_priceOf
set_option maxRecDepth 20000 in
theorem ggX7_buyBack_X7_closes : GoodIn wsX7_buyBack wsX7_closes := goodIn_r _ [25, 2, 26, 27, 28, 29, 30, 31, 32, 33, 34, 35, 36, 37, 38, 39, 40, 41, 42, 43] (by decide +kernel) (by decide +kernel)
set_option maxRecDepth 20000 in
theorem gX7_buyBack_X7_closes : GoodIn wsX7_buyBack (wsV RX7 98 RX7 yX7_closes wsX7_closes) := goodIn_app (goodIn_of _ (by decide +kernel)) ggX7_buyBack_X7_closes
theorem dX7_buyBack_0 : decode cX7_buyBack 0 = .ok (.aload_n 0, 1) := by decide +kernel
theorem dX7_buyBack_1 : decode cX7_buyBack 1 = .ok (.iload_n 1, 1) := by decide +kernel
theorem dX7_buyBack_2 : decode cX7_buyBack 2 = .ok (.invokevirtual 92, 3) := by decide +kernel
theorem dX7_buyBack_5 : decode cX7_buyBack 5 = .ok (.ifCond .eq 14, 3) := by decide +kernel
theorem dX7_buyBack_8 : decode cX7_buyBack 8 = .ok (.iload_n 2, 1) := by decide +kernel
theorem dX7_buyBack_9 : decode cX7_buyBack 9 = .ok (.iconst 1, 1) := by decide +kernel
theorem dX7_buyBack_10 : decode cX7_buyBack 10 = .ok (.sipush 999, 3) := by decide +kernel
theorem dX7_buyBack_13 : decode cX7_buyBack 13 = .ok (.invokestatic 61, 3) := by decide +kernel
theorem dX7_buyBack_16 : decode cX7_buyBack 16 = .ok (.ifCond .ne 6, 3) := by decide +kernel
theorem dX7_buyBack_19 : decode cX7_buyBack 19 = .ok (.ldc 65, 2) := by decide +kernel
theorem dX7_buyBack_21 : decode cX7_buyBack 21 = .ok (.ireturn, 1) := by decide +kernel
theorem dX7_buyBack_22 : decode cX7_buyBack 22 = .ok (.aload_n 0, 1) := by decide +kernel
theorem dX7_buyBack_23 : decode cX7_buyBack 23 = .ok (.invokevirtual 67, 3) := by decide +kernel
theorem dX7_buyBack_26 : decode cX7_buyBack 26 = .ok (.aload_n 0, 1) := by decide +kernel
theorem dX7_buyBack_27 : decode cX7_buyBack 27 = .ok (.getfield 7, 3) := by decide +kernel
theorem dX7_buyBack_30 : decode cX7_buyBack 30 = .ok (.bipush 8, 2) := by decide +kernel
theorem dX7_buyBack_32 : decode cX7_buyBack 32 = .ok (.iaload, 1) := by decide +kernel
theorem dX7_buyBack_33 : decode cX7_buyBack 33 = .ok (.aload_n 0, 1) := by decide +kernel
theorem dX7_buyBack_34 : decode cX7_buyBack 34 = .ok (.iload_n 1, 1) := by decide +kernel
theorem dX7_buyBack_35 : decode cX7_buyBack 35 = .ok (.invokevirtual 95, 3) := by decide +kernel
theorem dX7_buyBack_38 : decode cX7_buyBack 38 = .ok (.iload_n 2, 1) := by decide +kernel
theorem dX7_buyBack_39 : decode cX7_buyBack 39 = .ok (.isub, 1) := by decide +kernel
theorem dX7_buyBack_40 : decode cX7_buyBack 40 = .ok (.imul, 1) := by decide +kernel
theorem dX7_buyBack_41 : decode cX7_buyBack 41 = .ok (.istore_n 3, 1) := by decide +kernel
theorem dX7_buyBack_42 : decode cX7_buyBack 42 = .ok (.aload_n 0, 1) := by decide +kernel
theorem dX7_buyBack_43 : decode cX7_buyBack 43 = .ok (.getfield 7, 3) := by decide +kernel
theorem dX7_buyBack_46 : decode cX7_buyBack 46 = .ok (.iconst 1, 1) := by decide +kernel
theorem dX7_buyBack_47 : decode cX7_buyBack 47 = .ok (.dup2, 1) := by decide +kernel
theorem dX7_buyBack_48 : decode cX7_buyBack 48 = .ok (.iaload, 1) := by decide +kernel
theorem dX7_buyBack_49 : decode cX7_buyBack 49 = .ok (.iload_n 3, 1) := by decide +kernel
theorem dX7_buyBack_50 : decode cX7_buyBack 50 = .ok (.iadd, 1) := by decide +kernel
theorem dX7_buyBack_51 : decode cX7_buyBack 51 = .ok (.iastore, 1) := by decide +kernel
theorem dX7_buyBack_52 : decode cX7_buyBack 52 = .ok (.aload_n 0, 1) := by decide +kernel
theorem dX7_buyBack_53 : decode cX7_buyBack 53 = .ok (.iload_n 1, 1) := by decide +kernel
theorem dX7_buyBack_54 : decode cX7_buyBack 54 = .ok (.invokevirtual 98, 3) := by decide +kernel
theorem dX7_buyBack_57 : decode cX7_buyBack 57 = .ok (.iload_n 3, 1) := by decide +kernel
theorem dX7_buyBack_58 : decode cX7_buyBack 58 = .ok (.ireturn, 1) := by decide +kernel
set_option maxRecDepth 20000 in
theorem ggX7_gives_X7_cupAt : GoodIn wsX7_gives wsX7_cupAt := goodIn_r _ [11, 12, 13, 14, 10, 15, 2, 31, 32, 33, 34, 35, 36, 37, 38, 39, 40, 41, 42, 43, 44, 45, 46, 47, 48] (by decide +kernel) (by decide +kernel)
set_option maxRecDepth 20000 in
theorem gX7_gives_X7_cupAt : GoodIn wsX7_gives (wsV RX7 48 RX7 yX7_cupAt wsX7_cupAt) := goodIn_app (goodIn_of _ (by decide +kernel)) ggX7_gives_X7_cupAt
set_option maxRecDepth 20000 in
theorem ggX7_gives_X7_gainAt : GoodIn wsX7_gives wsX7_gainAt := goodIn_r _ [19, 2, 20, 21, 22, 10, 23, 7, 8, 9, 11, 12, 13, 14, 15, 24, 25, 26, 27, 28, 29, 30, 31, 32, 33, 34, 35, 36, 37, 38, 39, 40, 41, 42, 43, 44, 45, 46, 47, 48] (by decide +kernel) (by decide +kernel)
set_option maxRecDepth 20000 in
theorem gX7_gives_X7_gainAt : GoodIn wsX7_gives (wsV RX7 108 RX7 yX7_gainAt wsX7_gainAt) := goodIn_app (goodIn_of _ (by decide +kernel)) ggX7_gives_X7_gainAt
set_option maxRecDepth 20000 in
theorem ggX7_gives_X7_of : GoodIn wsX7_gives wsX7_of := goodIn_r _ [15, 2, 31, 32, 33, 34, 35, 36, 37, 38, 39, 40, 41, 42, 43, 44, 45, 46, 47, 48] (by decide +kernel) (by decide +kernel)
set_option maxRecDepth 20000 in
theorem gX7_gives_X7_of : GoodIn wsX7_gives (wsV RX7 39 RX7 yX7_of wsX7_of) := goodIn_app (goodIn_of _ (by decide +kernel)) ggX7_gives_X7_of
theorem dX7_gives_0 : decode cX7_gives 0 = .ok (.aload_n 0, 1) := by decide +kernel
theorem dX7_gives_1 : decode cX7_gives 1 = .ok (.iconst 0, 1) := by decide +kernel
theorem dX7_gives_2 : decode cX7_gives 2 = .ok (.putfield 102, 3) := by decide +kernel
theorem dX7_gives_5 : decode cX7_gives 5 = .ok (.aload_n 0, 1) := by decide +kernel
theorem dX7_gives_6 : decode cX7_gives 6 = .ok (.aload_n 0, 1) := by decide +kernel
theorem dX7_gives_7 : decode cX7_gives 7 = .ok (.getfield 7, 3) := by decide +kernel
theorem dX7_gives_10 : decode cX7_gives 10 = .ok (.bipush 8, 2) := by decide +kernel
theorem dX7_gives_12 : decode cX7_gives 12 = .ok (.iaload, 1) := by decide +kernel
theorem dX7_gives_13 : decode cX7_gives 13 = .ok (.putfield 105, 3) := by decide +kernel
theorem dX7_gives_16 : decode cX7_gives 16 = .ok (.iconst 0, 1) := by decide +kernel
theorem dX7_gives_17 : decode cX7_gives 17 = .ok (.istore_n 3, 1) := by decide +kernel
theorem dX7_gives_18 : decode cX7_gives 18 = .ok (.iconst 1, 1) := by decide +kernel
theorem dX7_gives_19 : decode cX7_gives 19 = .ok (.istore 4, 2) := by decide +kernel
theorem dX7_gives_21 : decode cX7_gives 21 = .ok (.iload 4, 2) := by decide +kernel
theorem dX7_gives_23 : decode cX7_gives 23 = .ok (.ifCond .eq 201, 3) := by decide +kernel
theorem dX7_gives_26 : decode cX7_gives 26 = .ok (.aload_n 0, 1) := by decide +kernel
theorem dX7_gives_27 : decode cX7_gives 27 = .ok (.getfield 105, 3) := by decide +kernel
theorem dX7_gives_30 : decode cX7_gives 30 = .ok (.ifCond .le 194, 3) := by decide +kernel
theorem dX7_gives_33 : decode cX7_gives 33 = .ok (.ldc 43, 2) := by decide +kernel
theorem dX7_gives_35 : decode cX7_gives 35 = .ok (.istore 5, 2) := by decide +kernel
theorem dX7_gives_37 : decode cX7_gives 37 = .ok (.iconst 0, 1) := by decide +kernel
theorem dX7_gives_38 : decode cX7_gives 38 = .ok (.istore 6, 2) := by decide +kernel
theorem dX7_gives_40 : decode cX7_gives 40 = .ok (.iload 6, 2) := by decide +kernel
theorem dX7_gives_42 : decode cX7_gives 42 = .ok (.aload_n 0, 1) := by decide +kernel
theorem dX7_gives_43 : decode cX7_gives 43 = .ok (.getfield 7, 3) := by decide +kernel
theorem dX7_gives_46 : decode cX7_gives 46 = .ok (.bipush 6, 2) := by decide +kernel
theorem dX7_gives_48 : decode cX7_gives 48 = .ok (.iaload, 1) := by decide +kernel
theorem dX7_gives_49 : decode cX7_gives 49 = .ok (.if_icmp .ge 75, 3) := by decide +kernel
theorem dX7_gives_52 : decode cX7_gives 52 = .ok (.aload_n 0, 1) := by decide +kernel
theorem dX7_gives_53 : decode cX7_gives 53 = .ok (.iload 6, 2) := by decide +kernel
theorem dX7_gives_55 : decode cX7_gives 55 = .ok (.iload_n 2, 1) := by decide +kernel
theorem dX7_gives_56 : decode cX7_gives 56 = .ok (.invokevirtual 48, 3) := by decide +kernel
theorem dX7_gives_59 : decode cX7_gives 59 = .ok (.bipush 70, 2) := by decide +kernel
theorem dX7_gives_61 : decode cX7_gives 61 = .ok (.if_icmp .lt 16, 3) := by decide +kernel
theorem dX7_gives_64 : decode cX7_gives 64 = .ok (.iload_n 3, 1) := by decide +kernel
theorem dX7_gives_65 : decode cX7_gives 65 = .ok (.iload 6, 2) := by decide +kernel
theorem dX7_gives_67 : decode cX7_gives 67 = .ok (.ishr, 1) := by decide +kernel
theorem dX7_gives_68 : decode cX7_gives 68 = .ok (.iconst 1, 1) := by decide +kernel
theorem dX7_gives_69 : decode cX7_gives 69 = .ok (.iand, 1) := by decide +kernel
theorem dX7_gives_70 : decode cX7_gives 70 = .ok (.ifCond .ne 7, 3) := by decide +kernel
theorem dX7_gives_73 : decode cX7_gives 73 = .ok (.iconst 1, 1) := by decide +kernel
theorem dX7_gives_74 : decode cX7_gives 74 = .ok (.goto 4, 3) := by decide +kernel
theorem dX7_gives_77 : decode cX7_gives 77 = .ok (.iconst 0, 1) := by decide +kernel
theorem dX7_gives_78 : decode cX7_gives 78 = .ok (.istore 7, 2) := by decide +kernel
theorem dX7_gives_80 : decode cX7_gives 80 = .ok (.iload 7, 2) := by decide +kernel
theorem dX7_gives_82 : decode cX7_gives 82 = .ok (.ifCond .eq 32, 3) := by decide +kernel
theorem dX7_gives_85 : decode cX7_gives 85 = .ok (.iload 5, 2) := by decide +kernel
theorem dX7_gives_87 : decode cX7_gives 87 = .ok (.ifCond .lt 22, 3) := by decide +kernel
theorem dX7_gives_90 : decode cX7_gives 90 = .ok (.aload_n 0, 1) := by decide +kernel
theorem dX7_gives_91 : decode cX7_gives 91 = .ok (.iload 6, 2) := by decide +kernel
theorem dX7_gives_93 : decode cX7_gives 93 = .ok (.iload_n 1, 1) := by decide +kernel
theorem dX7_gives_94 : decode cX7_gives 94 = .ok (.iload_n 2, 1) := by decide +kernel
theorem dX7_gives_95 : decode cX7_gives 95 = .ok (.invokevirtual 108, 3) := by decide +kernel
theorem dX7_gives_98 : decode cX7_gives 98 = .ok (.aload_n 0, 1) := by decide +kernel
theorem dX7_gives_99 : decode cX7_gives 99 = .ok (.iload 5, 2) := by decide +kernel
theorem dX7_gives_101 : decode cX7_gives 101 = .ok (.iload_n 1, 1) := by decide +kernel
theorem dX7_gives_102 : decode cX7_gives 102 = .ok (.iload_n 2, 1) := by decide +kernel
theorem dX7_gives_103 : decode cX7_gives 103 = .ok (.invokevirtual 108, 3) := by decide +kernel
theorem dX7_gives_106 : decode cX7_gives 106 = .ok (.if_icmp .le 8, 3) := by decide +kernel
theorem dX7_gives_109 : decode cX7_gives 109 = .ok (.iload 6, 2) := by decide +kernel
theorem dX7_gives_111 : decode cX7_gives 111 = .ok (.goto 5, 3) := by decide +kernel
theorem dX7_gives_114 : decode cX7_gives 114 = .ok (.iload 5, 2) := by decide +kernel
theorem dX7_gives_116 : decode cX7_gives 116 = .ok (.istore 5, 2) := by decide +kernel
theorem dX7_gives_118 : decode cX7_gives 118 = .ok (.iinc 6 1, 3) := by decide +kernel
theorem dX7_gives_121 : decode cX7_gives 121 = .ok (.goto (-81), 3) := by decide +kernel
theorem dX7_gives_124 : decode cX7_gives 124 = .ok (.iload 5, 2) := by decide +kernel
theorem dX7_gives_126 : decode cX7_gives 126 = .ok (.ifCond .lt 7, 3) := by decide +kernel
theorem dX7_gives_129 : decode cX7_gives 129 = .ok (.iconst 1, 1) := by decide +kernel
theorem dX7_gives_130 : decode cX7_gives 130 = .ok (.goto 4, 3) := by decide +kernel
theorem dX7_gives_133 : decode cX7_gives 133 = .ok (.iconst 0, 1) := by decide +kernel
theorem dX7_gives_134 : decode cX7_gives 134 = .ok (.istore 4, 2) := by decide +kernel
theorem dX7_gives_136 : decode cX7_gives 136 = .ok (.iload 4, 2) := by decide +kernel
theorem dX7_gives_138 : decode cX7_gives 138 = .ok (.ifCond .eq 83, 3) := by decide +kernel
theorem dX7_gives_141 : decode cX7_gives 141 = .ok (.aload_n 0, 1) := by decide +kernel
theorem dX7_gives_142 : decode cX7_gives 142 = .ok (.iload 5, 2) := by decide +kernel
theorem dX7_gives_144 : decode cX7_gives 144 = .ok (.iconst 1, 1) := by decide +kernel
theorem dX7_gives_145 : decode cX7_gives 145 = .ok (.invokevirtual 39, 3) := by decide +kernel
theorem dX7_gives_148 : decode cX7_gives 148 = .ok (.aload_n 0, 1) := by decide +kernel
theorem dX7_gives_149 : decode cX7_gives 149 = .ok (.getfield 105, 3) := by decide +kernel
theorem dX7_gives_152 : decode cX7_gives 152 = .ok (.if_icmp .ge 13, 3) := by decide +kernel
theorem dX7_gives_155 : decode cX7_gives 155 = .ok (.aload_n 0, 1) := by decide +kernel
theorem dX7_gives_156 : decode cX7_gives 156 = .ok (.iload 5, 2) := by decide +kernel
theorem dX7_gives_158 : decode cX7_gives 158 = .ok (.iconst 1, 1) := by decide +kernel
theorem dX7_gives_159 : decode cX7_gives 159 = .ok (.invokevirtual 39, 3) := by decide +kernel
theorem dX7_gives_162 : decode cX7_gives 162 = .ok (.goto 7, 3) := by decide +kernel
theorem dX7_gives_165 : decode cX7_gives 165 = .ok (.aload_n 0, 1) := by decide +kernel
theorem dX7_gives_166 : decode cX7_gives 166 = .ok (.getfield 105, 3) := by decide +kernel
theorem dX7_gives_169 : decode cX7_gives 169 = .ok (.istore 6, 2) := by decide +kernel
theorem dX7_gives_171 : decode cX7_gives 171 = .ok (.aload_n 0, 1) := by decide +kernel
theorem dX7_gives_172 : decode cX7_gives 172 = .ok (.getfield 22, 3) := by decide +kernel
theorem dX7_gives_175 : decode cX7_gives 175 = .ok (.aload_n 0, 1) := by decide +kernel
theorem dX7_gives_176 : decode cX7_gives 176 = .ok (.getfield 102, 3) := by decide +kernel
theorem dX7_gives_179 : decode cX7_gives 179 = .ok (.iload 5, 2) := by decide +kernel
theorem dX7_gives_181 : decode cX7_gives 181 = .ok (.iastore, 1) := by decide +kernel
theorem dX7_gives_182 : decode cX7_gives 182 = .ok (.aload_n 0, 1) := by decide +kernel
theorem dX7_gives_183 : decode cX7_gives 183 = .ok (.getfield 25, 3) := by decide +kernel
theorem dX7_gives_186 : decode cX7_gives 186 = .ok (.aload_n 0, 1) := by decide +kernel
theorem dX7_gives_187 : decode cX7_gives 187 = .ok (.getfield 102, 3) := by decide +kernel
theorem dX7_gives_190 : decode cX7_gives 190 = .ok (.iload 6, 2) := by decide +kernel
theorem dX7_gives_192 : decode cX7_gives 192 = .ok (.iastore, 1) := by decide +kernel
theorem dX7_gives_193 : decode cX7_gives 193 = .ok (.aload_n 0, 1) := by decide +kernel
theorem dX7_gives_194 : decode cX7_gives 194 = .ok (.dup, 1) := by decide +kernel
theorem dX7_gives_195 : decode cX7_gives 195 = .ok (.getfield 102, 3) := by decide +kernel
theorem dX7_gives_198 : decode cX7_gives 198 = .ok (.iconst 1, 1) := by decide +kernel
theorem dX7_gives_199 : decode cX7_gives 199 = .ok (.iadd, 1) := by decide +kernel
theorem dX7_gives_200 : decode cX7_gives 200 = .ok (.putfield 102, 3) := by decide +kernel
theorem dX7_gives_203 : decode cX7_gives 203 = .ok (.aload_n 0, 1) := by decide +kernel
theorem dX7_gives_204 : decode cX7_gives 204 = .ok (.dup, 1) := by decide +kernel
theorem dX7_gives_205 : decode cX7_gives 205 = .ok (.getfield 105, 3) := by decide +kernel
theorem dX7_gives_208 : decode cX7_gives 208 = .ok (.iload 6, 2) := by decide +kernel
theorem dX7_gives_210 : decode cX7_gives 210 = .ok (.isub, 1) := by decide +kernel
theorem dX7_gives_211 : decode cX7_gives 211 = .ok (.putfield 105, 3) := by decide +kernel
theorem dX7_gives_214 : decode cX7_gives 214 = .ok (.iload_n 3, 1) := by decide +kernel
theorem dX7_gives_215 : decode cX7_gives 215 = .ok (.iconst 1, 1) := by decide +kernel
theorem dX7_gives_216 : decode cX7_gives 216 = .ok (.iload 5, 2) := by decide +kernel
theorem dX7_gives_218 : decode cX7_gives 218 = .ok (.ishl, 1) := by decide +kernel
theorem dX7_gives_219 : decode cX7_gives 219 = .ok (.ior, 1) := by decide +kernel
theorem dX7_gives_220 : decode cX7_gives 220 = .ok (.istore_n 3, 1) := by decide +kernel
theorem dX7_gives_221 : decode cX7_gives 221 = .ok (.goto (-200), 3) := by decide +kernel
theorem dX7_gives_224 : decode cX7_gives 224 = .ok (.return_, 1) := by decide +kernel
set_option maxRecDepth 20000 in
theorem ggX7_paidAll_X7_gainAt : GoodIn wsX7_paidAll wsX7_gainAt := goodIn_r _ [8, 9, 10, 11, 12, 7, 13, 14, 15, 16, 17, 18, 19, 20, 21, 22, 23, 24, 25, 26, 27, 28, 29, 30, 31, 32, 33, 34, 35, 36, 37, 38, 39, 40, 41, 42, 43, 44, 45, 46] (by decide +kernel) (by decide +kernel)
set_option maxRecDepth 20000 in
theorem gX7_paidAll_X7_gainAt : GoodIn wsX7_paidAll (wsV RX7 108 RX7 yX7_gainAt wsX7_gainAt) := goodIn_app (goodIn_of _ (by decide +kernel)) ggX7_paidAll_X7_gainAt
set_option maxRecDepth 20000 in
theorem ggX7_paidAll_X7_paidAt : GoodIn wsX7_paidAll wsX7_paidAt := goodIn_r _ [13, 9, 14, 15, 16, 7, 17, 18, 19, 20, 21, 22, 23, 24, 25, 29, 30, 31, 32, 33, 34, 35, 36, 37, 38, 39, 40, 41, 42, 43, 44, 45, 46] (by decide +kernel) (by decide +kernel)
set_option maxRecDepth 20000 in
theorem gX7_paidAll_X7_paidAt : GoodIn wsX7_paidAll (wsV RX7 54 RX7 yX7_paidAt wsX7_paidAt) := goodIn_app (goodIn_of _ (by decide +kernel)) ggX7_paidAll_X7_paidAt
theorem dX7_paidAll_0 : decode cX7_paidAll 0 = .ok (.iconst 0, 1) := by decide +kernel
theorem dX7_paidAll_1 : decode cX7_paidAll 1 = .ok (.istore 4, 2) := by decide +kernel
theorem dX7_paidAll_3 : decode cX7_paidAll 3 = .ok (.iconst 0, 1) := by decide +kernel
theorem dX7_paidAll_4 : decode cX7_paidAll 4 = .ok (.istore 5, 2) := by decide +kernel
theorem dX7_paidAll_6 : decode cX7_paidAll 6 = .ok (.iload 5, 2) := by decide +kernel
theorem dX7_paidAll_8 : decode cX7_paidAll 8 = .ok (.aload_n 0, 1) := by decide +kernel
theorem dX7_paidAll_9 : decode cX7_paidAll 9 = .ok (.getfield 102, 3) := by decide +kernel
theorem dX7_paidAll_12 : decode cX7_paidAll 12 = .ok (.if_icmp .ge 55, 3) := by decide +kernel
theorem dX7_paidAll_15 : decode cX7_paidAll 15 = .ok (.iload 4, 2) := by decide +kernel
theorem dX7_paidAll_17 : decode cX7_paidAll 17 = .ok (.aload_n 0, 1) := by decide +kernel
theorem dX7_paidAll_18 : decode cX7_paidAll 18 = .ok (.getfield 25, 3) := by decide +kernel
theorem dX7_paidAll_21 : decode cX7_paidAll 21 = .ok (.iload 5, 2) := by decide +kernel
theorem dX7_paidAll_23 : decode cX7_paidAll 23 = .ok (.iaload, 1) := by decide +kernel
theorem dX7_paidAll_24 : decode cX7_paidAll 24 = .ok (.iload_n 3, 1) := by decide +kernel
theorem dX7_paidAll_25 : decode cX7_paidAll 25 = .ok (.ifCond .eq 19, 3) := by decide +kernel
theorem dX7_paidAll_28 : decode cX7_paidAll 28 = .ok (.aload_n 0, 1) := by decide +kernel
theorem dX7_paidAll_29 : decode cX7_paidAll 29 = .ok (.aload_n 0, 1) := by decide +kernel
theorem dX7_paidAll_30 : decode cX7_paidAll 30 = .ok (.getfield 22, 3) := by decide +kernel
theorem dX7_paidAll_33 : decode cX7_paidAll 33 = .ok (.iload 5, 2) := by decide +kernel
theorem dX7_paidAll_35 : decode cX7_paidAll 35 = .ok (.iaload, 1) := by decide +kernel
theorem dX7_paidAll_36 : decode cX7_paidAll 36 = .ok (.iload_n 1, 1) := by decide +kernel
theorem dX7_paidAll_37 : decode cX7_paidAll 37 = .ok (.iload_n 2, 1) := by decide +kernel
theorem dX7_paidAll_38 : decode cX7_paidAll 38 = .ok (.invokevirtual 108, 3) := by decide +kernel
theorem dX7_paidAll_41 : decode cX7_paidAll 41 = .ok (.goto 16, 3) := by decide +kernel
theorem dX7_paidAll_44 : decode cX7_paidAll 44 = .ok (.aload_n 0, 1) := by decide +kernel
theorem dX7_paidAll_45 : decode cX7_paidAll 45 = .ok (.aload_n 0, 1) := by decide +kernel
theorem dX7_paidAll_46 : decode cX7_paidAll 46 = .ok (.getfield 22, 3) := by decide +kernel
theorem dX7_paidAll_49 : decode cX7_paidAll 49 = .ok (.iload 5, 2) := by decide +kernel
theorem dX7_paidAll_51 : decode cX7_paidAll 51 = .ok (.iaload, 1) := by decide +kernel
theorem dX7_paidAll_52 : decode cX7_paidAll 52 = .ok (.iload_n 1, 1) := by decide +kernel
theorem dX7_paidAll_53 : decode cX7_paidAll 53 = .ok (.iload_n 2, 1) := by decide +kernel
theorem dX7_paidAll_54 : decode cX7_paidAll 54 = .ok (.invokevirtual 54, 3) := by decide +kernel
theorem dX7_paidAll_57 : decode cX7_paidAll 57 = .ok (.imul, 1) := by decide +kernel
theorem dX7_paidAll_58 : decode cX7_paidAll 58 = .ok (.iadd, 1) := by decide +kernel
theorem dX7_paidAll_59 : decode cX7_paidAll 59 = .ok (.istore 4, 2) := by decide +kernel
theorem dX7_paidAll_61 : decode cX7_paidAll 61 = .ok (.iinc 5 1, 3) := by decide +kernel
theorem dX7_paidAll_64 : decode cX7_paidAll 64 = .ok (.goto (-58), 3) := by decide +kernel
theorem dX7_paidAll_67 : decode cX7_paidAll 67 = .ok (.iload 4, 2) := by decide +kernel
theorem dX7_paidAll_69 : decode cX7_paidAll 69 = .ok (.ireturn, 1) := by decide +kernel
set_option maxRecDepth 20000 in
theorem ggX7_meet_X7_isContract : GoodIn wsX7_meet wsX7_isContract := goodIn_r _ [12, 2, 72, 73, 74, 75, 76, 77, 78, 79, 80, 81, 82, 83, 84, 85, 86, 87, 88, 89] (by decide +kernel) (by decide +kernel)
set_option maxRecDepth 20000 in
theorem gX7_meet_X7_isContract : GoodIn wsX7_meet (wsV RX7 92 RX7 yX7_isContract wsX7_isContract) := goodIn_app (goodIn_of _ (by decide +kernel)) ggX7_meet_X7_isContract
set_option maxRecDepth 20000 in
theorem ggX7_meet_X7_priceOf : GoodIn wsX7_meet wsX7_priceOf := goodIn_r _ [16, 2, 72, 73, 74, 75, 76, 77, 78, 79, 80, 81, 82, 83, 84, 85, 86, 87, 88, 89] (by decide +kernel) (by decide +kernel)
set_option maxRecDepth 20000 in
theorem gX7_meet_X7_priceOf : GoodIn wsX7_meet (wsV RX7 95 RX7 yX7_priceOf wsX7_priceOf) := goodIn_app (goodIn_of _ (by decide +kernel)) ggX7_meet_X7_priceOf
set_option maxRecDepth 20000 in
theorem ggX7_meet_X7_gives : GoodIn wsX7_meet wsX7_gives := goodIn_r _ [20, 5, 2, 3, 21, 6, 7, 22, 23, 24, 11, 25, 26, 27, 28, 29, 30, 31, 32, 33, 34, 35, 36, 37, 38, 39, 40, 41, 42, 43, 44, 72, 73, 74, 75, 76, 77, 78, 79, 80, 81, 82, 83, 84, 85, 86, 87, 88, 89] (by decide +kernel) (by decide +kernel)
set_option maxRecDepth 20000 in
theorem gX7_meet_X7_gives : GoodIn wsX7_meet (wsV RX7 111 RX7 yX7_gives wsX7_gives) := goodIn_app (goodIn_of _ (by decide +kernel)) ggX7_meet_X7_gives
set_option maxRecDepth 20000 in
theorem ggX7_meet_X7_monthOf : GoodIn wsX7_meet wsX7_monthOf := goodIn_r _ [48, 2, 72, 73, 74, 75, 76, 77, 78, 79, 80, 81, 82, 83, 84, 85, 86, 87, 88, 89] (by decide +kernel) (by decide +kernel)
set_option maxRecDepth 20000 in
theorem gX7_meet_X7_monthOf : GoodIn wsX7_meet (wsV RX7 114 RX7 yX7_monthOf wsX7_monthOf) := goodIn_app (goodIn_of _ (by decide +kernel)) ggX7_meet_X7_monthOf
set_option maxRecDepth 20000 in
theorem ggX7_meet_X7_changes : GoodIn wsX7_meet wsX7_changes := goodIn_r _ [52, 53, 54, 55, 2, 72, 73, 74, 75, 76, 77, 78, 79, 80, 81, 82, 83, 84, 85, 86, 87, 88, 89] (by decide +kernel) (by decide +kernel)
set_option maxRecDepth 20000 in
theorem gX7_meet_X7_changes : GoodIn wsX7_meet (wsV RX7 67 RX7 yX7_changes wsX7_changes) := goodIn_app (goodIn_of _ (by decide +kernel)) ggX7_meet_X7_changes
set_option maxRecDepth 20000 in
theorem ggX7_meet_X7_paidAll : GoodIn wsX7_meet wsX7_paidAll := goodIn_r _ [59, 5, 7, 6, 30, 31, 32, 11, 33, 2, 34, 35, 36, 37, 22, 23, 24, 25, 26, 27, 28, 29, 38, 39, 40, 41, 42, 43, 44, 72, 73, 74, 75, 76, 77, 78, 79, 80, 81, 82, 83, 84, 85, 86, 87, 88, 89] (by decide +kernel) (by decide +kernel)
set_option maxRecDepth 20000 in
theorem gX7_meet_X7_paidAll : GoodIn wsX7_meet (wsV RX7 117 RX7 yX7_paidAll wsX7_paidAll) := goodIn_app (goodIn_of _ (by decide +kernel)) ggX7_meet_X7_paidAll
set_option maxRecDepth 20000 in
theorem ggX7_meet_X7_of : GoodIn wsX7_meet wsX7_of := goodIn_r _ [29, 2, 72, 73, 74, 75, 76, 77, 78, 79, 80, 81, 82, 83, 84, 85, 86, 87, 88, 89] (by decide +kernel) (by decide +kernel)
set_option maxRecDepth 20000 in
theorem gX7_meet_X7_of : GoodIn wsX7_meet (wsV RX7 39 RX7 yX7_of wsX7_of) := goodIn_app (goodIn_of _ (by decide +kernel)) ggX7_meet_X7_of
set_option maxRecDepth 20000 in
theorem ggX7_meet_X7_takes : GoodIn wsX7_meet wsX7_takes := goodIn_r _ [63, 2, 64, 65, 66, 11, 67, 21, 26, 27, 28, 29, 72, 73, 74, 75, 76, 77, 78, 79, 80, 81, 82, 83, 84, 85, 86, 87, 88, 89] (by decide +kernel) (by decide +kernel)
set_option maxRecDepth 20000 in
theorem gX7_meet_X7_takes : GoodIn wsX7_meet (wsV RX7 78 RX7 yX7_takes wsX7_takes) := goodIn_app (goodIn_of _ (by decide +kernel)) ggX7_meet_X7_takes
set_option maxRecDepth 20000 in
theorem ggX7_meet_X7_closes : GoodIn wsX7_meet wsX7_closes := goodIn_r _ [71, 2, 72, 73, 74, 75, 76, 77, 78, 79, 80, 81, 82, 83, 84, 85, 86, 87, 88, 89] (by decide +kernel) (by decide +kernel)
set_option maxRecDepth 20000 in
theorem gX7_meet_X7_closes : GoodIn wsX7_meet (wsV RX7 98 RX7 yX7_closes wsX7_closes) := goodIn_app (goodIn_of _ (by decide +kernel)) ggX7_meet_X7_closes
theorem dX7_meet_0 : decode cX7_meet 0 = .ok (.aload_n 0, 1) := by decide +kernel
theorem dX7_meet_1 : decode cX7_meet 1 = .ok (.iload_n 1, 1) := by decide +kernel
theorem dX7_meet_2 : decode cX7_meet 2 = .ok (.invokevirtual 92, 3) := by decide +kernel
theorem dX7_meet_5 : decode cX7_meet 5 = .ok (.ifCond .ne 6, 3) := by decide +kernel
theorem dX7_meet_8 : decode cX7_meet 8 = .ok (.ldc 65, 2) := by decide +kernel
theorem dX7_meet_10 : decode cX7_meet 10 = .ok (.ireturn, 1) := by decide +kernel
theorem dX7_meet_11 : decode cX7_meet 11 = .ok (.aload_n 0, 1) := by decide +kernel
theorem dX7_meet_12 : decode cX7_meet 12 = .ok (.aload_n 0, 1) := by decide +kernel
theorem dX7_meet_13 : decode cX7_meet 13 = .ok (.iload_n 1, 1) := by decide +kernel
theorem dX7_meet_14 : decode cX7_meet 14 = .ok (.invokevirtual 95, 3) := by decide +kernel
theorem dX7_meet_17 : decode cX7_meet 17 = .ok (.aload_n 0, 1) := by decide +kernel
theorem dX7_meet_18 : decode cX7_meet 18 = .ok (.getfield 7, 3) := by decide +kernel
theorem dX7_meet_21 : decode cX7_meet 21 = .ok (.iconst 0, 1) := by decide +kernel
theorem dX7_meet_22 : decode cX7_meet 22 = .ok (.iaload, 1) := by decide +kernel
theorem dX7_meet_23 : decode cX7_meet 23 = .ok (.invokevirtual 111, 3) := by decide +kernel
theorem dX7_meet_26 : decode cX7_meet 26 = .ok (.aload_n 0, 1) := by decide +kernel
theorem dX7_meet_27 : decode cX7_meet 27 = .ok (.iload_n 1, 1) := by decide +kernel
theorem dX7_meet_28 : decode cX7_meet 28 = .ok (.invokevirtual 114, 3) := by decide +kernel
theorem dX7_meet_31 : decode cX7_meet 31 = .ok (.aload_n 0, 1) := by decide +kernel
theorem dX7_meet_32 : decode cX7_meet 32 = .ok (.getfield 7, 3) := by decide +kernel
theorem dX7_meet_35 : decode cX7_meet 35 = .ok (.iconst 0, 1) := by decide +kernel
theorem dX7_meet_36 : decode cX7_meet 36 = .ok (.iaload, 1) := by decide +kernel
theorem dX7_meet_37 : decode cX7_meet 37 = .ok (.if_icmp .ne 10, 3) := by decide +kernel
theorem dX7_meet_40 : decode cX7_meet 40 = .ok (.aload_n 0, 1) := by decide +kernel
theorem dX7_meet_41 : decode cX7_meet 41 = .ok (.getfield 105, 3) := by decide +kernel
theorem dX7_meet_44 : decode cX7_meet 44 = .ok (.ifCond .le 6, 3) := by decide +kernel
theorem dX7_meet_47 : decode cX7_meet 47 = .ok (.ldc 77, 2) := by decide +kernel
theorem dX7_meet_49 : decode cX7_meet 49 = .ok (.ireturn, 1) := by decide +kernel
theorem dX7_meet_50 : decode cX7_meet 50 = .ok (.aload_n 0, 1) := by decide +kernel
theorem dX7_meet_51 : decode cX7_meet 51 = .ok (.invokevirtual 67, 3) := by decide +kernel
theorem dX7_meet_54 : decode cX7_meet 54 = .ok (.aload_n 0, 1) := by decide +kernel
theorem dX7_meet_55 : decode cX7_meet 55 = .ok (.aload_n 0, 1) := by decide +kernel
theorem dX7_meet_56 : decode cX7_meet 56 = .ok (.iload_n 1, 1) := by decide +kernel
theorem dX7_meet_57 : decode cX7_meet 57 = .ok (.invokevirtual 95, 3) := by decide +kernel
theorem dX7_meet_60 : decode cX7_meet 60 = .ok (.aload_n 0, 1) := by decide +kernel
theorem dX7_meet_61 : decode cX7_meet 61 = .ok (.getfield 7, 3) := by decide +kernel
theorem dX7_meet_64 : decode cX7_meet 64 = .ok (.iconst 0, 1) := by decide +kernel
theorem dX7_meet_65 : decode cX7_meet 65 = .ok (.iaload, 1) := by decide +kernel
theorem dX7_meet_66 : decode cX7_meet 66 = .ok (.iconst 0, 1) := by decide +kernel
theorem dX7_meet_67 : decode cX7_meet 67 = .ok (.invokevirtual 117, 3) := by decide +kernel
theorem dX7_meet_70 : decode cX7_meet 70 = .ok (.istore_n 2, 1) := by decide +kernel
theorem dX7_meet_71 : decode cX7_meet 71 = .ok (.iconst 0, 1) := by decide +kernel
theorem dX7_meet_72 : decode cX7_meet 72 = .ok (.istore_n 3, 1) := by decide +kernel
theorem dX7_meet_73 : decode cX7_meet 73 = .ok (.iload_n 3, 1) := by decide +kernel
theorem dX7_meet_74 : decode cX7_meet 74 = .ok (.aload_n 0, 1) := by decide +kernel
theorem dX7_meet_75 : decode cX7_meet 75 = .ok (.getfield 102, 3) := by decide +kernel
theorem dX7_meet_78 : decode cX7_meet 78 = .ok (.if_icmp .ge 26, 3) := by decide +kernel
theorem dX7_meet_81 : decode cX7_meet 81 = .ok (.aload_n 0, 1) := by decide +kernel
theorem dX7_meet_82 : decode cX7_meet 82 = .ok (.getfield 22, 3) := by decide +kernel
theorem dX7_meet_85 : decode cX7_meet 85 = .ok (.iload_n 3, 1) := by decide +kernel
theorem dX7_meet_86 : decode cX7_meet 86 = .ok (.aload_n 0, 1) := by decide +kernel
theorem dX7_meet_87 : decode cX7_meet 87 = .ok (.aload_n 0, 1) := by decide +kernel
theorem dX7_meet_88 : decode cX7_meet 88 = .ok (.getfield 22, 3) := by decide +kernel
theorem dX7_meet_91 : decode cX7_meet 91 = .ok (.iload_n 3, 1) := by decide +kernel
theorem dX7_meet_92 : decode cX7_meet 92 = .ok (.iaload, 1) := by decide +kernel
theorem dX7_meet_93 : decode cX7_meet 93 = .ok (.iconst 0, 1) := by decide +kernel
theorem dX7_meet_94 : decode cX7_meet 94 = .ok (.invokevirtual 39, 3) := by decide +kernel
theorem dX7_meet_97 : decode cX7_meet 97 = .ok (.iastore, 1) := by decide +kernel
theorem dX7_meet_98 : decode cX7_meet 98 = .ok (.iinc 3 1, 3) := by decide +kernel
theorem dX7_meet_101 : decode cX7_meet 101 = .ok (.goto (-28), 3) := by decide +kernel
theorem dX7_meet_104 : decode cX7_meet 104 = .ok (.iconst 0, 1) := by decide +kernel
theorem dX7_meet_105 : decode cX7_meet 105 = .ok (.istore_n 3, 1) := by decide +kernel
theorem dX7_meet_106 : decode cX7_meet 106 = .ok (.iload_n 3, 1) := by decide +kernel
theorem dX7_meet_107 : decode cX7_meet 107 = .ok (.aload_n 0, 1) := by decide +kernel
theorem dX7_meet_108 : decode cX7_meet 108 = .ok (.getfield 102, 3) := by decide +kernel
theorem dX7_meet_111 : decode cX7_meet 111 = .ok (.if_icmp .ge 25, 3) := by decide +kernel
theorem dX7_meet_114 : decode cX7_meet 114 = .ok (.aload_n 0, 1) := by decide +kernel
theorem dX7_meet_115 : decode cX7_meet 115 = .ok (.aload_n 0, 1) := by decide +kernel
theorem dX7_meet_116 : decode cX7_meet 116 = .ok (.getfield 22, 3) := by decide +kernel
theorem dX7_meet_119 : decode cX7_meet 119 = .ok (.iload_n 3, 1) := by decide +kernel
theorem dX7_meet_120 : decode cX7_meet 120 = .ok (.iaload, 1) := by decide +kernel
theorem dX7_meet_121 : decode cX7_meet 121 = .ok (.aload_n 0, 1) := by decide +kernel
theorem dX7_meet_122 : decode cX7_meet 122 = .ok (.getfield 25, 3) := by decide +kernel
theorem dX7_meet_125 : decode cX7_meet 125 = .ok (.iload_n 3, 1) := by decide +kernel
theorem dX7_meet_126 : decode cX7_meet 126 = .ok (.iaload, 1) := by decide +kernel
theorem dX7_meet_127 : decode cX7_meet 127 = .ok (.invokevirtual 78, 3) := by decide +kernel
theorem dX7_meet_130 : decode cX7_meet 130 = .ok (.iinc 3 1, 3) := by decide +kernel
theorem dX7_meet_133 : decode cX7_meet 133 = .ok (.goto (-27), 3) := by decide +kernel
theorem dX7_meet_136 : decode cX7_meet 136 = .ok (.aload_n 0, 1) := by decide +kernel
theorem dX7_meet_137 : decode cX7_meet 137 = .ok (.getfield 7, 3) := by decide +kernel
theorem dX7_meet_140 : decode cX7_meet 140 = .ok (.iconst 1, 1) := by decide +kernel
theorem dX7_meet_141 : decode cX7_meet 141 = .ok (.dup2, 1) := by decide +kernel
theorem dX7_meet_142 : decode cX7_meet 142 = .ok (.iaload, 1) := by decide +kernel
theorem dX7_meet_143 : decode cX7_meet 143 = .ok (.iload_n 2, 1) := by decide +kernel
theorem dX7_meet_144 : decode cX7_meet 144 = .ok (.iadd, 1) := by decide +kernel
theorem dX7_meet_145 : decode cX7_meet 145 = .ok (.iastore, 1) := by decide +kernel
theorem dX7_meet_146 : decode cX7_meet 146 = .ok (.aload_n 0, 1) := by decide +kernel
theorem dX7_meet_147 : decode cX7_meet 147 = .ok (.getfield 7, 3) := by decide +kernel
theorem dX7_meet_150 : decode cX7_meet 150 = .ok (.iconst 2, 1) := by decide +kernel
theorem dX7_meet_151 : decode cX7_meet 151 = .ok (.dup2, 1) := by decide +kernel
theorem dX7_meet_152 : decode cX7_meet 152 = .ok (.iaload, 1) := by decide +kernel
theorem dX7_meet_153 : decode cX7_meet 153 = .ok (.iconst 1, 1) := by decide +kernel
theorem dX7_meet_154 : decode cX7_meet 154 = .ok (.iadd, 1) := by decide +kernel
theorem dX7_meet_155 : decode cX7_meet 155 = .ok (.iastore, 1) := by decide +kernel
theorem dX7_meet_156 : decode cX7_meet 156 = .ok (.aload_n 0, 1) := by decide +kernel
theorem dX7_meet_157 : decode cX7_meet 157 = .ok (.getfield 7, 3) := by decide +kernel
theorem dX7_meet_160 : decode cX7_meet 160 = .ok (.iconst 4, 1) := by decide +kernel
theorem dX7_meet_161 : decode cX7_meet 161 = .ok (.dup2, 1) := by decide +kernel
theorem dX7_meet_162 : decode cX7_meet 162 = .ok (.iaload, 1) := by decide +kernel
theorem dX7_meet_163 : decode cX7_meet 163 = .ok (.aload_n 0, 1) := by decide +kernel
theorem dX7_meet_164 : decode cX7_meet 164 = .ok (.getfield 7, 3) := by decide +kernel
theorem dX7_meet_167 : decode cX7_meet 167 = .ok (.bipush 8, 2) := by decide +kernel
theorem dX7_meet_169 : decode cX7_meet 169 = .ok (.iaload, 1) := by decide +kernel
theorem dX7_meet_170 : decode cX7_meet 170 = .ok (.iadd, 1) := by decide +kernel
theorem dX7_meet_171 : decode cX7_meet 171 = .ok (.iastore, 1) := by decide +kernel
theorem dX7_meet_172 : decode cX7_meet 172 = .ok (.aload_n 0, 1) := by decide +kernel
theorem dX7_meet_173 : decode cX7_meet 173 = .ok (.iload_n 1, 1) := by decide +kernel
theorem dX7_meet_174 : decode cX7_meet 174 = .ok (.invokevirtual 98, 3) := by decide +kernel
theorem dX7_meet_177 : decode cX7_meet 177 = .ok (.iload_n 2, 1) := by decide +kernel
theorem dX7_meet_178 : decode cX7_meet 178 = .ok (.ireturn, 1) := by decide +kernel
set_option maxRecDepth 20000 in
theorem ggX7_fails_X7_monthOf : GoodIn wsX7_fails wsX7_monthOf := goodIn_r _ [6, 1, 11, 12, 13, 14, 15, 16, 17, 18, 19, 20, 21, 22, 23, 24, 25, 26, 27, 28] (by decide +kernel) (by decide +kernel)
set_option maxRecDepth 20000 in
theorem gX7_fails_X7_monthOf : GoodIn wsX7_fails (wsV RX7 114 RX7 yX7_monthOf wsX7_monthOf) := goodIn_app (goodIn_of _ (by decide +kernel)) ggX7_fails_X7_monthOf
set_option maxRecDepth 20000 in
theorem ggX7_fails_X7_closes : GoodIn wsX7_fails wsX7_closes := goodIn_r _ [10, 1, 11, 12, 13, 14, 15, 16, 17, 18, 19, 20, 21, 22, 23, 24, 25, 26, 27, 28] (by decide +kernel) (by decide +kernel)
set_option maxRecDepth 20000 in
theorem gX7_fails_X7_closes : GoodIn wsX7_fails (wsV RX7 98 RX7 yX7_closes wsX7_closes) := goodIn_app (goodIn_of _ (by decide +kernel)) ggX7_fails_X7_closes
theorem dX7_fails_0 : decode cX7_fails 0 = .ok (.iconst 0, 1) := by decide +kernel
theorem dX7_fails_1 : decode cX7_fails 1 = .ok (.istore_n 1, 1) := by decide +kernel
theorem dX7_fails_2 : decode cX7_fails 2 = .ok (.aload_n 0, 1) := by decide +kernel
theorem dX7_fails_3 : decode cX7_fails 3 = .ok (.getfield 7, 3) := by decide +kernel
theorem dX7_fails_6 : decode cX7_fails 6 = .ok (.bipush 7, 2) := by decide +kernel
theorem dX7_fails_8 : decode cX7_fails 8 = .ok (.iaload, 1) := by decide +kernel
theorem dX7_fails_9 : decode cX7_fails 9 = .ok (.iconst 1, 1) := by decide +kernel
theorem dX7_fails_10 : decode cX7_fails 10 = .ok (.isub, 1) := by decide +kernel
theorem dX7_fails_11 : decode cX7_fails 11 = .ok (.istore_n 2, 1) := by decide +kernel
theorem dX7_fails_12 : decode cX7_fails 12 = .ok (.iload_n 2, 1) := by decide +kernel
theorem dX7_fails_13 : decode cX7_fails 13 = .ok (.ifCond .lt 65, 3) := by decide +kernel
theorem dX7_fails_16 : decode cX7_fails 16 = .ok (.aload_n 0, 1) := by decide +kernel
theorem dX7_fails_17 : decode cX7_fails 17 = .ok (.iload_n 2, 1) := by decide +kernel
theorem dX7_fails_18 : decode cX7_fails 18 = .ok (.invokevirtual 114, 3) := by decide +kernel
theorem dX7_fails_21 : decode cX7_fails 21 = .ok (.aload_n 0, 1) := by decide +kernel
theorem dX7_fails_22 : decode cX7_fails 22 = .ok (.getfield 7, 3) := by decide +kernel
theorem dX7_fails_25 : decode cX7_fails 25 = .ok (.iconst 0, 1) := by decide +kernel
theorem dX7_fails_26 : decode cX7_fails 26 = .ok (.iaload, 1) := by decide +kernel
theorem dX7_fails_27 : decode cX7_fails 27 = .ok (.if_icmp .ne 45, 3) := by decide +kernel
theorem dX7_fails_30 : decode cX7_fails 30 = .ok (.aload_n 0, 1) := by decide +kernel
theorem dX7_fails_31 : decode cX7_fails 31 = .ok (.iload_n 2, 1) := by decide +kernel
theorem dX7_fails_32 : decode cX7_fails 32 = .ok (.invokevirtual 98, 3) := by decide +kernel
theorem dX7_fails_35 : decode cX7_fails 35 = .ok (.aload_n 0, 1) := by decide +kernel
theorem dX7_fails_36 : decode cX7_fails 36 = .ok (.getfield 7, 3) := by decide +kernel
theorem dX7_fails_39 : decode cX7_fails 39 = .ok (.iconst 1, 1) := by decide +kernel
theorem dX7_fails_40 : decode cX7_fails 40 = .ok (.dup2, 1) := by decide +kernel
theorem dX7_fails_41 : decode cX7_fails 41 = .ok (.iaload, 1) := by decide +kernel
theorem dX7_fails_42 : decode cX7_fails 42 = .ok (.aload_n 0, 1) := by decide +kernel
theorem dX7_fails_43 : decode cX7_fails 43 = .ok (.getfield 7, 3) := by decide +kernel
theorem dX7_fails_46 : decode cX7_fails 46 = .ok (.bipush 8, 2) := by decide +kernel
theorem dX7_fails_48 : decode cX7_fails 48 = .ok (.iaload, 1) := by decide +kernel
theorem dX7_fails_49 : decode cX7_fails 49 = .ok (.aload_n 0, 1) := by decide +kernel
theorem dX7_fails_50 : decode cX7_fails 50 = .ok (.getfield 7, 3) := by decide +kernel
theorem dX7_fails_53 : decode cX7_fails 53 = .ok (.bipush 12, 2) := by decide +kernel
theorem dX7_fails_55 : decode cX7_fails 55 = .ok (.iaload, 1) := by decide +kernel
theorem dX7_fails_56 : decode cX7_fails 56 = .ok (.imul, 1) := by decide +kernel
theorem dX7_fails_57 : decode cX7_fails 57 = .ok (.isub, 1) := by decide +kernel
theorem dX7_fails_58 : decode cX7_fails 58 = .ok (.iastore, 1) := by decide +kernel
theorem dX7_fails_59 : decode cX7_fails 59 = .ok (.aload_n 0, 1) := by decide +kernel
theorem dX7_fails_60 : decode cX7_fails 60 = .ok (.getfield 7, 3) := by decide +kernel
theorem dX7_fails_63 : decode cX7_fails 63 = .ok (.iconst 3, 1) := by decide +kernel
theorem dX7_fails_64 : decode cX7_fails 64 = .ok (.dup2, 1) := by decide +kernel
theorem dX7_fails_65 : decode cX7_fails 65 = .ok (.iaload, 1) := by decide +kernel
theorem dX7_fails_66 : decode cX7_fails 66 = .ok (.iconst 1, 1) := by decide +kernel
theorem dX7_fails_67 : decode cX7_fails 67 = .ok (.iadd, 1) := by decide +kernel
theorem dX7_fails_68 : decode cX7_fails 68 = .ok (.iastore, 1) := by decide +kernel
theorem dX7_fails_69 : decode cX7_fails 69 = .ok (.iinc 1 1, 3) := by decide +kernel
theorem dX7_fails_72 : decode cX7_fails 72 = .ok (.iinc 2 (-1), 3) := by decide +kernel
theorem dX7_fails_75 : decode cX7_fails 75 = .ok (.goto (-63), 3) := by decide +kernel
theorem dX7_fails_78 : decode cX7_fails 78 = .ok (.iload_n 1, 1) := by decide +kernel
theorem dX7_fails_79 : decode cX7_fails 79 = .ok (.ireturn, 1) := by decide +kernel
set_option maxRecDepth 20000 in
theorem ggX7_pass_X7_in : GoodIn wsX7_pass wsX7_in := goodIn_r _ [7] (by decide +kernel) (by decide +kernel)
set_option maxRecDepth 20000 in
theorem gX7_pass_X7_in : GoodIn wsX7_pass (va_wsS RX7 61 yX7_in wsX7_in) := goodIn_app (goodIn_of _ (by decide +kernel)) ggX7_pass_X7_in
set_option maxRecDepth 20000 in
theorem ggX7_pass_X7_changes : GoodIn wsX7_pass wsX7_changes := goodIn_r _ [11, 12, 13, 14, 2, 27, 28, 29, 30, 31, 32, 33, 34, 35, 36, 37, 38, 39, 40, 41, 42, 43, 44] (by decide +kernel) (by decide +kernel)
set_option maxRecDepth 20000 in
theorem gX7_pass_X7_changes : GoodIn wsX7_pass (wsV RX7 67 RX7 yX7_changes wsX7_changes) := goodIn_app (goodIn_of _ (by decide +kernel)) ggX7_pass_X7_changes
set_option maxRecDepth 20000 in
theorem ggX7_pass_X7_fails : GoodIn wsX7_pass wsX7_fails := goodIn_r _ [18, 2, 19, 20, 21, 6, 22, 23, 24, 25, 26, 27, 28, 29, 30, 31, 32, 33, 34, 35, 36, 37, 38, 39, 40, 41, 42, 43, 44] (by decide +kernel) (by decide +kernel)
set_option maxRecDepth 20000 in
theorem gX7_pass_X7_fails : GoodIn wsX7_pass (wsV RX7 121 RX7 yX7_fails wsX7_fails) := goodIn_app (goodIn_of _ (by decide +kernel)) ggX7_pass_X7_fails
theorem dX7_pass_0 : decode cX7_pass 0 = .ok (.iload_n 1, 1) := by decide +kernel
theorem dX7_pass_1 : decode cX7_pass 1 = .ok (.iconst 1, 1) := by decide +kernel
theorem dX7_pass_2 : decode cX7_pass 2 = .ok (.bipush 24, 2) := by decide +kernel
theorem dX7_pass_4 : decode cX7_pass 4 = .ok (.invokestatic 61, 3) := by decide +kernel
theorem dX7_pass_7 : decode cX7_pass 7 = .ok (.ifCond .ne 6, 3) := by decide +kernel
theorem dX7_pass_10 : decode cX7_pass 10 = .ok (.ldc 65, 2) := by decide +kernel
theorem dX7_pass_12 : decode cX7_pass 12 = .ok (.ireturn, 1) := by decide +kernel
theorem dX7_pass_13 : decode cX7_pass 13 = .ok (.aload_n 0, 1) := by decide +kernel
theorem dX7_pass_14 : decode cX7_pass 14 = .ok (.getfield 7, 3) := by decide +kernel
theorem dX7_pass_17 : decode cX7_pass 17 = .ok (.iconst 0, 1) := by decide +kernel
theorem dX7_pass_18 : decode cX7_pass 18 = .ok (.iaload, 1) := by decide +kernel
theorem dX7_pass_19 : decode cX7_pass 19 = .ok (.iload_n 1, 1) := by decide +kernel
theorem dX7_pass_20 : decode cX7_pass 20 = .ok (.iadd, 1) := by decide +kernel
theorem dX7_pass_21 : decode cX7_pass 21 = .ok (.sipush 999, 3) := by decide +kernel
theorem dX7_pass_24 : decode cX7_pass 24 = .ok (.if_icmp .le 6, 3) := by decide +kernel
theorem dX7_pass_27 : decode cX7_pass 27 = .ok (.ldc 66, 2) := by decide +kernel
theorem dX7_pass_29 : decode cX7_pass 29 = .ok (.ireturn, 1) := by decide +kernel
theorem dX7_pass_30 : decode cX7_pass 30 = .ok (.aload_n 0, 1) := by decide +kernel
theorem dX7_pass_31 : decode cX7_pass 31 = .ok (.invokevirtual 67, 3) := by decide +kernel
theorem dX7_pass_34 : decode cX7_pass 34 = .ok (.iconst 0, 1) := by decide +kernel
theorem dX7_pass_35 : decode cX7_pass 35 = .ok (.istore_n 2, 1) := by decide +kernel
theorem dX7_pass_36 : decode cX7_pass 36 = .ok (.iconst 0, 1) := by decide +kernel
theorem dX7_pass_37 : decode cX7_pass 37 = .ok (.istore_n 3, 1) := by decide +kernel
theorem dX7_pass_38 : decode cX7_pass 38 = .ok (.iload_n 3, 1) := by decide +kernel
theorem dX7_pass_39 : decode cX7_pass 39 = .ok (.iload_n 1, 1) := by decide +kernel
theorem dX7_pass_40 : decode cX7_pass 40 = .ok (.if_icmp .ge 26, 3) := by decide +kernel
theorem dX7_pass_43 : decode cX7_pass 43 = .ok (.iload_n 2, 1) := by decide +kernel
theorem dX7_pass_44 : decode cX7_pass 44 = .ok (.aload_n 0, 1) := by decide +kernel
theorem dX7_pass_45 : decode cX7_pass 45 = .ok (.invokevirtual 121, 3) := by decide +kernel
theorem dX7_pass_48 : decode cX7_pass 48 = .ok (.iadd, 1) := by decide +kernel
theorem dX7_pass_49 : decode cX7_pass 49 = .ok (.istore_n 2, 1) := by decide +kernel
theorem dX7_pass_50 : decode cX7_pass 50 = .ok (.aload_n 0, 1) := by decide +kernel
theorem dX7_pass_51 : decode cX7_pass 51 = .ok (.getfield 7, 3) := by decide +kernel
theorem dX7_pass_54 : decode cX7_pass 54 = .ok (.iconst 0, 1) := by decide +kernel
theorem dX7_pass_55 : decode cX7_pass 55 = .ok (.dup2, 1) := by decide +kernel
theorem dX7_pass_56 : decode cX7_pass 56 = .ok (.iaload, 1) := by decide +kernel
theorem dX7_pass_57 : decode cX7_pass 57 = .ok (.iconst 1, 1) := by decide +kernel
theorem dX7_pass_58 : decode cX7_pass 58 = .ok (.iadd, 1) := by decide +kernel
theorem dX7_pass_59 : decode cX7_pass 59 = .ok (.iastore, 1) := by decide +kernel
theorem dX7_pass_60 : decode cX7_pass 60 = .ok (.iinc 3 1, 3) := by decide +kernel
theorem dX7_pass_63 : decode cX7_pass 63 = .ok (.goto (-25), 3) := by decide +kernel
theorem dX7_pass_66 : decode cX7_pass 66 = .ok (.iload_n 2, 1) := by decide +kernel
theorem dX7_pass_67 : decode cX7_pass 67 = .ok (.ireturn, 1) := by decide +kernel
set_option maxRecDepth 20000 in
theorem ggX7_set_X7_in : GoodIn wsX7_set wsX7_in := goodIn_r _ [7] (by decide +kernel) (by decide +kernel)
set_option maxRecDepth 20000 in
theorem gX7_set_X7_in : GoodIn wsX7_set (va_wsS RX7 61 yX7_in wsX7_in) := goodIn_app (goodIn_of _ (by decide +kernel)) ggX7_set_X7_in
set_option maxRecDepth 20000 in
theorem ggX7_set_X7_changes : GoodIn wsX7_set wsX7_changes := goodIn_r _ [11, 12, 13, 14, 2, 15, 16, 17, 18, 19, 20, 21, 22, 23, 24, 25, 26, 27, 28, 29, 30, 31, 32] (by decide +kernel) (by decide +kernel)
set_option maxRecDepth 20000 in
theorem gX7_set_X7_changes : GoodIn wsX7_set (wsV RX7 67 RX7 yX7_changes wsX7_changes) := goodIn_app (goodIn_of _ (by decide +kernel)) ggX7_set_X7_changes
theorem dX7_set_0 : decode cX7_set 0 = .ok (.iload_n 1, 1) := by decide +kernel
theorem dX7_set_1 : decode cX7_set 1 = .ok (.iconst 2, 1) := by decide +kernel
theorem dX7_set_2 : decode cX7_set 2 = .ok (.if_icmp .ge 7, 3) := by decide +kernel
theorem dX7_set_5 : decode cX7_set 5 = .ok (.iconst 1, 1) := by decide +kernel
theorem dX7_set_6 : decode cX7_set 6 = .ok (.goto 4, 3) := by decide +kernel
theorem dX7_set_9 : decode cX7_set 9 = .ok (.iconst 0, 1) := by decide +kernel
theorem dX7_set_10 : decode cX7_set 10 = .ok (.istore_n 3, 1) := by decide +kernel
theorem dX7_set_11 : decode cX7_set 11 = .ok (.iload_n 1, 1) := by decide +kernel
theorem dX7_set_12 : decode cX7_set 12 = .ok (.ifCond .ne 9, 3) := by decide +kernel
theorem dX7_set_15 : decode cX7_set 15 = .ok (.sipush 250, 3) := by decide +kernel
theorem dX7_set_18 : decode cX7_set 18 = .ok (.goto 27, 3) := by decide +kernel
theorem dX7_set_21 : decode cX7_set 21 = .ok (.iload_n 1, 1) := by decide +kernel
theorem dX7_set_22 : decode cX7_set 22 = .ok (.iconst 1, 1) := by decide +kernel
theorem dX7_set_23 : decode cX7_set 23 = .ok (.if_icmp .ne 9, 3) := by decide +kernel
theorem dX7_set_26 : decode cX7_set 26 = .ok (.sipush 4095, 3) := by decide +kernel
theorem dX7_set_29 : decode cX7_set 29 = .ok (.goto 16, 3) := by decide +kernel
theorem dX7_set_32 : decode cX7_set 32 = .ok (.iload_n 1, 1) := by decide +kernel
theorem dX7_set_33 : decode cX7_set 33 = .ok (.iconst 4, 1) := by decide +kernel
theorem dX7_set_34 : decode cX7_set 34 = .ok (.if_icmp .ne 9, 3) := by decide +kernel
theorem dX7_set_37 : decode cX7_set 37 = .ok (.sipush 999, 3) := by decide +kernel
theorem dX7_set_40 : decode cX7_set 40 = .ok (.goto 5, 3) := by decide +kernel
theorem dX7_set_43 : decode cX7_set 43 = .ok (.bipush 50, 2) := by decide +kernel
theorem dX7_set_45 : decode cX7_set 45 = .ok (.istore 4, 2) := by decide +kernel
theorem dX7_set_47 : decode cX7_set 47 = .ok (.iload_n 1, 1) := by decide +kernel
theorem dX7_set_48 : decode cX7_set 48 = .ok (.iconst 0, 1) := by decide +kernel
theorem dX7_set_49 : decode cX7_set 49 = .ok (.iconst 4, 1) := by decide +kernel
theorem dX7_set_50 : decode cX7_set 50 = .ok (.invokestatic 61, 3) := by decide +kernel
theorem dX7_set_53 : decode cX7_set 53 = .ok (.ifCond .eq 13, 3) := by decide +kernel
theorem dX7_set_56 : decode cX7_set 56 = .ok (.iload_n 2, 1) := by decide +kernel
theorem dX7_set_57 : decode cX7_set 57 = .ok (.iload_n 3, 1) := by decide +kernel
theorem dX7_set_58 : decode cX7_set 58 = .ok (.iload 4, 2) := by decide +kernel
theorem dX7_set_60 : decode cX7_set 60 = .ok (.invokestatic 61, 3) := by decide +kernel
theorem dX7_set_63 : decode cX7_set 63 = .ok (.ifCond .ne 6, 3) := by decide +kernel
theorem dX7_set_66 : decode cX7_set 66 = .ok (.ldc 65, 2) := by decide +kernel
theorem dX7_set_68 : decode cX7_set 68 = .ok (.ireturn, 1) := by decide +kernel
theorem dX7_set_69 : decode cX7_set 69 = .ok (.iload_n 1, 1) := by decide +kernel
theorem dX7_set_70 : decode cX7_set 70 = .ok (.ifCond .ne 16, 3) := by decide +kernel
theorem dX7_set_73 : decode cX7_set 73 = .ok (.aload_n 0, 1) := by decide +kernel
theorem dX7_set_74 : decode cX7_set 74 = .ok (.getfield 7, 3) := by decide +kernel
theorem dX7_set_77 : decode cX7_set 77 = .ok (.bipush 7, 2) := by decide +kernel
theorem dX7_set_79 : decode cX7_set 79 = .ok (.iaload, 1) := by decide +kernel
theorem dX7_set_80 : decode cX7_set 80 = .ok (.ifCond .le 6, 3) := by decide +kernel
theorem dX7_set_83 : decode cX7_set 83 = .ok (.ldc 77, 2) := by decide +kernel
theorem dX7_set_85 : decode cX7_set 85 = .ok (.ireturn, 1) := by decide +kernel
theorem dX7_set_86 : decode cX7_set 86 = .ok (.aload_n 0, 1) := by decide +kernel
theorem dX7_set_87 : decode cX7_set 87 = .ok (.invokevirtual 67, 3) := by decide +kernel
theorem dX7_set_90 : decode cX7_set 90 = .ok (.aload_n 0, 1) := by decide +kernel
theorem dX7_set_91 : decode cX7_set 91 = .ok (.getfield 7, 3) := by decide +kernel
theorem dX7_set_94 : decode cX7_set 94 = .ok (.bipush 8, 2) := by decide +kernel
theorem dX7_set_96 : decode cX7_set 96 = .ok (.iload_n 1, 1) := by decide +kernel
theorem dX7_set_97 : decode cX7_set 97 = .ok (.iadd, 1) := by decide +kernel
theorem dX7_set_98 : decode cX7_set 98 = .ok (.iaload, 1) := by decide +kernel
theorem dX7_set_99 : decode cX7_set 99 = .ok (.istore 5, 2) := by decide +kernel
theorem dX7_set_101 : decode cX7_set 101 = .ok (.aload_n 0, 1) := by decide +kernel
theorem dX7_set_102 : decode cX7_set 102 = .ok (.getfield 7, 3) := by decide +kernel
theorem dX7_set_105 : decode cX7_set 105 = .ok (.bipush 8, 2) := by decide +kernel
theorem dX7_set_107 : decode cX7_set 107 = .ok (.iload_n 1, 1) := by decide +kernel
theorem dX7_set_108 : decode cX7_set 108 = .ok (.iadd, 1) := by decide +kernel
theorem dX7_set_109 : decode cX7_set 109 = .ok (.iload_n 2, 1) := by decide +kernel
theorem dX7_set_110 : decode cX7_set 110 = .ok (.iastore, 1) := by decide +kernel
theorem dX7_set_111 : decode cX7_set 111 = .ok (.iload 5, 2) := by decide +kernel
theorem dX7_set_113 : decode cX7_set 113 = .ok (.ireturn, 1) := by decide +kernel
set_option maxRecDepth 20000 in
theorem ggX7_lotOf_X7_isLot : GoodIn wsX7_lotOf wsX7_isLot := goodIn_r _ [7, 8, 9, 10, 6, 11, 2, 12, 13, 14, 15, 16, 35, 36, 37, 38, 39, 40, 41, 42, 43, 44, 45, 46, 47, 48, 49, 50, 51, 52] (by decide +kernel) (by decide +kernel)
set_option maxRecDepth 20000 in
theorem gX7_lotOf_X7_isLot : GoodIn wsX7_lotOf (wsV RX7 73 RX7 yX7_isLot wsX7_isLot) := goodIn_app (goodIn_of _ (by decide +kernel)) ggX7_lotOf_X7_isLot
set_option maxRecDepth 20000 in
theorem ggX7_lotOf_X7_in : GoodIn wsX7_lotOf wsX7_in := goodIn_r _ [19] (by decide +kernel) (by decide +kernel)
set_option maxRecDepth 20000 in
theorem gX7_lotOf_X7_in : GoodIn wsX7_lotOf (va_wsS RX7 61 yX7_in wsX7_in) := goodIn_app (goodIn_of _ (by decide +kernel)) ggX7_lotOf_X7_in
set_option maxRecDepth 20000 in
theorem ggX7_lotOf_X7_placeOf : GoodIn wsX7_lotOf wsX7_placeOf := goodIn_r _ [11, 2, 12, 13, 14, 15, 6, 16, 35, 36, 37, 38, 39, 40, 41, 42, 43, 44, 45, 46, 47, 48, 49, 50, 51, 52] (by decide +kernel) (by decide +kernel)
set_option maxRecDepth 20000 in
theorem gX7_lotOf_X7_placeOf : GoodIn wsX7_lotOf (wsV RX7 44 RX7 yX7_placeOf wsX7_placeOf) := goodIn_app (goodIn_of _ (by decide +kernel)) ggX7_lotOf_X7_placeOf
set_option maxRecDepth 20000 in
theorem ggX7_lotOf_X7_of : GoodIn wsX7_lotOf wsX7_of := goodIn_r _ [16, 2, 35, 36, 37, 38, 39, 40, 41, 42, 43, 44, 45, 46, 47, 48, 49, 50, 51, 52] (by decide +kernel) (by decide +kernel)
set_option maxRecDepth 20000 in
theorem gX7_lotOf_X7_of : GoodIn wsX7_lotOf (wsV RX7 39 RX7 yX7_of wsX7_of) := goodIn_app (goodIn_of _ (by decide +kernel)) ggX7_lotOf_X7_of
set_option maxRecDepth 20000 in
theorem ggX7_lotOf_X7_cupOf : GoodIn wsX7_lotOf wsX7_cupOf := goodIn_r _ [23, 2, 24, 25, 26, 6, 27, 13, 14, 15, 16, 35, 36, 37, 38, 39, 40, 41, 42, 43, 44, 45, 46, 47, 48, 49, 50, 51, 52] (by decide +kernel) (by decide +kernel)
set_option maxRecDepth 20000 in
theorem gX7_lotOf_X7_cupOf : GoodIn wsX7_lotOf (wsV RX7 82 RX7 yX7_cupOf wsX7_cupOf) := goodIn_app (goodIn_of _ (by decide +kernel)) ggX7_lotOf_X7_cupOf
set_option maxRecDepth 20000 in
theorem ggX7_lotOf_X7_bandOf : GoodIn wsX7_lotOf wsX7_bandOf := goodIn_r _ [30] (by decide +kernel) (by decide +kernel)
set_option maxRecDepth 20000 in
theorem gX7_lotOf_X7_bandOf : GoodIn wsX7_lotOf (va_wsS RX7 58 yX7_bandOf wsX7_bandOf) := goodIn_app (goodIn_of _ (by decide +kernel)) ggX7_lotOf_X7_bandOf
set_option maxRecDepth 20000 in
theorem ggX7_lotOf_X7_lateAt : GoodIn wsX7_lotOf wsX7_lateAt := goodIn_r _ [34, 13, 14, 15, 6, 16, 2, 35, 36, 37, 38, 39, 40, 41, 42, 43, 44, 45, 46, 47, 48, 49, 50, 51, 52] (by decide +kernel) (by decide +kernel)
set_option maxRecDepth 20000 in
theorem gX7_lotOf_X7_lateAt : GoodIn wsX7_lotOf (wsV RX7 51 RX7 yX7_lateAt wsX7_lateAt) := goodIn_app (goodIn_of _ (by decide +kernel)) ggX7_lotOf_X7_lateAt
theorem dX7_lotOf_0 : decode cX7_lotOf 0 = .ok (.aload_n 0, 1) := by decide +kernel
theorem dX7_lotOf_1 : decode cX7_lotOf 1 = .ok (.iload_n 1, 1) := by decide +kernel
theorem dX7_lotOf_2 : decode cX7_lotOf 2 = .ok (.invokevirtual 73, 3) := by decide +kernel
theorem dX7_lotOf_5 : decode cX7_lotOf 5 = .ok (.ifCond .eq 13, 3) := by decide +kernel
theorem dX7_lotOf_8 : decode cX7_lotOf 8 = .ok (.iload_n 2, 1) := by decide +kernel
theorem dX7_lotOf_9 : decode cX7_lotOf 9 = .ok (.iconst 0, 1) := by decide +kernel
theorem dX7_lotOf_10 : decode cX7_lotOf 10 = .ok (.bipush 6, 2) := by decide +kernel
theorem dX7_lotOf_12 : decode cX7_lotOf 12 = .ok (.invokestatic 61, 3) := by decide +kernel
theorem dX7_lotOf_15 : decode cX7_lotOf 15 = .ok (.ifCond .ne 6, 3) := by decide +kernel
theorem dX7_lotOf_18 : decode cX7_lotOf 18 = .ok (.ldc 65, 2) := by decide +kernel
theorem dX7_lotOf_20 : decode cX7_lotOf 20 = .ok (.ireturn, 1) := by decide +kernel
theorem dX7_lotOf_21 : decode cX7_lotOf 21 = .ok (.aload_n 0, 1) := by decide +kernel
theorem dX7_lotOf_22 : decode cX7_lotOf 22 = .ok (.iload_n 1, 1) := by decide +kernel
theorem dX7_lotOf_23 : decode cX7_lotOf 23 = .ok (.invokevirtual 44, 3) := by decide +kernel
theorem dX7_lotOf_26 : decode cX7_lotOf 26 = .ok (.istore_n 3, 1) := by decide +kernel
theorem dX7_lotOf_27 : decode cX7_lotOf 27 = .ok (.iload_n 2, 1) := by decide +kernel
theorem dX7_lotOf_28 : decode cX7_lotOf 28 = .ok (.tableswitch 84 0 5 #[40, 40, 40, 49, 55, 72], 40) := by decide +kernel
theorem dX7_lotOf_68 : decode cX7_lotOf 68 = .ok (.aload_n 0, 1) := by decide +kernel
theorem dX7_lotOf_69 : decode cX7_lotOf 69 = .ok (.iload_n 3, 1) := by decide +kernel
theorem dX7_lotOf_70 : decode cX7_lotOf 70 = .ok (.iload_n 2, 1) := by decide +kernel
theorem dX7_lotOf_71 : decode cX7_lotOf 71 = .ok (.iconst 1, 1) := by decide +kernel
theorem dX7_lotOf_72 : decode cX7_lotOf 72 = .ok (.iadd, 1) := by decide +kernel
theorem dX7_lotOf_73 : decode cX7_lotOf 73 = .ok (.invokevirtual 39, 3) := by decide +kernel
theorem dX7_lotOf_76 : decode cX7_lotOf 76 = .ok (.ireturn, 1) := by decide +kernel
theorem dX7_lotOf_77 : decode cX7_lotOf 77 = .ok (.aload_n 0, 1) := by decide +kernel
theorem dX7_lotOf_78 : decode cX7_lotOf 78 = .ok (.iload_n 3, 1) := by decide +kernel
theorem dX7_lotOf_79 : decode cX7_lotOf 79 = .ok (.invokevirtual 82, 3) := by decide +kernel
theorem dX7_lotOf_82 : decode cX7_lotOf 82 = .ok (.ireturn, 1) := by decide +kernel
theorem dX7_lotOf_83 : decode cX7_lotOf 83 = .ok (.aload_n 0, 1) := by decide +kernel
theorem dX7_lotOf_84 : decode cX7_lotOf 84 = .ok (.getfield 7, 3) := by decide +kernel
theorem dX7_lotOf_87 : decode cX7_lotOf 87 = .ok (.bipush 13, 2) := by decide +kernel
theorem dX7_lotOf_89 : decode cX7_lotOf 89 = .ok (.aload_n 0, 1) := by decide +kernel
theorem dX7_lotOf_90 : decode cX7_lotOf 90 = .ok (.iload_n 3, 1) := by decide +kernel
theorem dX7_lotOf_91 : decode cX7_lotOf 91 = .ok (.invokevirtual 82, 3) := by decide +kernel
theorem dX7_lotOf_94 : decode cX7_lotOf 94 = .ok (.invokestatic 58, 3) := by decide +kernel
theorem dX7_lotOf_97 : decode cX7_lotOf 97 = .ok (.iadd, 1) := by decide +kernel
theorem dX7_lotOf_98 : decode cX7_lotOf 98 = .ok (.iaload, 1) := by decide +kernel
theorem dX7_lotOf_99 : decode cX7_lotOf 99 = .ok (.ireturn, 1) := by decide +kernel
theorem dX7_lotOf_100 : decode cX7_lotOf 100 = .ok (.aload_n 0, 1) := by decide +kernel
theorem dX7_lotOf_101 : decode cX7_lotOf 101 = .ok (.iload_n 3, 1) := by decide +kernel
theorem dX7_lotOf_102 : decode cX7_lotOf 102 = .ok (.aload_n 0, 1) := by decide +kernel
theorem dX7_lotOf_103 : decode cX7_lotOf 103 = .ok (.getfield 7, 3) := by decide +kernel
theorem dX7_lotOf_106 : decode cX7_lotOf 106 = .ok (.iconst 0, 1) := by decide +kernel
theorem dX7_lotOf_107 : decode cX7_lotOf 107 = .ok (.iaload, 1) := by decide +kernel
theorem dX7_lotOf_108 : decode cX7_lotOf 108 = .ok (.invokevirtual 51, 3) := by decide +kernel
theorem dX7_lotOf_111 : decode cX7_lotOf 111 = .ok (.ireturn, 1) := by decide +kernel
theorem dX7_lotOf_112 : decode cX7_lotOf 112 = .ok (.aload_n 0, 1) := by decide +kernel
theorem dX7_lotOf_113 : decode cX7_lotOf 113 = .ok (.iload_n 3, 1) := by decide +kernel
theorem dX7_lotOf_114 : decode cX7_lotOf 114 = .ok (.invokevirtual 82, 3) := by decide +kernel
theorem dX7_lotOf_117 : decode cX7_lotOf 117 = .ok (.invokestatic 58, 3) := by decide +kernel
theorem dX7_lotOf_120 : decode cX7_lotOf 120 = .ok (.ireturn, 1) := by decide +kernel
set_option maxRecDepth 20000 in
theorem ggX7_numberOf_X7_of : GoodIn wsX7_numberOf wsX7_of := goodIn_r _ [8, 2, 9, 10, 11, 12, 13, 14, 15, 16, 17, 18, 19, 20, 21, 22, 23, 24, 25, 26] (by decide +kernel) (by decide +kernel)
set_option maxRecDepth 20000 in
theorem gX7_numberOf_X7_of : GoodIn wsX7_numberOf (wsV RX7 39 RX7 yX7_of wsX7_of) := goodIn_app (goodIn_of _ (by decide +kernel)) ggX7_numberOf_X7_of
theorem dX7_numberOf_0 : decode cX7_numberOf 0 = .ok (.iload_n 1, 1) := by decide +kernel
theorem dX7_numberOf_1 : decode cX7_numberOf 1 = .ok (.ifCond .ge 8, 3) := by decide +kernel
theorem dX7_numberOf_4 : decode cX7_numberOf 4 = .ok (.ldc 65, 2) := by decide +kernel
theorem dX7_numberOf_6 : decode cX7_numberOf 6 = .ok (.goto 25, 3) := by decide +kernel
theorem dX7_numberOf_9 : decode cX7_numberOf 9 = .ok (.iload_n 1, 1) := by decide +kernel
theorem dX7_numberOf_10 : decode cX7_numberOf 10 = .ok (.aload_n 0, 1) := by decide +kernel
theorem dX7_numberOf_11 : decode cX7_numberOf 11 = .ok (.getfield 7, 3) := by decide +kernel
theorem dX7_numberOf_14 : decode cX7_numberOf 14 = .ok (.bipush 6, 2) := by decide +kernel
theorem dX7_numberOf_16 : decode cX7_numberOf 16 = .ok (.iaload, 1) := by decide +kernel
theorem dX7_numberOf_17 : decode cX7_numberOf 17 = .ok (.if_icmp .lt 8, 3) := by decide +kernel
theorem dX7_numberOf_20 : decode cX7_numberOf 20 = .ok (.ldc 43, 2) := by decide +kernel
theorem dX7_numberOf_22 : decode cX7_numberOf 22 = .ok (.goto 9, 3) := by decide +kernel
theorem dX7_numberOf_25 : decode cX7_numberOf 25 = .ok (.aload_n 0, 1) := by decide +kernel
theorem dX7_numberOf_26 : decode cX7_numberOf 26 = .ok (.iload_n 1, 1) := by decide +kernel
theorem dX7_numberOf_27 : decode cX7_numberOf 27 = .ok (.iconst 0, 1) := by decide +kernel
theorem dX7_numberOf_28 : decode cX7_numberOf 28 = .ok (.invokevirtual 39, 3) := by decide +kernel
theorem dX7_numberOf_31 : decode cX7_numberOf 31 = .ok (.ireturn, 1) := by decide +kernel
set_option maxRecDepth 20000 in
theorem ggX7_contractOf_X7_isContract : GoodIn wsX7_contractOf wsX7_isContract := goodIn_r _ [7, 2, 19, 20, 21, 22, 23, 24, 25, 26, 27, 28, 29, 30, 31, 32, 33, 34, 35, 36] (by decide +kernel) (by decide +kernel)
set_option maxRecDepth 20000 in
theorem gX7_contractOf_X7_isContract : GoodIn wsX7_contractOf (wsV RX7 92 RX7 yX7_isContract wsX7_isContract) := goodIn_app (goodIn_of _ (by decide +kernel)) ggX7_contractOf_X7_isContract
set_option maxRecDepth 20000 in
theorem ggX7_contractOf_X7_in : GoodIn wsX7_contractOf wsX7_in := goodIn_r _ [10] (by decide +kernel) (by decide +kernel)
set_option maxRecDepth 20000 in
theorem gX7_contractOf_X7_in : GoodIn wsX7_contractOf (va_wsS RX7 61 yX7_in wsX7_in) := goodIn_app (goodIn_of _ (by decide +kernel)) ggX7_contractOf_X7_in
set_option maxRecDepth 20000 in
theorem ggX7_contractOf_X7_monthOf : GoodIn wsX7_contractOf wsX7_monthOf := goodIn_r _ [14, 2, 19, 20, 21, 22, 23, 24, 25, 26, 27, 28, 29, 30, 31, 32, 33, 34, 35, 36] (by decide +kernel) (by decide +kernel)
set_option maxRecDepth 20000 in
theorem gX7_contractOf_X7_monthOf : GoodIn wsX7_contractOf (wsV RX7 114 RX7 yX7_monthOf wsX7_monthOf) := goodIn_app (goodIn_of _ (by decide +kernel)) ggX7_contractOf_X7_monthOf
set_option maxRecDepth 20000 in
theorem ggX7_contractOf_X7_priceOf : GoodIn wsX7_contractOf wsX7_priceOf := goodIn_r _ [18, 2, 19, 20, 21, 22, 23, 24, 25, 26, 27, 28, 29, 30, 31, 32, 33, 34, 35, 36] (by decide +kernel) (by decide +kernel)
set_option maxRecDepth 20000 in
theorem gX7_contractOf_X7_priceOf : GoodIn wsX7_contractOf (wsV RX7 95 RX7 yX7_priceOf wsX7_priceOf) := goodIn_app (goodIn_of _ (by decide +kernel)) ggX7_contractOf_X7_priceOf
theorem dX7_contractOf_0 : decode cX7_contractOf 0 = .ok (.aload_n 0, 1) := by decide +kernel
theorem dX7_contractOf_1 : decode cX7_contractOf 1 = .ok (.iload_n 1, 1) := by decide +kernel
theorem dX7_contractOf_2 : decode cX7_contractOf 2 = .ok (.invokevirtual 92, 3) := by decide +kernel
theorem dX7_contractOf_5 : decode cX7_contractOf 5 = .ok (.ifCond .eq 12, 3) := by decide +kernel
theorem dX7_contractOf_8 : decode cX7_contractOf 8 = .ok (.iload_n 2, 1) := by decide +kernel
theorem dX7_contractOf_9 : decode cX7_contractOf 9 = .ok (.iconst 0, 1) := by decide +kernel
theorem dX7_contractOf_10 : decode cX7_contractOf 10 = .ok (.iconst 2, 1) := by decide +kernel
theorem dX7_contractOf_11 : decode cX7_contractOf 11 = .ok (.invokestatic 61, 3) := by decide +kernel
theorem dX7_contractOf_14 : decode cX7_contractOf 14 = .ok (.ifCond .ne 6, 3) := by decide +kernel
theorem dX7_contractOf_17 : decode cX7_contractOf 17 = .ok (.ldc 65, 2) := by decide +kernel
theorem dX7_contractOf_19 : decode cX7_contractOf 19 = .ok (.ireturn, 1) := by decide +kernel
theorem dX7_contractOf_20 : decode cX7_contractOf 20 = .ok (.iload_n 2, 1) := by decide +kernel
theorem dX7_contractOf_21 : decode cX7_contractOf 21 = .ok (.ifCond .ne 11, 3) := by decide +kernel
theorem dX7_contractOf_24 : decode cX7_contractOf 24 = .ok (.aload_n 0, 1) := by decide +kernel
theorem dX7_contractOf_25 : decode cX7_contractOf 25 = .ok (.iload_n 1, 1) := by decide +kernel
theorem dX7_contractOf_26 : decode cX7_contractOf 26 = .ok (.invokevirtual 114, 3) := by decide +kernel
theorem dX7_contractOf_29 : decode cX7_contractOf 29 = .ok (.goto 28, 3) := by decide +kernel
theorem dX7_contractOf_32 : decode cX7_contractOf 32 = .ok (.iload_n 2, 1) := by decide +kernel
theorem dX7_contractOf_33 : decode cX7_contractOf 33 = .ok (.iconst 1, 1) := by decide +kernel
theorem dX7_contractOf_34 : decode cX7_contractOf 34 = .ok (.if_icmp .ne 11, 3) := by decide +kernel
theorem dX7_contractOf_37 : decode cX7_contractOf 37 = .ok (.aload_n 0, 1) := by decide +kernel
theorem dX7_contractOf_38 : decode cX7_contractOf 38 = .ok (.iload_n 1, 1) := by decide +kernel
theorem dX7_contractOf_39 : decode cX7_contractOf 39 = .ok (.invokevirtual 95, 3) := by decide +kernel
theorem dX7_contractOf_42 : decode cX7_contractOf 42 = .ok (.goto 15, 3) := by decide +kernel
theorem dX7_contractOf_45 : decode cX7_contractOf 45 = .ok (.aload_n 0, 1) := by decide +kernel
theorem dX7_contractOf_46 : decode cX7_contractOf 46 = .ok (.iload_n 1, 1) := by decide +kernel
theorem dX7_contractOf_47 : decode cX7_contractOf 47 = .ok (.invokevirtual 114, 3) := by decide +kernel
theorem dX7_contractOf_50 : decode cX7_contractOf 50 = .ok (.aload_n 0, 1) := by decide +kernel
theorem dX7_contractOf_51 : decode cX7_contractOf 51 = .ok (.getfield 7, 3) := by decide +kernel
theorem dX7_contractOf_54 : decode cX7_contractOf 54 = .ok (.iconst 0, 1) := by decide +kernel
theorem dX7_contractOf_55 : decode cX7_contractOf 55 = .ok (.iaload, 1) := by decide +kernel
theorem dX7_contractOf_56 : decode cX7_contractOf 56 = .ok (.isub, 1) := by decide +kernel
theorem dX7_contractOf_57 : decode cX7_contractOf 57 = .ok (.ireturn, 1) := by decide +kernel
set_option maxRecDepth 20000 in
theorem ggX7_paid_X7_isLot : GoodIn wsX7_paid wsX7_isLot := goodIn_r _ [8, 9, 10, 11, 7, 12, 3, 2, 13, 14, 15, 16, 43, 44, 45, 46, 47, 48, 49, 50, 51, 52, 53, 54, 55, 56, 57, 58, 59, 60] (by decide +kernel) (by decide +kernel)
set_option maxRecDepth 20000 in
theorem gX7_paid_X7_isLot : GoodIn wsX7_paid (wsV RX7 73 RX7 yX7_isLot wsX7_isLot) := goodIn_app (goodIn_of _ (by decide +kernel)) ggX7_paid_X7_isLot
set_option maxRecDepth 20000 in
theorem ggX7_paid_X7_in : GoodIn wsX7_paid wsX7_in := goodIn_r _ [19] (by decide +kernel) (by decide +kernel)
set_option maxRecDepth 20000 in
theorem gX7_paid_X7_in : GoodIn wsX7_paid (va_wsS RX7 61 yX7_in wsX7_in) := goodIn_app (goodIn_of _ (by decide +kernel)) ggX7_paid_X7_in
set_option maxRecDepth 20000 in
theorem ggX7_paid_X7_placeOf : GoodIn wsX7_paid wsX7_placeOf := goodIn_r _ [12, 3, 2, 13, 14, 15, 7, 16, 43, 44, 45, 46, 47, 48, 49, 50, 51, 52, 53, 54, 55, 56, 57, 58, 59, 60] (by decide +kernel) (by decide +kernel)
set_option maxRecDepth 20000 in
theorem gX7_paid_X7_placeOf : GoodIn wsX7_paid (wsV RX7 44 RX7 yX7_placeOf wsX7_placeOf) := goodIn_app (goodIn_of _ (by decide +kernel)) ggX7_paid_X7_placeOf
set_option maxRecDepth 20000 in
theorem ggX7_paid_X7_cupOf : GoodIn wsX7_paid wsX7_cupOf := goodIn_r _ [23, 3, 24, 25, 26, 7, 27, 13, 14, 15, 16, 43, 44, 45, 46, 47, 48, 49, 50, 51, 52, 53, 54, 55, 56, 57, 58, 59, 60] (by decide +kernel) (by decide +kernel)
set_option maxRecDepth 20000 in
theorem gX7_paid_X7_cupOf : GoodIn wsX7_paid (wsV RX7 82 RX7 yX7_cupOf wsX7_cupOf) := goodIn_app (goodIn_of _ (by decide +kernel)) ggX7_paid_X7_cupOf
set_option maxRecDepth 20000 in
theorem ggX7_paid_X7_paidAt : GoodIn wsX7_paid wsX7_paidAt := goodIn_r _ [31, 3, 24, 25, 26, 7, 27, 13, 14, 15, 16, 32, 33, 34, 35, 43, 44, 45, 46, 47, 48, 49, 50, 51, 52, 53, 54, 55, 56, 57, 58, 59, 60] (by decide +kernel) (by decide +kernel)
set_option maxRecDepth 20000 in
theorem gX7_paid_X7_paidAt : GoodIn wsX7_paid (wsV RX7 54 RX7 yX7_paidAt wsX7_paidAt) := goodIn_app (goodIn_of _ (by decide +kernel)) ggX7_paid_X7_paidAt
set_option maxRecDepth 20000 in
theorem ggX7_paid_X7_gainAt : GoodIn wsX7_paid wsX7_gainAt := goodIn_r _ [39, 3, 28, 29, 30, 7, 31, 24, 25, 26, 27, 13, 14, 15, 16, 32, 33, 34, 35, 40, 41, 42, 43, 44, 45, 46, 47, 48, 49, 50, 51, 52, 53, 54, 55, 56, 57, 58, 59, 60] (by decide +kernel) (by decide +kernel)
set_option maxRecDepth 20000 in
theorem gX7_paid_X7_gainAt : GoodIn wsX7_paid (wsV RX7 108 RX7 yX7_gainAt wsX7_gainAt) := goodIn_app (goodIn_of _ (by decide +kernel)) ggX7_paid_X7_gainAt
theorem dX7_paid_0 : decode cX7_paid 0 = .ok (.aload_n 0, 1) := by decide +kernel
theorem dX7_paid_1 : decode cX7_paid 1 = .ok (.iload_n 1, 1) := by decide +kernel
theorem dX7_paid_2 : decode cX7_paid 2 = .ok (.invokevirtual 73, 3) := by decide +kernel
theorem dX7_paid_5 : decode cX7_paid 5 = .ok (.ifCond .eq 23, 3) := by decide +kernel
theorem dX7_paid_8 : decode cX7_paid 8 = .ok (.iload_n 2, 1) := by decide +kernel
theorem dX7_paid_9 : decode cX7_paid 9 = .ok (.iconst 1, 1) := by decide +kernel
theorem dX7_paid_10 : decode cX7_paid 10 = .ok (.sipush 999, 3) := by decide +kernel
theorem dX7_paid_13 : decode cX7_paid 13 = .ok (.invokestatic 61, 3) := by decide +kernel
theorem dX7_paid_16 : decode cX7_paid 16 = .ok (.ifCond .eq 12, 3) := by decide +kernel
theorem dX7_paid_19 : decode cX7_paid 19 = .ok (.iload_n 3, 1) := by decide +kernel
theorem dX7_paid_20 : decode cX7_paid 20 = .ok (.iconst 0, 1) := by decide +kernel
theorem dX7_paid_21 : decode cX7_paid 21 = .ok (.iconst 1, 1) := by decide +kernel
theorem dX7_paid_22 : decode cX7_paid 22 = .ok (.invokestatic 61, 3) := by decide +kernel
theorem dX7_paid_25 : decode cX7_paid 25 = .ok (.ifCond .ne 6, 3) := by decide +kernel
theorem dX7_paid_28 : decode cX7_paid 28 = .ok (.ldc 65, 2) := by decide +kernel
theorem dX7_paid_30 : decode cX7_paid 30 = .ok (.ireturn, 1) := by decide +kernel
theorem dX7_paid_31 : decode cX7_paid 31 = .ok (.aload_n 0, 1) := by decide +kernel
theorem dX7_paid_32 : decode cX7_paid 32 = .ok (.iload_n 1, 1) := by decide +kernel
theorem dX7_paid_33 : decode cX7_paid 33 = .ok (.invokevirtual 44, 3) := by decide +kernel
theorem dX7_paid_36 : decode cX7_paid 36 = .ok (.istore 4, 2) := by decide +kernel
theorem dX7_paid_38 : decode cX7_paid 38 = .ok (.aload_n 0, 1) := by decide +kernel
theorem dX7_paid_39 : decode cX7_paid 39 = .ok (.iload 4, 2) := by decide +kernel
theorem dX7_paid_41 : decode cX7_paid 41 = .ok (.invokevirtual 82, 3) := by decide +kernel
theorem dX7_paid_44 : decode cX7_paid 44 = .ok (.bipush 70, 2) := by decide +kernel
theorem dX7_paid_46 : decode cX7_paid 46 = .ok (.if_icmp .ge 6, 3) := by decide +kernel
theorem dX7_paid_49 : decode cX7_paid 49 = .ok (.ldc 43, 2) := by decide +kernel
theorem dX7_paid_51 : decode cX7_paid 51 = .ok (.ireturn, 1) := by decide +kernel
theorem dX7_paid_52 : decode cX7_paid 52 = .ok (.iload_n 3, 1) := by decide +kernel
theorem dX7_paid_53 : decode cX7_paid 53 = .ok (.ifCond .ne 19, 3) := by decide +kernel
theorem dX7_paid_56 : decode cX7_paid 56 = .ok (.aload_n 0, 1) := by decide +kernel
theorem dX7_paid_57 : decode cX7_paid 57 = .ok (.iload 4, 2) := by decide +kernel
theorem dX7_paid_59 : decode cX7_paid 59 = .ok (.iload_n 2, 1) := by decide +kernel
theorem dX7_paid_60 : decode cX7_paid 60 = .ok (.aload_n 0, 1) := by decide +kernel
theorem dX7_paid_61 : decode cX7_paid 61 = .ok (.getfield 7, 3) := by decide +kernel
theorem dX7_paid_64 : decode cX7_paid 64 = .ok (.iconst 0, 1) := by decide +kernel
theorem dX7_paid_65 : decode cX7_paid 65 = .ok (.iaload, 1) := by decide +kernel
theorem dX7_paid_66 : decode cX7_paid 66 = .ok (.invokevirtual 54, 3) := by decide +kernel
theorem dX7_paid_69 : decode cX7_paid 69 = .ok (.goto 20, 3) := by decide +kernel
theorem dX7_paid_72 : decode cX7_paid 72 = .ok (.aload_n 0, 1) := by decide +kernel
theorem dX7_paid_73 : decode cX7_paid 73 = .ok (.iload 4, 2) := by decide +kernel
theorem dX7_paid_75 : decode cX7_paid 75 = .ok (.iload_n 2, 1) := by decide +kernel
theorem dX7_paid_76 : decode cX7_paid 76 = .ok (.aload_n 0, 1) := by decide +kernel
theorem dX7_paid_77 : decode cX7_paid 77 = .ok (.getfield 7, 3) := by decide +kernel
theorem dX7_paid_80 : decode cX7_paid 80 = .ok (.iconst 0, 1) := by decide +kernel
theorem dX7_paid_81 : decode cX7_paid 81 = .ok (.iaload, 1) := by decide +kernel
theorem dX7_paid_82 : decode cX7_paid 82 = .ok (.invokevirtual 108, 3) := by decide +kernel
theorem dX7_paid_85 : decode cX7_paid 85 = .ok (.sipush 10000, 3) := by decide +kernel
theorem dX7_paid_88 : decode cX7_paid 88 = .ok (.iadd, 1) := by decide +kernel
theorem dX7_paid_89 : decode cX7_paid 89 = .ok (.ireturn, 1) := by decide +kernel
set_option maxRecDepth 20000 in
theorem ggX7_given_X7_isContract : GoodIn wsX7_given wsX7_isContract := goodIn_r _ [11, 2, 47, 48, 49, 50, 51, 52, 53, 54, 55, 56, 57, 58, 59, 60, 61, 62, 63, 64] (by decide +kernel) (by decide +kernel)
set_option maxRecDepth 20000 in
theorem gX7_given_X7_isContract : GoodIn wsX7_given (wsV RX7 92 RX7 yX7_isContract wsX7_isContract) := goodIn_app (goodIn_of _ (by decide +kernel)) ggX7_given_X7_isContract
set_option maxRecDepth 20000 in
theorem ggX7_given_X7_in : GoodIn wsX7_given wsX7_in := goodIn_r _ [14] (by decide +kernel) (by decide +kernel)
set_option maxRecDepth 20000 in
theorem gX7_given_X7_in : GoodIn wsX7_given (va_wsS RX7 61 yX7_in wsX7_in) := goodIn_app (goodIn_of _ (by decide +kernel)) ggX7_given_X7_in
set_option maxRecDepth 20000 in
theorem ggX7_given_X7_priceOf : GoodIn wsX7_given wsX7_priceOf := goodIn_r _ [18, 2, 47, 48, 49, 50, 51, 52, 53, 54, 55, 56, 57, 58, 59, 60, 61, 62, 63, 64] (by decide +kernel) (by decide +kernel)
set_option maxRecDepth 20000 in
theorem gX7_given_X7_priceOf : GoodIn wsX7_given (wsV RX7 95 RX7 yX7_priceOf wsX7_priceOf) := goodIn_app (goodIn_of _ (by decide +kernel)) ggX7_given_X7_priceOf
set_option maxRecDepth 20000 in
theorem ggX7_given_X7_gives : GoodIn wsX7_given wsX7_gives := goodIn_r _ [22, 3, 2, 23, 4, 5, 6, 24, 25, 26, 10, 27, 28, 29, 30, 31, 32, 33, 34, 35, 36, 37, 38, 39, 40, 41, 42, 43, 44, 45, 46, 47, 48, 49, 50, 51, 52, 53, 54, 55, 56, 57, 58, 59, 60, 61, 62, 63, 64] (by decide +kernel) (by decide +kernel)
set_option maxRecDepth 20000 in
theorem gX7_given_X7_gives : GoodIn wsX7_given (wsV RX7 111 RX7 yX7_gives wsX7_gives) := goodIn_app (goodIn_of _ (by decide +kernel)) ggX7_given_X7_gives
set_option maxRecDepth 20000 in
theorem ggX7_given_X7_of : GoodIn wsX7_given wsX7_of := goodIn_r _ [31, 2, 47, 48, 49, 50, 51, 52, 53, 54, 55, 56, 57, 58, 59, 60, 61, 62, 63, 64] (by decide +kernel) (by decide +kernel)
set_option maxRecDepth 20000 in
theorem gX7_given_X7_of : GoodIn wsX7_given (wsV RX7 39 RX7 yX7_of wsX7_of) := goodIn_app (goodIn_of _ (by decide +kernel)) ggX7_given_X7_of
theorem dX7_given_0 : decode cX7_given 0 = .ok (.aload_n 0, 1) := by decide +kernel
theorem dX7_given_1 : decode cX7_given 1 = .ok (.iload_n 1, 1) := by decide +kernel
theorem dX7_given_2 : decode cX7_given 2 = .ok (.invokevirtual 92, 3) := by decide +kernel
theorem dX7_given_5 : decode cX7_given 5 = .ok (.ifCond .eq 16, 3) := by decide +kernel
theorem dX7_given_8 : decode cX7_given 8 = .ok (.iload_n 2, 1) := by decide +kernel
theorem dX7_given_9 : decode cX7_given 9 = .ok (.ifCond .lt 12, 3) := by decide +kernel
theorem dX7_given_12 : decode cX7_given 12 = .ok (.iload_n 3, 1) := by decide +kernel
theorem dX7_given_13 : decode cX7_given 13 = .ok (.iconst 0, 1) := by decide +kernel
theorem dX7_given_14 : decode cX7_given 14 = .ok (.iconst 1, 1) := by decide +kernel
theorem dX7_given_15 : decode cX7_given 15 = .ok (.invokestatic 61, 3) := by decide +kernel
theorem dX7_given_18 : decode cX7_given 18 = .ok (.ifCond .ne 6, 3) := by decide +kernel
theorem dX7_given_21 : decode cX7_given 21 = .ok (.ldc 65, 2) := by decide +kernel
theorem dX7_given_23 : decode cX7_given 23 = .ok (.ireturn, 1) := by decide +kernel
theorem dX7_given_24 : decode cX7_given 24 = .ok (.aload_n 0, 1) := by decide +kernel
theorem dX7_given_25 : decode cX7_given 25 = .ok (.aload_n 0, 1) := by decide +kernel
theorem dX7_given_26 : decode cX7_given 26 = .ok (.iload_n 1, 1) := by decide +kernel
theorem dX7_given_27 : decode cX7_given 27 = .ok (.invokevirtual 95, 3) := by decide +kernel
theorem dX7_given_30 : decode cX7_given 30 = .ok (.aload_n 0, 1) := by decide +kernel
theorem dX7_given_31 : decode cX7_given 31 = .ok (.getfield 7, 3) := by decide +kernel
theorem dX7_given_34 : decode cX7_given 34 = .ok (.iconst 0, 1) := by decide +kernel
theorem dX7_given_35 : decode cX7_given 35 = .ok (.iaload, 1) := by decide +kernel
theorem dX7_given_36 : decode cX7_given 36 = .ok (.invokevirtual 111, 3) := by decide +kernel
theorem dX7_given_39 : decode cX7_given 39 = .ok (.iload_n 2, 1) := by decide +kernel
theorem dX7_given_40 : decode cX7_given 40 = .ok (.aload_n 0, 1) := by decide +kernel
theorem dX7_given_41 : decode cX7_given 41 = .ok (.getfield 102, 3) := by decide +kernel
theorem dX7_given_44 : decode cX7_given 44 = .ok (.if_icmp .lt 8, 3) := by decide +kernel
theorem dX7_given_47 : decode cX7_given 47 = .ok (.ldc 43, 2) := by decide +kernel
theorem dX7_given_49 : decode cX7_given 49 = .ok (.goto 27, 3) := by decide +kernel
theorem dX7_given_52 : decode cX7_given 52 = .ok (.iload_n 3, 1) := by decide +kernel
theorem dX7_given_53 : decode cX7_given 53 = .ok (.ifCond .ne 17, 3) := by decide +kernel
theorem dX7_given_56 : decode cX7_given 56 = .ok (.aload_n 0, 1) := by decide +kernel
theorem dX7_given_57 : decode cX7_given 57 = .ok (.aload_n 0, 1) := by decide +kernel
theorem dX7_given_58 : decode cX7_given 58 = .ok (.getfield 22, 3) := by decide +kernel
theorem dX7_given_61 : decode cX7_given 61 = .ok (.iload_n 2, 1) := by decide +kernel
theorem dX7_given_62 : decode cX7_given 62 = .ok (.iaload, 1) := by decide +kernel
theorem dX7_given_63 : decode cX7_given 63 = .ok (.iconst 0, 1) := by decide +kernel
theorem dX7_given_64 : decode cX7_given 64 = .ok (.invokevirtual 39, 3) := by decide +kernel
theorem dX7_given_67 : decode cX7_given 67 = .ok (.goto 9, 3) := by decide +kernel
theorem dX7_given_70 : decode cX7_given 70 = .ok (.aload_n 0, 1) := by decide +kernel
theorem dX7_given_71 : decode cX7_given 71 = .ok (.getfield 25, 3) := by decide +kernel
theorem dX7_given_74 : decode cX7_given 74 = .ok (.iload_n 2, 1) := by decide +kernel
theorem dX7_given_75 : decode cX7_given 75 = .ok (.iaload, 1) := by decide +kernel
theorem dX7_given_76 : decode cX7_given 76 = .ok (.ireturn, 1) := by decide +kernel
set_option maxRecDepth 20000 in
theorem ggX7_would_X7_isContract : GoodIn wsX7_would wsX7_isContract := goodIn_r _ [13, 2, 69, 70, 71, 72, 73, 74, 75, 76, 77, 78, 79, 80, 81, 82, 83, 84, 85, 86] (by decide +kernel) (by decide +kernel)
set_option maxRecDepth 20000 in
theorem gX7_would_X7_isContract : GoodIn wsX7_would (wsV RX7 92 RX7 yX7_isContract wsX7_isContract) := goodIn_app (goodIn_of _ (by decide +kernel)) ggX7_would_X7_isContract
set_option maxRecDepth 20000 in
theorem ggX7_would_X7_in : GoodIn wsX7_would wsX7_in := goodIn_r _ [16] (by decide +kernel) (by decide +kernel)
set_option maxRecDepth 20000 in
theorem gX7_would_X7_in : GoodIn wsX7_would (va_wsS RX7 61 yX7_in wsX7_in) := goodIn_app (goodIn_of _ (by decide +kernel)) ggX7_would_X7_in
set_option maxRecDepth 20000 in
theorem ggX7_would_X7_priceOf : GoodIn wsX7_would wsX7_priceOf := goodIn_r _ [20, 2, 69, 70, 71, 72, 73, 74, 75, 76, 77, 78, 79, 80, 81, 82, 83, 84, 85, 86] (by decide +kernel) (by decide +kernel)
set_option maxRecDepth 20000 in
theorem gX7_would_X7_priceOf : GoodIn wsX7_would (wsV RX7 95 RX7 yX7_priceOf wsX7_priceOf) := goodIn_app (goodIn_of _ (by decide +kernel)) ggX7_would_X7_priceOf
set_option maxRecDepth 20000 in
theorem ggX7_would_X7_gives : GoodIn wsX7_would wsX7_gives := goodIn_r _ [24, 6, 2, 3, 25, 8, 7, 26, 27, 28, 12, 29, 30, 31, 32, 33, 34, 35, 36, 37, 38, 39, 40, 41, 42, 43, 44, 45, 46, 47, 48, 69, 70, 71, 72, 73, 74, 75, 76, 77, 78, 79, 80, 81, 82, 83, 84, 85, 86] (by decide +kernel) (by decide +kernel)
set_option maxRecDepth 20000 in
theorem gX7_would_X7_gives : GoodIn wsX7_would (wsV RX7 111 RX7 yX7_gives wsX7_gives) := goodIn_app (goodIn_of _ (by decide +kernel)) ggX7_would_X7_gives
set_option maxRecDepth 20000 in
theorem ggX7_would_X7_paidAll : GoodIn wsX7_would wsX7_paidAll := goodIn_r _ [52, 6, 7, 8, 34, 35, 36, 12, 37, 2, 38, 39, 40, 41, 26, 27, 28, 29, 30, 31, 32, 33, 42, 43, 44, 45, 46, 47, 48, 69, 70, 71, 72, 73, 74, 75, 76, 77, 78, 79, 80, 81, 82, 83, 84, 85, 86] (by decide +kernel) (by decide +kernel)
set_option maxRecDepth 20000 in
theorem gX7_would_X7_paidAll : GoodIn wsX7_would (wsV RX7 117 RX7 yX7_paidAll wsX7_paidAll) := goodIn_app (goodIn_of _ (by decide +kernel)) ggX7_would_X7_paidAll
set_option maxRecDepth 20000 in
theorem ggX7_would_X7_of : GoodIn wsX7_would wsX7_of := goodIn_r _ [33, 2, 69, 70, 71, 72, 73, 74, 75, 76, 77, 78, 79, 80, 81, 82, 83, 84, 85, 86] (by decide +kernel) (by decide +kernel)
set_option maxRecDepth 20000 in
theorem gX7_would_X7_of : GoodIn wsX7_would (wsV RX7 39 RX7 yX7_of wsX7_of) := goodIn_app (goodIn_of _ (by decide +kernel)) ggX7_would_X7_of
set_option maxRecDepth 20000 in
theorem ggX7_would_X7_cupOf : GoodIn wsX7_would wsX7_cupOf := goodIn_r _ [56, 2, 26, 27, 28, 12, 29, 30, 31, 32, 33, 69, 70, 71, 72, 73, 74, 75, 76, 77, 78, 79, 80, 81, 82, 83, 84, 85, 86] (by decide +kernel) (by decide +kernel)
set_option maxRecDepth 20000 in
theorem gX7_would_X7_cupOf : GoodIn wsX7_would (wsV RX7 82 RX7 yX7_cupOf wsX7_cupOf) := goodIn_app (goodIn_of _ (by decide +kernel)) ggX7_would_X7_cupOf
set_option maxRecDepth 20000 in
theorem ggX7_would_Jxf58ca_floatToIntBits_5c35a : GoodIn wsX7_would wsJxf58ca_floatToIntBits_5c35a := goodIn_r _ [60, 61, 62, 63, 64, 65, 66, 67, 59, 68] (by decide +kernel) (by decide +kernel)
set_option maxRecDepth 20000 in
theorem gX7_would_Jxf58ca_floatToIntBits_5c35a : GoodIn wsX7_would (va_wsS RX7 126 yJxf58ca_floatToIntBits_5c35a wsJxf58ca_floatToIntBits_5c35a) := goodIn_app (goodIn_of _ (by decide +kernel)) ggX7_would_Jxf58ca_floatToIntBits_5c35a
theorem dX7_would_0 : decode cX7_would 0 = .ok (.aload_n 0, 1) := by decide +kernel
theorem dX7_would_1 : decode cX7_would 1 = .ok (.iload_n 1, 1) := by decide +kernel
theorem dX7_would_2 : decode cX7_would 2 = .ok (.invokevirtual 92, 3) := by decide +kernel
theorem dX7_would_5 : decode cX7_would 5 = .ok (.ifCond .eq 12, 3) := by decide +kernel
theorem dX7_would_8 : decode cX7_would 8 = .ok (.iload_n 2, 1) := by decide +kernel
theorem dX7_would_9 : decode cX7_would 9 = .ok (.iconst 0, 1) := by decide +kernel
theorem dX7_would_10 : decode cX7_would 10 = .ok (.iconst 3, 1) := by decide +kernel
theorem dX7_would_11 : decode cX7_would 11 = .ok (.invokestatic 61, 3) := by decide +kernel
theorem dX7_would_14 : decode cX7_would 14 = .ok (.ifCond .ne 6, 3) := by decide +kernel
theorem dX7_would_17 : decode cX7_would 17 = .ok (.ldc 65, 2) := by decide +kernel
theorem dX7_would_19 : decode cX7_would 19 = .ok (.ireturn, 1) := by decide +kernel
theorem dX7_would_20 : decode cX7_would 20 = .ok (.aload_n 0, 1) := by decide +kernel
theorem dX7_would_21 : decode cX7_would 21 = .ok (.iload_n 1, 1) := by decide +kernel
theorem dX7_would_22 : decode cX7_would 22 = .ok (.invokevirtual 95, 3) := by decide +kernel
theorem dX7_would_25 : decode cX7_would 25 = .ok (.istore_n 3, 1) := by decide +kernel
theorem dX7_would_26 : decode cX7_would 26 = .ok (.aload_n 0, 1) := by decide +kernel
theorem dX7_would_27 : decode cX7_would 27 = .ok (.iload_n 3, 1) := by decide +kernel
theorem dX7_would_28 : decode cX7_would 28 = .ok (.aload_n 0, 1) := by decide +kernel
theorem dX7_would_29 : decode cX7_would 29 = .ok (.getfield 7, 3) := by decide +kernel
theorem dX7_would_32 : decode cX7_would 32 = .ok (.iconst 0, 1) := by decide +kernel
theorem dX7_would_33 : decode cX7_would 33 = .ok (.iaload, 1) := by decide +kernel
theorem dX7_would_34 : decode cX7_would 34 = .ok (.invokevirtual 111, 3) := by decide +kernel
theorem dX7_would_37 : decode cX7_would 37 = .ok (.aload_n 0, 1) := by decide +kernel
theorem dX7_would_38 : decode cX7_would 38 = .ok (.getfield 105, 3) := by decide +kernel
theorem dX7_would_41 : decode cX7_would 41 = .ok (.ifCond .le 6, 3) := by decide +kernel
theorem dX7_would_44 : decode cX7_would 44 = .ok (.ldc 77, 2) := by decide +kernel
theorem dX7_would_46 : decode cX7_would 46 = .ok (.ireturn, 1) := by decide +kernel
theorem dX7_would_47 : decode cX7_would 47 = .ok (.iload_n 2, 1) := by decide +kernel
theorem dX7_would_48 : decode cX7_would 48 = .ok (.iconst 2, 1) := by decide +kernel
theorem dX7_would_49 : decode cX7_would 49 = .ok (.if_icmp .ge 37, 3) := by decide +kernel
theorem dX7_would_52 : decode cX7_would 52 = .ok (.aload_n 0, 1) := by decide +kernel
theorem dX7_would_53 : decode cX7_would 53 = .ok (.iload_n 3, 1) := by decide +kernel
theorem dX7_would_54 : decode cX7_would 54 = .ok (.aload_n 0, 1) := by decide +kernel
theorem dX7_would_55 : decode cX7_would 55 = .ok (.getfield 7, 3) := by decide +kernel
theorem dX7_would_58 : decode cX7_would 58 = .ok (.iconst 0, 1) := by decide +kernel
theorem dX7_would_59 : decode cX7_would 59 = .ok (.iaload, 1) := by decide +kernel
theorem dX7_would_60 : decode cX7_would 60 = .ok (.iload_n 2, 1) := by decide +kernel
theorem dX7_would_61 : decode cX7_would 61 = .ok (.iconst 1, 1) := by decide +kernel
theorem dX7_would_62 : decode cX7_would 62 = .ok (.if_icmp .ne 7, 3) := by decide +kernel
theorem dX7_would_65 : decode cX7_would 65 = .ok (.iconst 1, 1) := by decide +kernel
theorem dX7_would_66 : decode cX7_would 66 = .ok (.goto 4, 3) := by decide +kernel
theorem dX7_would_69 : decode cX7_would 69 = .ok (.iconst 0, 1) := by decide +kernel
theorem dX7_would_70 : decode cX7_would 70 = .ok (.invokevirtual 117, 3) := by decide +kernel
theorem dX7_would_73 : decode cX7_would 73 = .ok (.iload_n 2, 1) := by decide +kernel
theorem dX7_would_74 : decode cX7_would 74 = .ok (.iconst 1, 1) := by decide +kernel
theorem dX7_would_75 : decode cX7_would 75 = .ok (.if_icmp .ne 8, 3) := by decide +kernel
theorem dX7_would_78 : decode cX7_would 78 = .ok (.ldc 125, 2) := by decide +kernel
theorem dX7_would_80 : decode cX7_would 80 = .ok (.goto 4, 3) := by decide +kernel
theorem dX7_would_83 : decode cX7_would 83 = .ok (.iconst 0, 1) := by decide +kernel
theorem dX7_would_84 : decode cX7_would 84 = .ok (.iadd, 1) := by decide +kernel
theorem dX7_would_85 : decode cX7_would 85 = .ok (.ireturn, 1) := by decide +kernel
theorem dX7_would_86 : decode cX7_would 86 = .ok (.iconst 0, 1) := by decide +kernel
theorem dX7_would_87 : decode cX7_would 87 = .ok (.istore 4, 2) := by decide +kernel
theorem dX7_would_89 : decode cX7_would 89 = .ok (.iconst 0, 1) := by decide +kernel
theorem dX7_would_90 : decode cX7_would 90 = .ok (.istore 5, 2) := by decide +kernel
theorem dX7_would_92 : decode cX7_would 92 = .ok (.iconst 0, 1) := by decide +kernel
theorem dX7_would_93 : decode cX7_would 93 = .ok (.istore 6, 2) := by decide +kernel
theorem dX7_would_95 : decode cX7_would 95 = .ok (.iload 6, 2) := by decide +kernel
theorem dX7_would_97 : decode cX7_would 97 = .ok (.aload_n 0, 1) := by decide +kernel
theorem dX7_would_98 : decode cX7_would 98 = .ok (.getfield 102, 3) := by decide +kernel
theorem dX7_would_101 : decode cX7_would 101 = .ok (.if_icmp .ge 65, 3) := by decide +kernel
theorem dX7_would_104 : decode cX7_would 104 = .ok (.iload 4, 2) := by decide +kernel
theorem dX7_would_106 : decode cX7_would 106 = .ok (.aload_n 0, 1) := by decide +kernel
theorem dX7_would_107 : decode cX7_would 107 = .ok (.getfield 25, 3) := by decide +kernel
theorem dX7_would_110 : decode cX7_would 110 = .ok (.iload 6, 2) := by decide +kernel
theorem dX7_would_112 : decode cX7_would 112 = .ok (.iaload, 1) := by decide +kernel
theorem dX7_would_113 : decode cX7_would 113 = .ok (.aload_n 0, 1) := by decide +kernel
theorem dX7_would_114 : decode cX7_would 114 = .ok (.aload_n 0, 1) := by decide +kernel
theorem dX7_would_115 : decode cX7_would 115 = .ok (.getfield 22, 3) := by decide +kernel
theorem dX7_would_118 : decode cX7_would 118 = .ok (.iload 6, 2) := by decide +kernel
theorem dX7_would_120 : decode cX7_would 120 = .ok (.iaload, 1) := by decide +kernel
theorem dX7_would_121 : decode cX7_would 121 = .ok (.iconst 1, 1) := by decide +kernel
theorem dX7_would_122 : decode cX7_would 122 = .ok (.invokevirtual 39, 3) := by decide +kernel
theorem dX7_would_125 : decode cX7_would 125 = .ok (.if_icmp .ne 7, 3) := by decide +kernel
theorem dX7_would_128 : decode cX7_would 128 = .ok (.iconst 1, 1) := by decide +kernel
theorem dX7_would_129 : decode cX7_would 129 = .ok (.goto 4, 3) := by decide +kernel
theorem dX7_would_132 : decode cX7_would 132 = .ok (.iconst 0, 1) := by decide +kernel
theorem dX7_would_133 : decode cX7_would 133 = .ok (.iadd, 1) := by decide +kernel
theorem dX7_would_134 : decode cX7_would 134 = .ok (.istore 4, 2) := by decide +kernel
theorem dX7_would_136 : decode cX7_would 136 = .ok (.iload 5, 2) := by decide +kernel
theorem dX7_would_138 : decode cX7_would 138 = .ok (.aload_n 0, 1) := by decide +kernel
theorem dX7_would_139 : decode cX7_would 139 = .ok (.getfield 25, 3) := by decide +kernel
theorem dX7_would_142 : decode cX7_would 142 = .ok (.iload 6, 2) := by decide +kernel
theorem dX7_would_144 : decode cX7_would 144 = .ok (.iaload, 1) := by decide +kernel
theorem dX7_would_145 : decode cX7_would 145 = .ok (.aload_n 0, 1) := by decide +kernel
theorem dX7_would_146 : decode cX7_would 146 = .ok (.aload_n 0, 1) := by decide +kernel
theorem dX7_would_147 : decode cX7_would 147 = .ok (.getfield 22, 3) := by decide +kernel
theorem dX7_would_150 : decode cX7_would 150 = .ok (.iload 6, 2) := by decide +kernel
theorem dX7_would_152 : decode cX7_would 152 = .ok (.iaload, 1) := by decide +kernel
theorem dX7_would_153 : decode cX7_would 153 = .ok (.invokevirtual 82, 3) := by decide +kernel
theorem dX7_would_156 : decode cX7_would 156 = .ok (.imul, 1) := by decide +kernel
theorem dX7_would_157 : decode cX7_would 157 = .ok (.iadd, 1) := by decide +kernel
theorem dX7_would_158 : decode cX7_would 158 = .ok (.istore 5, 2) := by decide +kernel
theorem dX7_would_160 : decode cX7_would 160 = .ok (.iinc 6 1, 3) := by decide +kernel
theorem dX7_would_163 : decode cX7_would 163 = .ok (.goto (-68), 3) := by decide +kernel
theorem dX7_would_166 : decode cX7_would 166 = .ok (.iload 5, 2) := by decide +kernel
theorem dX7_would_168 : decode cX7_would 168 = .ok (.i2f, 1) := by decide +kernel
theorem dX7_would_169 : decode cX7_would 169 = .ok (.aload_n 0, 1) := by decide +kernel
theorem dX7_would_170 : decode cX7_would 170 = .ok (.getfield 7, 3) := by decide +kernel
theorem dX7_would_173 : decode cX7_would 173 = .ok (.bipush 8, 2) := by decide +kernel
theorem dX7_would_175 : decode cX7_would 175 = .ok (.iaload, 1) := by decide +kernel
theorem dX7_would_176 : decode cX7_would 176 = .ok (.i2f, 1) := by decide +kernel
theorem dX7_would_177 : decode cX7_would 177 = .ok (.fdiv, 1) := by decide +kernel
theorem dX7_would_178 : decode cX7_would 178 = .ok (.fstore 6, 2) := by decide +kernel
theorem dX7_would_180 : decode cX7_would 180 = .ok (.iload_n 2, 1) := by decide +kernel
theorem dX7_would_181 : decode cX7_would 181 = .ok (.iconst 2, 1) := by decide +kernel
theorem dX7_would_182 : decode cX7_would 182 = .ok (.if_icmp .ne 8, 3) := by decide +kernel
theorem dX7_would_185 : decode cX7_would 185 = .ok (.iload 4, 2) := by decide +kernel
theorem dX7_would_187 : decode cX7_would 187 = .ok (.goto 8, 3) := by decide +kernel
theorem dX7_would_190 : decode cX7_would 190 = .ok (.fload 6, 2) := by decide +kernel
theorem dX7_would_192 : decode cX7_would 192 = .ok (.invokestatic 126, 3) := by decide +kernel
theorem dX7_would_195 : decode cX7_would 195 = .ok (.ireturn, 1) := by decide +kernel
set_option maxRecDepth 20000 in
theorem ggX7_lift_X7_isLot : GoodIn wsX7_lift wsX7_isLot := goodIn_r _ [7, 8, 9, 10, 6, 11, 12, 2, 13, 14, 15, 16, 31, 32, 33, 34, 35, 36, 37, 38, 39, 40, 41, 42, 43, 44, 45, 46, 47, 48] (by decide +kernel) (by decide +kernel)
set_option maxRecDepth 20000 in
theorem gX7_lift_X7_isLot : GoodIn wsX7_lift (wsV RX7 73 RX7 yX7_isLot wsX7_isLot) := goodIn_app (goodIn_of _ (by decide +kernel)) ggX7_lift_X7_isLot
set_option maxRecDepth 20000 in
theorem ggX7_lift_X7_in : GoodIn wsX7_lift wsX7_in := goodIn_r _ [19] (by decide +kernel) (by decide +kernel)
set_option maxRecDepth 20000 in
theorem gX7_lift_X7_in : GoodIn wsX7_lift (va_wsS RX7 61 yX7_in wsX7_in) := goodIn_app (goodIn_of _ (by decide +kernel)) ggX7_lift_X7_in
set_option maxRecDepth 20000 in
theorem ggX7_lift_X7_placeOf : GoodIn wsX7_lift wsX7_placeOf := goodIn_r _ [11, 12, 2, 13, 14, 15, 6, 16, 31, 32, 33, 34, 35, 36, 37, 38, 39, 40, 41, 42, 43, 44, 45, 46, 47, 48] (by decide +kernel) (by decide +kernel)
set_option maxRecDepth 20000 in
theorem gX7_lift_X7_placeOf : GoodIn wsX7_lift (wsV RX7 44 RX7 yX7_placeOf wsX7_placeOf) := goodIn_app (goodIn_of _ (by decide +kernel)) ggX7_lift_X7_placeOf
set_option maxRecDepth 20000 in
theorem ggX7_lift_X7_of : GoodIn wsX7_lift wsX7_of := goodIn_r _ [16, 12, 31, 32, 33, 34, 35, 36, 37, 38, 39, 40, 41, 42, 43, 44, 45, 46, 47, 48] (by decide +kernel) (by decide +kernel)
set_option maxRecDepth 20000 in
theorem gX7_lift_X7_of : GoodIn wsX7_lift (wsV RX7 39 RX7 yX7_of wsX7_of) := goodIn_app (goodIn_of _ (by decide +kernel)) ggX7_lift_X7_of
set_option maxRecDepth 20000 in
theorem ggX7_lift_X7_cupOf : GoodIn wsX7_lift wsX7_cupOf := goodIn_r _ [23, 12, 24, 25, 26, 6, 27, 13, 14, 15, 16, 31, 32, 33, 34, 35, 36, 37, 38, 39, 40, 41, 42, 43, 44, 45, 46, 47, 48] (by decide +kernel) (by decide +kernel)
set_option maxRecDepth 20000 in
theorem gX7_lift_X7_cupOf : GoodIn wsX7_lift (wsV RX7 82 RX7 yX7_cupOf wsX7_cupOf) := goodIn_app (goodIn_of _ (by decide +kernel)) ggX7_lift_X7_cupOf
set_option maxRecDepth 20000 in
theorem ggX7_lift_X7_blended : GoodIn wsX7_lift wsX7_blended := goodIn_r _ [30] (by decide +kernel) (by decide +kernel)
set_option maxRecDepth 20000 in
theorem gX7_lift_X7_blended : GoodIn wsX7_lift (va_wsS RX7 85 yX7_blended wsX7_blended) := goodIn_app (goodIn_of _ (by decide +kernel)) ggX7_lift_X7_blended
theorem dX7_lift_0 : decode cX7_lift 0 = .ok (.aload_n 0, 1) := by decide +kernel
theorem dX7_lift_1 : decode cX7_lift 1 = .ok (.iload_n 1, 1) := by decide +kernel
theorem dX7_lift_2 : decode cX7_lift 2 = .ok (.invokevirtual 73, 3) := by decide +kernel
theorem dX7_lift_5 : decode cX7_lift 5 = .ok (.ifCond .eq 27, 3) := by decide +kernel
theorem dX7_lift_8 : decode cX7_lift 8 = .ok (.aload_n 0, 1) := by decide +kernel
theorem dX7_lift_9 : decode cX7_lift 9 = .ok (.iload_n 2, 1) := by decide +kernel
theorem dX7_lift_10 : decode cX7_lift 10 = .ok (.invokevirtual 73, 3) := by decide +kernel
theorem dX7_lift_13 : decode cX7_lift 13 = .ok (.ifCond .eq 19, 3) := by decide +kernel
theorem dX7_lift_16 : decode cX7_lift 16 = .ok (.iload_n 1, 1) := by decide +kernel
theorem dX7_lift_17 : decode cX7_lift 17 = .ok (.iload_n 2, 1) := by decide +kernel
theorem dX7_lift_18 : decode cX7_lift 18 = .ok (.if_icmp .eq 14, 3) := by decide +kernel
theorem dX7_lift_21 : decode cX7_lift 21 = .ok (.iload_n 3, 1) := by decide +kernel
theorem dX7_lift_22 : decode cX7_lift 22 = .ok (.bipush 60, 2) := by decide +kernel
theorem dX7_lift_24 : decode cX7_lift 24 = .ok (.bipush 100, 2) := by decide +kernel
theorem dX7_lift_26 : decode cX7_lift 26 = .ok (.invokestatic 61, 3) := by decide +kernel
theorem dX7_lift_29 : decode cX7_lift 29 = .ok (.ifCond .ne 6, 3) := by decide +kernel
theorem dX7_lift_32 : decode cX7_lift 32 = .ok (.ldc 65, 2) := by decide +kernel
theorem dX7_lift_34 : decode cX7_lift 34 = .ok (.ireturn, 1) := by decide +kernel
theorem dX7_lift_35 : decode cX7_lift 35 = .ok (.aload_n 0, 1) := by decide +kernel
theorem dX7_lift_36 : decode cX7_lift 36 = .ok (.iload_n 1, 1) := by decide +kernel
theorem dX7_lift_37 : decode cX7_lift 37 = .ok (.invokevirtual 44, 3) := by decide +kernel
theorem dX7_lift_40 : decode cX7_lift 40 = .ok (.istore 4, 2) := by decide +kernel
theorem dX7_lift_42 : decode cX7_lift 42 = .ok (.aload_n 0, 1) := by decide +kernel
theorem dX7_lift_43 : decode cX7_lift 43 = .ok (.iload_n 2, 1) := by decide +kernel
theorem dX7_lift_44 : decode cX7_lift 44 = .ok (.invokevirtual 44, 3) := by decide +kernel
theorem dX7_lift_47 : decode cX7_lift 47 = .ok (.istore 5, 2) := by decide +kernel
theorem dX7_lift_49 : decode cX7_lift 49 = .ok (.iconst 1, 1) := by decide +kernel
theorem dX7_lift_50 : decode cX7_lift 50 = .ok (.istore 6, 2) := by decide +kernel
theorem dX7_lift_52 : decode cX7_lift 52 = .ok (.iload 6, 2) := by decide +kernel
theorem dX7_lift_54 : decode cX7_lift 54 = .ok (.aload_n 0, 1) := by decide +kernel
theorem dX7_lift_55 : decode cX7_lift 55 = .ok (.iload 5, 2) := by decide +kernel
theorem dX7_lift_57 : decode cX7_lift 57 = .ok (.iconst 1, 1) := by decide +kernel
theorem dX7_lift_58 : decode cX7_lift 58 = .ok (.invokevirtual 39, 3) := by decide +kernel
theorem dX7_lift_61 : decode cX7_lift 61 = .ok (.if_icmp .gt 40, 3) := by decide +kernel
theorem dX7_lift_64 : decode cX7_lift 64 = .ok (.aload_n 0, 1) := by decide +kernel
theorem dX7_lift_65 : decode cX7_lift 65 = .ok (.iload 4, 2) := by decide +kernel
theorem dX7_lift_67 : decode cX7_lift 67 = .ok (.iconst 1, 1) := by decide +kernel
theorem dX7_lift_68 : decode cX7_lift 68 = .ok (.invokevirtual 39, 3) := by decide +kernel
theorem dX7_lift_71 : decode cX7_lift 71 = .ok (.aload_n 0, 1) := by decide +kernel
theorem dX7_lift_72 : decode cX7_lift 72 = .ok (.iload 4, 2) := by decide +kernel
theorem dX7_lift_74 : decode cX7_lift 74 = .ok (.invokevirtual 82, 3) := by decide +kernel
theorem dX7_lift_77 : decode cX7_lift 77 = .ok (.iload 6, 2) := by decide +kernel
theorem dX7_lift_79 : decode cX7_lift 79 = .ok (.aload_n 0, 1) := by decide +kernel
theorem dX7_lift_80 : decode cX7_lift 80 = .ok (.iload 5, 2) := by decide +kernel
theorem dX7_lift_82 : decode cX7_lift 82 = .ok (.invokevirtual 82, 3) := by decide +kernel
theorem dX7_lift_85 : decode cX7_lift 85 = .ok (.invokestatic 85, 3) := by decide +kernel
theorem dX7_lift_88 : decode cX7_lift 88 = .ok (.iload_n 3, 1) := by decide +kernel
theorem dX7_lift_89 : decode cX7_lift 89 = .ok (.if_icmp .lt 6, 3) := by decide +kernel
theorem dX7_lift_92 : decode cX7_lift 92 = .ok (.iload 6, 2) := by decide +kernel
theorem dX7_lift_94 : decode cX7_lift 94 = .ok (.ireturn, 1) := by decide +kernel
theorem dX7_lift_95 : decode cX7_lift 95 = .ok (.iinc 6 1, 3) := by decide +kernel
theorem dX7_lift_98 : decode cX7_lift 98 = .ok (.goto (-46), 3) := by decide +kernel
theorem dX7_lift_101 : decode cX7_lift 101 = .ok (.ldc 43, 2) := by decide +kernel
theorem dX7_lift_103 : decode cX7_lift 103 = .ok (.ireturn, 1) := by decide +kernel
set_option maxRecDepth 20000 in
theorem ggX7_bestMonth_X7_in : GoodIn wsX7_bestMonth wsX7_in := goodIn_r _ [9] (by decide +kernel) (by decide +kernel)
set_option maxRecDepth 20000 in
theorem gX7_bestMonth_X7_in : GoodIn wsX7_bestMonth (va_wsS RX7 61 yX7_in wsX7_in) := goodIn_app (goodIn_of _ (by decide +kernel)) ggX7_bestMonth_X7_in
set_option maxRecDepth 20000 in
theorem ggX7_bestMonth_X7_gives : GoodIn wsX7_bestMonth wsX7_gives := goodIn_r _ [13, 14, 3, 4, 2, 15, 16, 17, 18, 19, 8, 20, 21, 22, 23, 24, 25, 26, 27, 28, 29, 30, 31, 32, 33, 34, 35, 36, 37, 38, 39, 48, 49, 50, 51, 52, 53, 54, 55, 56, 57, 58, 59, 60, 61, 62, 63, 64, 65] (by decide +kernel) (by decide +kernel)
set_option maxRecDepth 20000 in
theorem gX7_bestMonth_X7_gives : GoodIn wsX7_bestMonth (wsV RX7 111 RX7 yX7_gives wsX7_gives) := goodIn_app (goodIn_of _ (by decide +kernel)) ggX7_bestMonth_X7_gives
set_option maxRecDepth 20000 in
theorem ggX7_bestMonth_X7_paidAll : GoodIn wsX7_bestMonth wsX7_paidAll := goodIn_r _ [43, 14, 16, 15, 25, 26, 27, 8, 28, 3, 29, 30, 31, 32, 17, 18, 19, 20, 21, 22, 23, 24, 33, 34, 35, 36, 37, 38, 39, 48, 49, 50, 51, 52, 53, 54, 55, 56, 57, 58, 59, 60, 61, 62, 63, 64, 65] (by decide +kernel) (by decide +kernel)
set_option maxRecDepth 20000 in
theorem gX7_bestMonth_X7_paidAll : GoodIn wsX7_bestMonth (wsV RX7 117 RX7 yX7_paidAll wsX7_paidAll) := goodIn_app (goodIn_of _ (by decide +kernel)) ggX7_bestMonth_X7_paidAll
set_option maxRecDepth 20000 in
theorem ggX7_bestMonth_X7_isDelivery : GoodIn wsX7_bestMonth wsX7_isDelivery := goodIn_r _ [47, 3, 48, 49, 50, 51, 52, 53, 54, 55, 56, 57, 58, 59, 60, 61, 62, 63, 64, 65] (by decide +kernel) (by decide +kernel)
set_option maxRecDepth 20000 in
theorem gX7_bestMonth_X7_isDelivery : GoodIn wsX7_bestMonth (wsV RX7 89 RX7 yX7_isDelivery wsX7_isDelivery) := goodIn_app (goodIn_of _ (by decide +kernel)) ggX7_bestMonth_X7_isDelivery
theorem dX7_bestMonth_0 : decode cX7_bestMonth 0 = .ok (.iload_n 1, 1) := by decide +kernel
theorem dX7_bestMonth_1 : decode cX7_bestMonth 1 = .ok (.iconst 1, 1) := by decide +kernel
theorem dX7_bestMonth_2 : decode cX7_bestMonth 2 = .ok (.sipush 999, 3) := by decide +kernel
theorem dX7_bestMonth_5 : decode cX7_bestMonth 5 = .ok (.invokestatic 61, 3) := by decide +kernel
theorem dX7_bestMonth_8 : decode cX7_bestMonth 8 = .ok (.ifCond .eq 12, 3) := by decide +kernel
theorem dX7_bestMonth_11 : decode cX7_bestMonth 11 = .ok (.iload_n 2, 1) := by decide +kernel
theorem dX7_bestMonth_12 : decode cX7_bestMonth 12 = .ok (.iconst 0, 1) := by decide +kernel
theorem dX7_bestMonth_13 : decode cX7_bestMonth 13 = .ok (.iconst 1, 1) := by decide +kernel
theorem dX7_bestMonth_14 : decode cX7_bestMonth 14 = .ok (.invokestatic 61, 3) := by decide +kernel
theorem dX7_bestMonth_17 : decode cX7_bestMonth 17 = .ok (.ifCond .ne 6, 3) := by decide +kernel
theorem dX7_bestMonth_20 : decode cX7_bestMonth 20 = .ok (.ldc 65, 2) := by decide +kernel
theorem dX7_bestMonth_22 : decode cX7_bestMonth 22 = .ok (.ireturn, 1) := by decide +kernel
theorem dX7_bestMonth_23 : decode cX7_bestMonth 23 = .ok (.ldc 43, 2) := by decide +kernel
theorem dX7_bestMonth_25 : decode cX7_bestMonth 25 = .ok (.istore_n 3, 1) := by decide +kernel
theorem dX7_bestMonth_26 : decode cX7_bestMonth 26 = .ok (.iconst 0, 1) := by decide +kernel
theorem dX7_bestMonth_27 : decode cX7_bestMonth 27 = .ok (.istore 4, 2) := by decide +kernel
theorem dX7_bestMonth_29 : decode cX7_bestMonth 29 = .ok (.iconst 0, 1) := by decide +kernel
theorem dX7_bestMonth_30 : decode cX7_bestMonth 30 = .ok (.istore 5, 2) := by decide +kernel
theorem dX7_bestMonth_32 : decode cX7_bestMonth 32 = .ok (.iload 5, 2) := by decide +kernel
theorem dX7_bestMonth_34 : decode cX7_bestMonth 34 = .ok (.bipush 24, 2) := by decide +kernel
theorem dX7_bestMonth_36 : decode cX7_bestMonth 36 = .ok (.if_icmp .ge 71, 3) := by decide +kernel
theorem dX7_bestMonth_39 : decode cX7_bestMonth 39 = .ok (.aload_n 0, 1) := by decide +kernel
theorem dX7_bestMonth_40 : decode cX7_bestMonth 40 = .ok (.getfield 7, 3) := by decide +kernel
theorem dX7_bestMonth_43 : decode cX7_bestMonth 43 = .ok (.iconst 0, 1) := by decide +kernel
theorem dX7_bestMonth_44 : decode cX7_bestMonth 44 = .ok (.iaload, 1) := by decide +kernel
theorem dX7_bestMonth_45 : decode cX7_bestMonth 45 = .ok (.iload 5, 2) := by decide +kernel
theorem dX7_bestMonth_47 : decode cX7_bestMonth 47 = .ok (.iadd, 1) := by decide +kernel
theorem dX7_bestMonth_48 : decode cX7_bestMonth 48 = .ok (.istore 6, 2) := by decide +kernel
theorem dX7_bestMonth_50 : decode cX7_bestMonth 50 = .ok (.aload_n 0, 1) := by decide +kernel
theorem dX7_bestMonth_51 : decode cX7_bestMonth 51 = .ok (.iload_n 1, 1) := by decide +kernel
theorem dX7_bestMonth_52 : decode cX7_bestMonth 52 = .ok (.iload 6, 2) := by decide +kernel
theorem dX7_bestMonth_54 : decode cX7_bestMonth 54 = .ok (.invokevirtual 111, 3) := by decide +kernel
theorem dX7_bestMonth_57 : decode cX7_bestMonth 57 = .ok (.aload_n 0, 1) := by decide +kernel
theorem dX7_bestMonth_58 : decode cX7_bestMonth 58 = .ok (.iload_n 1, 1) := by decide +kernel
theorem dX7_bestMonth_59 : decode cX7_bestMonth 59 = .ok (.iload 6, 2) := by decide +kernel
theorem dX7_bestMonth_61 : decode cX7_bestMonth 61 = .ok (.iconst 1, 1) := by decide +kernel
theorem dX7_bestMonth_62 : decode cX7_bestMonth 62 = .ok (.invokevirtual 117, 3) := by decide +kernel
theorem dX7_bestMonth_65 : decode cX7_bestMonth 65 = .ok (.istore 7, 2) := by decide +kernel
theorem dX7_bestMonth_67 : decode cX7_bestMonth 67 = .ok (.aload_n 0, 1) := by decide +kernel
theorem dX7_bestMonth_68 : decode cX7_bestMonth 68 = .ok (.iload 6, 2) := by decide +kernel
theorem dX7_bestMonth_70 : decode cX7_bestMonth 70 = .ok (.invokevirtual 89, 3) := by decide +kernel
theorem dX7_bestMonth_73 : decode cX7_bestMonth 73 = .ok (.ifCond .eq 28, 3) := by decide +kernel
theorem dX7_bestMonth_76 : decode cX7_bestMonth 76 = .ok (.aload_n 0, 1) := by decide +kernel
theorem dX7_bestMonth_77 : decode cX7_bestMonth 77 = .ok (.getfield 105, 3) := by decide +kernel
theorem dX7_bestMonth_80 : decode cX7_bestMonth 80 = .ok (.ifCond .ne 21, 3) := by decide +kernel
theorem dX7_bestMonth_83 : decode cX7_bestMonth 83 = .ok (.iload_n 3, 1) := by decide +kernel
theorem dX7_bestMonth_84 : decode cX7_bestMonth 84 = .ok (.ifCond .lt 10, 3) := by decide +kernel
theorem dX7_bestMonth_87 : decode cX7_bestMonth 87 = .ok (.iload 7, 2) := by decide +kernel
theorem dX7_bestMonth_89 : decode cX7_bestMonth 89 = .ok (.iload 4, 2) := by decide +kernel
theorem dX7_bestMonth_91 : decode cX7_bestMonth 91 = .ok (.if_icmp .le 10, 3) := by decide +kernel
theorem dX7_bestMonth_94 : decode cX7_bestMonth 94 = .ok (.iload 5, 2) := by decide +kernel
theorem dX7_bestMonth_96 : decode cX7_bestMonth 96 = .ok (.istore_n 3, 1) := by decide +kernel
theorem dX7_bestMonth_97 : decode cX7_bestMonth 97 = .ok (.iload 7, 2) := by decide +kernel
theorem dX7_bestMonth_99 : decode cX7_bestMonth 99 = .ok (.istore 4, 2) := by decide +kernel
theorem dX7_bestMonth_101 : decode cX7_bestMonth 101 = .ok (.iinc 5 1, 3) := by decide +kernel
theorem dX7_bestMonth_104 : decode cX7_bestMonth 104 = .ok (.goto (-72), 3) := by decide +kernel
theorem dX7_bestMonth_107 : decode cX7_bestMonth 107 = .ok (.iload_n 3, 1) := by decide +kernel
theorem dX7_bestMonth_108 : decode cX7_bestMonth 108 = .ok (.ifCond .lt 7, 3) := by decide +kernel
theorem dX7_bestMonth_111 : decode cX7_bestMonth 111 = .ok (.iload_n 2, 1) := by decide +kernel
theorem dX7_bestMonth_112 : decode cX7_bestMonth 112 = .ok (.ifCond .ne 7, 3) := by decide +kernel
theorem dX7_bestMonth_115 : decode cX7_bestMonth 115 = .ok (.iload_n 3, 1) := by decide +kernel
theorem dX7_bestMonth_116 : decode cX7_bestMonth 116 = .ok (.goto 8, 3) := by decide +kernel
theorem dX7_bestMonth_119 : decode cX7_bestMonth 119 = .ok (.iload 4, 2) := by decide +kernel
theorem dX7_bestMonth_121 : decode cX7_bestMonth 121 = .ok (.ldc 125, 2) := by decide +kernel
theorem dX7_bestMonth_123 : decode cX7_bestMonth 123 = .ok (.iadd, 1) := by decide +kernel
theorem dX7_bestMonth_124 : decode cX7_bestMonth 124 = .ok (.ireturn, 1) := by decide +kernel
set_option maxRecDepth 20000 in
theorem ggX7_bags_X7_cupOf : GoodIn wsX7_bags wsX7_cupOf := goodIn_r _ [6, 1, 7, 8, 9, 5, 10, 11, 12, 13, 14, 15, 16, 17, 18, 19, 20, 21, 22, 23, 24, 25, 26, 27, 28, 29, 30, 31, 32] (by decide +kernel) (by decide +kernel)
set_option maxRecDepth 20000 in
theorem gX7_bags_X7_cupOf : GoodIn wsX7_bags (wsV RX7 82 RX7 yX7_cupOf wsX7_cupOf) := goodIn_app (goodIn_of _ (by decide +kernel)) ggX7_bags_X7_cupOf
set_option maxRecDepth 20000 in
theorem ggX7_bags_X7_of : GoodIn wsX7_bags wsX7_of := goodIn_r _ [14, 1, 15, 16, 17, 18, 19, 20, 21, 22, 23, 24, 25, 26, 27, 28, 29, 30, 31, 32] (by decide +kernel) (by decide +kernel)
set_option maxRecDepth 20000 in
theorem gX7_bags_X7_of : GoodIn wsX7_bags (wsV RX7 39 RX7 yX7_of wsX7_of) := goodIn_app (goodIn_of _ (by decide +kernel)) ggX7_bags_X7_of
theorem dX7_bags_0 : decode cX7_bags 0 = .ok (.iconst 0, 1) := by decide +kernel
theorem dX7_bags_1 : decode cX7_bags 1 = .ok (.istore_n 2, 1) := by decide +kernel
theorem dX7_bags_2 : decode cX7_bags 2 = .ok (.iconst 0, 1) := by decide +kernel
theorem dX7_bags_3 : decode cX7_bags 3 = .ok (.istore_n 3, 1) := by decide +kernel
theorem dX7_bags_4 : decode cX7_bags 4 = .ok (.iload_n 3, 1) := by decide +kernel
theorem dX7_bags_5 : decode cX7_bags 5 = .ok (.aload_n 0, 1) := by decide +kernel
theorem dX7_bags_6 : decode cX7_bags 6 = .ok (.getfield 7, 3) := by decide +kernel
theorem dX7_bags_9 : decode cX7_bags 9 = .ok (.bipush 6, 2) := by decide +kernel
theorem dX7_bags_11 : decode cX7_bags 11 = .ok (.iaload, 1) := by decide +kernel
theorem dX7_bags_12 : decode cX7_bags 12 = .ok (.if_icmp .ge 31, 3) := by decide +kernel
theorem dX7_bags_15 : decode cX7_bags 15 = .ok (.iload_n 2, 1) := by decide +kernel
theorem dX7_bags_16 : decode cX7_bags 16 = .ok (.aload_n 0, 1) := by decide +kernel
theorem dX7_bags_17 : decode cX7_bags 17 = .ok (.iload_n 3, 1) := by decide +kernel
theorem dX7_bags_18 : decode cX7_bags 18 = .ok (.invokevirtual 82, 3) := by decide +kernel
theorem dX7_bags_21 : decode cX7_bags 21 = .ok (.iload_n 1, 1) := by decide +kernel
theorem dX7_bags_22 : decode cX7_bags 22 = .ok (.if_icmp .lt 12, 3) := by decide +kernel
theorem dX7_bags_25 : decode cX7_bags 25 = .ok (.aload_n 0, 1) := by decide +kernel
theorem dX7_bags_26 : decode cX7_bags 26 = .ok (.iload_n 3, 1) := by decide +kernel
theorem dX7_bags_27 : decode cX7_bags 27 = .ok (.iconst 1, 1) := by decide +kernel
theorem dX7_bags_28 : decode cX7_bags 28 = .ok (.invokevirtual 39, 3) := by decide +kernel
theorem dX7_bags_31 : decode cX7_bags 31 = .ok (.goto 4, 3) := by decide +kernel
theorem dX7_bags_34 : decode cX7_bags 34 = .ok (.iconst 0, 1) := by decide +kernel
theorem dX7_bags_35 : decode cX7_bags 35 = .ok (.iadd, 1) := by decide +kernel
theorem dX7_bags_36 : decode cX7_bags 36 = .ok (.istore_n 2, 1) := by decide +kernel
theorem dX7_bags_37 : decode cX7_bags 37 = .ok (.iinc 3 1, 3) := by decide +kernel
theorem dX7_bags_40 : decode cX7_bags 40 = .ok (.goto (-36), 3) := by decide +kernel
theorem dX7_bags_43 : decode cX7_bags 43 = .ok (.iload_n 2, 1) := by decide +kernel
theorem dX7_bags_44 : decode cX7_bags 44 = .ok (.ireturn, 1) := by decide +kernel
set_option maxRecDepth 20000 in
theorem ggX7_count_X7_bags : GoodIn wsX7_count wsX7_bags := goodIn_r _ [9, 1, 10, 11, 12, 8, 13, 14, 15, 16, 17, 18, 19, 20, 21, 25, 26, 27, 28, 29, 30, 31, 32, 33, 34, 35, 36, 37, 38, 39, 40, 41, 42] (by decide +kernel) (by decide +kernel)
set_option maxRecDepth 20000 in
theorem gX7_count_X7_bags : GoodIn wsX7_count (wsV RX7 132 RX7 yX7_bags wsX7_bags) := goodIn_app (goodIn_of _ (by decide +kernel)) ggX7_count_X7_bags
set_option maxRecDepth 20000 in
theorem ggX7_count_X7_in : GoodIn wsX7_count wsX7_in := goodIn_r _ [24] (by decide +kernel) (by decide +kernel)
set_option maxRecDepth 20000 in
theorem gX7_count_X7_in : GoodIn wsX7_count (va_wsS RX7 61 yX7_in wsX7_in) := goodIn_app (goodIn_of _ (by decide +kernel)) ggX7_count_X7_in
theorem dX7_count_0 : decode cX7_count 0 = .ok (.iload_n 1, 1) := by decide +kernel
theorem dX7_count_1 : decode cX7_count 1 = .ok (.tableswitch 134 0 11 #[63, 71, 77, 84, 92, 99, 99, 99, 110, 117, 124, 129], 63) := by decide +kernel
theorem dX7_count_64 : decode cX7_count 64 = .ok (.aload_n 0, 1) := by decide +kernel
theorem dX7_count_65 : decode cX7_count 65 = .ok (.getfield 7, 3) := by decide +kernel
theorem dX7_count_68 : decode cX7_count 68 = .ok (.bipush 6, 2) := by decide +kernel
theorem dX7_count_70 : decode cX7_count 70 = .ok (.iaload, 1) := by decide +kernel
theorem dX7_count_71 : decode cX7_count 71 = .ok (.ireturn, 1) := by decide +kernel
theorem dX7_count_72 : decode cX7_count 72 = .ok (.aload_n 0, 1) := by decide +kernel
theorem dX7_count_73 : decode cX7_count 73 = .ok (.iconst 0, 1) := by decide +kernel
theorem dX7_count_74 : decode cX7_count 74 = .ok (.invokevirtual 132, 3) := by decide +kernel
theorem dX7_count_77 : decode cX7_count 77 = .ok (.ireturn, 1) := by decide +kernel
theorem dX7_count_78 : decode cX7_count 78 = .ok (.aload_n 0, 1) := by decide +kernel
theorem dX7_count_79 : decode cX7_count 79 = .ok (.getfield 7, 3) := by decide +kernel
theorem dX7_count_82 : decode cX7_count 82 = .ok (.iconst 0, 1) := by decide +kernel
theorem dX7_count_83 : decode cX7_count 83 = .ok (.iaload, 1) := by decide +kernel
theorem dX7_count_84 : decode cX7_count 84 = .ok (.ireturn, 1) := by decide +kernel
theorem dX7_count_85 : decode cX7_count 85 = .ok (.aload_n 0, 1) := by decide +kernel
theorem dX7_count_86 : decode cX7_count 86 = .ok (.getfield 7, 3) := by decide +kernel
theorem dX7_count_89 : decode cX7_count 89 = .ok (.bipush 7, 2) := by decide +kernel
theorem dX7_count_91 : decode cX7_count 91 = .ok (.iaload, 1) := by decide +kernel
theorem dX7_count_92 : decode cX7_count 92 = .ok (.ireturn, 1) := by decide +kernel
theorem dX7_count_93 : decode cX7_count 93 = .ok (.aload_n 0, 1) := by decide +kernel
theorem dX7_count_94 : decode cX7_count 94 = .ok (.getfield 7, 3) := by decide +kernel
theorem dX7_count_97 : decode cX7_count 97 = .ok (.iconst 1, 1) := by decide +kernel
theorem dX7_count_98 : decode cX7_count 98 = .ok (.iaload, 1) := by decide +kernel
theorem dX7_count_99 : decode cX7_count 99 = .ok (.ireturn, 1) := by decide +kernel
theorem dX7_count_100 : decode cX7_count 100 = .ok (.aload_n 0, 1) := by decide +kernel
theorem dX7_count_101 : decode cX7_count 101 = .ok (.getfield 7, 3) := by decide +kernel
theorem dX7_count_104 : decode cX7_count 104 = .ok (.iconst 2, 1) := by decide +kernel
theorem dX7_count_105 : decode cX7_count 105 = .ok (.iload_n 1, 1) := by decide +kernel
theorem dX7_count_106 : decode cX7_count 106 = .ok (.iadd, 1) := by decide +kernel
theorem dX7_count_107 : decode cX7_count 107 = .ok (.iconst 5, 1) := by decide +kernel
theorem dX7_count_108 : decode cX7_count 108 = .ok (.isub, 1) := by decide +kernel
theorem dX7_count_109 : decode cX7_count 109 = .ok (.iaload, 1) := by decide +kernel
theorem dX7_count_110 : decode cX7_count 110 = .ok (.ireturn, 1) := by decide +kernel
theorem dX7_count_111 : decode cX7_count 111 = .ok (.aload_n 0, 1) := by decide +kernel
theorem dX7_count_112 : decode cX7_count 112 = .ok (.bipush 70, 2) := by decide +kernel
theorem dX7_count_114 : decode cX7_count 114 = .ok (.invokevirtual 132, 3) := by decide +kernel
theorem dX7_count_117 : decode cX7_count 117 = .ok (.ireturn, 1) := by decide +kernel
theorem dX7_count_118 : decode cX7_count 118 = .ok (.aload_n 0, 1) := by decide +kernel
theorem dX7_count_119 : decode cX7_count 119 = .ok (.getfield 7, 3) := by decide +kernel
theorem dX7_count_122 : decode cX7_count 122 = .ok (.iconst 5, 1) := by decide +kernel
theorem dX7_count_123 : decode cX7_count 123 = .ok (.iaload, 1) := by decide +kernel
theorem dX7_count_124 : decode cX7_count 124 = .ok (.ireturn, 1) := by decide +kernel
theorem dX7_count_125 : decode cX7_count 125 = .ok (.aload_n 0, 1) := by decide +kernel
theorem dX7_count_126 : decode cX7_count 126 = .ok (.getfield 35, 3) := by decide +kernel
theorem dX7_count_129 : decode cX7_count 129 = .ok (.ireturn, 1) := by decide +kernel
theorem dX7_count_130 : decode cX7_count 130 = .ok (.aload_n 0, 1) := by decide +kernel
theorem dX7_count_131 : decode cX7_count 131 = .ok (.getfield 135, 3) := by decide +kernel
theorem dX7_count_134 : decode cX7_count 134 = .ok (.ireturn, 1) := by decide +kernel
theorem dX7_count_135 : decode cX7_count 135 = .ok (.iload_n 1, 1) := by decide +kernel
theorem dX7_count_136 : decode cX7_count 136 = .ok (.bipush 20, 2) := by decide +kernel
theorem dX7_count_138 : decode cX7_count 138 = .ok (.bipush 24, 2) := by decide +kernel
theorem dX7_count_140 : decode cX7_count 140 = .ok (.invokestatic 61, 3) := by decide +kernel
theorem dX7_count_143 : decode cX7_count 143 = .ok (.ifCond .eq 18, 3) := by decide +kernel
theorem dX7_count_146 : decode cX7_count 146 = .ok (.aload_n 0, 1) := by decide +kernel
theorem dX7_count_147 : decode cX7_count 147 = .ok (.getfield 7, 3) := by decide +kernel
theorem dX7_count_150 : decode cX7_count 150 = .ok (.bipush 8, 2) := by decide +kernel
theorem dX7_count_152 : decode cX7_count 152 = .ok (.iload_n 1, 1) := by decide +kernel
theorem dX7_count_153 : decode cX7_count 153 = .ok (.iadd, 1) := by decide +kernel
theorem dX7_count_154 : decode cX7_count 154 = .ok (.bipush 20, 2) := by decide +kernel
theorem dX7_count_156 : decode cX7_count 156 = .ok (.isub, 1) := by decide +kernel
theorem dX7_count_157 : decode cX7_count 157 = .ok (.iaload, 1) := by decide +kernel
theorem dX7_count_158 : decode cX7_count 158 = .ok (.goto 5, 3) := by decide +kernel
theorem dX7_count_161 : decode cX7_count 161 = .ok (.ldc 65, 2) := by decide +kernel
theorem dX7_count_163 : decode cX7_count 163 = .ok (.ireturn, 1) := by decide +kernel
theorem dX7_undo_0 : decode cX7_undo 0 = .ok (.aload_n 0, 1) := by decide +kernel
theorem dX7_undo_1 : decode cX7_undo 1 = .ok (.getfield 35, 3) := by decide +kernel
theorem dX7_undo_4 : decode cX7_undo 4 = .ok (.ifCond .ne 6, 3) := by decide +kernel
theorem dX7_undo_7 : decode cX7_undo 7 = .ok (.ldc 77, 2) := by decide +kernel
theorem dX7_undo_9 : decode cX7_undo 9 = .ok (.ireturn, 1) := by decide +kernel
theorem dX7_undo_10 : decode cX7_undo 10 = .ok (.aload_n 0, 1) := by decide +kernel
theorem dX7_undo_11 : decode cX7_undo 11 = .ok (.dup, 1) := by decide +kernel
theorem dX7_undo_12 : decode cX7_undo 12 = .ok (.getfield 35, 3) := by decide +kernel
theorem dX7_undo_15 : decode cX7_undo 15 = .ok (.iconst 1, 1) := by decide +kernel
theorem dX7_undo_16 : decode cX7_undo 16 = .ok (.isub, 1) := by decide +kernel
theorem dX7_undo_17 : decode cX7_undo 17 = .ok (.putfield 35, 3) := by decide +kernel
theorem dX7_undo_20 : decode cX7_undo 20 = .ok (.iconst 0, 1) := by decide +kernel
theorem dX7_undo_21 : decode cX7_undo 21 = .ok (.istore_n 1, 1) := by decide +kernel
theorem dX7_undo_22 : decode cX7_undo 22 = .ok (.iload_n 1, 1) := by decide +kernel
theorem dX7_undo_23 : decode cX7_undo 23 = .ok (.bipush 81, 2) := by decide +kernel
theorem dX7_undo_25 : decode cX7_undo 25 = .ok (.if_icmp .ge 29, 3) := by decide +kernel
theorem dX7_undo_28 : decode cX7_undo 28 = .ok (.aload_n 0, 1) := by decide +kernel
theorem dX7_undo_29 : decode cX7_undo 29 = .ok (.getfield 7, 3) := by decide +kernel
theorem dX7_undo_32 : decode cX7_undo 32 = .ok (.iload_n 1, 1) := by decide +kernel
theorem dX7_undo_33 : decode cX7_undo 33 = .ok (.aload_n 0, 1) := by decide +kernel
theorem dX7_undo_34 : decode cX7_undo 34 = .ok (.getfield 13, 3) := by decide +kernel
theorem dX7_undo_37 : decode cX7_undo 37 = .ok (.bipush 81, 2) := by decide +kernel
theorem dX7_undo_39 : decode cX7_undo 39 = .ok (.aload_n 0, 1) := by decide +kernel
theorem dX7_undo_40 : decode cX7_undo 40 = .ok (.getfield 35, 3) := by decide +kernel
theorem dX7_undo_43 : decode cX7_undo 43 = .ok (.imul, 1) := by decide +kernel
theorem dX7_undo_44 : decode cX7_undo 44 = .ok (.iload_n 1, 1) := by decide +kernel
theorem dX7_undo_45 : decode cX7_undo 45 = .ok (.iadd, 1) := by decide +kernel
theorem dX7_undo_46 : decode cX7_undo 46 = .ok (.iaload, 1) := by decide +kernel
theorem dX7_undo_47 : decode cX7_undo 47 = .ok (.iastore, 1) := by decide +kernel
theorem dX7_undo_48 : decode cX7_undo 48 = .ok (.iinc 1 1, 3) := by decide +kernel
theorem dX7_undo_51 : decode cX7_undo 51 = .ok (.goto (-29), 3) := by decide +kernel
theorem dX7_undo_54 : decode cX7_undo 54 = .ok (.aload_n 0, 1) := by decide +kernel
theorem dX7_undo_55 : decode cX7_undo 55 = .ok (.getfield 35, 3) := by decide +kernel
theorem dX7_undo_58 : decode cX7_undo 58 = .ok (.ireturn, 1) := by decide +kernel
set_option maxRecDepth 20000 in
theorem ggX7_type_X7_in : GoodIn wsX7_type wsX7_in := goodIn_r _ [8] (by decide +kernel) (by decide +kernel)
set_option maxRecDepth 20000 in
theorem gX7_type_X7_in : GoodIn wsX7_type (va_wsS RX7 61 yX7_in wsX7_in) := goodIn_app (goodIn_of _ (by decide +kernel)) ggX7_type_X7_in
theorem dX7_type_0 : decode cX7_type 0 = .ok (.iload_n 1, 1) := by decide +kernel
theorem dX7_type_1 : decode cX7_type 1 = .ok (.bipush 32, 2) := by decide +kernel
theorem dX7_type_3 : decode cX7_type 3 = .ok (.bipush 126, 2) := by decide +kernel
theorem dX7_type_5 : decode cX7_type 5 = .ok (.invokestatic 61, 3) := by decide +kernel
theorem dX7_type_8 : decode cX7_type 8 = .ok (.ifCond .ne 6, 3) := by decide +kernel
theorem dX7_type_11 : decode cX7_type 11 = .ok (.ldc 65, 2) := by decide +kernel
theorem dX7_type_13 : decode cX7_type 13 = .ok (.ireturn, 1) := by decide +kernel
theorem dX7_type_14 : decode cX7_type 14 = .ok (.aload_n 0, 1) := by decide +kernel
theorem dX7_type_15 : decode cX7_type 15 = .ok (.getfield 135, 3) := by decide +kernel
theorem dX7_type_18 : decode cX7_type 18 = .ok (.bipush 60, 2) := by decide +kernel
theorem dX7_type_20 : decode cX7_type 20 = .ok (.if_icmp .ne 6, 3) := by decide +kernel
theorem dX7_type_23 : decode cX7_type 23 = .ok (.ldc 66, 2) := by decide +kernel
theorem dX7_type_25 : decode cX7_type 25 = .ok (.ireturn, 1) := by decide +kernel
theorem dX7_type_26 : decode cX7_type 26 = .ok (.aload_n 0, 1) := by decide +kernel
theorem dX7_type_27 : decode cX7_type 27 = .ok (.getfield 19, 3) := by decide +kernel
theorem dX7_type_30 : decode cX7_type 30 = .ok (.aload_n 0, 1) := by decide +kernel
theorem dX7_type_31 : decode cX7_type 31 = .ok (.getfield 135, 3) := by decide +kernel
theorem dX7_type_34 : decode cX7_type 34 = .ok (.iload_n 1, 1) := by decide +kernel
theorem dX7_type_35 : decode cX7_type 35 = .ok (.iastore, 1) := by decide +kernel
theorem dX7_type_36 : decode cX7_type 36 = .ok (.aload_n 0, 1) := by decide +kernel
theorem dX7_type_37 : decode cX7_type 37 = .ok (.dup, 1) := by decide +kernel
theorem dX7_type_38 : decode cX7_type 38 = .ok (.getfield 135, 3) := by decide +kernel
theorem dX7_type_41 : decode cX7_type 41 = .ok (.iconst 1, 1) := by decide +kernel
theorem dX7_type_42 : decode cX7_type 42 = .ok (.iadd, 1) := by decide +kernel
theorem dX7_type_43 : decode cX7_type 43 = .ok (.putfield 135, 3) := by decide +kernel
theorem dX7_type_46 : decode cX7_type 46 = .ok (.aload_n 0, 1) := by decide +kernel
theorem dX7_type_47 : decode cX7_type 47 = .ok (.getfield 135, 3) := by decide +kernel
theorem dX7_type_50 : decode cX7_type 50 = .ok (.ireturn, 1) := by decide +kernel
theorem dX7_clearText_0 : decode cX7_clearText 0 = .ok (.aload_n 0, 1) := by decide +kernel
theorem dX7_clearText_1 : decode cX7_clearText 1 = .ok (.getfield 135, 3) := by decide +kernel
theorem dX7_clearText_4 : decode cX7_clearText 4 = .ok (.istore_n 1, 1) := by decide +kernel
theorem dX7_clearText_5 : decode cX7_clearText 5 = .ok (.aload_n 0, 1) := by decide +kernel
theorem dX7_clearText_6 : decode cX7_clearText 6 = .ok (.iconst 0, 1) := by decide +kernel
theorem dX7_clearText_7 : decode cX7_clearText 7 = .ok (.putfield 135, 3) := by decide +kernel
theorem dX7_clearText_10 : decode cX7_clearText 10 = .ok (.iload_n 1, 1) := by decide +kernel
theorem dX7_clearText_11 : decode cX7_clearText 11 = .ok (.ireturn, 1) := by decide +kernel
set_option maxRecDepth 20000 in
theorem ggX7_isAt_X7_in : GoodIn wsX7_isAt wsX7_in := goodIn_r _ [7] (by decide +kernel) (by decide +kernel)
set_option maxRecDepth 20000 in
theorem gX7_isAt_X7_in : GoodIn wsX7_isAt (va_wsS RX7 61 yX7_in wsX7_in) := goodIn_app (goodIn_of _ (by decide +kernel)) ggX7_isAt_X7_in
theorem dX7_isAt_0 : decode cX7_isAt 0 = .ok (.aload_n 0, 1) := by decide +kernel
theorem dX7_isAt_1 : decode cX7_isAt 1 = .ok (.getfield 138, 3) := by decide +kernel
theorem dX7_isAt_4 : decode cX7_isAt 4 = .ok (.aload_n 0, 1) := by decide +kernel
theorem dX7_isAt_5 : decode cX7_isAt 5 = .ok (.getfield 135, 3) := by decide +kernel
theorem dX7_isAt_8 : decode cX7_isAt 8 = .ok (.if_icmp .ge 24, 3) := by decide +kernel
theorem dX7_isAt_11 : decode cX7_isAt 11 = .ok (.aload_n 0, 1) := by decide +kernel
theorem dX7_isAt_12 : decode cX7_isAt 12 = .ok (.getfield 19, 3) := by decide +kernel
theorem dX7_isAt_15 : decode cX7_isAt 15 = .ok (.aload_n 0, 1) := by decide +kernel
theorem dX7_isAt_16 : decode cX7_isAt 16 = .ok (.getfield 138, 3) := by decide +kernel
theorem dX7_isAt_19 : decode cX7_isAt 19 = .ok (.iaload, 1) := by decide +kernel
theorem dX7_isAt_20 : decode cX7_isAt 20 = .ok (.iload_n 1, 1) := by decide +kernel
theorem dX7_isAt_21 : decode cX7_isAt 21 = .ok (.iload_n 2, 1) := by decide +kernel
theorem dX7_isAt_22 : decode cX7_isAt 22 = .ok (.invokestatic 61, 3) := by decide +kernel
theorem dX7_isAt_25 : decode cX7_isAt 25 = .ok (.ifCond .eq 7, 3) := by decide +kernel
theorem dX7_isAt_28 : decode cX7_isAt 28 = .ok (.iconst 1, 1) := by decide +kernel
theorem dX7_isAt_29 : decode cX7_isAt 29 = .ok (.goto 4, 3) := by decide +kernel
theorem dX7_isAt_32 : decode cX7_isAt 32 = .ok (.iconst 0, 1) := by decide +kernel
theorem dX7_isAt_33 : decode cX7_isAt 33 = .ok (.ireturn, 1) := by decide +kernel
set_option maxRecDepth 20000 in
theorem ggX7_sign_X7_isAt : GoodIn wsX7_sign wsX7_isAt := goodIn_r _ [6, 1, 7, 8, 9, 10, 5, 11, 12, 13, 14, 15, 16, 17, 18, 19, 20, 21, 22, 23, 24, 25, 26, 27, 28, 29] (by decide +kernel) (by decide +kernel)
set_option maxRecDepth 20000 in
theorem gX7_sign_X7_isAt : GoodIn wsX7_sign (wsV RX7 141 RX7 yX7_isAt wsX7_isAt) := goodIn_app (goodIn_of _ (by decide +kernel)) ggX7_sign_X7_isAt
theorem dX7_sign_0 : decode cX7_sign 0 = .ok (.aload_n 0, 1) := by decide +kernel
theorem dX7_sign_1 : decode cX7_sign 1 = .ok (.iload_n 1, 1) := by decide +kernel
theorem dX7_sign_2 : decode cX7_sign 2 = .ok (.iload_n 1, 1) := by decide +kernel
theorem dX7_sign_3 : decode cX7_sign 3 = .ok (.invokevirtual 141, 3) := by decide +kernel
theorem dX7_sign_6 : decode cX7_sign 6 = .ok (.istore_n 2, 1) := by decide +kernel
theorem dX7_sign_7 : decode cX7_sign 7 = .ok (.aload_n 0, 1) := by decide +kernel
theorem dX7_sign_8 : decode cX7_sign 8 = .ok (.dup, 1) := by decide +kernel
theorem dX7_sign_9 : decode cX7_sign 9 = .ok (.getfield 138, 3) := by decide +kernel
theorem dX7_sign_12 : decode cX7_sign 12 = .ok (.iload_n 2, 1) := by decide +kernel
theorem dX7_sign_13 : decode cX7_sign 13 = .ok (.ifCond .eq 7, 3) := by decide +kernel
theorem dX7_sign_16 : decode cX7_sign 16 = .ok (.iconst 1, 1) := by decide +kernel
theorem dX7_sign_17 : decode cX7_sign 17 = .ok (.goto 4, 3) := by decide +kernel
theorem dX7_sign_20 : decode cX7_sign 20 = .ok (.iconst 0, 1) := by decide +kernel
theorem dX7_sign_21 : decode cX7_sign 21 = .ok (.iadd, 1) := by decide +kernel
theorem dX7_sign_22 : decode cX7_sign 22 = .ok (.putfield 138, 3) := by decide +kernel
theorem dX7_sign_25 : decode cX7_sign 25 = .ok (.iload_n 2, 1) := by decide +kernel
theorem dX7_sign_26 : decode cX7_sign 26 = .ok (.ireturn, 1) := by decide +kernel
set_option maxRecDepth 20000 in
theorem ggX7_number_X7_isAt : GoodIn wsX7_number wsX7_isAt := goodIn_r _ [8, 1, 9, 3, 10, 11, 7, 12, 13, 14, 15, 16, 17, 18, 19, 20, 21, 22, 23, 24, 25, 26, 27, 28, 29, 30] (by decide +kernel) (by decide +kernel)
set_option maxRecDepth 20000 in
theorem gX7_number_X7_isAt : GoodIn wsX7_number (wsV RX7 141 RX7 yX7_isAt wsX7_isAt) := goodIn_app (goodIn_of _ (by decide +kernel)) ggX7_number_X7_isAt
theorem dX7_number_0 : decode cX7_number 0 = .ok (.aload_n 0, 1) := by decide +kernel
theorem dX7_number_1 : decode cX7_number 1 = .ok (.getfield 138, 3) := by decide +kernel
theorem dX7_number_4 : decode cX7_number 4 = .ok (.istore_n 2, 1) := by decide +kernel
theorem dX7_number_5 : decode cX7_number 5 = .ok (.aload_n 0, 1) := by decide +kernel
theorem dX7_number_6 : decode cX7_number 6 = .ok (.getfield 28, 3) := by decide +kernel
theorem dX7_number_9 : decode cX7_number 9 = .ok (.iload_n 1, 1) := by decide +kernel
theorem dX7_number_10 : decode cX7_number 10 = .ok (.iconst 0, 1) := by decide +kernel
theorem dX7_number_11 : decode cX7_number 11 = .ok (.iastore, 1) := by decide +kernel
theorem dX7_number_12 : decode cX7_number 12 = .ok (.aload_n 0, 1) := by decide +kernel
theorem dX7_number_13 : decode cX7_number 13 = .ok (.bipush 48, 2) := by decide +kernel
theorem dX7_number_15 : decode cX7_number 15 = .ok (.bipush 57, 2) := by decide +kernel
theorem dX7_number_17 : decode cX7_number 17 = .ok (.invokevirtual 141, 3) := by decide +kernel
theorem dX7_number_20 : decode cX7_number 20 = .ok (.ifCond .eq 54, 3) := by decide +kernel
theorem dX7_number_23 : decode cX7_number 23 = .ok (.aload_n 0, 1) := by decide +kernel
theorem dX7_number_24 : decode cX7_number 24 = .ok (.getfield 138, 3) := by decide +kernel
theorem dX7_number_27 : decode cX7_number 27 = .ok (.iload_n 2, 1) := by decide +kernel
theorem dX7_number_28 : decode cX7_number 28 = .ok (.isub, 1) := by decide +kernel
theorem dX7_number_29 : decode cX7_number 29 = .ok (.iconst 4, 1) := by decide +kernel
theorem dX7_number_30 : decode cX7_number 30 = .ok (.if_icmp .ge 44, 3) := by decide +kernel
theorem dX7_number_33 : decode cX7_number 33 = .ok (.aload_n 0, 1) := by decide +kernel
theorem dX7_number_34 : decode cX7_number 34 = .ok (.getfield 28, 3) := by decide +kernel
theorem dX7_number_37 : decode cX7_number 37 = .ok (.iload_n 1, 1) := by decide +kernel
theorem dX7_number_38 : decode cX7_number 38 = .ok (.bipush 10, 2) := by decide +kernel
theorem dX7_number_40 : decode cX7_number 40 = .ok (.aload_n 0, 1) := by decide +kernel
theorem dX7_number_41 : decode cX7_number 41 = .ok (.getfield 28, 3) := by decide +kernel
theorem dX7_number_44 : decode cX7_number 44 = .ok (.iload_n 1, 1) := by decide +kernel
theorem dX7_number_45 : decode cX7_number 45 = .ok (.iaload, 1) := by decide +kernel
theorem dX7_number_46 : decode cX7_number 46 = .ok (.imul, 1) := by decide +kernel
theorem dX7_number_47 : decode cX7_number 47 = .ok (.aload_n 0, 1) := by decide +kernel
theorem dX7_number_48 : decode cX7_number 48 = .ok (.getfield 19, 3) := by decide +kernel
theorem dX7_number_51 : decode cX7_number 51 = .ok (.aload_n 0, 1) := by decide +kernel
theorem dX7_number_52 : decode cX7_number 52 = .ok (.getfield 138, 3) := by decide +kernel
theorem dX7_number_55 : decode cX7_number 55 = .ok (.iaload, 1) := by decide +kernel
theorem dX7_number_56 : decode cX7_number 56 = .ok (.iadd, 1) := by decide +kernel
theorem dX7_number_57 : decode cX7_number 57 = .ok (.bipush 48, 2) := by decide +kernel
theorem dX7_number_59 : decode cX7_number 59 = .ok (.isub, 1) := by decide +kernel
theorem dX7_number_60 : decode cX7_number 60 = .ok (.iastore, 1) := by decide +kernel
theorem dX7_number_61 : decode cX7_number 61 = .ok (.aload_n 0, 1) := by decide +kernel
theorem dX7_number_62 : decode cX7_number 62 = .ok (.dup, 1) := by decide +kernel
theorem dX7_number_63 : decode cX7_number 63 = .ok (.getfield 138, 3) := by decide +kernel
theorem dX7_number_66 : decode cX7_number 66 = .ok (.iconst 1, 1) := by decide +kernel
theorem dX7_number_67 : decode cX7_number 67 = .ok (.iadd, 1) := by decide +kernel
theorem dX7_number_68 : decode cX7_number 68 = .ok (.putfield 138, 3) := by decide +kernel
theorem dX7_number_71 : decode cX7_number 71 = .ok (.goto (-59), 3) := by decide +kernel
theorem dX7_number_74 : decode cX7_number 74 = .ok (.aload_n 0, 1) := by decide +kernel
theorem dX7_number_75 : decode cX7_number 75 = .ok (.getfield 138, 3) := by decide +kernel
theorem dX7_number_78 : decode cX7_number 78 = .ok (.iload_n 2, 1) := by decide +kernel
theorem dX7_number_79 : decode cX7_number 79 = .ok (.if_icmp .le 7, 3) := by decide +kernel
theorem dX7_number_82 : decode cX7_number 82 = .ok (.iconst 1, 1) := by decide +kernel
theorem dX7_number_83 : decode cX7_number 83 = .ok (.goto 4, 3) := by decide +kernel
theorem dX7_number_86 : decode cX7_number 86 = .ok (.iconst 0, 1) := by decide +kernel
theorem dX7_number_87 : decode cX7_number 87 = .ok (.ireturn, 1) := by decide +kernel
theorem dX7_numbersOf_0 : decode cX7_numbersOf 0 = .ok (.iload_n 0, 1) := by decide +kernel
theorem dX7_numbersOf_1 : decode cX7_numbersOf 1 = .ok (.bipush 108, 2) := by decide +kernel
theorem dX7_numbersOf_3 : decode cX7_numbersOf 3 = .ok (.if_icmp .eq 9, 3) := by decide +kernel
theorem dX7_numbersOf_6 : decode cX7_numbersOf 6 = .ok (.iload_n 0, 1) := by decide +kernel
theorem dX7_numbersOf_7 : decode cX7_numbersOf 7 = .ok (.bipush 115, 2) := by decide +kernel
theorem dX7_numbersOf_9 : decode cX7_numbersOf 9 = .ok (.if_icmp .ne 7, 3) := by decide +kernel
theorem dX7_numbersOf_12 : decode cX7_numbersOf 12 = .ok (.iconst 2, 1) := by decide +kernel
theorem dX7_numbersOf_13 : decode cX7_numbersOf 13 = .ok (.goto 36, 3) := by decide +kernel
theorem dX7_numbersOf_16 : decode cX7_numbersOf 16 = .ok (.iload_n 0, 1) := by decide +kernel
theorem dX7_numbersOf_17 : decode cX7_numbersOf 17 = .ok (.bipush 98, 2) := by decide +kernel
theorem dX7_numbersOf_19 : decode cX7_numbersOf 19 = .ok (.if_icmp .ne 7, 3) := by decide +kernel
theorem dX7_numbersOf_22 : decode cX7_numbersOf 22 = .ok (.iconst 4, 1) := by decide +kernel
theorem dX7_numbersOf_23 : decode cX7_numbersOf 23 = .ok (.goto 26, 3) := by decide +kernel
theorem dX7_numbersOf_26 : decode cX7_numbersOf 26 = .ok (.iload_n 0, 1) := by decide +kernel
theorem dX7_numbersOf_27 : decode cX7_numbersOf 27 = .ok (.bipush 99, 2) := by decide +kernel
theorem dX7_numbersOf_29 : decode cX7_numbersOf 29 = .ok (.if_icmp .eq 15, 3) := by decide +kernel
theorem dX7_numbersOf_32 : decode cX7_numbersOf 32 = .ok (.iload_n 0, 1) := by decide +kernel
theorem dX7_numbersOf_33 : decode cX7_numbersOf 33 = .ok (.bipush 100, 2) := by decide +kernel
theorem dX7_numbersOf_35 : decode cX7_numbersOf 35 = .ok (.if_icmp .eq 9, 3) := by decide +kernel
theorem dX7_numbersOf_38 : decode cX7_numbersOf 38 = .ok (.iload_n 0, 1) := by decide +kernel
theorem dX7_numbersOf_39 : decode cX7_numbersOf 39 = .ok (.bipush 109, 2) := by decide +kernel
theorem dX7_numbersOf_41 : decode cX7_numbersOf 41 = .ok (.if_icmp .ne 7, 3) := by decide +kernel
theorem dX7_numbersOf_44 : decode cX7_numbersOf 44 = .ok (.iconst 1, 1) := by decide +kernel
theorem dX7_numbersOf_45 : decode cX7_numbersOf 45 = .ok (.goto 4, 3) := by decide +kernel
theorem dX7_numbersOf_48 : decode cX7_numbersOf 48 = .ok (.iconst 0, 1) := by decide +kernel
theorem dX7_numbersOf_49 : decode cX7_numbersOf 49 = .ok (.ireturn, 1) := by decide +kernel
set_option maxRecDepth 20000 in
theorem ggX7_reads_X7_isAt : GoodIn wsX7_reads wsX7_isAt := goodIn_r _ [8, 2, 9, 1, 10, 11, 7, 12, 25, 26, 27, 28, 29, 30, 31, 32, 33, 34, 35, 36, 37, 38, 39, 40, 41, 42] (by decide +kernel) (by decide +kernel)
set_option maxRecDepth 20000 in
theorem gX7_reads_X7_isAt : GoodIn wsX7_reads (wsV RX7 141 RX7 yX7_isAt wsX7_isAt) := goodIn_app (goodIn_of _ (by decide +kernel)) ggX7_reads_X7_isAt
set_option maxRecDepth 20000 in
theorem ggX7_reads_X7_numbersOf : GoodIn wsX7_reads wsX7_numbersOf := goodIn_r _ [15] (by decide +kernel) (by decide +kernel)
set_option maxRecDepth 20000 in
theorem gX7_reads_X7_numbersOf : GoodIn wsX7_reads (va_wsS RX7 148 yX7_numbersOf wsX7_numbersOf) := goodIn_app (goodIn_of _ (by decide +kernel)) ggX7_reads_X7_numbersOf
set_option maxRecDepth 20000 in
theorem ggX7_reads_X7_number : GoodIn wsX7_reads wsX7_number := goodIn_r _ [19, 2, 20, 1, 4, 5, 6, 7, 8, 9, 10, 11, 12, 25, 26, 27, 28, 29, 30, 31, 32, 33, 34, 35, 36, 37, 38, 39, 40, 41, 42] (by decide +kernel) (by decide +kernel)
set_option maxRecDepth 20000 in
theorem gX7_reads_X7_number : GoodIn wsX7_reads (wsV RX7 151 RX7 yX7_number wsX7_number) := goodIn_app (goodIn_of _ (by decide +kernel)) ggX7_reads_X7_number
set_option maxRecDepth 20000 in
theorem ggX7_reads_X7_sign : GoodIn wsX7_reads wsX7_sign := goodIn_r _ [24, 2, 4, 5, 6, 7, 8, 9, 1, 10, 11, 12, 25, 26, 27, 28, 29, 30, 31, 32, 33, 34, 35, 36, 37, 38, 39, 40, 41, 42] (by decide +kernel) (by decide +kernel)
set_option maxRecDepth 20000 in
theorem gX7_reads_X7_sign : GoodIn wsX7_reads (wsV RX7 154 RX7 yX7_sign wsX7_sign) := goodIn_app (goodIn_of _ (by decide +kernel)) ggX7_reads_X7_sign
theorem dX7_reads_0 : decode cX7_reads 0 = .ok (.aload_n 0, 1) := by decide +kernel
theorem dX7_reads_1 : decode cX7_reads 1 = .ok (.aload_n 0, 1) := by decide +kernel
theorem dX7_reads_2 : decode cX7_reads 2 = .ok (.bipush 33, 2) := by decide +kernel
theorem dX7_reads_4 : decode cX7_reads 4 = .ok (.bipush 126, 2) := by decide +kernel
theorem dX7_reads_6 : decode cX7_reads 6 = .ok (.invokevirtual 141, 3) := by decide +kernel
theorem dX7_reads_9 : decode cX7_reads 9 = .ok (.ifCond .eq 15, 3) := by decide +kernel
theorem dX7_reads_12 : decode cX7_reads 12 = .ok (.aload_n 0, 1) := by decide +kernel
theorem dX7_reads_13 : decode cX7_reads 13 = .ok (.getfield 19, 3) := by decide +kernel
theorem dX7_reads_16 : decode cX7_reads 16 = .ok (.aload_n 0, 1) := by decide +kernel
theorem dX7_reads_17 : decode cX7_reads 17 = .ok (.getfield 138, 3) := by decide +kernel
theorem dX7_reads_20 : decode cX7_reads 20 = .ok (.iaload, 1) := by decide +kernel
theorem dX7_reads_21 : decode cX7_reads 21 = .ok (.goto 4, 3) := by decide +kernel
theorem dX7_reads_24 : decode cX7_reads 24 = .ok (.iconst 0, 1) := by decide +kernel
theorem dX7_reads_25 : decode cX7_reads 25 = .ok (.putfield 145, 3) := by decide +kernel
theorem dX7_reads_28 : decode cX7_reads 28 = .ok (.aload_n 0, 1) := by decide +kernel
theorem dX7_reads_29 : decode cX7_reads 29 = .ok (.getfield 145, 3) := by decide +kernel
theorem dX7_reads_32 : decode cX7_reads 32 = .ok (.invokestatic 148, 3) := by decide +kernel
theorem dX7_reads_35 : decode cX7_reads 35 = .ok (.istore_n 1, 1) := by decide +kernel
theorem dX7_reads_36 : decode cX7_reads 36 = .ok (.iload_n 1, 1) := by decide +kernel
theorem dX7_reads_37 : decode cX7_reads 37 = .ok (.ifCond .ne 5, 3) := by decide +kernel
theorem dX7_reads_40 : decode cX7_reads 40 = .ok (.iconst 0, 1) := by decide +kernel
theorem dX7_reads_41 : decode cX7_reads 41 = .ok (.ireturn, 1) := by decide +kernel
theorem dX7_reads_42 : decode cX7_reads 42 = .ok (.aload_n 0, 1) := by decide +kernel
theorem dX7_reads_43 : decode cX7_reads 43 = .ok (.dup, 1) := by decide +kernel
theorem dX7_reads_44 : decode cX7_reads 44 = .ok (.getfield 138, 3) := by decide +kernel
theorem dX7_reads_47 : decode cX7_reads 47 = .ok (.iconst 1, 1) := by decide +kernel
theorem dX7_reads_48 : decode cX7_reads 48 = .ok (.iadd, 1) := by decide +kernel
theorem dX7_reads_49 : decode cX7_reads 49 = .ok (.putfield 138, 3) := by decide +kernel
theorem dX7_reads_52 : decode cX7_reads 52 = .ok (.aload_n 0, 1) := by decide +kernel
theorem dX7_reads_53 : decode cX7_reads 53 = .ok (.iconst 0, 1) := by decide +kernel
theorem dX7_reads_54 : decode cX7_reads 54 = .ok (.invokevirtual 151, 3) := by decide +kernel
theorem dX7_reads_57 : decode cX7_reads 57 = .ok (.istore_n 2, 1) := by decide +kernel
theorem dX7_reads_58 : decode cX7_reads 58 = .ok (.iconst 1, 1) := by decide +kernel
theorem dX7_reads_59 : decode cX7_reads 59 = .ok (.istore_n 3, 1) := by decide +kernel
theorem dX7_reads_60 : decode cX7_reads 60 = .ok (.iload_n 3, 1) := by decide +kernel
theorem dX7_reads_61 : decode cX7_reads 61 = .ok (.iload_n 1, 1) := by decide +kernel
theorem dX7_reads_62 : decode cX7_reads 62 = .ok (.if_icmp .ge 36, 3) := by decide +kernel
theorem dX7_reads_65 : decode cX7_reads 65 = .ok (.iload_n 2, 1) := by decide +kernel
theorem dX7_reads_66 : decode cX7_reads 66 = .ok (.ifCond .eq 32, 3) := by decide +kernel
theorem dX7_reads_69 : decode cX7_reads 69 = .ok (.aload_n 0, 1) := by decide +kernel
theorem dX7_reads_70 : decode cX7_reads 70 = .ok (.bipush 44, 2) := by decide +kernel
theorem dX7_reads_72 : decode cX7_reads 72 = .ok (.invokevirtual 154, 3) := by decide +kernel
theorem dX7_reads_75 : decode cX7_reads 75 = .ok (.ifCond .eq 15, 3) := by decide +kernel
theorem dX7_reads_78 : decode cX7_reads 78 = .ok (.aload_n 0, 1) := by decide +kernel
theorem dX7_reads_79 : decode cX7_reads 79 = .ok (.iload_n 3, 1) := by decide +kernel
theorem dX7_reads_80 : decode cX7_reads 80 = .ok (.invokevirtual 151, 3) := by decide +kernel
theorem dX7_reads_83 : decode cX7_reads 83 = .ok (.ifCond .eq 7, 3) := by decide +kernel
theorem dX7_reads_86 : decode cX7_reads 86 = .ok (.iconst 1, 1) := by decide +kernel
theorem dX7_reads_87 : decode cX7_reads 87 = .ok (.goto 4, 3) := by decide +kernel
theorem dX7_reads_90 : decode cX7_reads 90 = .ok (.iconst 0, 1) := by decide +kernel
theorem dX7_reads_91 : decode cX7_reads 91 = .ok (.istore_n 2, 1) := by decide +kernel
theorem dX7_reads_92 : decode cX7_reads 92 = .ok (.iinc 3 1, 3) := by decide +kernel
theorem dX7_reads_95 : decode cX7_reads 95 = .ok (.goto (-35), 3) := by decide +kernel
theorem dX7_reads_98 : decode cX7_reads 98 = .ok (.iload_n 2, 1) := by decide +kernel
theorem dX7_reads_99 : decode cX7_reads 99 = .ok (.ifCond .eq 16, 3) := by decide +kernel
theorem dX7_reads_102 : decode cX7_reads 102 = .ok (.aload_n 0, 1) := by decide +kernel
theorem dX7_reads_103 : decode cX7_reads 103 = .ok (.bipush 59, 2) := by decide +kernel
theorem dX7_reads_105 : decode cX7_reads 105 = .ok (.invokevirtual 154, 3) := by decide +kernel
theorem dX7_reads_108 : decode cX7_reads 108 = .ok (.ifCond .eq 7, 3) := by decide +kernel
theorem dX7_reads_111 : decode cX7_reads 111 = .ok (.iconst 1, 1) := by decide +kernel
theorem dX7_reads_112 : decode cX7_reads 112 = .ok (.goto 4, 3) := by decide +kernel
theorem dX7_reads_115 : decode cX7_reads 115 = .ok (.iconst 0, 1) := by decide +kernel
theorem dX7_reads_116 : decode cX7_reads 116 = .ok (.ireturn, 1) := by decide +kernel
set_option maxRecDepth 20000 in
theorem ggX7_calls_X7_lot : GoodIn wsX7_calls wsX7_lot := goodIn_r _ [7, 8, 9, 10, 11, 12, 6, 13, 14, 15, 16, 17, 18, 19, 20, 21, 22, 23, 24, 125, 126, 127, 128, 129, 130, 131, 132, 133, 134, 135, 136, 137, 138, 139, 140, 141, 142] (by decide +kernel) (by decide +kernel)
set_option maxRecDepth 20000 in
theorem gX7_calls_X7_lot : GoodIn wsX7_calls (wsV RX7 157 RX7 yX7_lot wsX7_lot) := goodIn_app (goodIn_of _ (by decide +kernel)) ggX7_calls_X7_lot
set_option maxRecDepth 20000 in
theorem ggX7_calls_X7_blend : GoodIn wsX7_calls wsX7_blend := goodIn_r _ [28, 8, 29, 9, 10, 30, 31, 32, 6, 33, 34, 35, 36, 37, 38, 39, 40, 41, 42, 14, 15, 16, 17, 18, 19, 20, 43, 44, 45, 46, 47, 48, 49, 50, 51, 52, 53, 54, 55, 56, 57, 21, 22, 23, 24, 125, 126, 127, 128, 129, 130, 131, 132, 133, 134, 135, 136, 137, 138, 139, 140, 141, 142] (by decide +kernel) (by decide +kernel)
set_option maxRecDepth 20000 in
theorem gX7_calls_X7_blend : GoodIn wsX7_calls (wsV RX7 160 RX7 yX7_blend wsX7_blend) := goodIn_app (goodIn_of _ (by decide +kernel)) ggX7_calls_X7_blend
set_option maxRecDepth 20000 in
theorem ggX7_calls_X7_cup : GoodIn wsX7_calls wsX7_cup := goodIn_r _ [61, 8, 29, 9, 30, 31, 32, 6, 33, 34, 35, 36, 37, 38, 39, 40, 41, 42, 14, 15, 16, 17, 18, 19, 20, 43, 44, 45, 46, 47, 48, 49, 50, 125, 126, 127, 128, 129, 130, 131, 132, 133, 134, 135, 136, 137, 138, 139, 140, 141, 142] (by decide +kernel) (by decide +kernel)
set_option maxRecDepth 20000 in
theorem gX7_calls_X7_cup : GoodIn wsX7_calls (wsV RX7 163 RX7 yX7_cup wsX7_cup) := goodIn_app (goodIn_of _ (by decide +kernel)) ggX7_calls_X7_cup
set_option maxRecDepth 20000 in
theorem ggX7_calls_X7_sell : GoodIn wsX7_calls wsX7_sell := goodIn_r _ [65, 8, 9, 29, 10, 11, 12, 6, 13, 66, 67, 68, 69, 14, 15, 16, 17, 18, 19, 20, 125, 126, 127, 128, 129, 130, 131, 132, 133, 134, 135, 136, 137, 138, 139, 140, 141, 142] (by decide +kernel) (by decide +kernel)
set_option maxRecDepth 20000 in
theorem gX7_calls_X7_sell : GoodIn wsX7_calls (wsV RX7 166 RX7 yX7_sell wsX7_sell) := goodIn_app (goodIn_of _ (by decide +kernel)) ggX7_calls_X7_sell
set_option maxRecDepth 20000 in
theorem ggX7_calls_X7_meet : GoodIn wsX7_calls wsX7_meet := goodIn_r _ [73, 8, 9, 74, 29, 75, 76, 77, 78, 79, 80, 6, 81, 82, 83, 84, 85, 86, 87, 88, 89, 38, 47, 48, 49, 50, 39, 40, 41, 42, 90, 91, 92, 93, 94, 95, 96, 97, 98, 99, 100, 101, 102, 103, 104, 105, 106, 107, 108, 14, 15, 16, 17, 18, 19, 20, 109, 110, 111, 112, 54, 55, 56, 57, 34, 35, 36, 37, 113, 114, 115, 116, 125, 126, 127, 128, 129, 130, 131, 132, 133, 134, 135, 136, 137, 138, 139, 140, 141, 142] (by decide +kernel) (by decide +kernel)
set_option maxRecDepth 20000 in
theorem gX7_calls_X7_meet : GoodIn wsX7_calls (wsV RX7 169 RX7 yX7_meet wsX7_meet) := goodIn_app (goodIn_of _ (by decide +kernel)) ggX7_calls_X7_meet
set_option maxRecDepth 20000 in
theorem ggX7_calls_X7_pass : GoodIn wsX7_calls wsX7_pass := goodIn_r _ [120, 8, 9, 10, 11, 12, 6, 13, 14, 15, 16, 17, 18, 19, 20, 121, 122, 123, 124, 105, 106, 107, 108, 113, 114, 115, 116, 125, 126, 127, 128, 129, 130, 131, 132, 133, 134, 135, 136, 137, 138, 139, 140, 141, 142] (by decide +kernel) (by decide +kernel)
set_option maxRecDepth 20000 in
theorem gX7_calls_X7_pass : GoodIn wsX7_calls (wsV RX7 172 RX7 yX7_pass wsX7_pass) := goodIn_app (goodIn_of _ (by decide +kernel)) ggX7_calls_X7_pass
theorem dX7_calls_0 : decode cX7_calls 0 = .ok (.aload_n 0, 1) := by decide +kernel
theorem dX7_calls_1 : decode cX7_calls 1 = .ok (.getfield 145, 3) := by decide +kernel
theorem dX7_calls_4 : decode cX7_calls 4 = .ok (.lookupswitch 137 #[(98, 69), (99, 98), (100, 126), (108, 52), (115, 109)], 52) := by decide +kernel
theorem dX7_calls_56 : decode cX7_calls 56 = .ok (.aload_n 0, 1) := by decide +kernel
theorem dX7_calls_57 : decode cX7_calls 57 = .ok (.aload_n 0, 1) := by decide +kernel
theorem dX7_calls_58 : decode cX7_calls 58 = .ok (.getfield 28, 3) := by decide +kernel
theorem dX7_calls_61 : decode cX7_calls 61 = .ok (.iconst 0, 1) := by decide +kernel
theorem dX7_calls_62 : decode cX7_calls 62 = .ok (.iaload, 1) := by decide +kernel
theorem dX7_calls_63 : decode cX7_calls 63 = .ok (.aload_n 0, 1) := by decide +kernel
theorem dX7_calls_64 : decode cX7_calls 64 = .ok (.getfield 28, 3) := by decide +kernel
theorem dX7_calls_67 : decode cX7_calls 67 = .ok (.iconst 1, 1) := by decide +kernel
theorem dX7_calls_68 : decode cX7_calls 68 = .ok (.iaload, 1) := by decide +kernel
theorem dX7_calls_69 : decode cX7_calls 69 = .ok (.invokevirtual 157, 3) := by decide +kernel
theorem dX7_calls_72 : decode cX7_calls 72 = .ok (.ireturn, 1) := by decide +kernel
theorem dX7_calls_73 : decode cX7_calls 73 = .ok (.aload_n 0, 1) := by decide +kernel
theorem dX7_calls_74 : decode cX7_calls 74 = .ok (.aload_n 0, 1) := by decide +kernel
theorem dX7_calls_75 : decode cX7_calls 75 = .ok (.getfield 28, 3) := by decide +kernel
theorem dX7_calls_78 : decode cX7_calls 78 = .ok (.iconst 0, 1) := by decide +kernel
theorem dX7_calls_79 : decode cX7_calls 79 = .ok (.iaload, 1) := by decide +kernel
theorem dX7_calls_80 : decode cX7_calls 80 = .ok (.aload_n 0, 1) := by decide +kernel
theorem dX7_calls_81 : decode cX7_calls 81 = .ok (.getfield 28, 3) := by decide +kernel
theorem dX7_calls_84 : decode cX7_calls 84 = .ok (.iconst 1, 1) := by decide +kernel
theorem dX7_calls_85 : decode cX7_calls 85 = .ok (.iaload, 1) := by decide +kernel
theorem dX7_calls_86 : decode cX7_calls 86 = .ok (.aload_n 0, 1) := by decide +kernel
theorem dX7_calls_87 : decode cX7_calls 87 = .ok (.getfield 28, 3) := by decide +kernel
theorem dX7_calls_90 : decode cX7_calls 90 = .ok (.iconst 2, 1) := by decide +kernel
theorem dX7_calls_91 : decode cX7_calls 91 = .ok (.iaload, 1) := by decide +kernel
theorem dX7_calls_92 : decode cX7_calls 92 = .ok (.aload_n 0, 1) := by decide +kernel
theorem dX7_calls_93 : decode cX7_calls 93 = .ok (.getfield 28, 3) := by decide +kernel
theorem dX7_calls_96 : decode cX7_calls 96 = .ok (.iconst 3, 1) := by decide +kernel
theorem dX7_calls_97 : decode cX7_calls 97 = .ok (.iaload, 1) := by decide +kernel
theorem dX7_calls_98 : decode cX7_calls 98 = .ok (.invokevirtual 160, 3) := by decide +kernel
theorem dX7_calls_101 : decode cX7_calls 101 = .ok (.ireturn, 1) := by decide +kernel
theorem dX7_calls_102 : decode cX7_calls 102 = .ok (.aload_n 0, 1) := by decide +kernel
theorem dX7_calls_103 : decode cX7_calls 103 = .ok (.aload_n 0, 1) := by decide +kernel
theorem dX7_calls_104 : decode cX7_calls 104 = .ok (.getfield 28, 3) := by decide +kernel
theorem dX7_calls_107 : decode cX7_calls 107 = .ok (.iconst 0, 1) := by decide +kernel
theorem dX7_calls_108 : decode cX7_calls 108 = .ok (.iaload, 1) := by decide +kernel
theorem dX7_calls_109 : decode cX7_calls 109 = .ok (.invokevirtual 163, 3) := by decide +kernel
theorem dX7_calls_112 : decode cX7_calls 112 = .ok (.ireturn, 1) := by decide +kernel
theorem dX7_calls_113 : decode cX7_calls 113 = .ok (.aload_n 0, 1) := by decide +kernel
theorem dX7_calls_114 : decode cX7_calls 114 = .ok (.aload_n 0, 1) := by decide +kernel
theorem dX7_calls_115 : decode cX7_calls 115 = .ok (.getfield 28, 3) := by decide +kernel
theorem dX7_calls_118 : decode cX7_calls 118 = .ok (.iconst 0, 1) := by decide +kernel
theorem dX7_calls_119 : decode cX7_calls 119 = .ok (.iaload, 1) := by decide +kernel
theorem dX7_calls_120 : decode cX7_calls 120 = .ok (.aload_n 0, 1) := by decide +kernel
theorem dX7_calls_121 : decode cX7_calls 121 = .ok (.getfield 28, 3) := by decide +kernel
theorem dX7_calls_124 : decode cX7_calls 124 = .ok (.iconst 1, 1) := by decide +kernel
theorem dX7_calls_125 : decode cX7_calls 125 = .ok (.iaload, 1) := by decide +kernel
theorem dX7_calls_126 : decode cX7_calls 126 = .ok (.invokevirtual 166, 3) := by decide +kernel
theorem dX7_calls_129 : decode cX7_calls 129 = .ok (.ireturn, 1) := by decide +kernel
theorem dX7_calls_130 : decode cX7_calls 130 = .ok (.aload_n 0, 1) := by decide +kernel
theorem dX7_calls_131 : decode cX7_calls 131 = .ok (.aload_n 0, 1) := by decide +kernel
theorem dX7_calls_132 : decode cX7_calls 132 = .ok (.getfield 28, 3) := by decide +kernel
theorem dX7_calls_135 : decode cX7_calls 135 = .ok (.iconst 0, 1) := by decide +kernel
theorem dX7_calls_136 : decode cX7_calls 136 = .ok (.iaload, 1) := by decide +kernel
theorem dX7_calls_137 : decode cX7_calls 137 = .ok (.invokevirtual 169, 3) := by decide +kernel
theorem dX7_calls_140 : decode cX7_calls 140 = .ok (.ireturn, 1) := by decide +kernel
theorem dX7_calls_141 : decode cX7_calls 141 = .ok (.aload_n 0, 1) := by decide +kernel
theorem dX7_calls_142 : decode cX7_calls 142 = .ok (.aload_n 0, 1) := by decide +kernel
theorem dX7_calls_143 : decode cX7_calls 143 = .ok (.getfield 28, 3) := by decide +kernel
theorem dX7_calls_146 : decode cX7_calls 146 = .ok (.iconst 0, 1) := by decide +kernel
theorem dX7_calls_147 : decode cX7_calls 147 = .ok (.iaload, 1) := by decide +kernel
theorem dX7_calls_148 : decode cX7_calls 148 = .ok (.invokevirtual 172, 3) := by decide +kernel
theorem dX7_calls_151 : decode cX7_calls 151 = .ok (.ireturn, 1) := by decide +kernel
set_option maxRecDepth 20000 in
theorem ggX7_plays_X7_reads : GoodIn wsX7_plays wsX7_reads := goodIn_r _ [13, 14, 2, 15, 16, 17, 18, 12, 19, 5, 20, 21, 22, 23, 24, 25, 26, 27, 28, 29, 30, 31, 32, 33, 34, 155, 156, 157, 158, 159, 160, 161, 162, 163, 164, 165, 166, 167, 168, 169, 170, 171, 172] (by decide +kernel) (by decide +kernel)
set_option maxRecDepth 20000 in
theorem gX7_plays_X7_reads : GoodIn wsX7_plays (wsV RX7 181 RX7 yX7_reads wsX7_reads) := goodIn_app (goodIn_of _ (by decide +kernel)) ggX7_plays_X7_reads
set_option maxRecDepth 20000 in
theorem ggX7_plays_X7_calls : GoodIn wsX7_plays wsX7_calls := goodIn_r _ [38, 15, 30, 39, 40, 41, 12, 42, 6, 43, 44, 20, 21, 22, 45, 46, 47, 48, 1, 49, 50, 51, 52, 53, 54, 55, 56, 57, 58, 59, 60, 61, 62, 63, 64, 65, 66, 67, 68, 69, 70, 71, 72, 73, 74, 75, 76, 77, 78, 79, 80, 81, 82, 83, 84, 85, 86, 87, 88, 89, 90, 91, 92, 93, 94, 95, 96, 97, 98, 99, 100, 101, 102, 103, 104, 105, 106, 107, 108, 109, 110, 111, 112, 113, 114, 115, 116, 117, 118, 119, 120, 121, 122, 123, 124, 125, 126, 127, 128, 129, 130, 131, 132, 133, 134, 135, 136, 137, 138, 139, 140, 141, 142, 143, 144, 145, 146, 147, 148, 149, 150, 151, 152, 153, 154, 155, 156, 157, 158, 159, 160, 161, 162, 163, 164, 165, 166, 167, 168, 169, 170, 171, 172] (by decide +kernel) (by decide +kernel)
set_option maxRecDepth 20000 in
theorem gX7_plays_X7_calls : GoodIn wsX7_plays (wsV RX7 185 RX7 yX7_calls wsX7_calls) := goodIn_app (goodIn_of _ (by decide +kernel)) ggX7_plays_X7_calls
theorem dX7_plays_0 : decode cX7_plays 0 = .ok (.aload_n 0, 1) := by decide +kernel
theorem dX7_plays_1 : decode cX7_plays 1 = .ok (.iconst 1, 1) := by decide +kernel
theorem dX7_plays_2 : decode cX7_plays 2 = .ok (.putfield 31, 3) := by decide +kernel
theorem dX7_plays_5 : decode cX7_plays 5 = .ok (.aload_n 0, 1) := by decide +kernel
theorem dX7_plays_6 : decode cX7_plays 6 = .ok (.iconst 0, 1) := by decide +kernel
theorem dX7_plays_7 : decode cX7_plays 7 = .ok (.putfield 138, 3) := by decide +kernel
theorem dX7_plays_10 : decode cX7_plays 10 = .ok (.aload_n 0, 1) := by decide +kernel
theorem dX7_plays_11 : decode cX7_plays 11 = .ok (.iconst 0, 1) := by decide +kernel
theorem dX7_plays_12 : decode cX7_plays 12 = .ok (.putfield 175, 3) := by decide +kernel
theorem dX7_plays_15 : decode cX7_plays 15 = .ok (.aload_n 0, 1) := by decide +kernel
theorem dX7_plays_16 : decode cX7_plays 16 = .ok (.iconst 0, 1) := by decide +kernel
theorem dX7_plays_17 : decode cX7_plays 17 = .ok (.putfield 178, 3) := by decide +kernel
theorem dX7_plays_20 : decode cX7_plays 20 = .ok (.iconst 1, 1) := by decide +kernel
theorem dX7_plays_21 : decode cX7_plays 21 = .ok (.istore_n 1, 1) := by decide +kernel
theorem dX7_plays_22 : decode cX7_plays 22 = .ok (.aload_n 0, 1) := by decide +kernel
theorem dX7_plays_23 : decode cX7_plays 23 = .ok (.getfield 138, 3) := by decide +kernel
theorem dX7_plays_26 : decode cX7_plays 26 = .ok (.aload_n 0, 1) := by decide +kernel
theorem dX7_plays_27 : decode cX7_plays 27 = .ok (.getfield 135, 3) := by decide +kernel
theorem dX7_plays_30 : decode cX7_plays 30 = .ok (.if_icmp .ge 96, 3) := by decide +kernel
theorem dX7_plays_33 : decode cX7_plays 33 = .ok (.iload_n 1, 1) := by decide +kernel
theorem dX7_plays_34 : decode cX7_plays 34 = .ok (.ifCond .eq 92, 3) := by decide +kernel
theorem dX7_plays_37 : decode cX7_plays 37 = .ok (.aload_n 0, 1) := by decide +kernel
theorem dX7_plays_38 : decode cX7_plays 38 = .ok (.aload_n 0, 1) := by decide +kernel
theorem dX7_plays_39 : decode cX7_plays 39 = .ok (.getfield 138, 3) := by decide +kernel
theorem dX7_plays_42 : decode cX7_plays 42 = .ok (.putfield 175, 3) := by decide +kernel
theorem dX7_plays_45 : decode cX7_plays 45 = .ok (.aload_n 0, 1) := by decide +kernel
theorem dX7_plays_46 : decode cX7_plays 46 = .ok (.invokevirtual 181, 3) := by decide +kernel
theorem dX7_plays_49 : decode cX7_plays 49 = .ok (.istore_n 2, 1) := by decide +kernel
theorem dX7_plays_50 : decode cX7_plays 50 = .ok (.iload_n 2, 1) := by decide +kernel
theorem dX7_plays_51 : decode cX7_plays 51 = .ok (.ifCond .eq 10, 3) := by decide +kernel
theorem dX7_plays_54 : decode cX7_plays 54 = .ok (.aload_n 0, 1) := by decide +kernel
theorem dX7_plays_55 : decode cX7_plays 55 = .ok (.invokevirtual 185, 3) := by decide +kernel
theorem dX7_plays_58 : decode cX7_plays 58 = .ok (.goto 4, 3) := by decide +kernel
theorem dX7_plays_61 : decode cX7_plays 61 = .ok (.iconst 0, 1) := by decide +kernel
theorem dX7_plays_62 : decode cX7_plays 62 = .ok (.istore_n 3, 1) := by decide +kernel
theorem dX7_plays_63 : decode cX7_plays 63 = .ok (.iload_n 2, 1) := by decide +kernel
theorem dX7_plays_64 : decode cX7_plays 64 = .ok (.ifCond .eq 13, 3) := by decide +kernel
theorem dX7_plays_67 : decode cX7_plays 67 = .ok (.iload_n 3, 1) := by decide +kernel
theorem dX7_plays_68 : decode cX7_plays 68 = .ok (.ldc 65, 2) := by decide +kernel
theorem dX7_plays_70 : decode cX7_plays 70 = .ok (.if_icmp .le 7, 3) := by decide +kernel
theorem dX7_plays_73 : decode cX7_plays 73 = .ok (.iconst 1, 1) := by decide +kernel
theorem dX7_plays_74 : decode cX7_plays 74 = .ok (.goto 4, 3) := by decide +kernel
theorem dX7_plays_77 : decode cX7_plays 77 = .ok (.iconst 0, 1) := by decide +kernel
theorem dX7_plays_78 : decode cX7_plays 78 = .ok (.istore_n 1, 1) := by decide +kernel
theorem dX7_plays_79 : decode cX7_plays 79 = .ok (.aload_n 0, 1) := by decide +kernel
theorem dX7_plays_80 : decode cX7_plays 80 = .ok (.iload_n 2, 1) := by decide +kernel
theorem dX7_plays_81 : decode cX7_plays 81 = .ok (.ifCond .eq 7, 3) := by decide +kernel
theorem dX7_plays_84 : decode cX7_plays 84 = .ok (.iconst 2, 1) := by decide +kernel
theorem dX7_plays_85 : decode cX7_plays 85 = .ok (.goto 4, 3) := by decide +kernel
theorem dX7_plays_88 : decode cX7_plays 88 = .ok (.iconst 1, 1) := by decide +kernel
theorem dX7_plays_89 : decode cX7_plays 89 = .ok (.putfield 188, 3) := by decide +kernel
theorem dX7_plays_92 : decode cX7_plays 92 = .ok (.aload_n 0, 1) := by decide +kernel
theorem dX7_plays_93 : decode cX7_plays 93 = .ok (.iload_n 2, 1) := by decide +kernel
theorem dX7_plays_94 : decode cX7_plays 94 = .ok (.ifCond .eq 7, 3) := by decide +kernel
theorem dX7_plays_97 : decode cX7_plays 97 = .ok (.iload_n 3, 1) := by decide +kernel
theorem dX7_plays_98 : decode cX7_plays 98 = .ok (.goto 12, 3) := by decide +kernel
theorem dX7_plays_101 : decode cX7_plays 101 = .ok (.aload_n 0, 1) := by decide +kernel
theorem dX7_plays_102 : decode cX7_plays 102 = .ok (.getfield 138, 3) := by decide +kernel
theorem dX7_plays_105 : decode cX7_plays 105 = .ok (.aload_n 0, 1) := by decide +kernel
theorem dX7_plays_106 : decode cX7_plays 106 = .ok (.getfield 175, 3) := by decide +kernel
theorem dX7_plays_109 : decode cX7_plays 109 = .ok (.isub, 1) := by decide +kernel
theorem dX7_plays_110 : decode cX7_plays 110 = .ok (.putfield 191, 3) := by decide +kernel
theorem dX7_plays_113 : decode cX7_plays 113 = .ok (.aload_n 0, 1) := by decide +kernel
theorem dX7_plays_114 : decode cX7_plays 114 = .ok (.dup, 1) := by decide +kernel
theorem dX7_plays_115 : decode cX7_plays 115 = .ok (.getfield 178, 3) := by decide +kernel
theorem dX7_plays_118 : decode cX7_plays 118 = .ok (.iconst 1, 1) := by decide +kernel
theorem dX7_plays_119 : decode cX7_plays 119 = .ok (.iadd, 1) := by decide +kernel
theorem dX7_plays_120 : decode cX7_plays 120 = .ok (.putfield 178, 3) := by decide +kernel
theorem dX7_plays_123 : decode cX7_plays 123 = .ok (.goto (-101), 3) := by decide +kernel
theorem dX7_plays_126 : decode cX7_plays 126 = .ok (.aload_n 0, 1) := by decide +kernel
theorem dX7_plays_127 : decode cX7_plays 127 = .ok (.iconst 0, 1) := by decide +kernel
theorem dX7_plays_128 : decode cX7_plays 128 = .ok (.putfield 31, 3) := by decide +kernel
theorem dX7_plays_131 : decode cX7_plays 131 = .ok (.iload_n 1, 1) := by decide +kernel
theorem dX7_plays_132 : decode cX7_plays 132 = .ok (.ireturn, 1) := by decide +kernel
set_option maxRecDepth 20000 in
theorem ggX7_fault_X7_in : GoodIn wsX7_fault wsX7_in := goodIn_r _ [11] (by decide +kernel) (by decide +kernel)
set_option maxRecDepth 20000 in
theorem gX7_fault_X7_in : GoodIn wsX7_fault (va_wsS RX7 61 yX7_in wsX7_in) := goodIn_app (goodIn_of _ (by decide +kernel)) ggX7_fault_X7_in
set_option maxRecDepth 20000 in
theorem ggX7_fault_X7_copies : GoodIn wsX7_fault wsX7_copies := goodIn_r _ [14] (by decide +kernel) (by decide +kernel)
set_option maxRecDepth 20000 in
theorem gX7_fault_X7_copies : GoodIn wsX7_fault (va_wsS RX7 194 yX7_copies wsX7_copies) := goodIn_app (goodIn_of _ (by decide +kernel)) ggX7_fault_X7_copies
set_option maxRecDepth 20000 in
theorem ggX7_fault_X7_plays : GoodIn wsX7_fault wsX7_plays := goodIn_r _ [18, 19, 20, 5, 21, 22, 1, 6, 7, 23, 24, 25, 10, 26, 27, 28, 29, 30, 31, 32, 8, 9, 11, 33, 34, 35, 36, 37, 38, 39, 40, 41, 42, 43, 44, 45, 46, 47, 48, 49, 50, 51, 52, 2, 53, 54, 55, 56, 57, 58, 59, 60, 61, 62, 63, 64, 65, 66, 67, 68, 69, 70, 71, 72, 73, 74, 75, 76, 4, 77, 78, 79, 80, 81, 82, 83, 84, 85, 86, 87, 88, 89, 90, 91, 92, 93, 94, 95, 96, 97, 98, 99, 100, 101, 102, 103, 104, 105, 106, 107, 108, 109, 110, 111, 112, 113, 114, 115, 116, 117, 118, 119, 120, 121, 122, 123, 124, 125, 126, 127, 128, 129, 130, 131, 132, 133, 134, 135, 136, 137, 138, 139, 140, 141, 142, 143, 144, 145, 146, 147, 148, 149, 150, 151, 152, 153, 154, 155, 156, 157, 158, 159, 160, 161, 162, 163, 164, 165, 166, 167, 168, 169, 170, 171, 172, 173, 174, 175, 176, 177, 178, 179, 180] (by decide +kernel) (by decide +kernel)
set_option maxRecDepth 20000 in
theorem gX7_fault_X7_plays : GoodIn wsX7_fault (wsV RX7 198 RX7 yX7_plays wsX7_plays) := goodIn_app (goodIn_of _ (by decide +kernel)) ggX7_fault_X7_plays
theorem dX7_fault_0 : decode cX7_fault 0 = .ok (.iload_n 1, 1) := by decide +kernel
theorem dX7_fault_1 : decode cX7_fault 1 = .ok (.iconst 0, 1) := by decide +kernel
theorem dX7_fault_2 : decode cX7_fault 2 = .ok (.iconst 2, 1) := by decide +kernel
theorem dX7_fault_3 : decode cX7_fault 3 = .ok (.invokestatic 61, 3) := by decide +kernel
theorem dX7_fault_6 : decode cX7_fault 6 = .ok (.ifCond .ne 6, 3) := by decide +kernel
theorem dX7_fault_9 : decode cX7_fault 9 = .ok (.ldc 65, 2) := by decide +kernel
theorem dX7_fault_11 : decode cX7_fault 11 = .ok (.ireturn, 1) := by decide +kernel
theorem dX7_fault_12 : decode cX7_fault 12 = .ok (.aload_n 0, 1) := by decide +kernel
theorem dX7_fault_13 : decode cX7_fault 13 = .ok (.getfield 7, 3) := by decide +kernel
theorem dX7_fault_16 : decode cX7_fault 16 = .ok (.aload_n 0, 1) := by decide +kernel
theorem dX7_fault_17 : decode cX7_fault 17 = .ok (.getfield 16, 3) := by decide +kernel
theorem dX7_fault_20 : decode cX7_fault 20 = .ok (.invokestatic 194, 3) := by decide +kernel
theorem dX7_fault_23 : decode cX7_fault 23 = .ok (.aload_n 0, 1) := by decide +kernel
theorem dX7_fault_24 : decode cX7_fault 24 = .ok (.invokevirtual 198, 3) := by decide +kernel
theorem dX7_fault_27 : decode cX7_fault 27 = .ok (.istore_n 2, 1) := by decide +kernel
theorem dX7_fault_28 : decode cX7_fault 28 = .ok (.aload_n 0, 1) := by decide +kernel
theorem dX7_fault_29 : decode cX7_fault 29 = .ok (.getfield 16, 3) := by decide +kernel
theorem dX7_fault_32 : decode cX7_fault 32 = .ok (.aload_n 0, 1) := by decide +kernel
theorem dX7_fault_33 : decode cX7_fault 33 = .ok (.getfield 7, 3) := by decide +kernel
theorem dX7_fault_36 : decode cX7_fault 36 = .ok (.invokestatic 194, 3) := by decide +kernel
theorem dX7_fault_39 : decode cX7_fault 39 = .ok (.iload_n 2, 1) := by decide +kernel
theorem dX7_fault_40 : decode cX7_fault 40 = .ok (.ifCond .eq 8, 3) := by decide +kernel
theorem dX7_fault_43 : decode cX7_fault 43 = .ok (.ldc 43, 2) := by decide +kernel
theorem dX7_fault_45 : decode cX7_fault 45 = .ok (.goto 30, 3) := by decide +kernel
theorem dX7_fault_48 : decode cX7_fault 48 = .ok (.iload_n 1, 1) := by decide +kernel
theorem dX7_fault_49 : decode cX7_fault 49 = .ok (.ifCond .ne 10, 3) := by decide +kernel
theorem dX7_fault_52 : decode cX7_fault 52 = .ok (.aload_n 0, 1) := by decide +kernel
theorem dX7_fault_53 : decode cX7_fault 53 = .ok (.getfield 175, 3) := by decide +kernel
theorem dX7_fault_56 : decode cX7_fault 56 = .ok (.goto 19, 3) := by decide +kernel
theorem dX7_fault_59 : decode cX7_fault 59 = .ok (.iload_n 1, 1) := by decide +kernel
theorem dX7_fault_60 : decode cX7_fault 60 = .ok (.iconst 1, 1) := by decide +kernel
theorem dX7_fault_61 : decode cX7_fault 61 = .ok (.if_icmp .ne 10, 3) := by decide +kernel
theorem dX7_fault_64 : decode cX7_fault 64 = .ok (.aload_n 0, 1) := by decide +kernel
theorem dX7_fault_65 : decode cX7_fault 65 = .ok (.getfield 188, 3) := by decide +kernel
theorem dX7_fault_68 : decode cX7_fault 68 = .ok (.goto 7, 3) := by decide +kernel
theorem dX7_fault_71 : decode cX7_fault 71 = .ok (.aload_n 0, 1) := by decide +kernel
theorem dX7_fault_72 : decode cX7_fault 72 = .ok (.getfield 191, 3) := by decide +kernel
theorem dX7_fault_75 : decode cX7_fault 75 = .ok (.ireturn, 1) := by decide +kernel
set_option maxRecDepth 20000 in
theorem ggX7_play_X7_copies : GoodIn wsX7_play wsX7_copies := goodIn_r _ [9] (by decide +kernel) (by decide +kernel)
set_option maxRecDepth 20000 in
theorem gX7_play_X7_copies : GoodIn wsX7_play (va_wsS RX7 194 yX7_copies wsX7_copies) := goodIn_app (goodIn_of _ (by decide +kernel)) ggX7_play_X7_copies
set_option maxRecDepth 20000 in
theorem ggX7_play_X7_plays : GoodIn wsX7_play wsX7_plays := goodIn_r _ [13, 14, 15, 16, 4, 17, 18, 19, 20, 21, 22, 23, 8, 24, 25, 26, 27, 28, 29, 30, 31, 32, 33, 34, 35, 36, 37, 38, 39, 40, 41, 42, 43, 44, 45, 46, 47, 48, 49, 50, 51, 52, 53, 1, 54, 55, 56, 57, 58, 59, 60, 61, 62, 63, 64, 65, 66, 67, 68, 3, 69, 70, 71, 72, 73, 74, 75, 76, 5, 77, 78, 79, 80, 81, 82, 83, 84, 85, 86, 87, 88, 89, 90, 91, 92, 93, 94, 95, 96, 97, 98, 99, 100, 101, 102, 103, 104, 105, 106, 107, 108, 109, 110, 111, 112, 113, 114, 115, 116, 117, 118, 119, 120, 121, 122, 123, 124, 125, 126, 127, 128, 129, 130, 131, 132, 133, 134, 135, 136, 137, 138, 139, 140, 141, 142, 143, 144, 145, 146, 147, 148, 149, 150, 151, 152, 153, 154, 155, 156, 157, 158, 159, 160, 161, 162, 163, 164, 165, 166, 167, 168, 169, 170, 171, 172, 173, 174, 175, 176, 177, 178, 179, 180] (by decide +kernel) (by decide +kernel)
set_option maxRecDepth 20000 in
theorem gX7_play_X7_plays : GoodIn wsX7_play (wsV RX7 198 RX7 yX7_plays wsX7_plays) := goodIn_app (goodIn_of _ (by decide +kernel)) ggX7_play_X7_plays
set_option maxRecDepth 20000 in
theorem ggX7_play_X7_changes : GoodIn wsX7_play wsX7_changes := goodIn_r _ [58, 14, 59, 60, 1, 163, 164, 165, 166, 167, 168, 169, 170, 171, 172, 173, 174, 175, 176, 177, 178, 179, 180] (by decide +kernel) (by decide +kernel)
set_option maxRecDepth 20000 in
theorem gX7_play_X7_changes : GoodIn wsX7_play (wsV RX7 67 RX7 yX7_changes wsX7_changes) := goodIn_app (goodIn_of _ (by decide +kernel)) ggX7_play_X7_changes
theorem dX7_play_0 : decode cX7_play 0 = .ok (.aload_n 0, 1) := by decide +kernel
theorem dX7_play_1 : decode cX7_play 1 = .ok (.getfield 7, 3) := by decide +kernel
theorem dX7_play_4 : decode cX7_play 4 = .ok (.aload_n 0, 1) := by decide +kernel
theorem dX7_play_5 : decode cX7_play 5 = .ok (.getfield 16, 3) := by decide +kernel
theorem dX7_play_8 : decode cX7_play 8 = .ok (.invokestatic 194, 3) := by decide +kernel
theorem dX7_play_11 : decode cX7_play 11 = .ok (.aload_n 0, 1) := by decide +kernel
theorem dX7_play_12 : decode cX7_play 12 = .ok (.invokevirtual 198, 3) := by decide +kernel
theorem dX7_play_15 : decode cX7_play 15 = .ok (.istore_n 1, 1) := by decide +kernel
theorem dX7_play_16 : decode cX7_play 16 = .ok (.aload_n 0, 1) := by decide +kernel
theorem dX7_play_17 : decode cX7_play 17 = .ok (.getfield 16, 3) := by decide +kernel
theorem dX7_play_20 : decode cX7_play 20 = .ok (.aload_n 0, 1) := by decide +kernel
theorem dX7_play_21 : decode cX7_play 21 = .ok (.getfield 7, 3) := by decide +kernel
theorem dX7_play_24 : decode cX7_play 24 = .ok (.invokestatic 194, 3) := by decide +kernel
theorem dX7_play_27 : decode cX7_play 27 = .ok (.iload_n 1, 1) := by decide +kernel
theorem dX7_play_28 : decode cX7_play 28 = .ok (.ifCond .ne 6, 3) := by decide +kernel
theorem dX7_play_31 : decode cX7_play 31 = .ok (.ldc 77, 2) := by decide +kernel
theorem dX7_play_33 : decode cX7_play 33 = .ok (.ireturn, 1) := by decide +kernel
theorem dX7_play_34 : decode cX7_play 34 = .ok (.aload_n 0, 1) := by decide +kernel
theorem dX7_play_35 : decode cX7_play 35 = .ok (.invokevirtual 67, 3) := by decide +kernel
theorem dX7_play_38 : decode cX7_play 38 = .ok (.aload_n 0, 1) := by decide +kernel
theorem dX7_play_39 : decode cX7_play 39 = .ok (.invokevirtual 198, 3) := by decide +kernel
theorem dX7_play_42 : decode cX7_play 42 = .ok (.ifCond .eq 10, 3) := by decide +kernel
theorem dX7_play_45 : decode cX7_play 45 = .ok (.aload_n 0, 1) := by decide +kernel
theorem dX7_play_46 : decode cX7_play 46 = .ok (.getfield 178, 3) := by decide +kernel
theorem dX7_play_49 : decode cX7_play 49 = .ok (.goto 5, 3) := by decide +kernel
theorem dX7_play_52 : decode cX7_play 52 = .ok (.ldc 43, 2) := by decide +kernel
theorem dX7_play_54 : decode cX7_play 54 = .ok (.ireturn, 1) := by decide +kernel
end
section
/-! ===== the state of an object: component (the field's slot), index, int; worlds of the claim's objects ===== -/
abbrev cr_V : Type := Nat → Nat → Int32
def cr_c (v : cr_V) (c : Nat) (f : Nat → Int32) : cr_V := fun k => cond (Nat.beq k c) f (v k)
abbrev cr_i (v : cr_V) (c : Nat) (x : Int32) : cr_V := cr_c v c (fun _ => x)
abbrev cr_a (v : cr_V) (c : Nat) (i x : Int32) : cr_V := cr_c v c (upd (v c) i.toNatClampNeg x)
def cr_in (i : Int32) (n : Nat) : Bool := decide (¬ (i < 0 ∨ n ≤ i.toNatClampNeg))
theorem cr_in_of {i : Int32} {n : Nat} (h : cr_in i n = true) : vp_in i n := of_decide_eq_true (p := ¬ (i < 0 ∨ n ≤ i.toNatClampNeg)) h
abbrev cr_rd (v : cr_V) (c : Nat) (i : Int32) : Int32 := v c i.toNatClampNeg
abbrev cr_TY (ct : Nat → ClassId) : List (ClassId × FieldType) := [(ct 0, .int), (ct 1, .boolean), (ct 2, .char), (ct 3, .object "CupReceipts$House")]
abbrev cr_wK (ct : Nat → ClassId) (a : Nat → Nat) (v : cr_V) : va_W := [(a 0, .inr (0, [.ref (a 1), .ref (a 2), .int (v 2 0)])), (a 1, .inl (ct 0, 6, .inl (v 0))), (a 2, .inl (ct 0, 6, .inl (v 1)))]
abbrev cr_wL (ct : Nat → ClassId) (a : Nat → Nat) (v : cr_V) : va_W := [(a 0, .inr (4, [.ref (a 1), .ref (a 2), .ref (a 3), .ref (a 4), .int (v 4 0), .int (v 5 0)])), (a 1, .inl (ct 0, 12, .inl (v 0))), (a 2, .inl (ct 0, 12, .inl (v 1))), (a 3, .inl (ct 0, 12, .inl (v 2))), (a 4, .inl (ct 0, 12, .inl (v 3)))]
abbrev cr_wH (ct : Nat → ClassId) (a aL aK : Nat → Nat) (v vL vK : cr_V) : va_W := [(a 0, .inr (3, [.ref (aL 0), .ref (aK 0), .ref (a 3), .ref (a 4), .int (v 4 0), .int (v 5 0), .int (v 6 0), .int (v 7 0), .int (v 8 0)])), (a 3, .inl (ct 0, 4, .inl (v 2))), (a 4, .inl (ct 0, 5, .inl (v 3)))] ++ (cr_wL ct aL vL ++ cr_wK ct aK vK)
abbrev cr_wD (ct : Nat → ClassId) (a : Nat → Nat) (v : cr_V) : va_W := [(a 0, .inr (1, [.ref (a 1), .ref (a 2), .int (v 2 0), .int (v 3 0), .int (v 4 0), .int (v 5 0), .int (v 6 0), .int (v 7 0), .ref (a 9), .ref (a 10), .ref (a 11), .ref (a 12)])), (a 1, .inl (ct 0, 12, .inl (v 0))), (a 2, .inl (ct 0, 12, .inl (v 1))), (a 9, .inl (ct 1, 12, .inl (v 8))), (a 10, .inl (ct 0, 12, .inl (v 9))), (a 11, .inl (ct 0, 12, .inl (v 10))), (a 12, .inl (ct 0, 12, .inl (v 11)))]
abbrev cr_wO (ct : Nat → ClassId) (a : Nat → Nat) (v : cr_V) : va_W := [(a 0, .inr (5, [.ref (a 1), .int (v 1 0), .int (v 2 0), .int (v 3 0), .int (v 4 0), .int (v 5 0), .int (v 6 0), .ref (a 8)])), (a 1, .inl (ct 2, 60, .inl (v 0))), (a 8, .inl (ct 0, 4, .inl (v 7)))]
abbrev cr_wR (ct : Nat → ClassId) (a : Nat → Nat) (v : cr_V) (r : Nat → Nat → Nat → Nat) (x : Nat → Nat → cr_V) : va_W := [(a 0, .inr (2, [.ref (a 1), .int (v 1 0)])), (a 1, .inl (ct 3, 4, .inr (.inr (.inr (.inr (fun j => some (r j 0 0)))))))] ++ (cr_wH ct (r 0 0) (r 0 1) (r 0 2) (x 0 0) (x 0 1) (x 0 2) ++ (cr_wH ct (r 1 0) (r 1 1) (r 1 2) (x 1 0) (x 1 1) (x 1 2) ++ (cr_wH ct (r 2 0) (r 2 1) (r 2 2) (x 2 0) (x 2 1) (x 2 2) ++ cr_wH ct (r 3 0) (r 3 1) (r 3 2) (x 3 0) (x 3 1) (x 3 2))))
abbrev cr_wX (ct : Nat → ClassId) (a : Nat → Nat → Nat) (r : Nat → Nat → Nat → Nat) (h hl hk t tl tk hs : cr_V) (x : Nat → Nat → cr_V) (d o : cr_V) : va_W := (a 0 0, .inr (6, [.ref (a 1 0), .ref (a 4 0), .ref (a 7 0), .ref (a 8 0), .ref (a 9 0)])) :: (cr_wH ct (a 1) (a 2) (a 3) h hl hk ++ (cr_wH ct (a 4) (a 5) (a 6) t tl tk ++ (cr_wR ct (a 7) hs r x ++ (cr_wD ct (a 8) d ++ cr_wO ct (a 9) o))))
abbrev cr_wM (ct : Nat → ClassId) (a : Nat → Nat) (v : cr_V) : va_W := [(a 0, .inr (7, [.ref (a 1), .ref (a 2), .ref (a 3), .int (v 3 0), .int (v 4 0), .ref (a 6), .int (v 6 0), .ref (a 8), .ref (a 9), .int (v 9 0), .int (v 10 0), .int (v 11 0), .int (v 12 0), .int (v 13 0), .int (v 14 0), .int (v 15 0), .int (v 16 0), .ref (a 18)])), (a 1, .inl (ct 0, 81, .inl (v 0))), (a 2, .inl (ct 0, 324, .inl (v 1))), (a 3, .inl (ct 0, 81, .inl (v 2))), (a 6, .inl (ct 0, 60, .inl (v 5))), (a 8, .inl (ct 0, 12, .inl (v 7))), (a 9, .inl (ct 0, 12, .inl (v 8))), (a 18, .inl (ct 0, 4, .inl (v 17)))]
/-- the private methods of the outer class that nested classes call -/
def cr_NW (U : State) : Prop := va_Nw (.methodLinkNest RX1 91 yX6_bandOf "CupReceipts") U ∧ va_Nw (.methodLinkNest RX3 154 yX6_bandOf "CupReceipts") U ∧ va_Nw (.methodLinkNest RX3 66 yX6_isWithin "CupReceipts") U ∧ va_Nw (.methodLinkNest RX5 51 yX6_isError "CupReceipts") U
theorem cr_NW.warm {s U : State} (hW : s.WarmedH U.vm) (h : cr_NW s) : cr_NW U := ⟨va_Nw.warmM hW h.1, va_Nw.warmM hW h.2.1, va_Nw.warmM hW h.2.2.1, va_Nw.warmM hW h.2.2.2⟩
theorem cr_NW.same {u U : State} (e : u.vm = U.vm) (h : cr_NW u) : cr_NW U := ⟨va_Nw.same rfl e h.1, va_Nw.same rfl e h.2.1, va_Nw.same rfl e h.2.2.1, va_Nw.same rfl e h.2.2.2⟩
/-- what holds in a method's body all along -/
def cr_Cx (p : Program) (s : State) (m : MethodId) (meth : Method) (c : Code) (args : Array Value) (own : String) (Ts : List Cond) (cc : ByteArray) (nL : Nat) (ret : Option FieldType) (D : va_G) (ct : Nat → ClassId) : Prop :=
  p.tables.exec = Jvm.exec ∧ c.code = cc ∧ c.maxLocals = nL ∧ s.vm.findClass own = some m.cls ∧ (∀ w ∈ Ts, w.before args s = true) ∧ meth.sig.returnType = ret ∧ meth.locks = false ∧ va_K D vwCl (cr_TY ct) s ∧ cr_NW s
/-- a world at a heap, and what of it was written since the start -/
def cr_wd (D : va_G) (A : Nat → Prop) (s : State) (ws : va_W) (H : Heap) (locs : List Loc) : Prop := va_P D vwCl ws H ∧ va_D A ws ∧ va_S A s.heap H locs ∧ ∀ q : Nat, s.heap.size ≤ q → A q
abbrev cr_no : Nat → Prop := fun _ => False
/-- a contract's start: a method that only reads, one that writes -/
abbrev cr_pR (D : va_G) (ct : Nat → ClassId) (wc : va_W) (av : List Value) : Array Value → State → Prop := va_Pc av (fun U => va_P D vwCl wc U.heap ∧ va_K D vwCl (cr_TY ct) U ∧ cr_NW U)
abbrev cr_pW (D : va_G) (ct : Nat → ClassId) (wc : va_W) (sz : Nat) (av : List Value) : Array Value → State → Prop := va_Pc av (fun U => U.heap.size = sz ∧ va_P D vwCl wc U.heap ∧ va_K D vwCl (cr_TY ct) U ∧ va_D (fun _ => True) wc ∧ cr_NW U)
abbrev cr_at (D : va_G) (A : Nat → Prop) (ws : va_W) (t : State) : Prop := va_P D vwCl ws t.heap ∧ va_D A ws
abbrev cr_QR (post : Int32 → Prop) : Array Value → State → Outcome → State → Prop := va_Qi (fun r (_ : Unit) => post r) (fun _ _ => True) cr_no
abbrev cr_QW {S : Type} (D : va_G) (wc : va_W) (sz : Nat) (post : Int32 → S → Prop) (w : S → va_W) : Array Value → State → Outcome → State → Prop := va_Qi post (fun u t => cr_at D (va_A wc sz) (w u) t) (va_A wc sz)
abbrev cr_QV {S : Type} (D : va_G) (wc : va_W) (sz : Nat) (post : S → Prop) (w : S → va_W) : Array Value → State → Outcome → State → Prop := va_Qv post (fun u t => cr_at D (va_A wc sz) (w u) t) (va_A wc sz)
theorem cr_metR {l : Launch} {y : MethodName} {ws ws' : List Cond} {rm : Room} {cc : ByteArray} {maxL : Nat} {ret : Option FieldType} {own : String} {D : va_G} {ct : Nat → ClassId} {wc : va_W} {av : List Value} {Qc : Array Value → State → Outcome → State → Prop}
    (hy : plainName y.cls = true) (hw : ws = Cond.code y cc maxL ret :: ws') (ho : y.cls = own) (hn : (lg_sl av).length ≤ maxL)
    (body : ∀ (p : Program) (e : Env) (s : State) (m : MethodId) (args : Array Value) (below : List Frame) (meth : Method) (c : Code) (ls : Array Slot), cr_Cx p s m meth c args own ws cc maxL ret D ct → va_P D vwCl wc s.heap → va_S cr_no s.heap s.heap [] → lv_has ls maxL (lv_args 0 av) →
      W p l e rm s m args below meth c s.heap [] 0 0 (MQ below Qc args s 0 0 cr_no) (F0 m 0 ls [])) : Met l y ws rm (cr_pR D ct wc av) Qc 0 0 cr_no := by
  refine Met.ofW (cc := cc) (maxL := maxL) (ret := ret) hy hw ?_
  intro p e s m args below meth c s₁ B hml hv
  obtain ⟨rfl, hP, hK, hN⟩ := hv
  subst ho
  have hl := lv_entry av (n := maxL) hn
  rw [lg_entry_eq]
  exact body p e s m _ below meth c _ ⟨B.exec, B.bytes, hml, findClass_of_methodNamed B.named, atoms_spec (ws := ws) B.pre, B.returns, B.notSynchronized, hK, hN⟩ hP va_S.rf hl
theorem cr_metW {l : Launch} {y : MethodName} {ws ws' : List Cond} {rm : Room} {cc : ByteArray} {maxL : Nat} {ret : Option FieldType} {own : String} {D : va_G} {ct : Nat → ClassId} {wc : va_W} {sz : Nat} {av : List Value} {Qc : (Nat → Prop) → Array Value → State → Outcome → State → Prop}
    (hy : plainName y.cls = true) (hw : ws = Cond.code y cc maxL ret :: ws') (ho : y.cls = own) (hn : (lg_sl av).length ≤ maxL)
    (body : ∀ (p : Program) (e : Env) (s : State) (m : MethodId) (args : Array Value) (below : List Frame) (meth : Method) (c : Code) (ls : Array Slot) (A : Nat → Prop), cr_Cx p s m meth c args own ws cc maxL ret D ct → cr_wd D A s wc s.heap [] → lv_has ls maxL (lv_args 0 av) →
      W p l e rm s m args below meth c s.heap [] 0 0 (MQ below (Qc A) args s 0 0 A) (F0 m 0 ls [])) : Met l y ws rm (cr_pW D ct wc sz av) (Qc (va_A wc sz)) 0 0 (va_A wc sz) := by
  refine Met.ofW (cc := cc) (maxL := maxL) (ret := ret) hy hw ?_
  intro p e s m args below meth c s₁ B hml hv
  obtain ⟨rfl, hsz, hP, hK, hD0, hN⟩ := hv
  subst ho; subst hsz
  have hl := lv_entry av (n := maxL) hn
  rw [lg_entry_eq]
  exact body p e s m _ below meth c _ _ ⟨B.exec, B.bytes, hml, findClass_of_methodNamed B.named, atoms_spec (ws := ws) B.pre, B.returns, B.notSynchronized, hK, hN⟩ ⟨hP, hD0.self, va_S.rf, fun q h => Or.inr h⟩ hl
section CR
variable {p : Program} {l : Launch} {e : Env} {R : Room} {s : State} {m : MethodId} {args : Array Value} {below : List Frame} {meth : Method} {c : Code} {H : Heap} {locs : List Loc} {cells slots : Nat} {Q : State → Prop}
variable {own : String} {Ts : List Cond} {cc : ByteArray} {nL : Nat} {ret : Option FieldType} {D : va_G} {ct : Nat → ClassId} {A : Nat → Prop} {ws : va_W} {pc : Nat} {ls : Array Slot} {rest : List Value} {a : Nat}
theorem cr_get (C : cr_Cx p s m meth c args own Ts cc nL ret D ct) (hP : va_P D vwCl ws H) (q0 : Nat) {ci : Nat} {fs : List Value} (he : ws[q0]? = some (a, .inr (ci, fs))) {Cn : String} {T : u_T} {N : Nat} (hc : vwCl[ci]? = some (Cn, T, N)) (k : Nat) (hk : k < N) (hin : ∀ w ∈ u_ws Cn T N, w ∈ Ts) {index : Nat}
    (hlink : Cond.fieldLink own index (T k).1 (T k).2.1 (T k).2.2.1 ∈ Ts) {v : Value} (hv : fs[k]? = some v) (hdg : decode cc pc = .ok (.getfield index, 3))
    (kk : W p l e R s m args below meth c H locs cells slots Q (F0 m (pc + 3) ls (v :: rest))) : W p l e R s m args below meth c H locs cells slots Q (F0 m pc ls (.ref a :: rest)) := by
  obtain ⟨hx, hb, -, hown, hts, -, -, hK, -⟩ := C
  exact va_get hx hb hts hin hown hK hP q0 he hc k hk (hts _ hlink) (fun _ h9 => h9) hv hdg kk
theorem cr_put (C : cr_Cx p s m meth c args own Ts cc nL ret D ct) (hW : cr_wd D A s ws H locs) (q0 : Nat) {ci : Nat} {fs : List Value} (he : ws[q0]? = some (a, .inr (ci, fs))) {Cn : String} {T : u_T} {N : Nat} (hc : vwCl[ci]? = some (Cn, T, N)) (ty0 : Nat → FieldType) (hty : ∀ k, k < N → parseFieldDescriptor (T k).2.2.1 = some (ty0 k)) (hnm : ∀ a, a < N → ∀ b, b < N → a ≠ b → (T a).2.1 ≠ (T b).2.1)
    (k : Nat) (hk : k < N) (hin : ∀ w ∈ u_ws Cn T N, w ∈ Ts) {index : Nat} (hlink : Cond.fieldLink own index (T k).1 (T k).2.1 (T k).2.2.1 ∈ Ts) (hfin : (T k).2.2.2 = false) {ty : FieldType} (hd : ty0 k = ty) {x : Int32} (hn : narrow ty (.int x) = .int x) (hfit : fits ty (.int x) = true) (hl : k < fs.length) {w' : va_W} (hw : ws.set q0 (a, .inr (ci, fs.set k (.int x))) = w') (hdg : decode cc pc = .ok (.putfield index, 3))
    (kk : ∀ (H1 : Heap) (locs1 : List Loc), cr_wd D A s w' H1 locs1 → W p l e R s m args below meth c H1 locs1 cells slots Q (F0 m (pc + 3) ls rest)) : W p l e R s m args below meth c H locs cells slots Q (F0 m pc ls (.int x :: .ref a :: rest)) := by
  obtain ⟨hx, hb, -, hown, hts, -, -, hK, -⟩ := C
  obtain ⟨hP, hD, hS, hA⟩ := hW
  subst hw
  exact va_put hx hb hts hin ty0 hty hnm hown hK hP hD hS q0 he hc k hk (hts _ hlink) (fun _ h9 => h9) hfin (by rw [hty k hk, hd]) hn hfit hl hdg (fun H1 locs1 h1 h2 h3 => kk H1 locs1 ⟨h1, h2, h3, hA⟩)
theorem cr_ald (C : cr_Cx p s m meth c args own Ts cc nL ret D ct) (hP : va_P D vwCl ws H) (q0 : Nat) {n : Nat} {f : Nat → Int32} (ha : ws[q0]? = some (a, .inl (ct 0, n, .inl f))) {i : Int32} (hin : cr_in i n = true) (hdg : decode cc pc = .ok (.iaload, 1))
    (kk : W p l e R s m args below meth c H locs cells slots Q (F0 m (pc + 1) ls (.int (f i.toNatClampNeg) :: rest))) : W p l e R s m args below meth c H locs cells slots Q (F0 m pc ls (.int i :: .ref a :: rest)) := va_iald C.1 C.2.1 C.2.2.2.2.2.2.2.1 hP q0 0 ha rfl (cr_in_of hin) hdg kk
theorem cr_zald (C : cr_Cx p s m meth c args own Ts cc nL ret D ct) (hP : va_P D vwCl ws H) (q0 : Nat) {n : Nat} {f : Nat → Int32} (ha : ws[q0]? = some (a, .inl (ct 1, n, .inl f))) {i : Int32} (hin : cr_in i n = true) (hdg : decode cc pc = .ok (.baload, 1))
    (kk : W p l e R s m args below meth c H locs cells slots Q (F0 m (pc + 1) ls (.int (f i.toNatClampNeg) :: rest))) : W p l e R s m args below meth c H locs cells slots Q (F0 m pc ls (.int i :: .ref a :: rest)) := va_zald C.1 C.2.1 C.2.2.2.2.2.2.2.1 hP q0 1 ha rfl (cr_in_of hin) hdg kk
theorem cr_cald (C : cr_Cx p s m meth c args own Ts cc nL ret D ct) (hP : va_P D vwCl ws H) (q0 : Nat) {n : Nat} {f : Nat → Int32} (ha : ws[q0]? = some (a, .inl (ct 2, n, .inl f))) {i : Int32} (hin : cr_in i n = true) (hdg : decode cc pc = .ok (.caload, 1))
    (kk : W p l e R s m args below meth c H locs cells slots Q (F0 m (pc + 1) ls (.int (f i.toNatClampNeg) :: rest))) : W p l e R s m args below meth c H locs cells slots Q (F0 m pc ls (.int i :: .ref a :: rest)) := va_cald C.1 C.2.1 C.2.2.2.2.2.2.2.1 hP q0 2 ha rfl (cr_in_of hin) hdg kk
theorem cr_ast (C : cr_Cx p s m meth c args own Ts cc nL ret D ct) (hW : cr_wd D A s ws H locs) (q0 : Nat) {n : Nat} {f : Nat → Int32} (ha : ws[q0]? = some (a, .inl (ct 0, n, .inl f))) {i x : Int32} (hin : cr_in i n = true) {w' : va_W} (hw : ws.set q0 (a, .inl (ct 0, n, .inl (upd f i.toNatClampNeg x))) = w') (hdg : decode cc pc = .ok (.iastore, 1))
    (kk : ∀ (H1 : Heap) (locs1 : List Loc), cr_wd D A s w' H1 locs1 → W p l e R s m args below meth c H1 locs1 cells slots Q (F0 m (pc + 1) ls rest)) : W p l e R s m args below meth c H locs cells slots Q (F0 m pc ls (.int x :: .int i :: .ref a :: rest)) := by
  obtain ⟨hP, hD, hS, hA⟩ := hW
  subst hw
  exact va_iast C.1 C.2.1 C.2.2.2.2.2.2.2.1 hP hD hS q0 0 ha rfl (cr_in_of hin) hdg (fun H1 locs1 h1 h2 h3 => kk H1 locs1 ⟨h1, h2, h3, hA⟩)
theorem cr_zast (C : cr_Cx p s m meth c args own Ts cc nL ret D ct) (hW : cr_wd D A s ws H locs) (q0 : Nat) {n : Nat} {f : Nat → Int32} (ha : ws[q0]? = some (a, .inl (ct 1, n, .inl f))) {i x : Int32} (hin : cr_in i n = true) {w' : va_W} (hw : ws.set q0 (a, .inl (ct 1, n, .inl (upd f i.toNatClampNeg (vp_nar .boolean x)))) = w') (hdg : decode cc pc = .ok (.bastore, 1))
    (kk : ∀ (H1 : Heap) (locs1 : List Loc), cr_wd D A s w' H1 locs1 → W p l e R s m args below meth c H1 locs1 cells slots Q (F0 m (pc + 1) ls rest)) : W p l e R s m args below meth c H locs cells slots Q (F0 m pc ls (.int x :: .int i :: .ref a :: rest)) := by
  obtain ⟨hP, hD, hS, hA⟩ := hW
  subst hw
  exact va_zast C.1 C.2.1 C.2.2.2.2.2.2.2.1 hP hD hS q0 1 ha rfl (cr_in_of hin) hdg (fun H1 locs1 h1 h2 h3 => kk H1 locs1 ⟨h1, h2, h3, hA⟩)
theorem cr_cast (C : cr_Cx p s m meth c args own Ts cc nL ret D ct) (hW : cr_wd D A s ws H locs) (q0 : Nat) {n : Nat} {f : Nat → Int32} (ha : ws[q0]? = some (a, .inl (ct 2, n, .inl f))) {i x : Int32} (hin : cr_in i n = true) {w' : va_W} (hw : ws.set q0 (a, .inl (ct 2, n, .inl (upd f i.toNatClampNeg (vp_nar .char x)))) = w') (hdg : decode cc pc = .ok (.castore, 1))
    (kk : ∀ (H1 : Heap) (locs1 : List Loc), cr_wd D A s w' H1 locs1 → W p l e R s m args below meth c H1 locs1 cells slots Q (F0 m (pc + 1) ls rest)) : W p l e R s m args below meth c H locs cells slots Q (F0 m pc ls (.int x :: .int i :: .ref a :: rest)) := by
  obtain ⟨hP, hD, hS, hA⟩ := hW
  subst hw
  exact va_cast C.1 C.2.1 C.2.2.2.2.2.2.2.1 hP hD hS q0 2 ha rfl (cr_in_of hin) hdg (fun H1 locs1 h1 h2 h3 => kk H1 locs1 ⟨h1, h2, h3, hA⟩)
theorem cr_ldc (C : cr_Cx p s m meth c args own Ts cc nL ret D ct) {index : Nat} {v : Int32} (hconst : Cond.constant own index v ∈ Ts) (hdg : decode cc pc = .ok (.ldc index, 2)) (k : W p l e R s m args below meth c H locs cells slots Q (F0 m (pc + 2) ls (.int v :: rest))) : W p l e R s m args below meth c H locs cells slots Q (F0 m pc ls rest) :=
  lv_ldc C.1 C.2.1 C.2.2.2.1 (C.2.2.2.2.1 _ hconst) hdg k
-- the ends
theorem cr_retR (C : cr_Cx p s m meth c args own Ts cc nL (some .int) D ct) (hS : va_S cr_no s.heap H locs) {post : Int32 → Prop} {v : Int32} (hq : post v) (hdg : decode cc pc = .ok (.ireturn, 1)) : W p l e R s m args below meth c H locs cells slots (MQ below (cr_QR post) args s cells slots cr_no) (F0 m pc ls [.int v]) :=
  W.iret C.1 C.2.1 C.2.2.2.2.2.1 (fun t ht _ => ⟨⟨v, (), rfl, hq, trivial⟩, hS.F ht⟩) hS.2.2 hdg C.2.2.2.2.2.2.1
theorem cr_retRz {ty : FieldType} (C : cr_Cx p s m meth c args own Ts cc nL (some ty) D ct) (hS : va_S cr_no s.heap H locs) {post : Int32 → Prop} {v : Int32} (hn : narrow ty (.int v) = .int v) (hq : post v) (hdg : decode cc pc = .ok (.ireturn, 1)) : W p l e R s m args below meth c H locs cells slots (MQ below (cr_QR post) args s cells slots cr_no) (F0 m pc ls [.int v]) :=
  W.zret C.1 C.2.1 C.2.2.2.2.2.1 hn (fun t ht _ => ⟨⟨v, (), rfl, hq, trivial⟩, hS.F ht⟩) hS.2.2 hdg C.2.2.2.2.2.2.1
theorem cr_retW {S : Type} (C : cr_Cx p s m meth c args own Ts cc nL (some .int) D ct) {post : Int32 → S → Prop} {w : S → va_W} (u : S) (hW : cr_wd D A s (w u) H locs) {v : Int32} (hq : post v u) (hdg : decode cc pc = .ok (.ireturn, 1)) : W p l e R s m args below meth c H locs cells slots (MQ below (va_Qi post (fun u t => cr_at D A (w u) t) A) args s cells slots A) (F0 m pc ls [.int v]) :=
  W.iret C.1 C.2.1 C.2.2.2.2.2.1 (fun t ht _ => ⟨⟨v, u, rfl, hq, by rw [ht]; exact hW.1, hW.2.1⟩, hW.2.2.1.F ht⟩) hW.2.2.1.2.2 hdg C.2.2.2.2.2.2.1
theorem cr_retWz {S : Type} {ty : FieldType} (C : cr_Cx p s m meth c args own Ts cc nL (some ty) D ct) {post : Int32 → S → Prop} {w : S → va_W} (u : S) (hW : cr_wd D A s (w u) H locs) {v : Int32} (hn : narrow ty (.int v) = .int v) (hq : post v u) (hdg : decode cc pc = .ok (.ireturn, 1)) : W p l e R s m args below meth c H locs cells slots (MQ below (va_Qi post (fun u t => cr_at D A (w u) t) A) args s cells slots A) (F0 m pc ls [.int v]) :=
  W.zret C.1 C.2.1 C.2.2.2.2.2.1 hn (fun t ht _ => ⟨⟨v, u, rfl, hq, by rw [ht]; exact hW.1, hW.2.1⟩, hW.2.2.1.F ht⟩) hW.2.2.1.2.2 hdg C.2.2.2.2.2.2.1
theorem cr_retV {S : Type} (C : cr_Cx p s m meth c args own Ts cc nL none D ct) {post : S → Prop} {w : S → va_W} (u : S) (hW : cr_wd D A s (w u) H locs) (hq : post u) (hdg : decode cc pc = .ok (.return_, 1)) : W p l e R s m args below meth c H locs cells slots (MQ below (va_Qv post (fun u t => cr_at D A (w u) t) A) args s cells slots A) (F0 m pc ls []) :=
  W.vret C.1 C.2.1 C.2.2.2.2.2.1 (fun t ht _ => ⟨⟨u, rfl, hq, by rw [ht]; exact hW.1, hW.2.1⟩, hW.2.2.1.F ht⟩) hW.2.2.1.2.2 hdg C.2.2.2.2.2.2.1
end CR
end
section
theorem cr_blindR {D : va_G} {ct : Nat → ClassId} {wc : va_W} {av : List Value} : FrameBlind (cr_pR D ct wc av) := fun a U g mk q => by
  obtain ⟨q0, q1, q2, q3⟩ := q
  exact ⟨q0, q1, va_K.moved (u := U) (U := U.calling g mk a) (Vm.Alike.refl U.vm) q2, cr_NW.same (u := U) (U := U.calling g mk a) rfl q3⟩
theorem cr_blindW {D : va_G} {ct : Nat → ClassId} {wc : va_W} {sz : Nat} {av : List Value} : FrameBlind (cr_pW D ct wc sz av) := fun a U g mk q => by
  obtain ⟨q0, q1, q2, q3, q4, q5⟩ := q
  exact ⟨q0, q1, q2, va_K.moved (u := U) (U := U.calling g mk a) (Vm.Alike.refl U.vm) q3, q4, cr_NW.same (u := U) (U := U.calling g mk a) rfl q5⟩
section CRC
variable {p : Program} {l : Launch} {e : Env} {R : Room} {s : State} {m : MethodId} {args : Array Value} {below : List Frame} {meth : Method} {c : Code} {H : Heap} {locs : List Loc} {cells slots : Nat} {Q : State → Prop}
variable {own : String} {Ts : List Cond} {cc : ByteArray} {nL : Nat} {ret : Option FieldType} {D : va_G} {ct : Nat → ClassId} {A : Nat → Prop} {ws : va_W} {pc : Nat} {ls : Array Slot} {rest st : List Value} {b : Nat}
variable {y : MethodName} {bytes : ByteArray} {maxL n index : Nat} {rt : Option FieldType} {wy : List Cond} {rm : Room} {Cn : String} {As : List Value} {wc : va_W} {ci : Nat} {fs : List Value} {T : u_T} {N : Nat}
/-- a method that only reads, called by one that only reads -/
theorem cr_vR {post : Int32 → Prop} (C : cr_Cx p s m meth c args own Ts cc nL ret D ct) (hP : va_P D vwCl ws H) (hS : va_S A s.heap H locs) (hM : Met l y wy rm (cr_pR D ct wc (.ref b :: As)) (cr_QR post) 0 0 cr_no) (cw : CallW R s args own Cn index y bytes maxL rt wy rm 0 0 n) (is : List Nat) (hs : is.filterMap (fun i => ws[i]?) = wc) (q0 : Nat) (he : ws[q0]? = some (b, .inr (ci, fs))) (hc : vwCl[ci]? = some (Cn, T, N))
    (hn : As.length = n) (hls : ls.size = nL) (hst : st = As.reverse ++ .ref b :: rest) (hr : (rest.map fun v => v.category).sum ≤ 8) (hdg : decode cc pc = .ok (.invokevirtual index, 3)) (hf : cells ≤ R.cells ∧ slots ≤ R.slots)
    (kk : ∀ (r : Int32) (H1 : Heap) (locs1 : List Loc), post r → va_P D vwCl ws H1 → va_S A s.heap H1 locs1 → W p l e R s m args below meth c H1 locs1 cells slots Q (F0 m (pc + 3) ls (.int r :: rest))) : W p l e R s m args below meth c H locs cells slots Q (F0 m pc ls st) := by
  obtain ⟨hx, hb, hml, hown, hts, -, -, hK, hN⟩ := C
  refine va_calli (va_runV (As := As) (rest := rest) ⟨hx, hb, hml, hown, hts⟩ hM cw ⟨cr_blindR, va_recv hK hP hc he, fun U hU hW => ⟨rfl, by rw [hU]; exact hP.sub is hs, va_K.moved hW.alike hK, cr_NW.warm hW hN⟩⟩ rfl hn hls hst (lv_room hr) hdg hf) hS (fun q _ h => h.elim) (fun q h => h.elim) (fun r u t H1 locs1 ht hvm hw hB hz1 hk1 hS1 => ?_)
  exact kk r H1 locs1 hw (hP.kept fun k q hq => hk1 q.1 (hP k q hq).lt (fun z => z)) hS1
theorem cr_vRw {post : Int32 → Prop} (C : cr_Cx p s m meth c args own Ts cc nL ret D ct) (hW : cr_wd D A s ws H locs) (hM : Met l y wy rm (cr_pR D ct wc (.ref b :: As)) (cr_QR post) 0 0 cr_no) (cw : CallW R s args own Cn index y bytes maxL rt wy rm 0 0 n) (is : List Nat) (hs : is.filterMap (fun i => ws[i]?) = wc) (q0 : Nat) (he : ws[q0]? = some (b, .inr (ci, fs))) (hc : vwCl[ci]? = some (Cn, T, N))
    (hn : As.length = n) (hls : ls.size = nL) (hst : st = As.reverse ++ .ref b :: rest) (hr : (rest.map fun v => v.category).sum ≤ 8) (hdg : decode cc pc = .ok (.invokevirtual index, 3)) (hf : cells ≤ R.cells ∧ slots ≤ R.slots)
    (kk : ∀ (r : Int32) (H1 : Heap) (locs1 : List Loc), post r → cr_wd D A s ws H1 locs1 → W p l e R s m args below meth c H1 locs1 cells slots Q (F0 m (pc + 3) ls (.int r :: rest))) : W p l e R s m args below meth c H locs cells slots Q (F0 m pc ls st) :=
  cr_vR C hW.1 hW.2.2.1 hM cw is hs q0 he hc hn hls hst hr hdg hf (fun r H1 locs1 h1 h2 h3 => kk r H1 locs1 h1 ⟨h2, hW.2.1, h3, hW.2.2.2⟩)
/-- a static method of ints -/
theorem cr_sR {post : Int32 → Prop} (C : cr_Cx p s m meth c args own Ts cc nL ret D ct) (hP : va_P D vwCl ws H) (hS : va_S A s.heap H locs) (hM : Met l y wy rm (cr_pR D ct [] As) (cr_QR post) 0 0 cr_no) (cw : CallB R s args own index y bytes maxL rt wy rm 0 0 n ∧ (Cond.static y).before args s = true)
    (hn : As.length = n) (hls : ls.size = nL) (hst : st = As.reverse ++ rest) (hr : (rest.map fun v => v.category).sum ≤ 8) (hdg : decode cc pc = .ok (.invokestatic index, 3)) (hf : cells ≤ R.cells ∧ slots ≤ R.slots)
    (kk : ∀ (r : Int32) (H1 : Heap) (locs1 : List Loc), post r → va_P D vwCl ws H1 → va_S A s.heap H1 locs1 → W p l e R s m args below meth c H1 locs1 cells slots Q (F0 m (pc + 3) ls (.int r :: rest))) : W p l e R s m args below meth c H locs cells slots Q (F0 m pc ls st) := by
  obtain ⟨hx, hb, hml, hown, hts, -, -, hK, hN⟩ := C
  refine va_calli (va_runS (As := As) (rest := rest) ⟨hx, hb, hml, hown, hts⟩ hM cw ⟨cr_blindR, fun U hU hW => ⟨rfl, fun k q hk => by simp at hk, va_K.moved hW.alike hK, cr_NW.warm hW hN⟩⟩ rfl hn hls hst (lv_room hr) hdg hf) hS (fun q _ h => h.elim) (fun q h => h.elim) (fun r u t H1 locs1 ht hvm hw hB hz1 hk1 hS1 => ?_)
  exact kk r H1 locs1 hw (hP.kept fun k q hq => hk1 q.1 (hP k q hq).lt (fun z => z)) hS1
theorem cr_sRw {post : Int32 → Prop} (C : cr_Cx p s m meth c args own Ts cc nL ret D ct) (hW : cr_wd D A s ws H locs) (hM : Met l y wy rm (cr_pR D ct [] As) (cr_QR post) 0 0 cr_no) (cw : CallB R s args own index y bytes maxL rt wy rm 0 0 n ∧ (Cond.static y).before args s = true)
    (hn : As.length = n) (hls : ls.size = nL) (hst : st = As.reverse ++ rest) (hr : (rest.map fun v => v.category).sum ≤ 8) (hdg : decode cc pc = .ok (.invokestatic index, 3)) (hf : cells ≤ R.cells ∧ slots ≤ R.slots)
    (kk : ∀ (r : Int32) (H1 : Heap) (locs1 : List Loc), post r → cr_wd D A s ws H1 locs1 → W p l e R s m args below meth c H1 locs1 cells slots Q (F0 m (pc + 3) ls (.int r :: rest))) : W p l e R s m args below meth c H locs cells slots Q (F0 m pc ls st) :=
  cr_sR C hW.1 hW.2.2.1 hM cw hn hls hst hr hdg hf (fun r H1 locs1 h1 h2 h3 => kk r H1 locs1 h1 ⟨h2, hW.2.1, h3, hW.2.2.2⟩)
/-- a static method of the nest's host -/
theorem cr_nR {post : Int32 → Prop} {host : String} (C : cr_Cx p s m meth c args own Ts cc nL ret D ct) (hP : va_P D vwCl ws H) (hS : va_S A s.heap H locs) (hM : Met l y wy rm (cr_pR D ct [] As) (cr_QR post) 0 0 cr_no) (cw : va_CN R s args own index y host bytes maxL rt wy rm 0 0 n ∧ (Cond.static y).before args s = true ∧ True)
    (hn : As.length = n) (hls : ls.size = nL) (hst : st = As.reverse ++ rest) (hr : (rest.map fun v => v.category).sum ≤ 8) (hdg : decode cc pc = .ok (.invokestatic index, 3)) (hf : cells ≤ R.cells ∧ slots ≤ R.slots)
    (kk : ∀ (r : Int32) (H1 : Heap) (locs1 : List Loc), post r → va_P D vwCl ws H1 → va_S A s.heap H1 locs1 → W p l e R s m args below meth c H1 locs1 cells slots Q (F0 m (pc + 3) ls (.int r :: rest))) : W p l e R s m args below meth c H locs cells slots Q (F0 m pc ls st) := by
  obtain ⟨hx, hb, hml, hown, hts, -, -, hK, hN⟩ := C
  refine va_calli (va_runSN (As := As) (rest := rest) ⟨hx, hb, hml, hown, hts⟩ hM cw ⟨cr_blindR, fun U hU hW => ⟨rfl, fun k q hk => by simp at hk, va_K.moved hW.alike hK, cr_NW.warm hW hN⟩⟩ rfl hn hls hst (lv_room hr) hdg hf) hS (fun q _ h => h.elim) (fun q h => h.elim) (fun r u t H1 locs1 ht hvm hw hB hz1 hk1 hS1 => ?_)
  exact kk r H1 locs1 hw (hP.kept fun k q hq => hk1 q.1 (hP k q hq).lt (fun z => z)) hS1
theorem cr_nRw {post : Int32 → Prop} {host : String} (C : cr_Cx p s m meth c args own Ts cc nL ret D ct) (hW : cr_wd D A s ws H locs) (hM : Met l y wy rm (cr_pR D ct [] As) (cr_QR post) 0 0 cr_no) (cw : va_CN R s args own index y host bytes maxL rt wy rm 0 0 n ∧ (Cond.static y).before args s = true ∧ True)
    (hn : As.length = n) (hls : ls.size = nL) (hst : st = As.reverse ++ rest) (hr : (rest.map fun v => v.category).sum ≤ 8) (hdg : decode cc pc = .ok (.invokestatic index, 3)) (hf : cells ≤ R.cells ∧ slots ≤ R.slots)
    (kk : ∀ (r : Int32) (H1 : Heap) (locs1 : List Loc), post r → cr_wd D A s ws H1 locs1 → W p l e R s m args below meth c H1 locs1 cells slots Q (F0 m (pc + 3) ls (.int r :: rest))) : W p l e R s m args below meth c H locs cells slots Q (F0 m pc ls st) :=
  cr_nR C hW.1 hW.2.2.1 hM cw hn hls hst hr hdg hf (fun r H1 locs1 h1 h2 h3 => kk r H1 locs1 h1 ⟨h2, hW.2.1, h3, hW.2.2.2⟩)
/-- what a callee's world becomes, beside the rest, in the caller's own order -/
theorem cr_back {wr w1 w2 : va_W} {H1 : Heap} {locs1 : List Loc} (hW : cr_wd D A s ws H locs) (isC isR pm : List Nat) (hC : isC.map (fun i => ws[i]?) = wc.map some) (hR : isR.map (fun i => ws[i]?) = wr.map some) (hn : va_nd isR = true) (hdis : ∀ i ∈ isR, i ∉ isC) (hpm : pm.map (fun i => (wr ++ w1)[i]?) = w2.map some) (hnp : va_nd pm = true)
    (hk : ∀ q : Nat, q < H.size → ¬ va_A wc H.size q → H1[q]? = H[q]?) (hF : ∀ q, va_A wc H.size q → A q) (hP1 : va_P D vwCl w1 H1) (hD1 : va_D (va_A wc H.size) w1) (hS1 : va_S A s.heap H1 locs1) : cr_wd D A s w2 H1 locs1 := by
  obtain ⟨hP, hD, hS, hA⟩ := hW
  obtain ⟨hP2, hD2⟩ := va_join hP hD isC isR hC hR hn hdis hk hF hP1 hD1
  refine ⟨fun k q hq => ?_, hD2.sub pm hnp hpm, hS1, hA⟩
  have h1 : (pm.map (fun i => (wr ++ w1)[i]?))[k]? = some (some q) := by rw [hpm, List.getElem?_map, hq]; rfl
  rw [List.getElem?_map] at h1
  cases hi : pm[k]? with
  | none => rw [hi] at h1; cases h1
  | some i => rw [hi] at h1; exact hP2 i q (Option.some.inj h1)
/-- a method that writes -/
theorem cr_vW {S : Type} {post : Int32 → S → Prop} {w1 : S → va_W} {wr : va_W} (C : cr_Cx p s m meth c args own Ts cc nL ret D ct) (hW : cr_wd D A s ws H locs) (hM : Met l y wy rm (cr_pW D ct wc H.size (.ref b :: As)) (cr_QW D wc H.size post w1) 0 0 (va_A wc H.size)) (cw : CallW R s args own Cn index y bytes maxL rt wy rm 0 0 n) (isC isR pm : List Nat) (w2 : S → va_W)
    (hC : isC.map (fun i => ws[i]?) = wc.map some) (hR : isR.map (fun i => ws[i]?) = wr.map some) (hpm : ∀ u, pm.map (fun i => (wr ++ w1 u)[i]?) = (w2 u).map some) (hnd : va_nd isC = true ∧ va_nd isR = true ∧ va_nd pm = true ∧ ∀ i ∈ isR, i ∉ isC) (q0 : Nat) (he : ws[q0]? = some (b, .inr (ci, fs))) (hc : vwCl[ci]? = some (Cn, T, N))
    (hn : As.length = n) (hls : ls.size = nL) (hst : st = As.reverse ++ .ref b :: rest) (hr : (rest.map fun v => v.category).sum ≤ 8) (hdg : decode cc pc = .ok (.invokevirtual index, 3)) (hf : cells ≤ R.cells ∧ slots ≤ R.slots)
    (kk : ∀ (r : Int32) (u : S) (H1 : Heap) (locs1 : List Loc), post r u → cr_wd D A s (w2 u) H1 locs1 → W p l e R s m args below meth c H1 locs1 cells slots Q (F0 m (pc + 3) ls (.int r :: rest))) : W p l e R s m args below meth c H locs cells slots Q (F0 m pc ls st) := by
  obtain ⟨hx, hb, hml, hown, hts, -, -, hK, hN⟩ := C
  have hF : ∀ q, va_A wc H.size q → A q := va_free hW.2.1 hW.2.2.1 hW.2.2.2 isC hC
  have hD0 : va_D (fun _ => True) wc := (hW.2.1.sub isC hnd.1 hC).weaken (fun _ _ _ _ => trivial)
  have hP0 : va_P D vwCl wc H := by
    intro k q hq
    have h1 : (isC.map (fun i => ws[i]?))[k]? = some (some q) := by rw [hC, List.getElem?_map, hq]; rfl
    rw [List.getElem?_map] at h1
    cases hi : isC[k]? with
    | none => rw [hi] at h1; cases h1
    | some i => rw [hi] at h1; exact hW.1 i q (Option.some.inj h1)
  refine va_calli (va_runV (As := As) (rest := rest) ⟨hx, hb, hml, hown, hts⟩ hM cw ⟨cr_blindW, va_recv hK hW.1 hc he, fun U hU hWm => ⟨rfl, by rw [hU], by rw [hU]; exact hP0, va_K.moved hWm.alike hK, hD0, cr_NW.warm hWm hN⟩⟩ rfl hn hls hst (lv_room hr) hdg hf) hW.2.2.1 (fun q _ h => hF q h) hF (fun r u t H1 locs1 ht hvm hw hB hz1 hk1 hS1 => ?_)
  exact kk r u H1 locs1 hw (cr_back hW isC isR pm hC hR hnd.2.1 hnd.2.2.2 (hpm u) hnd.2.2.1 hk1 hF (by rw [← ht]; exact hB.1) hB.2 hS1)
theorem cr_vV {S : Type} {post : S → Prop} {w1 : S → va_W} {wr : va_W} (C : cr_Cx p s m meth c args own Ts cc nL ret D ct) (hW : cr_wd D A s ws H locs) (hM : Met l y wy rm (cr_pW D ct wc H.size (.ref b :: As)) (cr_QV D wc H.size post w1) 0 0 (va_A wc H.size)) (cw : CallW R s args own Cn index y bytes maxL rt wy rm 0 0 n) (isC isR pm : List Nat) (w2 : S → va_W)
    (hC : isC.map (fun i => ws[i]?) = wc.map some) (hR : isR.map (fun i => ws[i]?) = wr.map some) (hpm : ∀ u, pm.map (fun i => (wr ++ w1 u)[i]?) = (w2 u).map some) (hnd : va_nd isC = true ∧ va_nd isR = true ∧ va_nd pm = true ∧ ∀ i ∈ isR, i ∉ isC) (q0 : Nat) (he : ws[q0]? = some (b, .inr (ci, fs))) (hc : vwCl[ci]? = some (Cn, T, N))
    (hn : As.length = n) (hls : ls.size = nL) (hst : st = As.reverse ++ .ref b :: rest) (hr : (rest.map fun v => v.category).sum ≤ 8) (hdg : decode cc pc = .ok (.invokevirtual index, 3)) (hf : cells ≤ R.cells ∧ slots ≤ R.slots)
    (kk : ∀ (u : S) (H1 : Heap) (locs1 : List Loc), post u → cr_wd D A s (w2 u) H1 locs1 → W p l e R s m args below meth c H1 locs1 cells slots Q (F0 m (pc + 3) ls rest)) : W p l e R s m args below meth c H locs cells slots Q (F0 m pc ls st) := by
  obtain ⟨hx, hb, hml, hown, hts, -, -, hK, hN⟩ := C
  have hF : ∀ q, va_A wc H.size q → A q := va_free hW.2.1 hW.2.2.1 hW.2.2.2 isC hC
  have hD0 : va_D (fun _ => True) wc := (hW.2.1.sub isC hnd.1 hC).weaken (fun _ _ _ _ => trivial)
  have hP0 : va_P D vwCl wc H := by
    intro k q hq
    have h1 : (isC.map (fun i => ws[i]?))[k]? = some (some q) := by rw [hC, List.getElem?_map, hq]; rfl
    rw [List.getElem?_map] at h1
    cases hi : isC[k]? with
    | none => rw [hi] at h1; cases h1
    | some i => rw [hi] at h1; exact hW.1 i q (Option.some.inj h1)
  refine va_callv (va_runV (As := As) (rest := rest) ⟨hx, hb, hml, hown, hts⟩ hM cw ⟨cr_blindW, va_recv hK hW.1 hc he, fun U hU hWm => ⟨rfl, by rw [hU], by rw [hU]; exact hP0, va_K.moved hWm.alike hK, hD0, cr_NW.warm hWm hN⟩⟩ rfl hn hls hst (lv_room hr) hdg hf) hW.2.2.1 (fun q _ h => hF q h) hF (fun u t H1 locs1 ht hvm hw hB hz1 hk1 hS1 => ?_)
  exact kk u H1 locs1 hw (cr_back hW isC isR pm hC hR hnd.2.1 hnd.2.2.2 (hpm u) hnd.2.2.1 hk1 hF (by rw [← ht]; exact hB.1) hB.2 hS1)
end CRC
end
section
theorem cr_ifn {α : Type} {c : Prop} [Decidable c] {x : Option α} {o : α} (h : (if c then x else none) = some o) : c ∧ x = some o := by
  by_cases hc : c
  · rw [if_pos hc] at h; exact ⟨hc, h⟩
  · rw [if_neg hc] at h; cases h
theorem cr_ifz {α : Type} {c : Prop} [Decidable c] {x : Option α} {o : α} (h : (if c then none else x) = some o) : ¬ c ∧ x = some o := by
  by_cases hc : c
  · rw [if_pos hc] at h; cases h
  · rw [if_neg hc] at h; exact ⟨hc, h⟩
theorem cr_bind {α β : Type} {x : Option α} {f : α → Option β} {o : β} (h : x.bind f = some o) : ∃ q, x = some q ∧ f q = some o := Option.bind_eq_some_iff.mp h
theorem cr_ne {x k : Int32} {n : Int} (hk : k.toInt = n) (h : ¬ x = k) : x.toInt ≠ n := fun e => h (Int32.toInt_inj.mp (e.trans hk.symm))
def cr_bool (v : Int32) : Bool := decide (v = 0 ∨ v = 1)
theorem cr_boolN {v : Int32} (h : cr_bool v = true) : narrow .boolean (.int v) = .int v := by
  rcases of_decide_eq_true h with h | h <;> subst h <;> rfl
def cr_char (v : Int32) : Bool := decide (narrow .char (.int v) = .int v)
theorem cr_charN {v : Int32} (h : cr_char v = true) : narrow .char (.int v) = .int v := of_decide_eq_true h
def cr_num (r : UInt32) : Bool := decide (r &&& 0x7fffffff ≤ 0x7f800000)
theorem cr_numN {r : UInt32} (h : cr_num r = true) : vf_n32 r := of_decide_eq_true (p := r &&& 0x7fffffff ≤ 0x7f800000) h
theorem cr_all {ws : va_W} {isR : List Nat} (h : isR.all (fun i => decide (i < ws.length)) = true) : isR.map (fun i => ws[i]?) = (isR.filterMap (fun i => ws[i]?)).map some := by
  induction isR with
  | nil => rfl
  | cons i l ih =>
    simp only [List.all_cons, Bool.and_eq_true, decide_eq_true_eq] at h
    obtain ⟨x, hx⟩ : ∃ x, ws[i]? = some x := ⟨ws[i], by simp [h.1]⟩
    rw [List.map_cons, ih h.2, List.filterMap_cons, hx, List.map_cons]
section CRQ
variable {p : Program} {l : Launch} {e : Env} {R : Room} {s : State} {m : MethodId} {args : Array Value} {below : List Frame} {meth : Method} {c : Code} {H : Heap} {locs : List Loc} {cells slots : Nat} {Q : State → Prop}
variable {own : String} {Ts : List Cond} {cc : ByteArray} {nL : Nat} {ret : Option FieldType} {D : va_G} {ct : Nat → ClassId} {A : Nat → Prop} {ws : va_W} {pc : Nat} {ls : Array Slot} {rest st : List Value} {b : Nat}
variable {y : MethodName} {bytes : ByteArray} {maxL n index : Nat} {rt : Option FieldType} {wy : List Cond} {rm : Room} {Cn : String} {As : List Value} {wc : va_W} {ci : Nat} {fs : List Value} {T : u_T} {N : Nat}
theorem cr_vRq {q : Int32} (C : cr_Cx p s m meth c args own Ts cc nL ret D ct) (hP : va_P D vwCl ws H) (hS : va_S A s.heap H locs) (hM : Met l y wy rm (cr_pR D ct wc (.ref b :: As)) (cr_QR (fun r => r = q)) 0 0 cr_no) (cw : CallW R s args own Cn index y bytes maxL rt wy rm 0 0 n) (is : List Nat) (hs : is.filterMap (fun i => ws[i]?) = wc) (q0 : Nat) (he : ws[q0]? = some (b, .inr (ci, fs))) (hc : vwCl[ci]? = some (Cn, T, N))
    (hn : As.length = n) (hls : ls.size = nL) (hst : st = As.reverse ++ .ref b :: rest) (hr : (rest.map fun v => v.category).sum ≤ 8) (hdg : decode cc pc = .ok (.invokevirtual index, 3)) (hf : cells ≤ R.cells ∧ slots ≤ R.slots)
    (kk : ∀ (H1 : Heap) (locs1 : List Loc), va_P D vwCl ws H1 → va_S A s.heap H1 locs1 → W p l e R s m args below meth c H1 locs1 cells slots Q (F0 m (pc + 3) ls (.int q :: rest))) : W p l e R s m args below meth c H locs cells slots Q (F0 m pc ls st) :=
  cr_vR C hP hS hM cw is hs q0 he hc hn hls hst hr hdg hf (fun r H1 locs1 h1 h2 h3 => by subst h1; exact kk H1 locs1 h2 h3)
theorem cr_vRwq {q : Int32} (C : cr_Cx p s m meth c args own Ts cc nL ret D ct) (hW : cr_wd D A s ws H locs) (hM : Met l y wy rm (cr_pR D ct wc (.ref b :: As)) (cr_QR (fun r => r = q)) 0 0 cr_no) (cw : CallW R s args own Cn index y bytes maxL rt wy rm 0 0 n) (is : List Nat) (hs : is.filterMap (fun i => ws[i]?) = wc) (q0 : Nat) (he : ws[q0]? = some (b, .inr (ci, fs))) (hc : vwCl[ci]? = some (Cn, T, N))
    (hn : As.length = n) (hls : ls.size = nL) (hst : st = As.reverse ++ .ref b :: rest) (hr : (rest.map fun v => v.category).sum ≤ 8) (hdg : decode cc pc = .ok (.invokevirtual index, 3)) (hf : cells ≤ R.cells ∧ slots ≤ R.slots)
    (kk : ∀ (H1 : Heap) (locs1 : List Loc), cr_wd D A s ws H1 locs1 → W p l e R s m args below meth c H1 locs1 cells slots Q (F0 m (pc + 3) ls (.int q :: rest))) : W p l e R s m args below meth c H locs cells slots Q (F0 m pc ls st) :=
  cr_vRw C hW hM cw is hs q0 he hc hn hls hst hr hdg hf (fun r H1 locs1 h1 h2 => by subst h1; exact kk H1 locs1 h2)
theorem cr_sRq {q : Int32} (C : cr_Cx p s m meth c args own Ts cc nL ret D ct) (hP : va_P D vwCl ws H) (hS : va_S A s.heap H locs) (hM : Met l y wy rm (cr_pR D ct [] As) (cr_QR (fun r => r = q)) 0 0 cr_no) (cw : CallB R s args own index y bytes maxL rt wy rm 0 0 n ∧ (Cond.static y).before args s = true)
    (hn : As.length = n) (hls : ls.size = nL) (hst : st = As.reverse ++ rest) (hr : (rest.map fun v => v.category).sum ≤ 8) (hdg : decode cc pc = .ok (.invokestatic index, 3)) (hf : cells ≤ R.cells ∧ slots ≤ R.slots)
    (kk : ∀ (H1 : Heap) (locs1 : List Loc), va_P D vwCl ws H1 → va_S A s.heap H1 locs1 → W p l e R s m args below meth c H1 locs1 cells slots Q (F0 m (pc + 3) ls (.int q :: rest))) : W p l e R s m args below meth c H locs cells slots Q (F0 m pc ls st) :=
  cr_sR C hP hS hM cw hn hls hst hr hdg hf (fun r H1 locs1 h1 h2 h3 => by subst h1; exact kk H1 locs1 h2 h3)
theorem cr_sRwq {q : Int32} (C : cr_Cx p s m meth c args own Ts cc nL ret D ct) (hW : cr_wd D A s ws H locs) (hM : Met l y wy rm (cr_pR D ct [] As) (cr_QR (fun r => r = q)) 0 0 cr_no) (cw : CallB R s args own index y bytes maxL rt wy rm 0 0 n ∧ (Cond.static y).before args s = true)
    (hn : As.length = n) (hls : ls.size = nL) (hst : st = As.reverse ++ rest) (hr : (rest.map fun v => v.category).sum ≤ 8) (hdg : decode cc pc = .ok (.invokestatic index, 3)) (hf : cells ≤ R.cells ∧ slots ≤ R.slots)
    (kk : ∀ (H1 : Heap) (locs1 : List Loc), cr_wd D A s ws H1 locs1 → W p l e R s m args below meth c H1 locs1 cells slots Q (F0 m (pc + 3) ls (.int q :: rest))) : W p l e R s m args below meth c H locs cells slots Q (F0 m pc ls st) :=
  cr_sRw C hW hM cw hn hls hst hr hdg hf (fun r H1 locs1 h1 h2 => by subst h1; exact kk H1 locs1 h2)
theorem cr_nRq {q : Int32} {host : String} (C : cr_Cx p s m meth c args own Ts cc nL ret D ct) (hP : va_P D vwCl ws H) (hS : va_S A s.heap H locs) (hM : Met l y wy rm (cr_pR D ct [] As) (cr_QR (fun r => r = q)) 0 0 cr_no) (cw : va_CN R s args own index y host bytes maxL rt wy rm 0 0 n ∧ (Cond.static y).before args s = true ∧ True)
    (hn : As.length = n) (hls : ls.size = nL) (hst : st = As.reverse ++ rest) (hr : (rest.map fun v => v.category).sum ≤ 8) (hdg : decode cc pc = .ok (.invokestatic index, 3)) (hf : cells ≤ R.cells ∧ slots ≤ R.slots)
    (kk : ∀ (H1 : Heap) (locs1 : List Loc), va_P D vwCl ws H1 → va_S A s.heap H1 locs1 → W p l e R s m args below meth c H1 locs1 cells slots Q (F0 m (pc + 3) ls (.int q :: rest))) : W p l e R s m args below meth c H locs cells slots Q (F0 m pc ls st) :=
  cr_nR C hP hS hM cw hn hls hst hr hdg hf (fun r H1 locs1 h1 h2 h3 => by subst h1; exact kk H1 locs1 h2 h3)
theorem cr_nRwq {q : Int32} {host : String} (C : cr_Cx p s m meth c args own Ts cc nL ret D ct) (hW : cr_wd D A s ws H locs) (hM : Met l y wy rm (cr_pR D ct [] As) (cr_QR (fun r => r = q)) 0 0 cr_no) (cw : va_CN R s args own index y host bytes maxL rt wy rm 0 0 n ∧ (Cond.static y).before args s = true ∧ True)
    (hn : As.length = n) (hls : ls.size = nL) (hst : st = As.reverse ++ rest) (hr : (rest.map fun v => v.category).sum ≤ 8) (hdg : decode cc pc = .ok (.invokestatic index, 3)) (hf : cells ≤ R.cells ∧ slots ≤ R.slots)
    (kk : ∀ (H1 : Heap) (locs1 : List Loc), cr_wd D A s ws H1 locs1 → W p l e R s m args below meth c H1 locs1 cells slots Q (F0 m (pc + 3) ls (.int q :: rest))) : W p l e R s m args below meth c H locs cells slots Q (F0 m pc ls st) :=
  cr_nRw C hW hM cw hn hls hst hr hdg hf (fun r H1 locs1 h1 h2 => by subst h1; exact kk H1 locs1 h2)
theorem cr_vWq {S : Type} {q : Int32 × S} {w1 : S → va_W} (C : cr_Cx p s m meth c args own Ts cc nL ret D ct) (hW : cr_wd D A s ws H locs) (hM : Met l y wy rm (cr_pW D ct wc H.size (.ref b :: As)) (cr_QW D wc H.size (fun r u => (r, u) = q) w1) 0 0 (va_A wc H.size)) (cw : CallW R s args own Cn index y bytes maxL rt wy rm 0 0 n) (isC isR pm : List Nat) (w2 : va_W)
    (hC : isC.map (fun i => ws[i]?) = wc.map some) (hR : isR.all (fun i => decide (i < ws.length)) = true) (hpm : pm.map (fun i => (isR.filterMap (fun i => ws[i]?) ++ w1 q.2)[i]?) = w2.map some) (hnd : va_nd isC = true ∧ va_nd isR = true ∧ va_nd pm = true ∧ ∀ i ∈ isR, i ∉ isC) (q0 : Nat) (he : ws[q0]? = some (b, .inr (ci, fs))) (hc : vwCl[ci]? = some (Cn, T, N))
    (hn : As.length = n) (hls : ls.size = nL) (hst : st = As.reverse ++ .ref b :: rest) (hr : (rest.map fun v => v.category).sum ≤ 8) (hdg : decode cc pc = .ok (.invokevirtual index, 3)) (hf : cells ≤ R.cells ∧ slots ≤ R.slots)
    (kk : ∀ (H1 : Heap) (locs1 : List Loc), cr_wd D A s w2 H1 locs1 → W p l e R s m args below meth c H1 locs1 cells slots Q (F0 m (pc + 3) ls (.int q.1 :: rest))) : W p l e R s m args below meth c H locs cells slots Q (F0 m pc ls st) := by
  obtain ⟨hx, hb, hml, hown, hts, -, -, hK, hN⟩ := C
  have hF : ∀ q, va_A wc H.size q → A q := va_free hW.2.1 hW.2.2.1 hW.2.2.2 isC hC
  have hD0 : va_D (fun _ => True) wc := (hW.2.1.sub isC hnd.1 hC).weaken (fun _ _ _ _ => trivial)
  have hP0 : va_P D vwCl wc H := by
    intro k q hq
    have h1 : (isC.map (fun i => ws[i]?))[k]? = some (some q) := by rw [hC, List.getElem?_map, hq]; rfl
    rw [List.getElem?_map] at h1
    cases hi : isC[k]? with
    | none => rw [hi] at h1; cases h1
    | some i => rw [hi] at h1; exact hW.1 i q (Option.some.inj h1)
  refine va_calli (va_runV (As := As) (rest := rest) ⟨hx, hb, hml, hown, hts⟩ hM cw ⟨cr_blindW, va_recv hK hW.1 hc he, fun U hU hWm => ⟨rfl, by rw [hU], by rw [hU]; exact hP0, va_K.moved hWm.alike hK, hD0, cr_NW.warm hWm hN⟩⟩ rfl hn hls hst (lv_room hr) hdg hf) hW.2.2.1 (fun q _ h => hF q h) hF (fun r u t H1 locs1 ht hvm hw hB hz1 hk1 hS1 => ?_)
  subst hw
  exact kk H1 locs1 (cr_back hW isC isR pm hC (cr_all hR) hnd.2.1 hnd.2.2.2 hpm hnd.2.2.1 hk1 hF (by rw [← ht]; exact hB.1) hB.2 hS1)
theorem cr_vVq {S : Type} {q : S} {w1 : S → va_W} (C : cr_Cx p s m meth c args own Ts cc nL ret D ct) (hW : cr_wd D A s ws H locs) (hM : Met l y wy rm (cr_pW D ct wc H.size (.ref b :: As)) (cr_QV D wc H.size (fun u => u = q) w1) 0 0 (va_A wc H.size)) (cw : CallW R s args own Cn index y bytes maxL rt wy rm 0 0 n) (isC isR pm : List Nat) (w2 : va_W)
    (hC : isC.map (fun i => ws[i]?) = wc.map some) (hR : isR.all (fun i => decide (i < ws.length)) = true) (hpm : pm.map (fun i => (isR.filterMap (fun i => ws[i]?) ++ w1 q)[i]?) = w2.map some) (hnd : va_nd isC = true ∧ va_nd isR = true ∧ va_nd pm = true ∧ ∀ i ∈ isR, i ∉ isC) (q0 : Nat) (he : ws[q0]? = some (b, .inr (ci, fs))) (hc : vwCl[ci]? = some (Cn, T, N))
    (hn : As.length = n) (hls : ls.size = nL) (hst : st = As.reverse ++ .ref b :: rest) (hr : (rest.map fun v => v.category).sum ≤ 8) (hdg : decode cc pc = .ok (.invokevirtual index, 3)) (hf : cells ≤ R.cells ∧ slots ≤ R.slots)
    (kk : ∀ (H1 : Heap) (locs1 : List Loc), cr_wd D A s w2 H1 locs1 → W p l e R s m args below meth c H1 locs1 cells slots Q (F0 m (pc + 3) ls rest)) : W p l e R s m args below meth c H locs cells slots Q (F0 m pc ls st) := by
  obtain ⟨hx, hb, hml, hown, hts, -, -, hK, hN⟩ := C
  have hF : ∀ q, va_A wc H.size q → A q := va_free hW.2.1 hW.2.2.1 hW.2.2.2 isC hC
  have hD0 : va_D (fun _ => True) wc := (hW.2.1.sub isC hnd.1 hC).weaken (fun _ _ _ _ => trivial)
  have hP0 : va_P D vwCl wc H := by
    intro k q hq
    have h1 : (isC.map (fun i => ws[i]?))[k]? = some (some q) := by rw [hC, List.getElem?_map, hq]; rfl
    rw [List.getElem?_map] at h1
    cases hi : isC[k]? with
    | none => rw [hi] at h1; cases h1
    | some i => rw [hi] at h1; exact hW.1 i q (Option.some.inj h1)
  refine va_callv (va_runV (As := As) (rest := rest) ⟨hx, hb, hml, hown, hts⟩ hM cw ⟨cr_blindW, va_recv hK hW.1 hc he, fun U hU hWm => ⟨rfl, by rw [hU], by rw [hU]; exact hP0, va_K.moved hWm.alike hK, hD0, cr_NW.warm hWm hN⟩⟩ rfl hn hls hst (lv_room hr) hdg hf) hW.2.2.1 (fun q _ h => hF q h) hF (fun u t H1 locs1 ht hvm hw hB hz1 hk1 hS1 => ?_)
  subst hw
  exact kk H1 locs1 (cr_back hW isC isR pm hC (cr_all hR) hnd.2.1 hnd.2.2.2 hpm hnd.2.2.1 hk1 hF (by rw [← ht]; exact hB.1) hB.2 hS1)
end CRQ
section CRS
variable {p : Program} {l : Launch} {e : Env} {R : Room} {s : State} {m : MethodId} {args : Array Value} {below : List Frame} {meth : Method} {c : Code} {H : Heap} {locs : List Loc} {cells slots : Nat} {Q : State → Prop}
variable {own : String} {Ts : List Cond} {cc : ByteArray} {nL : Nat} {ret : Option FieldType} {D : va_G} {ct : Nat → ClassId} {A : Nat → Prop} {ws : va_W} {pc : Nat} {ls : Array Slot} {rest st : List Value}
variable {y : MethodName} {bytes : ByteArray} {maxL n index : Nat} {rt : Option FieldType} {wy : List Cond} {rm : Room} {As : List Value} {wc : va_W}
theorem cr_sVq {S : Type} {q : S} {w1 : S → va_W} (C : cr_Cx p s m meth c args own Ts cc nL ret D ct) (hW : cr_wd D A s ws H locs) (hM : Met l y wy rm (cr_pW D ct wc H.size As) (cr_QV D wc H.size (fun u => u = q) w1) 0 0 (va_A wc H.size)) (cw : CallB R s args own index y bytes maxL rt wy rm 0 0 n ∧ (Cond.static y).before args s = true) (isC isR pm : List Nat) (w2 : va_W)
    (hC : isC.map (fun i => ws[i]?) = wc.map some) (hR : isR.all (fun i => decide (i < ws.length)) = true) (hpm : pm.map (fun i => (isR.filterMap (fun i => ws[i]?) ++ w1 q)[i]?) = w2.map some) (hnd : va_nd isC = true ∧ va_nd isR = true ∧ va_nd pm = true ∧ ∀ i ∈ isR, i ∉ isC)
    (hn : As.length = n) (hls : ls.size = nL) (hst : st = As.reverse ++ rest) (hr : (rest.map fun v => v.category).sum ≤ 8) (hdg : decode cc pc = .ok (.invokestatic index, 3)) (hf : cells ≤ R.cells ∧ slots ≤ R.slots)
    (kk : ∀ (H1 : Heap) (locs1 : List Loc), cr_wd D A s w2 H1 locs1 → W p l e R s m args below meth c H1 locs1 cells slots Q (F0 m (pc + 3) ls rest)) : W p l e R s m args below meth c H locs cells slots Q (F0 m pc ls st) := by
  obtain ⟨hx, hb, hml, hown, hts, -, -, hK, hN⟩ := C
  have hF : ∀ q, va_A wc H.size q → A q := va_free hW.2.1 hW.2.2.1 hW.2.2.2 isC hC
  have hD0 : va_D (fun _ => True) wc := (hW.2.1.sub isC hnd.1 hC).weaken (fun _ _ _ _ => trivial)
  have hP0 : va_P D vwCl wc H := by
    intro k q hq
    have h1 : (isC.map (fun i => ws[i]?))[k]? = some (some q) := by rw [hC, List.getElem?_map, hq]; rfl
    rw [List.getElem?_map] at h1
    cases hi : isC[k]? with
    | none => rw [hi] at h1; cases h1
    | some i => rw [hi] at h1; exact hW.1 i q (Option.some.inj h1)
  refine va_callv (va_runS (As := As) (rest := rest) ⟨hx, hb, hml, hown, hts⟩ hM cw ⟨cr_blindW, fun U hU hWm => ⟨rfl, by rw [hU], by rw [hU]; exact hP0, va_K.moved hWm.alike hK, hD0, cr_NW.warm hWm hN⟩⟩ rfl hn hls hst (lv_room hr) hdg hf) hW.2.2.1 (fun q _ h => hF q h) hF (fun u t H1 locs1 ht hvm hw hB hz1 hk1 hS1 => ?_)
  subst hw
  exact kk H1 locs1 (cr_back hW isC isR pm hC (cr_all hR) hnd.2.1 hnd.2.2.2 hpm hnd.2.2.1 hk1 hF (by rw [← ht]; exact hB.1) hB.2 hS1)
end CRS
end
section
def f_X4_rowOf_2  : Nat → cr_V → Int32 → Int32 → Option (Int32)
  | 0, _, _, _ => none
  | n + 1, vl, x1, x2 => if (vl 4 0) ≤ x2 then (some (-1)) else (if cr_in x2 12 = true then if (vl 0 x2.toNatClampNeg) = x1 then (some x2) else (f_X4_rowOf_2 n vl x1 (x2 + 1)) else none)
def f_X4_rowOf (vl : cr_V) (x1 : Int32) : Option (Int32) := f_X4_rowOf_2 10100 vl x1 0

def f_X4_isFull (vl : cr_V)  : Option (Int32) := if (vl 4 0) < 12 then (some 0) else (some 1)

def f_X4_add (vl : cr_V) (x1 : Int32) (x2 : Int32) (x3 : Int32) : Option (Int32 × cr_V) := (f_X4_isFull vl).bind fun q1 => if q1 = 0 then (if cr_in (vl 4 0) 12 = true then some ((((vl 5 0) + 1) - 1), (cr_i (cr_i (cr_a (cr_a (cr_a (cr_a vl 0 (vl 4 0) (vl 5 0)) 1 (vl 4 0) x1) 2 (vl 4 0) x2) 3 (vl 4 0) x3) 4 ((vl 4 0) + 1)) 5 ((vl 5 0) + 1))) else none) else (some ((-2000000003), vl))

def f_X4_copyFrom_2  : Nat → cr_V → cr_V → Int32 → Option (cr_V)
  | 0, _, _, _ => none
  | n + 1, vl, vl2, x2 => if 12 ≤ x2 then (some (cr_i (cr_i vl 4 (vl2 4 0)) 5 (vl2 5 0))) else (if cr_in x2 12 = true then f_X4_copyFrom_2 n (cr_a (cr_a (cr_a (cr_a vl 0 x2 (vl2 0 x2.toNatClampNeg)) 1 x2 (vl2 1 x2.toNatClampNeg)) 2 x2 (vl2 2 x2.toNatClampNeg)) 3 x2 (vl2 3 x2.toNatClampNeg)) vl2 (x2 + 1) else none)
def f_X4_copyFrom (vl : cr_V) (vl2 : cr_V)  : Option (cr_V) := f_X4_copyFrom_2 10100 vl vl2 0

def f_X4_dropEmpty_72 (k4_ : cr_V → Int32 → Int32 → Option (cr_V)) (vl : cr_V) (x1 : Int32) (x2 : Int32) : Option (cr_V) := k4_ vl x1 (x2 + 1)
def f_X4_dropEmpty_4  : Nat → cr_V → Int32 → Int32 → Option (cr_V)
  | 0, _, _, _ => none
  | n + 1, vl, x1, x2 => if (vl 4 0) ≤ x2 then (some (cr_i vl 4 x1)) else (if cr_in x2 12 = true then if (vl 1 x2.toNatClampNeg) ≤ 0 then (f_X4_dropEmpty_72 (f_X4_dropEmpty_4 n) vl x1 x2) else (if cr_in x1 12 = true then f_X4_dropEmpty_72 (f_X4_dropEmpty_4 n) (cr_a (cr_a (cr_a (cr_a vl 0 x1 (vl 0 x2.toNatClampNeg)) 1 x1 (vl 1 x2.toNatClampNeg)) 2 x1 (vl 2 x2.toNatClampNeg)) 3 x1 (vl 3 x2.toNatClampNeg)) (x1 + 1) x2 else none) else none)
def f_X4_dropEmpty (vl : cr_V)  : Option (cr_V) := f_X4_dropEmpty_4 10100 vl 0 0

def f_X4_cupAt (vl : cr_V) (x1 : Int32) (x2 : Int32) : Option (Int32) := if cr_in x1 12 = true then if 60 ≤ ((vl 2 x1.toNatClampNeg) - ((x2 - (vl 3 x1.toNatClampNeg)) / 4)) then (some ((vl 2 x1.toNatClampNeg) - ((x2 - (vl 3 x1.toNatClampNeg)) / 4))) else (some 60) else none

def f_X4_monthsTooOld (vl : cr_V) (x1 : Int32) (x2 : Int32) : Option (Int32) := if cr_in x1 12 = true then if 0 ≤ ((x2 - (vl 3 x1.toNatClampNeg)) - 3) then (some ((x2 - (vl 3 x1.toNatClampNeg)) - 3)) else (some 0) else none

def f_X4_allBags_4  : Nat → cr_V → Int32 → Int32 → Option (Int32)
  | 0, _, _, _ => none
  | n + 1, vl, x1, x2 => if (vl 4 0) ≤ x2 then (some x1) else (if cr_in x2 12 = true then f_X4_allBags_4 n vl (x1 + (vl 1 x2.toNatClampNeg)) (x2 + 1) else none)
def f_X4_allBags (vl : cr_V)  : Option (Int32) := f_X4_allBags_4 10100 vl 0 0

def f_X4_bagsToGive_32 (k4_ : cr_V → Int32 → Int32 → Int32 → Option (Int32)) (vl : cr_V) (x1 : Int32) (x2 : Int32) (x3 : Int32) : Option (Int32) := k4_ vl x1 x2 (x3 + 1)
def f_X4_bagsToGive_4  : Nat → cr_V → Int32 → Int32 → Int32 → Option (Int32)
  | 0, _, _, _, _ => none
  | n + 1, vl, x1, x2, x3 => if (vl 4 0) ≤ x3 then (some x2) else ((f_X4_cupAt vl x3 x1).bind fun q2 => if q2 < 70 then (f_X4_bagsToGive_32 (f_X4_bagsToGive_4 n) vl x1 x2 x3) else (if cr_in x3 12 = true then f_X4_bagsToGive_32 (f_X4_bagsToGive_4 n) vl x1 (x2 + (vl 1 x3.toNatClampNeg)) x3 else none))
def f_X4_bagsToGive (vl : cr_V) (x1 : Int32) : Option (Int32) := f_X4_bagsToGive_4 10100 vl x1 0 0

def f_X0_copyFrom_2  : Nat → cr_V → cr_V → Int32 → Option (cr_V)
  | 0, _, _, _ => none
  | n + 1, vk, vk2, x2 => if 6 ≤ x2 then (some (cr_i vk 2 (vk2 2 0))) else (if cr_in x2 6 = true then f_X0_copyFrom_2 n (cr_a (cr_a vk 0 x2 (vk2 0 x2.toNatClampNeg)) 1 x2 (vk2 1 x2.toNatClampNeg)) vk2 (x2 + 1) else none)
def f_X0_copyFrom (vk : cr_V) (vk2 : cr_V)  : Option (cr_V) := f_X0_copyFrom_2 10100 vk vk2 0

def f_X0_isOpen (vk : cr_V) (x1 : Int32) : Option (Int32) := if x1 < 0 then (some 0) else (if (vk 2 0) ≤ x1 then (some 0) else (some 1))

def f_X0_add (vk : cr_V) (x1 : Int32) (x2 : Int32) : Option (Int32 × cr_V) := if (vk 2 0) < 6 then (if cr_in (vk 2 0) 6 = true then some ((((vk 2 0) + 1) - 1), (cr_i (cr_a (cr_a vk 0 (vk 2 0) x1) 1 (vk 2 0) x2) 2 ((vk 2 0) + 1))) else none) else (some ((-2000000003), vk))

def f_X0_drop_13  : Nat → cr_V → Int32 → Option (cr_V)
  | 0, _, _ => none
  | n + 1, vk, x2 => if (vk 2 0) ≤ x2 then (some (cr_i vk 2 ((vk 2 0) - 1))) else (if cr_in x2 6 = true then if cr_in (x2 - 1) 6 = true then f_X0_drop_13 n (cr_a (cr_a vk 0 (x2 - 1) (vk 0 x2.toNatClampNeg)) 1 (x2 - 1) (vk 1 x2.toNatClampNeg)) (x2 + 1) else none else none)
def f_X0_drop (vk : cr_V) (x1 : Int32) : Option (cr_V) := (f_X0_isOpen vk x1).bind fun q4 => if q4 = 0 then (some vk) else (f_X0_drop_13 10100 vk (x1 + 1))

def f_X0_dropBefore_49 (k4_ : cr_V → Int32 → Int32 → Int32 → Option (Int32 × cr_V)) (vk : cr_V) (x1 : Int32) (x2 : Int32) (x3 : Int32) : Option (Int32 × cr_V) := k4_ vk x1 x2 (x3 + 1)
def f_X0_dropBefore_4  : Nat → cr_V → Int32 → Int32 → Int32 → Option (Int32 × cr_V)
  | 0, _, _, _, _ => none
  | n + 1, vk, x1, x2, x3 => if (vk 2 0) ≤ x3 then (some (((vk 2 0) - x2), (cr_i vk 2 x2))) else (if cr_in x3 6 = true then if (vk 0 x3.toNatClampNeg) < x1 then (f_X0_dropBefore_49 (f_X0_dropBefore_4 n) vk x1 x2 x3) else (if cr_in x2 6 = true then f_X0_dropBefore_49 (f_X0_dropBefore_4 n) (cr_a (cr_a vk 0 x2 (vk 0 x3.toNatClampNeg)) 1 x2 (vk 1 x3.toNatClampNeg)) x1 (x2 + 1) x3 else none) else none)
def f_X0_dropBefore (vk : cr_V) (x1 : Int32) : Option (Int32 × cr_V) := f_X0_dropBefore_4 10100 vk x1 0 0
end
section
set_option maxHeartbeats 4000000 in
set_option maxRecDepth 100000 in
theorem m_X4_rowOf (L : Launch) (D : va_G) (ct : Nat → ClassId) (al : Nat → Nat) (vl : cr_V) (x1 : Int32) (out : Int32) (hE : f_X4_rowOf vl x1 = some out) : Met L yX4_rowOf wsX4_rowOf ({ frames := 0, cells := 0, slots := 0, locals := 0 } : Room) (cr_pR D ct (cr_wL ct al vl) [.ref (al 0), .int x1]) (cr_QR (fun r => r = out)) 0 0 cr_no := by
  have k0 : (Cond.fieldLink RX4 24 "CupReceipts$Lots" "size" "I") ∈ wsX4_rowOf := List.mem_of_getElem? (i := 1) rfl
  have k1 : (Cond.fieldLink RX4 9 "CupReceipts$Lots" "numbers" "[I") ∈ wsX4_rowOf := List.mem_of_getElem? (i := 2) rfl
  have hinX4 : ∀ w ∈ wsX40, w ∈ wsX4_rowOf := fun w h => List.mem_cons_of_mem _ (List.mem_append_right _ h)
  refine cr_metR (by decide) rfl rfl (Nat.le_of_ble_eq_true rfl) ?_
  intro p e s m args below meth c ls C hP hS hl
  obtain ⟨hx, hb, hml, hown, hts, hr, hlocks, hK, hN⟩ := id C
  have hl : lv_has ls 3 [(0, .ref (al 0)), (1, .int x1)] := hl
  have n2 :  ∀ (n : Nat), ∀ (vl : cr_V) (x1 : Int32) (x2 : Int32) (hE : f_X4_rowOf_2  n vl x1 x2 = some out) (H : Heap) (locs : List Loc) (ls : Array Slot) (hP : va_P D vwCl (cr_wL ct al vl) H) (hS : va_S cr_no s.heap H locs) (hl : lv_has ls 3 [(0, .ref (al 0)), (1, .int x1), (2, .int x2)]), W p L e ({ frames := 0, cells := 0, slots := 0, locals := 0 } : Room) s m args below meth c H locs 0 0 (MQ below (cr_QR (fun r => r = out)) args s 0 0 cr_no) (F0 m 2 ls []) := by
    intro  n
    induction n with
    | zero =>
      intro vl x1 x2 hE
      cases hE
    | succ n ih =>
      intro vl x1 x2 hE H locs ls hP hS hl
      replace hE : (if (vl 4 0) ≤ x2 then (some (-1)) else (if cr_in x2 12 = true then if (vl 0 x2.toNatClampNeg) = x1 then (some x2) else (f_X4_rowOf_2 n vl x1 (x2 + 1)) else none)) = some out := hE
      refine lv_iload_n hx hb dX4_rowOf_2 rfl (lv_at hl 2 rfl) ?_
      refine lv_aload_n hx hb dX4_rowOf_3 rfl (lv_at hl 0 rfl) ?_
      refine cr_get C hP 0 rfl rfl 4 (by decide) hinX4 k0 (v := .int (vl 4 0)) rfl dX4_rowOf_4 ?_
      refine lv_icmp_ge (tgt := 28) hx hb dX4_rowOf_7 (by decide) (fun c1 => ?_) (fun c1 => ?_)
      · rw [if_pos c1] at hE
        refine lv_iconst (v := (-1)) hx hb dX4_rowOf_28 (by decide) ?_
        exact cr_retR C hS (Option.some.inj hE) dX4_rowOf_29
      · rw [if_neg c1] at hE
        refine lv_aload_n hx hb dX4_rowOf_10 rfl (lv_at hl 0 rfl) ?_
        refine cr_get C hP 0 rfl rfl 0 (by decide) hinX4 k1 (v := .ref (al 1)) rfl dX4_rowOf_11 ?_
        refine lv_iload_n hx hb dX4_rowOf_14 rfl (lv_at hl 2 rfl) ?_
        obtain ⟨i2, hE⟩ := cr_ifn hE
        refine cr_ald C hP 1 (f := vl 0) rfl i2 dX4_rowOf_15 ?_
        refine lv_iload_n hx hb dX4_rowOf_16 rfl (lv_at hl 1 rfl) ?_
        refine lv_icmp_ne (tgt := 22) hx hb dX4_rowOf_17 (by decide) (fun c3 => ?_) (fun c3 => ?_)
        · rw [if_neg c3] at hE
          refine lv_iinc (v := x2 + 1) (lv' := [(2, .int (x2 + 1)), (0, .ref (al 0)), (1, .int x1)]) hx hb dX4_rowOf_22 hl (k := 2) rfl (by first | rfl | decide) (by decide) rfl (fun ls hl => ?_)
          refine lv_goto (tgt := 2) hx hb dX4_rowOf_25 (by decide) ?_
          exact ih vl x1 (x2 + 1) hE _ _ _ hP hS (lv_sub hl [1, 2, 0] rfl)
        · rw [if_pos c3] at hE
          refine lv_iload_n hx hb dX4_rowOf_20 rfl (lv_at hl 2 rfl) ?_
          exact cr_retR C hS (Option.some.inj hE) dX4_rowOf_21
  replace hE : (f_X4_rowOf_2 10100 vl x1 0) = some out := hE
  refine lv_iconst (v := 0) hx hb dX4_rowOf_0 (by decide) ?_
  refine lv_istore_n (lv' := [(2, .int 0), (0, .ref (al 0)), (1, .int x1)]) hx hb dX4_rowOf_1 rfl hl (by decide) rfl (fun ls hl => ?_)
  exact n2 10100 vl x1 0 hE _ _ _ hP hS (lv_sub hl [1, 2, 0] rfl)

set_option maxHeartbeats 4000000 in
set_option maxRecDepth 100000 in
theorem m_X4_isFull (L : Launch) (D : va_G) (ct : Nat → ClassId) (al : Nat → Nat) (vl : cr_V)  (out : Int32) (hE : f_X4_isFull vl = some out) : Met L yX4_isFull wsX4_isFull ({ frames := 0, cells := 0, slots := 0, locals := 0 } : Room) (cr_pR D ct (cr_wL ct al vl) [.ref (al 0)]) (cr_QR (fun r => r = out)) 0 0 cr_no := by
  have k0 : (Cond.fieldLink RX4 24 "CupReceipts$Lots" "size" "I") ∈ wsX4_isFull := List.mem_of_getElem? (i := 1) rfl
  have hinX4 : ∀ w ∈ wsX40, w ∈ wsX4_isFull := fun w h => List.mem_cons_of_mem _ (List.mem_append_right _ h)
  refine cr_metR (by decide) rfl rfl (Nat.le_of_ble_eq_true rfl) ?_
  intro p e s m args below meth c ls C hP hS hl
  obtain ⟨hx, hb, hml, hown, hts, hr, hlocks, hK, hN⟩ := id C
  have hl : lv_has ls 1 [(0, .ref (al 0))] := hl
  replace hE : (if (vl 4 0) < 12 then (some 0) else (some 1)) = some out := hE
  refine lv_aload_n hx hb dX4_isFull_0 rfl (lv_at hl 0 rfl) ?_
  refine cr_get C hP 0 rfl rfl 4 (by decide) hinX4 k0 (v := .int (vl 4 0)) rfl dX4_isFull_1 ?_
  refine lv_bipush (v := 12) hx hb dX4_isFull_4 (by decide) ?_
  refine lv_icmp_lt (tgt := 13) hx hb dX4_isFull_6 (by decide) (fun c1 => ?_) (fun c1 => ?_)
  · rw [if_pos c1] at hE
    refine lv_iconst (v := 0) hx hb dX4_isFull_13 (by decide) ?_
    exact cr_retRz C hS rfl (Option.some.inj hE) dX4_isFull_14
  · rw [if_neg c1] at hE
    refine lv_iconst (v := 1) hx hb dX4_isFull_9 (by decide) ?_
    refine lv_goto (tgt := 14) hx hb dX4_isFull_10 (by decide) ?_
    exact cr_retRz C hS rfl (Option.some.inj hE) dX4_isFull_14

set_option maxHeartbeats 4000000 in
set_option maxRecDepth 100000 in
theorem m_X4_add (L : Launch) (D : va_G) (ct : Nat → ClassId) (al : Nat → Nat) (vl : cr_V) (x1 : Int32) (x2 : Int32) (x3 : Int32) (sz : Nat) (out : Int32 × cr_V) (hE : f_X4_add vl x1 x2 x3 = some out) : Met L yX4_add wsX4_add ({ frames := 1, cells := 0, slots := 0, locals := 20 } : Room) (cr_pW D ct (cr_wL ct al vl) sz [.ref (al 0), .int x1, .int x2, .int x3]) (cr_QW D (cr_wL ct al vl) sz (fun r u => (r, u) = out) (fun u : cr_V => cr_wL ct al u)) 0 0 (va_A (cr_wL ct al vl) sz) := by
  have k0 : (Cond.fieldLink RX4 9 "CupReceipts$Lots" "numbers" "[I") ∈ wsX4_add := List.mem_of_getElem? (i := 2) rfl
  have k1 : (Cond.fieldLink RX4 24 "CupReceipts$Lots" "size" "I") ∈ wsX4_add := List.mem_of_getElem? (i := 3) rfl
  have k2 : (Cond.fieldLink RX4 28 "CupReceipts$Lots" "made" "I") ∈ wsX4_add := List.mem_of_getElem? (i := 4) rfl
  have k3 : (Cond.fieldLink RX4 15 "CupReceipts$Lots" "bags" "[I") ∈ wsX4_add := List.mem_of_getElem? (i := 5) rfl
  have k4 : (Cond.fieldLink RX4 18 "CupReceipts$Lots" "cups" "[I") ∈ wsX4_add := List.mem_of_getElem? (i := 6) rfl
  have k5 : (Cond.fieldLink RX4 21 "CupReceipts$Lots" "months" "[I") ∈ wsX4_add := List.mem_of_getElem? (i := 7) rfl
  have k6 : (Cond.constant RX4 35 (-2000000003)) ∈ wsX4_add := List.mem_of_getElem? (i := 1) rfl
  have hinX4 : ∀ w ∈ wsX40, w ∈ wsX4_add := fun w h => List.mem_cons_of_mem _ (List.mem_append_right _ h)
  refine cr_metW (Qc := fun A => va_Qi (fun r u => (r, u) = out) (fun u t => cr_at D A ((fun u : cr_V => cr_wL ct al u) u) t) A) (by decide) rfl rfl (Nat.le_of_ble_eq_true rfl) ?_
  intro p e s m args below meth c ls A C hW hl
  obtain ⟨hx, hb, hml, hown, hts, hr, hlocks, hK, hN⟩ := id C
  have hl : lv_has ls 4 [(0, .ref (al 0)), (1, .int x1), (2, .int x2), (3, .int x3)] := hl
  replace hE : ((f_X4_isFull vl).bind fun q1 => if q1 = 0 then (if cr_in (vl 4 0) 12 = true then some ((((vl 5 0) + 1) - 1), (cr_i (cr_i (cr_a (cr_a (cr_a (cr_a vl 0 (vl 4 0) (vl 5 0)) 1 (vl 4 0) x1) 2 (vl 4 0) x2) 3 (vl 4 0) x3) 4 ((vl 4 0) + 1)) 5 ((vl 5 0) + 1))) else none) else (some ((-2000000003), vl))) = some out := hE
  refine lv_aload_n hx hb dX4_add_0 rfl (lv_at hl 0 rfl) ?_
  obtain ⟨q1, hq1, hE⟩ := cr_bind hE
  refine cr_vRwq (n := 0) (As := []) (rest := []) C hW (m_X4_isFull L D ct al vl q1 hq1) (cwV 0 hts gX4_add_X4_isFull rfl rfl rfl (by decide +kernel) ⟨Nat.le_of_ble_eq_true rfl, Nat.le_of_ble_eq_true rfl⟩) [0, 1, 2, 3, 4] rfl 0 rfl rfl rfl hl.1 rfl (Nat.le_of_ble_eq_true rfl) dX4_add_1 ⟨Nat.zero_le _, Nat.zero_le _⟩ (fun H locs hW => ?_)
  refine lv_if_eq (tgt := 10) hx hb dX4_add_4 (by decide) (fun c2 => ?_) (fun c2 => ?_)
  · rw [if_pos c2] at hE
    refine lv_aload_n hx hb dX4_add_10 rfl (lv_at hl 0 rfl) ?_
    refine cr_get C hW.1 0 rfl rfl 0 (by decide) hinX4 k0 (v := .ref (al 1)) rfl dX4_add_11 ?_
    refine lv_aload_n hx hb dX4_add_14 rfl (lv_at hl 0 rfl) ?_
    refine cr_get C hW.1 0 rfl rfl 4 (by decide) hinX4 k1 (v := .int (vl 4 0)) rfl dX4_add_15 ?_
    refine lv_aload_n hx hb dX4_add_18 rfl (lv_at hl 0 rfl) ?_
    refine cr_get C hW.1 0 rfl rfl 5 (by decide) hinX4 k2 (v := .int (vl 5 0)) rfl dX4_add_19 ?_
    obtain ⟨i3, hE⟩ := cr_ifn hE
    refine cr_ast C hW 1 rfl i3 (w' := cr_wL ct al (cr_a vl 0 (vl 4 0) (vl 5 0))) rfl dX4_add_22 (fun H locs hW => ?_)
    refine lv_aload_n hx hb dX4_add_23 rfl (lv_at hl 0 rfl) ?_
    refine cr_get C hW.1 0 rfl rfl 1 (by decide) hinX4 k3 (v := .ref (al 2)) rfl dX4_add_24 ?_
    refine lv_aload_n hx hb dX4_add_27 rfl (lv_at hl 0 rfl) ?_
    refine cr_get C hW.1 0 rfl rfl 4 (by decide) hinX4 k1 (v := .int (vl 4 0)) rfl dX4_add_28 ?_
    refine lv_iload_n hx hb dX4_add_31 rfl (lv_at hl 1 rfl) ?_
    refine cr_ast C hW 2 rfl i3 (w' := cr_wL ct al (cr_a (cr_a vl 0 (vl 4 0) (vl 5 0)) 1 (vl 4 0) x1)) rfl dX4_add_32 (fun H locs hW => ?_)
    refine lv_aload_n hx hb dX4_add_33 rfl (lv_at hl 0 rfl) ?_
    refine cr_get C hW.1 0 rfl rfl 2 (by decide) hinX4 k4 (v := .ref (al 3)) rfl dX4_add_34 ?_
    refine lv_aload_n hx hb dX4_add_37 rfl (lv_at hl 0 rfl) ?_
    refine cr_get C hW.1 0 rfl rfl 4 (by decide) hinX4 k1 (v := .int (vl 4 0)) rfl dX4_add_38 ?_
    refine lv_iload_n hx hb dX4_add_41 rfl (lv_at hl 2 rfl) ?_
    refine cr_ast C hW 3 rfl i3 (w' := cr_wL ct al (cr_a (cr_a (cr_a vl 0 (vl 4 0) (vl 5 0)) 1 (vl 4 0) x1) 2 (vl 4 0) x2)) rfl dX4_add_42 (fun H locs hW => ?_)
    refine lv_aload_n hx hb dX4_add_43 rfl (lv_at hl 0 rfl) ?_
    refine cr_get C hW.1 0 rfl rfl 3 (by decide) hinX4 k5 (v := .ref (al 4)) rfl dX4_add_44 ?_
    refine lv_aload_n hx hb dX4_add_47 rfl (lv_at hl 0 rfl) ?_
    refine cr_get C hW.1 0 rfl rfl 4 (by decide) hinX4 k1 (v := .int (vl 4 0)) rfl dX4_add_48 ?_
    refine lv_iload_n hx hb dX4_add_51 rfl (lv_at hl 3 rfl) ?_
    refine cr_ast C hW 4 rfl i3 (w' := cr_wL ct al (cr_a (cr_a (cr_a (cr_a vl 0 (vl 4 0) (vl 5 0)) 1 (vl 4 0) x1) 2 (vl 4 0) x2) 3 (vl 4 0) x3)) rfl dX4_add_52 (fun H locs hW => ?_)
    refine lv_aload_n hx hb dX4_add_53 rfl (lv_at hl 0 rfl) ?_
    refine lv_dup hx hb dX4_add_54 rfl ?_
    refine cr_get C hW.1 0 rfl rfl 4 (by decide) hinX4 k1 (v := .int (vl 4 0)) rfl dX4_add_55 ?_
    refine lv_iconst (v := 1) hx hb dX4_add_58 (by decide) ?_
    refine lv_iadd hx hb dX4_add_59 ?_
    refine cr_put C hW 0 rfl rfl tyX4 tyX4_ok nmX4 4 (by decide) hinX4 k1 rfl rfl rfl rfl (Nat.le_of_ble_eq_true rfl) (w' := cr_wL ct al (cr_i (cr_a (cr_a (cr_a (cr_a vl 0 (vl 4 0) (vl 5 0)) 1 (vl 4 0) x1) 2 (vl 4 0) x2) 3 (vl 4 0) x3) 4 ((vl 4 0) + 1))) rfl dX4_add_60 (fun H locs hW => ?_)
    refine lv_aload_n hx hb dX4_add_63 rfl (lv_at hl 0 rfl) ?_
    refine lv_dup hx hb dX4_add_64 rfl ?_
    refine cr_get C hW.1 0 rfl rfl 5 (by decide) hinX4 k2 (v := .int (vl 5 0)) rfl dX4_add_65 ?_
    refine lv_iconst (v := 1) hx hb dX4_add_68 (by decide) ?_
    refine lv_iadd hx hb dX4_add_69 ?_
    refine cr_put C hW 0 rfl rfl tyX4 tyX4_ok nmX4 5 (by decide) hinX4 k2 rfl rfl rfl rfl (Nat.le_of_ble_eq_true rfl) (w' := cr_wL ct al (cr_i (cr_i (cr_a (cr_a (cr_a (cr_a vl 0 (vl 4 0) (vl 5 0)) 1 (vl 4 0) x1) 2 (vl 4 0) x2) 3 (vl 4 0) x3) 4 ((vl 4 0) + 1)) 5 ((vl 5 0) + 1))) rfl dX4_add_70 (fun H locs hW => ?_)
    refine lv_aload_n hx hb dX4_add_73 rfl (lv_at hl 0 rfl) ?_
    refine cr_get C hW.1 0 rfl rfl 5 (by decide) hinX4 k2 (v := .int ((vl 5 0) + 1)) rfl dX4_add_74 ?_
    refine lv_iconst (v := 1) hx hb dX4_add_77 (by decide) ?_
    refine lv_isub hx hb dX4_add_78 ?_
    exact cr_retW C (w := (fun u : cr_V => cr_wL ct al u)) (cr_i (cr_i (cr_a (cr_a (cr_a (cr_a vl 0 (vl 4 0) (vl 5 0)) 1 (vl 4 0) x1) 2 (vl 4 0) x2) 3 (vl 4 0) x3) 4 ((vl 4 0) + 1)) 5 ((vl 5 0) + 1)) hW (Option.some.inj hE) dX4_add_79
  · rw [if_neg c2] at hE
    refine cr_ldc C k6 dX4_add_7 ?_
    exact cr_retW C (w := (fun u : cr_V => cr_wL ct al u)) vl hW (Option.some.inj hE) dX4_add_9

set_option maxHeartbeats 4000000 in
set_option maxRecDepth 100000 in
theorem m_X4_copyFrom (L : Launch) (D : va_G) (ct : Nat → ClassId) (al : Nat → Nat) (al2 : Nat → Nat) (vl : cr_V) (vl2 : cr_V)  (sz : Nat) (out : cr_V) (hE : f_X4_copyFrom vl vl2 = some out) : Met L yX4_copyFrom wsX4_copyFrom ({ frames := 0, cells := 0, slots := 0, locals := 0 } : Room) (cr_pW D ct (cr_wL ct al vl ++ cr_wL ct al2 vl2) sz [.ref (al 0), .ref (al2 0)]) (cr_QV D (cr_wL ct al vl ++ cr_wL ct al2 vl2) sz (fun u => u = out) (fun u : cr_V => cr_wL ct al u ++ cr_wL ct al2 vl2)) 0 0 (va_A (cr_wL ct al vl ++ cr_wL ct al2 vl2) sz) := by
  have k0 : (Cond.fieldLink RX4 24 "CupReceipts$Lots" "size" "I") ∈ wsX4_copyFrom := List.mem_of_getElem? (i := 5) rfl
  have k1 : (Cond.fieldLink RX4 28 "CupReceipts$Lots" "made" "I") ∈ wsX4_copyFrom := List.mem_of_getElem? (i := 6) rfl
  have k2 : (Cond.fieldLink RX4 9 "CupReceipts$Lots" "numbers" "[I") ∈ wsX4_copyFrom := List.mem_of_getElem? (i := 1) rfl
  have k3 : (Cond.fieldLink RX4 15 "CupReceipts$Lots" "bags" "[I") ∈ wsX4_copyFrom := List.mem_of_getElem? (i := 2) rfl
  have k4 : (Cond.fieldLink RX4 18 "CupReceipts$Lots" "cups" "[I") ∈ wsX4_copyFrom := List.mem_of_getElem? (i := 3) rfl
  have k5 : (Cond.fieldLink RX4 21 "CupReceipts$Lots" "months" "[I") ∈ wsX4_copyFrom := List.mem_of_getElem? (i := 4) rfl
  have hinX4 : ∀ w ∈ wsX40, w ∈ wsX4_copyFrom := fun w h => List.mem_cons_of_mem _ (List.mem_append_right _ h)
  refine cr_metW (Qc := fun A => va_Qv (fun u => u = out) (fun u t => cr_at D A ((fun u : cr_V => cr_wL ct al u ++ cr_wL ct al2 vl2) u) t) A) (by decide) rfl rfl (Nat.le_of_ble_eq_true rfl) ?_
  intro p e s m args below meth c ls A C hW hl
  obtain ⟨hx, hb, hml, hown, hts, hr, hlocks, hK, hN⟩ := id C
  have hl : lv_has ls 3 [(0, .ref (al 0)), (1, .ref (al2 0))] := hl
  have n2 :  ∀ (n : Nat), ∀ (vl : cr_V) (vl2 : cr_V) (x2 : Int32) (hE : f_X4_copyFrom_2  n vl vl2 x2 = some out) (H : Heap) (locs : List Loc) (ls : Array Slot) (hW : cr_wd D A s (cr_wL ct al vl ++ cr_wL ct al2 vl2) H locs) (hl : lv_has ls 3 [(0, .ref (al 0)), (1, .ref (al2 0)), (2, .int x2)]), W p L e ({ frames := 0, cells := 0, slots := 0, locals := 0 } : Room) s m args below meth c H locs 0 0 (MQ below (va_Qv (fun u => u = out) (fun u t => cr_at D A ((fun u : cr_V => cr_wL ct al u ++ cr_wL ct al2 vl2) u) t) A) args s 0 0 A) (F0 m 2 ls []) := by
    intro  n
    induction n with
    | zero =>
      intro vl vl2 x2 hE
      cases hE
    | succ n ih =>
      intro vl vl2 x2 hE H locs ls hW hl
      replace hE : (if 12 ≤ x2 then (some (cr_i (cr_i vl 4 (vl2 4 0)) 5 (vl2 5 0))) else (if cr_in x2 12 = true then f_X4_copyFrom_2 n (cr_a (cr_a (cr_a (cr_a vl 0 x2 (vl2 0 x2.toNatClampNeg)) 1 x2 (vl2 1 x2.toNatClampNeg)) 2 x2 (vl2 2 x2.toNatClampNeg)) 3 x2 (vl2 3 x2.toNatClampNeg)) vl2 (x2 + 1) else none)) = some out := hE
      refine lv_iload_n hx hb dX4_copyFrom_2 rfl (lv_at hl 2 rfl) ?_
      refine lv_bipush (v := 12) hx hb dX4_copyFrom_3 (by decide) ?_
      refine lv_icmp_ge (tgt := 62) hx hb dX4_copyFrom_5 (by decide) (fun c1 => ?_) (fun c1 => ?_)
      · rw [if_pos c1] at hE
        refine lv_aload_n hx hb dX4_copyFrom_62 rfl (lv_at hl 0 rfl) ?_
        refine lv_aload_n hx hb dX4_copyFrom_63 rfl (lv_at hl 1 rfl) ?_
        refine cr_get C hW.1 5 rfl rfl 4 (by decide) hinX4 k0 (v := .int (vl2 4 0)) rfl dX4_copyFrom_64 ?_
        refine cr_put C hW 0 rfl rfl tyX4 tyX4_ok nmX4 4 (by decide) hinX4 k0 rfl rfl rfl rfl (Nat.le_of_ble_eq_true rfl) (w' := cr_wL ct al (cr_i vl 4 (vl2 4 0)) ++ cr_wL ct al2 vl2) rfl dX4_copyFrom_67 (fun H locs hW => ?_)
        refine lv_aload_n hx hb dX4_copyFrom_70 rfl (lv_at hl 0 rfl) ?_
        refine lv_aload_n hx hb dX4_copyFrom_71 rfl (lv_at hl 1 rfl) ?_
        refine cr_get C hW.1 5 rfl rfl 5 (by decide) hinX4 k1 (v := .int (vl2 5 0)) rfl dX4_copyFrom_72 ?_
        refine cr_put C hW 0 rfl rfl tyX4 tyX4_ok nmX4 5 (by decide) hinX4 k1 rfl rfl rfl rfl (Nat.le_of_ble_eq_true rfl) (w' := cr_wL ct al (cr_i (cr_i vl 4 (vl2 4 0)) 5 (vl2 5 0)) ++ cr_wL ct al2 vl2) rfl dX4_copyFrom_75 (fun H locs hW => ?_)
        exact cr_retV C (w := (fun u : cr_V => cr_wL ct al u ++ cr_wL ct al2 vl2)) (cr_i (cr_i vl 4 (vl2 4 0)) 5 (vl2 5 0)) hW (Option.some.inj hE) dX4_copyFrom_78
      · rw [if_neg c1] at hE
        refine lv_aload_n hx hb dX4_copyFrom_8 rfl (lv_at hl 0 rfl) ?_
        refine cr_get C hW.1 0 rfl rfl 0 (by decide) hinX4 k2 (v := .ref (al 1)) rfl dX4_copyFrom_9 ?_
        refine lv_iload_n hx hb dX4_copyFrom_12 rfl (lv_at hl 2 rfl) ?_
        refine lv_aload_n hx hb dX4_copyFrom_13 rfl (lv_at hl 1 rfl) ?_
        refine cr_get C hW.1 5 rfl rfl 0 (by decide) hinX4 k2 (v := .ref (al2 1)) rfl dX4_copyFrom_14 ?_
        refine lv_iload_n hx hb dX4_copyFrom_17 rfl (lv_at hl 2 rfl) ?_
        obtain ⟨i2, hE⟩ := cr_ifn hE
        refine cr_ald C hW.1 6 (f := vl2 0) rfl i2 dX4_copyFrom_18 ?_
        refine cr_ast C hW 1 rfl i2 (w' := cr_wL ct al (cr_a vl 0 x2 (vl2 0 x2.toNatClampNeg)) ++ cr_wL ct al2 vl2) rfl dX4_copyFrom_19 (fun H locs hW => ?_)
        refine lv_aload_n hx hb dX4_copyFrom_20 rfl (lv_at hl 0 rfl) ?_
        refine cr_get C hW.1 0 rfl rfl 1 (by decide) hinX4 k3 (v := .ref (al 2)) rfl dX4_copyFrom_21 ?_
        refine lv_iload_n hx hb dX4_copyFrom_24 rfl (lv_at hl 2 rfl) ?_
        refine lv_aload_n hx hb dX4_copyFrom_25 rfl (lv_at hl 1 rfl) ?_
        refine cr_get C hW.1 5 rfl rfl 1 (by decide) hinX4 k3 (v := .ref (al2 2)) rfl dX4_copyFrom_26 ?_
        refine lv_iload_n hx hb dX4_copyFrom_29 rfl (lv_at hl 2 rfl) ?_
        refine cr_ald C hW.1 7 (f := vl2 1) rfl i2 dX4_copyFrom_30 ?_
        refine cr_ast C hW 2 rfl i2 (w' := cr_wL ct al (cr_a (cr_a vl 0 x2 (vl2 0 x2.toNatClampNeg)) 1 x2 (vl2 1 x2.toNatClampNeg)) ++ cr_wL ct al2 vl2) rfl dX4_copyFrom_31 (fun H locs hW => ?_)
        refine lv_aload_n hx hb dX4_copyFrom_32 rfl (lv_at hl 0 rfl) ?_
        refine cr_get C hW.1 0 rfl rfl 2 (by decide) hinX4 k4 (v := .ref (al 3)) rfl dX4_copyFrom_33 ?_
        refine lv_iload_n hx hb dX4_copyFrom_36 rfl (lv_at hl 2 rfl) ?_
        refine lv_aload_n hx hb dX4_copyFrom_37 rfl (lv_at hl 1 rfl) ?_
        refine cr_get C hW.1 5 rfl rfl 2 (by decide) hinX4 k4 (v := .ref (al2 3)) rfl dX4_copyFrom_38 ?_
        refine lv_iload_n hx hb dX4_copyFrom_41 rfl (lv_at hl 2 rfl) ?_
        refine cr_ald C hW.1 8 (f := vl2 2) rfl i2 dX4_copyFrom_42 ?_
        refine cr_ast C hW 3 rfl i2 (w' := cr_wL ct al (cr_a (cr_a (cr_a vl 0 x2 (vl2 0 x2.toNatClampNeg)) 1 x2 (vl2 1 x2.toNatClampNeg)) 2 x2 (vl2 2 x2.toNatClampNeg)) ++ cr_wL ct al2 vl2) rfl dX4_copyFrom_43 (fun H locs hW => ?_)
        refine lv_aload_n hx hb dX4_copyFrom_44 rfl (lv_at hl 0 rfl) ?_
        refine cr_get C hW.1 0 rfl rfl 3 (by decide) hinX4 k5 (v := .ref (al 4)) rfl dX4_copyFrom_45 ?_
        refine lv_iload_n hx hb dX4_copyFrom_48 rfl (lv_at hl 2 rfl) ?_
        refine lv_aload_n hx hb dX4_copyFrom_49 rfl (lv_at hl 1 rfl) ?_
        refine cr_get C hW.1 5 rfl rfl 3 (by decide) hinX4 k5 (v := .ref (al2 4)) rfl dX4_copyFrom_50 ?_
        refine lv_iload_n hx hb dX4_copyFrom_53 rfl (lv_at hl 2 rfl) ?_
        refine cr_ald C hW.1 9 (f := vl2 3) rfl i2 dX4_copyFrom_54 ?_
        refine cr_ast C hW 4 rfl i2 (w' := cr_wL ct al (cr_a (cr_a (cr_a (cr_a vl 0 x2 (vl2 0 x2.toNatClampNeg)) 1 x2 (vl2 1 x2.toNatClampNeg)) 2 x2 (vl2 2 x2.toNatClampNeg)) 3 x2 (vl2 3 x2.toNatClampNeg)) ++ cr_wL ct al2 vl2) rfl dX4_copyFrom_55 (fun H locs hW => ?_)
        refine lv_iinc (v := x2 + 1) (lv' := [(2, .int (x2 + 1)), (0, .ref (al 0)), (1, .ref (al2 0))]) hx hb dX4_copyFrom_56 hl (k := 2) rfl (by first | rfl | decide) (by decide) rfl (fun ls hl => ?_)
        refine lv_goto (tgt := 2) hx hb dX4_copyFrom_59 (by decide) ?_
        exact ih (cr_a (cr_a (cr_a (cr_a vl 0 x2 (vl2 0 x2.toNatClampNeg)) 1 x2 (vl2 1 x2.toNatClampNeg)) 2 x2 (vl2 2 x2.toNatClampNeg)) 3 x2 (vl2 3 x2.toNatClampNeg)) vl2 (x2 + 1) hE _ _ _ hW (lv_sub hl [1, 2, 0] rfl)
  replace hE : (f_X4_copyFrom_2 10100 vl vl2 0) = some out := hE
  refine lv_iconst (v := 0) hx hb dX4_copyFrom_0 (by decide) ?_
  refine lv_istore_n (lv' := [(2, .int 0), (0, .ref (al 0)), (1, .ref (al2 0))]) hx hb dX4_copyFrom_1 rfl hl (by decide) rfl (fun ls hl => ?_)
  exact n2 10100 vl vl2 0 hE _ _ _ hW (lv_sub hl [1, 2, 0] rfl)

set_option maxHeartbeats 4000000 in
set_option maxRecDepth 100000 in
theorem m_X4_dropEmpty (L : Launch) (D : va_G) (ct : Nat → ClassId) (al : Nat → Nat) (vl : cr_V)  (sz : Nat) (out : cr_V) (hE : f_X4_dropEmpty vl = some out) : Met L yX4_dropEmpty wsX4_dropEmpty ({ frames := 0, cells := 0, slots := 0, locals := 0 } : Room) (cr_pW D ct (cr_wL ct al vl) sz [.ref (al 0)]) (cr_QV D (cr_wL ct al vl) sz (fun u => u = out) (fun u : cr_V => cr_wL ct al u)) 0 0 (va_A (cr_wL ct al vl) sz) := by
  have k0 : (Cond.fieldLink RX4 24 "CupReceipts$Lots" "size" "I") ∈ wsX4_dropEmpty := List.mem_of_getElem? (i := 1) rfl
  have k1 : (Cond.fieldLink RX4 15 "CupReceipts$Lots" "bags" "[I") ∈ wsX4_dropEmpty := List.mem_of_getElem? (i := 2) rfl
  have k2 : (Cond.fieldLink RX4 9 "CupReceipts$Lots" "numbers" "[I") ∈ wsX4_dropEmpty := List.mem_of_getElem? (i := 3) rfl
  have k3 : (Cond.fieldLink RX4 18 "CupReceipts$Lots" "cups" "[I") ∈ wsX4_dropEmpty := List.mem_of_getElem? (i := 4) rfl
  have k4 : (Cond.fieldLink RX4 21 "CupReceipts$Lots" "months" "[I") ∈ wsX4_dropEmpty := List.mem_of_getElem? (i := 5) rfl
  have hinX4 : ∀ w ∈ wsX40, w ∈ wsX4_dropEmpty := fun w h => List.mem_cons_of_mem _ (List.mem_append_right _ h)
  refine cr_metW (Qc := fun A => va_Qv (fun u => u = out) (fun u t => cr_at D A ((fun u : cr_V => cr_wL ct al u) u) t) A) (by decide) rfl rfl (Nat.le_of_ble_eq_true rfl) ?_
  intro p e s m args below meth c ls A C hW hl
  obtain ⟨hx, hb, hml, hown, hts, hr, hlocks, hK, hN⟩ := id C
  have hl : lv_has ls 3 [(0, .ref (al 0))] := hl
  have n72 : ∀ (k4_ : cr_V → Int32 → Int32 → Option (cr_V)) (ih4_ : ∀ (vl : cr_V) (x1 : Int32) (x2 : Int32) (hE : k4_ vl x1 x2 = some out) (H : Heap) (locs : List Loc) (ls : Array Slot) (hW : cr_wd D A s (cr_wL ct al vl) H locs) (hl : lv_has ls 3 [(0, .ref (al 0)), (1, .int x1), (2, .int x2)]), W p L e ({ frames := 0, cells := 0, slots := 0, locals := 0 } : Room) s m args below meth c H locs 0 0 (MQ below (va_Qv (fun u => u = out) (fun u t => cr_at D A ((fun u : cr_V => cr_wL ct al u) u) t) A) args s 0 0 A) (F0 m 4 ls [])), ∀ (vl : cr_V) (x1 : Int32) (x2 : Int32) (hE : f_X4_dropEmpty_72 k4_ vl x1 x2 = some out) (H : Heap) (locs : List Loc) (ls : Array Slot) (hW : cr_wd D A s (cr_wL ct al vl) H locs) (hl : lv_has ls 3 [(0, .ref (al 0)), (1, .int x1), (2, .int x2)]), W p L e ({ frames := 0, cells := 0, slots := 0, locals := 0 } : Room) s m args below meth c H locs 0 0 (MQ below (va_Qv (fun u => u = out) (fun u t => cr_at D A ((fun u : cr_V => cr_wL ct al u) u) t) A) args s 0 0 A) (F0 m 72 ls []) := by
    intro k4_ ih4_ vl x1 x2 hE H locs ls hW hl
    replace hE : (k4_ vl x1 (x2 + 1)) = some out := hE
    refine lv_iinc (v := x2 + 1) (lv' := [(2, .int (x2 + 1)), (0, .ref (al 0)), (1, .int x1)]) hx hb dX4_dropEmpty_72 hl (k := 2) rfl (by first | rfl | decide) (by decide) rfl (fun ls hl => ?_)
    refine lv_goto (tgt := 4) hx hb dX4_dropEmpty_75 (by decide) ?_
    exact ih4_ vl x1 (x2 + 1) hE _ _ _ hW (lv_sub hl [1, 2, 0] rfl)
  have n4 :  ∀ (n : Nat), ∀ (vl : cr_V) (x1 : Int32) (x2 : Int32) (hE : f_X4_dropEmpty_4  n vl x1 x2 = some out) (H : Heap) (locs : List Loc) (ls : Array Slot) (hW : cr_wd D A s (cr_wL ct al vl) H locs) (hl : lv_has ls 3 [(0, .ref (al 0)), (1, .int x1), (2, .int x2)]), W p L e ({ frames := 0, cells := 0, slots := 0, locals := 0 } : Room) s m args below meth c H locs 0 0 (MQ below (va_Qv (fun u => u = out) (fun u t => cr_at D A ((fun u : cr_V => cr_wL ct al u) u) t) A) args s 0 0 A) (F0 m 4 ls []) := by
    intro  n
    induction n with
    | zero =>
      intro vl x1 x2 hE
      cases hE
    | succ n ih =>
      intro vl x1 x2 hE H locs ls hW hl
      replace hE : (if (vl 4 0) ≤ x2 then (some (cr_i vl 4 x1)) else (if cr_in x2 12 = true then if (vl 1 x2.toNatClampNeg) ≤ 0 then (f_X4_dropEmpty_72 (f_X4_dropEmpty_4 n) vl x1 x2) else (if cr_in x1 12 = true then f_X4_dropEmpty_72 (f_X4_dropEmpty_4 n) (cr_a (cr_a (cr_a (cr_a vl 0 x1 (vl 0 x2.toNatClampNeg)) 1 x1 (vl 1 x2.toNatClampNeg)) 2 x1 (vl 2 x2.toNatClampNeg)) 3 x1 (vl 3 x2.toNatClampNeg)) (x1 + 1) x2 else none) else none)) = some out := hE
      refine lv_iload_n hx hb dX4_dropEmpty_4 rfl (lv_at hl 2 rfl) ?_
      refine lv_aload_n hx hb dX4_dropEmpty_5 rfl (lv_at hl 0 rfl) ?_
      refine cr_get C hW.1 0 rfl rfl 4 (by decide) hinX4 k0 (v := .int (vl 4 0)) rfl dX4_dropEmpty_6 ?_
      refine lv_icmp_ge (tgt := 78) hx hb dX4_dropEmpty_9 (by decide) (fun c1 => ?_) (fun c1 => ?_)
      · rw [if_pos c1] at hE
        refine lv_aload_n hx hb dX4_dropEmpty_78 rfl (lv_at hl 0 rfl) ?_
        refine lv_iload_n hx hb dX4_dropEmpty_79 rfl (lv_at hl 1 rfl) ?_
        refine cr_put C hW 0 rfl rfl tyX4 tyX4_ok nmX4 4 (by decide) hinX4 k0 rfl rfl rfl rfl (Nat.le_of_ble_eq_true rfl) (w' := cr_wL ct al (cr_i vl 4 x1)) rfl dX4_dropEmpty_80 (fun H locs hW => ?_)
        exact cr_retV C (w := (fun u : cr_V => cr_wL ct al u)) (cr_i vl 4 x1) hW (Option.some.inj hE) dX4_dropEmpty_83
      · rw [if_neg c1] at hE
        refine lv_aload_n hx hb dX4_dropEmpty_12 rfl (lv_at hl 0 rfl) ?_
        refine cr_get C hW.1 0 rfl rfl 1 (by decide) hinX4 k1 (v := .ref (al 2)) rfl dX4_dropEmpty_13 ?_
        refine lv_iload_n hx hb dX4_dropEmpty_16 rfl (lv_at hl 2 rfl) ?_
        obtain ⟨i2, hE⟩ := cr_ifn hE
        refine cr_ald C hW.1 2 (f := vl 1) rfl i2 dX4_dropEmpty_17 ?_
        refine lv_if_le (tgt := 72) hx hb dX4_dropEmpty_18 (by decide) (fun c3 => ?_) (fun c3 => ?_)
        · rw [if_pos c3] at hE
          exact n72 (f_X4_dropEmpty_4 n) ih vl x1 x2 hE _ _ _ hW (lv_sub hl [0, 1, 2] rfl)
        · rw [if_neg c3] at hE
          refine lv_aload_n hx hb dX4_dropEmpty_21 rfl (lv_at hl 0 rfl) ?_
          refine cr_get C hW.1 0 rfl rfl 0 (by decide) hinX4 k2 (v := .ref (al 1)) rfl dX4_dropEmpty_22 ?_
          refine lv_iload_n hx hb dX4_dropEmpty_25 rfl (lv_at hl 1 rfl) ?_
          refine lv_aload_n hx hb dX4_dropEmpty_26 rfl (lv_at hl 0 rfl) ?_
          refine cr_get C hW.1 0 rfl rfl 0 (by decide) hinX4 k2 (v := .ref (al 1)) rfl dX4_dropEmpty_27 ?_
          refine lv_iload_n hx hb dX4_dropEmpty_30 rfl (lv_at hl 2 rfl) ?_
          refine cr_ald C hW.1 1 (f := vl 0) rfl i2 dX4_dropEmpty_31 ?_
          obtain ⟨i4, hE⟩ := cr_ifn hE
          refine cr_ast C hW 1 rfl i4 (w' := cr_wL ct al (cr_a vl 0 x1 (vl 0 x2.toNatClampNeg))) rfl dX4_dropEmpty_32 (fun H locs hW => ?_)
          refine lv_aload_n hx hb dX4_dropEmpty_33 rfl (lv_at hl 0 rfl) ?_
          refine cr_get C hW.1 0 rfl rfl 1 (by decide) hinX4 k1 (v := .ref (al 2)) rfl dX4_dropEmpty_34 ?_
          refine lv_iload_n hx hb dX4_dropEmpty_37 rfl (lv_at hl 1 rfl) ?_
          refine lv_aload_n hx hb dX4_dropEmpty_38 rfl (lv_at hl 0 rfl) ?_
          refine cr_get C hW.1 0 rfl rfl 1 (by decide) hinX4 k1 (v := .ref (al 2)) rfl dX4_dropEmpty_39 ?_
          refine lv_iload_n hx hb dX4_dropEmpty_42 rfl (lv_at hl 2 rfl) ?_
          refine cr_ald C hW.1 2 (f := vl 1) rfl i2 dX4_dropEmpty_43 ?_
          refine cr_ast C hW 2 rfl i4 (w' := cr_wL ct al (cr_a (cr_a vl 0 x1 (vl 0 x2.toNatClampNeg)) 1 x1 (vl 1 x2.toNatClampNeg))) rfl dX4_dropEmpty_44 (fun H locs hW => ?_)
          refine lv_aload_n hx hb dX4_dropEmpty_45 rfl (lv_at hl 0 rfl) ?_
          refine cr_get C hW.1 0 rfl rfl 2 (by decide) hinX4 k3 (v := .ref (al 3)) rfl dX4_dropEmpty_46 ?_
          refine lv_iload_n hx hb dX4_dropEmpty_49 rfl (lv_at hl 1 rfl) ?_
          refine lv_aload_n hx hb dX4_dropEmpty_50 rfl (lv_at hl 0 rfl) ?_
          refine cr_get C hW.1 0 rfl rfl 2 (by decide) hinX4 k3 (v := .ref (al 3)) rfl dX4_dropEmpty_51 ?_
          refine lv_iload_n hx hb dX4_dropEmpty_54 rfl (lv_at hl 2 rfl) ?_
          refine cr_ald C hW.1 3 (f := vl 2) rfl i2 dX4_dropEmpty_55 ?_
          refine cr_ast C hW 3 rfl i4 (w' := cr_wL ct al (cr_a (cr_a (cr_a vl 0 x1 (vl 0 x2.toNatClampNeg)) 1 x1 (vl 1 x2.toNatClampNeg)) 2 x1 (vl 2 x2.toNatClampNeg))) rfl dX4_dropEmpty_56 (fun H locs hW => ?_)
          refine lv_aload_n hx hb dX4_dropEmpty_57 rfl (lv_at hl 0 rfl) ?_
          refine cr_get C hW.1 0 rfl rfl 3 (by decide) hinX4 k4 (v := .ref (al 4)) rfl dX4_dropEmpty_58 ?_
          refine lv_iload_n hx hb dX4_dropEmpty_61 rfl (lv_at hl 1 rfl) ?_
          refine lv_aload_n hx hb dX4_dropEmpty_62 rfl (lv_at hl 0 rfl) ?_
          refine cr_get C hW.1 0 rfl rfl 3 (by decide) hinX4 k4 (v := .ref (al 4)) rfl dX4_dropEmpty_63 ?_
          refine lv_iload_n hx hb dX4_dropEmpty_66 rfl (lv_at hl 2 rfl) ?_
          refine cr_ald C hW.1 4 (f := vl 3) rfl i2 dX4_dropEmpty_67 ?_
          refine cr_ast C hW 4 rfl i4 (w' := cr_wL ct al (cr_a (cr_a (cr_a (cr_a vl 0 x1 (vl 0 x2.toNatClampNeg)) 1 x1 (vl 1 x2.toNatClampNeg)) 2 x1 (vl 2 x2.toNatClampNeg)) 3 x1 (vl 3 x2.toNatClampNeg))) rfl dX4_dropEmpty_68 (fun H locs hW => ?_)
          refine lv_iinc (v := x1 + 1) (lv' := [(1, .int (x1 + 1)), (0, .ref (al 0)), (2, .int x2)]) hx hb dX4_dropEmpty_69 hl (k := 1) rfl (by first | rfl | decide) (by decide) rfl (fun ls hl => ?_)
          exact n72 (f_X4_dropEmpty_4 n) ih (cr_a (cr_a (cr_a (cr_a vl 0 x1 (vl 0 x2.toNatClampNeg)) 1 x1 (vl 1 x2.toNatClampNeg)) 2 x1 (vl 2 x2.toNatClampNeg)) 3 x1 (vl 3 x2.toNatClampNeg)) (x1 + 1) x2 hE _ _ _ hW (lv_sub hl [1, 0, 2] rfl)
  replace hE : (f_X4_dropEmpty_4 10100 vl 0 0) = some out := hE
  refine lv_iconst (v := 0) hx hb dX4_dropEmpty_0 (by decide) ?_
  refine lv_istore_n (lv' := [(1, .int 0), (0, .ref (al 0))]) hx hb dX4_dropEmpty_1 rfl hl (by decide) rfl (fun ls hl => ?_)
  refine lv_iconst (v := 0) hx hb dX4_dropEmpty_2 (by decide) ?_
  refine lv_istore_n (lv' := [(2, .int 0), (1, .int 0), (0, .ref (al 0))]) hx hb dX4_dropEmpty_3 rfl hl (by decide) rfl (fun ls hl => ?_)
  exact n4 10100 vl 0 0 hE _ _ _ hW (lv_sub hl [2, 1, 0] rfl)

set_option maxHeartbeats 4000000 in
set_option maxRecDepth 100000 in
theorem m_X4_cupAt (L : Launch) (D : va_G) (ct : Nat → ClassId) (al : Nat → Nat) (vl : cr_V) (x1 : Int32) (x2 : Int32) (out : Int32) (hE : f_X4_cupAt vl x1 x2 = some out) : Met L yX4_cupAt wsX4_cupAt ({ frames := 0, cells := 0, slots := 0, locals := 0 } : Room) (cr_pR D ct (cr_wL ct al vl) [.ref (al 0), .int x1, .int x2]) (cr_QR (fun r => r = out)) 0 0 cr_no := by
  have k0 : (Cond.fieldLink RX4 18 "CupReceipts$Lots" "cups" "[I") ∈ wsX4_cupAt := List.mem_of_getElem? (i := 1) rfl
  have k1 : (Cond.fieldLink RX4 21 "CupReceipts$Lots" "months" "[I") ∈ wsX4_cupAt := List.mem_of_getElem? (i := 2) rfl
  have hinX4 : ∀ w ∈ wsX40, w ∈ wsX4_cupAt := fun w h => List.mem_cons_of_mem _ (List.mem_append_right _ h)
  refine cr_metR (by decide) rfl rfl (Nat.le_of_ble_eq_true rfl) ?_
  intro p e s m args below meth c ls C hP hS hl
  obtain ⟨hx, hb, hml, hown, hts, hr, hlocks, hK, hN⟩ := id C
  have hl : lv_has ls 4 [(0, .ref (al 0)), (1, .int x1), (2, .int x2)] := hl
  replace hE : (if cr_in x1 12 = true then if 60 ≤ ((vl 2 x1.toNatClampNeg) - ((x2 - (vl 3 x1.toNatClampNeg)) / 4)) then (some ((vl 2 x1.toNatClampNeg) - ((x2 - (vl 3 x1.toNatClampNeg)) / 4))) else (some 60) else none) = some out := hE
  refine lv_aload_n hx hb dX4_cupAt_0 rfl (lv_at hl 0 rfl) ?_
  refine cr_get C hP 0 rfl rfl 2 (by decide) hinX4 k0 (v := .ref (al 3)) rfl dX4_cupAt_1 ?_
  refine lv_iload_n hx hb dX4_cupAt_4 rfl (lv_at hl 1 rfl) ?_
  obtain ⟨i1, hE⟩ := cr_ifn hE
  refine cr_ald C hP 3 (f := vl 2) rfl i1 dX4_cupAt_5 ?_
  refine lv_iload_n hx hb dX4_cupAt_6 rfl (lv_at hl 2 rfl) ?_
  refine lv_aload_n hx hb dX4_cupAt_7 rfl (lv_at hl 0 rfl) ?_
  refine cr_get C hP 0 rfl rfl 3 (by decide) hinX4 k1 (v := .ref (al 4)) rfl dX4_cupAt_8 ?_
  refine lv_iload_n hx hb dX4_cupAt_11 rfl (lv_at hl 1 rfl) ?_
  refine cr_ald C hP 4 (f := vl 3) rfl i1 dX4_cupAt_12 ?_
  refine lv_isub hx hb dX4_cupAt_13 ?_
  refine lv_iconst (v := 4) hx hb dX4_cupAt_14 (by decide) ?_
  refine lv_idiv hx hb dX4_cupAt_15 (by decide) ?_
  refine lv_isub hx hb dX4_cupAt_16 ?_
  refine lv_istore_n (lv' := [(3, .int ((vl 2 x1.toNatClampNeg) - ((x2 - (vl 3 x1.toNatClampNeg)) / 4))), (0, .ref (al 0)), (1, .int x1), (2, .int x2)]) hx hb dX4_cupAt_17 rfl hl (by decide) rfl (fun ls hl => ?_)
  refine lv_iload_n hx hb dX4_cupAt_18 rfl (lv_at hl 0 rfl) ?_
  refine lv_bipush (v := 60) hx hb dX4_cupAt_19 (by decide) ?_
  refine lv_icmp_ge (tgt := 29) hx hb dX4_cupAt_21 (by decide) (fun c2 => ?_) (fun c2 => ?_)
  · rw [if_pos c2] at hE
    refine lv_iload_n hx hb dX4_cupAt_29 rfl (lv_at hl 0 rfl) ?_
    exact cr_retR C hS (Option.some.inj hE) dX4_cupAt_30
  · rw [if_neg c2] at hE
    refine lv_bipush (v := 60) hx hb dX4_cupAt_24 (by decide) ?_
    refine lv_goto (tgt := 30) hx hb dX4_cupAt_26 (by decide) ?_
    exact cr_retR C hS (Option.some.inj hE) dX4_cupAt_30

set_option maxHeartbeats 4000000 in
set_option maxRecDepth 100000 in
theorem m_X4_monthsTooOld (L : Launch) (D : va_G) (ct : Nat → ClassId) (al : Nat → Nat) (vl : cr_V) (x1 : Int32) (x2 : Int32) (out : Int32) (hE : f_X4_monthsTooOld vl x1 x2 = some out) : Met L yX4_monthsTooOld wsX4_monthsTooOld ({ frames := 0, cells := 0, slots := 0, locals := 0 } : Room) (cr_pR D ct (cr_wL ct al vl) [.ref (al 0), .int x1, .int x2]) (cr_QR (fun r => r = out)) 0 0 cr_no := by
  have k0 : (Cond.fieldLink RX4 21 "CupReceipts$Lots" "months" "[I") ∈ wsX4_monthsTooOld := List.mem_of_getElem? (i := 1) rfl
  have hinX4 : ∀ w ∈ wsX40, w ∈ wsX4_monthsTooOld := fun w h => List.mem_cons_of_mem _ (List.mem_append_right _ h)
  refine cr_metR (by decide) rfl rfl (Nat.le_of_ble_eq_true rfl) ?_
  intro p e s m args below meth c ls C hP hS hl
  obtain ⟨hx, hb, hml, hown, hts, hr, hlocks, hK, hN⟩ := id C
  have hl : lv_has ls 4 [(0, .ref (al 0)), (1, .int x1), (2, .int x2)] := hl
  replace hE : (if cr_in x1 12 = true then if 0 ≤ ((x2 - (vl 3 x1.toNatClampNeg)) - 3) then (some ((x2 - (vl 3 x1.toNatClampNeg)) - 3)) else (some 0) else none) = some out := hE
  refine lv_iload_n hx hb dX4_monthsTooOld_0 rfl (lv_at hl 2 rfl) ?_
  refine lv_aload_n hx hb dX4_monthsTooOld_1 rfl (lv_at hl 0 rfl) ?_
  refine cr_get C hP 0 rfl rfl 3 (by decide) hinX4 k0 (v := .ref (al 4)) rfl dX4_monthsTooOld_2 ?_
  refine lv_iload_n hx hb dX4_monthsTooOld_5 rfl (lv_at hl 1 rfl) ?_
  obtain ⟨i1, hE⟩ := cr_ifn hE
  refine cr_ald C hP 4 (f := vl 3) rfl i1 dX4_monthsTooOld_6 ?_
  refine lv_isub hx hb dX4_monthsTooOld_7 ?_
  refine lv_iconst (v := 3) hx hb dX4_monthsTooOld_8 (by decide) ?_
  refine lv_isub hx hb dX4_monthsTooOld_9 ?_
  refine lv_istore_n (lv' := [(3, .int ((x2 - (vl 3 x1.toNatClampNeg)) - 3)), (0, .ref (al 0)), (1, .int x1), (2, .int x2)]) hx hb dX4_monthsTooOld_10 rfl hl (by decide) rfl (fun ls hl => ?_)
  refine lv_iload_n hx hb dX4_monthsTooOld_11 rfl (lv_at hl 0 rfl) ?_
  refine lv_if_ge (tgt := 19) hx hb dX4_monthsTooOld_12 (by decide) (fun c2 => ?_) (fun c2 => ?_)
  · rw [if_pos c2] at hE
    refine lv_iload_n hx hb dX4_monthsTooOld_19 rfl (lv_at hl 0 rfl) ?_
    exact cr_retR C hS (Option.some.inj hE) dX4_monthsTooOld_20
  · rw [if_neg c2] at hE
    refine lv_iconst (v := 0) hx hb dX4_monthsTooOld_15 (by decide) ?_
    refine lv_goto (tgt := 20) hx hb dX4_monthsTooOld_16 (by decide) ?_
    exact cr_retR C hS (Option.some.inj hE) dX4_monthsTooOld_20

set_option maxHeartbeats 4000000 in
set_option maxRecDepth 100000 in
theorem m_X4_allBags (L : Launch) (D : va_G) (ct : Nat → ClassId) (al : Nat → Nat) (vl : cr_V)  (out : Int32) (hE : f_X4_allBags vl = some out) : Met L yX4_allBags wsX4_allBags ({ frames := 0, cells := 0, slots := 0, locals := 0 } : Room) (cr_pR D ct (cr_wL ct al vl) [.ref (al 0)]) (cr_QR (fun r => r = out)) 0 0 cr_no := by
  have k0 : (Cond.fieldLink RX4 24 "CupReceipts$Lots" "size" "I") ∈ wsX4_allBags := List.mem_of_getElem? (i := 1) rfl
  have k1 : (Cond.fieldLink RX4 15 "CupReceipts$Lots" "bags" "[I") ∈ wsX4_allBags := List.mem_of_getElem? (i := 2) rfl
  have hinX4 : ∀ w ∈ wsX40, w ∈ wsX4_allBags := fun w h => List.mem_cons_of_mem _ (List.mem_append_right _ h)
  refine cr_metR (by decide) rfl rfl (Nat.le_of_ble_eq_true rfl) ?_
  intro p e s m args below meth c ls C hP hS hl
  obtain ⟨hx, hb, hml, hown, hts, hr, hlocks, hK, hN⟩ := id C
  have hl : lv_has ls 3 [(0, .ref (al 0))] := hl
  have n4 :  ∀ (n : Nat), ∀ (vl : cr_V) (x1 : Int32) (x2 : Int32) (hE : f_X4_allBags_4  n vl x1 x2 = some out) (H : Heap) (locs : List Loc) (ls : Array Slot) (hP : va_P D vwCl (cr_wL ct al vl) H) (hS : va_S cr_no s.heap H locs) (hl : lv_has ls 3 [(0, .ref (al 0)), (1, .int x1), (2, .int x2)]), W p L e ({ frames := 0, cells := 0, slots := 0, locals := 0 } : Room) s m args below meth c H locs 0 0 (MQ below (cr_QR (fun r => r = out)) args s 0 0 cr_no) (F0 m 4 ls []) := by
    intro  n
    induction n with
    | zero =>
      intro vl x1 x2 hE
      cases hE
    | succ n ih =>
      intro vl x1 x2 hE H locs ls hP hS hl
      replace hE : (if (vl 4 0) ≤ x2 then (some x1) else (if cr_in x2 12 = true then f_X4_allBags_4 n vl (x1 + (vl 1 x2.toNatClampNeg)) (x2 + 1) else none)) = some out := hE
      refine lv_iload_n hx hb dX4_allBags_4 rfl (lv_at hl 2 rfl) ?_
      refine lv_aload_n hx hb dX4_allBags_5 rfl (lv_at hl 0 rfl) ?_
      refine cr_get C hP 0 rfl rfl 4 (by decide) hinX4 k0 (v := .int (vl 4 0)) rfl dX4_allBags_6 ?_
      refine lv_icmp_ge (tgt := 27) hx hb dX4_allBags_9 (by decide) (fun c1 => ?_) (fun c1 => ?_)
      · rw [if_pos c1] at hE
        refine lv_iload_n hx hb dX4_allBags_27 rfl (lv_at hl 1 rfl) ?_
        exact cr_retR C hS (Option.some.inj hE) dX4_allBags_28
      · rw [if_neg c1] at hE
        refine lv_iload_n hx hb dX4_allBags_12 rfl (lv_at hl 1 rfl) ?_
        refine lv_aload_n hx hb dX4_allBags_13 rfl (lv_at hl 0 rfl) ?_
        refine cr_get C hP 0 rfl rfl 1 (by decide) hinX4 k1 (v := .ref (al 2)) rfl dX4_allBags_14 ?_
        refine lv_iload_n hx hb dX4_allBags_17 rfl (lv_at hl 2 rfl) ?_
        obtain ⟨i2, hE⟩ := cr_ifn hE
        refine cr_ald C hP 2 (f := vl 1) rfl i2 dX4_allBags_18 ?_
        refine lv_iadd hx hb dX4_allBags_19 ?_
        refine lv_istore_n (lv' := [(1, .int (x1 + (vl 1 x2.toNatClampNeg))), (0, .ref (al 0)), (2, .int x2)]) hx hb dX4_allBags_20 rfl hl (by decide) rfl (fun ls hl => ?_)
        refine lv_iinc (v := x2 + 1) (lv' := [(2, .int (x2 + 1)), (1, .int (x1 + (vl 1 x2.toNatClampNeg))), (0, .ref (al 0))]) hx hb dX4_allBags_21 hl (k := 2) rfl (by first | rfl | decide) (by decide) rfl (fun ls hl => ?_)
        refine lv_goto (tgt := 4) hx hb dX4_allBags_24 (by decide) ?_
        exact ih vl (x1 + (vl 1 x2.toNatClampNeg)) (x2 + 1) hE _ _ _ hP hS (lv_sub hl [2, 1, 0] rfl)
  replace hE : (f_X4_allBags_4 10100 vl 0 0) = some out := hE
  refine lv_iconst (v := 0) hx hb dX4_allBags_0 (by decide) ?_
  refine lv_istore_n (lv' := [(1, .int 0), (0, .ref (al 0))]) hx hb dX4_allBags_1 rfl hl (by decide) rfl (fun ls hl => ?_)
  refine lv_iconst (v := 0) hx hb dX4_allBags_2 (by decide) ?_
  refine lv_istore_n (lv' := [(2, .int 0), (1, .int 0), (0, .ref (al 0))]) hx hb dX4_allBags_3 rfl hl (by decide) rfl (fun ls hl => ?_)
  exact n4 10100 vl 0 0 hE _ _ _ hP hS (lv_sub hl [2, 1, 0] rfl)

set_option maxHeartbeats 4000000 in
set_option maxRecDepth 100000 in
theorem m_X4_bagsToGive (L : Launch) (D : va_G) (ct : Nat → ClassId) (al : Nat → Nat) (vl : cr_V) (x1 : Int32) (out : Int32) (hE : f_X4_bagsToGive vl x1 = some out) : Met L yX4_bagsToGive wsX4_bagsToGive ({ frames := 1, cells := 0, slots := 0, locals := 23 } : Room) (cr_pR D ct (cr_wL ct al vl) [.ref (al 0), .int x1]) (cr_QR (fun r => r = out)) 0 0 cr_no := by
  have k0 : (Cond.fieldLink RX4 24 "CupReceipts$Lots" "size" "I") ∈ wsX4_bagsToGive := List.mem_of_getElem? (i := 1) rfl
  have k1 : (Cond.fieldLink RX4 15 "CupReceipts$Lots" "bags" "[I") ∈ wsX4_bagsToGive := List.mem_of_getElem? (i := 2) rfl
  have hinX4 : ∀ w ∈ wsX40, w ∈ wsX4_bagsToGive := fun w h => List.mem_cons_of_mem _ (List.mem_append_right _ h)
  refine cr_metR (by decide) rfl rfl (Nat.le_of_ble_eq_true rfl) ?_
  intro p e s m args below meth c ls C hP hS hl
  obtain ⟨hx, hb, hml, hown, hts, hr, hlocks, hK, hN⟩ := id C
  have hl : lv_has ls 4 [(0, .ref (al 0)), (1, .int x1)] := hl
  have n32 : ∀ (k4_ : cr_V → Int32 → Int32 → Int32 → Option (Int32)) (ih4_ : ∀ (vl : cr_V) (x1 : Int32) (x2 : Int32) (x3 : Int32) (hE : k4_ vl x1 x2 x3 = some out) (H : Heap) (locs : List Loc) (ls : Array Slot) (hP : va_P D vwCl (cr_wL ct al vl) H) (hS : va_S cr_no s.heap H locs) (hl : lv_has ls 4 [(0, .ref (al 0)), (1, .int x1), (2, .int x2), (3, .int x3)]), W p L e ({ frames := 1, cells := 0, slots := 0, locals := 23 } : Room) s m args below meth c H locs 0 0 (MQ below (cr_QR (fun r => r = out)) args s 0 0 cr_no) (F0 m 4 ls [])), ∀ (vl : cr_V) (x1 : Int32) (x2 : Int32) (x3 : Int32) (hE : f_X4_bagsToGive_32 k4_ vl x1 x2 x3 = some out) (H : Heap) (locs : List Loc) (ls : Array Slot) (hP : va_P D vwCl (cr_wL ct al vl) H) (hS : va_S cr_no s.heap H locs) (hl : lv_has ls 4 [(0, .ref (al 0)), (1, .int x1), (2, .int x2), (3, .int x3)]), W p L e ({ frames := 1, cells := 0, slots := 0, locals := 23 } : Room) s m args below meth c H locs 0 0 (MQ below (cr_QR (fun r => r = out)) args s 0 0 cr_no) (F0 m 32 ls []) := by
    intro k4_ ih4_ vl x1 x2 x3 hE H locs ls hP hS hl
    replace hE : (k4_ vl x1 x2 (x3 + 1)) = some out := hE
    refine lv_iinc (v := x3 + 1) (lv' := [(3, .int (x3 + 1)), (0, .ref (al 0)), (1, .int x1), (2, .int x2)]) hx hb dX4_bagsToGive_32 hl (k := 3) rfl (by first | rfl | decide) (by decide) rfl (fun ls hl => ?_)
    refine lv_goto (tgt := 4) hx hb dX4_bagsToGive_35 (by decide) ?_
    exact ih4_ vl x1 x2 (x3 + 1) hE _ _ _ hP hS (lv_sub hl [1, 2, 3, 0] rfl)
  have n4 :  ∀ (n : Nat), ∀ (vl : cr_V) (x1 : Int32) (x2 : Int32) (x3 : Int32) (hE : f_X4_bagsToGive_4  n vl x1 x2 x3 = some out) (H : Heap) (locs : List Loc) (ls : Array Slot) (hP : va_P D vwCl (cr_wL ct al vl) H) (hS : va_S cr_no s.heap H locs) (hl : lv_has ls 4 [(0, .ref (al 0)), (1, .int x1), (2, .int x2), (3, .int x3)]), W p L e ({ frames := 1, cells := 0, slots := 0, locals := 23 } : Room) s m args below meth c H locs 0 0 (MQ below (cr_QR (fun r => r = out)) args s 0 0 cr_no) (F0 m 4 ls []) := by
    intro  n
    induction n with
    | zero =>
      intro vl x1 x2 x3 hE
      cases hE
    | succ n ih =>
      intro vl x1 x2 x3 hE H locs ls hP hS hl
      replace hE : (if (vl 4 0) ≤ x3 then (some x2) else ((f_X4_cupAt vl x3 x1).bind fun q2 => if q2 < 70 then (f_X4_bagsToGive_32 (f_X4_bagsToGive_4 n) vl x1 x2 x3) else (if cr_in x3 12 = true then f_X4_bagsToGive_32 (f_X4_bagsToGive_4 n) vl x1 (x2 + (vl 1 x3.toNatClampNeg)) x3 else none))) = some out := hE
      refine lv_iload_n hx hb dX4_bagsToGive_4 rfl (lv_at hl 3 rfl) ?_
      refine lv_aload_n hx hb dX4_bagsToGive_5 rfl (lv_at hl 0 rfl) ?_
      refine cr_get C hP 0 rfl rfl 4 (by decide) hinX4 k0 (v := .int (vl 4 0)) rfl dX4_bagsToGive_6 ?_
      refine lv_icmp_ge (tgt := 38) hx hb dX4_bagsToGive_9 (by decide) (fun c1 => ?_) (fun c1 => ?_)
      · rw [if_pos c1] at hE
        refine lv_iload_n hx hb dX4_bagsToGive_38 rfl (lv_at hl 2 rfl) ?_
        exact cr_retR C hS (Option.some.inj hE) dX4_bagsToGive_39
      · rw [if_neg c1] at hE
        refine lv_aload_n hx hb dX4_bagsToGive_12 rfl (lv_at hl 0 rfl) ?_
        refine lv_iload_n hx hb dX4_bagsToGive_13 rfl (lv_at hl 3 rfl) ?_
        refine lv_iload_n hx hb dX4_bagsToGive_14 rfl (lv_at hl 1 rfl) ?_
        obtain ⟨q2, hq2, hE⟩ := cr_bind hE
        refine cr_vRq (n := 2) (As := [.int x3, .int x1]) (rest := []) C hP hS (m_X4_cupAt L D ct al vl x3 x1 q2 hq2) (cwV 2 hts gX4_bagsToGive_X4_cupAt rfl rfl rfl (by decide +kernel) ⟨Nat.le_of_ble_eq_true rfl, Nat.le_of_ble_eq_true rfl⟩) [0, 1, 2, 3, 4] rfl 0 rfl rfl rfl hl.1 rfl (Nat.le_of_ble_eq_true rfl) dX4_bagsToGive_15 ⟨Nat.zero_le _, Nat.zero_le _⟩ (fun H locs hP hS => ?_)
        refine lv_bipush (v := 70) hx hb dX4_bagsToGive_18 (by decide) ?_
        refine lv_icmp_lt (tgt := 32) hx hb dX4_bagsToGive_20 (by decide) (fun c3 => ?_) (fun c3 => ?_)
        · rw [if_pos c3] at hE
          exact n32 (f_X4_bagsToGive_4 n) ih vl x1 x2 x3 hE _ _ _ hP hS (lv_sub hl [0, 1, 2, 3] rfl)
        · rw [if_neg c3] at hE
          refine lv_iload_n hx hb dX4_bagsToGive_23 rfl (lv_at hl 2 rfl) ?_
          refine lv_aload_n hx hb dX4_bagsToGive_24 rfl (lv_at hl 0 rfl) ?_
          refine cr_get C hP 0 rfl rfl 1 (by decide) hinX4 k1 (v := .ref (al 2)) rfl dX4_bagsToGive_25 ?_
          refine lv_iload_n hx hb dX4_bagsToGive_28 rfl (lv_at hl 3 rfl) ?_
          obtain ⟨i4, hE⟩ := cr_ifn hE
          refine cr_ald C hP 2 (f := vl 1) rfl i4 dX4_bagsToGive_29 ?_
          refine lv_iadd hx hb dX4_bagsToGive_30 ?_
          refine lv_istore_n (lv' := [(2, .int (x2 + (vl 1 x3.toNatClampNeg))), (0, .ref (al 0)), (1, .int x1), (3, .int x3)]) hx hb dX4_bagsToGive_31 rfl hl (by decide) rfl (fun ls hl => ?_)
          exact n32 (f_X4_bagsToGive_4 n) ih vl x1 (x2 + (vl 1 x3.toNatClampNeg)) x3 hE _ _ _ hP hS (lv_sub hl [1, 2, 0, 3] rfl)
  replace hE : (f_X4_bagsToGive_4 10100 vl x1 0 0) = some out := hE
  refine lv_iconst (v := 0) hx hb dX4_bagsToGive_0 (by decide) ?_
  refine lv_istore_n (lv' := [(2, .int 0), (0, .ref (al 0)), (1, .int x1)]) hx hb dX4_bagsToGive_1 rfl hl (by decide) rfl (fun ls hl => ?_)
  refine lv_iconst (v := 0) hx hb dX4_bagsToGive_2 (by decide) ?_
  refine lv_istore_n (lv' := [(3, .int 0), (2, .int 0), (0, .ref (al 0)), (1, .int x1)]) hx hb dX4_bagsToGive_3 rfl hl (by decide) rfl (fun ls hl => ?_)
  exact n4 10100 vl x1 0 0 hE _ _ _ hP hS (lv_sub hl [2, 3, 1, 0] rfl)

set_option maxHeartbeats 4000000 in
set_option maxRecDepth 100000 in
theorem m_X0_copyFrom (L : Launch) (D : va_G) (ct : Nat → ClassId) (ak : Nat → Nat) (ak2 : Nat → Nat) (vk : cr_V) (vk2 : cr_V)  (sz : Nat) (out : cr_V) (hE : f_X0_copyFrom vk vk2 = some out) : Met L yX0_copyFrom wsX0_copyFrom ({ frames := 0, cells := 0, slots := 0, locals := 0 } : Room) (cr_pW D ct (cr_wK ct ak vk ++ cr_wK ct ak2 vk2) sz [.ref (ak 0), .ref (ak2 0)]) (cr_QV D (cr_wK ct ak vk ++ cr_wK ct ak2 vk2) sz (fun u => u = out) (fun u : cr_V => cr_wK ct ak u ++ cr_wK ct ak2 vk2)) 0 0 (va_A (cr_wK ct ak vk ++ cr_wK ct ak2 vk2) sz) := by
  have k0 : (Cond.fieldLink RX0 18 "CupReceipts$Contracts" "size" "I") ∈ wsX0_copyFrom := List.mem_of_getElem? (i := 3) rfl
  have k1 : (Cond.fieldLink RX0 9 "CupReceipts$Contracts" "months" "[I") ∈ wsX0_copyFrom := List.mem_of_getElem? (i := 1) rfl
  have k2 : (Cond.fieldLink RX0 15 "CupReceipts$Contracts" "prices" "[I") ∈ wsX0_copyFrom := List.mem_of_getElem? (i := 2) rfl
  have hinX0 : ∀ w ∈ wsX00, w ∈ wsX0_copyFrom := fun w h => List.mem_cons_of_mem _ (List.mem_append_right _ h)
  refine cr_metW (Qc := fun A => va_Qv (fun u => u = out) (fun u t => cr_at D A ((fun u : cr_V => cr_wK ct ak u ++ cr_wK ct ak2 vk2) u) t) A) (by decide) rfl rfl (Nat.le_of_ble_eq_true rfl) ?_
  intro p e s m args below meth c ls A C hW hl
  obtain ⟨hx, hb, hml, hown, hts, hr, hlocks, hK, hN⟩ := id C
  have hl : lv_has ls 3 [(0, .ref (ak 0)), (1, .ref (ak2 0))] := hl
  have n2 :  ∀ (n : Nat), ∀ (vk : cr_V) (vk2 : cr_V) (x2 : Int32) (hE : f_X0_copyFrom_2  n vk vk2 x2 = some out) (H : Heap) (locs : List Loc) (ls : Array Slot) (hW : cr_wd D A s (cr_wK ct ak vk ++ cr_wK ct ak2 vk2) H locs) (hl : lv_has ls 3 [(0, .ref (ak 0)), (1, .ref (ak2 0)), (2, .int x2)]), W p L e ({ frames := 0, cells := 0, slots := 0, locals := 0 } : Room) s m args below meth c H locs 0 0 (MQ below (va_Qv (fun u => u = out) (fun u t => cr_at D A ((fun u : cr_V => cr_wK ct ak u ++ cr_wK ct ak2 vk2) u) t) A) args s 0 0 A) (F0 m 2 ls []) := by
    intro  n
    induction n with
    | zero =>
      intro vk vk2 x2 hE
      cases hE
    | succ n ih =>
      intro vk vk2 x2 hE H locs ls hW hl
      replace hE : (if 6 ≤ x2 then (some (cr_i vk 2 (vk2 2 0))) else (if cr_in x2 6 = true then f_X0_copyFrom_2 n (cr_a (cr_a vk 0 x2 (vk2 0 x2.toNatClampNeg)) 1 x2 (vk2 1 x2.toNatClampNeg)) vk2 (x2 + 1) else none)) = some out := hE
      refine lv_iload_n hx hb dX0_copyFrom_2 rfl (lv_at hl 2 rfl) ?_
      refine lv_bipush (v := 6) hx hb dX0_copyFrom_3 (by decide) ?_
      refine lv_icmp_ge (tgt := 38) hx hb dX0_copyFrom_5 (by decide) (fun c1 => ?_) (fun c1 => ?_)
      · rw [if_pos c1] at hE
        refine lv_aload_n hx hb dX0_copyFrom_38 rfl (lv_at hl 0 rfl) ?_
        refine lv_aload_n hx hb dX0_copyFrom_39 rfl (lv_at hl 1 rfl) ?_
        refine cr_get C hW.1 3 rfl rfl 2 (by decide) hinX0 k0 (v := .int (vk2 2 0)) rfl dX0_copyFrom_40 ?_
        refine cr_put C hW 0 rfl rfl tyX0 tyX0_ok nmX0 2 (by decide) hinX0 k0 rfl rfl rfl rfl (Nat.le_of_ble_eq_true rfl) (w' := cr_wK ct ak (cr_i vk 2 (vk2 2 0)) ++ cr_wK ct ak2 vk2) rfl dX0_copyFrom_43 (fun H locs hW => ?_)
        exact cr_retV C (w := (fun u : cr_V => cr_wK ct ak u ++ cr_wK ct ak2 vk2)) (cr_i vk 2 (vk2 2 0)) hW (Option.some.inj hE) dX0_copyFrom_46
      · rw [if_neg c1] at hE
        refine lv_aload_n hx hb dX0_copyFrom_8 rfl (lv_at hl 0 rfl) ?_
        refine cr_get C hW.1 0 rfl rfl 0 (by decide) hinX0 k1 (v := .ref (ak 1)) rfl dX0_copyFrom_9 ?_
        refine lv_iload_n hx hb dX0_copyFrom_12 rfl (lv_at hl 2 rfl) ?_
        refine lv_aload_n hx hb dX0_copyFrom_13 rfl (lv_at hl 1 rfl) ?_
        refine cr_get C hW.1 3 rfl rfl 0 (by decide) hinX0 k1 (v := .ref (ak2 1)) rfl dX0_copyFrom_14 ?_
        refine lv_iload_n hx hb dX0_copyFrom_17 rfl (lv_at hl 2 rfl) ?_
        obtain ⟨i2, hE⟩ := cr_ifn hE
        refine cr_ald C hW.1 4 (f := vk2 0) rfl i2 dX0_copyFrom_18 ?_
        refine cr_ast C hW 1 rfl i2 (w' := cr_wK ct ak (cr_a vk 0 x2 (vk2 0 x2.toNatClampNeg)) ++ cr_wK ct ak2 vk2) rfl dX0_copyFrom_19 (fun H locs hW => ?_)
        refine lv_aload_n hx hb dX0_copyFrom_20 rfl (lv_at hl 0 rfl) ?_
        refine cr_get C hW.1 0 rfl rfl 1 (by decide) hinX0 k2 (v := .ref (ak 2)) rfl dX0_copyFrom_21 ?_
        refine lv_iload_n hx hb dX0_copyFrom_24 rfl (lv_at hl 2 rfl) ?_
        refine lv_aload_n hx hb dX0_copyFrom_25 rfl (lv_at hl 1 rfl) ?_
        refine cr_get C hW.1 3 rfl rfl 1 (by decide) hinX0 k2 (v := .ref (ak2 2)) rfl dX0_copyFrom_26 ?_
        refine lv_iload_n hx hb dX0_copyFrom_29 rfl (lv_at hl 2 rfl) ?_
        refine cr_ald C hW.1 5 (f := vk2 1) rfl i2 dX0_copyFrom_30 ?_
        refine cr_ast C hW 2 rfl i2 (w' := cr_wK ct ak (cr_a (cr_a vk 0 x2 (vk2 0 x2.toNatClampNeg)) 1 x2 (vk2 1 x2.toNatClampNeg)) ++ cr_wK ct ak2 vk2) rfl dX0_copyFrom_31 (fun H locs hW => ?_)
        refine lv_iinc (v := x2 + 1) (lv' := [(2, .int (x2 + 1)), (0, .ref (ak 0)), (1, .ref (ak2 0))]) hx hb dX0_copyFrom_32 hl (k := 2) rfl (by first | rfl | decide) (by decide) rfl (fun ls hl => ?_)
        refine lv_goto (tgt := 2) hx hb dX0_copyFrom_35 (by decide) ?_
        exact ih (cr_a (cr_a vk 0 x2 (vk2 0 x2.toNatClampNeg)) 1 x2 (vk2 1 x2.toNatClampNeg)) vk2 (x2 + 1) hE _ _ _ hW (lv_sub hl [1, 2, 0] rfl)
  replace hE : (f_X0_copyFrom_2 10100 vk vk2 0) = some out := hE
  refine lv_iconst (v := 0) hx hb dX0_copyFrom_0 (by decide) ?_
  refine lv_istore_n (lv' := [(2, .int 0), (0, .ref (ak 0)), (1, .ref (ak2 0))]) hx hb dX0_copyFrom_1 rfl hl (by decide) rfl (fun ls hl => ?_)
  exact n2 10100 vk vk2 0 hE _ _ _ hW (lv_sub hl [1, 2, 0] rfl)

set_option maxHeartbeats 4000000 in
set_option maxRecDepth 100000 in
theorem m_X0_isOpen (L : Launch) (D : va_G) (ct : Nat → ClassId) (ak : Nat → Nat) (vk : cr_V) (x1 : Int32) (out : Int32) (hE : f_X0_isOpen vk x1 = some out) : Met L yX0_isOpen wsX0_isOpen ({ frames := 0, cells := 0, slots := 0, locals := 0 } : Room) (cr_pR D ct (cr_wK ct ak vk) [.ref (ak 0), .int x1]) (cr_QR (fun r => r = out)) 0 0 cr_no := by
  have k0 : (Cond.fieldLink RX0 18 "CupReceipts$Contracts" "size" "I") ∈ wsX0_isOpen := List.mem_of_getElem? (i := 1) rfl
  have hinX0 : ∀ w ∈ wsX00, w ∈ wsX0_isOpen := fun w h => List.mem_cons_of_mem _ (List.mem_append_right _ h)
  refine cr_metR (by decide) rfl rfl (Nat.le_of_ble_eq_true rfl) ?_
  intro p e s m args below meth c ls C hP hS hl
  obtain ⟨hx, hb, hml, hown, hts, hr, hlocks, hK, hN⟩ := id C
  have hl : lv_has ls 2 [(0, .ref (ak 0)), (1, .int x1)] := hl
  replace hE : (if x1 < 0 then (some 0) else (if (vk 2 0) ≤ x1 then (some 0) else (some 1))) = some out := hE
  refine lv_iload_n hx hb dX0_isOpen_0 rfl (lv_at hl 1 rfl) ?_
  refine lv_if_lt (tgt := 16) hx hb dX0_isOpen_1 (by decide) (fun c1 => ?_) (fun c1 => ?_)
  · rw [if_pos c1] at hE
    refine lv_iconst (v := 0) hx hb dX0_isOpen_16 (by decide) ?_
    exact cr_retRz C hS rfl (Option.some.inj hE) dX0_isOpen_17
  · rw [if_neg c1] at hE
    refine lv_iload_n hx hb dX0_isOpen_4 rfl (lv_at hl 1 rfl) ?_
    refine lv_aload_n hx hb dX0_isOpen_5 rfl (lv_at hl 0 rfl) ?_
    refine cr_get C hP 0 rfl rfl 2 (by decide) hinX0 k0 (v := .int (vk 2 0)) rfl dX0_isOpen_6 ?_
    refine lv_icmp_ge (tgt := 16) hx hb dX0_isOpen_9 (by decide) (fun c2 => ?_) (fun c2 => ?_)
    · rw [if_pos c2] at hE
      refine lv_iconst (v := 0) hx hb dX0_isOpen_16 (by decide) ?_
      exact cr_retRz C hS rfl (Option.some.inj hE) dX0_isOpen_17
    · rw [if_neg c2] at hE
      refine lv_iconst (v := 1) hx hb dX0_isOpen_12 (by decide) ?_
      refine lv_goto (tgt := 17) hx hb dX0_isOpen_13 (by decide) ?_
      exact cr_retRz C hS rfl (Option.some.inj hE) dX0_isOpen_17

set_option maxHeartbeats 4000000 in
set_option maxRecDepth 100000 in
theorem m_X0_add (L : Launch) (D : va_G) (ct : Nat → ClassId) (ak : Nat → Nat) (vk : cr_V) (x1 : Int32) (x2 : Int32) (sz : Nat) (out : Int32 × cr_V) (hE : f_X0_add vk x1 x2 = some out) : Met L yX0_add wsX0_add ({ frames := 0, cells := 0, slots := 0, locals := 0 } : Room) (cr_pW D ct (cr_wK ct ak vk) sz [.ref (ak 0), .int x1, .int x2]) (cr_QW D (cr_wK ct ak vk) sz (fun r u => (r, u) = out) (fun u : cr_V => cr_wK ct ak u)) 0 0 (va_A (cr_wK ct ak vk) sz) := by
  have k0 : (Cond.fieldLink RX0 18 "CupReceipts$Contracts" "size" "I") ∈ wsX0_add := List.mem_of_getElem? (i := 1) rfl
  have k1 : (Cond.fieldLink RX0 9 "CupReceipts$Contracts" "months" "[I") ∈ wsX0_add := List.mem_of_getElem? (i := 3) rfl
  have k2 : (Cond.fieldLink RX0 15 "CupReceipts$Contracts" "prices" "[I") ∈ wsX0_add := List.mem_of_getElem? (i := 4) rfl
  have k3 : (Cond.constant RX0 22 (-2000000003)) ∈ wsX0_add := List.mem_of_getElem? (i := 2) rfl
  have hinX0 : ∀ w ∈ wsX00, w ∈ wsX0_add := fun w h => List.mem_cons_of_mem _ (List.mem_append_right _ h)
  refine cr_metW (Qc := fun A => va_Qi (fun r u => (r, u) = out) (fun u t => cr_at D A ((fun u : cr_V => cr_wK ct ak u) u) t) A) (by decide) rfl rfl (Nat.le_of_ble_eq_true rfl) ?_
  intro p e s m args below meth c ls A C hW hl
  obtain ⟨hx, hb, hml, hown, hts, hr, hlocks, hK, hN⟩ := id C
  have hl : lv_has ls 3 [(0, .ref (ak 0)), (1, .int x1), (2, .int x2)] := hl
  replace hE : (if (vk 2 0) < 6 then (if cr_in (vk 2 0) 6 = true then some ((((vk 2 0) + 1) - 1), (cr_i (cr_a (cr_a vk 0 (vk 2 0) x1) 1 (vk 2 0) x2) 2 ((vk 2 0) + 1))) else none) else (some ((-2000000003), vk))) = some out := hE
  refine lv_aload_n hx hb dX0_add_0 rfl (lv_at hl 0 rfl) ?_
  refine cr_get C hW.1 0 rfl rfl 2 (by decide) hinX0 k0 (v := .int (vk 2 0)) rfl dX0_add_1 ?_
  refine lv_bipush (v := 6) hx hb dX0_add_4 (by decide) ?_
  refine lv_icmp_lt (tgt := 12) hx hb dX0_add_6 (by decide) (fun c1 => ?_) (fun c1 => ?_)
  · rw [if_pos c1] at hE
    refine lv_aload_n hx hb dX0_add_12 rfl (lv_at hl 0 rfl) ?_
    refine cr_get C hW.1 0 rfl rfl 0 (by decide) hinX0 k1 (v := .ref (ak 1)) rfl dX0_add_13 ?_
    refine lv_aload_n hx hb dX0_add_16 rfl (lv_at hl 0 rfl) ?_
    refine cr_get C hW.1 0 rfl rfl 2 (by decide) hinX0 k0 (v := .int (vk 2 0)) rfl dX0_add_17 ?_
    refine lv_iload_n hx hb dX0_add_20 rfl (lv_at hl 1 rfl) ?_
    obtain ⟨i2, hE⟩ := cr_ifn hE
    refine cr_ast C hW 1 rfl i2 (w' := cr_wK ct ak (cr_a vk 0 (vk 2 0) x1)) rfl dX0_add_21 (fun H locs hW => ?_)
    refine lv_aload_n hx hb dX0_add_22 rfl (lv_at hl 0 rfl) ?_
    refine cr_get C hW.1 0 rfl rfl 1 (by decide) hinX0 k2 (v := .ref (ak 2)) rfl dX0_add_23 ?_
    refine lv_aload_n hx hb dX0_add_26 rfl (lv_at hl 0 rfl) ?_
    refine cr_get C hW.1 0 rfl rfl 2 (by decide) hinX0 k0 (v := .int (vk 2 0)) rfl dX0_add_27 ?_
    refine lv_iload_n hx hb dX0_add_30 rfl (lv_at hl 2 rfl) ?_
    refine cr_ast C hW 2 rfl i2 (w' := cr_wK ct ak (cr_a (cr_a vk 0 (vk 2 0) x1) 1 (vk 2 0) x2)) rfl dX0_add_31 (fun H locs hW => ?_)
    refine lv_aload_n hx hb dX0_add_32 rfl (lv_at hl 0 rfl) ?_
    refine lv_dup hx hb dX0_add_33 rfl ?_
    refine cr_get C hW.1 0 rfl rfl 2 (by decide) hinX0 k0 (v := .int (vk 2 0)) rfl dX0_add_34 ?_
    refine lv_iconst (v := 1) hx hb dX0_add_37 (by decide) ?_
    refine lv_iadd hx hb dX0_add_38 ?_
    refine cr_put C hW 0 rfl rfl tyX0 tyX0_ok nmX0 2 (by decide) hinX0 k0 rfl rfl rfl rfl (Nat.le_of_ble_eq_true rfl) (w' := cr_wK ct ak (cr_i (cr_a (cr_a vk 0 (vk 2 0) x1) 1 (vk 2 0) x2) 2 ((vk 2 0) + 1))) rfl dX0_add_39 (fun H locs hW => ?_)
    refine lv_aload_n hx hb dX0_add_42 rfl (lv_at hl 0 rfl) ?_
    refine cr_get C hW.1 0 rfl rfl 2 (by decide) hinX0 k0 (v := .int ((vk 2 0) + 1)) rfl dX0_add_43 ?_
    refine lv_iconst (v := 1) hx hb dX0_add_46 (by decide) ?_
    refine lv_isub hx hb dX0_add_47 ?_
    exact cr_retW C (w := (fun u : cr_V => cr_wK ct ak u)) (cr_i (cr_a (cr_a vk 0 (vk 2 0) x1) 1 (vk 2 0) x2) 2 ((vk 2 0) + 1)) hW (Option.some.inj hE) dX0_add_48
  · rw [if_neg c1] at hE
    refine cr_ldc C k3 dX0_add_9 ?_
    exact cr_retW C (w := (fun u : cr_V => cr_wK ct ak u)) vk hW (Option.some.inj hE) dX0_add_11

set_option maxHeartbeats 4000000 in
set_option maxRecDepth 100000 in
theorem m_X0_drop (L : Launch) (D : va_G) (ct : Nat → ClassId) (ak : Nat → Nat) (vk : cr_V) (x1 : Int32) (sz : Nat) (out : cr_V) (hE : f_X0_drop vk x1 = some out) : Met L yX0_drop wsX0_drop ({ frames := 1, cells := 0, slots := 0, locals := 21 } : Room) (cr_pW D ct (cr_wK ct ak vk) sz [.ref (ak 0), .int x1]) (cr_QV D (cr_wK ct ak vk) sz (fun u => u = out) (fun u : cr_V => cr_wK ct ak u)) 0 0 (va_A (cr_wK ct ak vk) sz) := by
  have k0 : (Cond.fieldLink RX0 18 "CupReceipts$Contracts" "size" "I") ∈ wsX0_drop := List.mem_of_getElem? (i := 1) rfl
  have k1 : (Cond.fieldLink RX0 9 "CupReceipts$Contracts" "months" "[I") ∈ wsX0_drop := List.mem_of_getElem? (i := 2) rfl
  have k2 : (Cond.fieldLink RX0 15 "CupReceipts$Contracts" "prices" "[I") ∈ wsX0_drop := List.mem_of_getElem? (i := 3) rfl
  have hinX0 : ∀ w ∈ wsX00, w ∈ wsX0_drop := fun w h => List.mem_cons_of_mem _ (List.mem_append_right _ h)
  refine cr_metW (Qc := fun A => va_Qv (fun u => u = out) (fun u t => cr_at D A ((fun u : cr_V => cr_wK ct ak u) u) t) A) (by decide) rfl rfl (Nat.le_of_ble_eq_true rfl) ?_
  intro p e s m args below meth c ls A C hW hl
  obtain ⟨hx, hb, hml, hown, hts, hr, hlocks, hK, hN⟩ := id C
  have hl : lv_has ls 3 [(0, .ref (ak 0)), (1, .int x1)] := hl
  have n13 :  ∀ (n : Nat), ∀ (vk : cr_V) (x2 : Int32) (hE : f_X0_drop_13  n vk x2 = some out) (H : Heap) (locs : List Loc) (ls : Array Slot) (hW : cr_wd D A s (cr_wK ct ak vk) H locs) (hl : lv_has ls 3 [(0, .ref (ak 0)), (2, .int x2)]), W p L e ({ frames := 1, cells := 0, slots := 0, locals := 21 } : Room) s m args below meth c H locs 0 0 (MQ below (va_Qv (fun u => u = out) (fun u t => cr_at D A ((fun u : cr_V => cr_wK ct ak u) u) t) A) args s 0 0 A) (F0 m 13 ls []) := by
    intro  n
    induction n with
    | zero =>
      intro vk x2 hE
      cases hE
    | succ n ih =>
      intro vk x2 hE H locs ls hW hl
      replace hE : (if (vk 2 0) ≤ x2 then (some (cr_i vk 2 ((vk 2 0) - 1))) else (if cr_in x2 6 = true then if cr_in (x2 - 1) 6 = true then f_X0_drop_13 n (cr_a (cr_a vk 0 (x2 - 1) (vk 0 x2.toNatClampNeg)) 1 (x2 - 1) (vk 1 x2.toNatClampNeg)) (x2 + 1) else none else none)) = some out := hE
      refine lv_iload_n hx hb dX0_drop_13 rfl (lv_at hl 1 rfl) ?_
      refine lv_aload_n hx hb dX0_drop_14 rfl (lv_at hl 0 rfl) ?_
      refine cr_get C hW.1 0 rfl rfl 2 (by decide) hinX0 k0 (v := .int (vk 2 0)) rfl dX0_drop_15 ?_
      refine lv_icmp_ge (tgt := 55) hx hb dX0_drop_18 (by decide) (fun c1 => ?_) (fun c1 => ?_)
      · rw [if_pos c1] at hE
        refine lv_aload_n hx hb dX0_drop_55 rfl (lv_at hl 0 rfl) ?_
        refine lv_dup hx hb dX0_drop_56 rfl ?_
        refine cr_get C hW.1 0 rfl rfl 2 (by decide) hinX0 k0 (v := .int (vk 2 0)) rfl dX0_drop_57 ?_
        refine lv_iconst (v := 1) hx hb dX0_drop_60 (by decide) ?_
        refine lv_isub hx hb dX0_drop_61 ?_
        refine cr_put C hW 0 rfl rfl tyX0 tyX0_ok nmX0 2 (by decide) hinX0 k0 rfl rfl rfl rfl (Nat.le_of_ble_eq_true rfl) (w' := cr_wK ct ak (cr_i vk 2 ((vk 2 0) - 1))) rfl dX0_drop_62 (fun H locs hW => ?_)
        exact cr_retV C (w := (fun u : cr_V => cr_wK ct ak u)) (cr_i vk 2 ((vk 2 0) - 1)) hW (Option.some.inj hE) dX0_drop_65
      · rw [if_neg c1] at hE
        refine lv_aload_n hx hb dX0_drop_21 rfl (lv_at hl 0 rfl) ?_
        refine cr_get C hW.1 0 rfl rfl 0 (by decide) hinX0 k1 (v := .ref (ak 1)) rfl dX0_drop_22 ?_
        refine lv_iload_n hx hb dX0_drop_25 rfl (lv_at hl 1 rfl) ?_
        refine lv_iconst (v := 1) hx hb dX0_drop_26 (by decide) ?_
        refine lv_isub hx hb dX0_drop_27 ?_
        refine lv_aload_n hx hb dX0_drop_28 rfl (lv_at hl 0 rfl) ?_
        refine cr_get C hW.1 0 rfl rfl 0 (by decide) hinX0 k1 (v := .ref (ak 1)) rfl dX0_drop_29 ?_
        refine lv_iload_n hx hb dX0_drop_32 rfl (lv_at hl 1 rfl) ?_
        obtain ⟨i2, hE⟩ := cr_ifn hE
        refine cr_ald C hW.1 1 (f := vk 0) rfl i2 dX0_drop_33 ?_
        obtain ⟨i3, hE⟩ := cr_ifn hE
        refine cr_ast C hW 1 rfl i3 (w' := cr_wK ct ak (cr_a vk 0 (x2 - 1) (vk 0 x2.toNatClampNeg))) rfl dX0_drop_34 (fun H locs hW => ?_)
        refine lv_aload_n hx hb dX0_drop_35 rfl (lv_at hl 0 rfl) ?_
        refine cr_get C hW.1 0 rfl rfl 1 (by decide) hinX0 k2 (v := .ref (ak 2)) rfl dX0_drop_36 ?_
        refine lv_iload_n hx hb dX0_drop_39 rfl (lv_at hl 1 rfl) ?_
        refine lv_iconst (v := 1) hx hb dX0_drop_40 (by decide) ?_
        refine lv_isub hx hb dX0_drop_41 ?_
        refine lv_aload_n hx hb dX0_drop_42 rfl (lv_at hl 0 rfl) ?_
        refine cr_get C hW.1 0 rfl rfl 1 (by decide) hinX0 k2 (v := .ref (ak 2)) rfl dX0_drop_43 ?_
        refine lv_iload_n hx hb dX0_drop_46 rfl (lv_at hl 1 rfl) ?_
        refine cr_ald C hW.1 2 (f := vk 1) rfl i2 dX0_drop_47 ?_
        refine cr_ast C hW 2 rfl i3 (w' := cr_wK ct ak (cr_a (cr_a vk 0 (x2 - 1) (vk 0 x2.toNatClampNeg)) 1 (x2 - 1) (vk 1 x2.toNatClampNeg))) rfl dX0_drop_48 (fun H locs hW => ?_)
        refine lv_iinc (v := x2 + 1) (lv' := [(2, .int (x2 + 1)), (0, .ref (ak 0))]) hx hb dX0_drop_49 hl (k := 1) rfl (by first | rfl | decide) (by decide) rfl (fun ls hl => ?_)
        refine lv_goto (tgt := 13) hx hb dX0_drop_52 (by decide) ?_
        exact ih (cr_a (cr_a vk 0 (x2 - 1) (vk 0 x2.toNatClampNeg)) 1 (x2 - 1) (vk 1 x2.toNatClampNeg)) (x2 + 1) hE _ _ _ hW (lv_sub hl [1, 0] rfl)
  replace hE : ((f_X0_isOpen vk x1).bind fun q4 => if q4 = 0 then (some vk) else (f_X0_drop_13 10100 vk (x1 + 1))) = some out := hE
  refine lv_aload_n hx hb dX0_drop_0 rfl (lv_at hl 0 rfl) ?_
  refine lv_iload_n hx hb dX0_drop_1 rfl (lv_at hl 1 rfl) ?_
  obtain ⟨q4, hq4, hE⟩ := cr_bind hE
  refine cr_vRwq (n := 1) (As := [.int x1]) (rest := []) C hW (m_X0_isOpen L D ct ak vk x1 q4 hq4) (cwV 1 hts gX0_drop_X0_isOpen rfl rfl rfl (by decide +kernel) ⟨Nat.le_of_ble_eq_true rfl, Nat.le_of_ble_eq_true rfl⟩) [0, 1, 2] rfl 0 rfl rfl rfl hl.1 rfl (Nat.le_of_ble_eq_true rfl) dX0_drop_2 ⟨Nat.zero_le _, Nat.zero_le _⟩ (fun H locs hW => ?_)
  refine lv_if_ne (tgt := 9) hx hb dX0_drop_5 (by decide) (fun c5 => ?_) (fun c5 => ?_)
  · rw [if_neg c5] at hE
    refine lv_iload_n hx hb dX0_drop_9 rfl (lv_at hl 1 rfl) ?_
    refine lv_iconst (v := 1) hx hb dX0_drop_10 (by decide) ?_
    refine lv_iadd hx hb dX0_drop_11 ?_
    refine lv_istore_n (lv' := [(2, .int (x1 + 1)), (0, .ref (ak 0)), (1, .int x1)]) hx hb dX0_drop_12 rfl hl (by decide) rfl (fun ls hl => ?_)
    exact n13 10100 vk (x1 + 1) hE _ _ _ hW (lv_sub hl [1, 0] rfl)
  · rw [if_pos c5] at hE
    exact cr_retV C (w := (fun u : cr_V => cr_wK ct ak u)) vk hW (Option.some.inj hE) dX0_drop_8

set_option maxHeartbeats 4000000 in
set_option maxRecDepth 100000 in
theorem m_X0_dropBefore (L : Launch) (D : va_G) (ct : Nat → ClassId) (ak : Nat → Nat) (vk : cr_V) (x1 : Int32) (sz : Nat) (out : Int32 × cr_V) (hE : f_X0_dropBefore vk x1 = some out) : Met L yX0_dropBefore wsX0_dropBefore ({ frames := 0, cells := 0, slots := 0, locals := 0 } : Room) (cr_pW D ct (cr_wK ct ak vk) sz [.ref (ak 0), .int x1]) (cr_QW D (cr_wK ct ak vk) sz (fun r u => (r, u) = out) (fun u : cr_V => cr_wK ct ak u)) 0 0 (va_A (cr_wK ct ak vk) sz) := by
  have k0 : (Cond.fieldLink RX0 18 "CupReceipts$Contracts" "size" "I") ∈ wsX0_dropBefore := List.mem_of_getElem? (i := 1) rfl
  have k1 : (Cond.fieldLink RX0 9 "CupReceipts$Contracts" "months" "[I") ∈ wsX0_dropBefore := List.mem_of_getElem? (i := 2) rfl
  have k2 : (Cond.fieldLink RX0 15 "CupReceipts$Contracts" "prices" "[I") ∈ wsX0_dropBefore := List.mem_of_getElem? (i := 3) rfl
  have hinX0 : ∀ w ∈ wsX00, w ∈ wsX0_dropBefore := fun w h => List.mem_cons_of_mem _ (List.mem_append_right _ h)
  refine cr_metW (Qc := fun A => va_Qi (fun r u => (r, u) = out) (fun u t => cr_at D A ((fun u : cr_V => cr_wK ct ak u) u) t) A) (by decide) rfl rfl (Nat.le_of_ble_eq_true rfl) ?_
  intro p e s m args below meth c ls A C hW hl
  obtain ⟨hx, hb, hml, hown, hts, hr, hlocks, hK, hN⟩ := id C
  have hl : lv_has ls 4 [(0, .ref (ak 0)), (1, .int x1)] := hl
  have n49 : ∀ (k4_ : cr_V → Int32 → Int32 → Int32 → Option (Int32 × cr_V)) (ih4_ : ∀ (vk : cr_V) (x1 : Int32) (x2 : Int32) (x3 : Int32) (hE : k4_ vk x1 x2 x3 = some out) (H : Heap) (locs : List Loc) (ls : Array Slot) (hW : cr_wd D A s (cr_wK ct ak vk) H locs) (hl : lv_has ls 4 [(0, .ref (ak 0)), (1, .int x1), (2, .int x2), (3, .int x3)]), W p L e ({ frames := 0, cells := 0, slots := 0, locals := 0 } : Room) s m args below meth c H locs 0 0 (MQ below (va_Qi (fun r u => (r, u) = out) (fun u t => cr_at D A ((fun u : cr_V => cr_wK ct ak u) u) t) A) args s 0 0 A) (F0 m 4 ls [])), ∀ (vk : cr_V) (x1 : Int32) (x2 : Int32) (x3 : Int32) (hE : f_X0_dropBefore_49 k4_ vk x1 x2 x3 = some out) (H : Heap) (locs : List Loc) (ls : Array Slot) (hW : cr_wd D A s (cr_wK ct ak vk) H locs) (hl : lv_has ls 4 [(0, .ref (ak 0)), (1, .int x1), (2, .int x2), (3, .int x3)]), W p L e ({ frames := 0, cells := 0, slots := 0, locals := 0 } : Room) s m args below meth c H locs 0 0 (MQ below (va_Qi (fun r u => (r, u) = out) (fun u t => cr_at D A ((fun u : cr_V => cr_wK ct ak u) u) t) A) args s 0 0 A) (F0 m 49 ls []) := by
    intro k4_ ih4_ vk x1 x2 x3 hE H locs ls hW hl
    replace hE : (k4_ vk x1 x2 (x3 + 1)) = some out := hE
    refine lv_iinc (v := x3 + 1) (lv' := [(3, .int (x3 + 1)), (0, .ref (ak 0)), (1, .int x1), (2, .int x2)]) hx hb dX0_dropBefore_49 hl (k := 3) rfl (by first | rfl | decide) (by decide) rfl (fun ls hl => ?_)
    refine lv_goto (tgt := 4) hx hb dX0_dropBefore_52 (by decide) ?_
    exact ih4_ vk x1 x2 (x3 + 1) hE _ _ _ hW (lv_sub hl [1, 2, 3, 0] rfl)
  have n4 :  ∀ (n : Nat), ∀ (vk : cr_V) (x1 : Int32) (x2 : Int32) (x3 : Int32) (hE : f_X0_dropBefore_4  n vk x1 x2 x3 = some out) (H : Heap) (locs : List Loc) (ls : Array Slot) (hW : cr_wd D A s (cr_wK ct ak vk) H locs) (hl : lv_has ls 4 [(0, .ref (ak 0)), (1, .int x1), (2, .int x2), (3, .int x3)]), W p L e ({ frames := 0, cells := 0, slots := 0, locals := 0 } : Room) s m args below meth c H locs 0 0 (MQ below (va_Qi (fun r u => (r, u) = out) (fun u t => cr_at D A ((fun u : cr_V => cr_wK ct ak u) u) t) A) args s 0 0 A) (F0 m 4 ls []) := by
    intro  n
    induction n with
    | zero =>
      intro vk x1 x2 x3 hE
      cases hE
    | succ n ih =>
      intro vk x1 x2 x3 hE H locs ls hW hl
      replace hE : (if (vk 2 0) ≤ x3 then (some (((vk 2 0) - x2), (cr_i vk 2 x2))) else (if cr_in x3 6 = true then if (vk 0 x3.toNatClampNeg) < x1 then (f_X0_dropBefore_49 (f_X0_dropBefore_4 n) vk x1 x2 x3) else (if cr_in x2 6 = true then f_X0_dropBefore_49 (f_X0_dropBefore_4 n) (cr_a (cr_a vk 0 x2 (vk 0 x3.toNatClampNeg)) 1 x2 (vk 1 x3.toNatClampNeg)) x1 (x2 + 1) x3 else none) else none)) = some out := hE
      refine lv_iload_n hx hb dX0_dropBefore_4 rfl (lv_at hl 3 rfl) ?_
      refine lv_aload_n hx hb dX0_dropBefore_5 rfl (lv_at hl 0 rfl) ?_
      refine cr_get C hW.1 0 rfl rfl 2 (by decide) hinX0 k0 (v := .int (vk 2 0)) rfl dX0_dropBefore_6 ?_
      refine lv_icmp_ge (tgt := 55) hx hb dX0_dropBefore_9 (by decide) (fun c1 => ?_) (fun c1 => ?_)
      · rw [if_pos c1] at hE
        refine lv_aload_n hx hb dX0_dropBefore_55 rfl (lv_at hl 0 rfl) ?_
        refine cr_get C hW.1 0 rfl rfl 2 (by decide) hinX0 k0 (v := .int (vk 2 0)) rfl dX0_dropBefore_56 ?_
        refine lv_iload_n hx hb dX0_dropBefore_59 rfl (lv_at hl 2 rfl) ?_
        refine lv_isub hx hb dX0_dropBefore_60 ?_
        refine lv_istore_n (lv' := [(3, .int ((vk 2 0) - x2)), (0, .ref (ak 0)), (1, .int x1), (2, .int x2)]) hx hb dX0_dropBefore_61 rfl hl (by decide) rfl (fun ls hl => ?_)
        refine lv_aload_n hx hb dX0_dropBefore_62 rfl (lv_at hl 1 rfl) ?_
        refine lv_iload_n hx hb dX0_dropBefore_63 rfl (lv_at hl 3 rfl) ?_
        refine cr_put C hW 0 rfl rfl tyX0 tyX0_ok nmX0 2 (by decide) hinX0 k0 rfl rfl rfl rfl (Nat.le_of_ble_eq_true rfl) (w' := cr_wK ct ak (cr_i vk 2 x2)) rfl dX0_dropBefore_64 (fun H locs hW => ?_)
        refine lv_iload_n hx hb dX0_dropBefore_67 rfl (lv_at hl 0 rfl) ?_
        exact cr_retW C (w := (fun u : cr_V => cr_wK ct ak u)) (cr_i vk 2 x2) hW (Option.some.inj hE) dX0_dropBefore_68
      · rw [if_neg c1] at hE
        refine lv_aload_n hx hb dX0_dropBefore_12 rfl (lv_at hl 0 rfl) ?_
        refine cr_get C hW.1 0 rfl rfl 0 (by decide) hinX0 k1 (v := .ref (ak 1)) rfl dX0_dropBefore_13 ?_
        refine lv_iload_n hx hb dX0_dropBefore_16 rfl (lv_at hl 3 rfl) ?_
        obtain ⟨i2, hE⟩ := cr_ifn hE
        refine cr_ald C hW.1 1 (f := vk 0) rfl i2 dX0_dropBefore_17 ?_
        refine lv_iload_n hx hb dX0_dropBefore_18 rfl (lv_at hl 1 rfl) ?_
        refine lv_icmp_lt (tgt := 49) hx hb dX0_dropBefore_19 (by decide) (fun c3 => ?_) (fun c3 => ?_)
        · rw [if_pos c3] at hE
          exact n49 (f_X0_dropBefore_4 n) ih vk x1 x2 x3 hE _ _ _ hW (lv_sub hl [0, 1, 2, 3] rfl)
        · rw [if_neg c3] at hE
          refine lv_aload_n hx hb dX0_dropBefore_22 rfl (lv_at hl 0 rfl) ?_
          refine cr_get C hW.1 0 rfl rfl 0 (by decide) hinX0 k1 (v := .ref (ak 1)) rfl dX0_dropBefore_23 ?_
          refine lv_iload_n hx hb dX0_dropBefore_26 rfl (lv_at hl 2 rfl) ?_
          refine lv_aload_n hx hb dX0_dropBefore_27 rfl (lv_at hl 0 rfl) ?_
          refine cr_get C hW.1 0 rfl rfl 0 (by decide) hinX0 k1 (v := .ref (ak 1)) rfl dX0_dropBefore_28 ?_
          refine lv_iload_n hx hb dX0_dropBefore_31 rfl (lv_at hl 3 rfl) ?_
          refine cr_ald C hW.1 1 (f := vk 0) rfl i2 dX0_dropBefore_32 ?_
          obtain ⟨i4, hE⟩ := cr_ifn hE
          refine cr_ast C hW 1 rfl i4 (w' := cr_wK ct ak (cr_a vk 0 x2 (vk 0 x3.toNatClampNeg))) rfl dX0_dropBefore_33 (fun H locs hW => ?_)
          refine lv_aload_n hx hb dX0_dropBefore_34 rfl (lv_at hl 0 rfl) ?_
          refine cr_get C hW.1 0 rfl rfl 1 (by decide) hinX0 k2 (v := .ref (ak 2)) rfl dX0_dropBefore_35 ?_
          refine lv_iload_n hx hb dX0_dropBefore_38 rfl (lv_at hl 2 rfl) ?_
          refine lv_aload_n hx hb dX0_dropBefore_39 rfl (lv_at hl 0 rfl) ?_
          refine cr_get C hW.1 0 rfl rfl 1 (by decide) hinX0 k2 (v := .ref (ak 2)) rfl dX0_dropBefore_40 ?_
          refine lv_iload_n hx hb dX0_dropBefore_43 rfl (lv_at hl 3 rfl) ?_
          refine cr_ald C hW.1 2 (f := vk 1) rfl i2 dX0_dropBefore_44 ?_
          refine cr_ast C hW 2 rfl i4 (w' := cr_wK ct ak (cr_a (cr_a vk 0 x2 (vk 0 x3.toNatClampNeg)) 1 x2 (vk 1 x3.toNatClampNeg))) rfl dX0_dropBefore_45 (fun H locs hW => ?_)
          refine lv_iinc (v := x2 + 1) (lv' := [(2, .int (x2 + 1)), (0, .ref (ak 0)), (1, .int x1), (3, .int x3)]) hx hb dX0_dropBefore_46 hl (k := 2) rfl (by first | rfl | decide) (by decide) rfl (fun ls hl => ?_)
          exact n49 (f_X0_dropBefore_4 n) ih (cr_a (cr_a vk 0 x2 (vk 0 x3.toNatClampNeg)) 1 x2 (vk 1 x3.toNatClampNeg)) x1 (x2 + 1) x3 hE _ _ _ hW (lv_sub hl [1, 2, 0, 3] rfl)
  replace hE : (f_X0_dropBefore_4 10100 vk x1 0 0) = some out := hE
  refine lv_iconst (v := 0) hx hb dX0_dropBefore_0 (by decide) ?_
  refine lv_istore_n (lv' := [(2, .int 0), (0, .ref (ak 0)), (1, .int x1)]) hx hb dX0_dropBefore_1 rfl hl (by decide) rfl (fun ls hl => ?_)
  refine lv_iconst (v := 0) hx hb dX0_dropBefore_2 (by decide) ?_
  refine lv_istore_n (lv' := [(3, .int 0), (2, .int 0), (0, .ref (ak 0)), (1, .int x1)]) hx hb dX0_dropBefore_3 rfl hl (by decide) rfl (fun ls hl => ?_)
  exact n4 10100 vk x1 0 0 hE _ _ _ hW (lv_sub hl [2, 3, 1, 0] rfl)
end
