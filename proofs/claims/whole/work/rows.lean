section
-- ===== PART A: goes FIRST, ahead of the names: the tables' words, and 'selects' of the private methods out of them =====
/-- a private method of a class that the tables say can be made, by its rows of tables_1 -/
def lw_okq (q : MethodName × Nat) : Prop := (q.1.cls ≠ "java/lang/invoke/MethodHandle" ∧ q.1.cls ≠ "java/lang/invoke/VarHandle") ∧ Cond.instantiable q.1.cls q.2 ∈ tables_1 ∧ Cond.privateMethod q.1 ∈ tables_1 ∧ Cond.instanceMethod q.1 ∈ tables_1
theorem lw_p0 : lw_okq (⟨"BilletBars", "foresee", "(IIZ)V"⟩, 15) := ⟨⟨by decide +kernel, by decide +kernel⟩, List.mem_of_getElem? (i := 15) (by decide +kernel), List.mem_of_getElem? (i := 457) (by decide +kernel), List.mem_of_getElem? (i := 458) (by decide +kernel)⟩
theorem lw_p1 : lw_okq (⟨"BilletBars$Pattern", "load", "(LBilletBars$Orders;I)V"⟩, 5) := ⟨⟨by decide +kernel, by decide +kernel⟩, List.mem_of_getElem? (i := 148) (by decide +kernel), List.mem_of_getElem? (i := 475) (by decide +kernel), List.mem_of_getElem? (i := 476) (by decide +kernel)⟩
theorem lw_p2 : lw_okq (⟨"BilletBars$Pattern", "fitting", "(II)I"⟩, 5) := ⟨⟨by decide +kernel, by decide +kernel⟩, List.mem_of_getElem? (i := 148) (by decide +kernel), List.mem_of_getElem? (i := 480) (by decide +kernel), List.mem_of_getElem? (i := 481) (by decide +kernel)⟩
theorem lw_p3 : lw_okq (⟨"BilletBars$Pattern", "seekSecond", "(II)V"⟩, 5) := ⟨⟨by decide +kernel, by decide +kernel⟩, List.mem_of_getElem? (i := 148) (by decide +kernel), List.mem_of_getElem? (i := 484) (by decide +kernel), List.mem_of_getElem? (i := 485) (by decide +kernel)⟩
theorem lw_p4 : lw_okq (⟨"BilletBars$Pattern", "offer", "(III)V"⟩, 5) := ⟨⟨by decide +kernel, by decide +kernel⟩, List.mem_of_getElem? (i := 148) (by decide +kernel), List.mem_of_getElem? (i := 488) (by decide +kernel), List.mem_of_getElem? (i := 489) (by decide +kernel)⟩
theorem lw_p5 : lw_okq (⟨"BilletBars$Plan", "fillPlace", "(III)V"⟩, 11) := ⟨⟨by decide +kernel, by decide +kernel⟩, List.mem_of_getElem? (i := 260) (by decide +kernel), List.mem_of_getElem? (i := 577) (by decide +kernel), List.mem_of_getElem? (i := 578) (by decide +kernel)⟩
theorem lw_p6 : lw_okq (⟨"BilletBars$Plan", "keepIfBetter", "(II)V"⟩, 11) := ⟨⟨by decide +kernel, by decide +kernel⟩, List.mem_of_getElem? (i := 260) (by decide +kernel), List.mem_of_getElem? (i := 581) (by decide +kernel), List.mem_of_getElem? (i := 582) (by decide +kernel)⟩
theorem lw_p7 : lw_okq (⟨"BilletBars$Plan", "tryJob", "(IIII)V"⟩, 11) := ⟨⟨by decide +kernel, by decide +kernel⟩, List.mem_of_getElem? (i := 260) (by decide +kernel), List.mem_of_getElem? (i := 585) (by decide +kernel), List.mem_of_getElem? (i := 586) (by decide +kernel)⟩
theorem lw_p8 : lw_okq (⟨"BilletBars$Bars", "poorUpTo", "(I)Z"⟩, 12) := ⟨⟨by decide +kernel, by decide +kernel⟩, List.mem_of_getElem? (i := 172) (by decide +kernel), List.mem_of_getElem? (i := 635) (by decide +kernel), List.mem_of_getElem? (i := 636) (by decide +kernel)⟩
theorem lw_p9 : lw_okq (⟨"BilletBars$Bars", "poorFrom", "(I)Z"⟩, 12) := ⟨⟨by decide +kernel, by decide +kernel⟩, List.mem_of_getElem? (i := 172) (by decide +kernel), List.mem_of_getElem? (i := 639) (by decide +kernel), List.mem_of_getElem? (i := 640) (by decide +kernel)⟩
theorem lw_p10 : lw_okq (⟨"BilletBarsModel", "isProfile", "(I)Z"⟩, 52) := ⟨⟨by decide +kernel, by decide +kernel⟩, List.mem_of_getElem? (i := 735) (by decide +kernel), List.mem_of_getElem? (i := 917) (by decide +kernel), List.mem_of_getElem? (i := 918) (by decide +kernel)⟩
theorem lw_p11 : lw_okq (⟨"BilletBarsModel", "isDie", "(I)Z"⟩, 52) := ⟨⟨by decide +kernel, by decide +kernel⟩, List.mem_of_getElem? (i := 735) (by decide +kernel), List.mem_of_getElem? (i := 926) (by decide +kernel), List.mem_of_getElem? (i := 927) (by decide +kernel)⟩
theorem lw_p12 : lw_okq (⟨"BilletBarsModel", "mayPress", "(I)Z"⟩, 52) := ⟨⟨by decide +kernel, by decide +kernel⟩, List.mem_of_getElem? (i := 735) (by decide +kernel), List.mem_of_getElem? (i := 942) (by decide +kernel), List.mem_of_getElem? (i := 943) (by decide +kernel)⟩
theorem lw_p13 : lw_okq (⟨"BilletBarsModel", "findBar", "(IIZ)V"⟩, 52) := ⟨⟨by decide +kernel, by decide +kernel⟩, List.mem_of_getElem? (i := 735) (by decide +kernel), List.mem_of_getElem? (i := 967) (by decide +kernel), List.mem_of_getElem? (i := 968) (by decide +kernel)⟩
theorem lw_p14 : lw_okq (⟨"BilletBarsModel", "findPattern", "(II)V"⟩, 52) := ⟨⟨by decide +kernel, by decide +kernel⟩, List.mem_of_getElem? (i := 735) (by decide +kernel), List.mem_of_getElem? (i := 972) (by decide +kernel), List.mem_of_getElem? (i := 973) (by decide +kernel)⟩
theorem lw_p15 : lw_okq (⟨"BilletBarsModel", "most", "(II)I"⟩, 52) := ⟨⟨by decide +kernel, by decide +kernel⟩, List.mem_of_getElem? (i := 735) (by decide +kernel), List.mem_of_getElem? (i := 976) (by decide +kernel), List.mem_of_getElem? (i := 977) (by decide +kernel)⟩
def lw_privs_1 : List (MethodName × Nat) := [(⟨"BilletBars", "foresee", "(IIZ)V"⟩, 15), (⟨"BilletBars$Pattern", "load", "(LBilletBars$Orders;I)V"⟩, 5), (⟨"BilletBars$Pattern", "fitting", "(II)I"⟩, 5), (⟨"BilletBars$Pattern", "seekSecond", "(II)V"⟩, 5), (⟨"BilletBars$Pattern", "offer", "(III)V"⟩, 5), (⟨"BilletBars$Plan", "fillPlace", "(III)V"⟩, 11), (⟨"BilletBars$Plan", "keepIfBetter", "(II)V"⟩, 11), (⟨"BilletBars$Plan", "tryJob", "(IIII)V"⟩, 11), (⟨"BilletBars$Bars", "poorUpTo", "(I)Z"⟩, 12), (⟨"BilletBars$Bars", "poorFrom", "(I)Z"⟩, 12), (⟨"BilletBarsModel", "isProfile", "(I)Z"⟩, 52), (⟨"BilletBarsModel", "isDie", "(I)Z"⟩, 52), (⟨"BilletBarsModel", "mayPress", "(I)Z"⟩, 52), (⟨"BilletBarsModel", "findBar", "(IIZ)V"⟩, 52), (⟨"BilletBarsModel", "findPattern", "(II)V"⟩, 52), (⟨"BilletBarsModel", "most", "(II)I"⟩, 52)]
theorem lw_r1 : ∀ q ∈ lw_privs_1, lw_okq q := List.forall_mem_cons.mpr ⟨lw_p0, List.forall_mem_cons.mpr ⟨lw_p1, List.forall_mem_cons.mpr ⟨lw_p2, List.forall_mem_cons.mpr ⟨lw_p3, List.forall_mem_cons.mpr ⟨lw_p4, List.forall_mem_cons.mpr ⟨lw_p5, List.forall_mem_cons.mpr ⟨lw_p6, List.forall_mem_cons.mpr ⟨lw_p7, List.forall_mem_cons.mpr ⟨lw_p8, List.forall_mem_cons.mpr ⟨lw_p9, List.forall_mem_cons.mpr ⟨lw_p10, List.forall_mem_cons.mpr ⟨lw_p11, List.forall_mem_cons.mpr ⟨lw_p12, List.forall_mem_cons.mpr ⟨lw_p13, List.forall_mem_cons.mpr ⟨lw_p14, List.forall_mem_cons.mpr ⟨lw_p15, fun _ h => absurd h List.not_mem_nil⟩⟩⟩⟩⟩⟩⟩⟩⟩⟩⟩⟩⟩⟩⟩⟩
theorem lw_p16 : lw_okq (⟨"BilletBarsModel", "lengthOf", "(II)I"⟩, 52) := ⟨⟨by decide +kernel, by decide +kernel⟩, List.mem_of_getElem? (i := 735) (by decide +kernel), List.mem_of_getElem? (i := 980) (by decide +kernel), List.mem_of_getElem? (i := 981) (by decide +kernel)⟩
theorem lw_p17 : lw_okq (⟨"BilletBarsModel", "isBar", "(I)Z"⟩, 52) := ⟨⟨by decide +kernel, by decide +kernel⟩, List.mem_of_getElem? (i := 735) (by decide +kernel), List.mem_of_getElem? (i := 988) (by decide +kernel), List.mem_of_getElem? (i := 989) (by decide +kernel)⟩
theorem lw_p18 : lw_okq (⟨"BilletBarsModel", "findOrder", "()I"⟩, 52) := ⟨⟨by decide +kernel, by decide +kernel⟩, List.mem_of_getElem? (i := 735) (by decide +kernel), List.mem_of_getElem? (i := 1032) (by decide +kernel), List.mem_of_getElem? (i := 1033) (by decide +kernel)⟩
theorem lw_p19 : lw_okq (⟨"BilletBarsModel", "nextRow", "()Z"⟩, 52) := ⟨⟨by decide +kernel, by decide +kernel⟩, List.mem_of_getElem? (i := 735) (by decide +kernel), List.mem_of_getElem? (i := 1036) (by decide +kernel), List.mem_of_getElem? (i := 1037) (by decide +kernel)⟩
theorem lw_p20 : lw_okq (⟨"BilletBarsModel", "noneGone", "()V"⟩, 52) := ⟨⟨by decide +kernel, by decide +kernel⟩, List.mem_of_getElem? (i := 735) (by decide +kernel), List.mem_of_getElem? (i := 1053) (by decide +kernel), List.mem_of_getElem? (i := 1054) (by decide +kernel)⟩
theorem lw_p21 : lw_okq (⟨"BilletBarsModel", "takes", "()I"⟩, 52) := ⟨⟨by decide +kernel, by decide +kernel⟩, List.mem_of_getElem? (i := 735) (by decide +kernel), List.mem_of_getElem? (i := 1057) (by decide +kernel), List.mem_of_getElem? (i := 1058) (by decide +kernel)⟩
theorem lw_p22 : lw_okq (⟨"BilletBarsModel", "waits", "(I)Z"⟩, 52) := ⟨⟨by decide +kernel, by decide +kernel⟩, List.mem_of_getElem? (i := 735) (by decide +kernel), List.mem_of_getElem? (i := 1061) (by decide +kernel), List.mem_of_getElem? (i := 1062) (by decide +kernel)⟩
theorem lw_p23 : lw_okq (⟨"BilletBarsModel", "isSuspect", "(I)Z"⟩, 52) := ⟨⟨by decide +kernel, by decide +kernel⟩, List.mem_of_getElem? (i := 735) (by decide +kernel), List.mem_of_getElem? (i := 1077) (by decide +kernel), List.mem_of_getElem? (i := 1078) (by decide +kernel)⟩
theorem lw_p24 : lw_okq (⟨"BilletBarsModel", "met", "(I)I"⟩, 52) := ⟨⟨by decide +kernel, by decide +kernel⟩, List.mem_of_getElem? (i := 735) (by decide +kernel), List.mem_of_getElem? (i := 1099) (by decide +kernel), List.mem_of_getElem? (i := 1100) (by decide +kernel)⟩
theorem lw_p25 : lw_okq (⟨"BilletBarsModel", "lacks", "(III)I"⟩, 52) := ⟨⟨by decide +kernel, by decide +kernel⟩, List.mem_of_getElem? (i := 735) (by decide +kernel), List.mem_of_getElem? (i := 1111) (by decide +kernel), List.mem_of_getElem? (i := 1112) (by decide +kernel)⟩
theorem lw_p26 : lw_okq (⟨"BilletBarsModel", "waiting", "()I"⟩, 52) := ⟨⟨by decide +kernel, by decide +kernel⟩, List.mem_of_getElem? (i := 735) (by decide +kernel), List.mem_of_getElem? (i := 1128) (by decide +kernel), List.mem_of_getElem? (i := 1129) (by decide +kernel)⟩
def lw_privs_2 : List (MethodName × Nat) := [(⟨"BilletBarsModel", "lengthOf", "(II)I"⟩, 52), (⟨"BilletBarsModel", "isBar", "(I)Z"⟩, 52), (⟨"BilletBarsModel", "findOrder", "()I"⟩, 52), (⟨"BilletBarsModel", "nextRow", "()Z"⟩, 52), (⟨"BilletBarsModel", "noneGone", "()V"⟩, 52), (⟨"BilletBarsModel", "takes", "()I"⟩, 52), (⟨"BilletBarsModel", "waits", "(I)Z"⟩, 52), (⟨"BilletBarsModel", "isSuspect", "(I)Z"⟩, 52), (⟨"BilletBarsModel", "met", "(I)I"⟩, 52), (⟨"BilletBarsModel", "lacks", "(III)I"⟩, 52), (⟨"BilletBarsModel", "waiting", "()I"⟩, 52)]
theorem lw_r2 : ∀ q ∈ lw_privs_2, lw_okq q := List.forall_mem_cons.mpr ⟨lw_p16, List.forall_mem_cons.mpr ⟨lw_p17, List.forall_mem_cons.mpr ⟨lw_p18, List.forall_mem_cons.mpr ⟨lw_p19, List.forall_mem_cons.mpr ⟨lw_p20, List.forall_mem_cons.mpr ⟨lw_p21, List.forall_mem_cons.mpr ⟨lw_p22, List.forall_mem_cons.mpr ⟨lw_p23, List.forall_mem_cons.mpr ⟨lw_p24, List.forall_mem_cons.mpr ⟨lw_p25, List.forall_mem_cons.mpr ⟨lw_p26, fun _ h => absurd h List.not_mem_nil⟩⟩⟩⟩⟩⟩⟩⟩⟩⟩⟩
def lw_privs : List (MethodName × Nat) := lw_privs_1 ++ (lw_privs_2)
def lw_tbl : List Cond := k2_sels lw_privs ++ tables_1
theorem lw_privs_ok : ∀ q ∈ lw_privs, lw_okq q := by
  show ∀ q ∈ lw_privs_1 ++ (lw_privs_2), lw_okq q
  exact List.forall_mem_append.mpr ⟨lw_r1, lw_r2⟩
end
section
def RX0 : String := "BilletBars$Accounts"
def TX0 : u_T := fun k => match k with
  | 0 => ("BilletBars$Accounts", "heads", "I", false)
  | 1 => ("BilletBars$Accounts", "tails", "I", false)
  | 2 => ("BilletBars$Accounts", "welds", "I", false)
  | 3 => ("BilletBars$Accounts", "goods", "I", false)
  | 4 => ("BilletBars$Accounts", "cutOff", "I", false)
  | 5 => ("BilletBars$Accounts", "lengths", "I", false)
  | _ => ("BilletBars$Accounts", "billets", "I", false)
def tyX0 : Nat → FieldType := fun k => match k with
  | 0 => .int
  | 1 => .int
  | 2 => .int
  | 3 => .int
  | 4 => .int
  | 5 => .int
  | _ => .int
theorem nmX0 : ∀ a, a < 7 → ∀ b, b < 7 → a ≠ b → (TX0 a).2.1 ≠ (TX0 b).2.1 := by decide +kernel
theorem tyX0_ok : ∀ k, k < 7 → parseFieldDescriptor (TX0 k).2.2.1 = some (tyX0 k) := by decide +kernel
abbrev cX0_init : ByteArray := prog_2_method_1_code
def yX0_init : MethodName := ⟨RX0, "<init>", "()V"⟩
abbrev cX0_enter : ByteArray := prog_2_method_2_code
def yX0_enter : MethodName := ⟨RX0, "enter", "(LBilletBars$Shot;)V"⟩
def RX1 : String := "BilletBars$Bars"
def TX1 : u_T := fun k => match k with
  | 0 => ("BilletBars$Bars", "die", "[I", true)
  | 1 => ("BilletBars$Bars", "billet", "[I", true)
  | 2 => ("BilletBars$Bars", "length", "[I", true)
  | 3 => ("BilletBars$Bars", "goods", "[I", true)
  | 4 => ("BilletBars$Bars", "cutOff", "[I", true)
  | 5 => ("BilletBars$Bars", "weld", "[I", true)
  | 6 => ("BilletBars$Bars", "batch", "[I", true)
  | 7 => ("BilletBars$Bars", "recipe", "[I", true)
  | 8 => ("BilletBars$Bars", "grams", "[I", true)
  | 9 => ("BilletBars$Bars", "look", "[I", true)
  | 10 => ("BilletBars$Bars", "size", "I", false)
  | _ => ("BilletBars$Bars", "latestTick", "I", false)
def tyX1 : Nat → FieldType := fun k => match k with
  | 0 => .array .int
  | 1 => .array .int
  | 2 => .array .int
  | 3 => .array .int
  | 4 => .array .int
  | 5 => .array .int
  | 6 => .array .int
  | 7 => .array .int
  | 8 => .array .int
  | 9 => .array .int
  | 10 => .int
  | _ => .int
theorem nmX1 : ∀ a, a < 12 → ∀ b, b < 12 → a ≠ b → (TX1 a).2.1 ≠ (TX1 b).2.1 := by decide +kernel
theorem tyX1_ok : ∀ k, k < 12 → parseFieldDescriptor (TX1 k).2.2.1 = some (tyX1 k) := by decide +kernel
abbrev cX1_init : ByteArray := prog_3_method_1_code
def yX1_init : MethodName := ⟨RX1, "<init>", "()V"⟩
abbrev cX1_has : ByteArray := prog_3_method_2_code
def yX1_has : MethodName := ⟨RX1, "has", "(I)Z"⟩
abbrev cX1_latestWas : ByteArray := prog_3_method_3_code
def yX1_latestWas : MethodName := ⟨RX1, "latestWas", "(II)Z"⟩
abbrev cX1_add : ByteArray := prog_3_method_4_code
def yX1_add : MethodName := ⟨RX1, "add", "(ILBilletBars$Shot;III)V"⟩
abbrev cX1_waits : ByteArray := prog_3_method_5_code
def yX1_waits : MethodName := ⟨RX1, "waits", "(I)Z"⟩
abbrev cX1_waiting : ByteArray := prog_3_method_6_code
def yX1_waiting : MethodName := ⟨RX1, "waiting", "()I"⟩
abbrev cX1_firstWaiting : ByteArray := prog_3_method_7_code
def yX1_firstWaiting : MethodName := ⟨RX1, "firstWaiting", "()I"⟩
abbrev cX1_fillOven : ByteArray := prog_3_method_8_code
def yX1_fillOven : MethodName := ⟨RX1, "fillOven", "(III)I"⟩
abbrev cX1_ovensNeeded : ByteArray := prog_3_method_9_code
def yX1_ovensNeeded : MethodName := ⟨RX1, "ovensNeeded", "(II)I"⟩
abbrev cX1_isSuspect : ByteArray := prog_3_method_10_code
def yX1_isSuspect : MethodName := ⟨RX1, "isSuspect", "(I)Z"⟩
abbrev cX1_poorUpTo : ByteArray := prog_3_method_11_code
def yX1_poorUpTo : MethodName := ⟨RX1, "poorUpTo", "(I)Z"⟩
abbrev cX1_poorFrom : ByteArray := prog_3_method_12_code
def yX1_poorFrom : MethodName := ⟨RX1, "poorFrom", "(I)Z"⟩
def RX2 : String := "BilletBars$Dies"
def TX2 : u_T := fun k => match k with
  | 0 => ("BilletBars$Dies", "profile", "[I", true)
  | 1 => ("BilletBars$Dies", "limit", "[I", true)
  | 2 => ("BilletBars$Dies", "shots", "[I", true)
  | 3 => ("BilletBars$Dies", "shotsEver", "[I", true)
  | 4 => ("BilletBars$Dies", "warmSince", "[I", true)
  | _ => ("BilletBars$Dies", "size", "I", false)
def tyX2 : Nat → FieldType := fun k => match k with
  | 0 => .array .int
  | 1 => .array .int
  | 2 => .array .int
  | 3 => .array .int
  | 4 => .array .int
  | _ => .int
theorem nmX2 : ∀ a, a < 6 → ∀ b, b < 6 → a ≠ b → (TX2 a).2.1 ≠ (TX2 b).2.1 := by decide +kernel
theorem tyX2_ok : ∀ k, k < 6 → parseFieldDescriptor (TX2 k).2.2.1 = some (tyX2 k) := by decide +kernel
abbrev cX2_init : ByteArray := prog_4_method_1_code
def yX2_init : MethodName := ⟨RX2, "<init>", "()V"⟩
abbrev cX2_has : ByteArray := prog_4_method_2_code
def yX2_has : MethodName := ⟨RX2, "has", "(I)Z"⟩
abbrev cX2_add : ByteArray := prog_4_method_3_code
def yX2_add : MethodName := ⟨RX2, "add", "(II)I"⟩
abbrev cX2_isWarm : ByteArray := prog_4_method_4_code
def yX2_isWarm : MethodName := ⟨RX2, "isWarm", "(I)Z"⟩
abbrev cX2_ticksWarm : ByteArray := prog_4_method_5_code
def yX2_ticksWarm : MethodName := ⟨RX2, "ticksWarm", "(II)I"⟩
abbrev cX2_mayPress : ByteArray := prog_4_method_6_code
def yX2_mayPress : MethodName := ⟨RX2, "mayPress", "(II)Z"⟩
abbrev cX2_leastWorn : ByteArray := prog_4_method_7_code
def yX2_leastWorn : MethodName := ⟨RX2, "leastWorn", "(II)I"⟩
abbrev cX2_wear : ByteArray := prog_4_method_8_code
def yX2_wear : MethodName := ⟨RX2, "wear", "(I)V"⟩
def RX3 : String := "BilletBars$Orders"
def TX3 : u_T := fun k => match k with
  | 0 => ("BilletBars$Orders", "size", "[I", true)
  | 1 => ("BilletBars$Orders", "length", "[I", true)
  | _ => ("BilletBars$Orders", "wanted", "[I", true)
def tyX3 : Nat → FieldType := fun k => match k with
  | 0 => .array .int
  | 1 => .array .int
  | _ => .array .int
theorem nmX3 : ∀ a, a < 3 → ∀ b, b < 3 → a ≠ b → (TX3 a).2.1 ≠ (TX3 b).2.1 := by decide +kernel
theorem tyX3_ok : ∀ k, k < 3 → parseFieldDescriptor (TX3 k).2.2.1 = some (tyX3 k) := by decide +kernel
abbrev cX3_init : ByteArray := prog_5_method_1_code
def yX3_init : MethodName := ⟨RX3, "<init>", "()V"⟩
abbrev cX3_add : ByteArray := prog_5_method_2_code
def yX3_add : MethodName := ⟨RX3, "add", "(III)I"⟩
abbrev cX3_serve : ByteArray := prog_5_method_3_code
def yX3_serve : MethodName := ⟨RX3, "serve", "(I[I)V"⟩
def RX4 : String := "BilletBars$Pattern"
def TX4 : u_T := fun k => match k with
  | 0 => ("BilletBars$Pattern", "pieces", "[I", true)
  | 1 => ("BilletBars$Pattern", "goods", "I", false)
  | 2 => ("BilletBars$Pattern", "length", "[I", true)
  | 3 => ("BilletBars$Pattern", "most", "[I", true)
  | _ => ("BilletBars$Pattern", "cutWidth", "I", false)
def tyX4 : Nat → FieldType := fun k => match k with
  | 0 => .array .int
  | 1 => .int
  | 2 => .array .int
  | 3 => .array .int
  | _ => .int
theorem nmX4 : ∀ a, a < 5 → ∀ b, b < 5 → a ≠ b → (TX4 a).2.1 ≠ (TX4 b).2.1 := by decide +kernel
theorem tyX4_ok : ∀ k, k < 5 → parseFieldDescriptor (TX4 k).2.2.1 = some (tyX4 k) := by decide +kernel
abbrev cX4_init : ByteArray := prog_6_method_1_code
def yX4_init : MethodName := ⟨RX4, "<init>", "()V"⟩
abbrev cX4_seek : ByteArray := prog_6_method_2_code
def yX4_seek : MethodName := ⟨RX4, "seek", "(LBilletBars$Orders;III)V"⟩
abbrev cX4_load : ByteArray := prog_6_method_3_code
def yX4_load : MethodName := ⟨RX4, "load", "(LBilletBars$Orders;I)V"⟩
abbrev cX4_seekSecond : ByteArray := prog_6_method_4_code
def yX4_seekSecond : MethodName := ⟨RX4, "seekSecond", "(II)V"⟩
abbrev cX4_fitting : ByteArray := prog_6_method_5_code
def yX4_fitting : MethodName := ⟨RX4, "fitting", "(II)I"⟩
abbrev cX4_offer : ByteArray := prog_6_method_6_code
def yX4_offer : MethodName := ⟨RX4, "offer", "(III)V"⟩
def RX5 : String := "BilletBars$Plan"
def TX5 : u_T := fun k => match k with
  | 0 => ("BilletBars$Plan", "sequence", "[I", true)
  | 1 => ("BilletBars$Plan", "size", "I", false)
  | 2 => ("BilletBars$Plan", "leastLate", "I", false)
  | 3 => ("BilletBars$Plan", "alloy", "[I", true)
  | 4 => ("BilletBars$Plan", "ticks", "[I", true)
  | 5 => ("BilletBars$Plan", "due", "[I", true)
  | 6 => ("BilletBars$Plan", "trial", "[I", true)
  | 7 => ("BilletBars$Plan", "used", "[Z", true)
  | 8 => ("BilletBars$Plan", "gap", "I", false)
  | 9 => ("BilletBars$Plan", "leastEnd", "I", false)
  | _ => ("BilletBars$Plan", "settled", "Z", false)
def tyX5 : Nat → FieldType := fun k => match k with
  | 0 => .array .int
  | 1 => .int
  | 2 => .int
  | 3 => .array .int
  | 4 => .array .int
  | 5 => .array .int
  | 6 => .array .int
  | 7 => .array .boolean
  | 8 => .int
  | 9 => .int
  | _ => .boolean
theorem nmX5 : ∀ a, a < 11 → ∀ b, b < 11 → a ≠ b → (TX5 a).2.1 ≠ (TX5 b).2.1 := by decide +kernel
theorem tyX5_ok : ∀ k, k < 11 → parseFieldDescriptor (TX5 k).2.2.1 = some (tyX5 k) := by decide +kernel
abbrev cX5_init : ByteArray := prog_7_method_1_code
def yX5_init : MethodName := ⟨RX5, "<init>", "()V"⟩
abbrev cX5_add : ByteArray := prog_7_method_2_code
def yX5_add : MethodName := ⟨RX5, "add", "(III)I"⟩
abbrev cX5_setGap : ByteArray := prog_7_method_3_code
def yX5_setGap : MethodName := ⟨RX5, "setGap", "(I)I"⟩
abbrev cX5_settle : ByteArray := prog_7_method_4_code
def yX5_settle : MethodName := ⟨RX5, "settle", "()V"⟩
abbrev cX5_fillPlace : ByteArray := prog_7_method_5_code
def yX5_fillPlace : MethodName := ⟨RX5, "fillPlace", "(III)V"⟩
abbrev cX5_tryJob : ByteArray := prog_7_method_6_code
def yX5_tryJob : MethodName := ⟨RX5, "tryJob", "(IIII)V"⟩
abbrev cX5_keepIfBetter : ByteArray := prog_7_method_7_code
def yX5_keepIfBetter : MethodName := ⟨RX5, "keepIfBetter", "(II)V"⟩
def RX6 : String := "BilletBars$Profiles"
def TX6 : u_T := fun k => match k with
  | 0 => ("BilletBars$Profiles", "alloy", "[I", true)
  | 1 => ("BilletBars$Profiles", "ratio", "[I", true)
  | 2 => ("BilletBars$Profiles", "recipe", "[I", true)
  | 3 => ("BilletBars$Profiles", "grams", "[I", true)
  | _ => ("BilletBars$Profiles", "size", "I", false)
def tyX6 : Nat → FieldType := fun k => match k with
  | 0 => .array .int
  | 1 => .array .int
  | 2 => .array .int
  | 3 => .array .int
  | _ => .int
theorem nmX6 : ∀ a, a < 5 → ∀ b, b < 5 → a ≠ b → (TX6 a).2.1 ≠ (TX6 b).2.1 := by decide +kernel
theorem tyX6_ok : ∀ k, k < 5 → parseFieldDescriptor (TX6 k).2.2.1 = some (tyX6 k) := by decide +kernel
abbrev cX6_init : ByteArray := prog_8_method_1_code
def yX6_init : MethodName := ⟨RX6, "<init>", "()V"⟩
abbrev cX6_has : ByteArray := prog_8_method_2_code
def yX6_has : MethodName := ⟨RX6, "has", "(I)Z"⟩
abbrev cX6_add : ByteArray := prog_8_method_3_code
def yX6_add : MethodName := ⟨RX6, "add", "(IIII)I"⟩
def RX7 : String := "BilletBars$Sheets"
def TX7 : u_T := fun k => match k with
  | 0 => ("BilletBars$Sheets", "items", "[I", true)
  | 1 => ("BilletBars$Sheets", "finding", "I", false)
  | 2 => ("BilletBars$Sheets", "forms", "[I", true)
  | _ => ("BilletBars$Sheets", "sizes", "[I", true)
def tyX7 : Nat → FieldType := fun k => match k with
  | 0 => .array .int
  | 1 => .int
  | 2 => .array .int
  | _ => .array .int
theorem nmX7 : ∀ a, a < 4 → ∀ b, b < 4 → a ≠ b → (TX7 a).2.1 ≠ (TX7 b).2.1 := by decide +kernel
theorem tyX7_ok : ∀ k, k < 4 → parseFieldDescriptor (TX7 k).2.2.1 = some (tyX7 k) := by decide +kernel
abbrev cX7_init : ByteArray := prog_9_method_1_code
def yX7_init : MethodName := ⟨RX7, "<init>", "()V"⟩
abbrev cX7_found : ByteArray := prog_9_method_2_code
def yX7_found : MethodName := ⟨RX7, "found", "(I)I"⟩
abbrev cX7_renew : ByteArray := prog_9_method_3_code
def yX7_renew : MethodName := ⟨RX7, "renew", "(III)I"⟩
abbrev cX7_discard : ByteArray := prog_9_method_4_code
def yX7_discard : MethodName := ⟨RX7, "discard", "(I)I"⟩
abbrev cX7_faultOf : ByteArray := prog_9_method_5_code
def yX7_faultOf : MethodName := ⟨RX7, "faultOf", "(III)I"⟩
abbrev cX7_write : ByteArray := prog_9_method_6_code
def yX7_write : MethodName := ⟨RX7, "write", "(III)V"⟩
abbrev cX7_move : ByteArray := prog_9_method_7_code
def yX7_move : MethodName := ⟨RX7, "move", "(IIIII)I"⟩
abbrev cX7_weight : ByteArray := prog_9_method_8_code
def yX7_weight : MethodName := ⟨RX7, "weight", "(I)I"⟩
def RX8 : String := "BilletBars$Shot"
def TX8 : u_T := fun k => match k with
  | 0 => ("BilletBars$Shot", "billet", "I", false)
  | 1 => ("BilletBars$Shot", "length", "I", false)
  | 2 => ("BilletBars$Shot", "head", "I", false)
  | 3 => ("BilletBars$Shot", "tail", "I", false)
  | 4 => ("BilletBars$Shot", "weld", "I", false)
  | 5 => ("BilletBars$Shot", "usable", "I", false)
  | 6 => ("BilletBars$Shot", "goods", "I", false)
  | _ => ("BilletBars$Shot", "cutOff", "I", false)
def tyX8 : Nat → FieldType := fun k => match k with
  | 0 => .int
  | 1 => .int
  | 2 => .int
  | 3 => .int
  | 4 => .int
  | 5 => .int
  | 6 => .int
  | _ => .int
theorem nmX8 : ∀ a, a < 8 → ∀ b, b < 8 → a ≠ b → (TX8 a).2.1 ≠ (TX8 b).2.1 := by decide +kernel
theorem tyX8_ok : ∀ k, k < 8 → parseFieldDescriptor (TX8 k).2.2.1 = some (tyX8 k) := by decide +kernel
abbrev cX8_init : ByteArray := prog_10_method_1_code
def yX8_init : MethodName := ⟨RX8, "<init>", "()V"⟩
abbrev cX8_trim : ByteArray := prog_10_method_2_code
def yX8_trim : MethodName := ⟨RX8, "trim", "([IIIZ)V"⟩
abbrev cX8_share : ByteArray := prog_10_method_3_code
def yX8_share : MethodName := ⟨RX8, "share", "(I)V"⟩
def RX9 : String := "BilletBars"
def TX9 : u_T := fun k => match k with
  | 0 => ("BilletBars", "profiles", "LBilletBars$Profiles;", true)
  | 1 => ("BilletBars", "orders", "LBilletBars$Orders;", true)
  | 2 => ("BilletBars", "dies", "LBilletBars$Dies;", true)
  | 3 => ("BilletBars", "laws", "[I", true)
  | 4 => ("BilletBars", "shot", "LBilletBars$Shot;", true)
  | 5 => ("BilletBars", "pattern", "LBilletBars$Pattern;", true)
  | 6 => ("BilletBars", "bars", "LBilletBars$Bars;", true)
  | 7 => ("BilletBars", "accounts", "LBilletBars$Accounts;", true)
  | 8 => ("BilletBars", "stockLengths", "[I", true)
  | 9 => ("BilletBars", "plan", "LBilletBars$Plan;", true)
  | 10 => ("BilletBars", "sheets", "LBilletBars$Sheets;", true)
  | 11 => ("BilletBars", "tick", "I", false)
  | 12 => ("BilletBars", "stockSize", "I", false)
  | 13 => ("BilletBars", "ovenRoom", "I", false)
  | _ => ("BilletBars", "batchesDone", "I", false)
def tyX9 : Nat → FieldType := fun k => match k with
  | 0 => .object "BilletBars$Profiles"
  | 1 => .object "BilletBars$Orders"
  | 2 => .object "BilletBars$Dies"
  | 3 => .array .int
  | 4 => .object "BilletBars$Shot"
  | 5 => .object "BilletBars$Pattern"
  | 6 => .object "BilletBars$Bars"
  | 7 => .object "BilletBars$Accounts"
  | 8 => .array .int
  | 9 => .object "BilletBars$Plan"
  | 10 => .object "BilletBars$Sheets"
  | 11 => .int
  | 12 => .int
  | 13 => .int
  | _ => .int
theorem nmX9 : ∀ a, a < 15 → ∀ b, b < 15 → a ≠ b → (TX9 a).2.1 ≠ (TX9 b).2.1 := by decide +kernel
theorem tyX9_ok : ∀ k, k < 15 → parseFieldDescriptor (TX9 k).2.2.1 = some (tyX9 k) := by decide +kernel
abbrev cX9_init : ByteArray := prog_1_method_1_code
def yX9_init : MethodName := ⟨RX9, "<init>", "()V"⟩
abbrev cX9_profile : ByteArray := prog_1_method_2_code
def yX9_profile : MethodName := ⟨RX9, "profile", "(IIII)I"⟩
abbrev cX9_die : ByteArray := prog_1_method_3_code
def yX9_die : MethodName := ⟨RX9, "die", "(II)I"⟩
abbrev cX9_warm : ByteArray := prog_1_method_4_code
def yX9_warm : MethodName := ⟨RX9, "warm", "(I)I"⟩
abbrev cX9_cool : ByteArray := prog_1_method_5_code
def yX9_cool : MethodName := ⟨RX9, "cool", "(I)I"⟩
abbrev cX9_nitride : ByteArray := prog_1_method_6_code
def yX9_nitride : MethodName := ⟨RX9, "nitride", "(I)I"⟩
abbrev cX9_about : ByteArray := prog_1_method_7_code
def yX9_about : MethodName := ⟨RX9, "about", "(II)I"⟩
abbrev cX9_ready : ByteArray := prog_1_method_8_code
def yX9_ready : MethodName := ⟨RX9, "ready", "(I)I"⟩
abbrev cX9_pass : ByteArray := prog_1_method_9_code
def yX9_pass : MethodName := ⟨RX9, "pass", "(I)I"⟩
abbrev cX9_law : ByteArray := prog_1_method_10_code
def yX9_law : MethodName := ⟨RX9, "law", "(II)I"⟩
abbrev cX9_press : ByteArray := prog_1_method_11_code
def yX9_press : MethodName := ⟨RX9, "press", "(II)I"⟩
abbrev cX9_bar : ByteArray := prog_1_method_12_code
def yX9_bar : MethodName := ⟨RX9, "bar", "(II)I"⟩
abbrev cX9_order : ByteArray := prog_1_method_13_code
def yX9_order : MethodName := ⟨RX9, "order", "(III)I"⟩
abbrev cX9_wanted : ByteArray := prog_1_method_14_code
def yX9_wanted : MethodName := ⟨RX9, "wanted", "(II)I"⟩
abbrev cX9_pattern : ByteArray := prog_1_method_15_code
def yX9_pattern : MethodName := ⟨RX9, "pattern", "(III)I"⟩
abbrev cX9_account : ByteArray := prog_1_method_16_code
def yX9_account : MethodName := ⟨RX9, "account", "(I)I"⟩
abbrev cX9_stock : ByteArray := prog_1_method_17_code
def yX9_stock : MethodName := ⟨RX9, "stock", "(I)I"⟩
abbrev cX9_best : ByteArray := prog_1_method_18_code
def yX9_best : MethodName := ⟨RX9, "best", "(IZ)I"⟩
abbrev cX9_job : ByteArray := prog_1_method_19_code
def yX9_job : MethodName := ⟨RX9, "job", "(III)I"⟩
abbrev cX9_change : ByteArray := prog_1_method_20_code
def yX9_change : MethodName := ⟨RX9, "change", "(I)I"⟩
abbrev cX9_late : ByteArray := prog_1_method_21_code
def yX9_late : MethodName := ⟨RX9, "late", "()I"⟩
abbrev cX9_planned : ByteArray := prog_1_method_22_code
def yX9_planned : MethodName := ⟨RX9, "planned", "(I)I"⟩
abbrev cX9_room : ByteArray := prog_1_method_23_code
def yX9_room : MethodName := ⟨RX9, "room", "(I)I"⟩
abbrev cX9_age : ByteArray := prog_1_method_24_code
def yX9_age : MethodName := ⟨RX9, "age", "()I"⟩
abbrev cX9_batches : ByteArray := prog_1_method_25_code
def yX9_batches : MethodName := ⟨RX9, "batches", "()I"⟩
abbrev cX9_sample : ByteArray := prog_1_method_26_code
def yX9_sample : MethodName := ⟨RX9, "sample", "(IZ)I"⟩
abbrev cX9_suspect : ByteArray := prog_1_method_27_code
def yX9_suspect : MethodName := ⟨RX9, "suspect", "(I)I"⟩
abbrev cX9_held : ByteArray := prog_1_method_28_code
def yX9_held : MethodName := ⟨RX9, "held", "()I"⟩
abbrev cX9_drift : ByteArray := prog_1_method_29_code
def yX9_drift : MethodName := ⟨RX9, "drift", "(II)I"⟩
abbrev cX9_sheet : ByteArray := prog_1_method_30_code
def yX9_sheet : MethodName := ⟨RX9, "sheet", "(III)I"⟩
abbrev cX9_lose : ByteArray := prog_1_method_31_code
def yX9_lose : MethodName := ⟨RX9, "lose", "(I)I"⟩
abbrev cX9_put : ByteArray := prog_1_method_32_code
def yX9_put : MethodName := ⟨RX9, "put", "(IIII)I"⟩
abbrev cX9_get : ByteArray := prog_1_method_33_code
def yX9_get : MethodName := ⟨RX9, "get", "(III)I"⟩
abbrev cX9_copy : ByteArray := prog_1_method_34_code
def yX9_copy : MethodName := ⟨RX9, "copy", "(IIIII)I"⟩
abbrev cX9_count : ByteArray := prog_1_method_35_code
def yX9_count : MethodName := ⟨RX9, "count", "(I)I"⟩
abbrev cX9_digest : ByteArray := prog_1_method_36_code
def yX9_digest : MethodName := ⟨RX9, "digest", "()J"⟩
abbrev cX9_within : ByteArray := prog_1_method_37_code
def yX9_within : MethodName := ⟨RX9, "within", "(III)Z"⟩
abbrev cX9_isSheet : ByteArray := prog_1_method_38_code
def yX9_isSheet : MethodName := ⟨RX9, "isSheet", "(I)Z"⟩
abbrev cX9_isForm : ByteArray := prog_1_method_39_code
def yX9_isForm : MethodName := ⟨RX9, "isForm", "(I)Z"⟩
abbrev cX9_foresee : ByteArray := prog_1_method_40_code
def yX9_foresee : MethodName := ⟨RX9, "foresee", "(IIZ)V"⟩
abbrev cX9_paysMore : ByteArray := prog_1_method_41_code
def yX9_paysMore : MethodName := ⟨RX9, "paysMore", "(IIII)Z"⟩
def RX10 : String := "BilletBarsModel"
def TX10 : u_T := fun k => match k with
  | 0 => ("BilletBarsModel", "laws", "[I", true)
  | 1 => ("BilletBarsModel", "profiles", "I", false)
  | 2 => ("BilletBarsModel", "alloy", "[I", true)
  | 3 => ("BilletBarsModel", "ratio", "[I", true)
  | 4 => ("BilletBarsModel", "recipe", "[I", true)
  | 5 => ("BilletBarsModel", "grams", "[I", true)
  | 6 => ("BilletBarsModel", "dies", "I", false)
  | 7 => ("BilletBarsModel", "dieProfile", "[I", true)
  | 8 => ("BilletBarsModel", "limit", "[I", true)
  | 9 => ("BilletBarsModel", "shots", "[I", true)
  | 10 => ("BilletBarsModel", "allShots", "[I", true)
  | 11 => ("BilletBarsModel", "warmSince", "[I", true)
  | 12 => ("BilletBarsModel", "tick", "I", false)
  | 13 => ("BilletBarsModel", "bars", "I", false)
  | 14 => ("BilletBarsModel", "barDie", "[I", true)
  | 15 => ("BilletBarsModel", "barBillet", "[I", true)
  | 16 => ("BilletBarsModel", "barAll", "[I", true)
  | 17 => ("BilletBarsModel", "barGoods", "[I", true)
  | 18 => ("BilletBarsModel", "barOff", "[I", true)
  | 19 => ("BilletBarsModel", "barWeld", "[I", true)
  | 20 => ("BilletBarsModel", "barBatch", "[I", true)
  | 21 => ("BilletBarsModel", "looked", "[I", true)
  | 22 => ("BilletBarsModel", "latestDie", "I", false)
  | 23 => ("BilletBarsModel", "latestTick", "I", false)
  | 24 => ("BilletBarsModel", "accounts", "[J", true)
  | 25 => ("BilletBarsModel", "orders", "[I", true)
  | 26 => ("BilletBarsModel", "lengths", "[I", true)
  | 27 => ("BilletBarsModel", "wanted", "[I", true)
  | 28 => ("BilletBarsModel", "pieces", "[I", true)
  | 29 => ("BilletBarsModel", "goods", "I", false)
  | 30 => ("BilletBarsModel", "all", "I", false)
  | 31 => ("BilletBarsModel", "head", "I", false)
  | 32 => ("BilletBarsModel", "tail", "I", false)
  | 33 => ("BilletBarsModel", "weld", "I", false)
  | 34 => ("BilletBarsModel", "usable", "I", false)
  | 35 => ("BilletBarsModel", "stocks", "I", false)
  | 36 => ("BilletBarsModel", "stock", "[I", true)
  | 37 => ("BilletBarsModel", "jobs", "I", false)
  | 38 => ("BilletBarsModel", "jobProfile", "[I", true)
  | 39 => ("BilletBarsModel", "jobTicks", "[I", true)
  | 40 => ("BilletBarsModel", "jobDue", "[I", true)
  | 41 => ("BilletBarsModel", "change", "I", false)
  | 42 => ("BilletBarsModel", "row", "[I", true)
  | 43 => ("BilletBarsModel", "plan", "[I", true)
  | 44 => ("BilletBarsModel", "room", "I", false)
  | 45 => ("BilletBarsModel", "batches", "I", false)
  | 46 => ("BilletBarsModel", "gone", "[Z", true)
  | 47 => ("BilletBarsModel", "forms", "[I", true)
  | 48 => ("BilletBarsModel", "sizes", "[I", true)
  | 49 => ("BilletBarsModel", "items", "[I", true)
  | 50 => ("BilletBarsModel", "moved", "[I", true)
  | _ => ("BilletBarsModel", "latest", "I", false)
def tyX10 : Nat → FieldType := fun k => match k with
  | 0 => .array .int
  | 1 => .int
  | 2 => .array .int
  | 3 => .array .int
  | 4 => .array .int
  | 5 => .array .int
  | 6 => .int
  | 7 => .array .int
  | 8 => .array .int
  | 9 => .array .int
  | 10 => .array .int
  | 11 => .array .int
  | 12 => .int
  | 13 => .int
  | 14 => .array .int
  | 15 => .array .int
  | 16 => .array .int
  | 17 => .array .int
  | 18 => .array .int
  | 19 => .array .int
  | 20 => .array .int
  | 21 => .array .int
  | 22 => .int
  | 23 => .int
  | 24 => .array .long
  | 25 => .array .int
  | 26 => .array .int
  | 27 => .array .int
  | 28 => .array .int
  | 29 => .int
  | 30 => .int
  | 31 => .int
  | 32 => .int
  | 33 => .int
  | 34 => .int
  | 35 => .int
  | 36 => .array .int
  | 37 => .int
  | 38 => .array .int
  | 39 => .array .int
  | 40 => .array .int
  | 41 => .int
  | 42 => .array .int
  | 43 => .array .int
  | 44 => .int
  | 45 => .int
  | 46 => .array .boolean
  | 47 => .array .int
  | 48 => .array .int
  | 49 => .array .int
  | 50 => .array .int
  | _ => .int
theorem nmX10 : ∀ a, a < 52 → ∀ b, b < 52 → a ≠ b → (TX10 a).2.1 ≠ (TX10 b).2.1 := by decide +kernel
theorem tyX10_ok : ∀ k, k < 52 → parseFieldDescriptor (TX10 k).2.2.1 = some (tyX10 k) := by decide +kernel
abbrev cX10_init : ByteArray := prog_12_method_1_code
def yX10_init : MethodName := ⟨RX10, "<init>", "()V"⟩
abbrev cX10_in : ByteArray := prog_12_method_3_code
def yX10_in : MethodName := ⟨RX10, "in", "(JJJ)Z"⟩
abbrev cX10_isProfile : ByteArray := prog_12_method_4_code
def yX10_isProfile : MethodName := ⟨RX10, "isProfile", "(I)Z"⟩
abbrev cX10_isDie : ByteArray := prog_12_method_5_code
def yX10_isDie : MethodName := ⟨RX10, "isDie", "(I)Z"⟩
abbrev cX10_profile : ByteArray := prog_12_method_6_code
def yX10_profile : MethodName := ⟨RX10, "profile", "(IIII)I"⟩
abbrev cX10_die : ByteArray := prog_12_method_7_code
def yX10_die : MethodName := ⟨RX10, "die", "(II)I"⟩
abbrev cX10_warm : ByteArray := prog_12_method_8_code
def yX10_warm : MethodName := ⟨RX10, "warm", "(I)I"⟩
abbrev cX10_cool : ByteArray := prog_12_method_9_code
def yX10_cool : MethodName := ⟨RX10, "cool", "(I)I"⟩
abbrev cX10_nitride : ByteArray := prog_12_method_10_code
def yX10_nitride : MethodName := ⟨RX10, "nitride", "(I)I"⟩
abbrev cX10_mayPress : ByteArray := prog_12_method_11_code
def yX10_mayPress : MethodName := ⟨RX10, "mayPress", "(I)Z"⟩
abbrev cX10_about : ByteArray := prog_12_method_12_code
def yX10_about : MethodName := ⟨RX10, "about", "(II)I"⟩
abbrev cX10_ready : ByteArray := prog_12_method_13_code
def yX10_ready : MethodName := ⟨RX10, "ready", "(I)I"⟩
abbrev cX10_pass : ByteArray := prog_12_method_14_code
def yX10_pass : MethodName := ⟨RX10, "pass", "(I)I"⟩
abbrev cX10_law : ByteArray := prog_12_method_15_code
def yX10_law : MethodName := ⟨RX10, "law", "(II)I"⟩
abbrev cX10_most : ByteArray := prog_12_method_16_code
def yX10_most : MethodName := ⟨RX10, "most", "(II)I"⟩
abbrev cX10_findPattern : ByteArray := prog_12_method_17_code
def yX10_findPattern : MethodName := ⟨RX10, "findPattern", "(II)V"⟩
abbrev cX10_lengthOf : ByteArray := prog_12_method_18_code
def yX10_lengthOf : MethodName := ⟨RX10, "lengthOf", "(II)I"⟩
abbrev cX10_findBar : ByteArray := prog_12_method_19_code
def yX10_findBar : MethodName := ⟨RX10, "findBar", "(IIZ)V"⟩
abbrev cX10_press : ByteArray := prog_12_method_20_code
def yX10_press : MethodName := ⟨RX10, "press", "(II)I"⟩
abbrev cX10_isBar : ByteArray := prog_12_method_21_code
def yX10_isBar : MethodName := ⟨RX10, "isBar", "(I)Z"⟩
abbrev cX10_bar : ByteArray := prog_12_method_22_code
def yX10_bar : MethodName := ⟨RX10, "bar", "(II)I"⟩
abbrev cX10_order : ByteArray := prog_12_method_23_code
def yX10_order : MethodName := ⟨RX10, "order", "(III)I"⟩
abbrev cX10_wanted : ByteArray := prog_12_method_24_code
def yX10_wanted : MethodName := ⟨RX10, "wanted", "(II)I"⟩
abbrev cX10_pattern : ByteArray := prog_12_method_25_code
def yX10_pattern : MethodName := ⟨RX10, "pattern", "(III)I"⟩
abbrev cX10_account : ByteArray := prog_12_method_26_code
def yX10_account : MethodName := ⟨RX10, "account", "(I)I"⟩
abbrev cX10_stock : ByteArray := prog_12_method_27_code
def yX10_stock : MethodName := ⟨RX10, "stock", "(I)I"⟩
abbrev cX10_best : ByteArray := prog_12_method_28_code
def yX10_best : MethodName := ⟨RX10, "best", "(IZ)I"⟩
abbrev cX10_job : ByteArray := prog_12_method_29_code
def yX10_job : MethodName := ⟨RX10, "job", "(III)I"⟩
abbrev cX10_change : ByteArray := prog_12_method_30_code
def yX10_change : MethodName := ⟨RX10, "change", "(I)I"⟩
abbrev cX10_nextRow : ByteArray := prog_12_method_31_code
def yX10_nextRow : MethodName := ⟨RX10, "nextRow", "()Z"⟩
abbrev cX10_findOrder : ByteArray := prog_12_method_32_code
def yX10_findOrder : MethodName := ⟨RX10, "findOrder", "()I"⟩
abbrev cX10_late : ByteArray := prog_12_method_33_code
def yX10_late : MethodName := ⟨RX10, "late", "()I"⟩
abbrev cX10_planned : ByteArray := prog_12_method_34_code
def yX10_planned : MethodName := ⟨RX10, "planned", "(I)I"⟩
abbrev cX10_room : ByteArray := prog_12_method_35_code
def yX10_room : MethodName := ⟨RX10, "room", "(I)I"⟩
abbrev cX10_waits : ByteArray := prog_12_method_36_code
def yX10_waits : MethodName := ⟨RX10, "waits", "(I)Z"⟩
abbrev cX10_noneGone : ByteArray := prog_12_method_37_code
def yX10_noneGone : MethodName := ⟨RX10, "noneGone", "()V"⟩
abbrev cX10_takes : ByteArray := prog_12_method_38_code
def yX10_takes : MethodName := ⟨RX10, "takes", "()I"⟩
abbrev cX10_age : ByteArray := prog_12_method_39_code
def yX10_age : MethodName := ⟨RX10, "age", "()I"⟩
abbrev cX10_batches : ByteArray := prog_12_method_40_code
def yX10_batches : MethodName := ⟨RX10, "batches", "()I"⟩
abbrev cX10_sample : ByteArray := prog_12_method_41_code
def yX10_sample : MethodName := ⟨RX10, "sample", "(IZ)I"⟩
abbrev cX10_isSuspect : ByteArray := prog_12_method_42_code
def yX10_isSuspect : MethodName := ⟨RX10, "isSuspect", "(I)Z"⟩
abbrev cX10_suspect : ByteArray := prog_12_method_43_code
def yX10_suspect : MethodName := ⟨RX10, "suspect", "(I)I"⟩
abbrev cX10_held : ByteArray := prog_12_method_44_code
def yX10_held : MethodName := ⟨RX10, "held", "()I"⟩
abbrev cX10_drift : ByteArray := prog_12_method_45_code
def yX10_drift : MethodName := ⟨RX10, "drift", "(II)I"⟩
abbrev cX10_met : ByteArray := prog_12_method_46_code
def yX10_met : MethodName := ⟨RX10, "met", "(I)I"⟩
abbrev cX10_isSheet : ByteArray := prog_12_method_47_code
def yX10_isSheet : MethodName := ⟨RX10, "isSheet", "(I)Z"⟩
abbrev cX10_sheet : ByteArray := prog_12_method_48_code
def yX10_sheet : MethodName := ⟨RX10, "sheet", "(III)I"⟩
abbrev cX10_lose : ByteArray := prog_12_method_49_code
def yX10_lose : MethodName := ⟨RX10, "lose", "(I)I"⟩
abbrev cX10_lacks : ByteArray := prog_12_method_50_code
def yX10_lacks : MethodName := ⟨RX10, "lacks", "(III)I"⟩
abbrev cX10_put : ByteArray := prog_12_method_51_code
def yX10_put : MethodName := ⟨RX10, "put", "(IIII)I"⟩
abbrev cX10_get : ByteArray := prog_12_method_52_code
def yX10_get : MethodName := ⟨RX10, "get", "(III)I"⟩
abbrev cX10_copy : ByteArray := prog_12_method_53_code
def yX10_copy : MethodName := ⟨RX10, "copy", "(IIIII)I"⟩
abbrev cX10_waiting : ByteArray := prog_12_method_54_code
def yX10_waiting : MethodName := ⟨RX10, "waiting", "()I"⟩
abbrev cX10_count : ByteArray := prog_12_method_55_code
def yX10_count : MethodName := ⟨RX10, "count", "(I)I"⟩
abbrev cX10_digest : ByteArray := prog_12_method_56_code
def yX10_digest : MethodName := ⟨RX10, "digest", "()J"⟩
def RJ9 : String := "java/lang/Math"
abbrev cJ9_floorDiv_7cf53 : ByteArray := prog_13_method_47_code
def yJ9_floorDiv_7cf53 : MethodName := ⟨RJ9, "floorDiv", "(II)I"⟩
abbrev cJ9_max_7cf53 : ByteArray := prog_13_method_65_code
def yJ9_max_7cf53 : MethodName := ⟨RJ9, "max", "(II)I"⟩
abbrev cJ9_min_7cf53 : ByteArray := prog_13_method_69_code
def yJ9_min_7cf53 : MethodName := ⟨RJ9, "min", "(II)I"⟩
def RJ10 : String := "java/lang/System"
def RL : String := "BilletBarsLaw"
abbrev cL_law : ByteArray := code
def yL_law : MethodName := ⟨RL, "law", "([I)Z"⟩
abbrev vwCl : List vw_C := [(RX0, TX0, 7), (RX1, TX1, 12), (RX2, TX2, 6), (RX3, TX3, 3), (RX4, TX4, 5), (RX5, TX5, 11), (RX6, TX6, 5), (RX7, TX7, 4), (RX8, TX8, 8), (RX9, TX9, 15), (RX10, TX10, 52)]
end
section
theorem dX0_init_0 : decode cX0_init 0 = .ok (.aload_n 0, 1) := by decide +kernel
theorem dX0_init_1 : decode cX0_init 1 = .ok (.invokespecial 1, 3) := by decide +kernel
theorem dX0_init_4 : decode cX0_init 4 = .ok (.aload_n 0, 1) := by decide +kernel
theorem dX0_init_5 : decode cX0_init 5 = .ok (.iconst 0, 1) := by decide +kernel
theorem dX0_init_6 : decode cX0_init 6 = .ok (.putfield 7, 3) := by decide +kernel
theorem dX0_init_9 : decode cX0_init 9 = .ok (.aload_n 0, 1) := by decide +kernel
theorem dX0_init_10 : decode cX0_init 10 = .ok (.iconst 0, 1) := by decide +kernel
theorem dX0_init_11 : decode cX0_init 11 = .ok (.putfield 13, 3) := by decide +kernel
theorem dX0_init_14 : decode cX0_init 14 = .ok (.aload_n 0, 1) := by decide +kernel
theorem dX0_init_15 : decode cX0_init 15 = .ok (.iconst 0, 1) := by decide +kernel
theorem dX0_init_16 : decode cX0_init 16 = .ok (.putfield 16, 3) := by decide +kernel
theorem dX0_init_19 : decode cX0_init 19 = .ok (.aload_n 0, 1) := by decide +kernel
theorem dX0_init_20 : decode cX0_init 20 = .ok (.iconst 0, 1) := by decide +kernel
theorem dX0_init_21 : decode cX0_init 21 = .ok (.putfield 19, 3) := by decide +kernel
theorem dX0_init_24 : decode cX0_init 24 = .ok (.aload_n 0, 1) := by decide +kernel
theorem dX0_init_25 : decode cX0_init 25 = .ok (.iconst 0, 1) := by decide +kernel
theorem dX0_init_26 : decode cX0_init 26 = .ok (.putfield 22, 3) := by decide +kernel
theorem dX0_init_29 : decode cX0_init 29 = .ok (.aload_n 0, 1) := by decide +kernel
theorem dX0_init_30 : decode cX0_init 30 = .ok (.iconst 0, 1) := by decide +kernel
theorem dX0_init_31 : decode cX0_init 31 = .ok (.putfield 25, 3) := by decide +kernel
theorem dX0_init_34 : decode cX0_init 34 = .ok (.aload_n 0, 1) := by decide +kernel
theorem dX0_init_35 : decode cX0_init 35 = .ok (.iconst 0, 1) := by decide +kernel
theorem dX0_init_36 : decode cX0_init 36 = .ok (.putfield 28, 3) := by decide +kernel
theorem dX0_init_39 : decode cX0_init 39 = .ok (.return_, 1) := by decide +kernel
theorem dX0_enter_0 : decode cX0_enter 0 = .ok (.aload_n 0, 1) := by decide +kernel
theorem dX0_enter_1 : decode cX0_enter 1 = .ok (.dup, 1) := by decide +kernel
theorem dX0_enter_2 : decode cX0_enter 2 = .ok (.getfield 7, 3) := by decide +kernel
theorem dX0_enter_5 : decode cX0_enter 5 = .ok (.aload_n 1, 1) := by decide +kernel
theorem dX0_enter_6 : decode cX0_enter 6 = .ok (.getfield 31, 3) := by decide +kernel
theorem dX0_enter_9 : decode cX0_enter 9 = .ok (.iadd, 1) := by decide +kernel
theorem dX0_enter_10 : decode cX0_enter 10 = .ok (.putfield 7, 3) := by decide +kernel
theorem dX0_enter_13 : decode cX0_enter 13 = .ok (.aload_n 0, 1) := by decide +kernel
theorem dX0_enter_14 : decode cX0_enter 14 = .ok (.dup, 1) := by decide +kernel
theorem dX0_enter_15 : decode cX0_enter 15 = .ok (.getfield 13, 3) := by decide +kernel
theorem dX0_enter_18 : decode cX0_enter 18 = .ok (.aload_n 1, 1) := by decide +kernel
theorem dX0_enter_19 : decode cX0_enter 19 = .ok (.getfield 36, 3) := by decide +kernel
theorem dX0_enter_22 : decode cX0_enter 22 = .ok (.iadd, 1) := by decide +kernel
theorem dX0_enter_23 : decode cX0_enter 23 = .ok (.putfield 13, 3) := by decide +kernel
theorem dX0_enter_26 : decode cX0_enter 26 = .ok (.aload_n 0, 1) := by decide +kernel
theorem dX0_enter_27 : decode cX0_enter 27 = .ok (.dup, 1) := by decide +kernel
theorem dX0_enter_28 : decode cX0_enter 28 = .ok (.getfield 16, 3) := by decide +kernel
theorem dX0_enter_31 : decode cX0_enter 31 = .ok (.aload_n 1, 1) := by decide +kernel
theorem dX0_enter_32 : decode cX0_enter 32 = .ok (.getfield 39, 3) := by decide +kernel
theorem dX0_enter_35 : decode cX0_enter 35 = .ok (.iadd, 1) := by decide +kernel
theorem dX0_enter_36 : decode cX0_enter 36 = .ok (.putfield 16, 3) := by decide +kernel
theorem dX0_enter_39 : decode cX0_enter 39 = .ok (.aload_n 0, 1) := by decide +kernel
theorem dX0_enter_40 : decode cX0_enter 40 = .ok (.dup, 1) := by decide +kernel
theorem dX0_enter_41 : decode cX0_enter 41 = .ok (.getfield 19, 3) := by decide +kernel
theorem dX0_enter_44 : decode cX0_enter 44 = .ok (.aload_n 1, 1) := by decide +kernel
theorem dX0_enter_45 : decode cX0_enter 45 = .ok (.getfield 42, 3) := by decide +kernel
theorem dX0_enter_48 : decode cX0_enter 48 = .ok (.iadd, 1) := by decide +kernel
theorem dX0_enter_49 : decode cX0_enter 49 = .ok (.putfield 19, 3) := by decide +kernel
theorem dX0_enter_52 : decode cX0_enter 52 = .ok (.aload_n 0, 1) := by decide +kernel
theorem dX0_enter_53 : decode cX0_enter 53 = .ok (.dup, 1) := by decide +kernel
theorem dX0_enter_54 : decode cX0_enter 54 = .ok (.getfield 22, 3) := by decide +kernel
theorem dX0_enter_57 : decode cX0_enter 57 = .ok (.aload_n 1, 1) := by decide +kernel
theorem dX0_enter_58 : decode cX0_enter 58 = .ok (.getfield 43, 3) := by decide +kernel
theorem dX0_enter_61 : decode cX0_enter 61 = .ok (.iadd, 1) := by decide +kernel
theorem dX0_enter_62 : decode cX0_enter 62 = .ok (.putfield 22, 3) := by decide +kernel
theorem dX0_enter_65 : decode cX0_enter 65 = .ok (.aload_n 0, 1) := by decide +kernel
theorem dX0_enter_66 : decode cX0_enter 66 = .ok (.dup, 1) := by decide +kernel
theorem dX0_enter_67 : decode cX0_enter 67 = .ok (.getfield 25, 3) := by decide +kernel
theorem dX0_enter_70 : decode cX0_enter 70 = .ok (.aload_n 1, 1) := by decide +kernel
theorem dX0_enter_71 : decode cX0_enter 71 = .ok (.getfield 44, 3) := by decide +kernel
theorem dX0_enter_74 : decode cX0_enter 74 = .ok (.iadd, 1) := by decide +kernel
theorem dX0_enter_75 : decode cX0_enter 75 = .ok (.putfield 25, 3) := by decide +kernel
theorem dX0_enter_78 : decode cX0_enter 78 = .ok (.aload_n 0, 1) := by decide +kernel
theorem dX0_enter_79 : decode cX0_enter 79 = .ok (.dup, 1) := by decide +kernel
theorem dX0_enter_80 : decode cX0_enter 80 = .ok (.getfield 28, 3) := by decide +kernel
theorem dX0_enter_83 : decode cX0_enter 83 = .ok (.aload_n 1, 1) := by decide +kernel
theorem dX0_enter_84 : decode cX0_enter 84 = .ok (.getfield 47, 3) := by decide +kernel
theorem dX0_enter_87 : decode cX0_enter 87 = .ok (.iadd, 1) := by decide +kernel
theorem dX0_enter_88 : decode cX0_enter 88 = .ok (.putfield 28, 3) := by decide +kernel
theorem dX0_enter_91 : decode cX0_enter 91 = .ok (.return_, 1) := by decide +kernel
theorem dX1_init_0 : decode cX1_init 0 = .ok (.aload_n 0, 1) := by decide +kernel
theorem dX1_init_1 : decode cX1_init 1 = .ok (.invokespecial 3, 3) := by decide +kernel
theorem dX1_init_4 : decode cX1_init 4 = .ok (.aload_n 0, 1) := by decide +kernel
theorem dX1_init_5 : decode cX1_init 5 = .ok (.sipush 200, 3) := by decide +kernel
theorem dX1_init_8 : decode cX1_init 8 = .ok (.newarray .int, 2) := by decide +kernel
theorem dX1_init_10 : decode cX1_init 10 = .ok (.putfield 9, 3) := by decide +kernel
theorem dX1_init_13 : decode cX1_init 13 = .ok (.aload_n 0, 1) := by decide +kernel
theorem dX1_init_14 : decode cX1_init 14 = .ok (.sipush 200, 3) := by decide +kernel
theorem dX1_init_17 : decode cX1_init 17 = .ok (.newarray .int, 2) := by decide +kernel
theorem dX1_init_19 : decode cX1_init 19 = .ok (.putfield 15, 3) := by decide +kernel
theorem dX1_init_22 : decode cX1_init 22 = .ok (.aload_n 0, 1) := by decide +kernel
theorem dX1_init_23 : decode cX1_init 23 = .ok (.sipush 200, 3) := by decide +kernel
theorem dX1_init_26 : decode cX1_init 26 = .ok (.newarray .int, 2) := by decide +kernel
theorem dX1_init_28 : decode cX1_init 28 = .ok (.putfield 18, 3) := by decide +kernel
theorem dX1_init_31 : decode cX1_init 31 = .ok (.aload_n 0, 1) := by decide +kernel
theorem dX1_init_32 : decode cX1_init 32 = .ok (.sipush 200, 3) := by decide +kernel
theorem dX1_init_35 : decode cX1_init 35 = .ok (.newarray .int, 2) := by decide +kernel
theorem dX1_init_37 : decode cX1_init 37 = .ok (.putfield 21, 3) := by decide +kernel
theorem dX1_init_40 : decode cX1_init 40 = .ok (.aload_n 0, 1) := by decide +kernel
theorem dX1_init_41 : decode cX1_init 41 = .ok (.sipush 200, 3) := by decide +kernel
theorem dX1_init_44 : decode cX1_init 44 = .ok (.newarray .int, 2) := by decide +kernel
theorem dX1_init_46 : decode cX1_init 46 = .ok (.putfield 24, 3) := by decide +kernel
theorem dX1_init_49 : decode cX1_init 49 = .ok (.aload_n 0, 1) := by decide +kernel
theorem dX1_init_50 : decode cX1_init 50 = .ok (.sipush 200, 3) := by decide +kernel
theorem dX1_init_53 : decode cX1_init 53 = .ok (.newarray .int, 2) := by decide +kernel
theorem dX1_init_55 : decode cX1_init 55 = .ok (.putfield 27, 3) := by decide +kernel
theorem dX1_init_58 : decode cX1_init 58 = .ok (.aload_n 0, 1) := by decide +kernel
theorem dX1_init_59 : decode cX1_init 59 = .ok (.sipush 200, 3) := by decide +kernel
theorem dX1_init_62 : decode cX1_init 62 = .ok (.newarray .int, 2) := by decide +kernel
theorem dX1_init_64 : decode cX1_init 64 = .ok (.putfield 30, 3) := by decide +kernel
theorem dX1_init_67 : decode cX1_init 67 = .ok (.aload_n 0, 1) := by decide +kernel
theorem dX1_init_68 : decode cX1_init 68 = .ok (.sipush 200, 3) := by decide +kernel
theorem dX1_init_71 : decode cX1_init 71 = .ok (.newarray .int, 2) := by decide +kernel
theorem dX1_init_73 : decode cX1_init 73 = .ok (.putfield 33, 3) := by decide +kernel
theorem dX1_init_76 : decode cX1_init 76 = .ok (.aload_n 0, 1) := by decide +kernel
theorem dX1_init_77 : decode cX1_init 77 = .ok (.sipush 200, 3) := by decide +kernel
theorem dX1_init_80 : decode cX1_init 80 = .ok (.newarray .int, 2) := by decide +kernel
theorem dX1_init_82 : decode cX1_init 82 = .ok (.putfield 36, 3) := by decide +kernel
theorem dX1_init_85 : decode cX1_init 85 = .ok (.aload_n 0, 1) := by decide +kernel
theorem dX1_init_86 : decode cX1_init 86 = .ok (.sipush 200, 3) := by decide +kernel
theorem dX1_init_89 : decode cX1_init 89 = .ok (.newarray .int, 2) := by decide +kernel
theorem dX1_init_91 : decode cX1_init 91 = .ok (.putfield 39, 3) := by decide +kernel
theorem dX1_init_94 : decode cX1_init 94 = .ok (.aload_n 0, 1) := by decide +kernel
theorem dX1_init_95 : decode cX1_init 95 = .ok (.iconst 0, 1) := by decide +kernel
theorem dX1_init_96 : decode cX1_init 96 = .ok (.putfield 42, 3) := by decide +kernel
theorem dX1_init_99 : decode cX1_init 99 = .ok (.aload_n 0, 1) := by decide +kernel
theorem dX1_init_100 : decode cX1_init 100 = .ok (.iconst (-1), 1) := by decide +kernel
theorem dX1_init_101 : decode cX1_init 101 = .ok (.putfield 46, 3) := by decide +kernel
theorem dX1_init_104 : decode cX1_init 104 = .ok (.return_, 1) := by decide +kernel
theorem dX1_has_0 : decode cX1_has 0 = .ok (.iload_n 1, 1) := by decide +kernel
theorem dX1_has_1 : decode cX1_has 1 = .ok (.ifCond .lt 15, 3) := by decide +kernel
theorem dX1_has_4 : decode cX1_has 4 = .ok (.iload_n 1, 1) := by decide +kernel
theorem dX1_has_5 : decode cX1_has 5 = .ok (.aload_n 0, 1) := by decide +kernel
theorem dX1_has_6 : decode cX1_has 6 = .ok (.getfield 42, 3) := by decide +kernel
theorem dX1_has_9 : decode cX1_has 9 = .ok (.if_icmp .ge 7, 3) := by decide +kernel
theorem dX1_has_12 : decode cX1_has 12 = .ok (.iconst 1, 1) := by decide +kernel
theorem dX1_has_13 : decode cX1_has 13 = .ok (.goto 4, 3) := by decide +kernel
theorem dX1_has_16 : decode cX1_has 16 = .ok (.iconst 0, 1) := by decide +kernel
theorem dX1_has_17 : decode cX1_has 17 = .ok (.ireturn, 1) := by decide +kernel
theorem dX1_latestWas_0 : decode cX1_latestWas 0 = .ok (.aload_n 0, 1) := by decide +kernel
theorem dX1_latestWas_1 : decode cX1_latestWas 1 = .ok (.getfield 42, 3) := by decide +kernel
theorem dX1_latestWas_4 : decode cX1_latestWas 4 = .ok (.ifCond .le 30, 3) := by decide +kernel
theorem dX1_latestWas_7 : decode cX1_latestWas 7 = .ok (.aload_n 0, 1) := by decide +kernel
theorem dX1_latestWas_8 : decode cX1_latestWas 8 = .ok (.getfield 9, 3) := by decide +kernel
theorem dX1_latestWas_11 : decode cX1_latestWas 11 = .ok (.aload_n 0, 1) := by decide +kernel
theorem dX1_latestWas_12 : decode cX1_latestWas 12 = .ok (.getfield 42, 3) := by decide +kernel
theorem dX1_latestWas_15 : decode cX1_latestWas 15 = .ok (.iconst 1, 1) := by decide +kernel
theorem dX1_latestWas_16 : decode cX1_latestWas 16 = .ok (.isub, 1) := by decide +kernel
theorem dX1_latestWas_17 : decode cX1_latestWas 17 = .ok (.iaload, 1) := by decide +kernel
theorem dX1_latestWas_18 : decode cX1_latestWas 18 = .ok (.iload_n 1, 1) := by decide +kernel
theorem dX1_latestWas_19 : decode cX1_latestWas 19 = .ok (.if_icmp .ne 15, 3) := by decide +kernel
theorem dX1_latestWas_22 : decode cX1_latestWas 22 = .ok (.aload_n 0, 1) := by decide +kernel
theorem dX1_latestWas_23 : decode cX1_latestWas 23 = .ok (.getfield 46, 3) := by decide +kernel
theorem dX1_latestWas_26 : decode cX1_latestWas 26 = .ok (.iload_n 2, 1) := by decide +kernel
theorem dX1_latestWas_27 : decode cX1_latestWas 27 = .ok (.if_icmp .ne 7, 3) := by decide +kernel
theorem dX1_latestWas_30 : decode cX1_latestWas 30 = .ok (.iconst 1, 1) := by decide +kernel
theorem dX1_latestWas_31 : decode cX1_latestWas 31 = .ok (.goto 4, 3) := by decide +kernel
theorem dX1_latestWas_34 : decode cX1_latestWas 34 = .ok (.iconst 0, 1) := by decide +kernel
theorem dX1_latestWas_35 : decode cX1_latestWas 35 = .ok (.ireturn, 1) := by decide +kernel
theorem dX1_add_0 : decode cX1_add 0 = .ok (.aload_n 0, 1) := by decide +kernel
theorem dX1_add_1 : decode cX1_add 1 = .ok (.getfield 42, 3) := by decide +kernel
theorem dX1_add_4 : decode cX1_add 4 = .ok (.sipush 200, 3) := by decide +kernel
theorem dX1_add_7 : decode cX1_add 7 = .ok (.if_icmp .lt 4, 3) := by decide +kernel
theorem dX1_add_10 : decode cX1_add 10 = .ok (.return_, 1) := by decide +kernel
theorem dX1_add_11 : decode cX1_add 11 = .ok (.aload_n 0, 1) := by decide +kernel
theorem dX1_add_12 : decode cX1_add 12 = .ok (.getfield 9, 3) := by decide +kernel
theorem dX1_add_15 : decode cX1_add 15 = .ok (.aload_n 0, 1) := by decide +kernel
theorem dX1_add_16 : decode cX1_add 16 = .ok (.getfield 42, 3) := by decide +kernel
theorem dX1_add_19 : decode cX1_add 19 = .ok (.iload_n 1, 1) := by decide +kernel
theorem dX1_add_20 : decode cX1_add 20 = .ok (.iastore, 1) := by decide +kernel
theorem dX1_add_21 : decode cX1_add 21 = .ok (.aload_n 0, 1) := by decide +kernel
theorem dX1_add_22 : decode cX1_add 22 = .ok (.getfield 15, 3) := by decide +kernel
theorem dX1_add_25 : decode cX1_add 25 = .ok (.aload_n 0, 1) := by decide +kernel
theorem dX1_add_26 : decode cX1_add 26 = .ok (.getfield 42, 3) := by decide +kernel
theorem dX1_add_29 : decode cX1_add 29 = .ok (.aload_n 2, 1) := by decide +kernel
theorem dX1_add_30 : decode cX1_add 30 = .ok (.getfield 49, 3) := by decide +kernel
theorem dX1_add_33 : decode cX1_add 33 = .ok (.iastore, 1) := by decide +kernel
theorem dX1_add_34 : decode cX1_add 34 = .ok (.aload_n 0, 1) := by decide +kernel
theorem dX1_add_35 : decode cX1_add 35 = .ok (.getfield 18, 3) := by decide +kernel
theorem dX1_add_38 : decode cX1_add 38 = .ok (.aload_n 0, 1) := by decide +kernel
theorem dX1_add_39 : decode cX1_add 39 = .ok (.getfield 42, 3) := by decide +kernel
theorem dX1_add_42 : decode cX1_add 42 = .ok (.aload_n 2, 1) := by decide +kernel
theorem dX1_add_43 : decode cX1_add 43 = .ok (.getfield 53, 3) := by decide +kernel
theorem dX1_add_46 : decode cX1_add 46 = .ok (.iastore, 1) := by decide +kernel
theorem dX1_add_47 : decode cX1_add 47 = .ok (.aload_n 0, 1) := by decide +kernel
theorem dX1_add_48 : decode cX1_add 48 = .ok (.getfield 21, 3) := by decide +kernel
theorem dX1_add_51 : decode cX1_add 51 = .ok (.aload_n 0, 1) := by decide +kernel
theorem dX1_add_52 : decode cX1_add 52 = .ok (.getfield 42, 3) := by decide +kernel
theorem dX1_add_55 : decode cX1_add 55 = .ok (.aload_n 2, 1) := by decide +kernel
theorem dX1_add_56 : decode cX1_add 56 = .ok (.getfield 55, 3) := by decide +kernel
theorem dX1_add_59 : decode cX1_add 59 = .ok (.iastore, 1) := by decide +kernel
theorem dX1_add_60 : decode cX1_add 60 = .ok (.aload_n 0, 1) := by decide +kernel
theorem dX1_add_61 : decode cX1_add 61 = .ok (.getfield 24, 3) := by decide +kernel
theorem dX1_add_64 : decode cX1_add 64 = .ok (.aload_n 0, 1) := by decide +kernel
theorem dX1_add_65 : decode cX1_add 65 = .ok (.getfield 42, 3) := by decide +kernel
theorem dX1_add_68 : decode cX1_add 68 = .ok (.aload_n 2, 1) := by decide +kernel
theorem dX1_add_69 : decode cX1_add 69 = .ok (.getfield 57, 3) := by decide +kernel
theorem dX1_add_72 : decode cX1_add 72 = .ok (.iastore, 1) := by decide +kernel
theorem dX1_add_73 : decode cX1_add 73 = .ok (.aload_n 0, 1) := by decide +kernel
theorem dX1_add_74 : decode cX1_add 74 = .ok (.getfield 27, 3) := by decide +kernel
theorem dX1_add_77 : decode cX1_add 77 = .ok (.aload_n 0, 1) := by decide +kernel
theorem dX1_add_78 : decode cX1_add 78 = .ok (.getfield 42, 3) := by decide +kernel
theorem dX1_add_81 : decode cX1_add 81 = .ok (.aload_n 2, 1) := by decide +kernel
theorem dX1_add_82 : decode cX1_add 82 = .ok (.getfield 59, 3) := by decide +kernel
theorem dX1_add_85 : decode cX1_add 85 = .ok (.iastore, 1) := by decide +kernel
theorem dX1_add_86 : decode cX1_add 86 = .ok (.aload_n 0, 1) := by decide +kernel
theorem dX1_add_87 : decode cX1_add 87 = .ok (.getfield 30, 3) := by decide +kernel
theorem dX1_add_90 : decode cX1_add 90 = .ok (.aload_n 0, 1) := by decide +kernel
theorem dX1_add_91 : decode cX1_add 91 = .ok (.getfield 42, 3) := by decide +kernel
theorem dX1_add_94 : decode cX1_add 94 = .ok (.iconst (-1), 1) := by decide +kernel
theorem dX1_add_95 : decode cX1_add 95 = .ok (.iastore, 1) := by decide +kernel
theorem dX1_add_96 : decode cX1_add 96 = .ok (.aload_n 0, 1) := by decide +kernel
theorem dX1_add_97 : decode cX1_add 97 = .ok (.getfield 33, 3) := by decide +kernel
theorem dX1_add_100 : decode cX1_add 100 = .ok (.aload_n 0, 1) := by decide +kernel
theorem dX1_add_101 : decode cX1_add 101 = .ok (.getfield 42, 3) := by decide +kernel
theorem dX1_add_104 : decode cX1_add 104 = .ok (.iload_n 3, 1) := by decide +kernel
theorem dX1_add_105 : decode cX1_add 105 = .ok (.iastore, 1) := by decide +kernel
theorem dX1_add_106 : decode cX1_add 106 = .ok (.aload_n 0, 1) := by decide +kernel
theorem dX1_add_107 : decode cX1_add 107 = .ok (.getfield 36, 3) := by decide +kernel
theorem dX1_add_110 : decode cX1_add 110 = .ok (.aload_n 0, 1) := by decide +kernel
theorem dX1_add_111 : decode cX1_add 111 = .ok (.getfield 42, 3) := by decide +kernel
theorem dX1_add_114 : decode cX1_add 114 = .ok (.iload 4, 2) := by decide +kernel
theorem dX1_add_116 : decode cX1_add 116 = .ok (.iastore, 1) := by decide +kernel
theorem dX1_add_117 : decode cX1_add 117 = .ok (.aload_n 0, 1) := by decide +kernel
theorem dX1_add_118 : decode cX1_add 118 = .ok (.dup, 1) := by decide +kernel
theorem dX1_add_119 : decode cX1_add 119 = .ok (.getfield 42, 3) := by decide +kernel
theorem dX1_add_122 : decode cX1_add 122 = .ok (.iconst 1, 1) := by decide +kernel
theorem dX1_add_123 : decode cX1_add 123 = .ok (.iadd, 1) := by decide +kernel
theorem dX1_add_124 : decode cX1_add 124 = .ok (.putfield 42, 3) := by decide +kernel
theorem dX1_add_127 : decode cX1_add 127 = .ok (.aload_n 0, 1) := by decide +kernel
theorem dX1_add_128 : decode cX1_add 128 = .ok (.iload 5, 2) := by decide +kernel
theorem dX1_add_130 : decode cX1_add 130 = .ok (.putfield 46, 3) := by decide +kernel
theorem dX1_add_133 : decode cX1_add 133 = .ok (.return_, 1) := by decide +kernel
theorem dX1_waits_0 : decode cX1_waits 0 = .ok (.aload_n 0, 1) := by decide +kernel
theorem dX1_waits_1 : decode cX1_waits 1 = .ok (.getfield 21, 3) := by decide +kernel
theorem dX1_waits_4 : decode cX1_waits 4 = .ok (.iload_n 1, 1) := by decide +kernel
theorem dX1_waits_5 : decode cX1_waits 5 = .ok (.iaload, 1) := by decide +kernel
theorem dX1_waits_6 : decode cX1_waits 6 = .ok (.ifCond .le 17, 3) := by decide +kernel
theorem dX1_waits_9 : decode cX1_waits 9 = .ok (.aload_n 0, 1) := by decide +kernel
theorem dX1_waits_10 : decode cX1_waits 10 = .ok (.getfield 30, 3) := by decide +kernel
theorem dX1_waits_13 : decode cX1_waits 13 = .ok (.iload_n 1, 1) := by decide +kernel
theorem dX1_waits_14 : decode cX1_waits 14 = .ok (.iaload, 1) := by decide +kernel
theorem dX1_waits_15 : decode cX1_waits 15 = .ok (.iconst (-1), 1) := by decide +kernel
theorem dX1_waits_16 : decode cX1_waits 16 = .ok (.if_icmp .ne 7, 3) := by decide +kernel
theorem dX1_waits_19 : decode cX1_waits 19 = .ok (.iconst 1, 1) := by decide +kernel
theorem dX1_waits_20 : decode cX1_waits 20 = .ok (.goto 4, 3) := by decide +kernel
theorem dX1_waits_23 : decode cX1_waits 23 = .ok (.iconst 0, 1) := by decide +kernel
theorem dX1_waits_24 : decode cX1_waits 24 = .ok (.ireturn, 1) := by decide +kernel
theorem dX1_waiting_0 : decode cX1_waiting 0 = .ok (.iconst 0, 1) := by decide +kernel
theorem dX1_waiting_1 : decode cX1_waiting 1 = .ok (.istore_n 1, 1) := by decide +kernel
theorem dX1_waiting_2 : decode cX1_waiting 2 = .ok (.iconst 0, 1) := by decide +kernel
theorem dX1_waiting_3 : decode cX1_waiting 3 = .ok (.istore_n 2, 1) := by decide +kernel
theorem dX1_waiting_4 : decode cX1_waiting 4 = .ok (.iload_n 2, 1) := by decide +kernel
theorem dX1_waiting_5 : decode cX1_waiting 5 = .ok (.aload_n 0, 1) := by decide +kernel
theorem dX1_waiting_6 : decode cX1_waiting 6 = .ok (.getfield 42, 3) := by decide +kernel
theorem dX1_waiting_9 : decode cX1_waiting 9 = .ok (.if_icmp .ge 20, 3) := by decide +kernel
theorem dX1_waiting_12 : decode cX1_waiting 12 = .ok (.aload_n 0, 1) := by decide +kernel
theorem dX1_waiting_13 : decode cX1_waiting 13 = .ok (.iload_n 2, 1) := by decide +kernel
theorem dX1_waiting_14 : decode cX1_waiting 14 = .ok (.invokevirtual 61, 3) := by decide +kernel
theorem dX1_waiting_17 : decode cX1_waiting 17 = .ok (.ifCond .eq 6, 3) := by decide +kernel
theorem dX1_waiting_20 : decode cX1_waiting 20 = .ok (.iinc 1 1, 3) := by decide +kernel
theorem dX1_waiting_23 : decode cX1_waiting 23 = .ok (.iinc 2 1, 3) := by decide +kernel
theorem dX1_waiting_26 : decode cX1_waiting 26 = .ok (.goto (-22), 3) := by decide +kernel
theorem dX1_waiting_29 : decode cX1_waiting 29 = .ok (.iload_n 1, 1) := by decide +kernel
theorem dX1_waiting_30 : decode cX1_waiting 30 = .ok (.ireturn, 1) := by decide +kernel
theorem dX1_firstWaiting_0 : decode cX1_firstWaiting 0 = .ok (.iconst 0, 1) := by decide +kernel
theorem dX1_firstWaiting_1 : decode cX1_firstWaiting 1 = .ok (.istore_n 1, 1) := by decide +kernel
theorem dX1_firstWaiting_2 : decode cX1_firstWaiting 2 = .ok (.iload_n 1, 1) := by decide +kernel
theorem dX1_firstWaiting_3 : decode cX1_firstWaiting 3 = .ok (.aload_n 0, 1) := by decide +kernel
theorem dX1_firstWaiting_4 : decode cX1_firstWaiting 4 = .ok (.getfield 42, 3) := by decide +kernel
theorem dX1_firstWaiting_7 : decode cX1_firstWaiting 7 = .ok (.if_icmp .ge 19, 3) := by decide +kernel
theorem dX1_firstWaiting_10 : decode cX1_firstWaiting 10 = .ok (.aload_n 0, 1) := by decide +kernel
theorem dX1_firstWaiting_11 : decode cX1_firstWaiting 11 = .ok (.iload_n 1, 1) := by decide +kernel
theorem dX1_firstWaiting_12 : decode cX1_firstWaiting 12 = .ok (.invokevirtual 61, 3) := by decide +kernel
theorem dX1_firstWaiting_15 : decode cX1_firstWaiting 15 = .ok (.ifCond .eq 5, 3) := by decide +kernel
theorem dX1_firstWaiting_18 : decode cX1_firstWaiting 18 = .ok (.iload_n 1, 1) := by decide +kernel
theorem dX1_firstWaiting_19 : decode cX1_firstWaiting 19 = .ok (.ireturn, 1) := by decide +kernel
theorem dX1_firstWaiting_20 : decode cX1_firstWaiting 20 = .ok (.iinc 1 1, 3) := by decide +kernel
theorem dX1_firstWaiting_23 : decode cX1_firstWaiting 23 = .ok (.goto (-21), 3) := by decide +kernel
theorem dX1_firstWaiting_26 : decode cX1_firstWaiting 26 = .ok (.iconst (-1), 1) := by decide +kernel
theorem dX1_firstWaiting_27 : decode cX1_firstWaiting 27 = .ok (.ireturn, 1) := by decide +kernel
theorem dX1_fillOven_0 : decode cX1_fillOven 0 = .ok (.iconst 0, 1) := by decide +kernel
theorem dX1_fillOven_1 : decode cX1_fillOven 1 = .ok (.istore 4, 2) := by decide +kernel
theorem dX1_fillOven_3 : decode cX1_fillOven 3 = .ok (.iconst 0, 1) := by decide +kernel
theorem dX1_fillOven_4 : decode cX1_fillOven 4 = .ok (.istore 5, 2) := by decide +kernel
theorem dX1_fillOven_6 : decode cX1_fillOven 6 = .ok (.iload_n 1, 1) := by decide +kernel
theorem dX1_fillOven_7 : decode cX1_fillOven 7 = .ok (.istore 6, 2) := by decide +kernel
theorem dX1_fillOven_9 : decode cX1_fillOven 9 = .ok (.iload 6, 2) := by decide +kernel
theorem dX1_fillOven_11 : decode cX1_fillOven 11 = .ok (.aload_n 0, 1) := by decide +kernel
theorem dX1_fillOven_12 : decode cX1_fillOven 12 = .ok (.getfield 42, 3) := by decide +kernel
theorem dX1_fillOven_15 : decode cX1_fillOven 15 = .ok (.if_icmp .ge 82, 3) := by decide +kernel
theorem dX1_fillOven_18 : decode cX1_fillOven 18 = .ok (.aload_n 0, 1) := by decide +kernel
theorem dX1_fillOven_19 : decode cX1_fillOven 19 = .ok (.iload 6, 2) := by decide +kernel
theorem dX1_fillOven_21 : decode cX1_fillOven 21 = .ok (.invokevirtual 61, 3) := by decide +kernel
theorem dX1_fillOven_24 : decode cX1_fillOven 24 = .ok (.ifCond .eq 67, 3) := by decide +kernel
theorem dX1_fillOven_27 : decode cX1_fillOven 27 = .ok (.aload_n 0, 1) := by decide +kernel
theorem dX1_fillOven_28 : decode cX1_fillOven 28 = .ok (.getfield 33, 3) := by decide +kernel
theorem dX1_fillOven_31 : decode cX1_fillOven 31 = .ok (.iload 6, 2) := by decide +kernel
theorem dX1_fillOven_33 : decode cX1_fillOven 33 = .ok (.iaload, 1) := by decide +kernel
theorem dX1_fillOven_34 : decode cX1_fillOven 34 = .ok (.aload_n 0, 1) := by decide +kernel
theorem dX1_fillOven_35 : decode cX1_fillOven 35 = .ok (.getfield 33, 3) := by decide +kernel
theorem dX1_fillOven_38 : decode cX1_fillOven 38 = .ok (.iload_n 1, 1) := by decide +kernel
theorem dX1_fillOven_39 : decode cX1_fillOven 39 = .ok (.iaload, 1) := by decide +kernel
theorem dX1_fillOven_40 : decode cX1_fillOven 40 = .ok (.if_icmp .eq 6, 3) := by decide +kernel
theorem dX1_fillOven_43 : decode cX1_fillOven 43 = .ok (.goto 48, 3) := by decide +kernel
theorem dX1_fillOven_46 : decode cX1_fillOven 46 = .ok (.iload 4, 2) := by decide +kernel
theorem dX1_fillOven_48 : decode cX1_fillOven 48 = .ok (.ifCond .le 20, 3) := by decide +kernel
theorem dX1_fillOven_51 : decode cX1_fillOven 51 = .ok (.iload 5, 2) := by decide +kernel
theorem dX1_fillOven_53 : decode cX1_fillOven 53 = .ok (.aload_n 0, 1) := by decide +kernel
theorem dX1_fillOven_54 : decode cX1_fillOven 54 = .ok (.getfield 21, 3) := by decide +kernel
theorem dX1_fillOven_57 : decode cX1_fillOven 57 = .ok (.iload 6, 2) := by decide +kernel
theorem dX1_fillOven_59 : decode cX1_fillOven 59 = .ok (.iaload, 1) := by decide +kernel
theorem dX1_fillOven_60 : decode cX1_fillOven 60 = .ok (.iadd, 1) := by decide +kernel
theorem dX1_fillOven_61 : decode cX1_fillOven 61 = .ok (.iload_n 2, 1) := by decide +kernel
theorem dX1_fillOven_62 : decode cX1_fillOven 62 = .ok (.if_icmp .le 6, 3) := by decide +kernel
theorem dX1_fillOven_65 : decode cX1_fillOven 65 = .ok (.goto 32, 3) := by decide +kernel
theorem dX1_fillOven_68 : decode cX1_fillOven 68 = .ok (.aload_n 0, 1) := by decide +kernel
theorem dX1_fillOven_69 : decode cX1_fillOven 69 = .ok (.getfield 30, 3) := by decide +kernel
theorem dX1_fillOven_72 : decode cX1_fillOven 72 = .ok (.iload 6, 2) := by decide +kernel
theorem dX1_fillOven_74 : decode cX1_fillOven 74 = .ok (.iload_n 3, 1) := by decide +kernel
theorem dX1_fillOven_75 : decode cX1_fillOven 75 = .ok (.iastore, 1) := by decide +kernel
theorem dX1_fillOven_76 : decode cX1_fillOven 76 = .ok (.iload 5, 2) := by decide +kernel
theorem dX1_fillOven_78 : decode cX1_fillOven 78 = .ok (.aload_n 0, 1) := by decide +kernel
theorem dX1_fillOven_79 : decode cX1_fillOven 79 = .ok (.getfield 21, 3) := by decide +kernel
theorem dX1_fillOven_82 : decode cX1_fillOven 82 = .ok (.iload 6, 2) := by decide +kernel
theorem dX1_fillOven_84 : decode cX1_fillOven 84 = .ok (.iaload, 1) := by decide +kernel
theorem dX1_fillOven_85 : decode cX1_fillOven 85 = .ok (.iadd, 1) := by decide +kernel
theorem dX1_fillOven_86 : decode cX1_fillOven 86 = .ok (.istore 5, 2) := by decide +kernel
theorem dX1_fillOven_88 : decode cX1_fillOven 88 = .ok (.iinc 4 1, 3) := by decide +kernel
theorem dX1_fillOven_91 : decode cX1_fillOven 91 = .ok (.iinc 6 1, 3) := by decide +kernel
theorem dX1_fillOven_94 : decode cX1_fillOven 94 = .ok (.goto (-85), 3) := by decide +kernel
theorem dX1_fillOven_97 : decode cX1_fillOven 97 = .ok (.iload 4, 2) := by decide +kernel
theorem dX1_fillOven_99 : decode cX1_fillOven 99 = .ok (.ireturn, 1) := by decide +kernel
theorem dX1_ovensNeeded_0 : decode cX1_ovensNeeded 0 = .ok (.iconst 0, 1) := by decide +kernel
theorem dX1_ovensNeeded_1 : decode cX1_ovensNeeded 1 = .ok (.istore_n 3, 1) := by decide +kernel
theorem dX1_ovensNeeded_2 : decode cX1_ovensNeeded 2 = .ok (.iconst 0, 1) := by decide +kernel
theorem dX1_ovensNeeded_3 : decode cX1_ovensNeeded 3 = .ok (.istore 4, 2) := by decide +kernel
theorem dX1_ovensNeeded_5 : decode cX1_ovensNeeded 5 = .ok (.iconst 0, 1) := by decide +kernel
theorem dX1_ovensNeeded_6 : decode cX1_ovensNeeded 6 = .ok (.istore 5, 2) := by decide +kernel
theorem dX1_ovensNeeded_8 : decode cX1_ovensNeeded 8 = .ok (.iload 5, 2) := by decide +kernel
theorem dX1_ovensNeeded_10 : decode cX1_ovensNeeded 10 = .ok (.aload_n 0, 1) := by decide +kernel
theorem dX1_ovensNeeded_11 : decode cX1_ovensNeeded 11 = .ok (.getfield 42, 3) := by decide +kernel
theorem dX1_ovensNeeded_14 : decode cX1_ovensNeeded 14 = .ok (.if_icmp .ge 68, 3) := by decide +kernel
theorem dX1_ovensNeeded_17 : decode cX1_ovensNeeded 17 = .ok (.aload_n 0, 1) := by decide +kernel
theorem dX1_ovensNeeded_18 : decode cX1_ovensNeeded 18 = .ok (.iload 5, 2) := by decide +kernel
theorem dX1_ovensNeeded_20 : decode cX1_ovensNeeded 20 = .ok (.invokevirtual 61, 3) := by decide +kernel
theorem dX1_ovensNeeded_23 : decode cX1_ovensNeeded 23 = .ok (.ifCond .eq 53, 3) := by decide +kernel
theorem dX1_ovensNeeded_26 : decode cX1_ovensNeeded 26 = .ok (.aload_n 0, 1) := by decide +kernel
theorem dX1_ovensNeeded_27 : decode cX1_ovensNeeded 27 = .ok (.getfield 33, 3) := by decide +kernel
theorem dX1_ovensNeeded_30 : decode cX1_ovensNeeded 30 = .ok (.iload 5, 2) := by decide +kernel
theorem dX1_ovensNeeded_32 : decode cX1_ovensNeeded 32 = .ok (.iaload, 1) := by decide +kernel
theorem dX1_ovensNeeded_33 : decode cX1_ovensNeeded 33 = .ok (.iload_n 1, 1) := by decide +kernel
theorem dX1_ovensNeeded_34 : decode cX1_ovensNeeded 34 = .ok (.if_icmp .eq 6, 3) := by decide +kernel
theorem dX1_ovensNeeded_37 : decode cX1_ovensNeeded 37 = .ok (.goto 39, 3) := by decide +kernel
theorem dX1_ovensNeeded_40 : decode cX1_ovensNeeded 40 = .ok (.iload_n 3, 1) := by decide +kernel
theorem dX1_ovensNeeded_41 : decode cX1_ovensNeeded 41 = .ok (.ifCond .eq 17, 3) := by decide +kernel
theorem dX1_ovensNeeded_44 : decode cX1_ovensNeeded 44 = .ok (.iload 4, 2) := by decide +kernel
theorem dX1_ovensNeeded_46 : decode cX1_ovensNeeded 46 = .ok (.aload_n 0, 1) := by decide +kernel
theorem dX1_ovensNeeded_47 : decode cX1_ovensNeeded 47 = .ok (.getfield 21, 3) := by decide +kernel
theorem dX1_ovensNeeded_50 : decode cX1_ovensNeeded 50 = .ok (.iload 5, 2) := by decide +kernel
theorem dX1_ovensNeeded_52 : decode cX1_ovensNeeded 52 = .ok (.iaload, 1) := by decide +kernel
theorem dX1_ovensNeeded_53 : decode cX1_ovensNeeded 53 = .ok (.iadd, 1) := by decide +kernel
theorem dX1_ovensNeeded_54 : decode cX1_ovensNeeded 54 = .ok (.iload_n 2, 1) := by decide +kernel
theorem dX1_ovensNeeded_55 : decode cX1_ovensNeeded 55 = .ok (.if_icmp .le 9, 3) := by decide +kernel
theorem dX1_ovensNeeded_58 : decode cX1_ovensNeeded 58 = .ok (.iinc 3 1, 3) := by decide +kernel
theorem dX1_ovensNeeded_61 : decode cX1_ovensNeeded 61 = .ok (.iconst 0, 1) := by decide +kernel
theorem dX1_ovensNeeded_62 : decode cX1_ovensNeeded 62 = .ok (.istore 4, 2) := by decide +kernel
theorem dX1_ovensNeeded_64 : decode cX1_ovensNeeded 64 = .ok (.iload 4, 2) := by decide +kernel
theorem dX1_ovensNeeded_66 : decode cX1_ovensNeeded 66 = .ok (.aload_n 0, 1) := by decide +kernel
theorem dX1_ovensNeeded_67 : decode cX1_ovensNeeded 67 = .ok (.getfield 21, 3) := by decide +kernel
theorem dX1_ovensNeeded_70 : decode cX1_ovensNeeded 70 = .ok (.iload 5, 2) := by decide +kernel
theorem dX1_ovensNeeded_72 : decode cX1_ovensNeeded 72 = .ok (.iaload, 1) := by decide +kernel
theorem dX1_ovensNeeded_73 : decode cX1_ovensNeeded 73 = .ok (.iadd, 1) := by decide +kernel
theorem dX1_ovensNeeded_74 : decode cX1_ovensNeeded 74 = .ok (.istore 4, 2) := by decide +kernel
theorem dX1_ovensNeeded_76 : decode cX1_ovensNeeded 76 = .ok (.iinc 5 1, 3) := by decide +kernel
theorem dX1_ovensNeeded_79 : decode cX1_ovensNeeded 79 = .ok (.goto (-71), 3) := by decide +kernel
theorem dX1_ovensNeeded_82 : decode cX1_ovensNeeded 82 = .ok (.iload_n 3, 1) := by decide +kernel
theorem dX1_ovensNeeded_83 : decode cX1_ovensNeeded 83 = .ok (.ireturn, 1) := by decide +kernel
theorem dX1_isSuspect_0 : decode cX1_isSuspect 0 = .ok (.aload_n 0, 1) := by decide +kernel
theorem dX1_isSuspect_1 : decode cX1_isSuspect 1 = .ok (.getfield 39, 3) := by decide +kernel
theorem dX1_isSuspect_4 : decode cX1_isSuspect 4 = .ok (.iload_n 1, 1) := by decide +kernel
theorem dX1_isSuspect_5 : decode cX1_isSuspect 5 = .ok (.iaload, 1) := by decide +kernel
theorem dX1_isSuspect_6 : decode cX1_isSuspect 6 = .ok (.iconst 1, 1) := by decide +kernel
theorem dX1_isSuspect_7 : decode cX1_isSuspect 7 = .ok (.if_icmp .eq 23, 3) := by decide +kernel
theorem dX1_isSuspect_10 : decode cX1_isSuspect 10 = .ok (.aload_n 0, 1) := by decide +kernel
theorem dX1_isSuspect_11 : decode cX1_isSuspect 11 = .ok (.iload_n 1, 1) := by decide +kernel
theorem dX1_isSuspect_12 : decode cX1_isSuspect 12 = .ok (.invokevirtual 65, 3) := by decide +kernel
theorem dX1_isSuspect_15 : decode cX1_isSuspect 15 = .ok (.ifCond .ne 11, 3) := by decide +kernel
theorem dX1_isSuspect_18 : decode cX1_isSuspect 18 = .ok (.aload_n 0, 1) := by decide +kernel
theorem dX1_isSuspect_19 : decode cX1_isSuspect 19 = .ok (.iload_n 1, 1) := by decide +kernel
theorem dX1_isSuspect_20 : decode cX1_isSuspect 20 = .ok (.invokevirtual 68, 3) := by decide +kernel
theorem dX1_isSuspect_23 : decode cX1_isSuspect 23 = .ok (.ifCond .eq 7, 3) := by decide +kernel
theorem dX1_isSuspect_26 : decode cX1_isSuspect 26 = .ok (.iconst 1, 1) := by decide +kernel
theorem dX1_isSuspect_27 : decode cX1_isSuspect 27 = .ok (.goto 4, 3) := by decide +kernel
theorem dX1_isSuspect_30 : decode cX1_isSuspect 30 = .ok (.iconst 0, 1) := by decide +kernel
theorem dX1_isSuspect_31 : decode cX1_isSuspect 31 = .ok (.ireturn, 1) := by decide +kernel
theorem dX1_poorUpTo_0 : decode cX1_poorUpTo 0 = .ok (.iload_n 1, 1) := by decide +kernel
theorem dX1_poorUpTo_1 : decode cX1_poorUpTo 1 = .ok (.istore_n 2, 1) := by decide +kernel
theorem dX1_poorUpTo_2 : decode cX1_poorUpTo 2 = .ok (.iload_n 2, 1) := by decide +kernel
theorem dX1_poorUpTo_3 : decode cX1_poorUpTo 3 = .ok (.ifCond .lt 49, 3) := by decide +kernel
theorem dX1_poorUpTo_6 : decode cX1_poorUpTo 6 = .ok (.aload_n 0, 1) := by decide +kernel
theorem dX1_poorUpTo_7 : decode cX1_poorUpTo 7 = .ok (.getfield 9, 3) := by decide +kernel
theorem dX1_poorUpTo_10 : decode cX1_poorUpTo 10 = .ok (.iload_n 2, 1) := by decide +kernel
theorem dX1_poorUpTo_11 : decode cX1_poorUpTo 11 = .ok (.iaload, 1) := by decide +kernel
theorem dX1_poorUpTo_12 : decode cX1_poorUpTo 12 = .ok (.aload_n 0, 1) := by decide +kernel
theorem dX1_poorUpTo_13 : decode cX1_poorUpTo 13 = .ok (.getfield 9, 3) := by decide +kernel
theorem dX1_poorUpTo_16 : decode cX1_poorUpTo 16 = .ok (.iload_n 1, 1) := by decide +kernel
theorem dX1_poorUpTo_17 : decode cX1_poorUpTo 17 = .ok (.iaload, 1) := by decide +kernel
theorem dX1_poorUpTo_18 : decode cX1_poorUpTo 18 = .ok (.if_icmp .ne 28, 3) := by decide +kernel
theorem dX1_poorUpTo_21 : decode cX1_poorUpTo 21 = .ok (.aload_n 0, 1) := by decide +kernel
theorem dX1_poorUpTo_22 : decode cX1_poorUpTo 22 = .ok (.getfield 39, 3) := by decide +kernel
theorem dX1_poorUpTo_25 : decode cX1_poorUpTo 25 = .ok (.iload_n 2, 1) := by decide +kernel
theorem dX1_poorUpTo_26 : decode cX1_poorUpTo 26 = .ok (.iaload, 1) := by decide +kernel
theorem dX1_poorUpTo_27 : decode cX1_poorUpTo 27 = .ok (.ifCond .eq 19, 3) := by decide +kernel
theorem dX1_poorUpTo_30 : decode cX1_poorUpTo 30 = .ok (.aload_n 0, 1) := by decide +kernel
theorem dX1_poorUpTo_31 : decode cX1_poorUpTo 31 = .ok (.getfield 39, 3) := by decide +kernel
theorem dX1_poorUpTo_34 : decode cX1_poorUpTo 34 = .ok (.iload_n 2, 1) := by decide +kernel
theorem dX1_poorUpTo_35 : decode cX1_poorUpTo 35 = .ok (.iaload, 1) := by decide +kernel
theorem dX1_poorUpTo_36 : decode cX1_poorUpTo 36 = .ok (.iconst 2, 1) := by decide +kernel
theorem dX1_poorUpTo_37 : decode cX1_poorUpTo 37 = .ok (.if_icmp .ne 7, 3) := by decide +kernel
theorem dX1_poorUpTo_40 : decode cX1_poorUpTo 40 = .ok (.iconst 1, 1) := by decide +kernel
theorem dX1_poorUpTo_41 : decode cX1_poorUpTo 41 = .ok (.goto 4, 3) := by decide +kernel
theorem dX1_poorUpTo_44 : decode cX1_poorUpTo 44 = .ok (.iconst 0, 1) := by decide +kernel
theorem dX1_poorUpTo_45 : decode cX1_poorUpTo 45 = .ok (.ireturn, 1) := by decide +kernel
theorem dX1_poorUpTo_46 : decode cX1_poorUpTo 46 = .ok (.iinc 2 (-1), 3) := by decide +kernel
theorem dX1_poorUpTo_49 : decode cX1_poorUpTo 49 = .ok (.goto (-47), 3) := by decide +kernel
theorem dX1_poorUpTo_52 : decode cX1_poorUpTo 52 = .ok (.iconst 0, 1) := by decide +kernel
theorem dX1_poorUpTo_53 : decode cX1_poorUpTo 53 = .ok (.ireturn, 1) := by decide +kernel
theorem dX1_poorFrom_0 : decode cX1_poorFrom 0 = .ok (.iload_n 1, 1) := by decide +kernel
theorem dX1_poorFrom_1 : decode cX1_poorFrom 1 = .ok (.istore_n 2, 1) := by decide +kernel
theorem dX1_poorFrom_2 : decode cX1_poorFrom 2 = .ok (.iload_n 2, 1) := by decide +kernel
theorem dX1_poorFrom_3 : decode cX1_poorFrom 3 = .ok (.aload_n 0, 1) := by decide +kernel
theorem dX1_poorFrom_4 : decode cX1_poorFrom 4 = .ok (.getfield 42, 3) := by decide +kernel
theorem dX1_poorFrom_7 : decode cX1_poorFrom 7 = .ok (.if_icmp .ge 49, 3) := by decide +kernel
theorem dX1_poorFrom_10 : decode cX1_poorFrom 10 = .ok (.aload_n 0, 1) := by decide +kernel
theorem dX1_poorFrom_11 : decode cX1_poorFrom 11 = .ok (.getfield 9, 3) := by decide +kernel
theorem dX1_poorFrom_14 : decode cX1_poorFrom 14 = .ok (.iload_n 2, 1) := by decide +kernel
theorem dX1_poorFrom_15 : decode cX1_poorFrom 15 = .ok (.iaload, 1) := by decide +kernel
theorem dX1_poorFrom_16 : decode cX1_poorFrom 16 = .ok (.aload_n 0, 1) := by decide +kernel
theorem dX1_poorFrom_17 : decode cX1_poorFrom 17 = .ok (.getfield 9, 3) := by decide +kernel
theorem dX1_poorFrom_20 : decode cX1_poorFrom 20 = .ok (.iload_n 1, 1) := by decide +kernel
theorem dX1_poorFrom_21 : decode cX1_poorFrom 21 = .ok (.iaload, 1) := by decide +kernel
theorem dX1_poorFrom_22 : decode cX1_poorFrom 22 = .ok (.if_icmp .ne 28, 3) := by decide +kernel
theorem dX1_poorFrom_25 : decode cX1_poorFrom 25 = .ok (.aload_n 0, 1) := by decide +kernel
theorem dX1_poorFrom_26 : decode cX1_poorFrom 26 = .ok (.getfield 39, 3) := by decide +kernel
theorem dX1_poorFrom_29 : decode cX1_poorFrom 29 = .ok (.iload_n 2, 1) := by decide +kernel
theorem dX1_poorFrom_30 : decode cX1_poorFrom 30 = .ok (.iaload, 1) := by decide +kernel
theorem dX1_poorFrom_31 : decode cX1_poorFrom 31 = .ok (.ifCond .eq 19, 3) := by decide +kernel
theorem dX1_poorFrom_34 : decode cX1_poorFrom 34 = .ok (.aload_n 0, 1) := by decide +kernel
theorem dX1_poorFrom_35 : decode cX1_poorFrom 35 = .ok (.getfield 39, 3) := by decide +kernel
theorem dX1_poorFrom_38 : decode cX1_poorFrom 38 = .ok (.iload_n 2, 1) := by decide +kernel
theorem dX1_poorFrom_39 : decode cX1_poorFrom 39 = .ok (.iaload, 1) := by decide +kernel
theorem dX1_poorFrom_40 : decode cX1_poorFrom 40 = .ok (.iconst 2, 1) := by decide +kernel
theorem dX1_poorFrom_41 : decode cX1_poorFrom 41 = .ok (.if_icmp .ne 7, 3) := by decide +kernel
theorem dX1_poorFrom_44 : decode cX1_poorFrom 44 = .ok (.iconst 1, 1) := by decide +kernel
theorem dX1_poorFrom_45 : decode cX1_poorFrom 45 = .ok (.goto 4, 3) := by decide +kernel
theorem dX1_poorFrom_48 : decode cX1_poorFrom 48 = .ok (.iconst 0, 1) := by decide +kernel
theorem dX1_poorFrom_49 : decode cX1_poorFrom 49 = .ok (.ireturn, 1) := by decide +kernel
theorem dX1_poorFrom_50 : decode cX1_poorFrom 50 = .ok (.iinc 2 1, 3) := by decide +kernel
theorem dX1_poorFrom_53 : decode cX1_poorFrom 53 = .ok (.goto (-51), 3) := by decide +kernel
theorem dX1_poorFrom_56 : decode cX1_poorFrom 56 = .ok (.iconst 0, 1) := by decide +kernel
theorem dX1_poorFrom_57 : decode cX1_poorFrom 57 = .ok (.ireturn, 1) := by decide +kernel
theorem dX2_init_0 : decode cX2_init 0 = .ok (.aload_n 0, 1) := by decide +kernel
theorem dX2_init_1 : decode cX2_init 1 = .ok (.invokespecial 3, 3) := by decide +kernel
theorem dX2_init_4 : decode cX2_init 4 = .ok (.aload_n 0, 1) := by decide +kernel
theorem dX2_init_5 : decode cX2_init 5 = .ok (.bipush 12, 2) := by decide +kernel
theorem dX2_init_7 : decode cX2_init 7 = .ok (.newarray .int, 2) := by decide +kernel
theorem dX2_init_9 : decode cX2_init 9 = .ok (.putfield 9, 3) := by decide +kernel
theorem dX2_init_12 : decode cX2_init 12 = .ok (.aload_n 0, 1) := by decide +kernel
theorem dX2_init_13 : decode cX2_init 13 = .ok (.bipush 12, 2) := by decide +kernel
theorem dX2_init_15 : decode cX2_init 15 = .ok (.newarray .int, 2) := by decide +kernel
theorem dX2_init_17 : decode cX2_init 17 = .ok (.putfield 15, 3) := by decide +kernel
theorem dX2_init_20 : decode cX2_init 20 = .ok (.aload_n 0, 1) := by decide +kernel
theorem dX2_init_21 : decode cX2_init 21 = .ok (.bipush 12, 2) := by decide +kernel
theorem dX2_init_23 : decode cX2_init 23 = .ok (.newarray .int, 2) := by decide +kernel
theorem dX2_init_25 : decode cX2_init 25 = .ok (.putfield 18, 3) := by decide +kernel
theorem dX2_init_28 : decode cX2_init 28 = .ok (.aload_n 0, 1) := by decide +kernel
theorem dX2_init_29 : decode cX2_init 29 = .ok (.bipush 12, 2) := by decide +kernel
theorem dX2_init_31 : decode cX2_init 31 = .ok (.newarray .int, 2) := by decide +kernel
theorem dX2_init_33 : decode cX2_init 33 = .ok (.putfield 21, 3) := by decide +kernel
theorem dX2_init_36 : decode cX2_init 36 = .ok (.aload_n 0, 1) := by decide +kernel
theorem dX2_init_37 : decode cX2_init 37 = .ok (.bipush 12, 2) := by decide +kernel
theorem dX2_init_39 : decode cX2_init 39 = .ok (.newarray .int, 2) := by decide +kernel
theorem dX2_init_41 : decode cX2_init 41 = .ok (.putfield 24, 3) := by decide +kernel
theorem dX2_init_44 : decode cX2_init 44 = .ok (.aload_n 0, 1) := by decide +kernel
theorem dX2_init_45 : decode cX2_init 45 = .ok (.iconst 0, 1) := by decide +kernel
theorem dX2_init_46 : decode cX2_init 46 = .ok (.putfield 27, 3) := by decide +kernel
theorem dX2_init_49 : decode cX2_init 49 = .ok (.return_, 1) := by decide +kernel
theorem dX2_has_0 : decode cX2_has 0 = .ok (.iload_n 1, 1) := by decide +kernel
theorem dX2_has_1 : decode cX2_has 1 = .ok (.ifCond .lt 15, 3) := by decide +kernel
theorem dX2_has_4 : decode cX2_has 4 = .ok (.iload_n 1, 1) := by decide +kernel
theorem dX2_has_5 : decode cX2_has 5 = .ok (.aload_n 0, 1) := by decide +kernel
theorem dX2_has_6 : decode cX2_has 6 = .ok (.getfield 27, 3) := by decide +kernel
theorem dX2_has_9 : decode cX2_has 9 = .ok (.if_icmp .ge 7, 3) := by decide +kernel
theorem dX2_has_12 : decode cX2_has 12 = .ok (.iconst 1, 1) := by decide +kernel
theorem dX2_has_13 : decode cX2_has 13 = .ok (.goto 4, 3) := by decide +kernel
theorem dX2_has_16 : decode cX2_has 16 = .ok (.iconst 0, 1) := by decide +kernel
theorem dX2_has_17 : decode cX2_has 17 = .ok (.ireturn, 1) := by decide +kernel
theorem dX2_add_0 : decode cX2_add 0 = .ok (.aload_n 0, 1) := by decide +kernel
theorem dX2_add_1 : decode cX2_add 1 = .ok (.getfield 27, 3) := by decide +kernel
theorem dX2_add_4 : decode cX2_add 4 = .ok (.bipush 12, 2) := by decide +kernel
theorem dX2_add_6 : decode cX2_add 6 = .ok (.if_icmp .lt 6, 3) := by decide +kernel
theorem dX2_add_9 : decode cX2_add 9 = .ok (.bipush (-4), 2) := by decide +kernel
theorem dX2_add_11 : decode cX2_add 11 = .ok (.ireturn, 1) := by decide +kernel
theorem dX2_add_12 : decode cX2_add 12 = .ok (.aload_n 0, 1) := by decide +kernel
theorem dX2_add_13 : decode cX2_add 13 = .ok (.getfield 9, 3) := by decide +kernel
theorem dX2_add_16 : decode cX2_add 16 = .ok (.aload_n 0, 1) := by decide +kernel
theorem dX2_add_17 : decode cX2_add 17 = .ok (.getfield 27, 3) := by decide +kernel
theorem dX2_add_20 : decode cX2_add 20 = .ok (.iload_n 1, 1) := by decide +kernel
theorem dX2_add_21 : decode cX2_add 21 = .ok (.iastore, 1) := by decide +kernel
theorem dX2_add_22 : decode cX2_add 22 = .ok (.aload_n 0, 1) := by decide +kernel
theorem dX2_add_23 : decode cX2_add 23 = .ok (.getfield 15, 3) := by decide +kernel
theorem dX2_add_26 : decode cX2_add 26 = .ok (.aload_n 0, 1) := by decide +kernel
theorem dX2_add_27 : decode cX2_add 27 = .ok (.getfield 27, 3) := by decide +kernel
theorem dX2_add_30 : decode cX2_add 30 = .ok (.iload_n 2, 1) := by decide +kernel
theorem dX2_add_31 : decode cX2_add 31 = .ok (.iastore, 1) := by decide +kernel
theorem dX2_add_32 : decode cX2_add 32 = .ok (.aload_n 0, 1) := by decide +kernel
theorem dX2_add_33 : decode cX2_add 33 = .ok (.getfield 24, 3) := by decide +kernel
theorem dX2_add_36 : decode cX2_add 36 = .ok (.aload_n 0, 1) := by decide +kernel
theorem dX2_add_37 : decode cX2_add 37 = .ok (.getfield 27, 3) := by decide +kernel
theorem dX2_add_40 : decode cX2_add 40 = .ok (.iconst (-1), 1) := by decide +kernel
theorem dX2_add_41 : decode cX2_add 41 = .ok (.iastore, 1) := by decide +kernel
theorem dX2_add_42 : decode cX2_add 42 = .ok (.aload_n 0, 1) := by decide +kernel
theorem dX2_add_43 : decode cX2_add 43 = .ok (.dup, 1) := by decide +kernel
theorem dX2_add_44 : decode cX2_add 44 = .ok (.getfield 27, 3) := by decide +kernel
theorem dX2_add_47 : decode cX2_add 47 = .ok (.iconst 1, 1) := by decide +kernel
theorem dX2_add_48 : decode cX2_add 48 = .ok (.iadd, 1) := by decide +kernel
theorem dX2_add_49 : decode cX2_add 49 = .ok (.putfield 27, 3) := by decide +kernel
theorem dX2_add_52 : decode cX2_add 52 = .ok (.aload_n 0, 1) := by decide +kernel
theorem dX2_add_53 : decode cX2_add 53 = .ok (.getfield 27, 3) := by decide +kernel
theorem dX2_add_56 : decode cX2_add 56 = .ok (.iconst 1, 1) := by decide +kernel
theorem dX2_add_57 : decode cX2_add 57 = .ok (.isub, 1) := by decide +kernel
theorem dX2_add_58 : decode cX2_add 58 = .ok (.ireturn, 1) := by decide +kernel
theorem dX2_isWarm_0 : decode cX2_isWarm 0 = .ok (.aload_n 0, 1) := by decide +kernel
theorem dX2_isWarm_1 : decode cX2_isWarm 1 = .ok (.getfield 24, 3) := by decide +kernel
theorem dX2_isWarm_4 : decode cX2_isWarm 4 = .ok (.iload_n 1, 1) := by decide +kernel
theorem dX2_isWarm_5 : decode cX2_isWarm 5 = .ok (.iaload, 1) := by decide +kernel
theorem dX2_isWarm_6 : decode cX2_isWarm 6 = .ok (.iconst (-1), 1) := by decide +kernel
theorem dX2_isWarm_7 : decode cX2_isWarm 7 = .ok (.if_icmp .eq 7, 3) := by decide +kernel
theorem dX2_isWarm_10 : decode cX2_isWarm 10 = .ok (.iconst 1, 1) := by decide +kernel
theorem dX2_isWarm_11 : decode cX2_isWarm 11 = .ok (.goto 4, 3) := by decide +kernel
theorem dX2_isWarm_14 : decode cX2_isWarm 14 = .ok (.iconst 0, 1) := by decide +kernel
theorem dX2_isWarm_15 : decode cX2_isWarm 15 = .ok (.ireturn, 1) := by decide +kernel
theorem dX2_ticksWarm_0 : decode cX2_ticksWarm 0 = .ok (.aload_n 0, 1) := by decide +kernel
theorem dX2_ticksWarm_1 : decode cX2_ticksWarm 1 = .ok (.iload_n 1, 1) := by decide +kernel
theorem dX2_ticksWarm_2 : decode cX2_ticksWarm 2 = .ok (.invokevirtual 31, 3) := by decide +kernel
theorem dX2_ticksWarm_5 : decode cX2_ticksWarm 5 = .ok (.ifCond .eq 14, 3) := by decide +kernel
theorem dX2_ticksWarm_8 : decode cX2_ticksWarm 8 = .ok (.iload_n 2, 1) := by decide +kernel
theorem dX2_ticksWarm_9 : decode cX2_ticksWarm 9 = .ok (.aload_n 0, 1) := by decide +kernel
theorem dX2_ticksWarm_10 : decode cX2_ticksWarm 10 = .ok (.getfield 24, 3) := by decide +kernel
theorem dX2_ticksWarm_13 : decode cX2_ticksWarm 13 = .ok (.iload_n 1, 1) := by decide +kernel
theorem dX2_ticksWarm_14 : decode cX2_ticksWarm 14 = .ok (.iaload, 1) := by decide +kernel
theorem dX2_ticksWarm_15 : decode cX2_ticksWarm 15 = .ok (.isub, 1) := by decide +kernel
theorem dX2_ticksWarm_16 : decode cX2_ticksWarm 16 = .ok (.goto 4, 3) := by decide +kernel
theorem dX2_ticksWarm_19 : decode cX2_ticksWarm 19 = .ok (.iconst (-1), 1) := by decide +kernel
theorem dX2_ticksWarm_20 : decode cX2_ticksWarm 20 = .ok (.ireturn, 1) := by decide +kernel
theorem dX2_mayPress_0 : decode cX2_mayPress 0 = .ok (.aload_n 0, 1) := by decide +kernel
theorem dX2_mayPress_1 : decode cX2_mayPress 1 = .ok (.iload_n 1, 1) := by decide +kernel
theorem dX2_mayPress_2 : decode cX2_mayPress 2 = .ok (.iload_n 2, 1) := by decide +kernel
theorem dX2_mayPress_3 : decode cX2_mayPress 3 = .ok (.invokevirtual 35, 3) := by decide +kernel
theorem dX2_mayPress_6 : decode cX2_mayPress 6 = .ok (.iconst 3, 1) := by decide +kernel
theorem dX2_mayPress_7 : decode cX2_mayPress 7 = .ok (.bipush 12, 2) := by decide +kernel
theorem dX2_mayPress_9 : decode cX2_mayPress 9 = .ok (.invokestatic 39, 3) := by decide +kernel
theorem dX2_mayPress_12 : decode cX2_mayPress 12 = .ok (.ifCond .eq 22, 3) := by decide +kernel
theorem dX2_mayPress_15 : decode cX2_mayPress 15 = .ok (.aload_n 0, 1) := by decide +kernel
theorem dX2_mayPress_16 : decode cX2_mayPress 16 = .ok (.getfield 18, 3) := by decide +kernel
theorem dX2_mayPress_19 : decode cX2_mayPress 19 = .ok (.iload_n 1, 1) := by decide +kernel
theorem dX2_mayPress_20 : decode cX2_mayPress 20 = .ok (.iaload, 1) := by decide +kernel
theorem dX2_mayPress_21 : decode cX2_mayPress 21 = .ok (.aload_n 0, 1) := by decide +kernel
theorem dX2_mayPress_22 : decode cX2_mayPress 22 = .ok (.getfield 15, 3) := by decide +kernel
theorem dX2_mayPress_25 : decode cX2_mayPress 25 = .ok (.iload_n 1, 1) := by decide +kernel
theorem dX2_mayPress_26 : decode cX2_mayPress 26 = .ok (.iaload, 1) := by decide +kernel
theorem dX2_mayPress_27 : decode cX2_mayPress 27 = .ok (.if_icmp .ge 7, 3) := by decide +kernel
theorem dX2_mayPress_30 : decode cX2_mayPress 30 = .ok (.iconst 1, 1) := by decide +kernel
theorem dX2_mayPress_31 : decode cX2_mayPress 31 = .ok (.goto 4, 3) := by decide +kernel
theorem dX2_mayPress_34 : decode cX2_mayPress 34 = .ok (.iconst 0, 1) := by decide +kernel
theorem dX2_mayPress_35 : decode cX2_mayPress 35 = .ok (.ireturn, 1) := by decide +kernel
theorem dX2_leastWorn_0 : decode cX2_leastWorn 0 = .ok (.iconst (-1), 1) := by decide +kernel
theorem dX2_leastWorn_1 : decode cX2_leastWorn 1 = .ok (.istore_n 3, 1) := by decide +kernel
theorem dX2_leastWorn_2 : decode cX2_leastWorn 2 = .ok (.iconst 0, 1) := by decide +kernel
theorem dX2_leastWorn_3 : decode cX2_leastWorn 3 = .ok (.istore 4, 2) := by decide +kernel
theorem dX2_leastWorn_5 : decode cX2_leastWorn 5 = .ok (.iload 4, 2) := by decide +kernel
theorem dX2_leastWorn_7 : decode cX2_leastWorn 7 = .ok (.aload_n 0, 1) := by decide +kernel
theorem dX2_leastWorn_8 : decode cX2_leastWorn 8 = .ok (.getfield 27, 3) := by decide +kernel
theorem dX2_leastWorn_11 : decode cX2_leastWorn 11 = .ok (.if_icmp .ge 54, 3) := by decide +kernel
theorem dX2_leastWorn_14 : decode cX2_leastWorn 14 = .ok (.aload_n 0, 1) := by decide +kernel
theorem dX2_leastWorn_15 : decode cX2_leastWorn 15 = .ok (.getfield 9, 3) := by decide +kernel
theorem dX2_leastWorn_18 : decode cX2_leastWorn 18 = .ok (.iload 4, 2) := by decide +kernel
theorem dX2_leastWorn_20 : decode cX2_leastWorn 20 = .ok (.iaload, 1) := by decide +kernel
theorem dX2_leastWorn_21 : decode cX2_leastWorn 21 = .ok (.iload_n 1, 1) := by decide +kernel
theorem dX2_leastWorn_22 : decode cX2_leastWorn 22 = .ok (.if_icmp .ne 37, 3) := by decide +kernel
theorem dX2_leastWorn_25 : decode cX2_leastWorn 25 = .ok (.aload_n 0, 1) := by decide +kernel
theorem dX2_leastWorn_26 : decode cX2_leastWorn 26 = .ok (.iload 4, 2) := by decide +kernel
theorem dX2_leastWorn_28 : decode cX2_leastWorn 28 = .ok (.iload_n 2, 1) := by decide +kernel
theorem dX2_leastWorn_29 : decode cX2_leastWorn 29 = .ok (.invokevirtual 43, 3) := by decide +kernel
theorem dX2_leastWorn_32 : decode cX2_leastWorn 32 = .ok (.ifCond .eq 27, 3) := by decide +kernel
theorem dX2_leastWorn_35 : decode cX2_leastWorn 35 = .ok (.iload_n 3, 1) := by decide +kernel
theorem dX2_leastWorn_36 : decode cX2_leastWorn 36 = .ok (.iconst (-1), 1) := by decide +kernel
theorem dX2_leastWorn_37 : decode cX2_leastWorn 37 = .ok (.if_icmp .eq 19, 3) := by decide +kernel
theorem dX2_leastWorn_40 : decode cX2_leastWorn 40 = .ok (.aload_n 0, 1) := by decide +kernel
theorem dX2_leastWorn_41 : decode cX2_leastWorn 41 = .ok (.getfield 18, 3) := by decide +kernel
theorem dX2_leastWorn_44 : decode cX2_leastWorn 44 = .ok (.iload 4, 2) := by decide +kernel
theorem dX2_leastWorn_46 : decode cX2_leastWorn 46 = .ok (.iaload, 1) := by decide +kernel
theorem dX2_leastWorn_47 : decode cX2_leastWorn 47 = .ok (.aload_n 0, 1) := by decide +kernel
theorem dX2_leastWorn_48 : decode cX2_leastWorn 48 = .ok (.getfield 18, 3) := by decide +kernel
theorem dX2_leastWorn_51 : decode cX2_leastWorn 51 = .ok (.iload_n 3, 1) := by decide +kernel
theorem dX2_leastWorn_52 : decode cX2_leastWorn 52 = .ok (.iaload, 1) := by decide +kernel
theorem dX2_leastWorn_53 : decode cX2_leastWorn 53 = .ok (.if_icmp .ge 6, 3) := by decide +kernel
theorem dX2_leastWorn_56 : decode cX2_leastWorn 56 = .ok (.iload 4, 2) := by decide +kernel
theorem dX2_leastWorn_58 : decode cX2_leastWorn 58 = .ok (.istore_n 3, 1) := by decide +kernel
theorem dX2_leastWorn_59 : decode cX2_leastWorn 59 = .ok (.iinc 4 1, 3) := by decide +kernel
theorem dX2_leastWorn_62 : decode cX2_leastWorn 62 = .ok (.goto (-57), 3) := by decide +kernel
theorem dX2_leastWorn_65 : decode cX2_leastWorn 65 = .ok (.iload_n 3, 1) := by decide +kernel
theorem dX2_leastWorn_66 : decode cX2_leastWorn 66 = .ok (.ireturn, 1) := by decide +kernel
theorem dX2_wear_0 : decode cX2_wear 0 = .ok (.aload_n 0, 1) := by decide +kernel
theorem dX2_wear_1 : decode cX2_wear 1 = .ok (.getfield 18, 3) := by decide +kernel
theorem dX2_wear_4 : decode cX2_wear 4 = .ok (.iload_n 1, 1) := by decide +kernel
theorem dX2_wear_5 : decode cX2_wear 5 = .ok (.dup2, 1) := by decide +kernel
theorem dX2_wear_6 : decode cX2_wear 6 = .ok (.iaload, 1) := by decide +kernel
theorem dX2_wear_7 : decode cX2_wear 7 = .ok (.iconst 1, 1) := by decide +kernel
theorem dX2_wear_8 : decode cX2_wear 8 = .ok (.iadd, 1) := by decide +kernel
theorem dX2_wear_9 : decode cX2_wear 9 = .ok (.iastore, 1) := by decide +kernel
theorem dX2_wear_10 : decode cX2_wear 10 = .ok (.aload_n 0, 1) := by decide +kernel
theorem dX2_wear_11 : decode cX2_wear 11 = .ok (.getfield 21, 3) := by decide +kernel
theorem dX2_wear_14 : decode cX2_wear 14 = .ok (.iload_n 1, 1) := by decide +kernel
theorem dX2_wear_15 : decode cX2_wear 15 = .ok (.dup2, 1) := by decide +kernel
theorem dX2_wear_16 : decode cX2_wear 16 = .ok (.iaload, 1) := by decide +kernel
theorem dX2_wear_17 : decode cX2_wear 17 = .ok (.iconst 1, 1) := by decide +kernel
theorem dX2_wear_18 : decode cX2_wear 18 = .ok (.iadd, 1) := by decide +kernel
theorem dX2_wear_19 : decode cX2_wear 19 = .ok (.iastore, 1) := by decide +kernel
theorem dX2_wear_20 : decode cX2_wear 20 = .ok (.return_, 1) := by decide +kernel
theorem dX3_init_0 : decode cX3_init 0 = .ok (.aload_n 0, 1) := by decide +kernel
theorem dX3_init_1 : decode cX3_init 1 = .ok (.invokespecial 3, 3) := by decide +kernel
theorem dX3_init_4 : decode cX3_init 4 = .ok (.aload_n 0, 1) := by decide +kernel
theorem dX3_init_5 : decode cX3_init 5 = .ok (.bipush 8, 2) := by decide +kernel
theorem dX3_init_7 : decode cX3_init 7 = .ok (.newarray .int, 2) := by decide +kernel
theorem dX3_init_9 : decode cX3_init 9 = .ok (.putfield 9, 3) := by decide +kernel
theorem dX3_init_12 : decode cX3_init 12 = .ok (.aload_n 0, 1) := by decide +kernel
theorem dX3_init_13 : decode cX3_init 13 = .ok (.bipush 24, 2) := by decide +kernel
theorem dX3_init_15 : decode cX3_init 15 = .ok (.newarray .int, 2) := by decide +kernel
theorem dX3_init_17 : decode cX3_init 17 = .ok (.putfield 15, 3) := by decide +kernel
theorem dX3_init_20 : decode cX3_init 20 = .ok (.aload_n 0, 1) := by decide +kernel
theorem dX3_init_21 : decode cX3_init 21 = .ok (.bipush 24, 2) := by decide +kernel
theorem dX3_init_23 : decode cX3_init 23 = .ok (.newarray .int, 2) := by decide +kernel
theorem dX3_init_25 : decode cX3_init 25 = .ok (.putfield 18, 3) := by decide +kernel
theorem dX3_init_28 : decode cX3_init 28 = .ok (.return_, 1) := by decide +kernel
theorem dX3_add_0 : decode cX3_add 0 = .ok (.aload_n 0, 1) := by decide +kernel
theorem dX3_add_1 : decode cX3_add 1 = .ok (.getfield 9, 3) := by decide +kernel
theorem dX3_add_4 : decode cX3_add 4 = .ok (.iload_n 1, 1) := by decide +kernel
theorem dX3_add_5 : decode cX3_add 5 = .ok (.iaload, 1) := by decide +kernel
theorem dX3_add_6 : decode cX3_add 6 = .ok (.istore 4, 2) := by decide +kernel
theorem dX3_add_8 : decode cX3_add 8 = .ok (.iload 4, 2) := by decide +kernel
theorem dX3_add_10 : decode cX3_add 10 = .ok (.iconst 3, 1) := by decide +kernel
theorem dX3_add_11 : decode cX3_add 11 = .ok (.if_icmp .lt 6, 3) := by decide +kernel
theorem dX3_add_14 : decode cX3_add 14 = .ok (.bipush (-4), 2) := by decide +kernel
theorem dX3_add_16 : decode cX3_add 16 = .ok (.ireturn, 1) := by decide +kernel
theorem dX3_add_17 : decode cX3_add 17 = .ok (.aload_n 0, 1) := by decide +kernel
theorem dX3_add_18 : decode cX3_add 18 = .ok (.getfield 15, 3) := by decide +kernel
theorem dX3_add_21 : decode cX3_add 21 = .ok (.iload_n 1, 1) := by decide +kernel
theorem dX3_add_22 : decode cX3_add 22 = .ok (.iconst 3, 1) := by decide +kernel
theorem dX3_add_23 : decode cX3_add 23 = .ok (.imul, 1) := by decide +kernel
theorem dX3_add_24 : decode cX3_add 24 = .ok (.iload 4, 2) := by decide +kernel
theorem dX3_add_26 : decode cX3_add 26 = .ok (.iadd, 1) := by decide +kernel
theorem dX3_add_27 : decode cX3_add 27 = .ok (.iload_n 2, 1) := by decide +kernel
theorem dX3_add_28 : decode cX3_add 28 = .ok (.iastore, 1) := by decide +kernel
theorem dX3_add_29 : decode cX3_add 29 = .ok (.aload_n 0, 1) := by decide +kernel
theorem dX3_add_30 : decode cX3_add 30 = .ok (.getfield 18, 3) := by decide +kernel
theorem dX3_add_33 : decode cX3_add 33 = .ok (.iload_n 1, 1) := by decide +kernel
theorem dX3_add_34 : decode cX3_add 34 = .ok (.iconst 3, 1) := by decide +kernel
theorem dX3_add_35 : decode cX3_add 35 = .ok (.imul, 1) := by decide +kernel
theorem dX3_add_36 : decode cX3_add 36 = .ok (.iload 4, 2) := by decide +kernel
theorem dX3_add_38 : decode cX3_add 38 = .ok (.iadd, 1) := by decide +kernel
theorem dX3_add_39 : decode cX3_add 39 = .ok (.iload_n 3, 1) := by decide +kernel
theorem dX3_add_40 : decode cX3_add 40 = .ok (.iastore, 1) := by decide +kernel
theorem dX3_add_41 : decode cX3_add 41 = .ok (.aload_n 0, 1) := by decide +kernel
theorem dX3_add_42 : decode cX3_add 42 = .ok (.getfield 9, 3) := by decide +kernel
theorem dX3_add_45 : decode cX3_add 45 = .ok (.iload_n 1, 1) := by decide +kernel
theorem dX3_add_46 : decode cX3_add 46 = .ok (.dup2, 1) := by decide +kernel
theorem dX3_add_47 : decode cX3_add 47 = .ok (.iaload, 1) := by decide +kernel
theorem dX3_add_48 : decode cX3_add 48 = .ok (.iconst 1, 1) := by decide +kernel
theorem dX3_add_49 : decode cX3_add 49 = .ok (.iadd, 1) := by decide +kernel
theorem dX3_add_50 : decode cX3_add 50 = .ok (.iastore, 1) := by decide +kernel
theorem dX3_add_51 : decode cX3_add 51 = .ok (.iload 4, 2) := by decide +kernel
theorem dX3_add_53 : decode cX3_add 53 = .ok (.ireturn, 1) := by decide +kernel
theorem dX3_serve_0 : decode cX3_serve 0 = .ok (.iconst 0, 1) := by decide +kernel
theorem dX3_serve_1 : decode cX3_serve 1 = .ok (.istore_n 3, 1) := by decide +kernel
theorem dX3_serve_2 : decode cX3_serve 2 = .ok (.iload_n 3, 1) := by decide +kernel
theorem dX3_serve_3 : decode cX3_serve 3 = .ok (.iconst 3, 1) := by decide +kernel
theorem dX3_serve_4 : decode cX3_serve 4 = .ok (.if_icmp .ge 25, 3) := by decide +kernel
theorem dX3_serve_7 : decode cX3_serve 7 = .ok (.aload_n 0, 1) := by decide +kernel
theorem dX3_serve_8 : decode cX3_serve 8 = .ok (.getfield 18, 3) := by decide +kernel
theorem dX3_serve_11 : decode cX3_serve 11 = .ok (.iload_n 1, 1) := by decide +kernel
theorem dX3_serve_12 : decode cX3_serve 12 = .ok (.iconst 3, 1) := by decide +kernel
theorem dX3_serve_13 : decode cX3_serve 13 = .ok (.imul, 1) := by decide +kernel
theorem dX3_serve_14 : decode cX3_serve 14 = .ok (.iload_n 3, 1) := by decide +kernel
theorem dX3_serve_15 : decode cX3_serve 15 = .ok (.iadd, 1) := by decide +kernel
theorem dX3_serve_16 : decode cX3_serve 16 = .ok (.dup2, 1) := by decide +kernel
theorem dX3_serve_17 : decode cX3_serve 17 = .ok (.iaload, 1) := by decide +kernel
theorem dX3_serve_18 : decode cX3_serve 18 = .ok (.aload_n 2, 1) := by decide +kernel
theorem dX3_serve_19 : decode cX3_serve 19 = .ok (.iload_n 3, 1) := by decide +kernel
theorem dX3_serve_20 : decode cX3_serve 20 = .ok (.iaload, 1) := by decide +kernel
theorem dX3_serve_21 : decode cX3_serve 21 = .ok (.isub, 1) := by decide +kernel
theorem dX3_serve_22 : decode cX3_serve 22 = .ok (.iastore, 1) := by decide +kernel
theorem dX3_serve_23 : decode cX3_serve 23 = .ok (.iinc 3 1, 3) := by decide +kernel
theorem dX3_serve_26 : decode cX3_serve 26 = .ok (.goto (-24), 3) := by decide +kernel
theorem dX3_serve_29 : decode cX3_serve 29 = .ok (.return_, 1) := by decide +kernel
theorem dX4_init_0 : decode cX4_init 0 = .ok (.aload_n 0, 1) := by decide +kernel
theorem dX4_init_1 : decode cX4_init 1 = .ok (.invokespecial 3, 3) := by decide +kernel
theorem dX4_init_4 : decode cX4_init 4 = .ok (.aload_n 0, 1) := by decide +kernel
theorem dX4_init_5 : decode cX4_init 5 = .ok (.iconst 3, 1) := by decide +kernel
theorem dX4_init_6 : decode cX4_init 6 = .ok (.newarray .int, 2) := by decide +kernel
theorem dX4_init_8 : decode cX4_init 8 = .ok (.putfield 9, 3) := by decide +kernel
theorem dX4_init_11 : decode cX4_init 11 = .ok (.aload_n 0, 1) := by decide +kernel
theorem dX4_init_12 : decode cX4_init 12 = .ok (.iconst 0, 1) := by decide +kernel
theorem dX4_init_13 : decode cX4_init 13 = .ok (.putfield 15, 3) := by decide +kernel
theorem dX4_init_16 : decode cX4_init 16 = .ok (.aload_n 0, 1) := by decide +kernel
theorem dX4_init_17 : decode cX4_init 17 = .ok (.iconst 3, 1) := by decide +kernel
theorem dX4_init_18 : decode cX4_init 18 = .ok (.newarray .int, 2) := by decide +kernel
theorem dX4_init_20 : decode cX4_init 20 = .ok (.putfield 19, 3) := by decide +kernel
theorem dX4_init_23 : decode cX4_init 23 = .ok (.aload_n 0, 1) := by decide +kernel
theorem dX4_init_24 : decode cX4_init 24 = .ok (.iconst 3, 1) := by decide +kernel
theorem dX4_init_25 : decode cX4_init 25 = .ok (.newarray .int, 2) := by decide +kernel
theorem dX4_init_27 : decode cX4_init 27 = .ok (.putfield 22, 3) := by decide +kernel
theorem dX4_init_30 : decode cX4_init 30 = .ok (.aload_n 0, 1) := by decide +kernel
theorem dX4_init_31 : decode cX4_init 31 = .ok (.iconst 0, 1) := by decide +kernel
theorem dX4_init_32 : decode cX4_init 32 = .ok (.putfield 25, 3) := by decide +kernel
theorem dX4_init_35 : decode cX4_init 35 = .ok (.return_, 1) := by decide +kernel
theorem dX4_seek_0 : decode cX4_seek 0 = .ok (.aload_n 0, 1) := by decide +kernel
theorem dX4_seek_1 : decode cX4_seek 1 = .ok (.aload_n 1, 1) := by decide +kernel
theorem dX4_seek_2 : decode cX4_seek 2 = .ok (.iload_n 2, 1) := by decide +kernel
theorem dX4_seek_3 : decode cX4_seek 3 = .ok (.invokevirtual 28, 3) := by decide +kernel
theorem dX4_seek_6 : decode cX4_seek 6 = .ok (.aload_n 0, 1) := by decide +kernel
theorem dX4_seek_7 : decode cX4_seek 7 = .ok (.iload 4, 2) := by decide +kernel
theorem dX4_seek_9 : decode cX4_seek 9 = .ok (.putfield 25, 3) := by decide +kernel
theorem dX4_seek_12 : decode cX4_seek 12 = .ok (.aload_n 0, 1) := by decide +kernel
theorem dX4_seek_13 : decode cX4_seek 13 = .ok (.iconst 0, 1) := by decide +kernel
theorem dX4_seek_14 : decode cX4_seek 14 = .ok (.putfield 15, 3) := by decide +kernel
theorem dX4_seek_17 : decode cX4_seek 17 = .ok (.aload_n 0, 1) := by decide +kernel
theorem dX4_seek_18 : decode cX4_seek 18 = .ok (.getfield 9, 3) := by decide +kernel
theorem dX4_seek_21 : decode cX4_seek 21 = .ok (.iconst 0, 1) := by decide +kernel
theorem dX4_seek_22 : decode cX4_seek 22 = .ok (.iconst 0, 1) := by decide +kernel
theorem dX4_seek_23 : decode cX4_seek 23 = .ok (.iastore, 1) := by decide +kernel
theorem dX4_seek_24 : decode cX4_seek 24 = .ok (.aload_n 0, 1) := by decide +kernel
theorem dX4_seek_25 : decode cX4_seek 25 = .ok (.getfield 9, 3) := by decide +kernel
theorem dX4_seek_28 : decode cX4_seek 28 = .ok (.iconst 1, 1) := by decide +kernel
theorem dX4_seek_29 : decode cX4_seek 29 = .ok (.iconst 0, 1) := by decide +kernel
theorem dX4_seek_30 : decode cX4_seek 30 = .ok (.iastore, 1) := by decide +kernel
theorem dX4_seek_31 : decode cX4_seek 31 = .ok (.aload_n 0, 1) := by decide +kernel
theorem dX4_seek_32 : decode cX4_seek 32 = .ok (.getfield 9, 3) := by decide +kernel
theorem dX4_seek_35 : decode cX4_seek 35 = .ok (.iconst 2, 1) := by decide +kernel
theorem dX4_seek_36 : decode cX4_seek 36 = .ok (.iconst 0, 1) := by decide +kernel
theorem dX4_seek_37 : decode cX4_seek 37 = .ok (.iastore, 1) := by decide +kernel
theorem dX4_seek_38 : decode cX4_seek 38 = .ok (.iload_n 3, 1) := by decide +kernel
theorem dX4_seek_39 : decode cX4_seek 39 = .ok (.iload 4, 2) := by decide +kernel
theorem dX4_seek_41 : decode cX4_seek 41 = .ok (.iadd, 1) := by decide +kernel
theorem dX4_seek_42 : decode cX4_seek 42 = .ok (.istore 5, 2) := by decide +kernel
theorem dX4_seek_44 : decode cX4_seek 44 = .ok (.aload_n 0, 1) := by decide +kernel
theorem dX4_seek_45 : decode cX4_seek 45 = .ok (.getfield 22, 3) := by decide +kernel
theorem dX4_seek_48 : decode cX4_seek 48 = .ok (.iconst 1, 1) := by decide +kernel
theorem dX4_seek_49 : decode cX4_seek 49 = .ok (.iaload, 1) := by decide +kernel
theorem dX4_seek_50 : decode cX4_seek 50 = .ok (.aload_n 0, 1) := by decide +kernel
theorem dX4_seek_51 : decode cX4_seek 51 = .ok (.getfield 19, 3) := by decide +kernel
theorem dX4_seek_54 : decode cX4_seek 54 = .ok (.iconst 1, 1) := by decide +kernel
theorem dX4_seek_55 : decode cX4_seek 55 = .ok (.iaload, 1) := by decide +kernel
theorem dX4_seek_56 : decode cX4_seek 56 = .ok (.imul, 1) := by decide +kernel
theorem dX4_seek_57 : decode cX4_seek 57 = .ok (.aload_n 0, 1) := by decide +kernel
theorem dX4_seek_58 : decode cX4_seek 58 = .ok (.getfield 22, 3) := by decide +kernel
theorem dX4_seek_61 : decode cX4_seek 61 = .ok (.iconst 2, 1) := by decide +kernel
theorem dX4_seek_62 : decode cX4_seek 62 = .ok (.iaload, 1) := by decide +kernel
theorem dX4_seek_63 : decode cX4_seek 63 = .ok (.aload_n 0, 1) := by decide +kernel
theorem dX4_seek_64 : decode cX4_seek 64 = .ok (.getfield 19, 3) := by decide +kernel
theorem dX4_seek_67 : decode cX4_seek 67 = .ok (.iconst 2, 1) := by decide +kernel
theorem dX4_seek_68 : decode cX4_seek 68 = .ok (.iaload, 1) := by decide +kernel
theorem dX4_seek_69 : decode cX4_seek 69 = .ok (.imul, 1) := by decide +kernel
theorem dX4_seek_70 : decode cX4_seek 70 = .ok (.iadd, 1) := by decide +kernel
theorem dX4_seek_71 : decode cX4_seek 71 = .ok (.istore 6, 2) := by decide +kernel
theorem dX4_seek_73 : decode cX4_seek 73 = .ok (.aload_n 0, 1) := by decide +kernel
theorem dX4_seek_74 : decode cX4_seek 74 = .ok (.iconst 0, 1) := by decide +kernel
theorem dX4_seek_75 : decode cX4_seek 75 = .ok (.iload 5, 2) := by decide +kernel
theorem dX4_seek_77 : decode cX4_seek 77 = .ok (.invokevirtual 32, 3) := by decide +kernel
theorem dX4_seek_80 : decode cX4_seek 80 = .ok (.istore 7, 2) := by decide +kernel
theorem dX4_seek_82 : decode cX4_seek 82 = .ok (.iload 7, 2) := by decide +kernel
theorem dX4_seek_84 : decode cX4_seek 84 = .ok (.ifCond .lt 52, 3) := by decide +kernel
theorem dX4_seek_87 : decode cX4_seek 87 = .ok (.iload 7, 2) := by decide +kernel
theorem dX4_seek_89 : decode cX4_seek 89 = .ok (.aload_n 0, 1) := by decide +kernel
theorem dX4_seek_90 : decode cX4_seek 90 = .ok (.getfield 19, 3) := by decide +kernel
theorem dX4_seek_93 : decode cX4_seek 93 = .ok (.iconst 0, 1) := by decide +kernel
theorem dX4_seek_94 : decode cX4_seek 94 = .ok (.iaload, 1) := by decide +kernel
theorem dX4_seek_95 : decode cX4_seek 95 = .ok (.imul, 1) := by decide +kernel
theorem dX4_seek_96 : decode cX4_seek 96 = .ok (.iload 6, 2) := by decide +kernel
theorem dX4_seek_98 : decode cX4_seek 98 = .ok (.iadd, 1) := by decide +kernel
theorem dX4_seek_99 : decode cX4_seek 99 = .ok (.aload_n 0, 1) := by decide +kernel
theorem dX4_seek_100 : decode cX4_seek 100 = .ok (.getfield 15, 3) := by decide +kernel
theorem dX4_seek_103 : decode cX4_seek 103 = .ok (.if_icmp .ge 6, 3) := by decide +kernel
theorem dX4_seek_106 : decode cX4_seek 106 = .ok (.goto 30, 3) := by decide +kernel
theorem dX4_seek_109 : decode cX4_seek 109 = .ok (.aload_n 0, 1) := by decide +kernel
theorem dX4_seek_110 : decode cX4_seek 110 = .ok (.iload 7, 2) := by decide +kernel
theorem dX4_seek_112 : decode cX4_seek 112 = .ok (.iload 5, 2) := by decide +kernel
theorem dX4_seek_114 : decode cX4_seek 114 = .ok (.iload 7, 2) := by decide +kernel
theorem dX4_seek_116 : decode cX4_seek 116 = .ok (.aload_n 0, 1) := by decide +kernel
theorem dX4_seek_117 : decode cX4_seek 117 = .ok (.getfield 19, 3) := by decide +kernel
theorem dX4_seek_120 : decode cX4_seek 120 = .ok (.iconst 0, 1) := by decide +kernel
theorem dX4_seek_121 : decode cX4_seek 121 = .ok (.iaload, 1) := by decide +kernel
theorem dX4_seek_122 : decode cX4_seek 122 = .ok (.iload 4, 2) := by decide +kernel
theorem dX4_seek_124 : decode cX4_seek 124 = .ok (.iadd, 1) := by decide +kernel
theorem dX4_seek_125 : decode cX4_seek 125 = .ok (.imul, 1) := by decide +kernel
theorem dX4_seek_126 : decode cX4_seek 126 = .ok (.isub, 1) := by decide +kernel
theorem dX4_seek_127 : decode cX4_seek 127 = .ok (.invokevirtual 36, 3) := by decide +kernel
theorem dX4_seek_130 : decode cX4_seek 130 = .ok (.iinc 7 (-1), 3) := by decide +kernel
theorem dX4_seek_133 : decode cX4_seek 133 = .ok (.goto (-51), 3) := by decide +kernel
theorem dX4_seek_136 : decode cX4_seek 136 = .ok (.return_, 1) := by decide +kernel
theorem dX4_load_0 : decode cX4_load 0 = .ok (.iconst 0, 1) := by decide +kernel
theorem dX4_load_1 : decode cX4_load 1 = .ok (.istore_n 3, 1) := by decide +kernel
theorem dX4_load_2 : decode cX4_load 2 = .ok (.iload_n 3, 1) := by decide +kernel
theorem dX4_load_3 : decode cX4_load 3 = .ok (.iconst 3, 1) := by decide +kernel
theorem dX4_load_4 : decode cX4_load 4 = .ok (.if_icmp .ge 82, 3) := by decide +kernel
theorem dX4_load_7 : decode cX4_load 7 = .ok (.iload_n 3, 1) := by decide +kernel
theorem dX4_load_8 : decode cX4_load 8 = .ok (.aload_n 1, 1) := by decide +kernel
theorem dX4_load_9 : decode cX4_load 9 = .ok (.getfield 40, 3) := by decide +kernel
theorem dX4_load_12 : decode cX4_load 12 = .ok (.iload_n 2, 1) := by decide +kernel
theorem dX4_load_13 : decode cX4_load 13 = .ok (.iaload, 1) := by decide +kernel
theorem dX4_load_14 : decode cX4_load 14 = .ok (.if_icmp .ge 7, 3) := by decide +kernel
theorem dX4_load_17 : decode cX4_load 17 = .ok (.iconst 1, 1) := by decide +kernel
theorem dX4_load_18 : decode cX4_load 18 = .ok (.goto 4, 3) := by decide +kernel
theorem dX4_load_21 : decode cX4_load 21 = .ok (.iconst 0, 1) := by decide +kernel
theorem dX4_load_22 : decode cX4_load 22 = .ok (.istore 4, 2) := by decide +kernel
theorem dX4_load_24 : decode cX4_load 24 = .ok (.iload_n 2, 1) := by decide +kernel
theorem dX4_load_25 : decode cX4_load 25 = .ok (.iconst 3, 1) := by decide +kernel
theorem dX4_load_26 : decode cX4_load 26 = .ok (.imul, 1) := by decide +kernel
theorem dX4_load_27 : decode cX4_load 27 = .ok (.iload_n 3, 1) := by decide +kernel
theorem dX4_load_28 : decode cX4_load 28 = .ok (.iadd, 1) := by decide +kernel
theorem dX4_load_29 : decode cX4_load 29 = .ok (.istore 5, 2) := by decide +kernel
theorem dX4_load_31 : decode cX4_load 31 = .ok (.aload_n 0, 1) := by decide +kernel
theorem dX4_load_32 : decode cX4_load 32 = .ok (.getfield 19, 3) := by decide +kernel
theorem dX4_load_35 : decode cX4_load 35 = .ok (.iload_n 3, 1) := by decide +kernel
theorem dX4_load_36 : decode cX4_load 36 = .ok (.iload 4, 2) := by decide +kernel
theorem dX4_load_38 : decode cX4_load 38 = .ok (.ifCond .eq 13, 3) := by decide +kernel
theorem dX4_load_41 : decode cX4_load 41 = .ok (.aload_n 1, 1) := by decide +kernel
theorem dX4_load_42 : decode cX4_load 42 = .ok (.getfield 45, 3) := by decide +kernel
theorem dX4_load_45 : decode cX4_load 45 = .ok (.iload 5, 2) := by decide +kernel
theorem dX4_load_47 : decode cX4_load 47 = .ok (.iaload, 1) := by decide +kernel
theorem dX4_load_48 : decode cX4_load 48 = .ok (.goto 4, 3) := by decide +kernel
theorem dX4_load_51 : decode cX4_load 51 = .ok (.iconst 0, 1) := by decide +kernel
theorem dX4_load_52 : decode cX4_load 52 = .ok (.iastore, 1) := by decide +kernel
theorem dX4_load_53 : decode cX4_load 53 = .ok (.aload_n 0, 1) := by decide +kernel
theorem dX4_load_54 : decode cX4_load 54 = .ok (.getfield 22, 3) := by decide +kernel
theorem dX4_load_57 : decode cX4_load 57 = .ok (.iload_n 3, 1) := by decide +kernel
theorem dX4_load_58 : decode cX4_load 58 = .ok (.iload 4, 2) := by decide +kernel
theorem dX4_load_60 : decode cX4_load 60 = .ok (.ifCond .eq 18, 3) := by decide +kernel
theorem dX4_load_63 : decode cX4_load 63 = .ok (.bipush 60, 2) := by decide +kernel
theorem dX4_load_65 : decode cX4_load 65 = .ok (.aload_n 1, 1) := by decide +kernel
theorem dX4_load_66 : decode cX4_load 66 = .ok (.getfield 46, 3) := by decide +kernel
theorem dX4_load_69 : decode cX4_load 69 = .ok (.iload 5, 2) := by decide +kernel
theorem dX4_load_71 : decode cX4_load 71 = .ok (.iaload, 1) := by decide +kernel
theorem dX4_load_72 : decode cX4_load 72 = .ok (.invokestatic 49, 3) := by decide +kernel
theorem dX4_load_75 : decode cX4_load 75 = .ok (.goto 4, 3) := by decide +kernel
theorem dX4_load_78 : decode cX4_load 78 = .ok (.iconst 0, 1) := by decide +kernel
theorem dX4_load_79 : decode cX4_load 79 = .ok (.iastore, 1) := by decide +kernel
theorem dX4_load_80 : decode cX4_load 80 = .ok (.iinc 3 1, 3) := by decide +kernel
theorem dX4_load_83 : decode cX4_load 83 = .ok (.goto (-81), 3) := by decide +kernel
theorem dX4_load_86 : decode cX4_load 86 = .ok (.return_, 1) := by decide +kernel
theorem dX4_seekSecond_0 : decode cX4_seekSecond 0 = .ok (.aload_n 0, 1) := by decide +kernel
theorem dX4_seekSecond_1 : decode cX4_seekSecond 1 = .ok (.iconst 1, 1) := by decide +kernel
theorem dX4_seekSecond_2 : decode cX4_seekSecond 2 = .ok (.iload_n 2, 1) := by decide +kernel
theorem dX4_seekSecond_3 : decode cX4_seekSecond 3 = .ok (.invokevirtual 32, 3) := by decide +kernel
theorem dX4_seekSecond_6 : decode cX4_seekSecond 6 = .ok (.istore_n 3, 1) := by decide +kernel
theorem dX4_seekSecond_7 : decode cX4_seekSecond 7 = .ok (.iload_n 3, 1) := by decide +kernel
theorem dX4_seekSecond_8 : decode cX4_seekSecond 8 = .ok (.ifCond .lt 76, 3) := by decide +kernel
theorem dX4_seekSecond_11 : decode cX4_seekSecond 11 = .ok (.iload_n 1, 1) := by decide +kernel
theorem dX4_seekSecond_12 : decode cX4_seekSecond 12 = .ok (.aload_n 0, 1) := by decide +kernel
theorem dX4_seekSecond_13 : decode cX4_seekSecond 13 = .ok (.getfield 19, 3) := by decide +kernel
theorem dX4_seekSecond_16 : decode cX4_seekSecond 16 = .ok (.iconst 0, 1) := by decide +kernel
theorem dX4_seekSecond_17 : decode cX4_seekSecond 17 = .ok (.iaload, 1) := by decide +kernel
theorem dX4_seekSecond_18 : decode cX4_seekSecond 18 = .ok (.imul, 1) := by decide +kernel
theorem dX4_seekSecond_19 : decode cX4_seekSecond 19 = .ok (.iload_n 3, 1) := by decide +kernel
theorem dX4_seekSecond_20 : decode cX4_seekSecond 20 = .ok (.aload_n 0, 1) := by decide +kernel
theorem dX4_seekSecond_21 : decode cX4_seekSecond 21 = .ok (.getfield 19, 3) := by decide +kernel
theorem dX4_seekSecond_24 : decode cX4_seekSecond 24 = .ok (.iconst 1, 1) := by decide +kernel
theorem dX4_seekSecond_25 : decode cX4_seekSecond 25 = .ok (.iaload, 1) := by decide +kernel
theorem dX4_seekSecond_26 : decode cX4_seekSecond 26 = .ok (.imul, 1) := by decide +kernel
theorem dX4_seekSecond_27 : decode cX4_seekSecond 27 = .ok (.iadd, 1) := by decide +kernel
theorem dX4_seekSecond_28 : decode cX4_seekSecond 28 = .ok (.aload_n 0, 1) := by decide +kernel
theorem dX4_seekSecond_29 : decode cX4_seekSecond 29 = .ok (.getfield 22, 3) := by decide +kernel
theorem dX4_seekSecond_32 : decode cX4_seekSecond 32 = .ok (.iconst 2, 1) := by decide +kernel
theorem dX4_seekSecond_33 : decode cX4_seekSecond 33 = .ok (.iaload, 1) := by decide +kernel
theorem dX4_seekSecond_34 : decode cX4_seekSecond 34 = .ok (.aload_n 0, 1) := by decide +kernel
theorem dX4_seekSecond_35 : decode cX4_seekSecond 35 = .ok (.getfield 19, 3) := by decide +kernel
theorem dX4_seekSecond_38 : decode cX4_seekSecond 38 = .ok (.iconst 2, 1) := by decide +kernel
theorem dX4_seekSecond_39 : decode cX4_seekSecond 39 = .ok (.iaload, 1) := by decide +kernel
theorem dX4_seekSecond_40 : decode cX4_seekSecond 40 = .ok (.imul, 1) := by decide +kernel
theorem dX4_seekSecond_41 : decode cX4_seekSecond 41 = .ok (.iadd, 1) := by decide +kernel
theorem dX4_seekSecond_42 : decode cX4_seekSecond 42 = .ok (.aload_n 0, 1) := by decide +kernel
theorem dX4_seekSecond_43 : decode cX4_seekSecond 43 = .ok (.getfield 15, 3) := by decide +kernel
theorem dX4_seekSecond_46 : decode cX4_seekSecond 46 = .ok (.if_icmp .ge 6, 3) := by decide +kernel
theorem dX4_seekSecond_49 : decode cX4_seekSecond 49 = .ok (.goto 35, 3) := by decide +kernel
theorem dX4_seekSecond_52 : decode cX4_seekSecond 52 = .ok (.aload_n 0, 1) := by decide +kernel
theorem dX4_seekSecond_53 : decode cX4_seekSecond 53 = .ok (.iload_n 1, 1) := by decide +kernel
theorem dX4_seekSecond_54 : decode cX4_seekSecond 54 = .ok (.iload_n 3, 1) := by decide +kernel
theorem dX4_seekSecond_55 : decode cX4_seekSecond 55 = .ok (.aload_n 0, 1) := by decide +kernel
theorem dX4_seekSecond_56 : decode cX4_seekSecond 56 = .ok (.iconst 2, 1) := by decide +kernel
theorem dX4_seekSecond_57 : decode cX4_seekSecond 57 = .ok (.iload_n 2, 1) := by decide +kernel
theorem dX4_seekSecond_58 : decode cX4_seekSecond 58 = .ok (.iload_n 3, 1) := by decide +kernel
theorem dX4_seekSecond_59 : decode cX4_seekSecond 59 = .ok (.aload_n 0, 1) := by decide +kernel
theorem dX4_seekSecond_60 : decode cX4_seekSecond 60 = .ok (.getfield 19, 3) := by decide +kernel
theorem dX4_seekSecond_63 : decode cX4_seekSecond 63 = .ok (.iconst 1, 1) := by decide +kernel
theorem dX4_seekSecond_64 : decode cX4_seekSecond 64 = .ok (.iaload, 1) := by decide +kernel
end
section
theorem dX4_seekSecond_65 : decode cX4_seekSecond 65 = .ok (.aload_n 0, 1) := by decide +kernel
theorem dX4_seekSecond_66 : decode cX4_seekSecond 66 = .ok (.getfield 25, 3) := by decide +kernel
theorem dX4_seekSecond_69 : decode cX4_seekSecond 69 = .ok (.iadd, 1) := by decide +kernel
theorem dX4_seekSecond_70 : decode cX4_seekSecond 70 = .ok (.imul, 1) := by decide +kernel
theorem dX4_seekSecond_71 : decode cX4_seekSecond 71 = .ok (.isub, 1) := by decide +kernel
theorem dX4_seekSecond_72 : decode cX4_seekSecond 72 = .ok (.invokevirtual 32, 3) := by decide +kernel
theorem dX4_seekSecond_75 : decode cX4_seekSecond 75 = .ok (.invokevirtual 54, 3) := by decide +kernel
theorem dX4_seekSecond_78 : decode cX4_seekSecond 78 = .ok (.iinc 3 (-1), 3) := by decide +kernel
theorem dX4_seekSecond_81 : decode cX4_seekSecond 81 = .ok (.goto (-74), 3) := by decide +kernel
theorem dX4_seekSecond_84 : decode cX4_seekSecond 84 = .ok (.return_, 1) := by decide +kernel
theorem dX4_fitting_0 : decode cX4_fitting 0 = .ok (.aload_n 0, 1) := by decide +kernel
theorem dX4_fitting_1 : decode cX4_fitting 1 = .ok (.getfield 19, 3) := by decide +kernel
theorem dX4_fitting_4 : decode cX4_fitting 4 = .ok (.iload_n 1, 1) := by decide +kernel
theorem dX4_fitting_5 : decode cX4_fitting 5 = .ok (.iaload, 1) := by decide +kernel
theorem dX4_fitting_6 : decode cX4_fitting 6 = .ok (.aload_n 0, 1) := by decide +kernel
theorem dX4_fitting_7 : decode cX4_fitting 7 = .ok (.getfield 25, 3) := by decide +kernel
theorem dX4_fitting_10 : decode cX4_fitting 10 = .ok (.iadd, 1) := by decide +kernel
theorem dX4_fitting_11 : decode cX4_fitting 11 = .ok (.istore_n 3, 1) := by decide +kernel
theorem dX4_fitting_12 : decode cX4_fitting 12 = .ok (.aload_n 0, 1) := by decide +kernel
theorem dX4_fitting_13 : decode cX4_fitting 13 = .ok (.getfield 22, 3) := by decide +kernel
theorem dX4_fitting_16 : decode cX4_fitting 16 = .ok (.iload_n 1, 1) := by decide +kernel
theorem dX4_fitting_17 : decode cX4_fitting 17 = .ok (.iaload, 1) := by decide +kernel
theorem dX4_fitting_18 : decode cX4_fitting 18 = .ok (.ifCond .le 11, 3) := by decide +kernel
theorem dX4_fitting_21 : decode cX4_fitting 21 = .ok (.iload_n 3, 1) := by decide +kernel
theorem dX4_fitting_22 : decode cX4_fitting 22 = .ok (.ifCond .le 7, 3) := by decide +kernel
theorem dX4_fitting_25 : decode cX4_fitting 25 = .ok (.iload_n 2, 1) := by decide +kernel
theorem dX4_fitting_26 : decode cX4_fitting 26 = .ok (.ifCond .ge 5, 3) := by decide +kernel
theorem dX4_fitting_29 : decode cX4_fitting 29 = .ok (.iconst 0, 1) := by decide +kernel
theorem dX4_fitting_30 : decode cX4_fitting 30 = .ok (.ireturn, 1) := by decide +kernel
theorem dX4_fitting_31 : decode cX4_fitting 31 = .ok (.aload_n 0, 1) := by decide +kernel
theorem dX4_fitting_32 : decode cX4_fitting 32 = .ok (.getfield 22, 3) := by decide +kernel
theorem dX4_fitting_35 : decode cX4_fitting 35 = .ok (.iload_n 1, 1) := by decide +kernel
theorem dX4_fitting_36 : decode cX4_fitting 36 = .ok (.iaload, 1) := by decide +kernel
theorem dX4_fitting_37 : decode cX4_fitting 37 = .ok (.iload_n 2, 1) := by decide +kernel
theorem dX4_fitting_38 : decode cX4_fitting 38 = .ok (.iload_n 3, 1) := by decide +kernel
theorem dX4_fitting_39 : decode cX4_fitting 39 = .ok (.idiv, 1) := by decide +kernel
theorem dX4_fitting_40 : decode cX4_fitting 40 = .ok (.invokestatic 49, 3) := by decide +kernel
theorem dX4_fitting_43 : decode cX4_fitting 43 = .ok (.ireturn, 1) := by decide +kernel
theorem dX4_offer_0 : decode cX4_offer 0 = .ok (.iload_n 1, 1) := by decide +kernel
theorem dX4_offer_1 : decode cX4_offer 1 = .ok (.aload_n 0, 1) := by decide +kernel
theorem dX4_offer_2 : decode cX4_offer 2 = .ok (.getfield 19, 3) := by decide +kernel
theorem dX4_offer_5 : decode cX4_offer 5 = .ok (.iconst 0, 1) := by decide +kernel
theorem dX4_offer_6 : decode cX4_offer 6 = .ok (.iaload, 1) := by decide +kernel
theorem dX4_offer_7 : decode cX4_offer 7 = .ok (.imul, 1) := by decide +kernel
theorem dX4_offer_8 : decode cX4_offer 8 = .ok (.iload_n 2, 1) := by decide +kernel
theorem dX4_offer_9 : decode cX4_offer 9 = .ok (.aload_n 0, 1) := by decide +kernel
theorem dX4_offer_10 : decode cX4_offer 10 = .ok (.getfield 19, 3) := by decide +kernel
theorem dX4_offer_13 : decode cX4_offer 13 = .ok (.iconst 1, 1) := by decide +kernel
theorem dX4_offer_14 : decode cX4_offer 14 = .ok (.iaload, 1) := by decide +kernel
theorem dX4_offer_15 : decode cX4_offer 15 = .ok (.imul, 1) := by decide +kernel
theorem dX4_offer_16 : decode cX4_offer 16 = .ok (.iadd, 1) := by decide +kernel
theorem dX4_offer_17 : decode cX4_offer 17 = .ok (.iload_n 3, 1) := by decide +kernel
theorem dX4_offer_18 : decode cX4_offer 18 = .ok (.aload_n 0, 1) := by decide +kernel
theorem dX4_offer_19 : decode cX4_offer 19 = .ok (.getfield 19, 3) := by decide +kernel
theorem dX4_offer_22 : decode cX4_offer 22 = .ok (.iconst 2, 1) := by decide +kernel
theorem dX4_offer_23 : decode cX4_offer 23 = .ok (.iaload, 1) := by decide +kernel
theorem dX4_offer_24 : decode cX4_offer 24 = .ok (.imul, 1) := by decide +kernel
theorem dX4_offer_25 : decode cX4_offer 25 = .ok (.iadd, 1) := by decide +kernel
theorem dX4_offer_26 : decode cX4_offer 26 = .ok (.istore 4, 2) := by decide +kernel
theorem dX4_offer_28 : decode cX4_offer 28 = .ok (.iload_n 1, 1) := by decide +kernel
theorem dX4_offer_29 : decode cX4_offer 29 = .ok (.iload_n 2, 1) := by decide +kernel
theorem dX4_offer_30 : decode cX4_offer 30 = .ok (.iadd, 1) := by decide +kernel
theorem dX4_offer_31 : decode cX4_offer 31 = .ok (.iload_n 3, 1) := by decide +kernel
theorem dX4_offer_32 : decode cX4_offer 32 = .ok (.iadd, 1) := by decide +kernel
theorem dX4_offer_33 : decode cX4_offer 33 = .ok (.aload_n 0, 1) := by decide +kernel
theorem dX4_offer_34 : decode cX4_offer 34 = .ok (.getfield 9, 3) := by decide +kernel
theorem dX4_offer_37 : decode cX4_offer 37 = .ok (.iconst 0, 1) := by decide +kernel
theorem dX4_offer_38 : decode cX4_offer 38 = .ok (.iaload, 1) := by decide +kernel
theorem dX4_offer_39 : decode cX4_offer 39 = .ok (.aload_n 0, 1) := by decide +kernel
theorem dX4_offer_40 : decode cX4_offer 40 = .ok (.getfield 9, 3) := by decide +kernel
theorem dX4_offer_43 : decode cX4_offer 43 = .ok (.iconst 1, 1) := by decide +kernel
theorem dX4_offer_44 : decode cX4_offer 44 = .ok (.iaload, 1) := by decide +kernel
theorem dX4_offer_45 : decode cX4_offer 45 = .ok (.iadd, 1) := by decide +kernel
theorem dX4_offer_46 : decode cX4_offer 46 = .ok (.aload_n 0, 1) := by decide +kernel
theorem dX4_offer_47 : decode cX4_offer 47 = .ok (.getfield 9, 3) := by decide +kernel
theorem dX4_offer_50 : decode cX4_offer 50 = .ok (.iconst 2, 1) := by decide +kernel
theorem dX4_offer_51 : decode cX4_offer 51 = .ok (.iaload, 1) := by decide +kernel
theorem dX4_offer_52 : decode cX4_offer 52 = .ok (.iadd, 1) := by decide +kernel
theorem dX4_offer_53 : decode cX4_offer 53 = .ok (.if_icmp .ge 7, 3) := by decide +kernel
theorem dX4_offer_56 : decode cX4_offer 56 = .ok (.iconst 1, 1) := by decide +kernel
theorem dX4_offer_57 : decode cX4_offer 57 = .ok (.goto 4, 3) := by decide +kernel
theorem dX4_offer_60 : decode cX4_offer 60 = .ok (.iconst 0, 1) := by decide +kernel
theorem dX4_offer_61 : decode cX4_offer 61 = .ok (.istore 5, 2) := by decide +kernel
theorem dX4_offer_63 : decode cX4_offer 63 = .ok (.iload 4, 2) := by decide +kernel
theorem dX4_offer_65 : decode cX4_offer 65 = .ok (.aload_n 0, 1) := by decide +kernel
theorem dX4_offer_66 : decode cX4_offer 66 = .ok (.getfield 15, 3) := by decide +kernel
theorem dX4_offer_69 : decode cX4_offer 69 = .ok (.if_icmp .gt 17, 3) := by decide +kernel
theorem dX4_offer_72 : decode cX4_offer 72 = .ok (.iload 4, 2) := by decide +kernel
theorem dX4_offer_74 : decode cX4_offer 74 = .ok (.aload_n 0, 1) := by decide +kernel
theorem dX4_offer_75 : decode cX4_offer 75 = .ok (.getfield 15, 3) := by decide +kernel
theorem dX4_offer_78 : decode cX4_offer 78 = .ok (.if_icmp .ne 35, 3) := by decide +kernel
theorem dX4_offer_81 : decode cX4_offer 81 = .ok (.iload 5, 2) := by decide +kernel
theorem dX4_offer_83 : decode cX4_offer 83 = .ok (.ifCond .eq 30, 3) := by decide +kernel
theorem dX4_offer_86 : decode cX4_offer 86 = .ok (.aload_n 0, 1) := by decide +kernel
theorem dX4_offer_87 : decode cX4_offer 87 = .ok (.iload 4, 2) := by decide +kernel
theorem dX4_offer_89 : decode cX4_offer 89 = .ok (.putfield 15, 3) := by decide +kernel
theorem dX4_offer_92 : decode cX4_offer 92 = .ok (.aload_n 0, 1) := by decide +kernel
theorem dX4_offer_93 : decode cX4_offer 93 = .ok (.getfield 9, 3) := by decide +kernel
theorem dX4_offer_96 : decode cX4_offer 96 = .ok (.iconst 0, 1) := by decide +kernel
theorem dX4_offer_97 : decode cX4_offer 97 = .ok (.iload_n 1, 1) := by decide +kernel
theorem dX4_offer_98 : decode cX4_offer 98 = .ok (.iastore, 1) := by decide +kernel
theorem dX4_offer_99 : decode cX4_offer 99 = .ok (.aload_n 0, 1) := by decide +kernel
theorem dX4_offer_100 : decode cX4_offer 100 = .ok (.getfield 9, 3) := by decide +kernel
theorem dX4_offer_103 : decode cX4_offer 103 = .ok (.iconst 1, 1) := by decide +kernel
theorem dX4_offer_104 : decode cX4_offer 104 = .ok (.iload_n 2, 1) := by decide +kernel
theorem dX4_offer_105 : decode cX4_offer 105 = .ok (.iastore, 1) := by decide +kernel
theorem dX4_offer_106 : decode cX4_offer 106 = .ok (.aload_n 0, 1) := by decide +kernel
theorem dX4_offer_107 : decode cX4_offer 107 = .ok (.getfield 9, 3) := by decide +kernel
theorem dX4_offer_110 : decode cX4_offer 110 = .ok (.iconst 2, 1) := by decide +kernel
theorem dX4_offer_111 : decode cX4_offer 111 = .ok (.iload_n 3, 1) := by decide +kernel
theorem dX4_offer_112 : decode cX4_offer 112 = .ok (.iastore, 1) := by decide +kernel
theorem dX4_offer_113 : decode cX4_offer 113 = .ok (.return_, 1) := by decide +kernel
theorem dX5_init_0 : decode cX5_init 0 = .ok (.aload_n 0, 1) := by decide +kernel
theorem dX5_init_1 : decode cX5_init 1 = .ok (.invokespecial 3, 3) := by decide +kernel
theorem dX5_init_4 : decode cX5_init 4 = .ok (.aload_n 0, 1) := by decide +kernel
theorem dX5_init_5 : decode cX5_init 5 = .ok (.bipush 7, 2) := by decide +kernel
theorem dX5_init_7 : decode cX5_init 7 = .ok (.newarray .int, 2) := by decide +kernel
theorem dX5_init_9 : decode cX5_init 9 = .ok (.putfield 9, 3) := by decide +kernel
theorem dX5_init_12 : decode cX5_init 12 = .ok (.aload_n 0, 1) := by decide +kernel
theorem dX5_init_13 : decode cX5_init 13 = .ok (.iconst 0, 1) := by decide +kernel
theorem dX5_init_14 : decode cX5_init 14 = .ok (.putfield 15, 3) := by decide +kernel
theorem dX5_init_17 : decode cX5_init 17 = .ok (.aload_n 0, 1) := by decide +kernel
theorem dX5_init_18 : decode cX5_init 18 = .ok (.iconst 0, 1) := by decide +kernel
theorem dX5_init_19 : decode cX5_init 19 = .ok (.putfield 19, 3) := by decide +kernel
theorem dX5_init_22 : decode cX5_init 22 = .ok (.aload_n 0, 1) := by decide +kernel
theorem dX5_init_23 : decode cX5_init 23 = .ok (.bipush 7, 2) := by decide +kernel
theorem dX5_init_25 : decode cX5_init 25 = .ok (.newarray .int, 2) := by decide +kernel
theorem dX5_init_27 : decode cX5_init 27 = .ok (.putfield 22, 3) := by decide +kernel
theorem dX5_init_30 : decode cX5_init 30 = .ok (.aload_n 0, 1) := by decide +kernel
theorem dX5_init_31 : decode cX5_init 31 = .ok (.bipush 7, 2) := by decide +kernel
theorem dX5_init_33 : decode cX5_init 33 = .ok (.newarray .int, 2) := by decide +kernel
theorem dX5_init_35 : decode cX5_init 35 = .ok (.putfield 25, 3) := by decide +kernel
theorem dX5_init_38 : decode cX5_init 38 = .ok (.aload_n 0, 1) := by decide +kernel
theorem dX5_init_39 : decode cX5_init 39 = .ok (.bipush 7, 2) := by decide +kernel
theorem dX5_init_41 : decode cX5_init 41 = .ok (.newarray .int, 2) := by decide +kernel
theorem dX5_init_43 : decode cX5_init 43 = .ok (.putfield 28, 3) := by decide +kernel
theorem dX5_init_46 : decode cX5_init 46 = .ok (.aload_n 0, 1) := by decide +kernel
theorem dX5_init_47 : decode cX5_init 47 = .ok (.bipush 7, 2) := by decide +kernel
theorem dX5_init_49 : decode cX5_init 49 = .ok (.newarray .int, 2) := by decide +kernel
theorem dX5_init_51 : decode cX5_init 51 = .ok (.putfield 31, 3) := by decide +kernel
theorem dX5_init_54 : decode cX5_init 54 = .ok (.aload_n 0, 1) := by decide +kernel
theorem dX5_init_55 : decode cX5_init 55 = .ok (.bipush 7, 2) := by decide +kernel
theorem dX5_init_57 : decode cX5_init 57 = .ok (.newarray .boolean, 2) := by decide +kernel
theorem dX5_init_59 : decode cX5_init 59 = .ok (.putfield 34, 3) := by decide +kernel
theorem dX5_init_62 : decode cX5_init 62 = .ok (.aload_n 0, 1) := by decide +kernel
theorem dX5_init_63 : decode cX5_init 63 = .ok (.iconst 2, 1) := by decide +kernel
theorem dX5_init_64 : decode cX5_init 64 = .ok (.putfield 38, 3) := by decide +kernel
theorem dX5_init_67 : decode cX5_init 67 = .ok (.aload_n 0, 1) := by decide +kernel
theorem dX5_init_68 : decode cX5_init 68 = .ok (.iconst 0, 1) := by decide +kernel
theorem dX5_init_69 : decode cX5_init 69 = .ok (.putfield 41, 3) := by decide +kernel
theorem dX5_init_72 : decode cX5_init 72 = .ok (.aload_n 0, 1) := by decide +kernel
theorem dX5_init_73 : decode cX5_init 73 = .ok (.iconst 0, 1) := by decide +kernel
theorem dX5_init_74 : decode cX5_init 74 = .ok (.putfield 44, 3) := by decide +kernel
theorem dX5_init_77 : decode cX5_init 77 = .ok (.return_, 1) := by decide +kernel
theorem dX5_add_0 : decode cX5_add 0 = .ok (.aload_n 0, 1) := by decide +kernel
theorem dX5_add_1 : decode cX5_add 1 = .ok (.getfield 15, 3) := by decide +kernel
theorem dX5_add_4 : decode cX5_add 4 = .ok (.bipush 7, 2) := by decide +kernel
theorem dX5_add_6 : decode cX5_add 6 = .ok (.if_icmp .lt 6, 3) := by decide +kernel
theorem dX5_add_9 : decode cX5_add 9 = .ok (.bipush (-4), 2) := by decide +kernel
theorem dX5_add_11 : decode cX5_add 11 = .ok (.ireturn, 1) := by decide +kernel
theorem dX5_add_12 : decode cX5_add 12 = .ok (.aload_n 0, 1) := by decide +kernel
theorem dX5_add_13 : decode cX5_add 13 = .ok (.getfield 22, 3) := by decide +kernel
theorem dX5_add_16 : decode cX5_add 16 = .ok (.aload_n 0, 1) := by decide +kernel
theorem dX5_add_17 : decode cX5_add 17 = .ok (.getfield 15, 3) := by decide +kernel
theorem dX5_add_20 : decode cX5_add 20 = .ok (.iload_n 1, 1) := by decide +kernel
theorem dX5_add_21 : decode cX5_add 21 = .ok (.iastore, 1) := by decide +kernel
theorem dX5_add_22 : decode cX5_add 22 = .ok (.aload_n 0, 1) := by decide +kernel
theorem dX5_add_23 : decode cX5_add 23 = .ok (.getfield 25, 3) := by decide +kernel
theorem dX5_add_26 : decode cX5_add 26 = .ok (.aload_n 0, 1) := by decide +kernel
theorem dX5_add_27 : decode cX5_add 27 = .ok (.getfield 15, 3) := by decide +kernel
theorem dX5_add_30 : decode cX5_add 30 = .ok (.iload_n 2, 1) := by decide +kernel
theorem dX5_add_31 : decode cX5_add 31 = .ok (.iastore, 1) := by decide +kernel
theorem dX5_add_32 : decode cX5_add 32 = .ok (.aload_n 0, 1) := by decide +kernel
theorem dX5_add_33 : decode cX5_add 33 = .ok (.getfield 28, 3) := by decide +kernel
theorem dX5_add_36 : decode cX5_add 36 = .ok (.aload_n 0, 1) := by decide +kernel
theorem dX5_add_37 : decode cX5_add 37 = .ok (.getfield 15, 3) := by decide +kernel
theorem dX5_add_40 : decode cX5_add 40 = .ok (.iload_n 3, 1) := by decide +kernel
theorem dX5_add_41 : decode cX5_add 41 = .ok (.iastore, 1) := by decide +kernel
theorem dX5_add_42 : decode cX5_add 42 = .ok (.aload_n 0, 1) := by decide +kernel
theorem dX5_add_43 : decode cX5_add 43 = .ok (.dup, 1) := by decide +kernel
theorem dX5_add_44 : decode cX5_add 44 = .ok (.getfield 15, 3) := by decide +kernel
theorem dX5_add_47 : decode cX5_add 47 = .ok (.iconst 1, 1) := by decide +kernel
theorem dX5_add_48 : decode cX5_add 48 = .ok (.iadd, 1) := by decide +kernel
theorem dX5_add_49 : decode cX5_add 49 = .ok (.putfield 15, 3) := by decide +kernel
theorem dX5_add_52 : decode cX5_add 52 = .ok (.aload_n 0, 1) := by decide +kernel
theorem dX5_add_53 : decode cX5_add 53 = .ok (.iconst 0, 1) := by decide +kernel
theorem dX5_add_54 : decode cX5_add 54 = .ok (.putfield 44, 3) := by decide +kernel
theorem dX5_add_57 : decode cX5_add 57 = .ok (.aload_n 0, 1) := by decide +kernel
theorem dX5_add_58 : decode cX5_add 58 = .ok (.getfield 15, 3) := by decide +kernel
theorem dX5_add_61 : decode cX5_add 61 = .ok (.iconst 1, 1) := by decide +kernel
theorem dX5_add_62 : decode cX5_add 62 = .ok (.isub, 1) := by decide +kernel
theorem dX5_add_63 : decode cX5_add 63 = .ok (.ireturn, 1) := by decide +kernel
theorem dX5_setGap_0 : decode cX5_setGap 0 = .ok (.aload_n 0, 1) := by decide +kernel
theorem dX5_setGap_1 : decode cX5_setGap 1 = .ok (.getfield 38, 3) := by decide +kernel
theorem dX5_setGap_4 : decode cX5_setGap 4 = .ok (.istore_n 2, 1) := by decide +kernel
theorem dX5_setGap_5 : decode cX5_setGap 5 = .ok (.aload_n 0, 1) := by decide +kernel
theorem dX5_setGap_6 : decode cX5_setGap 6 = .ok (.iload_n 1, 1) := by decide +kernel
theorem dX5_setGap_7 : decode cX5_setGap 7 = .ok (.putfield 38, 3) := by decide +kernel
theorem dX5_setGap_10 : decode cX5_setGap 10 = .ok (.aload_n 0, 1) := by decide +kernel
theorem dX5_setGap_11 : decode cX5_setGap 11 = .ok (.iconst 0, 1) := by decide +kernel
theorem dX5_setGap_12 : decode cX5_setGap 12 = .ok (.putfield 44, 3) := by decide +kernel
theorem dX5_setGap_15 : decode cX5_setGap 15 = .ok (.iload_n 2, 1) := by decide +kernel
theorem dX5_setGap_16 : decode cX5_setGap 16 = .ok (.ireturn, 1) := by decide +kernel
theorem dX5_settle_0 : decode cX5_settle 0 = .ok (.aload_n 0, 1) := by decide +kernel
theorem dX5_settle_1 : decode cX5_settle 1 = .ok (.getfield 44, 3) := by decide +kernel
theorem dX5_settle_4 : decode cX5_settle 4 = .ok (.ifCond .eq 4, 3) := by decide +kernel
theorem dX5_settle_7 : decode cX5_settle 7 = .ok (.return_, 1) := by decide +kernel
theorem dX5_settle_8 : decode cX5_settle 8 = .ok (.aload_n 0, 1) := by decide +kernel
theorem dX5_settle_9 : decode cX5_settle 9 = .ok (.ldc 50, 2) := by decide +kernel
theorem dX5_settle_11 : decode cX5_settle 11 = .ok (.putfield 19, 3) := by decide +kernel
theorem dX5_settle_14 : decode cX5_settle 14 = .ok (.aload_n 0, 1) := by decide +kernel
theorem dX5_settle_15 : decode cX5_settle 15 = .ok (.ldc 50, 2) := by decide +kernel
theorem dX5_settle_17 : decode cX5_settle 17 = .ok (.putfield 41, 3) := by decide +kernel
theorem dX5_settle_20 : decode cX5_settle 20 = .ok (.aload_n 0, 1) := by decide +kernel
theorem dX5_settle_21 : decode cX5_settle 21 = .ok (.iconst 0, 1) := by decide +kernel
theorem dX5_settle_22 : decode cX5_settle 22 = .ok (.iconst 0, 1) := by decide +kernel
theorem dX5_settle_23 : decode cX5_settle 23 = .ok (.iconst 0, 1) := by decide +kernel
theorem dX5_settle_24 : decode cX5_settle 24 = .ok (.invokevirtual 51, 3) := by decide +kernel
theorem dX5_settle_27 : decode cX5_settle 27 = .ok (.aload_n 0, 1) := by decide +kernel
theorem dX5_settle_28 : decode cX5_settle 28 = .ok (.iconst 1, 1) := by decide +kernel
theorem dX5_settle_29 : decode cX5_settle 29 = .ok (.putfield 44, 3) := by decide +kernel
theorem dX5_settle_32 : decode cX5_settle 32 = .ok (.return_, 1) := by decide +kernel
theorem dX5_fillPlace_0 : decode cX5_fillPlace 0 = .ok (.iload_n 3, 1) := by decide +kernel
theorem dX5_fillPlace_1 : decode cX5_fillPlace 1 = .ok (.aload_n 0, 1) := by decide +kernel
theorem dX5_fillPlace_2 : decode cX5_fillPlace 2 = .ok (.getfield 19, 3) := by decide +kernel
theorem dX5_fillPlace_5 : decode cX5_fillPlace 5 = .ok (.if_icmp .le 4, 3) := by decide +kernel
theorem dX5_fillPlace_8 : decode cX5_fillPlace 8 = .ok (.return_, 1) := by decide +kernel
theorem dX5_fillPlace_9 : decode cX5_fillPlace 9 = .ok (.iload_n 1, 1) := by decide +kernel
theorem dX5_fillPlace_10 : decode cX5_fillPlace 10 = .ok (.aload_n 0, 1) := by decide +kernel
theorem dX5_fillPlace_11 : decode cX5_fillPlace 11 = .ok (.getfield 15, 3) := by decide +kernel
theorem dX5_fillPlace_14 : decode cX5_fillPlace 14 = .ok (.if_icmp .ge 9, 3) := by decide +kernel
theorem dX5_fillPlace_17 : decode cX5_fillPlace 17 = .ok (.iload_n 1, 1) := by decide +kernel
theorem dX5_fillPlace_18 : decode cX5_fillPlace 18 = .ok (.bipush 7, 2) := by decide +kernel
theorem dX5_fillPlace_20 : decode cX5_fillPlace 20 = .ok (.if_icmp .lt 10, 3) := by decide +kernel
theorem dX5_fillPlace_23 : decode cX5_fillPlace 23 = .ok (.aload_n 0, 1) := by decide +kernel
theorem dX5_fillPlace_24 : decode cX5_fillPlace 24 = .ok (.iload_n 2, 1) := by decide +kernel
theorem dX5_fillPlace_25 : decode cX5_fillPlace 25 = .ok (.iload_n 3, 1) := by decide +kernel
theorem dX5_fillPlace_26 : decode cX5_fillPlace 26 = .ok (.invokevirtual 55, 3) := by decide +kernel
theorem dX5_fillPlace_29 : decode cX5_fillPlace 29 = .ok (.return_, 1) := by decide +kernel
theorem dX5_fillPlace_30 : decode cX5_fillPlace 30 = .ok (.iconst 0, 1) := by decide +kernel
theorem dX5_fillPlace_31 : decode cX5_fillPlace 31 = .ok (.istore 4, 2) := by decide +kernel
theorem dX5_fillPlace_33 : decode cX5_fillPlace 33 = .ok (.iload 4, 2) := by decide +kernel
theorem dX5_fillPlace_35 : decode cX5_fillPlace 35 = .ok (.aload_n 0, 1) := by decide +kernel
theorem dX5_fillPlace_36 : decode cX5_fillPlace 36 = .ok (.getfield 15, 3) := by decide +kernel
theorem dX5_fillPlace_39 : decode cX5_fillPlace 39 = .ok (.if_icmp .ge 28, 3) := by decide +kernel
theorem dX5_fillPlace_42 : decode cX5_fillPlace 42 = .ok (.aload_n 0, 1) := by decide +kernel
theorem dX5_fillPlace_43 : decode cX5_fillPlace 43 = .ok (.getfield 34, 3) := by decide +kernel
theorem dX5_fillPlace_46 : decode cX5_fillPlace 46 = .ok (.iload 4, 2) := by decide +kernel
theorem dX5_fillPlace_48 : decode cX5_fillPlace 48 = .ok (.baload, 1) := by decide +kernel
theorem dX5_fillPlace_49 : decode cX5_fillPlace 49 = .ok (.ifCond .ne 12, 3) := by decide +kernel
theorem dX5_fillPlace_52 : decode cX5_fillPlace 52 = .ok (.aload_n 0, 1) := by decide +kernel
theorem dX5_fillPlace_53 : decode cX5_fillPlace 53 = .ok (.iload_n 1, 1) := by decide +kernel
theorem dX5_fillPlace_54 : decode cX5_fillPlace 54 = .ok (.iload 4, 2) := by decide +kernel
theorem dX5_fillPlace_56 : decode cX5_fillPlace 56 = .ok (.iload_n 2, 1) := by decide +kernel
theorem dX5_fillPlace_57 : decode cX5_fillPlace 57 = .ok (.iload_n 3, 1) := by decide +kernel
theorem dX5_fillPlace_58 : decode cX5_fillPlace 58 = .ok (.invokevirtual 59, 3) := by decide +kernel
theorem dX5_fillPlace_61 : decode cX5_fillPlace 61 = .ok (.iinc 4 1, 3) := by decide +kernel
theorem dX5_fillPlace_64 : decode cX5_fillPlace 64 = .ok (.goto (-31), 3) := by decide +kernel
theorem dX5_fillPlace_67 : decode cX5_fillPlace 67 = .ok (.return_, 1) := by decide +kernel
theorem dX5_tryJob_0 : decode cX5_tryJob 0 = .ok (.iload_n 1, 1) := by decide +kernel
theorem dX5_tryJob_1 : decode cX5_tryJob 1 = .ok (.ifCond .le 29, 3) := by decide +kernel
theorem dX5_tryJob_4 : decode cX5_tryJob 4 = .ok (.aload_n 0, 1) := by decide +kernel
theorem dX5_tryJob_5 : decode cX5_tryJob 5 = .ok (.getfield 22, 3) := by decide +kernel
theorem dX5_tryJob_8 : decode cX5_tryJob 8 = .ok (.aload_n 0, 1) := by decide +kernel
theorem dX5_tryJob_9 : decode cX5_tryJob 9 = .ok (.getfield 31, 3) := by decide +kernel
theorem dX5_tryJob_12 : decode cX5_tryJob 12 = .ok (.iload_n 1, 1) := by decide +kernel
theorem dX5_tryJob_13 : decode cX5_tryJob 13 = .ok (.iconst 1, 1) := by decide +kernel
theorem dX5_tryJob_14 : decode cX5_tryJob 14 = .ok (.isub, 1) := by decide +kernel
theorem dX5_tryJob_15 : decode cX5_tryJob 15 = .ok (.iaload, 1) := by decide +kernel
theorem dX5_tryJob_16 : decode cX5_tryJob 16 = .ok (.iaload, 1) := by decide +kernel
theorem dX5_tryJob_17 : decode cX5_tryJob 17 = .ok (.aload_n 0, 1) := by decide +kernel
theorem dX5_tryJob_18 : decode cX5_tryJob 18 = .ok (.getfield 22, 3) := by decide +kernel
theorem dX5_tryJob_21 : decode cX5_tryJob 21 = .ok (.iload_n 2, 1) := by decide +kernel
theorem dX5_tryJob_22 : decode cX5_tryJob 22 = .ok (.iaload, 1) := by decide +kernel
theorem dX5_tryJob_23 : decode cX5_tryJob 23 = .ok (.if_icmp .eq 7, 3) := by decide +kernel
theorem dX5_tryJob_26 : decode cX5_tryJob 26 = .ok (.iconst 1, 1) := by decide +kernel
theorem dX5_tryJob_27 : decode cX5_tryJob 27 = .ok (.goto 4, 3) := by decide +kernel
theorem dX5_tryJob_30 : decode cX5_tryJob 30 = .ok (.iconst 0, 1) := by decide +kernel
theorem dX5_tryJob_31 : decode cX5_tryJob 31 = .ok (.istore 5, 2) := by decide +kernel
theorem dX5_tryJob_33 : decode cX5_tryJob 33 = .ok (.iload_n 3, 1) := by decide +kernel
theorem dX5_tryJob_34 : decode cX5_tryJob 34 = .ok (.iload 5, 2) := by decide +kernel
theorem dX5_tryJob_36 : decode cX5_tryJob 36 = .ok (.ifCond .eq 10, 3) := by decide +kernel
theorem dX5_tryJob_39 : decode cX5_tryJob 39 = .ok (.aload_n 0, 1) := by decide +kernel
theorem dX5_tryJob_40 : decode cX5_tryJob 40 = .ok (.getfield 38, 3) := by decide +kernel
theorem dX5_tryJob_43 : decode cX5_tryJob 43 = .ok (.goto 4, 3) := by decide +kernel
theorem dX5_tryJob_46 : decode cX5_tryJob 46 = .ok (.iconst 0, 1) := by decide +kernel
theorem dX5_tryJob_47 : decode cX5_tryJob 47 = .ok (.iadd, 1) := by decide +kernel
theorem dX5_tryJob_48 : decode cX5_tryJob 48 = .ok (.aload_n 0, 1) := by decide +kernel
theorem dX5_tryJob_49 : decode cX5_tryJob 49 = .ok (.getfield 25, 3) := by decide +kernel
theorem dX5_tryJob_52 : decode cX5_tryJob 52 = .ok (.iload_n 2, 1) := by decide +kernel
theorem dX5_tryJob_53 : decode cX5_tryJob 53 = .ok (.iaload, 1) := by decide +kernel
theorem dX5_tryJob_54 : decode cX5_tryJob 54 = .ok (.iadd, 1) := by decide +kernel
theorem dX5_tryJob_55 : decode cX5_tryJob 55 = .ok (.istore 6, 2) := by decide +kernel
theorem dX5_tryJob_57 : decode cX5_tryJob 57 = .ok (.aload_n 0, 1) := by decide +kernel
theorem dX5_tryJob_58 : decode cX5_tryJob 58 = .ok (.getfield 34, 3) := by decide +kernel
theorem dX5_tryJob_61 : decode cX5_tryJob 61 = .ok (.iload_n 2, 1) := by decide +kernel
theorem dX5_tryJob_62 : decode cX5_tryJob 62 = .ok (.iconst 1, 1) := by decide +kernel
theorem dX5_tryJob_63 : decode cX5_tryJob 63 = .ok (.bastore, 1) := by decide +kernel
theorem dX5_tryJob_64 : decode cX5_tryJob 64 = .ok (.aload_n 0, 1) := by decide +kernel
theorem dX5_tryJob_65 : decode cX5_tryJob 65 = .ok (.getfield 31, 3) := by decide +kernel
theorem dX5_tryJob_68 : decode cX5_tryJob 68 = .ok (.iload_n 1, 1) := by decide +kernel
theorem dX5_tryJob_69 : decode cX5_tryJob 69 = .ok (.iload_n 2, 1) := by decide +kernel
theorem dX5_tryJob_70 : decode cX5_tryJob 70 = .ok (.iastore, 1) := by decide +kernel
theorem dX5_tryJob_71 : decode cX5_tryJob 71 = .ok (.aload_n 0, 1) := by decide +kernel
theorem dX5_tryJob_72 : decode cX5_tryJob 72 = .ok (.iload_n 1, 1) := by decide +kernel
theorem dX5_tryJob_73 : decode cX5_tryJob 73 = .ok (.iconst 1, 1) := by decide +kernel
theorem dX5_tryJob_74 : decode cX5_tryJob 74 = .ok (.iadd, 1) := by decide +kernel
theorem dX5_tryJob_75 : decode cX5_tryJob 75 = .ok (.iload 6, 2) := by decide +kernel
theorem dX5_tryJob_77 : decode cX5_tryJob 77 = .ok (.iload 4, 2) := by decide +kernel
theorem dX5_tryJob_79 : decode cX5_tryJob 79 = .ok (.iconst 0, 1) := by decide +kernel
theorem dX5_tryJob_80 : decode cX5_tryJob 80 = .ok (.iload 6, 2) := by decide +kernel
theorem dX5_tryJob_82 : decode cX5_tryJob 82 = .ok (.aload_n 0, 1) := by decide +kernel
theorem dX5_tryJob_83 : decode cX5_tryJob 83 = .ok (.getfield 28, 3) := by decide +kernel
theorem dX5_tryJob_86 : decode cX5_tryJob 86 = .ok (.iload_n 2, 1) := by decide +kernel
theorem dX5_tryJob_87 : decode cX5_tryJob 87 = .ok (.iaload, 1) := by decide +kernel
theorem dX5_tryJob_88 : decode cX5_tryJob 88 = .ok (.isub, 1) := by decide +kernel
theorem dX5_tryJob_89 : decode cX5_tryJob 89 = .ok (.invokestatic 63, 3) := by decide +kernel
theorem dX5_tryJob_92 : decode cX5_tryJob 92 = .ok (.iadd, 1) := by decide +kernel
theorem dX5_tryJob_93 : decode cX5_tryJob 93 = .ok (.invokevirtual 51, 3) := by decide +kernel
theorem dX5_tryJob_96 : decode cX5_tryJob 96 = .ok (.aload_n 0, 1) := by decide +kernel
theorem dX5_tryJob_97 : decode cX5_tryJob 97 = .ok (.getfield 34, 3) := by decide +kernel
theorem dX5_tryJob_100 : decode cX5_tryJob 100 = .ok (.iload_n 2, 1) := by decide +kernel
theorem dX5_tryJob_101 : decode cX5_tryJob 101 = .ok (.iconst 0, 1) := by decide +kernel
theorem dX5_tryJob_102 : decode cX5_tryJob 102 = .ok (.bastore, 1) := by decide +kernel
theorem dX5_tryJob_103 : decode cX5_tryJob 103 = .ok (.return_, 1) := by decide +kernel
theorem dX5_keepIfBetter_0 : decode cX5_keepIfBetter 0 = .ok (.iload_n 2, 1) := by decide +kernel
theorem dX5_keepIfBetter_1 : decode cX5_keepIfBetter 1 = .ok (.aload_n 0, 1) := by decide +kernel
theorem dX5_keepIfBetter_2 : decode cX5_keepIfBetter 2 = .ok (.getfield 19, 3) := by decide +kernel
theorem dX5_keepIfBetter_5 : decode cX5_keepIfBetter 5 = .ok (.if_icmp .lt 19, 3) := by decide +kernel
theorem dX5_keepIfBetter_8 : decode cX5_keepIfBetter 8 = .ok (.iload_n 2, 1) := by decide +kernel
theorem dX5_keepIfBetter_9 : decode cX5_keepIfBetter 9 = .ok (.aload_n 0, 1) := by decide +kernel
theorem dX5_keepIfBetter_10 : decode cX5_keepIfBetter 10 = .ok (.getfield 19, 3) := by decide +kernel
theorem dX5_keepIfBetter_13 : decode cX5_keepIfBetter 13 = .ok (.if_icmp .ne 49, 3) := by decide +kernel
theorem dX5_keepIfBetter_16 : decode cX5_keepIfBetter 16 = .ok (.iload_n 1, 1) := by decide +kernel
theorem dX5_keepIfBetter_17 : decode cX5_keepIfBetter 17 = .ok (.aload_n 0, 1) := by decide +kernel
theorem dX5_keepIfBetter_18 : decode cX5_keepIfBetter 18 = .ok (.getfield 41, 3) := by decide +kernel
theorem dX5_keepIfBetter_21 : decode cX5_keepIfBetter 21 = .ok (.if_icmp .ge 41, 3) := by decide +kernel
theorem dX5_keepIfBetter_24 : decode cX5_keepIfBetter 24 = .ok (.aload_n 0, 1) := by decide +kernel
theorem dX5_keepIfBetter_25 : decode cX5_keepIfBetter 25 = .ok (.iload_n 2, 1) := by decide +kernel
theorem dX5_keepIfBetter_26 : decode cX5_keepIfBetter 26 = .ok (.putfield 19, 3) := by decide +kernel
theorem dX5_keepIfBetter_29 : decode cX5_keepIfBetter 29 = .ok (.aload_n 0, 1) := by decide +kernel
theorem dX5_keepIfBetter_30 : decode cX5_keepIfBetter 30 = .ok (.iload_n 1, 1) := by decide +kernel
theorem dX5_keepIfBetter_31 : decode cX5_keepIfBetter 31 = .ok (.putfield 41, 3) := by decide +kernel
theorem dX5_keepIfBetter_34 : decode cX5_keepIfBetter 34 = .ok (.iconst 0, 1) := by decide +kernel
theorem dX5_keepIfBetter_35 : decode cX5_keepIfBetter 35 = .ok (.istore_n 3, 1) := by decide +kernel
theorem dX5_keepIfBetter_36 : decode cX5_keepIfBetter 36 = .ok (.iload_n 3, 1) := by decide +kernel
theorem dX5_keepIfBetter_37 : decode cX5_keepIfBetter 37 = .ok (.aload_n 0, 1) := by decide +kernel
theorem dX5_keepIfBetter_38 : decode cX5_keepIfBetter 38 = .ok (.getfield 15, 3) := by decide +kernel
theorem dX5_keepIfBetter_41 : decode cX5_keepIfBetter 41 = .ok (.if_icmp .ge 21, 3) := by decide +kernel
theorem dX5_keepIfBetter_44 : decode cX5_keepIfBetter 44 = .ok (.aload_n 0, 1) := by decide +kernel
theorem dX5_keepIfBetter_45 : decode cX5_keepIfBetter 45 = .ok (.getfield 9, 3) := by decide +kernel
theorem dX5_keepIfBetter_48 : decode cX5_keepIfBetter 48 = .ok (.iload_n 3, 1) := by decide +kernel
theorem dX5_keepIfBetter_49 : decode cX5_keepIfBetter 49 = .ok (.aload_n 0, 1) := by decide +kernel
theorem dX5_keepIfBetter_50 : decode cX5_keepIfBetter 50 = .ok (.getfield 31, 3) := by decide +kernel
theorem dX5_keepIfBetter_53 : decode cX5_keepIfBetter 53 = .ok (.iload_n 3, 1) := by decide +kernel
theorem dX5_keepIfBetter_54 : decode cX5_keepIfBetter 54 = .ok (.iaload, 1) := by decide +kernel
theorem dX5_keepIfBetter_55 : decode cX5_keepIfBetter 55 = .ok (.iastore, 1) := by decide +kernel
theorem dX5_keepIfBetter_56 : decode cX5_keepIfBetter 56 = .ok (.iinc 3 1, 3) := by decide +kernel
theorem dX5_keepIfBetter_59 : decode cX5_keepIfBetter 59 = .ok (.goto (-23), 3) := by decide +kernel
theorem dX5_keepIfBetter_62 : decode cX5_keepIfBetter 62 = .ok (.return_, 1) := by decide +kernel
theorem dX6_init_0 : decode cX6_init 0 = .ok (.aload_n 0, 1) := by decide +kernel
theorem dX6_init_1 : decode cX6_init 1 = .ok (.invokespecial 3, 3) := by decide +kernel
theorem dX6_init_4 : decode cX6_init 4 = .ok (.aload_n 0, 1) := by decide +kernel
theorem dX6_init_5 : decode cX6_init 5 = .ok (.bipush 8, 2) := by decide +kernel
theorem dX6_init_7 : decode cX6_init 7 = .ok (.newarray .int, 2) := by decide +kernel
theorem dX6_init_9 : decode cX6_init 9 = .ok (.putfield 9, 3) := by decide +kernel
theorem dX6_init_12 : decode cX6_init 12 = .ok (.aload_n 0, 1) := by decide +kernel
theorem dX6_init_13 : decode cX6_init 13 = .ok (.bipush 8, 2) := by decide +kernel
theorem dX6_init_15 : decode cX6_init 15 = .ok (.newarray .int, 2) := by decide +kernel
theorem dX6_init_17 : decode cX6_init 17 = .ok (.putfield 15, 3) := by decide +kernel
theorem dX6_init_20 : decode cX6_init 20 = .ok (.aload_n 0, 1) := by decide +kernel
theorem dX6_init_21 : decode cX6_init 21 = .ok (.bipush 8, 2) := by decide +kernel
theorem dX6_init_23 : decode cX6_init 23 = .ok (.newarray .int, 2) := by decide +kernel
theorem dX6_init_25 : decode cX6_init 25 = .ok (.putfield 18, 3) := by decide +kernel
theorem dX6_init_28 : decode cX6_init 28 = .ok (.aload_n 0, 1) := by decide +kernel
theorem dX6_init_29 : decode cX6_init 29 = .ok (.bipush 8, 2) := by decide +kernel
theorem dX6_init_31 : decode cX6_init 31 = .ok (.newarray .int, 2) := by decide +kernel
theorem dX6_init_33 : decode cX6_init 33 = .ok (.putfield 21, 3) := by decide +kernel
theorem dX6_init_36 : decode cX6_init 36 = .ok (.aload_n 0, 1) := by decide +kernel
theorem dX6_init_37 : decode cX6_init 37 = .ok (.iconst 0, 1) := by decide +kernel
theorem dX6_init_38 : decode cX6_init 38 = .ok (.putfield 24, 3) := by decide +kernel
theorem dX6_init_41 : decode cX6_init 41 = .ok (.return_, 1) := by decide +kernel
theorem dX6_has_0 : decode cX6_has 0 = .ok (.iload_n 1, 1) := by decide +kernel
theorem dX6_has_1 : decode cX6_has 1 = .ok (.ifCond .lt 15, 3) := by decide +kernel
theorem dX6_has_4 : decode cX6_has 4 = .ok (.iload_n 1, 1) := by decide +kernel
theorem dX6_has_5 : decode cX6_has 5 = .ok (.aload_n 0, 1) := by decide +kernel
theorem dX6_has_6 : decode cX6_has 6 = .ok (.getfield 24, 3) := by decide +kernel
theorem dX6_has_9 : decode cX6_has 9 = .ok (.if_icmp .ge 7, 3) := by decide +kernel
theorem dX6_has_12 : decode cX6_has 12 = .ok (.iconst 1, 1) := by decide +kernel
theorem dX6_has_13 : decode cX6_has 13 = .ok (.goto 4, 3) := by decide +kernel
theorem dX6_has_16 : decode cX6_has 16 = .ok (.iconst 0, 1) := by decide +kernel
theorem dX6_has_17 : decode cX6_has 17 = .ok (.ireturn, 1) := by decide +kernel
theorem dX6_add_0 : decode cX6_add 0 = .ok (.aload_n 0, 1) := by decide +kernel
theorem dX6_add_1 : decode cX6_add 1 = .ok (.getfield 24, 3) := by decide +kernel
theorem dX6_add_4 : decode cX6_add 4 = .ok (.bipush 8, 2) := by decide +kernel
theorem dX6_add_6 : decode cX6_add 6 = .ok (.if_icmp .lt 6, 3) := by decide +kernel
theorem dX6_add_9 : decode cX6_add 9 = .ok (.bipush (-4), 2) := by decide +kernel
theorem dX6_add_11 : decode cX6_add 11 = .ok (.ireturn, 1) := by decide +kernel
theorem dX6_add_12 : decode cX6_add 12 = .ok (.aload_n 0, 1) := by decide +kernel
theorem dX6_add_13 : decode cX6_add 13 = .ok (.getfield 9, 3) := by decide +kernel
theorem dX6_add_16 : decode cX6_add 16 = .ok (.aload_n 0, 1) := by decide +kernel
theorem dX6_add_17 : decode cX6_add 17 = .ok (.getfield 24, 3) := by decide +kernel
theorem dX6_add_20 : decode cX6_add 20 = .ok (.iload_n 1, 1) := by decide +kernel
theorem dX6_add_21 : decode cX6_add 21 = .ok (.iastore, 1) := by decide +kernel
theorem dX6_add_22 : decode cX6_add 22 = .ok (.aload_n 0, 1) := by decide +kernel
theorem dX6_add_23 : decode cX6_add 23 = .ok (.getfield 15, 3) := by decide +kernel
theorem dX6_add_26 : decode cX6_add 26 = .ok (.aload_n 0, 1) := by decide +kernel
theorem dX6_add_27 : decode cX6_add 27 = .ok (.getfield 24, 3) := by decide +kernel
theorem dX6_add_30 : decode cX6_add 30 = .ok (.iload_n 2, 1) := by decide +kernel
theorem dX6_add_31 : decode cX6_add 31 = .ok (.iastore, 1) := by decide +kernel
theorem dX6_add_32 : decode cX6_add 32 = .ok (.aload_n 0, 1) := by decide +kernel
theorem dX6_add_33 : decode cX6_add 33 = .ok (.getfield 18, 3) := by decide +kernel
theorem dX6_add_36 : decode cX6_add 36 = .ok (.aload_n 0, 1) := by decide +kernel
theorem dX6_add_37 : decode cX6_add 37 = .ok (.getfield 24, 3) := by decide +kernel
theorem dX6_add_40 : decode cX6_add 40 = .ok (.iload_n 3, 1) := by decide +kernel
theorem dX6_add_41 : decode cX6_add 41 = .ok (.iastore, 1) := by decide +kernel
theorem dX6_add_42 : decode cX6_add 42 = .ok (.aload_n 0, 1) := by decide +kernel
theorem dX6_add_43 : decode cX6_add 43 = .ok (.getfield 21, 3) := by decide +kernel
theorem dX6_add_46 : decode cX6_add 46 = .ok (.aload_n 0, 1) := by decide +kernel
theorem dX6_add_47 : decode cX6_add 47 = .ok (.getfield 24, 3) := by decide +kernel
theorem dX6_add_50 : decode cX6_add 50 = .ok (.iload 4, 2) := by decide +kernel
theorem dX6_add_52 : decode cX6_add 52 = .ok (.iastore, 1) := by decide +kernel
theorem dX6_add_53 : decode cX6_add 53 = .ok (.aload_n 0, 1) := by decide +kernel
theorem dX6_add_54 : decode cX6_add 54 = .ok (.dup, 1) := by decide +kernel
theorem dX6_add_55 : decode cX6_add 55 = .ok (.getfield 24, 3) := by decide +kernel
theorem dX6_add_58 : decode cX6_add 58 = .ok (.iconst 1, 1) := by decide +kernel
theorem dX6_add_59 : decode cX6_add 59 = .ok (.iadd, 1) := by decide +kernel
theorem dX6_add_60 : decode cX6_add 60 = .ok (.putfield 24, 3) := by decide +kernel
theorem dX6_add_63 : decode cX6_add 63 = .ok (.aload_n 0, 1) := by decide +kernel
theorem dX6_add_64 : decode cX6_add 64 = .ok (.getfield 24, 3) := by decide +kernel
theorem dX6_add_67 : decode cX6_add 67 = .ok (.iconst 1, 1) := by decide +kernel
theorem dX6_add_68 : decode cX6_add 68 = .ok (.isub, 1) := by decide +kernel
theorem dX6_add_69 : decode cX6_add 69 = .ok (.ireturn, 1) := by decide +kernel
theorem dX7_init_0 : decode cX7_init 0 = .ok (.aload_n 0, 1) := by decide +kernel
theorem dX7_init_1 : decode cX7_init 1 = .ok (.invokespecial 3, 3) := by decide +kernel
theorem dX7_init_4 : decode cX7_init 4 = .ok (.aload_n 0, 1) := by decide +kernel
theorem dX7_init_5 : decode cX7_init 5 = .ok (.sipush 800, 3) := by decide +kernel
theorem dX7_init_8 : decode cX7_init 8 = .ok (.newarray .int, 2) := by decide +kernel
theorem dX7_init_10 : decode cX7_init 10 = .ok (.putfield 9, 3) := by decide +kernel
theorem dX7_init_13 : decode cX7_init 13 = .ok (.aload_n 0, 1) := by decide +kernel
theorem dX7_init_14 : decode cX7_init 14 = .ok (.iconst 0, 1) := by decide +kernel
theorem dX7_init_15 : decode cX7_init 15 = .ok (.putfield 15, 3) := by decide +kernel
theorem dX7_init_18 : decode cX7_init 18 = .ok (.aload_n 0, 1) := by decide +kernel
theorem dX7_init_19 : decode cX7_init 19 = .ok (.iconst 4, 1) := by decide +kernel
theorem dX7_init_20 : decode cX7_init 20 = .ok (.newarray .int, 2) := by decide +kernel
theorem dX7_init_22 : decode cX7_init 22 = .ok (.putfield 19, 3) := by decide +kernel
theorem dX7_init_25 : decode cX7_init 25 = .ok (.aload_n 0, 1) := by decide +kernel
theorem dX7_init_26 : decode cX7_init 26 = .ok (.iconst 4, 1) := by decide +kernel
theorem dX7_init_27 : decode cX7_init 27 = .ok (.newarray .int, 2) := by decide +kernel
theorem dX7_init_29 : decode cX7_init 29 = .ok (.dup, 1) := by decide +kernel
theorem dX7_init_30 : decode cX7_init 30 = .ok (.iconst 0, 1) := by decide +kernel
theorem dX7_init_31 : decode cX7_init 31 = .ok (.iconst (-1), 1) := by decide +kernel
theorem dX7_init_32 : decode cX7_init 32 = .ok (.iastore, 1) := by decide +kernel
theorem dX7_init_33 : decode cX7_init 33 = .ok (.dup, 1) := by decide +kernel
theorem dX7_init_34 : decode cX7_init 34 = .ok (.iconst 1, 1) := by decide +kernel
theorem dX7_init_35 : decode cX7_init 35 = .ok (.iconst (-1), 1) := by decide +kernel
theorem dX7_init_36 : decode cX7_init 36 = .ok (.iastore, 1) := by decide +kernel
theorem dX7_init_37 : decode cX7_init 37 = .ok (.dup, 1) := by decide +kernel
theorem dX7_init_38 : decode cX7_init 38 = .ok (.iconst 2, 1) := by decide +kernel
theorem dX7_init_39 : decode cX7_init 39 = .ok (.iconst (-1), 1) := by decide +kernel
theorem dX7_init_40 : decode cX7_init 40 = .ok (.iastore, 1) := by decide +kernel
theorem dX7_init_41 : decode cX7_init 41 = .ok (.dup, 1) := by decide +kernel
theorem dX7_init_42 : decode cX7_init 42 = .ok (.iconst 3, 1) := by decide +kernel
theorem dX7_init_43 : decode cX7_init 43 = .ok (.iconst (-1), 1) := by decide +kernel
theorem dX7_init_44 : decode cX7_init 44 = .ok (.iastore, 1) := by decide +kernel
theorem dX7_init_45 : decode cX7_init 45 = .ok (.putfield 22, 3) := by decide +kernel
theorem dX7_init_48 : decode cX7_init 48 = .ok (.return_, 1) := by decide +kernel
theorem dX7_found_0 : decode cX7_found 0 = .ok (.aload_n 0, 1) := by decide +kernel
theorem dX7_found_1 : decode cX7_found 1 = .ok (.iload_n 1, 1) := by decide +kernel
theorem dX7_found_2 : decode cX7_found 2 = .ok (.putfield 15, 3) := by decide +kernel
theorem dX7_found_5 : decode cX7_found 5 = .ok (.bipush (-10), 2) := by decide +kernel
theorem dX7_found_7 : decode cX7_found 7 = .ok (.iload_n 1, 1) := by decide +kernel
theorem dX7_found_8 : decode cX7_found 8 = .ok (.isub, 1) := by decide +kernel
theorem dX7_found_9 : decode cX7_found 9 = .ok (.ireturn, 1) := by decide +kernel
theorem dX7_renew_0 : decode cX7_renew 0 = .ok (.iload_n 3, 1) := by decide +kernel
theorem dX7_renew_1 : decode cX7_renew 1 = .ok (.ifCond .ge 9, 3) := by decide +kernel
theorem dX7_renew_4 : decode cX7_renew 4 = .ok (.aload_n 0, 1) := by decide +kernel
theorem dX7_renew_5 : decode cX7_renew 5 = .ok (.iconst 5, 1) := by decide +kernel
theorem dX7_renew_6 : decode cX7_renew 6 = .ok (.invokevirtual 25, 3) := by decide +kernel
theorem dX7_renew_9 : decode cX7_renew 9 = .ok (.ireturn, 1) := by decide +kernel
theorem dX7_renew_10 : decode cX7_renew 10 = .ok (.aload_n 0, 1) := by decide +kernel
theorem dX7_renew_11 : decode cX7_renew 11 = .ok (.getfield 19, 3) := by decide +kernel
theorem dX7_renew_14 : decode cX7_renew 14 = .ok (.iload_n 1, 1) := by decide +kernel
theorem dX7_renew_15 : decode cX7_renew 15 = .ok (.iload_n 2, 1) := by decide +kernel
theorem dX7_renew_16 : decode cX7_renew 16 = .ok (.iastore, 1) := by decide +kernel
theorem dX7_renew_17 : decode cX7_renew 17 = .ok (.aload_n 0, 1) := by decide +kernel
theorem dX7_renew_18 : decode cX7_renew 18 = .ok (.getfield 22, 3) := by decide +kernel
theorem dX7_renew_21 : decode cX7_renew 21 = .ok (.iload_n 1, 1) := by decide +kernel
theorem dX7_renew_22 : decode cX7_renew 22 = .ok (.iload_n 3, 1) := by decide +kernel
theorem dX7_renew_23 : decode cX7_renew 23 = .ok (.iastore, 1) := by decide +kernel
theorem dX7_renew_24 : decode cX7_renew 24 = .ok (.iconst 0, 1) := by decide +kernel
theorem dX7_renew_25 : decode cX7_renew 25 = .ok (.istore 4, 2) := by decide +kernel
theorem dX7_renew_27 : decode cX7_renew 27 = .ok (.iload 4, 2) := by decide +kernel
theorem dX7_renew_29 : decode cX7_renew 29 = .ok (.iload_n 3, 1) := by decide +kernel
theorem dX7_renew_30 : decode cX7_renew 30 = .ok (.if_icmp .ge 23, 3) := by decide +kernel
theorem dX7_renew_33 : decode cX7_renew 33 = .ok (.aload_n 0, 1) := by decide +kernel
theorem dX7_renew_34 : decode cX7_renew 34 = .ok (.getfield 9, 3) := by decide +kernel
theorem dX7_renew_37 : decode cX7_renew 37 = .ok (.iload_n 1, 1) := by decide +kernel
theorem dX7_renew_38 : decode cX7_renew 38 = .ok (.sipush 200, 3) := by decide +kernel
theorem dX7_renew_41 : decode cX7_renew 41 = .ok (.imul, 1) := by decide +kernel
theorem dX7_renew_42 : decode cX7_renew 42 = .ok (.iload 4, 2) := by decide +kernel
theorem dX7_renew_44 : decode cX7_renew 44 = .ok (.iadd, 1) := by decide +kernel
theorem dX7_renew_45 : decode cX7_renew 45 = .ok (.iconst 0, 1) := by decide +kernel
theorem dX7_renew_46 : decode cX7_renew 46 = .ok (.iastore, 1) := by decide +kernel
theorem dX7_renew_47 : decode cX7_renew 47 = .ok (.iinc 4 1, 3) := by decide +kernel
theorem dX7_renew_50 : decode cX7_renew 50 = .ok (.goto (-23), 3) := by decide +kernel
theorem dX7_renew_53 : decode cX7_renew 53 = .ok (.iload_n 3, 1) := by decide +kernel
theorem dX7_renew_54 : decode cX7_renew 54 = .ok (.ireturn, 1) := by decide +kernel
theorem dX7_discard_0 : decode cX7_discard 0 = .ok (.aload_n 0, 1) := by decide +kernel
theorem dX7_discard_1 : decode cX7_discard 1 = .ok (.getfield 22, 3) := by decide +kernel
theorem dX7_discard_4 : decode cX7_discard 4 = .ok (.iload_n 1, 1) := by decide +kernel
theorem dX7_discard_5 : decode cX7_discard 5 = .ok (.iaload, 1) := by decide +kernel
theorem dX7_discard_6 : decode cX7_discard 6 = .ok (.iconst (-1), 1) := by decide +kernel
theorem dX7_discard_7 : decode cX7_discard 7 = .ok (.if_icmp .ne 9, 3) := by decide +kernel
theorem dX7_discard_10 : decode cX7_discard 10 = .ok (.aload_n 0, 1) := by decide +kernel
theorem dX7_discard_11 : decode cX7_discard 11 = .ok (.iconst 1, 1) := by decide +kernel
theorem dX7_discard_12 : decode cX7_discard 12 = .ok (.invokevirtual 25, 3) := by decide +kernel
theorem dX7_discard_15 : decode cX7_discard 15 = .ok (.ireturn, 1) := by decide +kernel
theorem dX7_discard_16 : decode cX7_discard 16 = .ok (.aload_n 0, 1) := by decide +kernel
theorem dX7_discard_17 : decode cX7_discard 17 = .ok (.getfield 22, 3) := by decide +kernel
theorem dX7_discard_20 : decode cX7_discard 20 = .ok (.iload_n 1, 1) := by decide +kernel
theorem dX7_discard_21 : decode cX7_discard 21 = .ok (.iaload, 1) := by decide +kernel
theorem dX7_discard_22 : decode cX7_discard 22 = .ok (.istore_n 2, 1) := by decide +kernel
theorem dX7_discard_23 : decode cX7_discard 23 = .ok (.aload_n 0, 1) := by decide +kernel
theorem dX7_discard_24 : decode cX7_discard 24 = .ok (.getfield 22, 3) := by decide +kernel
theorem dX7_discard_27 : decode cX7_discard 27 = .ok (.iload_n 1, 1) := by decide +kernel
theorem dX7_discard_28 : decode cX7_discard 28 = .ok (.iconst (-1), 1) := by decide +kernel
theorem dX7_discard_29 : decode cX7_discard 29 = .ok (.iastore, 1) := by decide +kernel
theorem dX7_discard_30 : decode cX7_discard 30 = .ok (.iload_n 2, 1) := by decide +kernel
theorem dX7_discard_31 : decode cX7_discard 31 = .ok (.ireturn, 1) := by decide +kernel
theorem dX7_faultOf_0 : decode cX7_faultOf 0 = .ok (.aload_n 0, 1) := by decide +kernel
theorem dX7_faultOf_1 : decode cX7_faultOf 1 = .ok (.getfield 22, 3) := by decide +kernel
theorem dX7_faultOf_4 : decode cX7_faultOf 4 = .ok (.iload_n 1, 1) := by decide +kernel
theorem dX7_faultOf_5 : decode cX7_faultOf 5 = .ok (.iaload, 1) := by decide +kernel
theorem dX7_faultOf_6 : decode cX7_faultOf 6 = .ok (.iconst (-1), 1) := by decide +kernel
theorem dX7_faultOf_7 : decode cX7_faultOf 7 = .ok (.if_icmp .ne 5, 3) := by decide +kernel
theorem dX7_faultOf_10 : decode cX7_faultOf 10 = .ok (.iconst 1, 1) := by decide +kernel
theorem dX7_faultOf_11 : decode cX7_faultOf 11 = .ok (.ireturn, 1) := by decide +kernel
theorem dX7_faultOf_12 : decode cX7_faultOf 12 = .ok (.aload_n 0, 1) := by decide +kernel
theorem dX7_faultOf_13 : decode cX7_faultOf 13 = .ok (.getfield 19, 3) := by decide +kernel
theorem dX7_faultOf_16 : decode cX7_faultOf 16 = .ok (.iload_n 1, 1) := by decide +kernel
theorem dX7_faultOf_17 : decode cX7_faultOf 17 = .ok (.iaload, 1) := by decide +kernel
theorem dX7_faultOf_18 : decode cX7_faultOf 18 = .ok (.iload_n 2, 1) := by decide +kernel
theorem dX7_faultOf_19 : decode cX7_faultOf 19 = .ok (.if_icmp .eq 5, 3) := by decide +kernel
theorem dX7_faultOf_22 : decode cX7_faultOf 22 = .ok (.iconst 3, 1) := by decide +kernel
theorem dX7_faultOf_23 : decode cX7_faultOf 23 = .ok (.ireturn, 1) := by decide +kernel
theorem dX7_faultOf_24 : decode cX7_faultOf 24 = .ok (.iload_n 3, 1) := by decide +kernel
theorem dX7_faultOf_25 : decode cX7_faultOf 25 = .ok (.ifCond .lt 13, 3) := by decide +kernel
theorem dX7_faultOf_28 : decode cX7_faultOf 28 = .ok (.iload_n 3, 1) := by decide +kernel
theorem dX7_faultOf_29 : decode cX7_faultOf 29 = .ok (.aload_n 0, 1) := by decide +kernel
theorem dX7_faultOf_30 : decode cX7_faultOf 30 = .ok (.getfield 22, 3) := by decide +kernel
theorem dX7_faultOf_33 : decode cX7_faultOf 33 = .ok (.iload_n 1, 1) := by decide +kernel
theorem dX7_faultOf_34 : decode cX7_faultOf 34 = .ok (.iaload, 1) := by decide +kernel
theorem dX7_faultOf_35 : decode cX7_faultOf 35 = .ok (.if_icmp .lt 7, 3) := by decide +kernel
theorem dX7_faultOf_38 : decode cX7_faultOf 38 = .ok (.iconst 2, 1) := by decide +kernel
theorem dX7_faultOf_39 : decode cX7_faultOf 39 = .ok (.goto 4, 3) := by decide +kernel
theorem dX7_faultOf_42 : decode cX7_faultOf 42 = .ok (.iconst 0, 1) := by decide +kernel
theorem dX7_faultOf_43 : decode cX7_faultOf 43 = .ok (.ireturn, 1) := by decide +kernel
theorem dX7_write_0 : decode cX7_write 0 = .ok (.iload_n 3, 1) := by decide +kernel
theorem dX7_write_1 : decode cX7_write 1 = .ok (.istore 4, 2) := by decide +kernel
theorem dX7_write_3 : decode cX7_write 3 = .ok (.aload_n 0, 1) := by decide +kernel
theorem dX7_write_4 : decode cX7_write 4 = .ok (.getfield 19, 3) := by decide +kernel
theorem dX7_write_7 : decode cX7_write 7 = .ok (.iload_n 1, 1) := by decide +kernel
theorem dX7_write_8 : decode cX7_write 8 = .ok (.iaload, 1) := by decide +kernel
theorem dX7_write_9 : decode cX7_write 9 = .ok (.ifCond .ne 10, 3) := by decide +kernel
theorem dX7_write_12 : decode cX7_write 12 = .ok (.iload_n 3, 1) := by decide +kernel
theorem dX7_write_13 : decode cX7_write 13 = .ok (.i2b, 1) := by decide +kernel
theorem dX7_write_14 : decode cX7_write 14 = .ok (.istore 4, 2) := by decide +kernel
theorem dX7_write_16 : decode cX7_write 16 = .ok (.goto 17, 3) := by decide +kernel
theorem dX7_write_19 : decode cX7_write 19 = .ok (.aload_n 0, 1) := by decide +kernel
theorem dX7_write_20 : decode cX7_write 20 = .ok (.getfield 19, 3) := by decide +kernel
theorem dX7_write_23 : decode cX7_write 23 = .ok (.iload_n 1, 1) := by decide +kernel
theorem dX7_write_24 : decode cX7_write 24 = .ok (.iaload, 1) := by decide +kernel
theorem dX7_write_25 : decode cX7_write 25 = .ok (.iconst 1, 1) := by decide +kernel
theorem dX7_write_26 : decode cX7_write 26 = .ok (.if_icmp .ne 7, 3) := by decide +kernel
theorem dX7_write_29 : decode cX7_write 29 = .ok (.iload_n 3, 1) := by decide +kernel
theorem dX7_write_30 : decode cX7_write 30 = .ok (.i2s, 1) := by decide +kernel
theorem dX7_write_31 : decode cX7_write 31 = .ok (.istore 4, 2) := by decide +kernel
theorem dX7_write_33 : decode cX7_write 33 = .ok (.aload_n 0, 1) := by decide +kernel
theorem dX7_write_34 : decode cX7_write 34 = .ok (.getfield 9, 3) := by decide +kernel
theorem dX7_write_37 : decode cX7_write 37 = .ok (.iload_n 1, 1) := by decide +kernel
theorem dX7_write_38 : decode cX7_write 38 = .ok (.sipush 200, 3) := by decide +kernel
theorem dX7_write_41 : decode cX7_write 41 = .ok (.imul, 1) := by decide +kernel
theorem dX7_write_42 : decode cX7_write 42 = .ok (.iload_n 2, 1) := by decide +kernel
theorem dX7_write_43 : decode cX7_write 43 = .ok (.iadd, 1) := by decide +kernel
theorem dX7_write_44 : decode cX7_write 44 = .ok (.iload 4, 2) := by decide +kernel
theorem dX7_write_46 : decode cX7_write 46 = .ok (.iastore, 1) := by decide +kernel
theorem dX7_write_47 : decode cX7_write 47 = .ok (.return_, 1) := by decide +kernel
theorem dX7_move_0 : decode cX7_move 0 = .ok (.aload_n 0, 1) := by decide +kernel
theorem dX7_move_1 : decode cX7_move 1 = .ok (.getfield 22, 3) := by decide +kernel
theorem dX7_move_4 : decode cX7_move 4 = .ok (.iload_n 1, 1) := by decide +kernel
theorem dX7_move_5 : decode cX7_move 5 = .ok (.iaload, 1) := by decide +kernel
theorem dX7_move_6 : decode cX7_move 6 = .ok (.iconst (-1), 1) := by decide +kernel
theorem dX7_move_7 : decode cX7_move 7 = .ok (.if_icmp .eq 13, 3) := by decide +kernel
theorem dX7_move_10 : decode cX7_move 10 = .ok (.aload_n 0, 1) := by decide +kernel
theorem dX7_move_11 : decode cX7_move 11 = .ok (.getfield 22, 3) := by decide +kernel
theorem dX7_move_14 : decode cX7_move 14 = .ok (.iload_n 3, 1) := by decide +kernel
theorem dX7_move_15 : decode cX7_move 15 = .ok (.iaload, 1) := by decide +kernel
theorem dX7_move_16 : decode cX7_move 16 = .ok (.iconst (-1), 1) := by decide +kernel
theorem dX7_move_17 : decode cX7_move 17 = .ok (.if_icmp .ne 9, 3) := by decide +kernel
theorem dX7_move_20 : decode cX7_move 20 = .ok (.aload_n 0, 1) := by decide +kernel
theorem dX7_move_21 : decode cX7_move 21 = .ok (.iconst 1, 1) := by decide +kernel
theorem dX7_move_22 : decode cX7_move 22 = .ok (.invokevirtual 25, 3) := by decide +kernel
theorem dX7_move_25 : decode cX7_move 25 = .ok (.ireturn, 1) := by decide +kernel
theorem dX7_move_26 : decode cX7_move 26 = .ok (.aload_n 0, 1) := by decide +kernel
theorem dX7_move_27 : decode cX7_move 27 = .ok (.getfield 19, 3) := by decide +kernel
theorem dX7_move_30 : decode cX7_move 30 = .ok (.iload_n 1, 1) := by decide +kernel
theorem dX7_move_31 : decode cX7_move 31 = .ok (.iaload, 1) := by decide +kernel
theorem dX7_move_32 : decode cX7_move 32 = .ok (.aload_n 0, 1) := by decide +kernel
theorem dX7_move_33 : decode cX7_move 33 = .ok (.getfield 19, 3) := by decide +kernel
theorem dX7_move_36 : decode cX7_move 36 = .ok (.iload_n 3, 1) := by decide +kernel
theorem dX7_move_37 : decode cX7_move 37 = .ok (.iaload, 1) := by decide +kernel
theorem dX7_move_38 : decode cX7_move 38 = .ok (.if_icmp .eq 9, 3) := by decide +kernel
theorem dX7_move_41 : decode cX7_move 41 = .ok (.aload_n 0, 1) := by decide +kernel
theorem dX7_move_42 : decode cX7_move 42 = .ok (.iconst 4, 1) := by decide +kernel
theorem dX7_move_43 : decode cX7_move 43 = .ok (.invokevirtual 25, 3) := by decide +kernel
theorem dX7_move_46 : decode cX7_move 46 = .ok (.ireturn, 1) := by decide +kernel
theorem dX7_move_47 : decode cX7_move 47 = .ok (.iload_n 2, 1) := by decide +kernel
theorem dX7_move_48 : decode cX7_move 48 = .ok (.ifCond .lt 40, 3) := by decide +kernel
theorem dX7_move_51 : decode cX7_move 51 = .ok (.iload 4, 2) := by decide +kernel
theorem dX7_move_53 : decode cX7_move 53 = .ok (.ifCond .lt 35, 3) := by decide +kernel
theorem dX7_move_56 : decode cX7_move 56 = .ok (.iload 5, 2) := by decide +kernel
theorem dX7_move_58 : decode cX7_move 58 = .ok (.ifCond .lt 30, 3) := by decide +kernel
theorem dX7_move_61 : decode cX7_move 61 = .ok (.iload 5, 2) := by decide +kernel
theorem dX7_move_63 : decode cX7_move 63 = .ok (.aload_n 0, 1) := by decide +kernel
theorem dX7_move_64 : decode cX7_move 64 = .ok (.getfield 22, 3) := by decide +kernel
theorem dX7_move_67 : decode cX7_move 67 = .ok (.iload_n 1, 1) := by decide +kernel
theorem dX7_move_68 : decode cX7_move 68 = .ok (.iaload, 1) := by decide +kernel
theorem dX7_move_69 : decode cX7_move 69 = .ok (.iload_n 2, 1) := by decide +kernel
theorem dX7_move_70 : decode cX7_move 70 = .ok (.isub, 1) := by decide +kernel
theorem dX7_move_71 : decode cX7_move 71 = .ok (.if_icmp .gt 17, 3) := by decide +kernel
theorem dX7_move_74 : decode cX7_move 74 = .ok (.iload 5, 2) := by decide +kernel
theorem dX7_move_76 : decode cX7_move 76 = .ok (.aload_n 0, 1) := by decide +kernel
theorem dX7_move_77 : decode cX7_move 77 = .ok (.getfield 22, 3) := by decide +kernel
theorem dX7_move_80 : decode cX7_move 80 = .ok (.iload_n 3, 1) := by decide +kernel
theorem dX7_move_81 : decode cX7_move 81 = .ok (.iaload, 1) := by decide +kernel
theorem dX7_move_82 : decode cX7_move 82 = .ok (.iload 4, 2) := by decide +kernel
theorem dX7_move_84 : decode cX7_move 84 = .ok (.isub, 1) := by decide +kernel
theorem dX7_move_85 : decode cX7_move 85 = .ok (.if_icmp .le 9, 3) := by decide +kernel
theorem dX7_move_88 : decode cX7_move 88 = .ok (.aload_n 0, 1) := by decide +kernel
theorem dX7_move_89 : decode cX7_move 89 = .ok (.iconst 2, 1) := by decide +kernel
theorem dX7_move_90 : decode cX7_move 90 = .ok (.invokevirtual 25, 3) := by decide +kernel
theorem dX7_move_93 : decode cX7_move 93 = .ok (.ireturn, 1) := by decide +kernel
theorem dX7_move_94 : decode cX7_move 94 = .ok (.aload_n 0, 1) := by decide +kernel
theorem dX7_move_95 : decode cX7_move 95 = .ok (.getfield 9, 3) := by decide +kernel
theorem dX7_move_98 : decode cX7_move 98 = .ok (.iload_n 1, 1) := by decide +kernel
theorem dX7_move_99 : decode cX7_move 99 = .ok (.sipush 200, 3) := by decide +kernel
theorem dX7_move_102 : decode cX7_move 102 = .ok (.imul, 1) := by decide +kernel
theorem dX7_move_103 : decode cX7_move 103 = .ok (.iload_n 2, 1) := by decide +kernel
theorem dX7_move_104 : decode cX7_move 104 = .ok (.iadd, 1) := by decide +kernel
theorem dX7_move_105 : decode cX7_move 105 = .ok (.aload_n 0, 1) := by decide +kernel
theorem dX7_move_106 : decode cX7_move 106 = .ok (.getfield 9, 3) := by decide +kernel
theorem dX7_move_109 : decode cX7_move 109 = .ok (.iload_n 3, 1) := by decide +kernel
theorem dX7_move_110 : decode cX7_move 110 = .ok (.sipush 200, 3) := by decide +kernel
theorem dX7_move_113 : decode cX7_move 113 = .ok (.imul, 1) := by decide +kernel
theorem dX7_move_114 : decode cX7_move 114 = .ok (.iload 4, 2) := by decide +kernel
theorem dX7_move_116 : decode cX7_move 116 = .ok (.iadd, 1) := by decide +kernel
theorem dX7_move_117 : decode cX7_move 117 = .ok (.iload 5, 2) := by decide +kernel
theorem dX7_move_119 : decode cX7_move 119 = .ok (.invokestatic 29, 3) := by decide +kernel
theorem dX7_move_122 : decode cX7_move 122 = .ok (.iconst 1, 1) := by decide +kernel
theorem dX7_move_123 : decode cX7_move 123 = .ok (.ireturn, 1) := by decide +kernel
theorem dX7_weight_0 : decode cX7_weight 0 = .ok (.iload_n 1, 1) := by decide +kernel
theorem dX7_weight_1 : decode cX7_weight 1 = .ok (.ifCond .lt 13, 3) := by decide +kernel
theorem dX7_weight_4 : decode cX7_weight 4 = .ok (.iload_n 1, 1) := by decide +kernel
theorem dX7_weight_5 : decode cX7_weight 5 = .ok (.aload_n 0, 1) := by decide +kernel
theorem dX7_weight_6 : decode cX7_weight 6 = .ok (.getfield 22, 3) := by decide +kernel
theorem dX7_weight_9 : decode cX7_weight 9 = .ok (.iconst 0, 1) := by decide +kernel
theorem dX7_weight_10 : decode cX7_weight 10 = .ok (.iaload, 1) := by decide +kernel
theorem dX7_weight_11 : decode cX7_weight 11 = .ok (.if_icmp .lt 5, 3) := by decide +kernel
theorem dX7_weight_14 : decode cX7_weight 14 = .ok (.iconst (-1), 1) := by decide +kernel
theorem dX7_weight_15 : decode cX7_weight 15 = .ok (.ireturn, 1) := by decide +kernel
theorem dX7_weight_16 : decode cX7_weight 16 = .ok (.aload_n 0, 1) := by decide +kernel
theorem dX7_weight_17 : decode cX7_weight 17 = .ok (.getfield 9, 3) := by decide +kernel
theorem dX7_weight_20 : decode cX7_weight 20 = .ok (.iload_n 1, 1) := by decide +kernel
theorem dX7_weight_21 : decode cX7_weight 21 = .ok (.iaload, 1) := by decide +kernel
theorem dX7_weight_22 : decode cX7_weight 22 = .ok (.istore_n 2, 1) := by decide +kernel
theorem dX7_weight_23 : decode cX7_weight 23 = .ok (.iload_n 2, 1) := by decide +kernel
theorem dX7_weight_24 : decode cX7_weight 24 = .ok (.iconst 1, 1) := by decide +kernel
theorem dX7_weight_25 : decode cX7_weight 25 = .ok (.sipush 20000, 3) := by decide +kernel
theorem dX7_weight_28 : decode cX7_weight 28 = .ok (.invokestatic 35, 3) := by decide +kernel
theorem dX7_weight_31 : decode cX7_weight 31 = .ok (.ifCond .eq 7, 3) := by decide +kernel
theorem dX7_weight_34 : decode cX7_weight 34 = .ok (.iload_n 2, 1) := by decide +kernel
theorem dX7_weight_35 : decode cX7_weight 35 = .ok (.goto 4, 3) := by decide +kernel
theorem dX7_weight_38 : decode cX7_weight 38 = .ok (.iconst (-1), 1) := by decide +kernel
theorem dX7_weight_39 : decode cX7_weight 39 = .ok (.ireturn, 1) := by decide +kernel
theorem dX8_init_0 : decode cX8_init 0 = .ok (.aload_n 0, 1) := by decide +kernel
theorem dX8_init_1 : decode cX8_init 1 = .ok (.invokespecial 3, 3) := by decide +kernel
theorem dX8_init_4 : decode cX8_init 4 = .ok (.aload_n 0, 1) := by decide +kernel
theorem dX8_init_5 : decode cX8_init 5 = .ok (.iconst 0, 1) := by decide +kernel
theorem dX8_init_6 : decode cX8_init 6 = .ok (.putfield 9, 3) := by decide +kernel
theorem dX8_init_9 : decode cX8_init 9 = .ok (.aload_n 0, 1) := by decide +kernel
theorem dX8_init_10 : decode cX8_init 10 = .ok (.iconst 0, 1) := by decide +kernel
theorem dX8_init_11 : decode cX8_init 11 = .ok (.putfield 15, 3) := by decide +kernel
theorem dX8_init_14 : decode cX8_init 14 = .ok (.aload_n 0, 1) := by decide +kernel
theorem dX8_init_15 : decode cX8_init 15 = .ok (.iconst 0, 1) := by decide +kernel
theorem dX8_init_16 : decode cX8_init 16 = .ok (.putfield 18, 3) := by decide +kernel
theorem dX8_init_19 : decode cX8_init 19 = .ok (.aload_n 0, 1) := by decide +kernel
theorem dX8_init_20 : decode cX8_init 20 = .ok (.iconst 0, 1) := by decide +kernel
theorem dX8_init_21 : decode cX8_init 21 = .ok (.putfield 21, 3) := by decide +kernel
theorem dX8_init_24 : decode cX8_init 24 = .ok (.aload_n 0, 1) := by decide +kernel
theorem dX8_init_25 : decode cX8_init 25 = .ok (.iconst 0, 1) := by decide +kernel
theorem dX8_init_26 : decode cX8_init 26 = .ok (.putfield 24, 3) := by decide +kernel
theorem dX8_init_29 : decode cX8_init 29 = .ok (.aload_n 0, 1) := by decide +kernel
theorem dX8_init_30 : decode cX8_init 30 = .ok (.iconst 0, 1) := by decide +kernel
theorem dX8_init_31 : decode cX8_init 31 = .ok (.putfield 27, 3) := by decide +kernel
theorem dX8_init_34 : decode cX8_init 34 = .ok (.aload_n 0, 1) := by decide +kernel
theorem dX8_init_35 : decode cX8_init 35 = .ok (.iconst 0, 1) := by decide +kernel
theorem dX8_init_36 : decode cX8_init 36 = .ok (.putfield 30, 3) := by decide +kernel
theorem dX8_init_39 : decode cX8_init 39 = .ok (.aload_n 0, 1) := by decide +kernel
theorem dX8_init_40 : decode cX8_init 40 = .ok (.iconst 0, 1) := by decide +kernel
theorem dX8_init_41 : decode cX8_init 41 = .ok (.putfield 33, 3) := by decide +kernel
theorem dX8_init_44 : decode cX8_init 44 = .ok (.return_, 1) := by decide +kernel
theorem dX8_trim_0 : decode cX8_trim 0 = .ok (.aload_n 0, 1) := by decide +kernel
theorem dX8_trim_1 : decode cX8_trim 1 = .ok (.iload_n 2, 1) := by decide +kernel
theorem dX8_trim_2 : decode cX8_trim 2 = .ok (.putfield 9, 3) := by decide +kernel
theorem dX8_trim_5 : decode cX8_trim 5 = .ok (.aload_n 0, 1) := by decide +kernel
theorem dX8_trim_6 : decode cX8_trim 6 = .ok (.iconst 0, 1) := by decide +kernel
theorem dX8_trim_7 : decode cX8_trim 7 = .ok (.aload_n 0, 1) := by decide +kernel
theorem dX8_trim_8 : decode cX8_trim 8 = .ok (.getfield 9, 3) := by decide +kernel
theorem dX8_trim_11 : decode cX8_trim 11 = .ok (.aload_n 1, 1) := by decide +kernel
theorem dX8_trim_12 : decode cX8_trim 12 = .ok (.iconst 0, 1) := by decide +kernel
theorem dX8_trim_13 : decode cX8_trim 13 = .ok (.iaload, 1) := by decide +kernel
theorem dX8_trim_14 : decode cX8_trim 14 = .ok (.isub, 1) := by decide +kernel
theorem dX8_trim_15 : decode cX8_trim 15 = .ok (.invokestatic 36, 3) := by decide +kernel
theorem dX8_trim_18 : decode cX8_trim 18 = .ok (.iload_n 3, 1) := by decide +kernel
theorem dX8_trim_19 : decode cX8_trim 19 = .ok (.imul, 1) := by decide +kernel
theorem dX8_trim_20 : decode cX8_trim 20 = .ok (.sipush 1000, 3) := by decide +kernel
theorem dX8_trim_23 : decode cX8_trim 23 = .ok (.aload_n 1, 1) := by decide +kernel
theorem dX8_trim_24 : decode cX8_trim 24 = .ok (.iconst 5, 1) := by decide +kernel
theorem dX8_trim_25 : decode cX8_trim 25 = .ok (.iaload, 1) := by decide +kernel
theorem dX8_trim_26 : decode cX8_trim 26 = .ok (.iadd, 1) := by decide +kernel
theorem dX8_trim_27 : decode cX8_trim 27 = .ok (.imul, 1) := by decide +kernel
theorem dX8_trim_28 : decode cX8_trim 28 = .ok (.sipush 1000, 3) := by decide +kernel
theorem dX8_trim_31 : decode cX8_trim 31 = .ok (.idiv, 1) := by decide +kernel
theorem dX8_trim_32 : decode cX8_trim 32 = .ok (.putfield 15, 3) := by decide +kernel
theorem dX8_trim_35 : decode cX8_trim 35 = .ok (.aload_n 0, 1) := by decide +kernel
theorem dX8_trim_36 : decode cX8_trim 36 = .ok (.getfield 15, 3) := by decide +kernel
theorem dX8_trim_39 : decode cX8_trim 39 = .ok (.istore 5, 2) := by decide +kernel
theorem dX8_trim_41 : decode cX8_trim 41 = .ok (.aload_n 0, 1) := by decide +kernel
theorem dX8_trim_42 : decode cX8_trim 42 = .ok (.aload_n 1, 1) := by decide +kernel
theorem dX8_trim_43 : decode cX8_trim 43 = .ok (.iconst 1, 1) := by decide +kernel
theorem dX8_trim_44 : decode cX8_trim 44 = .ok (.iaload, 1) := by decide +kernel
theorem dX8_trim_45 : decode cX8_trim 45 = .ok (.iload 5, 2) := by decide +kernel
theorem dX8_trim_47 : decode cX8_trim 47 = .ok (.invokestatic 42, 3) := by decide +kernel
theorem dX8_trim_50 : decode cX8_trim 50 = .ok (.putfield 18, 3) := by decide +kernel
theorem dX8_trim_53 : decode cX8_trim 53 = .ok (.iload 5, 2) := by decide +kernel
theorem dX8_trim_55 : decode cX8_trim 55 = .ok (.aload_n 0, 1) := by decide +kernel
theorem dX8_trim_56 : decode cX8_trim 56 = .ok (.getfield 18, 3) := by decide +kernel
theorem dX8_trim_59 : decode cX8_trim 59 = .ok (.isub, 1) := by decide +kernel
theorem dX8_trim_60 : decode cX8_trim 60 = .ok (.istore 5, 2) := by decide +kernel
theorem dX8_trim_62 : decode cX8_trim 62 = .ok (.aload_n 0, 1) := by decide +kernel
theorem dX8_trim_63 : decode cX8_trim 63 = .ok (.aload_n 1, 1) := by decide +kernel
theorem dX8_trim_64 : decode cX8_trim 64 = .ok (.iconst 2, 1) := by decide +kernel
theorem dX8_trim_65 : decode cX8_trim 65 = .ok (.iaload, 1) := by decide +kernel
theorem dX8_trim_66 : decode cX8_trim 66 = .ok (.iload 5, 2) := by decide +kernel
theorem dX8_trim_68 : decode cX8_trim 68 = .ok (.invokestatic 42, 3) := by decide +kernel
theorem dX8_trim_71 : decode cX8_trim 71 = .ok (.putfield 21, 3) := by decide +kernel
theorem dX8_trim_74 : decode cX8_trim 74 = .ok (.iload 5, 2) := by decide +kernel
theorem dX8_trim_76 : decode cX8_trim 76 = .ok (.aload_n 0, 1) := by decide +kernel
theorem dX8_trim_77 : decode cX8_trim 77 = .ok (.getfield 21, 3) := by decide +kernel
theorem dX8_trim_80 : decode cX8_trim 80 = .ok (.isub, 1) := by decide +kernel
theorem dX8_trim_81 : decode cX8_trim 81 = .ok (.istore 5, 2) := by decide +kernel
theorem dX8_trim_83 : decode cX8_trim 83 = .ok (.aload_n 0, 1) := by decide +kernel
theorem dX8_trim_84 : decode cX8_trim 84 = .ok (.iload 4, 2) := by decide +kernel
theorem dX8_trim_86 : decode cX8_trim 86 = .ok (.ifCond .eq 14, 3) := by decide +kernel
theorem dX8_trim_89 : decode cX8_trim 89 = .ok (.aload_n 1, 1) := by decide +kernel
theorem dX8_trim_90 : decode cX8_trim 90 = .ok (.iconst 3, 1) := by decide +kernel
theorem dX8_trim_91 : decode cX8_trim 91 = .ok (.iaload, 1) := by decide +kernel
theorem dX8_trim_92 : decode cX8_trim 92 = .ok (.iload 5, 2) := by decide +kernel
theorem dX8_trim_94 : decode cX8_trim 94 = .ok (.invokestatic 42, 3) := by decide +kernel
theorem dX8_trim_97 : decode cX8_trim 97 = .ok (.goto 4, 3) := by decide +kernel
theorem dX8_trim_100 : decode cX8_trim 100 = .ok (.iconst 0, 1) := by decide +kernel
theorem dX8_trim_101 : decode cX8_trim 101 = .ok (.putfield 24, 3) := by decide +kernel
theorem dX8_trim_104 : decode cX8_trim 104 = .ok (.aload_n 0, 1) := by decide +kernel
theorem dX8_trim_105 : decode cX8_trim 105 = .ok (.iload 5, 2) := by decide +kernel
theorem dX8_trim_107 : decode cX8_trim 107 = .ok (.aload_n 0, 1) := by decide +kernel
theorem dX8_trim_108 : decode cX8_trim 108 = .ok (.getfield 24, 3) := by decide +kernel
theorem dX8_trim_111 : decode cX8_trim 111 = .ok (.isub, 1) := by decide +kernel
theorem dX8_trim_112 : decode cX8_trim 112 = .ok (.putfield 27, 3) := by decide +kernel
theorem dX8_trim_115 : decode cX8_trim 115 = .ok (.return_, 1) := by decide +kernel
theorem dX8_share_0 : decode cX8_share 0 = .ok (.aload_n 0, 1) := by decide +kernel
theorem dX8_share_1 : decode cX8_share 1 = .ok (.iload_n 1, 1) := by decide +kernel
theorem dX8_share_2 : decode cX8_share 2 = .ok (.putfield 30, 3) := by decide +kernel
theorem dX8_share_5 : decode cX8_share 5 = .ok (.aload_n 0, 1) := by decide +kernel
theorem dX8_share_6 : decode cX8_share 6 = .ok (.aload_n 0, 1) := by decide +kernel
theorem dX8_share_7 : decode cX8_share 7 = .ok (.getfield 27, 3) := by decide +kernel
theorem dX8_share_10 : decode cX8_share 10 = .ok (.iload_n 1, 1) := by decide +kernel
theorem dX8_share_11 : decode cX8_share 11 = .ok (.isub, 1) := by decide +kernel
theorem dX8_share_12 : decode cX8_share 12 = .ok (.putfield 33, 3) := by decide +kernel
theorem dX8_share_15 : decode cX8_share 15 = .ok (.return_, 1) := by decide +kernel
theorem dX9_init_0 : decode cX9_init 0 = .ok (.aload_n 0, 1) := by decide +kernel
theorem dX9_init_1 : decode cX9_init 1 = .ok (.invokespecial 1, 3) := by decide +kernel
theorem dX9_init_4 : decode cX9_init 4 = .ok (.aload_n 0, 1) := by decide +kernel
theorem dX9_init_5 : decode cX9_init 5 = .ok (.new 7, 3) := by decide +kernel
theorem dX9_init_8 : decode cX9_init 8 = .ok (.dup, 1) := by decide +kernel
theorem dX9_init_9 : decode cX9_init 9 = .ok (.invokespecial 9, 3) := by decide +kernel
theorem dX9_init_12 : decode cX9_init 12 = .ok (.putfield 10, 3) := by decide +kernel
theorem dX9_init_15 : decode cX9_init 15 = .ok (.aload_n 0, 1) := by decide +kernel
theorem dX9_init_16 : decode cX9_init 16 = .ok (.new 16, 3) := by decide +kernel
theorem dX9_init_19 : decode cX9_init 19 = .ok (.dup, 1) := by decide +kernel
theorem dX9_init_20 : decode cX9_init 20 = .ok (.invokespecial 18, 3) := by decide +kernel
theorem dX9_init_23 : decode cX9_init 23 = .ok (.putfield 19, 3) := by decide +kernel
theorem dX9_init_26 : decode cX9_init 26 = .ok (.aload_n 0, 1) := by decide +kernel
theorem dX9_init_27 : decode cX9_init 27 = .ok (.new 23, 3) := by decide +kernel
theorem dX9_init_30 : decode cX9_init 30 = .ok (.dup, 1) := by decide +kernel
theorem dX9_init_31 : decode cX9_init 31 = .ok (.invokespecial 25, 3) := by decide +kernel
theorem dX9_init_34 : decode cX9_init 34 = .ok (.putfield 26, 3) := by decide +kernel
theorem dX9_init_37 : decode cX9_init 37 = .ok (.aload_n 0, 1) := by decide +kernel
theorem dX9_init_38 : decode cX9_init 38 = .ok (.bipush 6, 2) := by decide +kernel
theorem dX9_init_40 : decode cX9_init 40 = .ok (.newarray .int, 2) := by decide +kernel
theorem dX9_init_42 : decode cX9_init 42 = .ok (.dup, 1) := by decide +kernel
theorem dX9_init_43 : decode cX9_init 43 = .ok (.iconst 0, 1) := by decide +kernel
theorem dX9_init_44 : decode cX9_init 44 = .ok (.bipush 20, 2) := by decide +kernel
theorem dX9_init_46 : decode cX9_init 46 = .ok (.iastore, 1) := by decide +kernel
theorem dX9_init_47 : decode cX9_init 47 = .ok (.dup, 1) := by decide +kernel
theorem dX9_init_48 : decode cX9_init 48 = .ok (.iconst 1, 1) := by decide +kernel
theorem dX9_init_49 : decode cX9_init 49 = .ok (.sipush 500, 3) := by decide +kernel
theorem dX9_init_52 : decode cX9_init 52 = .ok (.iastore, 1) := by decide +kernel
theorem dX9_init_53 : decode cX9_init 53 = .ok (.dup, 1) := by decide +kernel
theorem dX9_init_54 : decode cX9_init 54 = .ok (.iconst 2, 1) := by decide +kernel
theorem dX9_init_55 : decode cX9_init 55 = .ok (.sipush 300, 3) := by decide +kernel
theorem dX9_init_58 : decode cX9_init 58 = .ok (.iastore, 1) := by decide +kernel
theorem dX9_init_59 : decode cX9_init 59 = .ok (.dup, 1) := by decide +kernel
theorem dX9_init_60 : decode cX9_init 60 = .ok (.iconst 3, 1) := by decide +kernel
theorem dX9_init_61 : decode cX9_init 61 = .ok (.sipush 400, 3) := by decide +kernel
theorem dX9_init_64 : decode cX9_init 64 = .ok (.iastore, 1) := by decide +kernel
theorem dX9_init_65 : decode cX9_init 65 = .ok (.dup, 1) := by decide +kernel
theorem dX9_init_66 : decode cX9_init 66 = .ok (.iconst 4, 1) := by decide +kernel
theorem dX9_init_67 : decode cX9_init 67 = .ok (.iconst 5, 1) := by decide +kernel
theorem dX9_init_68 : decode cX9_init 68 = .ok (.iastore, 1) := by decide +kernel
theorem dX9_init_69 : decode cX9_init 69 = .ok (.dup, 1) := by decide +kernel
theorem dX9_init_70 : decode cX9_init 70 = .ok (.iconst 5, 1) := by decide +kernel
theorem dX9_init_71 : decode cX9_init 71 = .ok (.iconst 5, 1) := by decide +kernel
theorem dX9_init_72 : decode cX9_init 72 = .ok (.iastore, 1) := by decide +kernel
theorem dX9_init_73 : decode cX9_init 73 = .ok (.putfield 30, 3) := by decide +kernel
theorem dX9_init_76 : decode cX9_init 76 = .ok (.aload_n 0, 1) := by decide +kernel
theorem dX9_init_77 : decode cX9_init 77 = .ok (.new 34, 3) := by decide +kernel
theorem dX9_init_80 : decode cX9_init 80 = .ok (.dup, 1) := by decide +kernel
theorem dX9_init_81 : decode cX9_init 81 = .ok (.invokespecial 36, 3) := by decide +kernel
theorem dX9_init_84 : decode cX9_init 84 = .ok (.putfield 37, 3) := by decide +kernel
theorem dX9_init_87 : decode cX9_init 87 = .ok (.aload_n 0, 1) := by decide +kernel
theorem dX9_init_88 : decode cX9_init 88 = .ok (.new 41, 3) := by decide +kernel
theorem dX9_init_91 : decode cX9_init 91 = .ok (.dup, 1) := by decide +kernel
theorem dX9_init_92 : decode cX9_init 92 = .ok (.invokespecial 43, 3) := by decide +kernel
theorem dX9_init_95 : decode cX9_init 95 = .ok (.putfield 44, 3) := by decide +kernel
theorem dX9_init_98 : decode cX9_init 98 = .ok (.aload_n 0, 1) := by decide +kernel
theorem dX9_init_99 : decode cX9_init 99 = .ok (.new 48, 3) := by decide +kernel
theorem dX9_init_102 : decode cX9_init 102 = .ok (.dup, 1) := by decide +kernel
theorem dX9_init_103 : decode cX9_init 103 = .ok (.invokespecial 50, 3) := by decide +kernel
theorem dX9_init_106 : decode cX9_init 106 = .ok (.putfield 51, 3) := by decide +kernel
theorem dX9_init_109 : decode cX9_init 109 = .ok (.aload_n 0, 1) := by decide +kernel
theorem dX9_init_110 : decode cX9_init 110 = .ok (.new 55, 3) := by decide +kernel
theorem dX9_init_113 : decode cX9_init 113 = .ok (.dup, 1) := by decide +kernel
theorem dX9_init_114 : decode cX9_init 114 = .ok (.invokespecial 57, 3) := by decide +kernel
theorem dX9_init_117 : decode cX9_init 117 = .ok (.putfield 58, 3) := by decide +kernel
theorem dX9_init_120 : decode cX9_init 120 = .ok (.aload_n 0, 1) := by decide +kernel
theorem dX9_init_121 : decode cX9_init 121 = .ok (.bipush 6, 2) := by decide +kernel
theorem dX9_init_123 : decode cX9_init 123 = .ok (.newarray .int, 2) := by decide +kernel
theorem dX9_init_125 : decode cX9_init 125 = .ok (.putfield 62, 3) := by decide +kernel
theorem dX9_init_128 : decode cX9_init 128 = .ok (.aload_n 0, 1) := by decide +kernel
theorem dX9_init_129 : decode cX9_init 129 = .ok (.new 65, 3) := by decide +kernel
theorem dX9_init_132 : decode cX9_init 132 = .ok (.dup, 1) := by decide +kernel
theorem dX9_init_133 : decode cX9_init 133 = .ok (.invokespecial 67, 3) := by decide +kernel
theorem dX9_init_136 : decode cX9_init 136 = .ok (.putfield 68, 3) := by decide +kernel
theorem dX9_init_139 : decode cX9_init 139 = .ok (.aload_n 0, 1) := by decide +kernel
theorem dX9_init_140 : decode cX9_init 140 = .ok (.new 72, 3) := by decide +kernel
theorem dX9_init_143 : decode cX9_init 143 = .ok (.dup, 1) := by decide +kernel
theorem dX9_init_144 : decode cX9_init 144 = .ok (.invokespecial 74, 3) := by decide +kernel
theorem dX9_init_147 : decode cX9_init 147 = .ok (.putfield 75, 3) := by decide +kernel
theorem dX9_init_150 : decode cX9_init 150 = .ok (.aload_n 0, 1) := by decide +kernel
theorem dX9_init_151 : decode cX9_init 151 = .ok (.iconst 0, 1) := by decide +kernel
theorem dX9_init_152 : decode cX9_init 152 = .ok (.putfield 79, 3) := by decide +kernel
theorem dX9_init_155 : decode cX9_init 155 = .ok (.aload_n 0, 1) := by decide +kernel
theorem dX9_init_156 : decode cX9_init 156 = .ok (.iconst 0, 1) := by decide +kernel
theorem dX9_init_157 : decode cX9_init 157 = .ok (.putfield 83, 3) := by decide +kernel
theorem dX9_init_160 : decode cX9_init 160 = .ok (.aload_n 0, 1) := by decide +kernel
theorem dX9_init_161 : decode cX9_init 161 = .ok (.ldc 86, 2) := by decide +kernel
theorem dX9_init_163 : decode cX9_init 163 = .ok (.putfield 87, 3) := by decide +kernel
theorem dX9_init_166 : decode cX9_init 166 = .ok (.aload_n 0, 1) := by decide +kernel
theorem dX9_init_167 : decode cX9_init 167 = .ok (.iconst 0, 1) := by decide +kernel
theorem dX9_init_168 : decode cX9_init 168 = .ok (.putfield 90, 3) := by decide +kernel
theorem dX9_init_171 : decode cX9_init 171 = .ok (.return_, 1) := by decide +kernel
theorem dX9_profile_0 : decode cX9_profile 0 = .ok (.iload_n 1, 1) := by decide +kernel
theorem dX9_profile_1 : decode cX9_profile 1 = .ok (.iconst 0, 1) := by decide +kernel
theorem dX9_profile_2 : decode cX9_profile 2 = .ok (.iconst 2, 1) := by decide +kernel
theorem dX9_profile_3 : decode cX9_profile 3 = .ok (.invokestatic 93, 3) := by decide +kernel
theorem dX9_profile_6 : decode cX9_profile 6 = .ok (.ifCond .eq 13, 3) := by decide +kernel
theorem dX9_profile_9 : decode cX9_profile 9 = .ok (.iload_n 2, 1) := by decide +kernel
theorem dX9_profile_10 : decode cX9_profile 10 = .ok (.iconst 5, 1) := by decide +kernel
theorem dX9_profile_11 : decode cX9_profile 11 = .ok (.bipush 80, 2) := by decide +kernel
theorem dX9_profile_13 : decode cX9_profile 13 = .ok (.invokestatic 93, 3) := by decide +kernel
theorem dX9_profile_16 : decode cX9_profile 16 = .ok (.ifCond .ne 6, 3) := by decide +kernel
theorem dX9_profile_19 : decode cX9_profile 19 = .ok (.bipush (-2), 2) := by decide +kernel
theorem dX9_profile_21 : decode cX9_profile 21 = .ok (.ireturn, 1) := by decide +kernel
theorem dX9_profile_22 : decode cX9_profile 22 = .ok (.iload_n 3, 1) := by decide +kernel
theorem dX9_profile_23 : decode cX9_profile 23 = .ok (.iconst 0, 1) := by decide +kernel
theorem dX9_profile_24 : decode cX9_profile 24 = .ok (.iconst 3, 1) := by decide +kernel
theorem dX9_profile_25 : decode cX9_profile 25 = .ok (.invokestatic 93, 3) := by decide +kernel
theorem dX9_profile_28 : decode cX9_profile 28 = .ok (.ifCond .eq 16, 3) := by decide +kernel
theorem dX9_profile_31 : decode cX9_profile 31 = .ok (.iload 4, 2) := by decide +kernel
end
section
theorem dX9_profile_33 : decode cX9_profile 33 = .ok (.bipush 100, 2) := by decide +kernel
theorem dX9_profile_35 : decode cX9_profile 35 = .ok (.sipush 9999, 3) := by decide +kernel
theorem dX9_profile_38 : decode cX9_profile 38 = .ok (.invokestatic 93, 3) := by decide +kernel
theorem dX9_profile_41 : decode cX9_profile 41 = .ok (.ifCond .ne 6, 3) := by decide +kernel
theorem dX9_profile_44 : decode cX9_profile 44 = .ok (.bipush (-2), 2) := by decide +kernel
theorem dX9_profile_46 : decode cX9_profile 46 = .ok (.ireturn, 1) := by decide +kernel
theorem dX9_profile_47 : decode cX9_profile 47 = .ok (.aload_n 0, 1) := by decide +kernel
theorem dX9_profile_48 : decode cX9_profile 48 = .ok (.getfield 10, 3) := by decide +kernel
theorem dX9_profile_51 : decode cX9_profile 51 = .ok (.iload_n 1, 1) := by decide +kernel
theorem dX9_profile_52 : decode cX9_profile 52 = .ok (.iload_n 2, 1) := by decide +kernel
theorem dX9_profile_53 : decode cX9_profile 53 = .ok (.iload_n 3, 1) := by decide +kernel
theorem dX9_profile_54 : decode cX9_profile 54 = .ok (.iload 4, 2) := by decide +kernel
theorem dX9_profile_56 : decode cX9_profile 56 = .ok (.invokevirtual 97, 3) := by decide +kernel
theorem dX9_profile_59 : decode cX9_profile 59 = .ok (.ireturn, 1) := by decide +kernel
theorem dX9_die_0 : decode cX9_die 0 = .ok (.aload_n 0, 1) := by decide +kernel
theorem dX9_die_1 : decode cX9_die 1 = .ok (.getfield 10, 3) := by decide +kernel
theorem dX9_die_4 : decode cX9_die 4 = .ok (.iload_n 1, 1) := by decide +kernel
theorem dX9_die_5 : decode cX9_die 5 = .ok (.invokevirtual 101, 3) := by decide +kernel
theorem dX9_die_8 : decode cX9_die 8 = .ok (.ifCond .eq 13, 3) := by decide +kernel
theorem dX9_die_11 : decode cX9_die 11 = .ok (.iload_n 2, 1) := by decide +kernel
theorem dX9_die_12 : decode cX9_die 12 = .ok (.iconst 1, 1) := by decide +kernel
theorem dX9_die_13 : decode cX9_die 13 = .ok (.bipush 50, 2) := by decide +kernel
theorem dX9_die_15 : decode cX9_die 15 = .ok (.invokestatic 93, 3) := by decide +kernel
theorem dX9_die_18 : decode cX9_die 18 = .ok (.ifCond .ne 6, 3) := by decide +kernel
theorem dX9_die_21 : decode cX9_die 21 = .ok (.bipush (-2), 2) := by decide +kernel
theorem dX9_die_23 : decode cX9_die 23 = .ok (.ireturn, 1) := by decide +kernel
theorem dX9_die_24 : decode cX9_die 24 = .ok (.aload_n 0, 1) := by decide +kernel
theorem dX9_die_25 : decode cX9_die 25 = .ok (.getfield 26, 3) := by decide +kernel
theorem dX9_die_28 : decode cX9_die 28 = .ok (.iload_n 1, 1) := by decide +kernel
theorem dX9_die_29 : decode cX9_die 29 = .ok (.iload_n 2, 1) := by decide +kernel
theorem dX9_die_30 : decode cX9_die 30 = .ok (.invokevirtual 105, 3) := by decide +kernel
theorem dX9_die_33 : decode cX9_die 33 = .ok (.ireturn, 1) := by decide +kernel
theorem dX9_warm_0 : decode cX9_warm 0 = .ok (.aload_n 0, 1) := by decide +kernel
theorem dX9_warm_1 : decode cX9_warm 1 = .ok (.getfield 26, 3) := by decide +kernel
theorem dX9_warm_4 : decode cX9_warm 4 = .ok (.iload_n 1, 1) := by decide +kernel
theorem dX9_warm_5 : decode cX9_warm 5 = .ok (.invokevirtual 108, 3) := by decide +kernel
theorem dX9_warm_8 : decode cX9_warm 8 = .ok (.ifCond .ne 6, 3) := by decide +kernel
theorem dX9_warm_11 : decode cX9_warm 11 = .ok (.bipush (-2), 2) := by decide +kernel
theorem dX9_warm_13 : decode cX9_warm 13 = .ok (.ireturn, 1) := by decide +kernel
theorem dX9_warm_14 : decode cX9_warm 14 = .ok (.aload_n 0, 1) := by decide +kernel
theorem dX9_warm_15 : decode cX9_warm 15 = .ok (.getfield 26, 3) := by decide +kernel
theorem dX9_warm_18 : decode cX9_warm 18 = .ok (.iload_n 1, 1) := by decide +kernel
theorem dX9_warm_19 : decode cX9_warm 19 = .ok (.invokevirtual 109, 3) := by decide +kernel
theorem dX9_warm_22 : decode cX9_warm 22 = .ok (.ifCond .eq 6, 3) := by decide +kernel
theorem dX9_warm_25 : decode cX9_warm 25 = .ok (.bipush (-3), 2) := by decide +kernel
theorem dX9_warm_27 : decode cX9_warm 27 = .ok (.ireturn, 1) := by decide +kernel
theorem dX9_warm_28 : decode cX9_warm 28 = .ok (.aload_n 0, 1) := by decide +kernel
theorem dX9_warm_29 : decode cX9_warm 29 = .ok (.getfield 26, 3) := by decide +kernel
theorem dX9_warm_32 : decode cX9_warm 32 = .ok (.getfield 112, 3) := by decide +kernel
theorem dX9_warm_35 : decode cX9_warm 35 = .ok (.iload_n 1, 1) := by decide +kernel
theorem dX9_warm_36 : decode cX9_warm 36 = .ok (.aload_n 0, 1) := by decide +kernel
theorem dX9_warm_37 : decode cX9_warm 37 = .ok (.getfield 79, 3) := by decide +kernel
theorem dX9_warm_40 : decode cX9_warm 40 = .ok (.iastore, 1) := by decide +kernel
theorem dX9_warm_41 : decode cX9_warm 41 = .ok (.iconst 1, 1) := by decide +kernel
theorem dX9_warm_42 : decode cX9_warm 42 = .ok (.ireturn, 1) := by decide +kernel
theorem dX9_cool_0 : decode cX9_cool 0 = .ok (.aload_n 0, 1) := by decide +kernel
theorem dX9_cool_1 : decode cX9_cool 1 = .ok (.getfield 26, 3) := by decide +kernel
theorem dX9_cool_4 : decode cX9_cool 4 = .ok (.iload_n 1, 1) := by decide +kernel
theorem dX9_cool_5 : decode cX9_cool 5 = .ok (.invokevirtual 108, 3) := by decide +kernel
theorem dX9_cool_8 : decode cX9_cool 8 = .ok (.ifCond .ne 6, 3) := by decide +kernel
theorem dX9_cool_11 : decode cX9_cool 11 = .ok (.bipush (-2), 2) := by decide +kernel
theorem dX9_cool_13 : decode cX9_cool 13 = .ok (.ireturn, 1) := by decide +kernel
theorem dX9_cool_14 : decode cX9_cool 14 = .ok (.aload_n 0, 1) := by decide +kernel
theorem dX9_cool_15 : decode cX9_cool 15 = .ok (.getfield 26, 3) := by decide +kernel
theorem dX9_cool_18 : decode cX9_cool 18 = .ok (.iload_n 1, 1) := by decide +kernel
theorem dX9_cool_19 : decode cX9_cool 19 = .ok (.invokevirtual 109, 3) := by decide +kernel
theorem dX9_cool_22 : decode cX9_cool 22 = .ok (.ifCond .ne 6, 3) := by decide +kernel
theorem dX9_cool_25 : decode cX9_cool 25 = .ok (.bipush (-3), 2) := by decide +kernel
theorem dX9_cool_27 : decode cX9_cool 27 = .ok (.ireturn, 1) := by decide +kernel
theorem dX9_cool_28 : decode cX9_cool 28 = .ok (.aload_n 0, 1) := by decide +kernel
theorem dX9_cool_29 : decode cX9_cool 29 = .ok (.getfield 26, 3) := by decide +kernel
theorem dX9_cool_32 : decode cX9_cool 32 = .ok (.iload_n 1, 1) := by decide +kernel
theorem dX9_cool_33 : decode cX9_cool 33 = .ok (.aload_n 0, 1) := by decide +kernel
theorem dX9_cool_34 : decode cX9_cool 34 = .ok (.getfield 79, 3) := by decide +kernel
theorem dX9_cool_37 : decode cX9_cool 37 = .ok (.invokevirtual 115, 3) := by decide +kernel
theorem dX9_cool_40 : decode cX9_cool 40 = .ok (.istore_n 2, 1) := by decide +kernel
theorem dX9_cool_41 : decode cX9_cool 41 = .ok (.aload_n 0, 1) := by decide +kernel
theorem dX9_cool_42 : decode cX9_cool 42 = .ok (.getfield 26, 3) := by decide +kernel
theorem dX9_cool_45 : decode cX9_cool 45 = .ok (.getfield 112, 3) := by decide +kernel
theorem dX9_cool_48 : decode cX9_cool 48 = .ok (.iload_n 1, 1) := by decide +kernel
theorem dX9_cool_49 : decode cX9_cool 49 = .ok (.iconst (-1), 1) := by decide +kernel
theorem dX9_cool_50 : decode cX9_cool 50 = .ok (.iastore, 1) := by decide +kernel
theorem dX9_cool_51 : decode cX9_cool 51 = .ok (.iload_n 2, 1) := by decide +kernel
theorem dX9_cool_52 : decode cX9_cool 52 = .ok (.ireturn, 1) := by decide +kernel
theorem dX9_nitride_0 : decode cX9_nitride 0 = .ok (.aload_n 0, 1) := by decide +kernel
theorem dX9_nitride_1 : decode cX9_nitride 1 = .ok (.getfield 26, 3) := by decide +kernel
theorem dX9_nitride_4 : decode cX9_nitride 4 = .ok (.iload_n 1, 1) := by decide +kernel
theorem dX9_nitride_5 : decode cX9_nitride 5 = .ok (.invokevirtual 108, 3) := by decide +kernel
theorem dX9_nitride_8 : decode cX9_nitride 8 = .ok (.ifCond .ne 6, 3) := by decide +kernel
theorem dX9_nitride_11 : decode cX9_nitride 11 = .ok (.bipush (-2), 2) := by decide +kernel
theorem dX9_nitride_13 : decode cX9_nitride 13 = .ok (.ireturn, 1) := by decide +kernel
theorem dX9_nitride_14 : decode cX9_nitride 14 = .ok (.aload_n 0, 1) := by decide +kernel
theorem dX9_nitride_15 : decode cX9_nitride 15 = .ok (.getfield 26, 3) := by decide +kernel
theorem dX9_nitride_18 : decode cX9_nitride 18 = .ok (.iload_n 1, 1) := by decide +kernel
theorem dX9_nitride_19 : decode cX9_nitride 19 = .ok (.invokevirtual 109, 3) := by decide +kernel
theorem dX9_nitride_22 : decode cX9_nitride 22 = .ok (.ifCond .eq 6, 3) := by decide +kernel
theorem dX9_nitride_25 : decode cX9_nitride 25 = .ok (.bipush (-3), 2) := by decide +kernel
theorem dX9_nitride_27 : decode cX9_nitride 27 = .ok (.ireturn, 1) := by decide +kernel
theorem dX9_nitride_28 : decode cX9_nitride 28 = .ok (.aload_n 0, 1) := by decide +kernel
theorem dX9_nitride_29 : decode cX9_nitride 29 = .ok (.getfield 26, 3) := by decide +kernel
theorem dX9_nitride_32 : decode cX9_nitride 32 = .ok (.getfield 118, 3) := by decide +kernel
theorem dX9_nitride_35 : decode cX9_nitride 35 = .ok (.iload_n 1, 1) := by decide +kernel
theorem dX9_nitride_36 : decode cX9_nitride 36 = .ok (.iaload, 1) := by decide +kernel
theorem dX9_nitride_37 : decode cX9_nitride 37 = .ok (.istore_n 2, 1) := by decide +kernel
theorem dX9_nitride_38 : decode cX9_nitride 38 = .ok (.aload_n 0, 1) := by decide +kernel
theorem dX9_nitride_39 : decode cX9_nitride 39 = .ok (.getfield 26, 3) := by decide +kernel
theorem dX9_nitride_42 : decode cX9_nitride 42 = .ok (.getfield 118, 3) := by decide +kernel
theorem dX9_nitride_45 : decode cX9_nitride 45 = .ok (.iload_n 1, 1) := by decide +kernel
theorem dX9_nitride_46 : decode cX9_nitride 46 = .ok (.iconst 0, 1) := by decide +kernel
theorem dX9_nitride_47 : decode cX9_nitride 47 = .ok (.iastore, 1) := by decide +kernel
theorem dX9_nitride_48 : decode cX9_nitride 48 = .ok (.iload_n 2, 1) := by decide +kernel
theorem dX9_nitride_49 : decode cX9_nitride 49 = .ok (.ireturn, 1) := by decide +kernel
theorem dX9_about_0 : decode cX9_about 0 = .ok (.aload_n 0, 1) := by decide +kernel
theorem dX9_about_1 : decode cX9_about 1 = .ok (.getfield 26, 3) := by decide +kernel
theorem dX9_about_4 : decode cX9_about 4 = .ok (.iload_n 1, 1) := by decide +kernel
theorem dX9_about_5 : decode cX9_about 5 = .ok (.invokevirtual 108, 3) := by decide +kernel
theorem dX9_about_8 : decode cX9_about 8 = .ok (.ifCond .ne 6, 3) := by decide +kernel
theorem dX9_about_11 : decode cX9_about 11 = .ok (.bipush (-2), 2) := by decide +kernel
theorem dX9_about_13 : decode cX9_about 13 = .ok (.ireturn, 1) := by decide +kernel
theorem dX9_about_14 : decode cX9_about 14 = .ok (.iload_n 2, 1) := by decide +kernel
theorem dX9_about_15 : decode cX9_about 15 = .ok (.tableswitch 111 0 5 #[37, 47, 57, 67, 80, 101], 37) := by decide +kernel
theorem dX9_about_52 : decode cX9_about 52 = .ok (.aload_n 0, 1) := by decide +kernel
theorem dX9_about_53 : decode cX9_about 53 = .ok (.getfield 26, 3) := by decide +kernel
theorem dX9_about_56 : decode cX9_about 56 = .ok (.getfield 121, 3) := by decide +kernel
theorem dX9_about_59 : decode cX9_about 59 = .ok (.iload_n 1, 1) := by decide +kernel
theorem dX9_about_60 : decode cX9_about 60 = .ok (.iaload, 1) := by decide +kernel
theorem dX9_about_61 : decode cX9_about 61 = .ok (.ireturn, 1) := by decide +kernel
theorem dX9_about_62 : decode cX9_about 62 = .ok (.aload_n 0, 1) := by decide +kernel
theorem dX9_about_63 : decode cX9_about 63 = .ok (.getfield 26, 3) := by decide +kernel
theorem dX9_about_66 : decode cX9_about 66 = .ok (.getfield 124, 3) := by decide +kernel
theorem dX9_about_69 : decode cX9_about 69 = .ok (.iload_n 1, 1) := by decide +kernel
theorem dX9_about_70 : decode cX9_about 70 = .ok (.iaload, 1) := by decide +kernel
theorem dX9_about_71 : decode cX9_about 71 = .ok (.ireturn, 1) := by decide +kernel
theorem dX9_about_72 : decode cX9_about 72 = .ok (.aload_n 0, 1) := by decide +kernel
theorem dX9_about_73 : decode cX9_about 73 = .ok (.getfield 26, 3) := by decide +kernel
theorem dX9_about_76 : decode cX9_about 76 = .ok (.getfield 118, 3) := by decide +kernel
theorem dX9_about_79 : decode cX9_about 79 = .ok (.iload_n 1, 1) := by decide +kernel
theorem dX9_about_80 : decode cX9_about 80 = .ok (.iaload, 1) := by decide +kernel
theorem dX9_about_81 : decode cX9_about 81 = .ok (.ireturn, 1) := by decide +kernel
theorem dX9_about_82 : decode cX9_about 82 = .ok (.aload_n 0, 1) := by decide +kernel
theorem dX9_about_83 : decode cX9_about 83 = .ok (.getfield 26, 3) := by decide +kernel
theorem dX9_about_86 : decode cX9_about 86 = .ok (.iload_n 1, 1) := by decide +kernel
theorem dX9_about_87 : decode cX9_about 87 = .ok (.aload_n 0, 1) := by decide +kernel
theorem dX9_about_88 : decode cX9_about 88 = .ok (.getfield 79, 3) := by decide +kernel
theorem dX9_about_91 : decode cX9_about 91 = .ok (.invokevirtual 115, 3) := by decide +kernel
theorem dX9_about_94 : decode cX9_about 94 = .ok (.ireturn, 1) := by decide +kernel
theorem dX9_about_95 : decode cX9_about 95 = .ok (.aload_n 0, 1) := by decide +kernel
theorem dX9_about_96 : decode cX9_about 96 = .ok (.getfield 26, 3) := by decide +kernel
theorem dX9_about_99 : decode cX9_about 99 = .ok (.iload_n 1, 1) := by decide +kernel
theorem dX9_about_100 : decode cX9_about 100 = .ok (.aload_n 0, 1) := by decide +kernel
theorem dX9_about_101 : decode cX9_about 101 = .ok (.getfield 79, 3) := by decide +kernel
theorem dX9_about_104 : decode cX9_about 104 = .ok (.invokevirtual 127, 3) := by decide +kernel
theorem dX9_about_107 : decode cX9_about 107 = .ok (.ifCond .eq 7, 3) := by decide +kernel
theorem dX9_about_110 : decode cX9_about 110 = .ok (.iconst 1, 1) := by decide +kernel
theorem dX9_about_111 : decode cX9_about 111 = .ok (.goto 4, 3) := by decide +kernel
theorem dX9_about_114 : decode cX9_about 114 = .ok (.iconst 0, 1) := by decide +kernel
theorem dX9_about_115 : decode cX9_about 115 = .ok (.ireturn, 1) := by decide +kernel
theorem dX9_about_116 : decode cX9_about 116 = .ok (.aload_n 0, 1) := by decide +kernel
theorem dX9_about_117 : decode cX9_about 117 = .ok (.getfield 26, 3) := by decide +kernel
theorem dX9_about_120 : decode cX9_about 120 = .ok (.getfield 131, 3) := by decide +kernel
theorem dX9_about_123 : decode cX9_about 123 = .ok (.iload_n 1, 1) := by decide +kernel
theorem dX9_about_124 : decode cX9_about 124 = .ok (.iaload, 1) := by decide +kernel
theorem dX9_about_125 : decode cX9_about 125 = .ok (.ireturn, 1) := by decide +kernel
theorem dX9_about_126 : decode cX9_about 126 = .ok (.bipush (-2), 2) := by decide +kernel
theorem dX9_about_128 : decode cX9_about 128 = .ok (.ireturn, 1) := by decide +kernel
theorem dX9_ready_0 : decode cX9_ready 0 = .ok (.aload_n 0, 1) := by decide +kernel
theorem dX9_ready_1 : decode cX9_ready 1 = .ok (.getfield 10, 3) := by decide +kernel
theorem dX9_ready_4 : decode cX9_ready 4 = .ok (.iload_n 1, 1) := by decide +kernel
theorem dX9_ready_5 : decode cX9_ready 5 = .ok (.invokevirtual 101, 3) := by decide +kernel
theorem dX9_ready_8 : decode cX9_ready 8 = .ok (.ifCond .ne 6, 3) := by decide +kernel
theorem dX9_ready_11 : decode cX9_ready 11 = .ok (.bipush (-2), 2) := by decide +kernel
theorem dX9_ready_13 : decode cX9_ready 13 = .ok (.ireturn, 1) := by decide +kernel
theorem dX9_ready_14 : decode cX9_ready 14 = .ok (.aload_n 0, 1) := by decide +kernel
theorem dX9_ready_15 : decode cX9_ready 15 = .ok (.getfield 26, 3) := by decide +kernel
theorem dX9_ready_18 : decode cX9_ready 18 = .ok (.iload_n 1, 1) := by decide +kernel
theorem dX9_ready_19 : decode cX9_ready 19 = .ok (.aload_n 0, 1) := by decide +kernel
theorem dX9_ready_20 : decode cX9_ready 20 = .ok (.getfield 79, 3) := by decide +kernel
theorem dX9_ready_23 : decode cX9_ready 23 = .ok (.invokevirtual 134, 3) := by decide +kernel
theorem dX9_ready_26 : decode cX9_ready 26 = .ok (.ireturn, 1) := by decide +kernel
theorem dX9_pass_0 : decode cX9_pass 0 = .ok (.iload_n 1, 1) := by decide +kernel
theorem dX9_pass_1 : decode cX9_pass 1 = .ok (.iconst 1, 1) := by decide +kernel
theorem dX9_pass_2 : decode cX9_pass 2 = .ok (.bipush 100, 2) := by decide +kernel
theorem dX9_pass_4 : decode cX9_pass 4 = .ok (.invokestatic 93, 3) := by decide +kernel
theorem dX9_pass_7 : decode cX9_pass 7 = .ok (.ifCond .ne 6, 3) := by decide +kernel
theorem dX9_pass_10 : decode cX9_pass 10 = .ok (.bipush (-2), 2) := by decide +kernel
theorem dX9_pass_12 : decode cX9_pass 12 = .ok (.ireturn, 1) := by decide +kernel
theorem dX9_pass_13 : decode cX9_pass 13 = .ok (.aload_n 0, 1) := by decide +kernel
theorem dX9_pass_14 : decode cX9_pass 14 = .ok (.dup, 1) := by decide +kernel
theorem dX9_pass_15 : decode cX9_pass 15 = .ok (.getfield 79, 3) := by decide +kernel
theorem dX9_pass_18 : decode cX9_pass 18 = .ok (.iload_n 1, 1) := by decide +kernel
theorem dX9_pass_19 : decode cX9_pass 19 = .ok (.iadd, 1) := by decide +kernel
theorem dX9_pass_20 : decode cX9_pass 20 = .ok (.putfield 79, 3) := by decide +kernel
theorem dX9_pass_23 : decode cX9_pass 23 = .ok (.aload_n 0, 1) := by decide +kernel
theorem dX9_pass_24 : decode cX9_pass 24 = .ok (.getfield 79, 3) := by decide +kernel
theorem dX9_pass_27 : decode cX9_pass 27 = .ok (.ireturn, 1) := by decide +kernel
theorem dX9_law_0 : decode cX9_law 0 = .ok (.iload_n 1, 1) := by decide +kernel
theorem dX9_law_1 : decode cX9_law 1 = .ok (.iconst 0, 1) := by decide +kernel
theorem dX9_law_2 : decode cX9_law 2 = .ok (.getstatic 137, 3) := by decide +kernel
theorem dX9_law_5 : decode cX9_law 5 = .ok (.arraylength, 1) := by decide +kernel
theorem dX9_law_6 : decode cX9_law 6 = .ok (.iconst 1, 1) := by decide +kernel
theorem dX9_law_7 : decode cX9_law 7 = .ok (.isub, 1) := by decide +kernel
theorem dX9_law_8 : decode cX9_law 8 = .ok (.invokestatic 93, 3) := by decide +kernel
theorem dX9_law_11 : decode cX9_law 11 = .ok (.ifCond .eq 16, 3) := by decide +kernel
theorem dX9_law_14 : decode cX9_law 14 = .ok (.iload_n 2, 1) := by decide +kernel
theorem dX9_law_15 : decode cX9_law 15 = .ok (.iconst 0, 1) := by decide +kernel
theorem dX9_law_16 : decode cX9_law 16 = .ok (.getstatic 137, 3) := by decide +kernel
theorem dX9_law_19 : decode cX9_law 19 = .ok (.iload_n 1, 1) := by decide +kernel
theorem dX9_law_20 : decode cX9_law 20 = .ok (.iaload, 1) := by decide +kernel
theorem dX9_law_21 : decode cX9_law 21 = .ok (.invokestatic 93, 3) := by decide +kernel
theorem dX9_law_24 : decode cX9_law 24 = .ok (.ifCond .ne 6, 3) := by decide +kernel
theorem dX9_law_27 : decode cX9_law 27 = .ok (.bipush (-2), 2) := by decide +kernel
theorem dX9_law_29 : decode cX9_law 29 = .ok (.ireturn, 1) := by decide +kernel
theorem dX9_law_30 : decode cX9_law 30 = .ok (.aload_n 0, 1) := by decide +kernel
theorem dX9_law_31 : decode cX9_law 31 = .ok (.getfield 30, 3) := by decide +kernel
theorem dX9_law_34 : decode cX9_law 34 = .ok (.iload_n 1, 1) := by decide +kernel
theorem dX9_law_35 : decode cX9_law 35 = .ok (.iaload, 1) := by decide +kernel
theorem dX9_law_36 : decode cX9_law 36 = .ok (.istore_n 3, 1) := by decide +kernel
theorem dX9_law_37 : decode cX9_law 37 = .ok (.aload_n 0, 1) := by decide +kernel
theorem dX9_law_38 : decode cX9_law 38 = .ok (.getfield 30, 3) := by decide +kernel
theorem dX9_law_41 : decode cX9_law 41 = .ok (.iload_n 1, 1) := by decide +kernel
theorem dX9_law_42 : decode cX9_law 42 = .ok (.iload_n 2, 1) := by decide +kernel
theorem dX9_law_43 : decode cX9_law 43 = .ok (.iastore, 1) := by decide +kernel
theorem dX9_law_44 : decode cX9_law 44 = .ok (.iload_n 3, 1) := by decide +kernel
theorem dX9_law_45 : decode cX9_law 45 = .ok (.ireturn, 1) := by decide +kernel
theorem dX9_press_0 : decode cX9_press 0 = .ok (.aload_n 0, 1) := by decide +kernel
theorem dX9_press_1 : decode cX9_press 1 = .ok (.getfield 26, 3) := by decide +kernel
theorem dX9_press_4 : decode cX9_press 4 = .ok (.iload_n 1, 1) := by decide +kernel
theorem dX9_press_5 : decode cX9_press 5 = .ok (.invokevirtual 108, 3) := by decide +kernel
theorem dX9_press_8 : decode cX9_press 8 = .ok (.ifCond .eq 16, 3) := by decide +kernel
theorem dX9_press_11 : decode cX9_press 11 = .ok (.iload_n 2, 1) := by decide +kernel
theorem dX9_press_12 : decode cX9_press 12 = .ok (.sipush 200, 3) := by decide +kernel
theorem dX9_press_15 : decode cX9_press 15 = .ok (.sipush 1200, 3) := by decide +kernel
theorem dX9_press_18 : decode cX9_press 18 = .ok (.invokestatic 93, 3) := by decide +kernel
theorem dX9_press_21 : decode cX9_press 21 = .ok (.ifCond .ne 6, 3) := by decide +kernel
theorem dX9_press_24 : decode cX9_press 24 = .ok (.bipush (-2), 2) := by decide +kernel
theorem dX9_press_26 : decode cX9_press 26 = .ok (.ireturn, 1) := by decide +kernel
theorem dX9_press_27 : decode cX9_press 27 = .ok (.aload_n 0, 1) := by decide +kernel
theorem dX9_press_28 : decode cX9_press 28 = .ok (.getfield 26, 3) := by decide +kernel
theorem dX9_press_31 : decode cX9_press 31 = .ok (.iload_n 1, 1) := by decide +kernel
theorem dX9_press_32 : decode cX9_press 32 = .ok (.aload_n 0, 1) := by decide +kernel
theorem dX9_press_33 : decode cX9_press 33 = .ok (.getfield 79, 3) := by decide +kernel
theorem dX9_press_36 : decode cX9_press 36 = .ok (.invokevirtual 127, 3) := by decide +kernel
theorem dX9_press_39 : decode cX9_press 39 = .ok (.ifCond .ne 6, 3) := by decide +kernel
theorem dX9_press_42 : decode cX9_press 42 = .ok (.bipush (-3), 2) := by decide +kernel
theorem dX9_press_44 : decode cX9_press 44 = .ok (.ireturn, 1) := by decide +kernel
theorem dX9_press_45 : decode cX9_press 45 = .ok (.aload_n 0, 1) := by decide +kernel
theorem dX9_press_46 : decode cX9_press 46 = .ok (.getfield 51, 3) := by decide +kernel
theorem dX9_press_49 : decode cX9_press 49 = .ok (.getfield 140, 3) := by decide +kernel
theorem dX9_press_52 : decode cX9_press 52 = .ok (.sipush 200, 3) := by decide +kernel
theorem dX9_press_55 : decode cX9_press 55 = .ok (.if_icmp .lt 6, 3) := by decide +kernel
theorem dX9_press_58 : decode cX9_press 58 = .ok (.bipush (-4), 2) := by decide +kernel
theorem dX9_press_60 : decode cX9_press 60 = .ok (.ireturn, 1) := by decide +kernel
theorem dX9_press_61 : decode cX9_press 61 = .ok (.aload_n 0, 1) := by decide +kernel
theorem dX9_press_62 : decode cX9_press 62 = .ok (.getfield 26, 3) := by decide +kernel
theorem dX9_press_65 : decode cX9_press 65 = .ok (.getfield 121, 3) := by decide +kernel
theorem dX9_press_68 : decode cX9_press 68 = .ok (.iload_n 1, 1) := by decide +kernel
theorem dX9_press_69 : decode cX9_press 69 = .ok (.iaload, 1) := by decide +kernel
theorem dX9_press_70 : decode cX9_press 70 = .ok (.istore_n 3, 1) := by decide +kernel
theorem dX9_press_71 : decode cX9_press 71 = .ok (.aload_n 0, 1) := by decide +kernel
theorem dX9_press_72 : decode cX9_press 72 = .ok (.iload_n 3, 1) := by decide +kernel
theorem dX9_press_73 : decode cX9_press 73 = .ok (.iload_n 2, 1) := by decide +kernel
theorem dX9_press_74 : decode cX9_press 74 = .ok (.aload_n 0, 1) := by decide +kernel
theorem dX9_press_75 : decode cX9_press 75 = .ok (.getfield 51, 3) := by decide +kernel
theorem dX9_press_78 : decode cX9_press 78 = .ok (.iload_n 1, 1) := by decide +kernel
theorem dX9_press_79 : decode cX9_press 79 = .ok (.aload_n 0, 1) := by decide +kernel
theorem dX9_press_80 : decode cX9_press 80 = .ok (.getfield 79, 3) := by decide +kernel
theorem dX9_press_83 : decode cX9_press 83 = .ok (.iconst 1, 1) := by decide +kernel
theorem dX9_press_84 : decode cX9_press 84 = .ok (.isub, 1) := by decide +kernel
theorem dX9_press_85 : decode cX9_press 85 = .ok (.invokevirtual 143, 3) := by decide +kernel
theorem dX9_press_88 : decode cX9_press 88 = .ok (.invokevirtual 146, 3) := by decide +kernel
theorem dX9_press_91 : decode cX9_press 91 = .ok (.aload_n 0, 1) := by decide +kernel
theorem dX9_press_92 : decode cX9_press 92 = .ok (.getfield 51, 3) := by decide +kernel
theorem dX9_press_95 : decode cX9_press 95 = .ok (.iload_n 1, 1) := by decide +kernel
theorem dX9_press_96 : decode cX9_press 96 = .ok (.aload_n 0, 1) := by decide +kernel
theorem dX9_press_97 : decode cX9_press 97 = .ok (.getfield 37, 3) := by decide +kernel
theorem dX9_press_100 : decode cX9_press 100 = .ok (.aload_n 0, 1) := by decide +kernel
theorem dX9_press_101 : decode cX9_press 101 = .ok (.getfield 10, 3) := by decide +kernel
theorem dX9_press_104 : decode cX9_press 104 = .ok (.getfield 150, 3) := by decide +kernel
theorem dX9_press_107 : decode cX9_press 107 = .ok (.iload_n 3, 1) := by decide +kernel
theorem dX9_press_108 : decode cX9_press 108 = .ok (.iaload, 1) := by decide +kernel
theorem dX9_press_109 : decode cX9_press 109 = .ok (.aload_n 0, 1) := by decide +kernel
theorem dX9_press_110 : decode cX9_press 110 = .ok (.getfield 10, 3) := by decide +kernel
theorem dX9_press_113 : decode cX9_press 113 = .ok (.getfield 153, 3) := by decide +kernel
theorem dX9_press_116 : decode cX9_press 116 = .ok (.iload_n 3, 1) := by decide +kernel
theorem dX9_press_117 : decode cX9_press 117 = .ok (.iaload, 1) := by decide +kernel
theorem dX9_press_118 : decode cX9_press 118 = .ok (.aload_n 0, 1) := by decide +kernel
theorem dX9_press_119 : decode cX9_press 119 = .ok (.getfield 79, 3) := by decide +kernel
theorem dX9_press_122 : decode cX9_press 122 = .ok (.invokevirtual 156, 3) := by decide +kernel
theorem dX9_press_125 : decode cX9_press 125 = .ok (.aload_n 0, 1) := by decide +kernel
theorem dX9_press_126 : decode cX9_press 126 = .ok (.getfield 58, 3) := by decide +kernel
theorem dX9_press_129 : decode cX9_press 129 = .ok (.aload_n 0, 1) := by decide +kernel
theorem dX9_press_130 : decode cX9_press 130 = .ok (.getfield 37, 3) := by decide +kernel
theorem dX9_press_133 : decode cX9_press 133 = .ok (.invokevirtual 159, 3) := by decide +kernel
theorem dX9_press_136 : decode cX9_press 136 = .ok (.aload_n 0, 1) := by decide +kernel
theorem dX9_press_137 : decode cX9_press 137 = .ok (.getfield 19, 3) := by decide +kernel
theorem dX9_press_140 : decode cX9_press 140 = .ok (.iload_n 3, 1) := by decide +kernel
theorem dX9_press_141 : decode cX9_press 141 = .ok (.aload_n 0, 1) := by decide +kernel
theorem dX9_press_142 : decode cX9_press 142 = .ok (.getfield 44, 3) := by decide +kernel
theorem dX9_press_145 : decode cX9_press 145 = .ok (.getfield 163, 3) := by decide +kernel
theorem dX9_press_148 : decode cX9_press 148 = .ok (.invokevirtual 166, 3) := by decide +kernel
theorem dX9_press_151 : decode cX9_press 151 = .ok (.aload_n 0, 1) := by decide +kernel
theorem dX9_press_152 : decode cX9_press 152 = .ok (.getfield 26, 3) := by decide +kernel
theorem dX9_press_155 : decode cX9_press 155 = .ok (.iload_n 1, 1) := by decide +kernel
theorem dX9_press_156 : decode cX9_press 156 = .ok (.invokevirtual 170, 3) := by decide +kernel
theorem dX9_press_159 : decode cX9_press 159 = .ok (.aload_n 0, 1) := by decide +kernel
theorem dX9_press_160 : decode cX9_press 160 = .ok (.dup, 1) := by decide +kernel
theorem dX9_press_161 : decode cX9_press 161 = .ok (.getfield 79, 3) := by decide +kernel
theorem dX9_press_164 : decode cX9_press 164 = .ok (.iconst 1, 1) := by decide +kernel
theorem dX9_press_165 : decode cX9_press 165 = .ok (.iadd, 1) := by decide +kernel
theorem dX9_press_166 : decode cX9_press 166 = .ok (.putfield 79, 3) := by decide +kernel
theorem dX9_press_169 : decode cX9_press 169 = .ok (.aload_n 0, 1) := by decide +kernel
theorem dX9_press_170 : decode cX9_press 170 = .ok (.getfield 37, 3) := by decide +kernel
theorem dX9_press_173 : decode cX9_press 173 = .ok (.getfield 174, 3) := by decide +kernel
theorem dX9_press_176 : decode cX9_press 176 = .ok (.ireturn, 1) := by decide +kernel
theorem dX9_bar_0 : decode cX9_bar 0 = .ok (.aload_n 0, 1) := by decide +kernel
theorem dX9_bar_1 : decode cX9_bar 1 = .ok (.getfield 51, 3) := by decide +kernel
theorem dX9_bar_4 : decode cX9_bar 4 = .ok (.iload_n 1, 1) := by decide +kernel
theorem dX9_bar_5 : decode cX9_bar 5 = .ok (.invokevirtual 177, 3) := by decide +kernel
theorem dX9_bar_8 : decode cX9_bar 8 = .ok (.ifCond .ne 6, 3) := by decide +kernel
theorem dX9_bar_11 : decode cX9_bar 11 = .ok (.bipush (-2), 2) := by decide +kernel
theorem dX9_bar_13 : decode cX9_bar 13 = .ok (.ireturn, 1) := by decide +kernel
theorem dX9_bar_14 : decode cX9_bar 14 = .ok (.iload_n 2, 1) := by decide +kernel
theorem dX9_bar_15 : decode cX9_bar 15 = .ok (.tableswitch 111 0 6 #[41, 51, 61, 71, 81, 91, 101], 41) := by decide +kernel
theorem dX9_bar_56 : decode cX9_bar 56 = .ok (.aload_n 0, 1) := by decide +kernel
theorem dX9_bar_57 : decode cX9_bar 57 = .ok (.getfield 51, 3) := by decide +kernel
theorem dX9_bar_60 : decode cX9_bar 60 = .ok (.getfield 178, 3) := by decide +kernel
theorem dX9_bar_63 : decode cX9_bar 63 = .ok (.iload_n 1, 1) := by decide +kernel
theorem dX9_bar_64 : decode cX9_bar 64 = .ok (.iaload, 1) := by decide +kernel
theorem dX9_bar_65 : decode cX9_bar 65 = .ok (.ireturn, 1) := by decide +kernel
theorem dX9_bar_66 : decode cX9_bar 66 = .ok (.aload_n 0, 1) := by decide +kernel
theorem dX9_bar_67 : decode cX9_bar 67 = .ok (.getfield 51, 3) := by decide +kernel
theorem dX9_bar_70 : decode cX9_bar 70 = .ok (.getfield 181, 3) := by decide +kernel
theorem dX9_bar_73 : decode cX9_bar 73 = .ok (.iload_n 1, 1) := by decide +kernel
theorem dX9_bar_74 : decode cX9_bar 74 = .ok (.iaload, 1) := by decide +kernel
theorem dX9_bar_75 : decode cX9_bar 75 = .ok (.ireturn, 1) := by decide +kernel
theorem dX9_bar_76 : decode cX9_bar 76 = .ok (.aload_n 0, 1) := by decide +kernel
theorem dX9_bar_77 : decode cX9_bar 77 = .ok (.getfield 51, 3) := by decide +kernel
theorem dX9_bar_80 : decode cX9_bar 80 = .ok (.getfield 184, 3) := by decide +kernel
theorem dX9_bar_83 : decode cX9_bar 83 = .ok (.iload_n 1, 1) := by decide +kernel
theorem dX9_bar_84 : decode cX9_bar 84 = .ok (.iaload, 1) := by decide +kernel
theorem dX9_bar_85 : decode cX9_bar 85 = .ok (.ireturn, 1) := by decide +kernel
theorem dX9_bar_86 : decode cX9_bar 86 = .ok (.aload_n 0, 1) := by decide +kernel
theorem dX9_bar_87 : decode cX9_bar 87 = .ok (.getfield 51, 3) := by decide +kernel
theorem dX9_bar_90 : decode cX9_bar 90 = .ok (.getfield 187, 3) := by decide +kernel
theorem dX9_bar_93 : decode cX9_bar 93 = .ok (.iload_n 1, 1) := by decide +kernel
theorem dX9_bar_94 : decode cX9_bar 94 = .ok (.iaload, 1) := by decide +kernel
theorem dX9_bar_95 : decode cX9_bar 95 = .ok (.ireturn, 1) := by decide +kernel
theorem dX9_bar_96 : decode cX9_bar 96 = .ok (.aload_n 0, 1) := by decide +kernel
theorem dX9_bar_97 : decode cX9_bar 97 = .ok (.getfield 51, 3) := by decide +kernel
theorem dX9_bar_100 : decode cX9_bar 100 = .ok (.getfield 189, 3) := by decide +kernel
theorem dX9_bar_103 : decode cX9_bar 103 = .ok (.iload_n 1, 1) := by decide +kernel
theorem dX9_bar_104 : decode cX9_bar 104 = .ok (.iaload, 1) := by decide +kernel
theorem dX9_bar_105 : decode cX9_bar 105 = .ok (.ireturn, 1) := by decide +kernel
theorem dX9_bar_106 : decode cX9_bar 106 = .ok (.aload_n 0, 1) := by decide +kernel
theorem dX9_bar_107 : decode cX9_bar 107 = .ok (.getfield 51, 3) := by decide +kernel
theorem dX9_bar_110 : decode cX9_bar 110 = .ok (.getfield 192, 3) := by decide +kernel
theorem dX9_bar_113 : decode cX9_bar 113 = .ok (.iload_n 1, 1) := by decide +kernel
theorem dX9_bar_114 : decode cX9_bar 114 = .ok (.iaload, 1) := by decide +kernel
theorem dX9_bar_115 : decode cX9_bar 115 = .ok (.ireturn, 1) := by decide +kernel
theorem dX9_bar_116 : decode cX9_bar 116 = .ok (.aload_n 0, 1) := by decide +kernel
theorem dX9_bar_117 : decode cX9_bar 117 = .ok (.getfield 51, 3) := by decide +kernel
theorem dX9_bar_120 : decode cX9_bar 120 = .ok (.getfield 195, 3) := by decide +kernel
theorem dX9_bar_123 : decode cX9_bar 123 = .ok (.iload_n 1, 1) := by decide +kernel
theorem dX9_bar_124 : decode cX9_bar 124 = .ok (.iaload, 1) := by decide +kernel
theorem dX9_bar_125 : decode cX9_bar 125 = .ok (.ireturn, 1) := by decide +kernel
theorem dX9_bar_126 : decode cX9_bar 126 = .ok (.bipush (-2), 2) := by decide +kernel
theorem dX9_bar_128 : decode cX9_bar 128 = .ok (.ireturn, 1) := by decide +kernel
theorem dX9_order_0 : decode cX9_order 0 = .ok (.aload_n 0, 1) := by decide +kernel
theorem dX9_order_1 : decode cX9_order 1 = .ok (.getfield 10, 3) := by decide +kernel
theorem dX9_order_4 : decode cX9_order 4 = .ok (.iload_n 1, 1) := by decide +kernel
theorem dX9_order_5 : decode cX9_order 5 = .ok (.invokevirtual 101, 3) := by decide +kernel
theorem dX9_order_8 : decode cX9_order 8 = .ok (.ifCond .eq 26, 3) := by decide +kernel
theorem dX9_order_11 : decode cX9_order 11 = .ok (.iload_n 2, 1) := by decide +kernel
theorem dX9_order_12 : decode cX9_order 12 = .ok (.bipush 100, 2) := by decide +kernel
theorem dX9_order_14 : decode cX9_order 14 = .ok (.sipush 9000, 3) := by decide +kernel
theorem dX9_order_17 : decode cX9_order 17 = .ok (.invokestatic 93, 3) := by decide +kernel
theorem dX9_order_20 : decode cX9_order 20 = .ok (.ifCond .eq 14, 3) := by decide +kernel
theorem dX9_order_23 : decode cX9_order 23 = .ok (.iload_n 3, 1) := by decide +kernel
theorem dX9_order_24 : decode cX9_order 24 = .ok (.iconst 0, 1) := by decide +kernel
theorem dX9_order_25 : decode cX9_order 25 = .ok (.sipush 500, 3) := by decide +kernel
theorem dX9_order_28 : decode cX9_order 28 = .ok (.invokestatic 93, 3) := by decide +kernel
theorem dX9_order_31 : decode cX9_order 31 = .ok (.ifCond .ne 6, 3) := by decide +kernel
theorem dX9_order_34 : decode cX9_order 34 = .ok (.bipush (-2), 2) := by decide +kernel
theorem dX9_order_36 : decode cX9_order 36 = .ok (.ireturn, 1) := by decide +kernel
theorem dX9_order_37 : decode cX9_order 37 = .ok (.aload_n 0, 1) := by decide +kernel
theorem dX9_order_38 : decode cX9_order 38 = .ok (.getfield 19, 3) := by decide +kernel
theorem dX9_order_41 : decode cX9_order 41 = .ok (.iload_n 1, 1) := by decide +kernel
theorem dX9_order_42 : decode cX9_order 42 = .ok (.iload_n 2, 1) := by decide +kernel
theorem dX9_order_43 : decode cX9_order 43 = .ok (.iload_n 3, 1) := by decide +kernel
theorem dX9_order_44 : decode cX9_order 44 = .ok (.invokevirtual 198, 3) := by decide +kernel
theorem dX9_order_47 : decode cX9_order 47 = .ok (.ireturn, 1) := by decide +kernel
theorem dX9_wanted_0 : decode cX9_wanted 0 = .ok (.aload_n 0, 1) := by decide +kernel
theorem dX9_wanted_1 : decode cX9_wanted 1 = .ok (.getfield 10, 3) := by decide +kernel
theorem dX9_wanted_4 : decode cX9_wanted 4 = .ok (.iload_n 1, 1) := by decide +kernel
theorem dX9_wanted_5 : decode cX9_wanted 5 = .ok (.invokevirtual 101, 3) := by decide +kernel
theorem dX9_wanted_8 : decode cX9_wanted 8 = .ok (.ifCond .eq 22, 3) := by decide +kernel
theorem dX9_wanted_11 : decode cX9_wanted 11 = .ok (.iload_n 2, 1) := by decide +kernel
theorem dX9_wanted_12 : decode cX9_wanted 12 = .ok (.iconst 0, 1) := by decide +kernel
theorem dX9_wanted_13 : decode cX9_wanted 13 = .ok (.aload_n 0, 1) := by decide +kernel
theorem dX9_wanted_14 : decode cX9_wanted 14 = .ok (.getfield 19, 3) := by decide +kernel
theorem dX9_wanted_17 : decode cX9_wanted 17 = .ok (.getfield 201, 3) := by decide +kernel
theorem dX9_wanted_20 : decode cX9_wanted 20 = .ok (.iload_n 1, 1) := by decide +kernel
theorem dX9_wanted_21 : decode cX9_wanted 21 = .ok (.iaload, 1) := by decide +kernel
theorem dX9_wanted_22 : decode cX9_wanted 22 = .ok (.iconst 1, 1) := by decide +kernel
theorem dX9_wanted_23 : decode cX9_wanted 23 = .ok (.isub, 1) := by decide +kernel
theorem dX9_wanted_24 : decode cX9_wanted 24 = .ok (.invokestatic 93, 3) := by decide +kernel
theorem dX9_wanted_27 : decode cX9_wanted 27 = .ok (.ifCond .ne 6, 3) := by decide +kernel
theorem dX9_wanted_30 : decode cX9_wanted 30 = .ok (.bipush (-2), 2) := by decide +kernel
theorem dX9_wanted_32 : decode cX9_wanted 32 = .ok (.ireturn, 1) := by decide +kernel
theorem dX9_wanted_33 : decode cX9_wanted 33 = .ok (.aload_n 0, 1) := by decide +kernel
theorem dX9_wanted_34 : decode cX9_wanted 34 = .ok (.getfield 19, 3) := by decide +kernel
theorem dX9_wanted_37 : decode cX9_wanted 37 = .ok (.getfield 203, 3) := by decide +kernel
theorem dX9_wanted_40 : decode cX9_wanted 40 = .ok (.iload_n 1, 1) := by decide +kernel
theorem dX9_wanted_41 : decode cX9_wanted 41 = .ok (.iconst 3, 1) := by decide +kernel
theorem dX9_wanted_42 : decode cX9_wanted 42 = .ok (.imul, 1) := by decide +kernel
theorem dX9_wanted_43 : decode cX9_wanted 43 = .ok (.iload_n 2, 1) := by decide +kernel
theorem dX9_wanted_44 : decode cX9_wanted 44 = .ok (.iadd, 1) := by decide +kernel
theorem dX9_wanted_45 : decode cX9_wanted 45 = .ok (.iaload, 1) := by decide +kernel
theorem dX9_wanted_46 : decode cX9_wanted 46 = .ok (.ireturn, 1) := by decide +kernel
theorem dX9_pattern_0 : decode cX9_pattern 0 = .ok (.aload_n 0, 1) := by decide +kernel
theorem dX9_pattern_1 : decode cX9_pattern 1 = .ok (.getfield 10, 3) := by decide +kernel
theorem dX9_pattern_4 : decode cX9_pattern 4 = .ok (.iload_n 1, 1) := by decide +kernel
theorem dX9_pattern_5 : decode cX9_pattern 5 = .ok (.invokevirtual 101, 3) := by decide +kernel
theorem dX9_pattern_8 : decode cX9_pattern 8 = .ok (.ifCond .eq 22, 3) := by decide +kernel
theorem dX9_pattern_11 : decode cX9_pattern 11 = .ok (.iload_n 2, 1) := by decide +kernel
theorem dX9_pattern_12 : decode cX9_pattern 12 = .ok (.iconst 0, 1) := by decide +kernel
theorem dX9_pattern_13 : decode cX9_pattern 13 = .ok (.ldc 206, 2) := by decide +kernel
theorem dX9_pattern_15 : decode cX9_pattern 15 = .ok (.invokestatic 93, 3) := by decide +kernel
theorem dX9_pattern_18 : decode cX9_pattern 18 = .ok (.ifCond .eq 12, 3) := by decide +kernel
theorem dX9_pattern_21 : decode cX9_pattern 21 = .ok (.iload_n 3, 1) := by decide +kernel
theorem dX9_pattern_22 : decode cX9_pattern 22 = .ok (.iconst 0, 1) := by decide +kernel
theorem dX9_pattern_23 : decode cX9_pattern 23 = .ok (.iconst 3, 1) := by decide +kernel
theorem dX9_pattern_24 : decode cX9_pattern 24 = .ok (.invokestatic 93, 3) := by decide +kernel
theorem dX9_pattern_27 : decode cX9_pattern 27 = .ok (.ifCond .ne 6, 3) := by decide +kernel
theorem dX9_pattern_30 : decode cX9_pattern 30 = .ok (.bipush (-2), 2) := by decide +kernel
theorem dX9_pattern_32 : decode cX9_pattern 32 = .ok (.ireturn, 1) := by decide +kernel
theorem dX9_pattern_33 : decode cX9_pattern 33 = .ok (.aload_n 0, 1) := by decide +kernel
theorem dX9_pattern_34 : decode cX9_pattern 34 = .ok (.getfield 44, 3) := by decide +kernel
theorem dX9_pattern_37 : decode cX9_pattern 37 = .ok (.aload_n 0, 1) := by decide +kernel
theorem dX9_pattern_38 : decode cX9_pattern 38 = .ok (.getfield 19, 3) := by decide +kernel
theorem dX9_pattern_41 : decode cX9_pattern 41 = .ok (.iload_n 1, 1) := by decide +kernel
theorem dX9_pattern_42 : decode cX9_pattern 42 = .ok (.iload_n 2, 1) := by decide +kernel
theorem dX9_pattern_43 : decode cX9_pattern 43 = .ok (.aload_n 0, 1) := by decide +kernel
theorem dX9_pattern_44 : decode cX9_pattern 44 = .ok (.getfield 30, 3) := by decide +kernel
theorem dX9_pattern_47 : decode cX9_pattern 47 = .ok (.iconst 4, 1) := by decide +kernel
theorem dX9_pattern_48 : decode cX9_pattern 48 = .ok (.iaload, 1) := by decide +kernel
theorem dX9_pattern_49 : decode cX9_pattern 49 = .ok (.invokevirtual 207, 3) := by decide +kernel
theorem dX9_pattern_52 : decode cX9_pattern 52 = .ok (.iload_n 3, 1) := by decide +kernel
theorem dX9_pattern_53 : decode cX9_pattern 53 = .ok (.iconst 3, 1) := by decide +kernel
theorem dX9_pattern_54 : decode cX9_pattern 54 = .ok (.if_icmp .ne 13, 3) := by decide +kernel
theorem dX9_pattern_57 : decode cX9_pattern 57 = .ok (.aload_n 0, 1) := by decide +kernel
theorem dX9_pattern_58 : decode cX9_pattern 58 = .ok (.getfield 44, 3) := by decide +kernel
theorem dX9_pattern_61 : decode cX9_pattern 61 = .ok (.getfield 211, 3) := by decide +kernel
theorem dX9_pattern_64 : decode cX9_pattern 64 = .ok (.goto 12, 3) := by decide +kernel
theorem dX9_pattern_67 : decode cX9_pattern 67 = .ok (.aload_n 0, 1) := by decide +kernel
theorem dX9_pattern_68 : decode cX9_pattern 68 = .ok (.getfield 44, 3) := by decide +kernel
theorem dX9_pattern_71 : decode cX9_pattern 71 = .ok (.getfield 163, 3) := by decide +kernel
theorem dX9_pattern_74 : decode cX9_pattern 74 = .ok (.iload_n 3, 1) := by decide +kernel
theorem dX9_pattern_75 : decode cX9_pattern 75 = .ok (.iaload, 1) := by decide +kernel
theorem dX9_pattern_76 : decode cX9_pattern 76 = .ok (.ireturn, 1) := by decide +kernel
theorem dX9_account_0 : decode cX9_account 0 = .ok (.iload_n 1, 1) := by decide +kernel
theorem dX9_account_1 : decode cX9_account 1 = .ok (.tableswitch 99 0 6 #[43, 51, 59, 67, 75, 83, 91], 43) := by decide +kernel
theorem dX9_account_44 : decode cX9_account 44 = .ok (.aload_n 0, 1) := by decide +kernel
theorem dX9_account_45 : decode cX9_account 45 = .ok (.getfield 58, 3) := by decide +kernel
theorem dX9_account_48 : decode cX9_account 48 = .ok (.getfield 212, 3) := by decide +kernel
theorem dX9_account_51 : decode cX9_account 51 = .ok (.ireturn, 1) := by decide +kernel
theorem dX9_account_52 : decode cX9_account 52 = .ok (.aload_n 0, 1) := by decide +kernel
theorem dX9_account_53 : decode cX9_account 53 = .ok (.getfield 58, 3) := by decide +kernel
theorem dX9_account_56 : decode cX9_account 56 = .ok (.getfield 215, 3) := by decide +kernel
theorem dX9_account_59 : decode cX9_account 59 = .ok (.ireturn, 1) := by decide +kernel
theorem dX9_account_60 : decode cX9_account 60 = .ok (.aload_n 0, 1) := by decide +kernel
theorem dX9_account_61 : decode cX9_account 61 = .ok (.getfield 58, 3) := by decide +kernel
theorem dX9_account_64 : decode cX9_account 64 = .ok (.getfield 218, 3) := by decide +kernel
theorem dX9_account_67 : decode cX9_account 67 = .ok (.ireturn, 1) := by decide +kernel
theorem dX9_account_68 : decode cX9_account 68 = .ok (.aload_n 0, 1) := by decide +kernel
theorem dX9_account_69 : decode cX9_account 69 = .ok (.getfield 58, 3) := by decide +kernel
theorem dX9_account_72 : decode cX9_account 72 = .ok (.getfield 221, 3) := by decide +kernel
theorem dX9_account_75 : decode cX9_account 75 = .ok (.ireturn, 1) := by decide +kernel
theorem dX9_account_76 : decode cX9_account 76 = .ok (.aload_n 0, 1) := by decide +kernel
theorem dX9_account_77 : decode cX9_account 77 = .ok (.getfield 58, 3) := by decide +kernel
theorem dX9_account_80 : decode cX9_account 80 = .ok (.getfield 222, 3) := by decide +kernel
theorem dX9_account_83 : decode cX9_account 83 = .ok (.ireturn, 1) := by decide +kernel
theorem dX9_account_84 : decode cX9_account 84 = .ok (.aload_n 0, 1) := by decide +kernel
theorem dX9_account_85 : decode cX9_account 85 = .ok (.getfield 58, 3) := by decide +kernel
theorem dX9_account_88 : decode cX9_account 88 = .ok (.getfield 224, 3) := by decide +kernel
theorem dX9_account_91 : decode cX9_account 91 = .ok (.ireturn, 1) := by decide +kernel
theorem dX9_account_92 : decode cX9_account 92 = .ok (.aload_n 0, 1) := by decide +kernel
theorem dX9_account_93 : decode cX9_account 93 = .ok (.getfield 58, 3) := by decide +kernel
theorem dX9_account_96 : decode cX9_account 96 = .ok (.getfield 227, 3) := by decide +kernel
theorem dX9_account_99 : decode cX9_account 99 = .ok (.ireturn, 1) := by decide +kernel
theorem dX9_account_100 : decode cX9_account 100 = .ok (.bipush (-2), 2) := by decide +kernel
theorem dX9_account_102 : decode cX9_account 102 = .ok (.ireturn, 1) := by decide +kernel
theorem dX9_stock_0 : decode cX9_stock 0 = .ok (.iload_n 1, 1) := by decide +kernel
theorem dX9_stock_1 : decode cX9_stock 1 = .ok (.sipush 200, 3) := by decide +kernel
theorem dX9_stock_4 : decode cX9_stock 4 = .ok (.sipush 1200, 3) := by decide +kernel
theorem dX9_stock_7 : decode cX9_stock 7 = .ok (.invokestatic 93, 3) := by decide +kernel
theorem dX9_stock_10 : decode cX9_stock 10 = .ok (.ifCond .ne 6, 3) := by decide +kernel
theorem dX9_stock_13 : decode cX9_stock 13 = .ok (.bipush (-2), 2) := by decide +kernel
theorem dX9_stock_15 : decode cX9_stock 15 = .ok (.ireturn, 1) := by decide +kernel
theorem dX9_stock_16 : decode cX9_stock 16 = .ok (.aload_n 0, 1) := by decide +kernel
theorem dX9_stock_17 : decode cX9_stock 17 = .ok (.getfield 83, 3) := by decide +kernel
theorem dX9_stock_20 : decode cX9_stock 20 = .ok (.bipush 6, 2) := by decide +kernel
theorem dX9_stock_22 : decode cX9_stock 22 = .ok (.if_icmp .lt 6, 3) := by decide +kernel
theorem dX9_stock_25 : decode cX9_stock 25 = .ok (.bipush (-4), 2) := by decide +kernel
theorem dX9_stock_27 : decode cX9_stock 27 = .ok (.ireturn, 1) := by decide +kernel
theorem dX9_stock_28 : decode cX9_stock 28 = .ok (.aload_n 0, 1) := by decide +kernel
theorem dX9_stock_29 : decode cX9_stock 29 = .ok (.getfield 62, 3) := by decide +kernel
theorem dX9_stock_32 : decode cX9_stock 32 = .ok (.aload_n 0, 1) := by decide +kernel
theorem dX9_stock_33 : decode cX9_stock 33 = .ok (.getfield 83, 3) := by decide +kernel
theorem dX9_stock_36 : decode cX9_stock 36 = .ok (.iload_n 1, 1) := by decide +kernel
theorem dX9_stock_37 : decode cX9_stock 37 = .ok (.iastore, 1) := by decide +kernel
theorem dX9_stock_38 : decode cX9_stock 38 = .ok (.aload_n 0, 1) := by decide +kernel
theorem dX9_stock_39 : decode cX9_stock 39 = .ok (.dup, 1) := by decide +kernel
theorem dX9_stock_40 : decode cX9_stock 40 = .ok (.getfield 83, 3) := by decide +kernel
theorem dX9_stock_43 : decode cX9_stock 43 = .ok (.iconst 1, 1) := by decide +kernel
theorem dX9_stock_44 : decode cX9_stock 44 = .ok (.iadd, 1) := by decide +kernel
theorem dX9_stock_45 : decode cX9_stock 45 = .ok (.putfield 83, 3) := by decide +kernel
theorem dX9_stock_48 : decode cX9_stock 48 = .ok (.aload_n 0, 1) := by decide +kernel
theorem dX9_stock_49 : decode cX9_stock 49 = .ok (.getfield 83, 3) := by decide +kernel
theorem dX9_stock_52 : decode cX9_stock 52 = .ok (.ireturn, 1) := by decide +kernel
theorem dX9_best_0 : decode cX9_best 0 = .ok (.aload_n 0, 1) := by decide +kernel
theorem dX9_best_1 : decode cX9_best 1 = .ok (.getfield 26, 3) := by decide +kernel
theorem dX9_best_4 : decode cX9_best 4 = .ok (.iload_n 1, 1) := by decide +kernel
theorem dX9_best_5 : decode cX9_best 5 = .ok (.invokevirtual 108, 3) := by decide +kernel
theorem dX9_best_8 : decode cX9_best 8 = .ok (.ifCond .ne 6, 3) := by decide +kernel
theorem dX9_best_11 : decode cX9_best 11 = .ok (.bipush (-2), 2) := by decide +kernel
theorem dX9_best_13 : decode cX9_best 13 = .ok (.ireturn, 1) := by decide +kernel
theorem dX9_best_14 : decode cX9_best 14 = .ok (.iconst (-1), 1) := by decide +kernel
theorem dX9_best_15 : decode cX9_best 15 = .ok (.istore_n 3, 1) := by decide +kernel
theorem dX9_best_16 : decode cX9_best 16 = .ok (.iconst 0, 1) := by decide +kernel
theorem dX9_best_17 : decode cX9_best 17 = .ok (.istore 4, 2) := by decide +kernel
theorem dX9_best_19 : decode cX9_best 19 = .ok (.iconst 0, 1) := by decide +kernel
theorem dX9_best_20 : decode cX9_best 20 = .ok (.istore 5, 2) := by decide +kernel
theorem dX9_best_22 : decode cX9_best 22 = .ok (.iload 5, 2) := by decide +kernel
theorem dX9_best_24 : decode cX9_best 24 = .ok (.aload_n 0, 1) := by decide +kernel
theorem dX9_best_25 : decode cX9_best 25 = .ok (.getfield 83, 3) := by decide +kernel
theorem dX9_best_28 : decode cX9_best 28 = .ok (.if_icmp .ge 64, 3) := by decide +kernel
theorem dX9_best_31 : decode cX9_best 31 = .ok (.aload_n 0, 1) := by decide +kernel
theorem dX9_best_32 : decode cX9_best 32 = .ok (.getfield 62, 3) := by decide +kernel
theorem dX9_best_35 : decode cX9_best 35 = .ok (.iload 5, 2) := by decide +kernel
theorem dX9_best_37 : decode cX9_best 37 = .ok (.iaload, 1) := by decide +kernel
theorem dX9_best_38 : decode cX9_best 38 = .ok (.istore 6, 2) := by decide +kernel
theorem dX9_best_40 : decode cX9_best 40 = .ok (.aload_n 0, 1) := by decide +kernel
theorem dX9_best_41 : decode cX9_best 41 = .ok (.aload_n 0, 1) := by decide +kernel
theorem dX9_best_42 : decode cX9_best 42 = .ok (.getfield 26, 3) := by decide +kernel
theorem dX9_best_45 : decode cX9_best 45 = .ok (.getfield 121, 3) := by decide +kernel
theorem dX9_best_48 : decode cX9_best 48 = .ok (.iload_n 1, 1) := by decide +kernel
theorem dX9_best_49 : decode cX9_best 49 = .ok (.iaload, 1) := by decide +kernel
theorem dX9_best_50 : decode cX9_best 50 = .ok (.iload 6, 2) := by decide +kernel
theorem dX9_best_52 : decode cX9_best 52 = .ok (.iload_n 2, 1) := by decide +kernel
theorem dX9_best_53 : decode cX9_best 53 = .ok (.invokevirtual 146, 3) := by decide +kernel
theorem dX9_best_56 : decode cX9_best 56 = .ok (.aload_n 0, 1) := by decide +kernel
theorem dX9_best_57 : decode cX9_best 57 = .ok (.getfield 37, 3) := by decide +kernel
theorem dX9_best_60 : decode cX9_best 60 = .ok (.getfield 174, 3) := by decide +kernel
theorem dX9_best_63 : decode cX9_best 63 = .ok (.iload 6, 2) := by decide +kernel
theorem dX9_best_65 : decode cX9_best 65 = .ok (.iload 4, 2) := by decide +kernel
theorem dX9_best_67 : decode cX9_best 67 = .ok (.iload_n 3, 1) := by decide +kernel
theorem dX9_best_68 : decode cX9_best 68 = .ok (.invokestatic 230, 3) := by decide +kernel
theorem dX9_best_71 : decode cX9_best 71 = .ok (.ifCond .eq 15, 3) := by decide +kernel
theorem dX9_best_74 : decode cX9_best 74 = .ok (.iload 6, 2) := by decide +kernel
theorem dX9_best_76 : decode cX9_best 76 = .ok (.istore_n 3, 1) := by decide +kernel
theorem dX9_best_77 : decode cX9_best 77 = .ok (.aload_n 0, 1) := by decide +kernel
theorem dX9_best_78 : decode cX9_best 78 = .ok (.getfield 37, 3) := by decide +kernel
theorem dX9_best_81 : decode cX9_best 81 = .ok (.getfield 174, 3) := by decide +kernel
theorem dX9_best_84 : decode cX9_best 84 = .ok (.istore 4, 2) := by decide +kernel
theorem dX9_best_86 : decode cX9_best 86 = .ok (.iinc 5 1, 3) := by decide +kernel
theorem dX9_best_89 : decode cX9_best 89 = .ok (.goto (-67), 3) := by decide +kernel
theorem dX9_best_92 : decode cX9_best 92 = .ok (.iload_n 3, 1) := by decide +kernel
theorem dX9_best_93 : decode cX9_best 93 = .ok (.ireturn, 1) := by decide +kernel
theorem dX9_job_0 : decode cX9_job 0 = .ok (.aload_n 0, 1) := by decide +kernel
theorem dX9_job_1 : decode cX9_job 1 = .ok (.getfield 10, 3) := by decide +kernel
theorem dX9_job_4 : decode cX9_job 4 = .ok (.iload_n 1, 1) := by decide +kernel
theorem dX9_job_5 : decode cX9_job 5 = .ok (.invokevirtual 101, 3) := by decide +kernel
theorem dX9_job_8 : decode cX9_job 8 = .ok (.ifCond .eq 24, 3) := by decide +kernel
theorem dX9_job_11 : decode cX9_job 11 = .ok (.iload_n 2, 1) := by decide +kernel
theorem dX9_job_12 : decode cX9_job 12 = .ok (.iconst 1, 1) := by decide +kernel
theorem dX9_job_13 : decode cX9_job 13 = .ok (.bipush 50, 2) := by decide +kernel
theorem dX9_job_15 : decode cX9_job 15 = .ok (.invokestatic 93, 3) := by decide +kernel
theorem dX9_job_18 : decode cX9_job 18 = .ok (.ifCond .eq 14, 3) := by decide +kernel
theorem dX9_job_21 : decode cX9_job 21 = .ok (.iload_n 3, 1) := by decide +kernel
theorem dX9_job_22 : decode cX9_job 22 = .ok (.iconst 0, 1) := by decide +kernel
theorem dX9_job_23 : decode cX9_job 23 = .ok (.sipush 1000, 3) := by decide +kernel
theorem dX9_job_26 : decode cX9_job 26 = .ok (.invokestatic 93, 3) := by decide +kernel
theorem dX9_job_29 : decode cX9_job 29 = .ok (.ifCond .ne 6, 3) := by decide +kernel
theorem dX9_job_32 : decode cX9_job 32 = .ok (.bipush (-2), 2) := by decide +kernel
theorem dX9_job_34 : decode cX9_job 34 = .ok (.ireturn, 1) := by decide +kernel
theorem dX9_job_35 : decode cX9_job 35 = .ok (.aload_n 0, 1) := by decide +kernel
theorem dX9_job_36 : decode cX9_job 36 = .ok (.getfield 68, 3) := by decide +kernel
theorem dX9_job_39 : decode cX9_job 39 = .ok (.aload_n 0, 1) := by decide +kernel
theorem dX9_job_40 : decode cX9_job 40 = .ok (.getfield 10, 3) := by decide +kernel
theorem dX9_job_43 : decode cX9_job 43 = .ok (.getfield 234, 3) := by decide +kernel
theorem dX9_job_46 : decode cX9_job 46 = .ok (.iload_n 1, 1) := by decide +kernel
theorem dX9_job_47 : decode cX9_job 47 = .ok (.iaload, 1) := by decide +kernel
theorem dX9_job_48 : decode cX9_job 48 = .ok (.iload_n 2, 1) := by decide +kernel
theorem dX9_job_49 : decode cX9_job 49 = .ok (.iload_n 3, 1) := by decide +kernel
theorem dX9_job_50 : decode cX9_job 50 = .ok (.invokevirtual 237, 3) := by decide +kernel
theorem dX9_job_53 : decode cX9_job 53 = .ok (.ireturn, 1) := by decide +kernel
theorem dX9_change_0 : decode cX9_change 0 = .ok (.iload_n 1, 1) := by decide +kernel
theorem dX9_change_1 : decode cX9_change 1 = .ok (.iconst 0, 1) := by decide +kernel
theorem dX9_change_2 : decode cX9_change 2 = .ok (.bipush 20, 2) := by decide +kernel
theorem dX9_change_4 : decode cX9_change 4 = .ok (.invokestatic 93, 3) := by decide +kernel
theorem dX9_change_7 : decode cX9_change 7 = .ok (.ifCond .ne 6, 3) := by decide +kernel
theorem dX9_change_10 : decode cX9_change 10 = .ok (.bipush (-2), 2) := by decide +kernel
theorem dX9_change_12 : decode cX9_change 12 = .ok (.ireturn, 1) := by decide +kernel
theorem dX9_change_13 : decode cX9_change 13 = .ok (.aload_n 0, 1) := by decide +kernel
theorem dX9_change_14 : decode cX9_change 14 = .ok (.getfield 68, 3) := by decide +kernel
theorem dX9_change_17 : decode cX9_change 17 = .ok (.iload_n 1, 1) := by decide +kernel
theorem dX9_change_18 : decode cX9_change 18 = .ok (.invokevirtual 238, 3) := by decide +kernel
theorem dX9_change_21 : decode cX9_change 21 = .ok (.ireturn, 1) := by decide +kernel
theorem dX9_late_0 : decode cX9_late 0 = .ok (.aload_n 0, 1) := by decide +kernel
theorem dX9_late_1 : decode cX9_late 1 = .ok (.getfield 68, 3) := by decide +kernel
theorem dX9_late_4 : decode cX9_late 4 = .ok (.invokevirtual 242, 3) := by decide +kernel
theorem dX9_late_7 : decode cX9_late 7 = .ok (.aload_n 0, 1) := by decide +kernel
theorem dX9_late_8 : decode cX9_late 8 = .ok (.getfield 68, 3) := by decide +kernel
theorem dX9_late_11 : decode cX9_late 11 = .ok (.getfield 245, 3) := by decide +kernel
theorem dX9_late_14 : decode cX9_late 14 = .ok (.ireturn, 1) := by decide +kernel
theorem dX9_planned_0 : decode cX9_planned 0 = .ok (.iload_n 1, 1) := by decide +kernel
theorem dX9_planned_1 : decode cX9_planned 1 = .ok (.iconst 0, 1) := by decide +kernel
theorem dX9_planned_2 : decode cX9_planned 2 = .ok (.aload_n 0, 1) := by decide +kernel
theorem dX9_planned_3 : decode cX9_planned 3 = .ok (.getfield 68, 3) := by decide +kernel
theorem dX9_planned_6 : decode cX9_planned 6 = .ok (.getfield 248, 3) := by decide +kernel
theorem dX9_planned_9 : decode cX9_planned 9 = .ok (.iconst 1, 1) := by decide +kernel
theorem dX9_planned_10 : decode cX9_planned 10 = .ok (.isub, 1) := by decide +kernel
theorem dX9_planned_11 : decode cX9_planned 11 = .ok (.invokestatic 93, 3) := by decide +kernel
theorem dX9_planned_14 : decode cX9_planned 14 = .ok (.ifCond .ne 6, 3) := by decide +kernel
theorem dX9_planned_17 : decode cX9_planned 17 = .ok (.bipush (-2), 2) := by decide +kernel
theorem dX9_planned_19 : decode cX9_planned 19 = .ok (.ireturn, 1) := by decide +kernel
theorem dX9_planned_20 : decode cX9_planned 20 = .ok (.aload_n 0, 1) := by decide +kernel
theorem dX9_planned_21 : decode cX9_planned 21 = .ok (.getfield 68, 3) := by decide +kernel
theorem dX9_planned_24 : decode cX9_planned 24 = .ok (.invokevirtual 242, 3) := by decide +kernel
theorem dX9_planned_27 : decode cX9_planned 27 = .ok (.aload_n 0, 1) := by decide +kernel
theorem dX9_planned_28 : decode cX9_planned 28 = .ok (.getfield 68, 3) := by decide +kernel
theorem dX9_planned_31 : decode cX9_planned 31 = .ok (.getfield 249, 3) := by decide +kernel
theorem dX9_planned_34 : decode cX9_planned 34 = .ok (.iload_n 1, 1) := by decide +kernel
theorem dX9_planned_35 : decode cX9_planned 35 = .ok (.iaload, 1) := by decide +kernel
theorem dX9_planned_36 : decode cX9_planned 36 = .ok (.ireturn, 1) := by decide +kernel
theorem dX9_room_0 : decode cX9_room 0 = .ok (.iload_n 1, 1) := by decide +kernel
theorem dX9_room_1 : decode cX9_room 1 = .ok (.sipush 1000, 3) := by decide +kernel
theorem dX9_room_4 : decode cX9_room 4 = .ok (.ldc 252, 2) := by decide +kernel
theorem dX9_room_6 : decode cX9_room 6 = .ok (.invokestatic 93, 3) := by decide +kernel
theorem dX9_room_9 : decode cX9_room 9 = .ok (.ifCond .ne 6, 3) := by decide +kernel
theorem dX9_room_12 : decode cX9_room 12 = .ok (.bipush (-2), 2) := by decide +kernel
theorem dX9_room_14 : decode cX9_room 14 = .ok (.ireturn, 1) := by decide +kernel
theorem dX9_room_15 : decode cX9_room 15 = .ok (.aload_n 0, 1) := by decide +kernel
theorem dX9_room_16 : decode cX9_room 16 = .ok (.getfield 87, 3) := by decide +kernel
theorem dX9_room_19 : decode cX9_room 19 = .ok (.istore_n 2, 1) := by decide +kernel
theorem dX9_room_20 : decode cX9_room 20 = .ok (.aload_n 0, 1) := by decide +kernel
theorem dX9_room_21 : decode cX9_room 21 = .ok (.iload_n 1, 1) := by decide +kernel
theorem dX9_room_22 : decode cX9_room 22 = .ok (.putfield 87, 3) := by decide +kernel
theorem dX9_room_25 : decode cX9_room 25 = .ok (.iload_n 2, 1) := by decide +kernel
theorem dX9_room_26 : decode cX9_room 26 = .ok (.ireturn, 1) := by decide +kernel
theorem dX9_age_0 : decode cX9_age 0 = .ok (.aload_n 0, 1) := by decide +kernel
theorem dX9_age_1 : decode cX9_age 1 = .ok (.getfield 51, 3) := by decide +kernel
theorem dX9_age_4 : decode cX9_age 4 = .ok (.invokevirtual 253, 3) := by decide +kernel
theorem dX9_age_7 : decode cX9_age 7 = .ok (.istore_n 1, 1) := by decide +kernel
theorem dX9_age_8 : decode cX9_age 8 = .ok (.iload_n 1, 1) := by decide +kernel
theorem dX9_age_9 : decode cX9_age 9 = .ok (.iconst (-1), 1) := by decide +kernel
theorem dX9_age_10 : decode cX9_age 10 = .ok (.if_icmp .ne 6, 3) := by decide +kernel
theorem dX9_age_13 : decode cX9_age 13 = .ok (.bipush (-3), 2) := by decide +kernel
theorem dX9_age_15 : decode cX9_age 15 = .ok (.ireturn, 1) := by decide +kernel
theorem dX9_age_16 : decode cX9_age 16 = .ok (.aload_n 0, 1) := by decide +kernel
theorem dX9_age_17 : decode cX9_age 17 = .ok (.getfield 51, 3) := by decide +kernel
theorem dX9_age_20 : decode cX9_age 20 = .ok (.iload_n 1, 1) := by decide +kernel
theorem dX9_age_21 : decode cX9_age 21 = .ok (.aload_n 0, 1) := by decide +kernel
theorem dX9_age_22 : decode cX9_age 22 = .ok (.getfield 87, 3) := by decide +kernel
theorem dX9_age_25 : decode cX9_age 25 = .ok (.aload_n 0, 1) := by decide +kernel
theorem dX9_age_26 : decode cX9_age 26 = .ok (.getfield 90, 3) := by decide +kernel
theorem dX9_age_29 : decode cX9_age 29 = .ok (.invokevirtual 257, 3) := by decide +kernel
theorem dX9_age_32 : decode cX9_age 32 = .ok (.istore_n 2, 1) := by decide +kernel
theorem dX9_age_33 : decode cX9_age 33 = .ok (.aload_n 0, 1) := by decide +kernel
theorem dX9_age_34 : decode cX9_age 34 = .ok (.dup, 1) := by decide +kernel
theorem dX9_age_35 : decode cX9_age 35 = .ok (.getfield 90, 3) := by decide +kernel
theorem dX9_age_38 : decode cX9_age 38 = .ok (.iconst 1, 1) := by decide +kernel
theorem dX9_age_39 : decode cX9_age 39 = .ok (.iadd, 1) := by decide +kernel
theorem dX9_age_40 : decode cX9_age 40 = .ok (.putfield 90, 3) := by decide +kernel
theorem dX9_age_43 : decode cX9_age 43 = .ok (.iload_n 2, 1) := by decide +kernel
theorem dX9_age_44 : decode cX9_age 44 = .ok (.ireturn, 1) := by decide +kernel
theorem dX9_batches_0 : decode cX9_batches 0 = .ok (.iconst 0, 1) := by decide +kernel
theorem dX9_batches_1 : decode cX9_batches 1 = .ok (.istore_n 1, 1) := by decide +kernel
theorem dX9_batches_2 : decode cX9_batches 2 = .ok (.iconst 0, 1) := by decide +kernel
theorem dX9_batches_3 : decode cX9_batches 3 = .ok (.istore_n 2, 1) := by decide +kernel
theorem dX9_batches_4 : decode cX9_batches 4 = .ok (.iload_n 2, 1) := by decide +kernel
theorem dX9_batches_5 : decode cX9_batches 5 = .ok (.iconst 4, 1) := by decide +kernel
theorem dX9_batches_6 : decode cX9_batches 6 = .ok (.if_icmp .ge 24, 3) := by decide +kernel
theorem dX9_batches_9 : decode cX9_batches 9 = .ok (.iload_n 1, 1) := by decide +kernel
theorem dX9_batches_10 : decode cX9_batches 10 = .ok (.aload_n 0, 1) := by decide +kernel
theorem dX9_batches_11 : decode cX9_batches 11 = .ok (.getfield 51, 3) := by decide +kernel
theorem dX9_batches_14 : decode cX9_batches 14 = .ok (.iload_n 2, 1) := by decide +kernel
theorem dX9_batches_15 : decode cX9_batches 15 = .ok (.aload_n 0, 1) := by decide +kernel
theorem dX9_batches_16 : decode cX9_batches 16 = .ok (.getfield 87, 3) := by decide +kernel
theorem dX9_batches_19 : decode cX9_batches 19 = .ok (.invokevirtual 260, 3) := by decide +kernel
theorem dX9_batches_22 : decode cX9_batches 22 = .ok (.iadd, 1) := by decide +kernel
theorem dX9_batches_23 : decode cX9_batches 23 = .ok (.istore_n 1, 1) := by decide +kernel
theorem dX9_batches_24 : decode cX9_batches 24 = .ok (.iinc 2 1, 3) := by decide +kernel
theorem dX9_batches_27 : decode cX9_batches 27 = .ok (.goto (-23), 3) := by decide +kernel
theorem dX9_batches_30 : decode cX9_batches 30 = .ok (.iload_n 1, 1) := by decide +kernel
theorem dX9_batches_31 : decode cX9_batches 31 = .ok (.ireturn, 1) := by decide +kernel
theorem dX9_sample_0 : decode cX9_sample 0 = .ok (.aload_n 0, 1) := by decide +kernel
theorem dX9_sample_1 : decode cX9_sample 1 = .ok (.getfield 51, 3) := by decide +kernel
theorem dX9_sample_4 : decode cX9_sample 4 = .ok (.iload_n 1, 1) := by decide +kernel
theorem dX9_sample_5 : decode cX9_sample 5 = .ok (.invokevirtual 177, 3) := by decide +kernel
theorem dX9_sample_8 : decode cX9_sample 8 = .ok (.ifCond .ne 6, 3) := by decide +kernel
theorem dX9_sample_11 : decode cX9_sample 11 = .ok (.bipush (-2), 2) := by decide +kernel
theorem dX9_sample_13 : decode cX9_sample 13 = .ok (.ireturn, 1) := by decide +kernel
theorem dX9_sample_14 : decode cX9_sample 14 = .ok (.aload_n 0, 1) := by decide +kernel
theorem dX9_sample_15 : decode cX9_sample 15 = .ok (.getfield 51, 3) := by decide +kernel
theorem dX9_sample_18 : decode cX9_sample 18 = .ok (.getfield 263, 3) := by decide +kernel
theorem dX9_sample_21 : decode cX9_sample 21 = .ok (.iload_n 1, 1) := by decide +kernel
theorem dX9_sample_22 : decode cX9_sample 22 = .ok (.iload_n 2, 1) := by decide +kernel
theorem dX9_sample_23 : decode cX9_sample 23 = .ok (.ifCond .eq 7, 3) := by decide +kernel
theorem dX9_sample_26 : decode cX9_sample 26 = .ok (.iconst 1, 1) := by decide +kernel
theorem dX9_sample_27 : decode cX9_sample 27 = .ok (.goto 4, 3) := by decide +kernel
theorem dX9_sample_30 : decode cX9_sample 30 = .ok (.iconst 2, 1) := by decide +kernel
theorem dX9_sample_31 : decode cX9_sample 31 = .ok (.iastore, 1) := by decide +kernel
theorem dX9_sample_32 : decode cX9_sample 32 = .ok (.iconst 1, 1) := by decide +kernel
theorem dX9_sample_33 : decode cX9_sample 33 = .ok (.ireturn, 1) := by decide +kernel
theorem dX9_suspect_0 : decode cX9_suspect 0 = .ok (.aload_n 0, 1) := by decide +kernel
theorem dX9_suspect_1 : decode cX9_suspect 1 = .ok (.getfield 51, 3) := by decide +kernel
theorem dX9_suspect_4 : decode cX9_suspect 4 = .ok (.iload_n 1, 1) := by decide +kernel
theorem dX9_suspect_5 : decode cX9_suspect 5 = .ok (.invokevirtual 177, 3) := by decide +kernel
theorem dX9_suspect_8 : decode cX9_suspect 8 = .ok (.ifCond .ne 6, 3) := by decide +kernel
theorem dX9_suspect_11 : decode cX9_suspect 11 = .ok (.bipush (-2), 2) := by decide +kernel
theorem dX9_suspect_13 : decode cX9_suspect 13 = .ok (.ireturn, 1) := by decide +kernel
theorem dX9_suspect_14 : decode cX9_suspect 14 = .ok (.aload_n 0, 1) := by decide +kernel
theorem dX9_suspect_15 : decode cX9_suspect 15 = .ok (.getfield 51, 3) := by decide +kernel
theorem dX9_suspect_18 : decode cX9_suspect 18 = .ok (.iload_n 1, 1) := by decide +kernel
theorem dX9_suspect_19 : decode cX9_suspect 19 = .ok (.invokevirtual 266, 3) := by decide +kernel
theorem dX9_suspect_22 : decode cX9_suspect 22 = .ok (.ifCond .eq 7, 3) := by decide +kernel
theorem dX9_suspect_25 : decode cX9_suspect 25 = .ok (.iconst 1, 1) := by decide +kernel
theorem dX9_suspect_26 : decode cX9_suspect 26 = .ok (.goto 4, 3) := by decide +kernel
theorem dX9_suspect_29 : decode cX9_suspect 29 = .ok (.iconst 0, 1) := by decide +kernel
theorem dX9_suspect_30 : decode cX9_suspect 30 = .ok (.ireturn, 1) := by decide +kernel
theorem dX9_held_0 : decode cX9_held 0 = .ok (.iconst 0, 1) := by decide +kernel
theorem dX9_held_1 : decode cX9_held 1 = .ok (.istore_n 1, 1) := by decide +kernel
theorem dX9_held_2 : decode cX9_held 2 = .ok (.iconst 0, 1) := by decide +kernel
theorem dX9_held_3 : decode cX9_held 3 = .ok (.istore_n 2, 1) := by decide +kernel
theorem dX9_held_4 : decode cX9_held 4 = .ok (.iload_n 2, 1) := by decide +kernel
theorem dX9_held_5 : decode cX9_held 5 = .ok (.aload_n 0, 1) := by decide +kernel
theorem dX9_held_6 : decode cX9_held 6 = .ok (.getfield 51, 3) := by decide +kernel
theorem dX9_held_9 : decode cX9_held 9 = .ok (.getfield 140, 3) := by decide +kernel
theorem dX9_held_12 : decode cX9_held 12 = .ok (.if_icmp .ge 32, 3) := by decide +kernel
theorem dX9_held_15 : decode cX9_held 15 = .ok (.aload_n 0, 1) := by decide +kernel
theorem dX9_held_16 : decode cX9_held 16 = .ok (.getfield 51, 3) := by decide +kernel
theorem dX9_held_19 : decode cX9_held 19 = .ok (.iload_n 2, 1) := by decide +kernel
theorem dX9_held_20 : decode cX9_held 20 = .ok (.invokevirtual 266, 3) := by decide +kernel
theorem dX9_held_23 : decode cX9_held 23 = .ok (.ifCond .eq 15, 3) := by decide +kernel
theorem dX9_held_26 : decode cX9_held 26 = .ok (.iload_n 1, 1) := by decide +kernel
theorem dX9_held_27 : decode cX9_held 27 = .ok (.aload_n 0, 1) := by decide +kernel
theorem dX9_held_28 : decode cX9_held 28 = .ok (.getfield 51, 3) := by decide +kernel
theorem dX9_held_31 : decode cX9_held 31 = .ok (.getfield 187, 3) := by decide +kernel
theorem dX9_held_34 : decode cX9_held 34 = .ok (.iload_n 2, 1) := by decide +kernel
theorem dX9_held_35 : decode cX9_held 35 = .ok (.iaload, 1) := by decide +kernel
theorem dX9_held_36 : decode cX9_held 36 = .ok (.iadd, 1) := by decide +kernel
theorem dX9_held_37 : decode cX9_held 37 = .ok (.istore_n 1, 1) := by decide +kernel
theorem dX9_held_38 : decode cX9_held 38 = .ok (.iinc 2 1, 3) := by decide +kernel
theorem dX9_held_41 : decode cX9_held 41 = .ok (.goto (-37), 3) := by decide +kernel
theorem dX9_held_44 : decode cX9_held 44 = .ok (.iload_n 1, 1) := by decide +kernel
theorem dX9_held_45 : decode cX9_held 45 = .ok (.ireturn, 1) := by decide +kernel
theorem dX9_drift_0 : decode cX9_drift 0 = .ok (.aload_n 0, 1) := by decide +kernel
theorem dX9_drift_1 : decode cX9_drift 1 = .ok (.getfield 51, 3) := by decide +kernel
theorem dX9_drift_4 : decode cX9_drift 4 = .ok (.iload_n 1, 1) := by decide +kernel
theorem dX9_drift_5 : decode cX9_drift 5 = .ok (.invokevirtual 177, 3) := by decide +kernel
theorem dX9_drift_8 : decode cX9_drift 8 = .ok (.ifCond .eq 19, 3) := by decide +kernel
theorem dX9_drift_11 : decode cX9_drift 11 = .ok (.aload_n 0, 1) := by decide +kernel
theorem dX9_drift_12 : decode cX9_drift 12 = .ok (.getfield 51, 3) := by decide +kernel
theorem dX9_drift_15 : decode cX9_drift 15 = .ok (.iload_n 2, 1) := by decide +kernel
theorem dX9_drift_16 : decode cX9_drift 16 = .ok (.invokevirtual 177, 3) := by decide +kernel
theorem dX9_drift_19 : decode cX9_drift 19 = .ok (.ifCond .eq 8, 3) := by decide +kernel
theorem dX9_drift_22 : decode cX9_drift 22 = .ok (.iload_n 1, 1) := by decide +kernel
theorem dX9_drift_23 : decode cX9_drift 23 = .ok (.iload_n 2, 1) := by decide +kernel
theorem dX9_drift_24 : decode cX9_drift 24 = .ok (.if_icmp .le 7, 3) := by decide +kernel
theorem dX9_drift_27 : decode cX9_drift 27 = .ok (.ldc_w 269, 3) := by decide +kernel
theorem dX9_drift_30 : decode cX9_drift 30 = .ok (.ireturn, 1) := by decide +kernel
theorem dX9_drift_31 : decode cX9_drift 31 = .ok (.iconst 0, 1) := by decide +kernel
theorem dX9_drift_32 : decode cX9_drift 32 = .ok (.istore_n 3, 1) := by decide +kernel
theorem dX9_drift_33 : decode cX9_drift 33 = .ok (.iconst 0, 1) := by decide +kernel
theorem dX9_drift_34 : decode cX9_drift 34 = .ok (.istore 4, 2) := by decide +kernel
theorem dX9_drift_36 : decode cX9_drift 36 = .ok (.iload_n 1, 1) := by decide +kernel
theorem dX9_drift_37 : decode cX9_drift 37 = .ok (.istore 5, 2) := by decide +kernel
theorem dX9_drift_39 : decode cX9_drift 39 = .ok (.iload 5, 2) := by decide +kernel
theorem dX9_drift_41 : decode cX9_drift 41 = .ok (.iload_n 2, 1) := by decide +kernel
theorem dX9_drift_42 : decode cX9_drift 42 = .ok (.if_icmp .gt 47, 3) := by decide +kernel
theorem dX9_drift_45 : decode cX9_drift 45 = .ok (.aload_n 0, 1) := by decide +kernel
theorem dX9_drift_46 : decode cX9_drift 46 = .ok (.getfield 75, 3) := by decide +kernel
theorem dX9_drift_49 : decode cX9_drift 49 = .ok (.iload 5, 2) := by decide +kernel
theorem dX9_drift_51 : decode cX9_drift 51 = .ok (.invokevirtual 270, 3) := by decide +kernel
theorem dX9_drift_54 : decode cX9_drift 54 = .ok (.istore 6, 2) := by decide +kernel
theorem dX9_drift_56 : decode cX9_drift 56 = .ok (.iload 6, 2) := by decide +kernel
theorem dX9_drift_58 : decode cX9_drift 58 = .ok (.iconst (-1), 1) := by decide +kernel
theorem dX9_drift_59 : decode cX9_drift 59 = .ok (.if_icmp .eq 24, 3) := by decide +kernel
theorem dX9_drift_62 : decode cX9_drift 62 = .ok (.iinc 3 1, 3) := by decide +kernel
theorem dX9_drift_65 : decode cX9_drift 65 = .ok (.iload 4, 2) := by decide +kernel
theorem dX9_drift_67 : decode cX9_drift 67 = .ok (.iload 6, 2) := by decide +kernel
theorem dX9_drift_69 : decode cX9_drift 69 = .ok (.aload_n 0, 1) := by decide +kernel
theorem dX9_drift_70 : decode cX9_drift 70 = .ok (.getfield 51, 3) := by decide +kernel
theorem dX9_drift_73 : decode cX9_drift 73 = .ok (.getfield 273, 3) := by decide +kernel
theorem dX9_drift_76 : decode cX9_drift 76 = .ok (.iload 5, 2) := by decide +kernel
theorem dX9_drift_78 : decode cX9_drift 78 = .ok (.iaload, 1) := by decide +kernel
theorem dX9_drift_79 : decode cX9_drift 79 = .ok (.isub, 1) := by decide +kernel
theorem dX9_drift_80 : decode cX9_drift 80 = .ok (.iadd, 1) := by decide +kernel
theorem dX9_drift_81 : decode cX9_drift 81 = .ok (.istore 4, 2) := by decide +kernel
theorem dX9_drift_83 : decode cX9_drift 83 = .ok (.iinc 5 1, 3) := by decide +kernel
theorem dX9_drift_86 : decode cX9_drift 86 = .ok (.goto (-47), 3) := by decide +kernel
theorem dX9_drift_89 : decode cX9_drift 89 = .ok (.iload_n 3, 1) := by decide +kernel
theorem dX9_drift_90 : decode cX9_drift 90 = .ok (.ifCond .ne 9, 3) := by decide +kernel
theorem dX9_drift_93 : decode cX9_drift 93 = .ok (.ldc_w 274, 3) := by decide +kernel
theorem dX9_drift_96 : decode cX9_drift 96 = .ok (.goto 9, 3) := by decide +kernel
theorem dX9_drift_99 : decode cX9_drift 99 = .ok (.iload 4, 2) := by decide +kernel
theorem dX9_drift_101 : decode cX9_drift 101 = .ok (.iload_n 3, 1) := by decide +kernel
theorem dX9_drift_102 : decode cX9_drift 102 = .ok (.invokestatic 275, 3) := by decide +kernel
theorem dX9_drift_105 : decode cX9_drift 105 = .ok (.ireturn, 1) := by decide +kernel
theorem dX9_sheet_0 : decode cX9_sheet 0 = .ok (.iload_n 1, 1) := by decide +kernel
theorem dX9_sheet_1 : decode cX9_sheet 1 = .ok (.invokestatic 280, 3) := by decide +kernel
theorem dX9_sheet_4 : decode cX9_sheet 4 = .ok (.ifCond .eq 17, 3) := by decide +kernel
theorem dX9_sheet_7 : decode cX9_sheet 7 = .ok (.iload_n 2, 1) := by decide +kernel
theorem dX9_sheet_8 : decode cX9_sheet 8 = .ok (.invokestatic 283, 3) := by decide +kernel
theorem dX9_sheet_11 : decode cX9_sheet 11 = .ok (.ifCond .eq 10, 3) := by decide +kernel
theorem dX9_sheet_14 : decode cX9_sheet 14 = .ok (.iload_n 3, 1) := by decide +kernel
theorem dX9_sheet_15 : decode cX9_sheet 15 = .ok (.sipush 200, 3) := by decide +kernel
theorem dX9_sheet_18 : decode cX9_sheet 18 = .ok (.if_icmp .le 6, 3) := by decide +kernel
theorem dX9_sheet_21 : decode cX9_sheet 21 = .ok (.bipush (-2), 2) := by decide +kernel
theorem dX9_sheet_23 : decode cX9_sheet 23 = .ok (.ireturn, 1) := by decide +kernel
theorem dX9_sheet_24 : decode cX9_sheet 24 = .ok (.aload_n 0, 1) := by decide +kernel
theorem dX9_sheet_25 : decode cX9_sheet 25 = .ok (.getfield 75, 3) := by decide +kernel
theorem dX9_sheet_28 : decode cX9_sheet 28 = .ok (.iload_n 1, 1) := by decide +kernel
theorem dX9_sheet_29 : decode cX9_sheet 29 = .ok (.iload_n 2, 1) := by decide +kernel
theorem dX9_sheet_30 : decode cX9_sheet 30 = .ok (.iload_n 3, 1) := by decide +kernel
theorem dX9_sheet_31 : decode cX9_sheet 31 = .ok (.invokevirtual 286, 3) := by decide +kernel
theorem dX9_sheet_34 : decode cX9_sheet 34 = .ok (.ireturn, 1) := by decide +kernel
theorem dX9_lose_0 : decode cX9_lose 0 = .ok (.iload_n 1, 1) := by decide +kernel
theorem dX9_lose_1 : decode cX9_lose 1 = .ok (.invokestatic 280, 3) := by decide +kernel
theorem dX9_lose_4 : decode cX9_lose 4 = .ok (.ifCond .ne 6, 3) := by decide +kernel
theorem dX9_lose_7 : decode cX9_lose 7 = .ok (.bipush (-2), 2) := by decide +kernel
theorem dX9_lose_9 : decode cX9_lose 9 = .ok (.ireturn, 1) := by decide +kernel
theorem dX9_lose_10 : decode cX9_lose 10 = .ok (.aload_n 0, 1) := by decide +kernel
theorem dX9_lose_11 : decode cX9_lose 11 = .ok (.getfield 75, 3) := by decide +kernel
theorem dX9_lose_14 : decode cX9_lose 14 = .ok (.iload_n 1, 1) := by decide +kernel
theorem dX9_lose_15 : decode cX9_lose 15 = .ok (.invokevirtual 289, 3) := by decide +kernel
theorem dX9_lose_18 : decode cX9_lose 18 = .ok (.ireturn, 1) := by decide +kernel
theorem dX9_put_0 : decode cX9_put 0 = .ok (.iload_n 1, 1) := by decide +kernel
theorem dX9_put_1 : decode cX9_put 1 = .ok (.invokestatic 280, 3) := by decide +kernel
theorem dX9_put_4 : decode cX9_put 4 = .ok (.ifCond .eq 10, 3) := by decide +kernel
theorem dX9_put_7 : decode cX9_put 7 = .ok (.iload_n 2, 1) := by decide +kernel
theorem dX9_put_8 : decode cX9_put 8 = .ok (.invokestatic 283, 3) := by decide +kernel
theorem dX9_put_11 : decode cX9_put 11 = .ok (.ifCond .ne 6, 3) := by decide +kernel
theorem dX9_put_14 : decode cX9_put 14 = .ok (.bipush (-2), 2) := by decide +kernel
theorem dX9_put_16 : decode cX9_put 16 = .ok (.ireturn, 1) := by decide +kernel
theorem dX9_put_17 : decode cX9_put 17 = .ok (.aload_n 0, 1) := by decide +kernel
theorem dX9_put_18 : decode cX9_put 18 = .ok (.getfield 75, 3) := by decide +kernel
theorem dX9_put_21 : decode cX9_put 21 = .ok (.iload_n 1, 1) := by decide +kernel
theorem dX9_put_22 : decode cX9_put 22 = .ok (.iload_n 2, 1) := by decide +kernel
theorem dX9_put_23 : decode cX9_put 23 = .ok (.iload_n 3, 1) := by decide +kernel
theorem dX9_put_24 : decode cX9_put 24 = .ok (.invokevirtual 292, 3) := by decide +kernel
theorem dX9_put_27 : decode cX9_put 27 = .ok (.istore 5, 2) := by decide +kernel
theorem dX9_put_29 : decode cX9_put 29 = .ok (.iload 5, 2) := by decide +kernel
theorem dX9_put_31 : decode cX9_put 31 = .ok (.ifCond .eq 13, 3) := by decide +kernel
theorem dX9_put_34 : decode cX9_put 34 = .ok (.aload_n 0, 1) := by decide +kernel
theorem dX9_put_35 : decode cX9_put 35 = .ok (.getfield 75, 3) := by decide +kernel
theorem dX9_put_38 : decode cX9_put 38 = .ok (.iload 5, 2) := by decide +kernel
theorem dX9_put_40 : decode cX9_put 40 = .ok (.invokevirtual 295, 3) := by decide +kernel
theorem dX9_put_43 : decode cX9_put 43 = .ok (.ireturn, 1) := by decide +kernel
theorem dX9_put_44 : decode cX9_put 44 = .ok (.aload_n 0, 1) := by decide +kernel
theorem dX9_put_45 : decode cX9_put 45 = .ok (.getfield 75, 3) := by decide +kernel
theorem dX9_put_48 : decode cX9_put 48 = .ok (.iload_n 1, 1) := by decide +kernel
theorem dX9_put_49 : decode cX9_put 49 = .ok (.iload_n 3, 1) := by decide +kernel
theorem dX9_put_50 : decode cX9_put 50 = .ok (.iload 4, 2) := by decide +kernel
theorem dX9_put_52 : decode cX9_put 52 = .ok (.invokevirtual 298, 3) := by decide +kernel
theorem dX9_put_55 : decode cX9_put 55 = .ok (.iconst 1, 1) := by decide +kernel
theorem dX9_put_56 : decode cX9_put 56 = .ok (.ireturn, 1) := by decide +kernel
theorem dX9_get_0 : decode cX9_get 0 = .ok (.iload_n 1, 1) := by decide +kernel
theorem dX9_get_1 : decode cX9_get 1 = .ok (.invokestatic 280, 3) := by decide +kernel
theorem dX9_get_4 : decode cX9_get 4 = .ok (.ifCond .eq 10, 3) := by decide +kernel
theorem dX9_get_7 : decode cX9_get 7 = .ok (.iload_n 2, 1) := by decide +kernel
theorem dX9_get_8 : decode cX9_get 8 = .ok (.invokestatic 283, 3) := by decide +kernel
theorem dX9_get_11 : decode cX9_get 11 = .ok (.ifCond .ne 7, 3) := by decide +kernel
theorem dX9_get_14 : decode cX9_get 14 = .ok (.ldc_w 304, 3) := by decide +kernel
theorem dX9_get_17 : decode cX9_get 17 = .ok (.ireturn, 1) := by decide +kernel
theorem dX9_get_18 : decode cX9_get 18 = .ok (.aload_n 0, 1) := by decide +kernel
theorem dX9_get_19 : decode cX9_get 19 = .ok (.getfield 75, 3) := by decide +kernel
theorem dX9_get_22 : decode cX9_get 22 = .ok (.iload_n 1, 1) := by decide +kernel
theorem dX9_get_23 : decode cX9_get 23 = .ok (.iload_n 2, 1) := by decide +kernel
theorem dX9_get_24 : decode cX9_get 24 = .ok (.iload_n 3, 1) := by decide +kernel
theorem dX9_get_25 : decode cX9_get 25 = .ok (.invokevirtual 292, 3) := by decide +kernel
theorem dX9_get_28 : decode cX9_get 28 = .ok (.istore 4, 2) := by decide +kernel
theorem dX9_get_30 : decode cX9_get 30 = .ok (.iload 4, 2) := by decide +kernel
theorem dX9_get_32 : decode cX9_get 32 = .ok (.ifCond .eq 17, 3) := by decide +kernel
theorem dX9_get_35 : decode cX9_get 35 = .ok (.aload_n 0, 1) := by decide +kernel
theorem dX9_get_36 : decode cX9_get 36 = .ok (.getfield 75, 3) := by decide +kernel
theorem dX9_get_39 : decode cX9_get 39 = .ok (.iload 4, 2) := by decide +kernel
theorem dX9_get_41 : decode cX9_get 41 = .ok (.invokevirtual 295, 3) := by decide +kernel
theorem dX9_get_44 : decode cX9_get 44 = .ok (.pop, 1) := by decide +kernel
theorem dX9_get_45 : decode cX9_get 45 = .ok (.ldc_w 304, 3) := by decide +kernel
theorem dX9_get_48 : decode cX9_get 48 = .ok (.ireturn, 1) := by decide +kernel
theorem dX9_get_49 : decode cX9_get 49 = .ok (.aload_n 0, 1) := by decide +kernel
theorem dX9_get_50 : decode cX9_get 50 = .ok (.getfield 75, 3) := by decide +kernel
theorem dX9_get_53 : decode cX9_get 53 = .ok (.getfield 305, 3) := by decide +kernel
theorem dX9_get_56 : decode cX9_get 56 = .ok (.iload_n 1, 1) := by decide +kernel
theorem dX9_get_57 : decode cX9_get 57 = .ok (.sipush 200, 3) := by decide +kernel
theorem dX9_get_60 : decode cX9_get 60 = .ok (.imul, 1) := by decide +kernel
theorem dX9_get_61 : decode cX9_get 61 = .ok (.iload_n 3, 1) := by decide +kernel
end
section
theorem dX9_get_62 : decode cX9_get 62 = .ok (.iadd, 1) := by decide +kernel
theorem dX9_get_63 : decode cX9_get 63 = .ok (.iaload, 1) := by decide +kernel
theorem dX9_get_64 : decode cX9_get 64 = .ok (.ireturn, 1) := by decide +kernel
theorem dX9_copy_0 : decode cX9_copy 0 = .ok (.iload_n 1, 1) := by decide +kernel
theorem dX9_copy_1 : decode cX9_copy 1 = .ok (.invokestatic 280, 3) := by decide +kernel
theorem dX9_copy_4 : decode cX9_copy 4 = .ok (.ifCond .eq 10, 3) := by decide +kernel
theorem dX9_copy_7 : decode cX9_copy 7 = .ok (.iload_n 3, 1) := by decide +kernel
theorem dX9_copy_8 : decode cX9_copy 8 = .ok (.invokestatic 280, 3) := by decide +kernel
theorem dX9_copy_11 : decode cX9_copy 11 = .ok (.ifCond .ne 6, 3) := by decide +kernel
theorem dX9_copy_14 : decode cX9_copy 14 = .ok (.bipush (-2), 2) := by decide +kernel
theorem dX9_copy_16 : decode cX9_copy 16 = .ok (.ireturn, 1) := by decide +kernel
theorem dX9_copy_17 : decode cX9_copy 17 = .ok (.aload_n 0, 1) := by decide +kernel
theorem dX9_copy_18 : decode cX9_copy 18 = .ok (.getfield 75, 3) := by decide +kernel
theorem dX9_copy_21 : decode cX9_copy 21 = .ok (.iload_n 1, 1) := by decide +kernel
theorem dX9_copy_22 : decode cX9_copy 22 = .ok (.iload_n 2, 1) := by decide +kernel
theorem dX9_copy_23 : decode cX9_copy 23 = .ok (.iload_n 3, 1) := by decide +kernel
theorem dX9_copy_24 : decode cX9_copy 24 = .ok (.iload 4, 2) := by decide +kernel
theorem dX9_copy_26 : decode cX9_copy 26 = .ok (.iload 5, 2) := by decide +kernel
theorem dX9_copy_28 : decode cX9_copy 28 = .ok (.invokevirtual 308, 3) := by decide +kernel
theorem dX9_copy_31 : decode cX9_copy 31 = .ok (.ireturn, 1) := by decide +kernel
theorem dX9_count_0 : decode cX9_count 0 = .ok (.iload_n 1, 1) := by decide +kernel
theorem dX9_count_1 : decode cX9_count 1 = .ok (.tableswitch 105 0 7 #[47, 55, 63, 68, 76, 84, 89, 97], 47) := by decide +kernel
theorem dX9_count_48 : decode cX9_count 48 = .ok (.aload_n 0, 1) := by decide +kernel
theorem dX9_count_49 : decode cX9_count 49 = .ok (.getfield 10, 3) := by decide +kernel
theorem dX9_count_52 : decode cX9_count 52 = .ok (.getfield 312, 3) := by decide +kernel
theorem dX9_count_55 : decode cX9_count 55 = .ok (.ireturn, 1) := by decide +kernel
theorem dX9_count_56 : decode cX9_count 56 = .ok (.aload_n 0, 1) := by decide +kernel
theorem dX9_count_57 : decode cX9_count 57 = .ok (.getfield 26, 3) := by decide +kernel
theorem dX9_count_60 : decode cX9_count 60 = .ok (.getfield 313, 3) := by decide +kernel
theorem dX9_count_63 : decode cX9_count 63 = .ok (.ireturn, 1) := by decide +kernel
theorem dX9_count_64 : decode cX9_count 64 = .ok (.aload_n 0, 1) := by decide +kernel
theorem dX9_count_65 : decode cX9_count 65 = .ok (.getfield 79, 3) := by decide +kernel
theorem dX9_count_68 : decode cX9_count 68 = .ok (.ireturn, 1) := by decide +kernel
theorem dX9_count_69 : decode cX9_count 69 = .ok (.aload_n 0, 1) := by decide +kernel
theorem dX9_count_70 : decode cX9_count 70 = .ok (.getfield 51, 3) := by decide +kernel
theorem dX9_count_73 : decode cX9_count 73 = .ok (.getfield 140, 3) := by decide +kernel
theorem dX9_count_76 : decode cX9_count 76 = .ok (.ireturn, 1) := by decide +kernel
theorem dX9_count_77 : decode cX9_count 77 = .ok (.aload_n 0, 1) := by decide +kernel
theorem dX9_count_78 : decode cX9_count 78 = .ok (.getfield 68, 3) := by decide +kernel
theorem dX9_count_81 : decode cX9_count 81 = .ok (.getfield 248, 3) := by decide +kernel
theorem dX9_count_84 : decode cX9_count 84 = .ok (.ireturn, 1) := by decide +kernel
theorem dX9_count_85 : decode cX9_count 85 = .ok (.aload_n 0, 1) := by decide +kernel
theorem dX9_count_86 : decode cX9_count 86 = .ok (.getfield 90, 3) := by decide +kernel
theorem dX9_count_89 : decode cX9_count 89 = .ok (.ireturn, 1) := by decide +kernel
theorem dX9_count_90 : decode cX9_count 90 = .ok (.aload_n 0, 1) := by decide +kernel
theorem dX9_count_91 : decode cX9_count 91 = .ok (.getfield 75, 3) := by decide +kernel
theorem dX9_count_94 : decode cX9_count 94 = .ok (.getfield 314, 3) := by decide +kernel
theorem dX9_count_97 : decode cX9_count 97 = .ok (.ireturn, 1) := by decide +kernel
theorem dX9_count_98 : decode cX9_count 98 = .ok (.aload_n 0, 1) := by decide +kernel
theorem dX9_count_99 : decode cX9_count 99 = .ok (.getfield 51, 3) := by decide +kernel
theorem dX9_count_102 : decode cX9_count 102 = .ok (.invokevirtual 317, 3) := by decide +kernel
theorem dX9_count_105 : decode cX9_count 105 = .ok (.ireturn, 1) := by decide +kernel
theorem dX9_count_106 : decode cX9_count 106 = .ok (.bipush (-2), 2) := by decide +kernel
theorem dX9_count_108 : decode cX9_count 108 = .ok (.ireturn, 1) := by decide +kernel
theorem dX9_digest_0 : decode cX9_digest 0 = .ok (.ldc2_w 320, 3) := by decide +kernel
theorem dX9_digest_3 : decode cX9_digest 3 = .ok (.lstore_n 1, 1) := by decide +kernel
theorem dX9_digest_4 : decode cX9_digest 4 = .ok (.iconst 0, 1) := by decide +kernel
theorem dX9_digest_5 : decode cX9_digest 5 = .ok (.istore_n 3, 1) := by decide +kernel
theorem dX9_digest_6 : decode cX9_digest 6 = .ok (.iload_n 3, 1) := by decide +kernel
theorem dX9_digest_7 : decode cX9_digest 7 = .ok (.iconst 5, 1) := by decide +kernel
theorem dX9_digest_8 : decode cX9_digest 8 = .ok (.if_icmp .gt 22, 3) := by decide +kernel
theorem dX9_digest_11 : decode cX9_digest 11 = .ok (.ldc2_w 322, 3) := by decide +kernel
theorem dX9_digest_14 : decode cX9_digest 14 = .ok (.lload_n 1, 1) := by decide +kernel
theorem dX9_digest_15 : decode cX9_digest 15 = .ok (.lmul, 1) := by decide +kernel
theorem dX9_digest_16 : decode cX9_digest 16 = .ok (.aload_n 0, 1) := by decide +kernel
theorem dX9_digest_17 : decode cX9_digest 17 = .ok (.iload_n 3, 1) := by decide +kernel
theorem dX9_digest_18 : decode cX9_digest 18 = .ok (.invokevirtual 324, 3) := by decide +kernel
theorem dX9_digest_21 : decode cX9_digest 21 = .ok (.i2l, 1) := by decide +kernel
theorem dX9_digest_22 : decode cX9_digest 22 = .ok (.ladd, 1) := by decide +kernel
theorem dX9_digest_23 : decode cX9_digest 23 = .ok (.lstore_n 1, 1) := by decide +kernel
theorem dX9_digest_24 : decode cX9_digest 24 = .ok (.iinc 3 1, 3) := by decide +kernel
theorem dX9_digest_27 : decode cX9_digest 27 = .ok (.goto (-21), 3) := by decide +kernel
theorem dX9_digest_30 : decode cX9_digest 30 = .ok (.ldc2_w 322, 3) := by decide +kernel
theorem dX9_digest_33 : decode cX9_digest 33 = .ok (.lload_n 1, 1) := by decide +kernel
theorem dX9_digest_34 : decode cX9_digest 34 = .ok (.lmul, 1) := by decide +kernel
theorem dX9_digest_35 : decode cX9_digest 35 = .ok (.aload_n 0, 1) := by decide +kernel
theorem dX9_digest_36 : decode cX9_digest 36 = .ok (.bipush 7, 2) := by decide +kernel
theorem dX9_digest_38 : decode cX9_digest 38 = .ok (.invokevirtual 324, 3) := by decide +kernel
theorem dX9_digest_41 : decode cX9_digest 41 = .ok (.i2l, 1) := by decide +kernel
theorem dX9_digest_42 : decode cX9_digest 42 = .ok (.ladd, 1) := by decide +kernel
theorem dX9_digest_43 : decode cX9_digest 43 = .ok (.lstore_n 1, 1) := by decide +kernel
theorem dX9_digest_44 : decode cX9_digest 44 = .ok (.iconst 0, 1) := by decide +kernel
theorem dX9_digest_45 : decode cX9_digest 45 = .ok (.istore_n 3, 1) := by decide +kernel
theorem dX9_digest_46 : decode cX9_digest 46 = .ok (.iload_n 3, 1) := by decide +kernel
theorem dX9_digest_47 : decode cX9_digest 47 = .ok (.aload_n 0, 1) := by decide +kernel
theorem dX9_digest_48 : decode cX9_digest 48 = .ok (.getfield 26, 3) := by decide +kernel
theorem dX9_digest_51 : decode cX9_digest 51 = .ok (.getfield 313, 3) := by decide +kernel
theorem dX9_digest_54 : decode cX9_digest 54 = .ok (.if_icmp .ge 39, 3) := by decide +kernel
theorem dX9_digest_57 : decode cX9_digest 57 = .ok (.iconst 2, 1) := by decide +kernel
theorem dX9_digest_58 : decode cX9_digest 58 = .ok (.istore 4, 2) := by decide +kernel
theorem dX9_digest_60 : decode cX9_digest 60 = .ok (.iload 4, 2) := by decide +kernel
theorem dX9_digest_62 : decode cX9_digest 62 = .ok (.iconst 4, 1) := by decide +kernel
theorem dX9_digest_63 : decode cX9_digest 63 = .ok (.if_icmp .gt 24, 3) := by decide +kernel
theorem dX9_digest_66 : decode cX9_digest 66 = .ok (.ldc2_w 322, 3) := by decide +kernel
theorem dX9_digest_69 : decode cX9_digest 69 = .ok (.lload_n 1, 1) := by decide +kernel
theorem dX9_digest_70 : decode cX9_digest 70 = .ok (.lmul, 1) := by decide +kernel
theorem dX9_digest_71 : decode cX9_digest 71 = .ok (.aload_n 0, 1) := by decide +kernel
theorem dX9_digest_72 : decode cX9_digest 72 = .ok (.iload_n 3, 1) := by decide +kernel
theorem dX9_digest_73 : decode cX9_digest 73 = .ok (.iload 4, 2) := by decide +kernel
theorem dX9_digest_75 : decode cX9_digest 75 = .ok (.invokevirtual 327, 3) := by decide +kernel
theorem dX9_digest_78 : decode cX9_digest 78 = .ok (.i2l, 1) := by decide +kernel
theorem dX9_digest_79 : decode cX9_digest 79 = .ok (.ladd, 1) := by decide +kernel
theorem dX9_digest_80 : decode cX9_digest 80 = .ok (.lstore_n 1, 1) := by decide +kernel
theorem dX9_digest_81 : decode cX9_digest 81 = .ok (.iinc 4 1, 3) := by decide +kernel
theorem dX9_digest_84 : decode cX9_digest 84 = .ok (.goto (-24), 3) := by decide +kernel
theorem dX9_digest_87 : decode cX9_digest 87 = .ok (.iinc 3 1, 3) := by decide +kernel
theorem dX9_digest_90 : decode cX9_digest 90 = .ok (.goto (-44), 3) := by decide +kernel
theorem dX9_digest_93 : decode cX9_digest 93 = .ok (.iconst 0, 1) := by decide +kernel
theorem dX9_digest_94 : decode cX9_digest 94 = .ok (.istore_n 3, 1) := by decide +kernel
theorem dX9_digest_95 : decode cX9_digest 95 = .ok (.iload_n 3, 1) := by decide +kernel
theorem dX9_digest_96 : decode cX9_digest 96 = .ok (.aload_n 0, 1) := by decide +kernel
theorem dX9_digest_97 : decode cX9_digest 97 = .ok (.getfield 51, 3) := by decide +kernel
theorem dX9_digest_100 : decode cX9_digest 100 = .ok (.getfield 140, 3) := by decide +kernel
theorem dX9_digest_103 : decode cX9_digest 103 = .ok (.if_icmp .ge 40, 3) := by decide +kernel
theorem dX9_digest_106 : decode cX9_digest 106 = .ok (.iconst 3, 1) := by decide +kernel
theorem dX9_digest_107 : decode cX9_digest 107 = .ok (.istore 4, 2) := by decide +kernel
theorem dX9_digest_109 : decode cX9_digest 109 = .ok (.iload 4, 2) := by decide +kernel
theorem dX9_digest_111 : decode cX9_digest 111 = .ok (.bipush 6, 2) := by decide +kernel
theorem dX9_digest_113 : decode cX9_digest 113 = .ok (.if_icmp .gt 24, 3) := by decide +kernel
theorem dX9_digest_116 : decode cX9_digest 116 = .ok (.ldc2_w 322, 3) := by decide +kernel
theorem dX9_digest_119 : decode cX9_digest 119 = .ok (.lload_n 1, 1) := by decide +kernel
theorem dX9_digest_120 : decode cX9_digest 120 = .ok (.lmul, 1) := by decide +kernel
theorem dX9_digest_121 : decode cX9_digest 121 = .ok (.aload_n 0, 1) := by decide +kernel
theorem dX9_digest_122 : decode cX9_digest 122 = .ok (.iload_n 3, 1) := by decide +kernel
theorem dX9_digest_123 : decode cX9_digest 123 = .ok (.iload 4, 2) := by decide +kernel
theorem dX9_digest_125 : decode cX9_digest 125 = .ok (.invokevirtual 330, 3) := by decide +kernel
theorem dX9_digest_128 : decode cX9_digest 128 = .ok (.i2l, 1) := by decide +kernel
theorem dX9_digest_129 : decode cX9_digest 129 = .ok (.ladd, 1) := by decide +kernel
theorem dX9_digest_130 : decode cX9_digest 130 = .ok (.lstore_n 1, 1) := by decide +kernel
theorem dX9_digest_131 : decode cX9_digest 131 = .ok (.iinc 4 1, 3) := by decide +kernel
theorem dX9_digest_134 : decode cX9_digest 134 = .ok (.goto (-25), 3) := by decide +kernel
theorem dX9_digest_137 : decode cX9_digest 137 = .ok (.iinc 3 1, 3) := by decide +kernel
theorem dX9_digest_140 : decode cX9_digest 140 = .ok (.goto (-45), 3) := by decide +kernel
theorem dX9_digest_143 : decode cX9_digest 143 = .ok (.iconst 0, 1) := by decide +kernel
theorem dX9_digest_144 : decode cX9_digest 144 = .ok (.istore_n 3, 1) := by decide +kernel
theorem dX9_digest_145 : decode cX9_digest 145 = .ok (.iload_n 3, 1) := by decide +kernel
theorem dX9_digest_146 : decode cX9_digest 146 = .ok (.bipush 6, 2) := by decide +kernel
theorem dX9_digest_148 : decode cX9_digest 148 = .ok (.if_icmp .gt 22, 3) := by decide +kernel
theorem dX9_digest_151 : decode cX9_digest 151 = .ok (.ldc2_w 322, 3) := by decide +kernel
theorem dX9_digest_154 : decode cX9_digest 154 = .ok (.lload_n 1, 1) := by decide +kernel
theorem dX9_digest_155 : decode cX9_digest 155 = .ok (.lmul, 1) := by decide +kernel
theorem dX9_digest_156 : decode cX9_digest 156 = .ok (.aload_n 0, 1) := by decide +kernel
theorem dX9_digest_157 : decode cX9_digest 157 = .ok (.iload_n 3, 1) := by decide +kernel
theorem dX9_digest_158 : decode cX9_digest 158 = .ok (.invokevirtual 333, 3) := by decide +kernel
theorem dX9_digest_161 : decode cX9_digest 161 = .ok (.i2l, 1) := by decide +kernel
theorem dX9_digest_162 : decode cX9_digest 162 = .ok (.ladd, 1) := by decide +kernel
theorem dX9_digest_163 : decode cX9_digest 163 = .ok (.lstore_n 1, 1) := by decide +kernel
theorem dX9_digest_164 : decode cX9_digest 164 = .ok (.iinc 3 1, 3) := by decide +kernel
theorem dX9_digest_167 : decode cX9_digest 167 = .ok (.goto (-22), 3) := by decide +kernel
theorem dX9_digest_170 : decode cX9_digest 170 = .ok (.iconst 0, 1) := by decide +kernel
theorem dX9_digest_171 : decode cX9_digest 171 = .ok (.istore_n 3, 1) := by decide +kernel
theorem dX9_digest_172 : decode cX9_digest 172 = .ok (.iload_n 3, 1) := by decide +kernel
theorem dX9_digest_173 : decode cX9_digest 173 = .ok (.aload_n 0, 1) := by decide +kernel
theorem dX9_digest_174 : decode cX9_digest 174 = .ok (.getfield 10, 3) := by decide +kernel
theorem dX9_digest_177 : decode cX9_digest 177 = .ok (.getfield 312, 3) := by decide +kernel
theorem dX9_digest_180 : decode cX9_digest 180 = .ok (.if_icmp .ge 47, 3) := by decide +kernel
theorem dX9_digest_183 : decode cX9_digest 183 = .ok (.iconst 0, 1) := by decide +kernel
theorem dX9_digest_184 : decode cX9_digest 184 = .ok (.istore 4, 2) := by decide +kernel
theorem dX9_digest_186 : decode cX9_digest 186 = .ok (.iload 4, 2) := by decide +kernel
theorem dX9_digest_188 : decode cX9_digest 188 = .ok (.aload_n 0, 1) := by decide +kernel
theorem dX9_digest_189 : decode cX9_digest 189 = .ok (.getfield 19, 3) := by decide +kernel
theorem dX9_digest_192 : decode cX9_digest 192 = .ok (.getfield 201, 3) := by decide +kernel
theorem dX9_digest_195 : decode cX9_digest 195 = .ok (.iload_n 3, 1) := by decide +kernel
theorem dX9_digest_196 : decode cX9_digest 196 = .ok (.iaload, 1) := by decide +kernel
theorem dX9_digest_197 : decode cX9_digest 197 = .ok (.if_icmp .ge 24, 3) := by decide +kernel
theorem dX9_digest_200 : decode cX9_digest 200 = .ok (.ldc2_w 322, 3) := by decide +kernel
theorem dX9_digest_203 : decode cX9_digest 203 = .ok (.lload_n 1, 1) := by decide +kernel
theorem dX9_digest_204 : decode cX9_digest 204 = .ok (.lmul, 1) := by decide +kernel
theorem dX9_digest_205 : decode cX9_digest 205 = .ok (.aload_n 0, 1) := by decide +kernel
theorem dX9_digest_206 : decode cX9_digest 206 = .ok (.iload_n 3, 1) := by decide +kernel
theorem dX9_digest_207 : decode cX9_digest 207 = .ok (.iload 4, 2) := by decide +kernel
theorem dX9_digest_209 : decode cX9_digest 209 = .ok (.invokevirtual 336, 3) := by decide +kernel
theorem dX9_digest_212 : decode cX9_digest 212 = .ok (.i2l, 1) := by decide +kernel
theorem dX9_digest_213 : decode cX9_digest 213 = .ok (.ladd, 1) := by decide +kernel
theorem dX9_digest_214 : decode cX9_digest 214 = .ok (.lstore_n 1, 1) := by decide +kernel
theorem dX9_digest_215 : decode cX9_digest 215 = .ok (.iinc 4 1, 3) := by decide +kernel
theorem dX9_digest_218 : decode cX9_digest 218 = .ok (.goto (-32), 3) := by decide +kernel
theorem dX9_digest_221 : decode cX9_digest 221 = .ok (.iinc 3 1, 3) := by decide +kernel
theorem dX9_digest_224 : decode cX9_digest 224 = .ok (.goto (-52), 3) := by decide +kernel
theorem dX9_digest_227 : decode cX9_digest 227 = .ok (.lload_n 1, 1) := by decide +kernel
theorem dX9_digest_228 : decode cX9_digest 228 = .ok (.lreturn, 1) := by decide +kernel
theorem dX9_within_0 : decode cX9_within 0 = .ok (.iload_n 0, 1) := by decide +kernel
theorem dX9_within_1 : decode cX9_within 1 = .ok (.iload_n 1, 1) := by decide +kernel
theorem dX9_within_2 : decode cX9_within 2 = .ok (.if_icmp .lt 12, 3) := by decide +kernel
theorem dX9_within_5 : decode cX9_within 5 = .ok (.iload_n 0, 1) := by decide +kernel
theorem dX9_within_6 : decode cX9_within 6 = .ok (.iload_n 2, 1) := by decide +kernel
theorem dX9_within_7 : decode cX9_within 7 = .ok (.if_icmp .gt 7, 3) := by decide +kernel
theorem dX9_within_10 : decode cX9_within 10 = .ok (.iconst 1, 1) := by decide +kernel
theorem dX9_within_11 : decode cX9_within 11 = .ok (.goto 4, 3) := by decide +kernel
theorem dX9_within_14 : decode cX9_within 14 = .ok (.iconst 0, 1) := by decide +kernel
theorem dX9_within_15 : decode cX9_within 15 = .ok (.ireturn, 1) := by decide +kernel
theorem dX9_isSheet_0 : decode cX9_isSheet 0 = .ok (.iload_n 0, 1) := by decide +kernel
theorem dX9_isSheet_1 : decode cX9_isSheet 1 = .ok (.iconst 0, 1) := by decide +kernel
theorem dX9_isSheet_2 : decode cX9_isSheet 2 = .ok (.iconst 3, 1) := by decide +kernel
theorem dX9_isSheet_3 : decode cX9_isSheet 3 = .ok (.invokestatic 93, 3) := by decide +kernel
theorem dX9_isSheet_6 : decode cX9_isSheet 6 = .ok (.ireturn, 1) := by decide +kernel
theorem dX9_isForm_0 : decode cX9_isForm 0 = .ok (.iload_n 0, 1) := by decide +kernel
theorem dX9_isForm_1 : decode cX9_isForm 1 = .ok (.iconst 0, 1) := by decide +kernel
theorem dX9_isForm_2 : decode cX9_isForm 2 = .ok (.iconst 2, 1) := by decide +kernel
theorem dX9_isForm_3 : decode cX9_isForm 3 = .ok (.invokestatic 93, 3) := by decide +kernel
theorem dX9_isForm_6 : decode cX9_isForm 6 = .ok (.ireturn, 1) := by decide +kernel
theorem dX9_foresee_0 : decode cX9_foresee 0 = .ok (.aload_n 0, 1) := by decide +kernel
theorem dX9_foresee_1 : decode cX9_foresee 1 = .ok (.getfield 37, 3) := by decide +kernel
theorem dX9_foresee_4 : decode cX9_foresee 4 = .ok (.aload_n 0, 1) := by decide +kernel
theorem dX9_foresee_5 : decode cX9_foresee 5 = .ok (.getfield 30, 3) := by decide +kernel
theorem dX9_foresee_8 : decode cX9_foresee 8 = .ok (.iload_n 2, 1) := by decide +kernel
theorem dX9_foresee_9 : decode cX9_foresee 9 = .ok (.aload_n 0, 1) := by decide +kernel
theorem dX9_foresee_10 : decode cX9_foresee 10 = .ok (.getfield 10, 3) := by decide +kernel
theorem dX9_foresee_13 : decode cX9_foresee 13 = .ok (.getfield 338, 3) := by decide +kernel
theorem dX9_foresee_16 : decode cX9_foresee 16 = .ok (.iload_n 1, 1) := by decide +kernel
theorem dX9_foresee_17 : decode cX9_foresee 17 = .ok (.iaload, 1) := by decide +kernel
theorem dX9_foresee_18 : decode cX9_foresee 18 = .ok (.iload_n 3, 1) := by decide +kernel
theorem dX9_foresee_19 : decode cX9_foresee 19 = .ok (.invokevirtual 341, 3) := by decide +kernel
theorem dX9_foresee_22 : decode cX9_foresee 22 = .ok (.aload_n 0, 1) := by decide +kernel
theorem dX9_foresee_23 : decode cX9_foresee 23 = .ok (.getfield 44, 3) := by decide +kernel
theorem dX9_foresee_26 : decode cX9_foresee 26 = .ok (.aload_n 0, 1) := by decide +kernel
theorem dX9_foresee_27 : decode cX9_foresee 27 = .ok (.getfield 19, 3) := by decide +kernel
theorem dX9_foresee_30 : decode cX9_foresee 30 = .ok (.iload_n 1, 1) := by decide +kernel
theorem dX9_foresee_31 : decode cX9_foresee 31 = .ok (.aload_n 0, 1) := by decide +kernel
theorem dX9_foresee_32 : decode cX9_foresee 32 = .ok (.getfield 37, 3) := by decide +kernel
theorem dX9_foresee_35 : decode cX9_foresee 35 = .ok (.getfield 345, 3) := by decide +kernel
theorem dX9_foresee_38 : decode cX9_foresee 38 = .ok (.aload_n 0, 1) := by decide +kernel
theorem dX9_foresee_39 : decode cX9_foresee 39 = .ok (.getfield 30, 3) := by decide +kernel
theorem dX9_foresee_42 : decode cX9_foresee 42 = .ok (.iconst 4, 1) := by decide +kernel
theorem dX9_foresee_43 : decode cX9_foresee 43 = .ok (.iaload, 1) := by decide +kernel
theorem dX9_foresee_44 : decode cX9_foresee 44 = .ok (.invokevirtual 207, 3) := by decide +kernel
theorem dX9_foresee_47 : decode cX9_foresee 47 = .ok (.aload_n 0, 1) := by decide +kernel
theorem dX9_foresee_48 : decode cX9_foresee 48 = .ok (.getfield 37, 3) := by decide +kernel
theorem dX9_foresee_51 : decode cX9_foresee 51 = .ok (.aload_n 0, 1) := by decide +kernel
theorem dX9_foresee_52 : decode cX9_foresee 52 = .ok (.getfield 44, 3) := by decide +kernel
theorem dX9_foresee_55 : decode cX9_foresee 55 = .ok (.getfield 211, 3) := by decide +kernel
theorem dX9_foresee_58 : decode cX9_foresee 58 = .ok (.invokevirtual 348, 3) := by decide +kernel
theorem dX9_foresee_61 : decode cX9_foresee 61 = .ok (.return_, 1) := by decide +kernel
theorem dX9_paysMore_0 : decode cX9_paysMore 0 = .ok (.iload_n 0, 1) := by decide +kernel
theorem dX9_paysMore_1 : decode cX9_paysMore 1 = .ok (.ifCond .gt 5, 3) := by decide +kernel
theorem dX9_paysMore_4 : decode cX9_paysMore 4 = .ok (.iconst 0, 1) := by decide +kernel
theorem dX9_paysMore_5 : decode cX9_paysMore 5 = .ok (.ireturn, 1) := by decide +kernel
theorem dX9_paysMore_6 : decode cX9_paysMore 6 = .ok (.iload_n 3, 1) := by decide +kernel
theorem dX9_paysMore_7 : decode cX9_paysMore 7 = .ok (.iconst (-1), 1) := by decide +kernel
theorem dX9_paysMore_8 : decode cX9_paysMore 8 = .ok (.if_icmp .ne 5, 3) := by decide +kernel
theorem dX9_paysMore_11 : decode cX9_paysMore 11 = .ok (.iconst 1, 1) := by decide +kernel
theorem dX9_paysMore_12 : decode cX9_paysMore 12 = .ok (.ireturn, 1) := by decide +kernel
theorem dX9_paysMore_13 : decode cX9_paysMore 13 = .ok (.iload_n 0, 1) := by decide +kernel
theorem dX9_paysMore_14 : decode cX9_paysMore 14 = .ok (.i2l, 1) := by decide +kernel
theorem dX9_paysMore_15 : decode cX9_paysMore 15 = .ok (.iload_n 3, 1) := by decide +kernel
theorem dX9_paysMore_16 : decode cX9_paysMore 16 = .ok (.i2l, 1) := by decide +kernel
theorem dX9_paysMore_17 : decode cX9_paysMore 17 = .ok (.lmul, 1) := by decide +kernel
theorem dX9_paysMore_18 : decode cX9_paysMore 18 = .ok (.lstore 4, 2) := by decide +kernel
theorem dX9_paysMore_20 : decode cX9_paysMore 20 = .ok (.iload_n 2, 1) := by decide +kernel
theorem dX9_paysMore_21 : decode cX9_paysMore 21 = .ok (.i2l, 1) := by decide +kernel
theorem dX9_paysMore_22 : decode cX9_paysMore 22 = .ok (.iload_n 1, 1) := by decide +kernel
theorem dX9_paysMore_23 : decode cX9_paysMore 23 = .ok (.i2l, 1) := by decide +kernel
theorem dX9_paysMore_24 : decode cX9_paysMore 24 = .ok (.lmul, 1) := by decide +kernel
theorem dX9_paysMore_25 : decode cX9_paysMore 25 = .ok (.lstore 6, 2) := by decide +kernel
theorem dX9_paysMore_27 : decode cX9_paysMore 27 = .ok (.lload 4, 2) := by decide +kernel
theorem dX9_paysMore_29 : decode cX9_paysMore 29 = .ok (.lload 6, 2) := by decide +kernel
theorem dX9_paysMore_31 : decode cX9_paysMore 31 = .ok (.lcmp, 1) := by decide +kernel
theorem dX9_paysMore_32 : decode cX9_paysMore 32 = .ok (.ifCond .gt 16, 3) := by decide +kernel
theorem dX9_paysMore_35 : decode cX9_paysMore 35 = .ok (.lload 4, 2) := by decide +kernel
theorem dX9_paysMore_37 : decode cX9_paysMore 37 = .ok (.lload 6, 2) := by decide +kernel
theorem dX9_paysMore_39 : decode cX9_paysMore 39 = .ok (.lcmp, 1) := by decide +kernel
theorem dX9_paysMore_40 : decode cX9_paysMore 40 = .ok (.ifCond .ne 12, 3) := by decide +kernel
theorem dX9_paysMore_43 : decode cX9_paysMore 43 = .ok (.iload_n 1, 1) := by decide +kernel
theorem dX9_paysMore_44 : decode cX9_paysMore 44 = .ok (.iload_n 3, 1) := by decide +kernel
theorem dX9_paysMore_45 : decode cX9_paysMore 45 = .ok (.if_icmp .ge 7, 3) := by decide +kernel
theorem dX9_paysMore_48 : decode cX9_paysMore 48 = .ok (.iconst 1, 1) := by decide +kernel
theorem dX9_paysMore_49 : decode cX9_paysMore 49 = .ok (.goto 4, 3) := by decide +kernel
theorem dX9_paysMore_52 : decode cX9_paysMore 52 = .ok (.iconst 0, 1) := by decide +kernel
theorem dX9_paysMore_53 : decode cX9_paysMore 53 = .ok (.ireturn, 1) := by decide +kernel
theorem dX10_init_0 : decode cX10_init 0 = .ok (.aload_n 0, 1) := by decide +kernel
theorem dX10_init_1 : decode cX10_init 1 = .ok (.invokespecial 1, 3) := by decide +kernel
theorem dX10_init_4 : decode cX10_init 4 = .ok (.aload_n 0, 1) := by decide +kernel
theorem dX10_init_5 : decode cX10_init 5 = .ok (.bipush 6, 2) := by decide +kernel
theorem dX10_init_7 : decode cX10_init 7 = .ok (.newarray .int, 2) := by decide +kernel
theorem dX10_init_9 : decode cX10_init 9 = .ok (.putfield 7, 3) := by decide +kernel
theorem dX10_init_12 : decode cX10_init 12 = .ok (.aload_n 0, 1) := by decide +kernel
theorem dX10_init_13 : decode cX10_init 13 = .ok (.bipush 8, 2) := by decide +kernel
theorem dX10_init_15 : decode cX10_init 15 = .ok (.newarray .int, 2) := by decide +kernel
theorem dX10_init_17 : decode cX10_init 17 = .ok (.putfield 13, 3) := by decide +kernel
theorem dX10_init_20 : decode cX10_init 20 = .ok (.aload_n 0, 1) := by decide +kernel
theorem dX10_init_21 : decode cX10_init 21 = .ok (.bipush 8, 2) := by decide +kernel
theorem dX10_init_23 : decode cX10_init 23 = .ok (.newarray .int, 2) := by decide +kernel
theorem dX10_init_25 : decode cX10_init 25 = .ok (.putfield 16, 3) := by decide +kernel
theorem dX10_init_28 : decode cX10_init 28 = .ok (.aload_n 0, 1) := by decide +kernel
theorem dX10_init_29 : decode cX10_init 29 = .ok (.bipush 8, 2) := by decide +kernel
theorem dX10_init_31 : decode cX10_init 31 = .ok (.newarray .int, 2) := by decide +kernel
theorem dX10_init_33 : decode cX10_init 33 = .ok (.putfield 19, 3) := by decide +kernel
theorem dX10_init_36 : decode cX10_init 36 = .ok (.aload_n 0, 1) := by decide +kernel
theorem dX10_init_37 : decode cX10_init 37 = .ok (.bipush 8, 2) := by decide +kernel
theorem dX10_init_39 : decode cX10_init 39 = .ok (.newarray .int, 2) := by decide +kernel
theorem dX10_init_41 : decode cX10_init 41 = .ok (.putfield 22, 3) := by decide +kernel
theorem dX10_init_44 : decode cX10_init 44 = .ok (.aload_n 0, 1) := by decide +kernel
theorem dX10_init_45 : decode cX10_init 45 = .ok (.bipush 12, 2) := by decide +kernel
theorem dX10_init_47 : decode cX10_init 47 = .ok (.newarray .int, 2) := by decide +kernel
theorem dX10_init_49 : decode cX10_init 49 = .ok (.putfield 25, 3) := by decide +kernel
theorem dX10_init_52 : decode cX10_init 52 = .ok (.aload_n 0, 1) := by decide +kernel
theorem dX10_init_53 : decode cX10_init 53 = .ok (.bipush 12, 2) := by decide +kernel
theorem dX10_init_55 : decode cX10_init 55 = .ok (.newarray .int, 2) := by decide +kernel
theorem dX10_init_57 : decode cX10_init 57 = .ok (.putfield 28, 3) := by decide +kernel
theorem dX10_init_60 : decode cX10_init 60 = .ok (.aload_n 0, 1) := by decide +kernel
theorem dX10_init_61 : decode cX10_init 61 = .ok (.bipush 12, 2) := by decide +kernel
theorem dX10_init_63 : decode cX10_init 63 = .ok (.newarray .int, 2) := by decide +kernel
theorem dX10_init_65 : decode cX10_init 65 = .ok (.putfield 31, 3) := by decide +kernel
theorem dX10_init_68 : decode cX10_init 68 = .ok (.aload_n 0, 1) := by decide +kernel
theorem dX10_init_69 : decode cX10_init 69 = .ok (.bipush 12, 2) := by decide +kernel
theorem dX10_init_71 : decode cX10_init 71 = .ok (.newarray .int, 2) := by decide +kernel
theorem dX10_init_73 : decode cX10_init 73 = .ok (.putfield 34, 3) := by decide +kernel
theorem dX10_init_76 : decode cX10_init 76 = .ok (.aload_n 0, 1) := by decide +kernel
theorem dX10_init_77 : decode cX10_init 77 = .ok (.bipush 12, 2) := by decide +kernel
theorem dX10_init_79 : decode cX10_init 79 = .ok (.newarray .int, 2) := by decide +kernel
theorem dX10_init_81 : decode cX10_init 81 = .ok (.putfield 37, 3) := by decide +kernel
theorem dX10_init_84 : decode cX10_init 84 = .ok (.aload_n 0, 1) := by decide +kernel
theorem dX10_init_85 : decode cX10_init 85 = .ok (.sipush 200, 3) := by decide +kernel
theorem dX10_init_88 : decode cX10_init 88 = .ok (.newarray .int, 2) := by decide +kernel
theorem dX10_init_90 : decode cX10_init 90 = .ok (.putfield 40, 3) := by decide +kernel
theorem dX10_init_93 : decode cX10_init 93 = .ok (.aload_n 0, 1) := by decide +kernel
theorem dX10_init_94 : decode cX10_init 94 = .ok (.sipush 200, 3) := by decide +kernel
theorem dX10_init_97 : decode cX10_init 97 = .ok (.newarray .int, 2) := by decide +kernel
theorem dX10_init_99 : decode cX10_init 99 = .ok (.putfield 43, 3) := by decide +kernel
theorem dX10_init_102 : decode cX10_init 102 = .ok (.aload_n 0, 1) := by decide +kernel
theorem dX10_init_103 : decode cX10_init 103 = .ok (.sipush 200, 3) := by decide +kernel
theorem dX10_init_106 : decode cX10_init 106 = .ok (.newarray .int, 2) := by decide +kernel
theorem dX10_init_108 : decode cX10_init 108 = .ok (.putfield 46, 3) := by decide +kernel
theorem dX10_init_111 : decode cX10_init 111 = .ok (.aload_n 0, 1) := by decide +kernel
theorem dX10_init_112 : decode cX10_init 112 = .ok (.sipush 200, 3) := by decide +kernel
theorem dX10_init_115 : decode cX10_init 115 = .ok (.newarray .int, 2) := by decide +kernel
theorem dX10_init_117 : decode cX10_init 117 = .ok (.putfield 49, 3) := by decide +kernel
theorem dX10_init_120 : decode cX10_init 120 = .ok (.aload_n 0, 1) := by decide +kernel
theorem dX10_init_121 : decode cX10_init 121 = .ok (.sipush 200, 3) := by decide +kernel
theorem dX10_init_124 : decode cX10_init 124 = .ok (.newarray .int, 2) := by decide +kernel
theorem dX10_init_126 : decode cX10_init 126 = .ok (.putfield 52, 3) := by decide +kernel
theorem dX10_init_129 : decode cX10_init 129 = .ok (.aload_n 0, 1) := by decide +kernel
theorem dX10_init_130 : decode cX10_init 130 = .ok (.sipush 200, 3) := by decide +kernel
theorem dX10_init_133 : decode cX10_init 133 = .ok (.newarray .int, 2) := by decide +kernel
theorem dX10_init_135 : decode cX10_init 135 = .ok (.putfield 55, 3) := by decide +kernel
theorem dX10_init_138 : decode cX10_init 138 = .ok (.aload_n 0, 1) := by decide +kernel
theorem dX10_init_139 : decode cX10_init 139 = .ok (.sipush 200, 3) := by decide +kernel
theorem dX10_init_142 : decode cX10_init 142 = .ok (.newarray .int, 2) := by decide +kernel
theorem dX10_init_144 : decode cX10_init 144 = .ok (.putfield 58, 3) := by decide +kernel
theorem dX10_init_147 : decode cX10_init 147 = .ok (.aload_n 0, 1) := by decide +kernel
theorem dX10_init_148 : decode cX10_init 148 = .ok (.sipush 200, 3) := by decide +kernel
theorem dX10_init_151 : decode cX10_init 151 = .ok (.newarray .int, 2) := by decide +kernel
theorem dX10_init_153 : decode cX10_init 153 = .ok (.putfield 61, 3) := by decide +kernel
theorem dX10_init_156 : decode cX10_init 156 = .ok (.aload_n 0, 1) := by decide +kernel
theorem dX10_init_157 : decode cX10_init 157 = .ok (.iconst (-1), 1) := by decide +kernel
theorem dX10_init_158 : decode cX10_init 158 = .ok (.putfield 64, 3) := by decide +kernel
theorem dX10_init_161 : decode cX10_init 161 = .ok (.aload_n 0, 1) := by decide +kernel
theorem dX10_init_162 : decode cX10_init 162 = .ok (.iconst (-1), 1) := by decide +kernel
theorem dX10_init_163 : decode cX10_init 163 = .ok (.putfield 68, 3) := by decide +kernel
theorem dX10_init_166 : decode cX10_init 166 = .ok (.aload_n 0, 1) := by decide +kernel
theorem dX10_init_167 : decode cX10_init 167 = .ok (.bipush 7, 2) := by decide +kernel
theorem dX10_init_169 : decode cX10_init 169 = .ok (.newarray .long, 2) := by decide +kernel
theorem dX10_init_171 : decode cX10_init 171 = .ok (.putfield 71, 3) := by decide +kernel
theorem dX10_init_174 : decode cX10_init 174 = .ok (.aload_n 0, 1) := by decide +kernel
theorem dX10_init_175 : decode cX10_init 175 = .ok (.bipush 8, 2) := by decide +kernel
theorem dX10_init_177 : decode cX10_init 177 = .ok (.newarray .int, 2) := by decide +kernel
theorem dX10_init_179 : decode cX10_init 179 = .ok (.putfield 75, 3) := by decide +kernel
theorem dX10_init_182 : decode cX10_init 182 = .ok (.aload_n 0, 1) := by decide +kernel
theorem dX10_init_183 : decode cX10_init 183 = .ok (.bipush 24, 2) := by decide +kernel
theorem dX10_init_185 : decode cX10_init 185 = .ok (.newarray .int, 2) := by decide +kernel
theorem dX10_init_187 : decode cX10_init 187 = .ok (.putfield 78, 3) := by decide +kernel
theorem dX10_init_190 : decode cX10_init 190 = .ok (.aload_n 0, 1) := by decide +kernel
theorem dX10_init_191 : decode cX10_init 191 = .ok (.bipush 24, 2) := by decide +kernel
theorem dX10_init_193 : decode cX10_init 193 = .ok (.newarray .int, 2) := by decide +kernel
theorem dX10_init_195 : decode cX10_init 195 = .ok (.putfield 81, 3) := by decide +kernel
theorem dX10_init_198 : decode cX10_init 198 = .ok (.aload_n 0, 1) := by decide +kernel
theorem dX10_init_199 : decode cX10_init 199 = .ok (.iconst 3, 1) := by decide +kernel
theorem dX10_init_200 : decode cX10_init 200 = .ok (.newarray .int, 2) := by decide +kernel
theorem dX10_init_202 : decode cX10_init 202 = .ok (.putfield 84, 3) := by decide +kernel
theorem dX10_init_205 : decode cX10_init 205 = .ok (.aload_n 0, 1) := by decide +kernel
theorem dX10_init_206 : decode cX10_init 206 = .ok (.bipush 6, 2) := by decide +kernel
theorem dX10_init_208 : decode cX10_init 208 = .ok (.newarray .int, 2) := by decide +kernel
theorem dX10_init_210 : decode cX10_init 210 = .ok (.putfield 87, 3) := by decide +kernel
theorem dX10_init_213 : decode cX10_init 213 = .ok (.aload_n 0, 1) := by decide +kernel
theorem dX10_init_214 : decode cX10_init 214 = .ok (.bipush 7, 2) := by decide +kernel
theorem dX10_init_216 : decode cX10_init 216 = .ok (.newarray .int, 2) := by decide +kernel
theorem dX10_init_218 : decode cX10_init 218 = .ok (.putfield 90, 3) := by decide +kernel
theorem dX10_init_221 : decode cX10_init 221 = .ok (.aload_n 0, 1) := by decide +kernel
theorem dX10_init_222 : decode cX10_init 222 = .ok (.bipush 7, 2) := by decide +kernel
theorem dX10_init_224 : decode cX10_init 224 = .ok (.newarray .int, 2) := by decide +kernel
theorem dX10_init_226 : decode cX10_init 226 = .ok (.putfield 93, 3) := by decide +kernel
theorem dX10_init_229 : decode cX10_init 229 = .ok (.aload_n 0, 1) := by decide +kernel
theorem dX10_init_230 : decode cX10_init 230 = .ok (.bipush 7, 2) := by decide +kernel
theorem dX10_init_232 : decode cX10_init 232 = .ok (.newarray .int, 2) := by decide +kernel
theorem dX10_init_234 : decode cX10_init 234 = .ok (.putfield 96, 3) := by decide +kernel
theorem dX10_init_237 : decode cX10_init 237 = .ok (.aload_n 0, 1) := by decide +kernel
theorem dX10_init_238 : decode cX10_init 238 = .ok (.iconst 2, 1) := by decide +kernel
theorem dX10_init_239 : decode cX10_init 239 = .ok (.putfield 99, 3) := by decide +kernel
theorem dX10_init_242 : decode cX10_init 242 = .ok (.aload_n 0, 1) := by decide +kernel
theorem dX10_init_243 : decode cX10_init 243 = .ok (.bipush 7, 2) := by decide +kernel
theorem dX10_init_245 : decode cX10_init 245 = .ok (.newarray .int, 2) := by decide +kernel
theorem dX10_init_247 : decode cX10_init 247 = .ok (.putfield 102, 3) := by decide +kernel
theorem dX10_init_250 : decode cX10_init 250 = .ok (.aload_n 0, 1) := by decide +kernel
theorem dX10_init_251 : decode cX10_init 251 = .ok (.bipush 7, 2) := by decide +kernel
theorem dX10_init_253 : decode cX10_init 253 = .ok (.newarray .int, 2) := by decide +kernel
theorem dX10_init_255 : decode cX10_init 255 = .ok (.putfield 105, 3) := by decide +kernel
theorem dX10_init_258 : decode cX10_init 258 = .ok (.aload_n 0, 1) := by decide +kernel
theorem dX10_init_259 : decode cX10_init 259 = .ok (.ldc 108, 2) := by decide +kernel
theorem dX10_init_261 : decode cX10_init 261 = .ok (.putfield 109, 3) := by decide +kernel
theorem dX10_init_264 : decode cX10_init 264 = .ok (.aload_n 0, 1) := by decide +kernel
theorem dX10_init_265 : decode cX10_init 265 = .ok (.sipush 200, 3) := by decide +kernel
theorem dX10_init_268 : decode cX10_init 268 = .ok (.newarray .boolean, 2) := by decide +kernel
theorem dX10_init_270 : decode cX10_init 270 = .ok (.putfield 112, 3) := by decide +kernel
theorem dX10_init_273 : decode cX10_init 273 = .ok (.aload_n 0, 1) := by decide +kernel
theorem dX10_init_274 : decode cX10_init 274 = .ok (.iconst 4, 1) := by decide +kernel
theorem dX10_init_275 : decode cX10_init 275 = .ok (.newarray .int, 2) := by decide +kernel
theorem dX10_init_277 : decode cX10_init 277 = .ok (.putfield 116, 3) := by decide +kernel
theorem dX10_init_280 : decode cX10_init 280 = .ok (.aload_n 0, 1) := by decide +kernel
theorem dX10_init_281 : decode cX10_init 281 = .ok (.iconst 4, 1) := by decide +kernel
theorem dX10_init_282 : decode cX10_init 282 = .ok (.newarray .int, 2) := by decide +kernel
theorem dX10_init_284 : decode cX10_init 284 = .ok (.putfield 119, 3) := by decide +kernel
theorem dX10_init_287 : decode cX10_init 287 = .ok (.aload_n 0, 1) := by decide +kernel
theorem dX10_init_288 : decode cX10_init 288 = .ok (.sipush 800, 3) := by decide +kernel
theorem dX10_init_291 : decode cX10_init 291 = .ok (.newarray .int, 2) := by decide +kernel
theorem dX10_init_293 : decode cX10_init 293 = .ok (.putfield 122, 3) := by decide +kernel
theorem dX10_init_296 : decode cX10_init 296 = .ok (.aload_n 0, 1) := by decide +kernel
theorem dX10_init_297 : decode cX10_init 297 = .ok (.sipush 200, 3) := by decide +kernel
theorem dX10_init_300 : decode cX10_init 300 = .ok (.newarray .int, 2) := by decide +kernel
theorem dX10_init_302 : decode cX10_init 302 = .ok (.putfield 125, 3) := by decide +kernel
theorem dX10_init_305 : decode cX10_init 305 = .ok (.aload_n 0, 1) := by decide +kernel
theorem dX10_init_306 : decode cX10_init 306 = .ok (.getfield 7, 3) := by decide +kernel
theorem dX10_init_309 : decode cX10_init 309 = .ok (.iconst 0, 1) := by decide +kernel
theorem dX10_init_310 : decode cX10_init 310 = .ok (.bipush 20, 2) := by decide +kernel
theorem dX10_init_312 : decode cX10_init 312 = .ok (.iastore, 1) := by decide +kernel
theorem dX10_init_313 : decode cX10_init 313 = .ok (.aload_n 0, 1) := by decide +kernel
theorem dX10_init_314 : decode cX10_init 314 = .ok (.getfield 7, 3) := by decide +kernel
theorem dX10_init_317 : decode cX10_init 317 = .ok (.iconst 1, 1) := by decide +kernel
theorem dX10_init_318 : decode cX10_init 318 = .ok (.sipush 500, 3) := by decide +kernel
theorem dX10_init_321 : decode cX10_init 321 = .ok (.iastore, 1) := by decide +kernel
theorem dX10_init_322 : decode cX10_init 322 = .ok (.aload_n 0, 1) := by decide +kernel
theorem dX10_init_323 : decode cX10_init 323 = .ok (.getfield 7, 3) := by decide +kernel
theorem dX10_init_326 : decode cX10_init 326 = .ok (.iconst 2, 1) := by decide +kernel
theorem dX10_init_327 : decode cX10_init 327 = .ok (.sipush 300, 3) := by decide +kernel
theorem dX10_init_330 : decode cX10_init 330 = .ok (.iastore, 1) := by decide +kernel
theorem dX10_init_331 : decode cX10_init 331 = .ok (.aload_n 0, 1) := by decide +kernel
theorem dX10_init_332 : decode cX10_init 332 = .ok (.getfield 7, 3) := by decide +kernel
theorem dX10_init_335 : decode cX10_init 335 = .ok (.iconst 3, 1) := by decide +kernel
theorem dX10_init_336 : decode cX10_init 336 = .ok (.sipush 400, 3) := by decide +kernel
theorem dX10_init_339 : decode cX10_init 339 = .ok (.iastore, 1) := by decide +kernel
theorem dX10_init_340 : decode cX10_init 340 = .ok (.aload_n 0, 1) := by decide +kernel
theorem dX10_init_341 : decode cX10_init 341 = .ok (.getfield 7, 3) := by decide +kernel
theorem dX10_init_344 : decode cX10_init 344 = .ok (.iconst 4, 1) := by decide +kernel
theorem dX10_init_345 : decode cX10_init 345 = .ok (.iconst 5, 1) := by decide +kernel
theorem dX10_init_346 : decode cX10_init 346 = .ok (.iastore, 1) := by decide +kernel
theorem dX10_init_347 : decode cX10_init 347 = .ok (.aload_n 0, 1) := by decide +kernel
theorem dX10_init_348 : decode cX10_init 348 = .ok (.getfield 7, 3) := by decide +kernel
theorem dX10_init_351 : decode cX10_init 351 = .ok (.iconst 5, 1) := by decide +kernel
theorem dX10_init_352 : decode cX10_init 352 = .ok (.iconst 5, 1) := by decide +kernel
theorem dX10_init_353 : decode cX10_init 353 = .ok (.iastore, 1) := by decide +kernel
theorem dX10_init_354 : decode cX10_init 354 = .ok (.iconst 0, 1) := by decide +kernel
theorem dX10_init_355 : decode cX10_init 355 = .ok (.istore_n 1, 1) := by decide +kernel
theorem dX10_init_356 : decode cX10_init 356 = .ok (.iload_n 1, 1) := by decide +kernel
theorem dX10_init_357 : decode cX10_init 357 = .ok (.iconst 4, 1) := by decide +kernel
theorem dX10_init_358 : decode cX10_init 358 = .ok (.if_icmp .ge 16, 3) := by decide +kernel
theorem dX10_init_361 : decode cX10_init 361 = .ok (.aload_n 0, 1) := by decide +kernel
theorem dX10_init_362 : decode cX10_init 362 = .ok (.getfield 116, 3) := by decide +kernel
theorem dX10_init_365 : decode cX10_init 365 = .ok (.iload_n 1, 1) := by decide +kernel
theorem dX10_init_366 : decode cX10_init 366 = .ok (.iconst (-1), 1) := by decide +kernel
theorem dX10_init_367 : decode cX10_init 367 = .ok (.iastore, 1) := by decide +kernel
theorem dX10_init_368 : decode cX10_init 368 = .ok (.iinc 1 1, 3) := by decide +kernel
theorem dX10_init_371 : decode cX10_init 371 = .ok (.goto (-15), 3) := by decide +kernel
theorem dX10_init_374 : decode cX10_init 374 = .ok (.return_, 1) := by decide +kernel
theorem dX10_in_0 : decode cX10_in 0 = .ok (.lload_n 0, 1) := by decide +kernel
theorem dX10_in_1 : decode cX10_in 1 = .ok (.lload_n 2, 1) := by decide +kernel
theorem dX10_in_2 : decode cX10_in 2 = .ok (.lcmp, 1) := by decide +kernel
theorem dX10_in_3 : decode cX10_in 3 = .ok (.ifCond .lt 14, 3) := by decide +kernel
theorem dX10_in_6 : decode cX10_in 6 = .ok (.lload_n 0, 1) := by decide +kernel
theorem dX10_in_7 : decode cX10_in 7 = .ok (.lload 4, 2) := by decide +kernel
theorem dX10_in_9 : decode cX10_in 9 = .ok (.lcmp, 1) := by decide +kernel
theorem dX10_in_10 : decode cX10_in 10 = .ok (.ifCond .gt 7, 3) := by decide +kernel
theorem dX10_in_13 : decode cX10_in 13 = .ok (.iconst 1, 1) := by decide +kernel
theorem dX10_in_14 : decode cX10_in 14 = .ok (.goto 4, 3) := by decide +kernel
theorem dX10_in_17 : decode cX10_in 17 = .ok (.iconst 0, 1) := by decide +kernel
theorem dX10_in_18 : decode cX10_in 18 = .ok (.ireturn, 1) := by decide +kernel
theorem dX10_isProfile_0 : decode cX10_isProfile 0 = .ok (.iload_n 1, 1) := by decide +kernel
theorem dX10_isProfile_1 : decode cX10_isProfile 1 = .ok (.i2l, 1) := by decide +kernel
theorem dX10_isProfile_2 : decode cX10_isProfile 2 = .ok (.lconst 0, 1) := by decide +kernel
theorem dX10_isProfile_3 : decode cX10_isProfile 3 = .ok (.aload_n 0, 1) := by decide +kernel
theorem dX10_isProfile_4 : decode cX10_isProfile 4 = .ok (.getfield 128, 3) := by decide +kernel
theorem dX10_isProfile_7 : decode cX10_isProfile 7 = .ok (.iconst 1, 1) := by decide +kernel
theorem dX10_isProfile_8 : decode cX10_isProfile 8 = .ok (.isub, 1) := by decide +kernel
theorem dX10_isProfile_9 : decode cX10_isProfile 9 = .ok (.i2l, 1) := by decide +kernel
theorem dX10_isProfile_10 : decode cX10_isProfile 10 = .ok (.invokestatic 131, 3) := by decide +kernel
theorem dX10_isProfile_13 : decode cX10_isProfile 13 = .ok (.ireturn, 1) := by decide +kernel
theorem dX10_isDie_0 : decode cX10_isDie 0 = .ok (.iload_n 1, 1) := by decide +kernel
theorem dX10_isDie_1 : decode cX10_isDie 1 = .ok (.i2l, 1) := by decide +kernel
theorem dX10_isDie_2 : decode cX10_isDie 2 = .ok (.lconst 0, 1) := by decide +kernel
theorem dX10_isDie_3 : decode cX10_isDie 3 = .ok (.aload_n 0, 1) := by decide +kernel
theorem dX10_isDie_4 : decode cX10_isDie 4 = .ok (.getfield 135, 3) := by decide +kernel
theorem dX10_isDie_7 : decode cX10_isDie 7 = .ok (.iconst 1, 1) := by decide +kernel
theorem dX10_isDie_8 : decode cX10_isDie 8 = .ok (.isub, 1) := by decide +kernel
theorem dX10_isDie_9 : decode cX10_isDie 9 = .ok (.i2l, 1) := by decide +kernel
theorem dX10_isDie_10 : decode cX10_isDie 10 = .ok (.invokestatic 131, 3) := by decide +kernel
theorem dX10_isDie_13 : decode cX10_isDie 13 = .ok (.ireturn, 1) := by decide +kernel
theorem dX10_profile_0 : decode cX10_profile 0 = .ok (.iload_n 1, 1) := by decide +kernel
theorem dX10_profile_1 : decode cX10_profile 1 = .ok (.i2l, 1) := by decide +kernel
theorem dX10_profile_2 : decode cX10_profile 2 = .ok (.lconst 0, 1) := by decide +kernel
theorem dX10_profile_3 : decode cX10_profile 3 = .ok (.ldc2_w 138, 3) := by decide +kernel
theorem dX10_profile_6 : decode cX10_profile 6 = .ok (.invokestatic 131, 3) := by decide +kernel
theorem dX10_profile_9 : decode cX10_profile 9 = .ok (.ifCond .eq 44, 3) := by decide +kernel
theorem dX10_profile_12 : decode cX10_profile 12 = .ok (.iload_n 2, 1) := by decide +kernel
theorem dX10_profile_13 : decode cX10_profile 13 = .ok (.i2l, 1) := by decide +kernel
theorem dX10_profile_14 : decode cX10_profile 14 = .ok (.ldc2_w 140, 3) := by decide +kernel
theorem dX10_profile_17 : decode cX10_profile 17 = .ok (.ldc2_w 142, 3) := by decide +kernel
theorem dX10_profile_20 : decode cX10_profile 20 = .ok (.invokestatic 131, 3) := by decide +kernel
theorem dX10_profile_23 : decode cX10_profile 23 = .ok (.ifCond .eq 30, 3) := by decide +kernel
theorem dX10_profile_26 : decode cX10_profile 26 = .ok (.iload_n 3, 1) := by decide +kernel
theorem dX10_profile_27 : decode cX10_profile 27 = .ok (.i2l, 1) := by decide +kernel
theorem dX10_profile_28 : decode cX10_profile 28 = .ok (.lconst 0, 1) := by decide +kernel
theorem dX10_profile_29 : decode cX10_profile 29 = .ok (.ldc2_w 144, 3) := by decide +kernel
theorem dX10_profile_32 : decode cX10_profile 32 = .ok (.invokestatic 131, 3) := by decide +kernel
theorem dX10_profile_35 : decode cX10_profile 35 = .ok (.ifCond .eq 18, 3) := by decide +kernel
theorem dX10_profile_38 : decode cX10_profile 38 = .ok (.iload 4, 2) := by decide +kernel
theorem dX10_profile_40 : decode cX10_profile 40 = .ok (.i2l, 1) := by decide +kernel
theorem dX10_profile_41 : decode cX10_profile 41 = .ok (.ldc2_w 146, 3) := by decide +kernel
theorem dX10_profile_44 : decode cX10_profile 44 = .ok (.ldc2_w 148, 3) := by decide +kernel
theorem dX10_profile_47 : decode cX10_profile 47 = .ok (.invokestatic 131, 3) := by decide +kernel
theorem dX10_profile_50 : decode cX10_profile 50 = .ok (.ifCond .ne 6, 3) := by decide +kernel
theorem dX10_profile_53 : decode cX10_profile 53 = .ok (.bipush (-2), 2) := by decide +kernel
theorem dX10_profile_55 : decode cX10_profile 55 = .ok (.ireturn, 1) := by decide +kernel
theorem dX10_profile_56 : decode cX10_profile 56 = .ok (.aload_n 0, 1) := by decide +kernel
theorem dX10_profile_57 : decode cX10_profile 57 = .ok (.getfield 128, 3) := by decide +kernel
theorem dX10_profile_60 : decode cX10_profile 60 = .ok (.bipush 8, 2) := by decide +kernel
theorem dX10_profile_62 : decode cX10_profile 62 = .ok (.if_icmp .ne 6, 3) := by decide +kernel
theorem dX10_profile_65 : decode cX10_profile 65 = .ok (.bipush (-4), 2) := by decide +kernel
theorem dX10_profile_67 : decode cX10_profile 67 = .ok (.ireturn, 1) := by decide +kernel
theorem dX10_profile_68 : decode cX10_profile 68 = .ok (.aload_n 0, 1) := by decide +kernel
theorem dX10_profile_69 : decode cX10_profile 69 = .ok (.getfield 13, 3) := by decide +kernel
theorem dX10_profile_72 : decode cX10_profile 72 = .ok (.aload_n 0, 1) := by decide +kernel
theorem dX10_profile_73 : decode cX10_profile 73 = .ok (.getfield 128, 3) := by decide +kernel
theorem dX10_profile_76 : decode cX10_profile 76 = .ok (.iload_n 1, 1) := by decide +kernel
theorem dX10_profile_77 : decode cX10_profile 77 = .ok (.iastore, 1) := by decide +kernel
theorem dX10_profile_78 : decode cX10_profile 78 = .ok (.aload_n 0, 1) := by decide +kernel
theorem dX10_profile_79 : decode cX10_profile 79 = .ok (.getfield 16, 3) := by decide +kernel
theorem dX10_profile_82 : decode cX10_profile 82 = .ok (.aload_n 0, 1) := by decide +kernel
theorem dX10_profile_83 : decode cX10_profile 83 = .ok (.getfield 128, 3) := by decide +kernel
theorem dX10_profile_86 : decode cX10_profile 86 = .ok (.iload_n 2, 1) := by decide +kernel
theorem dX10_profile_87 : decode cX10_profile 87 = .ok (.iastore, 1) := by decide +kernel
theorem dX10_profile_88 : decode cX10_profile 88 = .ok (.aload_n 0, 1) := by decide +kernel
theorem dX10_profile_89 : decode cX10_profile 89 = .ok (.getfield 19, 3) := by decide +kernel
theorem dX10_profile_92 : decode cX10_profile 92 = .ok (.aload_n 0, 1) := by decide +kernel
theorem dX10_profile_93 : decode cX10_profile 93 = .ok (.getfield 128, 3) := by decide +kernel
theorem dX10_profile_96 : decode cX10_profile 96 = .ok (.iload_n 3, 1) := by decide +kernel
theorem dX10_profile_97 : decode cX10_profile 97 = .ok (.iastore, 1) := by decide +kernel
theorem dX10_profile_98 : decode cX10_profile 98 = .ok (.aload_n 0, 1) := by decide +kernel
theorem dX10_profile_99 : decode cX10_profile 99 = .ok (.getfield 22, 3) := by decide +kernel
theorem dX10_profile_102 : decode cX10_profile 102 = .ok (.aload_n 0, 1) := by decide +kernel
theorem dX10_profile_103 : decode cX10_profile 103 = .ok (.getfield 128, 3) := by decide +kernel
theorem dX10_profile_106 : decode cX10_profile 106 = .ok (.iload 4, 2) := by decide +kernel
theorem dX10_profile_108 : decode cX10_profile 108 = .ok (.iastore, 1) := by decide +kernel
theorem dX10_profile_109 : decode cX10_profile 109 = .ok (.aload_n 0, 1) := by decide +kernel
theorem dX10_profile_110 : decode cX10_profile 110 = .ok (.getfield 75, 3) := by decide +kernel
theorem dX10_profile_113 : decode cX10_profile 113 = .ok (.aload_n 0, 1) := by decide +kernel
theorem dX10_profile_114 : decode cX10_profile 114 = .ok (.getfield 128, 3) := by decide +kernel
theorem dX10_profile_117 : decode cX10_profile 117 = .ok (.iconst 0, 1) := by decide +kernel
theorem dX10_profile_118 : decode cX10_profile 118 = .ok (.iastore, 1) := by decide +kernel
theorem dX10_profile_119 : decode cX10_profile 119 = .ok (.aload_n 0, 1) := by decide +kernel
theorem dX10_profile_120 : decode cX10_profile 120 = .ok (.dup, 1) := by decide +kernel
theorem dX10_profile_121 : decode cX10_profile 121 = .ok (.getfield 128, 3) := by decide +kernel
theorem dX10_profile_124 : decode cX10_profile 124 = .ok (.iconst 1, 1) := by decide +kernel
theorem dX10_profile_125 : decode cX10_profile 125 = .ok (.iadd, 1) := by decide +kernel
theorem dX10_profile_126 : decode cX10_profile 126 = .ok (.putfield 128, 3) := by decide +kernel
theorem dX10_profile_129 : decode cX10_profile 129 = .ok (.aload_n 0, 1) := by decide +kernel
theorem dX10_profile_130 : decode cX10_profile 130 = .ok (.getfield 128, 3) := by decide +kernel
theorem dX10_profile_133 : decode cX10_profile 133 = .ok (.iconst 1, 1) := by decide +kernel
theorem dX10_profile_134 : decode cX10_profile 134 = .ok (.isub, 1) := by decide +kernel
theorem dX10_profile_135 : decode cX10_profile 135 = .ok (.ireturn, 1) := by decide +kernel
theorem dX10_die_0 : decode cX10_die 0 = .ok (.aload_n 0, 1) := by decide +kernel
theorem dX10_die_1 : decode cX10_die 1 = .ok (.iload_n 1, 1) := by decide +kernel
theorem dX10_die_2 : decode cX10_die 2 = .ok (.invokevirtual 150, 3) := by decide +kernel
theorem dX10_die_5 : decode cX10_die 5 = .ok (.ifCond .eq 15, 3) := by decide +kernel
theorem dX10_die_8 : decode cX10_die 8 = .ok (.iload_n 2, 1) := by decide +kernel
theorem dX10_die_9 : decode cX10_die 9 = .ok (.i2l, 1) := by decide +kernel
theorem dX10_die_10 : decode cX10_die 10 = .ok (.lconst 1, 1) := by decide +kernel
theorem dX10_die_11 : decode cX10_die 11 = .ok (.ldc2_w 154, 3) := by decide +kernel
theorem dX10_die_14 : decode cX10_die 14 = .ok (.invokestatic 131, 3) := by decide +kernel
theorem dX10_die_17 : decode cX10_die 17 = .ok (.ifCond .ne 6, 3) := by decide +kernel
theorem dX10_die_20 : decode cX10_die 20 = .ok (.bipush (-2), 2) := by decide +kernel
theorem dX10_die_22 : decode cX10_die 22 = .ok (.ireturn, 1) := by decide +kernel
theorem dX10_die_23 : decode cX10_die 23 = .ok (.aload_n 0, 1) := by decide +kernel
theorem dX10_die_24 : decode cX10_die 24 = .ok (.getfield 135, 3) := by decide +kernel
theorem dX10_die_27 : decode cX10_die 27 = .ok (.bipush 12, 2) := by decide +kernel
theorem dX10_die_29 : decode cX10_die 29 = .ok (.if_icmp .ne 6, 3) := by decide +kernel
theorem dX10_die_32 : decode cX10_die 32 = .ok (.bipush (-4), 2) := by decide +kernel
theorem dX10_die_34 : decode cX10_die 34 = .ok (.ireturn, 1) := by decide +kernel
theorem dX10_die_35 : decode cX10_die 35 = .ok (.aload_n 0, 1) := by decide +kernel
theorem dX10_die_36 : decode cX10_die 36 = .ok (.getfield 25, 3) := by decide +kernel
theorem dX10_die_39 : decode cX10_die 39 = .ok (.aload_n 0, 1) := by decide +kernel
theorem dX10_die_40 : decode cX10_die 40 = .ok (.getfield 135, 3) := by decide +kernel
theorem dX10_die_43 : decode cX10_die 43 = .ok (.iload_n 1, 1) := by decide +kernel
theorem dX10_die_44 : decode cX10_die 44 = .ok (.iastore, 1) := by decide +kernel
theorem dX10_die_45 : decode cX10_die 45 = .ok (.aload_n 0, 1) := by decide +kernel
theorem dX10_die_46 : decode cX10_die 46 = .ok (.getfield 28, 3) := by decide +kernel
theorem dX10_die_49 : decode cX10_die 49 = .ok (.aload_n 0, 1) := by decide +kernel
theorem dX10_die_50 : decode cX10_die 50 = .ok (.getfield 135, 3) := by decide +kernel
theorem dX10_die_53 : decode cX10_die 53 = .ok (.iload_n 2, 1) := by decide +kernel
theorem dX10_die_54 : decode cX10_die 54 = .ok (.iastore, 1) := by decide +kernel
theorem dX10_die_55 : decode cX10_die 55 = .ok (.aload_n 0, 1) := by decide +kernel
theorem dX10_die_56 : decode cX10_die 56 = .ok (.getfield 31, 3) := by decide +kernel
theorem dX10_die_59 : decode cX10_die 59 = .ok (.aload_n 0, 1) := by decide +kernel
theorem dX10_die_60 : decode cX10_die 60 = .ok (.getfield 135, 3) := by decide +kernel
theorem dX10_die_63 : decode cX10_die 63 = .ok (.iconst 0, 1) := by decide +kernel
theorem dX10_die_64 : decode cX10_die 64 = .ok (.iastore, 1) := by decide +kernel
theorem dX10_die_65 : decode cX10_die 65 = .ok (.aload_n 0, 1) := by decide +kernel
theorem dX10_die_66 : decode cX10_die 66 = .ok (.getfield 34, 3) := by decide +kernel
theorem dX10_die_69 : decode cX10_die 69 = .ok (.aload_n 0, 1) := by decide +kernel
theorem dX10_die_70 : decode cX10_die 70 = .ok (.getfield 135, 3) := by decide +kernel
theorem dX10_die_73 : decode cX10_die 73 = .ok (.iconst 0, 1) := by decide +kernel
theorem dX10_die_74 : decode cX10_die 74 = .ok (.iastore, 1) := by decide +kernel
theorem dX10_die_75 : decode cX10_die 75 = .ok (.aload_n 0, 1) := by decide +kernel
theorem dX10_die_76 : decode cX10_die 76 = .ok (.getfield 37, 3) := by decide +kernel
theorem dX10_die_79 : decode cX10_die 79 = .ok (.aload_n 0, 1) := by decide +kernel
theorem dX10_die_80 : decode cX10_die 80 = .ok (.getfield 135, 3) := by decide +kernel
theorem dX10_die_83 : decode cX10_die 83 = .ok (.iconst (-1), 1) := by decide +kernel
theorem dX10_die_84 : decode cX10_die 84 = .ok (.iastore, 1) := by decide +kernel
theorem dX10_die_85 : decode cX10_die 85 = .ok (.aload_n 0, 1) := by decide +kernel
theorem dX10_die_86 : decode cX10_die 86 = .ok (.dup, 1) := by decide +kernel
theorem dX10_die_87 : decode cX10_die 87 = .ok (.getfield 135, 3) := by decide +kernel
theorem dX10_die_90 : decode cX10_die 90 = .ok (.iconst 1, 1) := by decide +kernel
theorem dX10_die_91 : decode cX10_die 91 = .ok (.iadd, 1) := by decide +kernel
theorem dX10_die_92 : decode cX10_die 92 = .ok (.putfield 135, 3) := by decide +kernel
theorem dX10_die_95 : decode cX10_die 95 = .ok (.aload_n 0, 1) := by decide +kernel
theorem dX10_die_96 : decode cX10_die 96 = .ok (.getfield 135, 3) := by decide +kernel
theorem dX10_die_99 : decode cX10_die 99 = .ok (.iconst 1, 1) := by decide +kernel
theorem dX10_die_100 : decode cX10_die 100 = .ok (.isub, 1) := by decide +kernel
theorem dX10_die_101 : decode cX10_die 101 = .ok (.ireturn, 1) := by decide +kernel
theorem dX10_warm_0 : decode cX10_warm 0 = .ok (.aload_n 0, 1) := by decide +kernel
theorem dX10_warm_1 : decode cX10_warm 1 = .ok (.iload_n 1, 1) := by decide +kernel
theorem dX10_warm_2 : decode cX10_warm 2 = .ok (.invokevirtual 156, 3) := by decide +kernel
theorem dX10_warm_5 : decode cX10_warm 5 = .ok (.ifCond .ne 6, 3) := by decide +kernel
theorem dX10_warm_8 : decode cX10_warm 8 = .ok (.bipush (-2), 2) := by decide +kernel
theorem dX10_warm_10 : decode cX10_warm 10 = .ok (.ireturn, 1) := by decide +kernel
theorem dX10_warm_11 : decode cX10_warm 11 = .ok (.aload_n 0, 1) := by decide +kernel
theorem dX10_warm_12 : decode cX10_warm 12 = .ok (.getfield 37, 3) := by decide +kernel
theorem dX10_warm_15 : decode cX10_warm 15 = .ok (.iload_n 1, 1) := by decide +kernel
theorem dX10_warm_16 : decode cX10_warm 16 = .ok (.iaload, 1) := by decide +kernel
theorem dX10_warm_17 : decode cX10_warm 17 = .ok (.iconst (-1), 1) := by decide +kernel
theorem dX10_warm_18 : decode cX10_warm 18 = .ok (.if_icmp .eq 6, 3) := by decide +kernel
theorem dX10_warm_21 : decode cX10_warm 21 = .ok (.bipush (-3), 2) := by decide +kernel
theorem dX10_warm_23 : decode cX10_warm 23 = .ok (.ireturn, 1) := by decide +kernel
theorem dX10_warm_24 : decode cX10_warm 24 = .ok (.aload_n 0, 1) := by decide +kernel
theorem dX10_warm_25 : decode cX10_warm 25 = .ok (.getfield 37, 3) := by decide +kernel
theorem dX10_warm_28 : decode cX10_warm 28 = .ok (.iload_n 1, 1) := by decide +kernel
theorem dX10_warm_29 : decode cX10_warm 29 = .ok (.aload_n 0, 1) := by decide +kernel
theorem dX10_warm_30 : decode cX10_warm 30 = .ok (.getfield 159, 3) := by decide +kernel
theorem dX10_warm_33 : decode cX10_warm 33 = .ok (.iastore, 1) := by decide +kernel
theorem dX10_warm_34 : decode cX10_warm 34 = .ok (.iconst 1, 1) := by decide +kernel
theorem dX10_warm_35 : decode cX10_warm 35 = .ok (.ireturn, 1) := by decide +kernel
theorem dX10_cool_0 : decode cX10_cool 0 = .ok (.aload_n 0, 1) := by decide +kernel
theorem dX10_cool_1 : decode cX10_cool 1 = .ok (.iload_n 1, 1) := by decide +kernel
theorem dX10_cool_2 : decode cX10_cool 2 = .ok (.invokevirtual 156, 3) := by decide +kernel
theorem dX10_cool_5 : decode cX10_cool 5 = .ok (.ifCond .ne 6, 3) := by decide +kernel
theorem dX10_cool_8 : decode cX10_cool 8 = .ok (.bipush (-2), 2) := by decide +kernel
theorem dX10_cool_10 : decode cX10_cool 10 = .ok (.ireturn, 1) := by decide +kernel
theorem dX10_cool_11 : decode cX10_cool 11 = .ok (.aload_n 0, 1) := by decide +kernel
theorem dX10_cool_12 : decode cX10_cool 12 = .ok (.getfield 37, 3) := by decide +kernel
theorem dX10_cool_15 : decode cX10_cool 15 = .ok (.iload_n 1, 1) := by decide +kernel
theorem dX10_cool_16 : decode cX10_cool 16 = .ok (.iaload, 1) := by decide +kernel
theorem dX10_cool_17 : decode cX10_cool 17 = .ok (.iconst (-1), 1) := by decide +kernel
theorem dX10_cool_18 : decode cX10_cool 18 = .ok (.if_icmp .ne 6, 3) := by decide +kernel
theorem dX10_cool_21 : decode cX10_cool 21 = .ok (.bipush (-3), 2) := by decide +kernel
theorem dX10_cool_23 : decode cX10_cool 23 = .ok (.ireturn, 1) := by decide +kernel
theorem dX10_cool_24 : decode cX10_cool 24 = .ok (.aload_n 0, 1) := by decide +kernel
theorem dX10_cool_25 : decode cX10_cool 25 = .ok (.getfield 159, 3) := by decide +kernel
theorem dX10_cool_28 : decode cX10_cool 28 = .ok (.aload_n 0, 1) := by decide +kernel
theorem dX10_cool_29 : decode cX10_cool 29 = .ok (.getfield 37, 3) := by decide +kernel
theorem dX10_cool_32 : decode cX10_cool 32 = .ok (.iload_n 1, 1) := by decide +kernel
theorem dX10_cool_33 : decode cX10_cool 33 = .ok (.iaload, 1) := by decide +kernel
theorem dX10_cool_34 : decode cX10_cool 34 = .ok (.isub, 1) := by decide +kernel
theorem dX10_cool_35 : decode cX10_cool 35 = .ok (.istore_n 2, 1) := by decide +kernel
theorem dX10_cool_36 : decode cX10_cool 36 = .ok (.aload_n 0, 1) := by decide +kernel
theorem dX10_cool_37 : decode cX10_cool 37 = .ok (.getfield 37, 3) := by decide +kernel
theorem dX10_cool_40 : decode cX10_cool 40 = .ok (.iload_n 1, 1) := by decide +kernel
theorem dX10_cool_41 : decode cX10_cool 41 = .ok (.iconst (-1), 1) := by decide +kernel
theorem dX10_cool_42 : decode cX10_cool 42 = .ok (.iastore, 1) := by decide +kernel
theorem dX10_cool_43 : decode cX10_cool 43 = .ok (.iload_n 2, 1) := by decide +kernel
theorem dX10_cool_44 : decode cX10_cool 44 = .ok (.ireturn, 1) := by decide +kernel
theorem dX10_nitride_0 : decode cX10_nitride 0 = .ok (.aload_n 0, 1) := by decide +kernel
theorem dX10_nitride_1 : decode cX10_nitride 1 = .ok (.iload_n 1, 1) := by decide +kernel
theorem dX10_nitride_2 : decode cX10_nitride 2 = .ok (.invokevirtual 156, 3) := by decide +kernel
theorem dX10_nitride_5 : decode cX10_nitride 5 = .ok (.ifCond .ne 6, 3) := by decide +kernel
theorem dX10_nitride_8 : decode cX10_nitride 8 = .ok (.bipush (-2), 2) := by decide +kernel
theorem dX10_nitride_10 : decode cX10_nitride 10 = .ok (.ireturn, 1) := by decide +kernel
theorem dX10_nitride_11 : decode cX10_nitride 11 = .ok (.aload_n 0, 1) := by decide +kernel
theorem dX10_nitride_12 : decode cX10_nitride 12 = .ok (.getfield 37, 3) := by decide +kernel
theorem dX10_nitride_15 : decode cX10_nitride 15 = .ok (.iload_n 1, 1) := by decide +kernel
theorem dX10_nitride_16 : decode cX10_nitride 16 = .ok (.iaload, 1) := by decide +kernel
theorem dX10_nitride_17 : decode cX10_nitride 17 = .ok (.iconst (-1), 1) := by decide +kernel
theorem dX10_nitride_18 : decode cX10_nitride 18 = .ok (.if_icmp .eq 6, 3) := by decide +kernel
theorem dX10_nitride_21 : decode cX10_nitride 21 = .ok (.bipush (-3), 2) := by decide +kernel
theorem dX10_nitride_23 : decode cX10_nitride 23 = .ok (.ireturn, 1) := by decide +kernel
theorem dX10_nitride_24 : decode cX10_nitride 24 = .ok (.aload_n 0, 1) := by decide +kernel
theorem dX10_nitride_25 : decode cX10_nitride 25 = .ok (.getfield 31, 3) := by decide +kernel
theorem dX10_nitride_28 : decode cX10_nitride 28 = .ok (.iload_n 1, 1) := by decide +kernel
theorem dX10_nitride_29 : decode cX10_nitride 29 = .ok (.iaload, 1) := by decide +kernel
theorem dX10_nitride_30 : decode cX10_nitride 30 = .ok (.istore_n 2, 1) := by decide +kernel
theorem dX10_nitride_31 : decode cX10_nitride 31 = .ok (.aload_n 0, 1) := by decide +kernel
theorem dX10_nitride_32 : decode cX10_nitride 32 = .ok (.getfield 31, 3) := by decide +kernel
theorem dX10_nitride_35 : decode cX10_nitride 35 = .ok (.iload_n 1, 1) := by decide +kernel
theorem dX10_nitride_36 : decode cX10_nitride 36 = .ok (.iconst 0, 1) := by decide +kernel
theorem dX10_nitride_37 : decode cX10_nitride 37 = .ok (.iastore, 1) := by decide +kernel
theorem dX10_nitride_38 : decode cX10_nitride 38 = .ok (.iload_n 2, 1) := by decide +kernel
theorem dX10_nitride_39 : decode cX10_nitride 39 = .ok (.ireturn, 1) := by decide +kernel
theorem dX10_mayPress_0 : decode cX10_mayPress 0 = .ok (.aload_n 0, 1) := by decide +kernel
theorem dX10_mayPress_1 : decode cX10_mayPress 1 = .ok (.getfield 37, 3) := by decide +kernel
theorem dX10_mayPress_4 : decode cX10_mayPress 4 = .ok (.iload_n 1, 1) := by decide +kernel
theorem dX10_mayPress_5 : decode cX10_mayPress 5 = .ok (.iaload, 1) := by decide +kernel
theorem dX10_mayPress_6 : decode cX10_mayPress 6 = .ok (.iconst (-1), 1) := by decide +kernel
theorem dX10_mayPress_7 : decode cX10_mayPress 7 = .ok (.if_icmp .eq 46, 3) := by decide +kernel
theorem dX10_mayPress_10 : decode cX10_mayPress 10 = .ok (.aload_n 0, 1) := by decide +kernel
theorem dX10_mayPress_11 : decode cX10_mayPress 11 = .ok (.getfield 159, 3) := by decide +kernel
theorem dX10_mayPress_14 : decode cX10_mayPress 14 = .ok (.aload_n 0, 1) := by decide +kernel
theorem dX10_mayPress_15 : decode cX10_mayPress 15 = .ok (.getfield 37, 3) := by decide +kernel
theorem dX10_mayPress_18 : decode cX10_mayPress 18 = .ok (.iload_n 1, 1) := by decide +kernel
theorem dX10_mayPress_19 : decode cX10_mayPress 19 = .ok (.iaload, 1) := by decide +kernel
theorem dX10_mayPress_20 : decode cX10_mayPress 20 = .ok (.isub, 1) := by decide +kernel
theorem dX10_mayPress_21 : decode cX10_mayPress 21 = .ok (.i2l, 1) := by decide +kernel
theorem dX10_mayPress_22 : decode cX10_mayPress 22 = .ok (.ldc2_w 144, 3) := by decide +kernel
theorem dX10_mayPress_25 : decode cX10_mayPress 25 = .ok (.ldc2_w 162, 3) := by decide +kernel
theorem dX10_mayPress_28 : decode cX10_mayPress 28 = .ok (.invokestatic 131, 3) := by decide +kernel
theorem dX10_mayPress_31 : decode cX10_mayPress 31 = .ok (.ifCond .eq 22, 3) := by decide +kernel
theorem dX10_mayPress_34 : decode cX10_mayPress 34 = .ok (.aload_n 0, 1) := by decide +kernel
theorem dX10_mayPress_35 : decode cX10_mayPress 35 = .ok (.getfield 31, 3) := by decide +kernel
theorem dX10_mayPress_38 : decode cX10_mayPress 38 = .ok (.iload_n 1, 1) := by decide +kernel
theorem dX10_mayPress_39 : decode cX10_mayPress 39 = .ok (.iaload, 1) := by decide +kernel
theorem dX10_mayPress_40 : decode cX10_mayPress 40 = .ok (.aload_n 0, 1) := by decide +kernel
theorem dX10_mayPress_41 : decode cX10_mayPress 41 = .ok (.getfield 28, 3) := by decide +kernel
theorem dX10_mayPress_44 : decode cX10_mayPress 44 = .ok (.iload_n 1, 1) := by decide +kernel
theorem dX10_mayPress_45 : decode cX10_mayPress 45 = .ok (.iaload, 1) := by decide +kernel
theorem dX10_mayPress_46 : decode cX10_mayPress 46 = .ok (.if_icmp .ge 7, 3) := by decide +kernel
theorem dX10_mayPress_49 : decode cX10_mayPress 49 = .ok (.iconst 1, 1) := by decide +kernel
theorem dX10_mayPress_50 : decode cX10_mayPress 50 = .ok (.goto 4, 3) := by decide +kernel
theorem dX10_mayPress_53 : decode cX10_mayPress 53 = .ok (.iconst 0, 1) := by decide +kernel
theorem dX10_mayPress_54 : decode cX10_mayPress 54 = .ok (.ireturn, 1) := by decide +kernel
theorem dX10_about_0 : decode cX10_about 0 = .ok (.aload_n 0, 1) := by decide +kernel
theorem dX10_about_1 : decode cX10_about 1 = .ok (.iload_n 1, 1) := by decide +kernel
theorem dX10_about_2 : decode cX10_about 2 = .ok (.invokevirtual 156, 3) := by decide +kernel
theorem dX10_about_5 : decode cX10_about 5 = .ok (.ifCond .ne 6, 3) := by decide +kernel
theorem dX10_about_8 : decode cX10_about 8 = .ok (.bipush (-2), 2) := by decide +kernel
theorem dX10_about_10 : decode cX10_about 10 = .ok (.ireturn, 1) := by decide +kernel
theorem dX10_about_11 : decode cX10_about 11 = .ok (.iload_n 2, 1) := by decide +kernel
theorem dX10_about_12 : decode cX10_about 12 = .ok (.tableswitch 108 0 5 #[40, 47, 54, 61, 87, 101], 40) := by decide +kernel
theorem dX10_about_52 : decode cX10_about 52 = .ok (.aload_n 0, 1) := by decide +kernel
theorem dX10_about_53 : decode cX10_about 53 = .ok (.getfield 25, 3) := by decide +kernel
theorem dX10_about_56 : decode cX10_about 56 = .ok (.iload_n 1, 1) := by decide +kernel
theorem dX10_about_57 : decode cX10_about 57 = .ok (.iaload, 1) := by decide +kernel
theorem dX10_about_58 : decode cX10_about 58 = .ok (.ireturn, 1) := by decide +kernel
theorem dX10_about_59 : decode cX10_about 59 = .ok (.aload_n 0, 1) := by decide +kernel
theorem dX10_about_60 : decode cX10_about 60 = .ok (.getfield 28, 3) := by decide +kernel
theorem dX10_about_63 : decode cX10_about 63 = .ok (.iload_n 1, 1) := by decide +kernel
theorem dX10_about_64 : decode cX10_about 64 = .ok (.iaload, 1) := by decide +kernel
theorem dX10_about_65 : decode cX10_about 65 = .ok (.ireturn, 1) := by decide +kernel
theorem dX10_about_66 : decode cX10_about 66 = .ok (.aload_n 0, 1) := by decide +kernel
theorem dX10_about_67 : decode cX10_about 67 = .ok (.getfield 31, 3) := by decide +kernel
theorem dX10_about_70 : decode cX10_about 70 = .ok (.iload_n 1, 1) := by decide +kernel
theorem dX10_about_71 : decode cX10_about 71 = .ok (.iaload, 1) := by decide +kernel
theorem dX10_about_72 : decode cX10_about 72 = .ok (.ireturn, 1) := by decide +kernel
theorem dX10_about_73 : decode cX10_about 73 = .ok (.aload_n 0, 1) := by decide +kernel
theorem dX10_about_74 : decode cX10_about 74 = .ok (.getfield 37, 3) := by decide +kernel
theorem dX10_about_77 : decode cX10_about 77 = .ok (.iload_n 1, 1) := by decide +kernel
theorem dX10_about_78 : decode cX10_about 78 = .ok (.iaload, 1) := by decide +kernel
theorem dX10_about_79 : decode cX10_about 79 = .ok (.iconst (-1), 1) := by decide +kernel
theorem dX10_about_80 : decode cX10_about 80 = .ok (.if_icmp .ne 7, 3) := by decide +kernel
theorem dX10_about_83 : decode cX10_about 83 = .ok (.iconst (-1), 1) := by decide +kernel
theorem dX10_about_84 : decode cX10_about 84 = .ok (.goto 14, 3) := by decide +kernel
theorem dX10_about_87 : decode cX10_about 87 = .ok (.aload_n 0, 1) := by decide +kernel
theorem dX10_about_88 : decode cX10_about 88 = .ok (.getfield 159, 3) := by decide +kernel
theorem dX10_about_91 : decode cX10_about 91 = .ok (.aload_n 0, 1) := by decide +kernel
theorem dX10_about_92 : decode cX10_about 92 = .ok (.getfield 37, 3) := by decide +kernel
theorem dX10_about_95 : decode cX10_about 95 = .ok (.iload_n 1, 1) := by decide +kernel
theorem dX10_about_96 : decode cX10_about 96 = .ok (.iaload, 1) := by decide +kernel
theorem dX10_about_97 : decode cX10_about 97 = .ok (.isub, 1) := by decide +kernel
theorem dX10_about_98 : decode cX10_about 98 = .ok (.ireturn, 1) := by decide +kernel
theorem dX10_about_99 : decode cX10_about 99 = .ok (.aload_n 0, 1) := by decide +kernel
theorem dX10_about_100 : decode cX10_about 100 = .ok (.iload_n 1, 1) := by decide +kernel
theorem dX10_about_101 : decode cX10_about 101 = .ok (.invokevirtual 164, 3) := by decide +kernel
theorem dX10_about_104 : decode cX10_about 104 = .ok (.ifCond .eq 7, 3) := by decide +kernel
theorem dX10_about_107 : decode cX10_about 107 = .ok (.iconst 1, 1) := by decide +kernel
theorem dX10_about_108 : decode cX10_about 108 = .ok (.goto 4, 3) := by decide +kernel
theorem dX10_about_111 : decode cX10_about 111 = .ok (.iconst 0, 1) := by decide +kernel
theorem dX10_about_112 : decode cX10_about 112 = .ok (.ireturn, 1) := by decide +kernel
theorem dX10_about_113 : decode cX10_about 113 = .ok (.aload_n 0, 1) := by decide +kernel
theorem dX10_about_114 : decode cX10_about 114 = .ok (.getfield 34, 3) := by decide +kernel
theorem dX10_about_117 : decode cX10_about 117 = .ok (.iload_n 1, 1) := by decide +kernel
theorem dX10_about_118 : decode cX10_about 118 = .ok (.iaload, 1) := by decide +kernel
theorem dX10_about_119 : decode cX10_about 119 = .ok (.ireturn, 1) := by decide +kernel
theorem dX10_about_120 : decode cX10_about 120 = .ok (.bipush (-2), 2) := by decide +kernel
theorem dX10_about_122 : decode cX10_about 122 = .ok (.ireturn, 1) := by decide +kernel
theorem dX10_ready_0 : decode cX10_ready 0 = .ok (.aload_n 0, 1) := by decide +kernel
theorem dX10_ready_1 : decode cX10_ready 1 = .ok (.iload_n 1, 1) := by decide +kernel
theorem dX10_ready_2 : decode cX10_ready 2 = .ok (.invokevirtual 150, 3) := by decide +kernel
theorem dX10_ready_5 : decode cX10_ready 5 = .ok (.ifCond .ne 6, 3) := by decide +kernel
theorem dX10_ready_8 : decode cX10_ready 8 = .ok (.bipush (-2), 2) := by decide +kernel
theorem dX10_ready_10 : decode cX10_ready 10 = .ok (.ireturn, 1) := by decide +kernel
theorem dX10_ready_11 : decode cX10_ready 11 = .ok (.iconst (-1), 1) := by decide +kernel
theorem dX10_ready_12 : decode cX10_ready 12 = .ok (.istore_n 2, 1) := by decide +kernel
theorem dX10_ready_13 : decode cX10_ready 13 = .ok (.iconst 0, 1) := by decide +kernel
theorem dX10_ready_14 : decode cX10_ready 14 = .ok (.istore_n 3, 1) := by decide +kernel
theorem dX10_ready_15 : decode cX10_ready 15 = .ok (.iload_n 3, 1) := by decide +kernel
theorem dX10_ready_16 : decode cX10_ready 16 = .ok (.aload_n 0, 1) := by decide +kernel
theorem dX10_ready_17 : decode cX10_ready 17 = .ok (.getfield 135, 3) := by decide +kernel
theorem dX10_ready_20 : decode cX10_ready 20 = .ok (.if_icmp .ge 49, 3) := by decide +kernel
theorem dX10_ready_23 : decode cX10_ready 23 = .ok (.aload_n 0, 1) := by decide +kernel
theorem dX10_ready_24 : decode cX10_ready 24 = .ok (.getfield 25, 3) := by decide +kernel
theorem dX10_ready_27 : decode cX10_ready 27 = .ok (.iload_n 3, 1) := by decide +kernel
theorem dX10_ready_28 : decode cX10_ready 28 = .ok (.iaload, 1) := by decide +kernel
theorem dX10_ready_29 : decode cX10_ready 29 = .ok (.iload_n 1, 1) := by decide +kernel
theorem dX10_ready_30 : decode cX10_ready 30 = .ok (.if_icmp .ne 33, 3) := by decide +kernel
theorem dX10_ready_33 : decode cX10_ready 33 = .ok (.aload_n 0, 1) := by decide +kernel
theorem dX10_ready_34 : decode cX10_ready 34 = .ok (.iload_n 3, 1) := by decide +kernel
theorem dX10_ready_35 : decode cX10_ready 35 = .ok (.invokevirtual 164, 3) := by decide +kernel
theorem dX10_ready_38 : decode cX10_ready 38 = .ok (.ifCond .eq 25, 3) := by decide +kernel
theorem dX10_ready_41 : decode cX10_ready 41 = .ok (.iload_n 2, 1) := by decide +kernel
theorem dX10_ready_42 : decode cX10_ready 42 = .ok (.iconst (-1), 1) := by decide +kernel
theorem dX10_ready_43 : decode cX10_ready 43 = .ok (.if_icmp .eq 18, 3) := by decide +kernel
theorem dX10_ready_46 : decode cX10_ready 46 = .ok (.aload_n 0, 1) := by decide +kernel
theorem dX10_ready_47 : decode cX10_ready 47 = .ok (.getfield 31, 3) := by decide +kernel
theorem dX10_ready_50 : decode cX10_ready 50 = .ok (.iload_n 3, 1) := by decide +kernel
theorem dX10_ready_51 : decode cX10_ready 51 = .ok (.iaload, 1) := by decide +kernel
theorem dX10_ready_52 : decode cX10_ready 52 = .ok (.aload_n 0, 1) := by decide +kernel
theorem dX10_ready_53 : decode cX10_ready 53 = .ok (.getfield 31, 3) := by decide +kernel
theorem dX10_ready_56 : decode cX10_ready 56 = .ok (.iload_n 2, 1) := by decide +kernel
theorem dX10_ready_57 : decode cX10_ready 57 = .ok (.iaload, 1) := by decide +kernel
theorem dX10_ready_58 : decode cX10_ready 58 = .ok (.if_icmp .ge 5, 3) := by decide +kernel
theorem dX10_ready_61 : decode cX10_ready 61 = .ok (.iload_n 3, 1) := by decide +kernel
theorem dX10_ready_62 : decode cX10_ready 62 = .ok (.istore_n 2, 1) := by decide +kernel
theorem dX10_ready_63 : decode cX10_ready 63 = .ok (.iinc 3 1, 3) := by decide +kernel
theorem dX10_ready_66 : decode cX10_ready 66 = .ok (.goto (-51), 3) := by decide +kernel
theorem dX10_ready_69 : decode cX10_ready 69 = .ok (.iload_n 2, 1) := by decide +kernel
theorem dX10_ready_70 : decode cX10_ready 70 = .ok (.ireturn, 1) := by decide +kernel
theorem dX10_pass_0 : decode cX10_pass 0 = .ok (.iload_n 1, 1) := by decide +kernel
theorem dX10_pass_1 : decode cX10_pass 1 = .ok (.i2l, 1) := by decide +kernel
theorem dX10_pass_2 : decode cX10_pass 2 = .ok (.lconst 1, 1) := by decide +kernel
theorem dX10_pass_3 : decode cX10_pass 3 = .ok (.ldc2_w 146, 3) := by decide +kernel
theorem dX10_pass_6 : decode cX10_pass 6 = .ok (.invokestatic 131, 3) := by decide +kernel
theorem dX10_pass_9 : decode cX10_pass 9 = .ok (.ifCond .ne 6, 3) := by decide +kernel
theorem dX10_pass_12 : decode cX10_pass 12 = .ok (.bipush (-2), 2) := by decide +kernel
theorem dX10_pass_14 : decode cX10_pass 14 = .ok (.ireturn, 1) := by decide +kernel
theorem dX10_pass_15 : decode cX10_pass 15 = .ok (.aload_n 0, 1) := by decide +kernel
theorem dX10_pass_16 : decode cX10_pass 16 = .ok (.dup, 1) := by decide +kernel
theorem dX10_pass_17 : decode cX10_pass 17 = .ok (.getfield 159, 3) := by decide +kernel
theorem dX10_pass_20 : decode cX10_pass 20 = .ok (.iload_n 1, 1) := by decide +kernel
theorem dX10_pass_21 : decode cX10_pass 21 = .ok (.iadd, 1) := by decide +kernel
theorem dX10_pass_22 : decode cX10_pass 22 = .ok (.putfield 159, 3) := by decide +kernel
theorem dX10_pass_25 : decode cX10_pass 25 = .ok (.aload_n 0, 1) := by decide +kernel
theorem dX10_pass_26 : decode cX10_pass 26 = .ok (.getfield 159, 3) := by decide +kernel
theorem dX10_pass_29 : decode cX10_pass 29 = .ok (.ireturn, 1) := by decide +kernel
theorem dX10_law_0 : decode cX10_law 0 = .ok (.iload_n 1, 1) := by decide +kernel
theorem dX10_law_1 : decode cX10_law 1 = .ok (.i2l, 1) := by decide +kernel
theorem dX10_law_2 : decode cX10_law 2 = .ok (.lconst 0, 1) := by decide +kernel
theorem dX10_law_3 : decode cX10_law 3 = .ok (.ldc2_w 140, 3) := by decide +kernel
theorem dX10_law_6 : decode cX10_law 6 = .ok (.invokestatic 131, 3) := by decide +kernel
theorem dX10_law_9 : decode cX10_law 9 = .ok (.ifCond .eq 36, 3) := by decide +kernel
theorem dX10_law_12 : decode cX10_law 12 = .ok (.iload_n 2, 1) := by decide +kernel
theorem dX10_law_13 : decode cX10_law 13 = .ok (.i2l, 1) := by decide +kernel
theorem dX10_law_14 : decode cX10_law 14 = .ok (.lconst 0, 1) := by decide +kernel
theorem dX10_law_15 : decode cX10_law 15 = .ok (.iload_n 1, 1) := by decide +kernel
theorem dX10_law_16 : decode cX10_law 16 = .ok (.ifCond .ne 9, 3) := by decide +kernel
theorem dX10_law_19 : decode cX10_law 19 = .ok (.ldc2_w 146, 3) := by decide +kernel
theorem dX10_law_22 : decode cX10_law 22 = .ok (.goto 17, 3) := by decide +kernel
theorem dX10_law_25 : decode cX10_law 25 = .ok (.iload_n 1, 1) := by decide +kernel
theorem dX10_law_26 : decode cX10_law 26 = .ok (.iconst 4, 1) := by decide +kernel
theorem dX10_law_27 : decode cX10_law 27 = .ok (.if_icmp .ge 9, 3) := by decide +kernel
theorem dX10_law_30 : decode cX10_law 30 = .ok (.ldc2_w 167, 3) := by decide +kernel
theorem dX10_law_33 : decode cX10_law 33 = .ok (.goto 6, 3) := by decide +kernel
theorem dX10_law_36 : decode cX10_law 36 = .ok (.ldc2_w 169, 3) := by decide +kernel
theorem dX10_law_39 : decode cX10_law 39 = .ok (.invokestatic 131, 3) := by decide +kernel
theorem dX10_law_42 : decode cX10_law 42 = .ok (.ifCond .ne 6, 3) := by decide +kernel
theorem dX10_law_45 : decode cX10_law 45 = .ok (.bipush (-2), 2) := by decide +kernel
theorem dX10_law_47 : decode cX10_law 47 = .ok (.ireturn, 1) := by decide +kernel
theorem dX10_law_48 : decode cX10_law 48 = .ok (.aload_n 0, 1) := by decide +kernel
theorem dX10_law_49 : decode cX10_law 49 = .ok (.getfield 7, 3) := by decide +kernel
theorem dX10_law_52 : decode cX10_law 52 = .ok (.iload_n 1, 1) := by decide +kernel
theorem dX10_law_53 : decode cX10_law 53 = .ok (.iaload, 1) := by decide +kernel
theorem dX10_law_54 : decode cX10_law 54 = .ok (.istore_n 3, 1) := by decide +kernel
theorem dX10_law_55 : decode cX10_law 55 = .ok (.aload_n 0, 1) := by decide +kernel
theorem dX10_law_56 : decode cX10_law 56 = .ok (.getfield 7, 3) := by decide +kernel
theorem dX10_law_59 : decode cX10_law 59 = .ok (.iload_n 1, 1) := by decide +kernel
theorem dX10_law_60 : decode cX10_law 60 = .ok (.iload_n 2, 1) := by decide +kernel
theorem dX10_law_61 : decode cX10_law 61 = .ok (.iastore, 1) := by decide +kernel
theorem dX10_law_62 : decode cX10_law 62 = .ok (.iload_n 3, 1) := by decide +kernel
theorem dX10_law_63 : decode cX10_law 63 = .ok (.ireturn, 1) := by decide +kernel
theorem dX10_most_0 : decode cX10_most 0 = .ok (.iload_n 2, 1) := by decide +kernel
theorem dX10_most_1 : decode cX10_most 1 = .ok (.aload_n 0, 1) := by decide +kernel
theorem dX10_most_2 : decode cX10_most 2 = .ok (.getfield 75, 3) := by decide +kernel
theorem dX10_most_5 : decode cX10_most 5 = .ok (.iload_n 1, 1) := by decide +kernel
theorem dX10_most_6 : decode cX10_most 6 = .ok (.iaload, 1) := by decide +kernel
theorem dX10_most_7 : decode cX10_most 7 = .ok (.if_icmp .lt 5, 3) := by decide +kernel
theorem dX10_most_10 : decode cX10_most 10 = .ok (.iconst 0, 1) := by decide +kernel
theorem dX10_most_11 : decode cX10_most 11 = .ok (.ireturn, 1) := by decide +kernel
theorem dX10_most_12 : decode cX10_most 12 = .ok (.aload_n 0, 1) := by decide +kernel
theorem dX10_most_13 : decode cX10_most 13 = .ok (.getfield 81, 3) := by decide +kernel
theorem dX10_most_16 : decode cX10_most 16 = .ok (.iconst 3, 1) := by decide +kernel
theorem dX10_most_17 : decode cX10_most 17 = .ok (.iload_n 1, 1) := by decide +kernel
theorem dX10_most_18 : decode cX10_most 18 = .ok (.imul, 1) := by decide +kernel
theorem dX10_most_19 : decode cX10_most 19 = .ok (.iload_n 2, 1) := by decide +kernel
theorem dX10_most_20 : decode cX10_most 20 = .ok (.iadd, 1) := by decide +kernel
theorem dX10_most_21 : decode cX10_most 21 = .ok (.iaload, 1) := by decide +kernel
theorem dX10_most_22 : decode cX10_most 22 = .ok (.bipush 60, 2) := by decide +kernel
theorem dX10_most_24 : decode cX10_most 24 = .ok (.if_icmp .le 8, 3) := by decide +kernel
end
section
theorem dX10_most_27 : decode cX10_most 27 = .ok (.bipush 60, 2) := by decide +kernel
theorem dX10_most_29 : decode cX10_most 29 = .ok (.goto 13, 3) := by decide +kernel
theorem dX10_most_32 : decode cX10_most 32 = .ok (.aload_n 0, 1) := by decide +kernel
theorem dX10_most_33 : decode cX10_most 33 = .ok (.getfield 81, 3) := by decide +kernel
theorem dX10_most_36 : decode cX10_most 36 = .ok (.iconst 3, 1) := by decide +kernel
theorem dX10_most_37 : decode cX10_most 37 = .ok (.iload_n 1, 1) := by decide +kernel
theorem dX10_most_38 : decode cX10_most 38 = .ok (.imul, 1) := by decide +kernel
theorem dX10_most_39 : decode cX10_most 39 = .ok (.iload_n 2, 1) := by decide +kernel
theorem dX10_most_40 : decode cX10_most 40 = .ok (.iadd, 1) := by decide +kernel
theorem dX10_most_41 : decode cX10_most 41 = .ok (.iaload, 1) := by decide +kernel
theorem dX10_most_42 : decode cX10_most 42 = .ok (.ireturn, 1) := by decide +kernel
theorem dX10_findPattern_0 : decode cX10_findPattern 0 = .ok (.iload_n 2, 1) := by decide +kernel
theorem dX10_findPattern_1 : decode cX10_findPattern 1 = .ok (.aload_n 0, 1) := by decide +kernel
theorem dX10_findPattern_2 : decode cX10_findPattern 2 = .ok (.getfield 7, 3) := by decide +kernel
theorem dX10_findPattern_5 : decode cX10_findPattern 5 = .ok (.iconst 4, 1) := by decide +kernel
theorem dX10_findPattern_6 : decode cX10_findPattern 6 = .ok (.iaload, 1) := by decide +kernel
theorem dX10_findPattern_7 : decode cX10_findPattern 7 = .ok (.iadd, 1) := by decide +kernel
theorem dX10_findPattern_8 : decode cX10_findPattern 8 = .ok (.istore_n 3, 1) := by decide +kernel
theorem dX10_findPattern_9 : decode cX10_findPattern 9 = .ok (.aload_n 0, 1) := by decide +kernel
theorem dX10_findPattern_10 : decode cX10_findPattern 10 = .ok (.iconst (-1), 1) := by decide +kernel
theorem dX10_findPattern_11 : decode cX10_findPattern 11 = .ok (.putfield 171, 3) := by decide +kernel
theorem dX10_findPattern_14 : decode cX10_findPattern 14 = .ok (.iconst 0, 1) := by decide +kernel
theorem dX10_findPattern_15 : decode cX10_findPattern 15 = .ok (.istore 4, 2) := by decide +kernel
theorem dX10_findPattern_17 : decode cX10_findPattern 17 = .ok (.aload_n 0, 1) := by decide +kernel
theorem dX10_findPattern_18 : decode cX10_findPattern 18 = .ok (.iload_n 1, 1) := by decide +kernel
theorem dX10_findPattern_19 : decode cX10_findPattern 19 = .ok (.iconst 0, 1) := by decide +kernel
theorem dX10_findPattern_20 : decode cX10_findPattern 20 = .ok (.invokevirtual 174, 3) := by decide +kernel
theorem dX10_findPattern_23 : decode cX10_findPattern 23 = .ok (.istore 5, 2) := by decide +kernel
theorem dX10_findPattern_25 : decode cX10_findPattern 25 = .ok (.iload 5, 2) := by decide +kernel
theorem dX10_findPattern_27 : decode cX10_findPattern 27 = .ok (.ifCond .lt 228, 3) := by decide +kernel
theorem dX10_findPattern_30 : decode cX10_findPattern 30 = .ok (.aload_n 0, 1) := by decide +kernel
theorem dX10_findPattern_31 : decode cX10_findPattern 31 = .ok (.iload_n 1, 1) := by decide +kernel
theorem dX10_findPattern_32 : decode cX10_findPattern 32 = .ok (.iconst 1, 1) := by decide +kernel
theorem dX10_findPattern_33 : decode cX10_findPattern 33 = .ok (.invokevirtual 174, 3) := by decide +kernel
theorem dX10_findPattern_36 : decode cX10_findPattern 36 = .ok (.istore 6, 2) := by decide +kernel
theorem dX10_findPattern_38 : decode cX10_findPattern 38 = .ok (.iload 6, 2) := by decide +kernel
theorem dX10_findPattern_40 : decode cX10_findPattern 40 = .ok (.ifCond .lt 209, 3) := by decide +kernel
theorem dX10_findPattern_43 : decode cX10_findPattern 43 = .ok (.iload_n 3, 1) := by decide +kernel
theorem dX10_findPattern_44 : decode cX10_findPattern 44 = .ok (.iload 5, 2) := by decide +kernel
theorem dX10_findPattern_46 : decode cX10_findPattern 46 = .ok (.aload_n 0, 1) := by decide +kernel
theorem dX10_findPattern_47 : decode cX10_findPattern 47 = .ok (.iload_n 1, 1) := by decide +kernel
theorem dX10_findPattern_48 : decode cX10_findPattern 48 = .ok (.iconst 0, 1) := by decide +kernel
theorem dX10_findPattern_49 : decode cX10_findPattern 49 = .ok (.invokevirtual 178, 3) := by decide +kernel
theorem dX10_findPattern_52 : decode cX10_findPattern 52 = .ok (.aload_n 0, 1) := by decide +kernel
theorem dX10_findPattern_53 : decode cX10_findPattern 53 = .ok (.getfield 7, 3) := by decide +kernel
theorem dX10_findPattern_56 : decode cX10_findPattern 56 = .ok (.iconst 4, 1) := by decide +kernel
theorem dX10_findPattern_57 : decode cX10_findPattern 57 = .ok (.iaload, 1) := by decide +kernel
theorem dX10_findPattern_58 : decode cX10_findPattern 58 = .ok (.iadd, 1) := by decide +kernel
theorem dX10_findPattern_59 : decode cX10_findPattern 59 = .ok (.imul, 1) := by decide +kernel
theorem dX10_findPattern_60 : decode cX10_findPattern 60 = .ok (.isub, 1) := by decide +kernel
theorem dX10_findPattern_61 : decode cX10_findPattern 61 = .ok (.iload 6, 2) := by decide +kernel
theorem dX10_findPattern_63 : decode cX10_findPattern 63 = .ok (.aload_n 0, 1) := by decide +kernel
theorem dX10_findPattern_64 : decode cX10_findPattern 64 = .ok (.iload_n 1, 1) := by decide +kernel
theorem dX10_findPattern_65 : decode cX10_findPattern 65 = .ok (.iconst 1, 1) := by decide +kernel
theorem dX10_findPattern_66 : decode cX10_findPattern 66 = .ok (.invokevirtual 178, 3) := by decide +kernel
theorem dX10_findPattern_69 : decode cX10_findPattern 69 = .ok (.aload_n 0, 1) := by decide +kernel
theorem dX10_findPattern_70 : decode cX10_findPattern 70 = .ok (.getfield 7, 3) := by decide +kernel
theorem dX10_findPattern_73 : decode cX10_findPattern 73 = .ok (.iconst 4, 1) := by decide +kernel
theorem dX10_findPattern_74 : decode cX10_findPattern 74 = .ok (.iaload, 1) := by decide +kernel
theorem dX10_findPattern_75 : decode cX10_findPattern 75 = .ok (.iadd, 1) := by decide +kernel
theorem dX10_findPattern_76 : decode cX10_findPattern 76 = .ok (.imul, 1) := by decide +kernel
theorem dX10_findPattern_77 : decode cX10_findPattern 77 = .ok (.isub, 1) := by decide +kernel
theorem dX10_findPattern_78 : decode cX10_findPattern 78 = .ok (.istore 7, 2) := by decide +kernel
theorem dX10_findPattern_80 : decode cX10_findPattern 80 = .ok (.iload 7, 2) := by decide +kernel
theorem dX10_findPattern_82 : decode cX10_findPattern 82 = .ok (.ifCond .lt 161, 3) := by decide +kernel
theorem dX10_findPattern_85 : decode cX10_findPattern 85 = .ok (.aload_n 0, 1) := by decide +kernel
theorem dX10_findPattern_86 : decode cX10_findPattern 86 = .ok (.getfield 75, 3) := by decide +kernel
theorem dX10_findPattern_89 : decode cX10_findPattern 89 = .ok (.iload_n 1, 1) := by decide +kernel
theorem dX10_findPattern_90 : decode cX10_findPattern 90 = .ok (.iaload, 1) := by decide +kernel
theorem dX10_findPattern_91 : decode cX10_findPattern 91 = .ok (.iconst 3, 1) := by decide +kernel
theorem dX10_findPattern_92 : decode cX10_findPattern 92 = .ok (.if_icmp .ge 7, 3) := by decide +kernel
theorem dX10_findPattern_95 : decode cX10_findPattern 95 = .ok (.iconst 0, 1) := by decide +kernel
theorem dX10_findPattern_96 : decode cX10_findPattern 96 = .ok (.goto 19, 3) := by decide +kernel
theorem dX10_findPattern_99 : decode cX10_findPattern 99 = .ok (.iload 7, 2) := by decide +kernel
theorem dX10_findPattern_101 : decode cX10_findPattern 101 = .ok (.aload_n 0, 1) := by decide +kernel
theorem dX10_findPattern_102 : decode cX10_findPattern 102 = .ok (.iload_n 1, 1) := by decide +kernel
theorem dX10_findPattern_103 : decode cX10_findPattern 103 = .ok (.iconst 2, 1) := by decide +kernel
theorem dX10_findPattern_104 : decode cX10_findPattern 104 = .ok (.invokevirtual 178, 3) := by decide +kernel
theorem dX10_findPattern_107 : decode cX10_findPattern 107 = .ok (.aload_n 0, 1) := by decide +kernel
theorem dX10_findPattern_108 : decode cX10_findPattern 108 = .ok (.getfield 7, 3) := by decide +kernel
theorem dX10_findPattern_111 : decode cX10_findPattern 111 = .ok (.iconst 4, 1) := by decide +kernel
theorem dX10_findPattern_112 : decode cX10_findPattern 112 = .ok (.iaload, 1) := by decide +kernel
theorem dX10_findPattern_113 : decode cX10_findPattern 113 = .ok (.iadd, 1) := by decide +kernel
theorem dX10_findPattern_114 : decode cX10_findPattern 114 = .ok (.idiv, 1) := by decide +kernel
theorem dX10_findPattern_115 : decode cX10_findPattern 115 = .ok (.istore 8, 2) := by decide +kernel
theorem dX10_findPattern_117 : decode cX10_findPattern 117 = .ok (.iload 8, 2) := by decide +kernel
theorem dX10_findPattern_119 : decode cX10_findPattern 119 = .ok (.aload_n 0, 1) := by decide +kernel
theorem dX10_findPattern_120 : decode cX10_findPattern 120 = .ok (.iload_n 1, 1) := by decide +kernel
theorem dX10_findPattern_121 : decode cX10_findPattern 121 = .ok (.iconst 2, 1) := by decide +kernel
theorem dX10_findPattern_122 : decode cX10_findPattern 122 = .ok (.invokevirtual 174, 3) := by decide +kernel
theorem dX10_findPattern_125 : decode cX10_findPattern 125 = .ok (.if_icmp .le 12, 3) := by decide +kernel
theorem dX10_findPattern_128 : decode cX10_findPattern 128 = .ok (.aload_n 0, 1) := by decide +kernel
theorem dX10_findPattern_129 : decode cX10_findPattern 129 = .ok (.iload_n 1, 1) := by decide +kernel
theorem dX10_findPattern_130 : decode cX10_findPattern 130 = .ok (.iconst 2, 1) := by decide +kernel
theorem dX10_findPattern_131 : decode cX10_findPattern 131 = .ok (.invokevirtual 174, 3) := by decide +kernel
theorem dX10_findPattern_134 : decode cX10_findPattern 134 = .ok (.goto 5, 3) := by decide +kernel
theorem dX10_findPattern_137 : decode cX10_findPattern 137 = .ok (.iload 8, 2) := by decide +kernel
theorem dX10_findPattern_139 : decode cX10_findPattern 139 = .ok (.istore 8, 2) := by decide +kernel
theorem dX10_findPattern_141 : decode cX10_findPattern 141 = .ok (.iload 5, 2) := by decide +kernel
theorem dX10_findPattern_143 : decode cX10_findPattern 143 = .ok (.aload_n 0, 1) := by decide +kernel
theorem dX10_findPattern_144 : decode cX10_findPattern 144 = .ok (.iload_n 1, 1) := by decide +kernel
theorem dX10_findPattern_145 : decode cX10_findPattern 145 = .ok (.iconst 0, 1) := by decide +kernel
theorem dX10_findPattern_146 : decode cX10_findPattern 146 = .ok (.invokevirtual 178, 3) := by decide +kernel
theorem dX10_findPattern_149 : decode cX10_findPattern 149 = .ok (.imul, 1) := by decide +kernel
theorem dX10_findPattern_150 : decode cX10_findPattern 150 = .ok (.iload 6, 2) := by decide +kernel
theorem dX10_findPattern_152 : decode cX10_findPattern 152 = .ok (.aload_n 0, 1) := by decide +kernel
theorem dX10_findPattern_153 : decode cX10_findPattern 153 = .ok (.iload_n 1, 1) := by decide +kernel
theorem dX10_findPattern_154 : decode cX10_findPattern 154 = .ok (.iconst 1, 1) := by decide +kernel
theorem dX10_findPattern_155 : decode cX10_findPattern 155 = .ok (.invokevirtual 178, 3) := by decide +kernel
theorem dX10_findPattern_158 : decode cX10_findPattern 158 = .ok (.imul, 1) := by decide +kernel
theorem dX10_findPattern_159 : decode cX10_findPattern 159 = .ok (.iadd, 1) := by decide +kernel
theorem dX10_findPattern_160 : decode cX10_findPattern 160 = .ok (.iload 8, 2) := by decide +kernel
theorem dX10_findPattern_162 : decode cX10_findPattern 162 = .ok (.aload_n 0, 1) := by decide +kernel
theorem dX10_findPattern_163 : decode cX10_findPattern 163 = .ok (.iload_n 1, 1) := by decide +kernel
theorem dX10_findPattern_164 : decode cX10_findPattern 164 = .ok (.iconst 2, 1) := by decide +kernel
theorem dX10_findPattern_165 : decode cX10_findPattern 165 = .ok (.invokevirtual 178, 3) := by decide +kernel
theorem dX10_findPattern_168 : decode cX10_findPattern 168 = .ok (.imul, 1) := by decide +kernel
theorem dX10_findPattern_169 : decode cX10_findPattern 169 = .ok (.iadd, 1) := by decide +kernel
theorem dX10_findPattern_170 : decode cX10_findPattern 170 = .ok (.istore 9, 2) := by decide +kernel
theorem dX10_findPattern_172 : decode cX10_findPattern 172 = .ok (.iload 9, 2) := by decide +kernel
theorem dX10_findPattern_174 : decode cX10_findPattern 174 = .ok (.aload_n 0, 1) := by decide +kernel
theorem dX10_findPattern_175 : decode cX10_findPattern 175 = .ok (.getfield 171, 3) := by decide +kernel
theorem dX10_findPattern_178 : decode cX10_findPattern 178 = .ok (.if_icmp .gt 25, 3) := by decide +kernel
theorem dX10_findPattern_181 : decode cX10_findPattern 181 = .ok (.iload 9, 2) := by decide +kernel
theorem dX10_findPattern_183 : decode cX10_findPattern 183 = .ok (.aload_n 0, 1) := by decide +kernel
theorem dX10_findPattern_184 : decode cX10_findPattern 184 = .ok (.getfield 171, 3) := by decide +kernel
theorem dX10_findPattern_187 : decode cX10_findPattern 187 = .ok (.if_icmp .ne 56, 3) := by decide +kernel
theorem dX10_findPattern_190 : decode cX10_findPattern 190 = .ok (.iload 5, 2) := by decide +kernel
theorem dX10_findPattern_192 : decode cX10_findPattern 192 = .ok (.iload 6, 2) := by decide +kernel
theorem dX10_findPattern_194 : decode cX10_findPattern 194 = .ok (.iadd, 1) := by decide +kernel
theorem dX10_findPattern_195 : decode cX10_findPattern 195 = .ok (.iload 8, 2) := by decide +kernel
theorem dX10_findPattern_197 : decode cX10_findPattern 197 = .ok (.iadd, 1) := by decide +kernel
theorem dX10_findPattern_198 : decode cX10_findPattern 198 = .ok (.iload 4, 2) := by decide +kernel
theorem dX10_findPattern_200 : decode cX10_findPattern 200 = .ok (.if_icmp .ge 43, 3) := by decide +kernel
theorem dX10_findPattern_203 : decode cX10_findPattern 203 = .ok (.aload_n 0, 1) := by decide +kernel
theorem dX10_findPattern_204 : decode cX10_findPattern 204 = .ok (.iload 9, 2) := by decide +kernel
theorem dX10_findPattern_206 : decode cX10_findPattern 206 = .ok (.putfield 171, 3) := by decide +kernel
theorem dX10_findPattern_209 : decode cX10_findPattern 209 = .ok (.iload 5, 2) := by decide +kernel
theorem dX10_findPattern_211 : decode cX10_findPattern 211 = .ok (.iload 6, 2) := by decide +kernel
theorem dX10_findPattern_213 : decode cX10_findPattern 213 = .ok (.iadd, 1) := by decide +kernel
theorem dX10_findPattern_214 : decode cX10_findPattern 214 = .ok (.iload 8, 2) := by decide +kernel
theorem dX10_findPattern_216 : decode cX10_findPattern 216 = .ok (.iadd, 1) := by decide +kernel
theorem dX10_findPattern_217 : decode cX10_findPattern 217 = .ok (.istore 4, 2) := by decide +kernel
theorem dX10_findPattern_219 : decode cX10_findPattern 219 = .ok (.aload_n 0, 1) := by decide +kernel
theorem dX10_findPattern_220 : decode cX10_findPattern 220 = .ok (.getfield 84, 3) := by decide +kernel
theorem dX10_findPattern_223 : decode cX10_findPattern 223 = .ok (.iconst 0, 1) := by decide +kernel
theorem dX10_findPattern_224 : decode cX10_findPattern 224 = .ok (.iload 5, 2) := by decide +kernel
theorem dX10_findPattern_226 : decode cX10_findPattern 226 = .ok (.iastore, 1) := by decide +kernel
theorem dX10_findPattern_227 : decode cX10_findPattern 227 = .ok (.aload_n 0, 1) := by decide +kernel
theorem dX10_findPattern_228 : decode cX10_findPattern 228 = .ok (.getfield 84, 3) := by decide +kernel
theorem dX10_findPattern_231 : decode cX10_findPattern 231 = .ok (.iconst 1, 1) := by decide +kernel
theorem dX10_findPattern_232 : decode cX10_findPattern 232 = .ok (.iload 6, 2) := by decide +kernel
theorem dX10_findPattern_234 : decode cX10_findPattern 234 = .ok (.iastore, 1) := by decide +kernel
theorem dX10_findPattern_235 : decode cX10_findPattern 235 = .ok (.aload_n 0, 1) := by decide +kernel
theorem dX10_findPattern_236 : decode cX10_findPattern 236 = .ok (.getfield 84, 3) := by decide +kernel
theorem dX10_findPattern_239 : decode cX10_findPattern 239 = .ok (.iconst 2, 1) := by decide +kernel
theorem dX10_findPattern_240 : decode cX10_findPattern 240 = .ok (.iload 8, 2) := by decide +kernel
theorem dX10_findPattern_242 : decode cX10_findPattern 242 = .ok (.iastore, 1) := by decide +kernel
theorem dX10_findPattern_243 : decode cX10_findPattern 243 = .ok (.iinc 6 (-1), 3) := by decide +kernel
theorem dX10_findPattern_246 : decode cX10_findPattern 246 = .ok (.goto (-208), 3) := by decide +kernel
theorem dX10_findPattern_249 : decode cX10_findPattern 249 = .ok (.iinc 5 (-1), 3) := by decide +kernel
theorem dX10_findPattern_252 : decode cX10_findPattern 252 = .ok (.goto (-227), 3) := by decide +kernel
theorem dX10_findPattern_255 : decode cX10_findPattern 255 = .ok (.return_, 1) := by decide +kernel
theorem dX10_lengthOf_0 : decode cX10_lengthOf 0 = .ok (.iload_n 2, 1) := by decide +kernel
theorem dX10_lengthOf_1 : decode cX10_lengthOf 1 = .ok (.aload_n 0, 1) := by decide +kernel
theorem dX10_lengthOf_2 : decode cX10_lengthOf 2 = .ok (.getfield 75, 3) := by decide +kernel
theorem dX10_lengthOf_5 : decode cX10_lengthOf 5 = .ok (.iload_n 1, 1) := by decide +kernel
theorem dX10_lengthOf_6 : decode cX10_lengthOf 6 = .ok (.iaload, 1) := by decide +kernel
theorem dX10_lengthOf_7 : decode cX10_lengthOf 7 = .ok (.if_icmp .ge 16, 3) := by decide +kernel
theorem dX10_lengthOf_10 : decode cX10_lengthOf 10 = .ok (.aload_n 0, 1) := by decide +kernel
theorem dX10_lengthOf_11 : decode cX10_lengthOf 11 = .ok (.getfield 78, 3) := by decide +kernel
theorem dX10_lengthOf_14 : decode cX10_lengthOf 14 = .ok (.iconst 3, 1) := by decide +kernel
theorem dX10_lengthOf_15 : decode cX10_lengthOf 15 = .ok (.iload_n 1, 1) := by decide +kernel
theorem dX10_lengthOf_16 : decode cX10_lengthOf 16 = .ok (.imul, 1) := by decide +kernel
theorem dX10_lengthOf_17 : decode cX10_lengthOf 17 = .ok (.iload_n 2, 1) := by decide +kernel
theorem dX10_lengthOf_18 : decode cX10_lengthOf 18 = .ok (.iadd, 1) := by decide +kernel
theorem dX10_lengthOf_19 : decode cX10_lengthOf 19 = .ok (.iaload, 1) := by decide +kernel
theorem dX10_lengthOf_20 : decode cX10_lengthOf 20 = .ok (.goto 4, 3) := by decide +kernel
theorem dX10_lengthOf_23 : decode cX10_lengthOf 23 = .ok (.iconst 0, 1) := by decide +kernel
theorem dX10_lengthOf_24 : decode cX10_lengthOf 24 = .ok (.ireturn, 1) := by decide +kernel
theorem dX10_findBar_0 : decode cX10_findBar 0 = .ok (.iload_n 2, 1) := by decide +kernel
theorem dX10_findBar_1 : decode cX10_findBar 1 = .ok (.aload_n 0, 1) := by decide +kernel
theorem dX10_findBar_2 : decode cX10_findBar 2 = .ok (.getfield 7, 3) := by decide +kernel
theorem dX10_findBar_5 : decode cX10_findBar 5 = .ok (.iconst 0, 1) := by decide +kernel
theorem dX10_findBar_6 : decode cX10_findBar 6 = .ok (.iaload, 1) := by decide +kernel
theorem dX10_findBar_7 : decode cX10_findBar 7 = .ok (.if_icmp .le 14, 3) := by decide +kernel
theorem dX10_findBar_10 : decode cX10_findBar 10 = .ok (.iload_n 2, 1) := by decide +kernel
theorem dX10_findBar_11 : decode cX10_findBar 11 = .ok (.aload_n 0, 1) := by decide +kernel
theorem dX10_findBar_12 : decode cX10_findBar 12 = .ok (.getfield 7, 3) := by decide +kernel
theorem dX10_findBar_15 : decode cX10_findBar 15 = .ok (.iconst 0, 1) := by decide +kernel
theorem dX10_findBar_16 : decode cX10_findBar 16 = .ok (.iaload, 1) := by decide +kernel
theorem dX10_findBar_17 : decode cX10_findBar 17 = .ok (.isub, 1) := by decide +kernel
theorem dX10_findBar_18 : decode cX10_findBar 18 = .ok (.goto 4, 3) := by decide +kernel
theorem dX10_findBar_21 : decode cX10_findBar 21 = .ok (.iconst 0, 1) := by decide +kernel
theorem dX10_findBar_22 : decode cX10_findBar 22 = .ok (.istore 4, 2) := by decide +kernel
theorem dX10_findBar_24 : decode cX10_findBar 24 = .ok (.aload_n 0, 1) := by decide +kernel
theorem dX10_findBar_25 : decode cX10_findBar 25 = .ok (.iload 4, 2) := by decide +kernel
theorem dX10_findBar_27 : decode cX10_findBar 27 = .ok (.i2l, 1) := by decide +kernel
theorem dX10_findBar_28 : decode cX10_findBar 28 = .ok (.aload_n 0, 1) := by decide +kernel
theorem dX10_findBar_29 : decode cX10_findBar 29 = .ok (.getfield 16, 3) := by decide +kernel
theorem dX10_findBar_32 : decode cX10_findBar 32 = .ok (.iload_n 1, 1) := by decide +kernel
theorem dX10_findBar_33 : decode cX10_findBar 33 = .ok (.iaload, 1) := by decide +kernel
theorem dX10_findBar_34 : decode cX10_findBar 34 = .ok (.i2l, 1) := by decide +kernel
theorem dX10_findBar_35 : decode cX10_findBar 35 = .ok (.lmul, 1) := by decide +kernel
theorem dX10_findBar_36 : decode cX10_findBar 36 = .ok (.sipush 1000, 3) := by decide +kernel
theorem dX10_findBar_39 : decode cX10_findBar 39 = .ok (.aload_n 0, 1) := by decide +kernel
theorem dX10_findBar_40 : decode cX10_findBar 40 = .ok (.getfield 7, 3) := by decide +kernel
theorem dX10_findBar_43 : decode cX10_findBar 43 = .ok (.iconst 5, 1) := by decide +kernel
theorem dX10_findBar_44 : decode cX10_findBar 44 = .ok (.iaload, 1) := by decide +kernel
theorem dX10_findBar_45 : decode cX10_findBar 45 = .ok (.iadd, 1) := by decide +kernel
theorem dX10_findBar_46 : decode cX10_findBar 46 = .ok (.i2l, 1) := by decide +kernel
theorem dX10_findBar_47 : decode cX10_findBar 47 = .ok (.lmul, 1) := by decide +kernel
theorem dX10_findBar_48 : decode cX10_findBar 48 = .ok (.ldc2_w 181, 3) := by decide +kernel
theorem dX10_findBar_51 : decode cX10_findBar 51 = .ok (.ldiv, 1) := by decide +kernel
theorem dX10_findBar_52 : decode cX10_findBar 52 = .ok (.l2i, 1) := by decide +kernel
theorem dX10_findBar_53 : decode cX10_findBar 53 = .ok (.putfield 183, 3) := by decide +kernel
theorem dX10_findBar_56 : decode cX10_findBar 56 = .ok (.aload_n 0, 1) := by decide +kernel
theorem dX10_findBar_57 : decode cX10_findBar 57 = .ok (.aload_n 0, 1) := by decide +kernel
theorem dX10_findBar_58 : decode cX10_findBar 58 = .ok (.getfield 7, 3) := by decide +kernel
theorem dX10_findBar_61 : decode cX10_findBar 61 = .ok (.iconst 1, 1) := by decide +kernel
theorem dX10_findBar_62 : decode cX10_findBar 62 = .ok (.iaload, 1) := by decide +kernel
theorem dX10_findBar_63 : decode cX10_findBar 63 = .ok (.aload_n 0, 1) := by decide +kernel
theorem dX10_findBar_64 : decode cX10_findBar 64 = .ok (.getfield 183, 3) := by decide +kernel
theorem dX10_findBar_67 : decode cX10_findBar 67 = .ok (.if_icmp .ge 12, 3) := by decide +kernel
theorem dX10_findBar_70 : decode cX10_findBar 70 = .ok (.aload_n 0, 1) := by decide +kernel
theorem dX10_findBar_71 : decode cX10_findBar 71 = .ok (.getfield 7, 3) := by decide +kernel
theorem dX10_findBar_74 : decode cX10_findBar 74 = .ok (.iconst 1, 1) := by decide +kernel
theorem dX10_findBar_75 : decode cX10_findBar 75 = .ok (.iaload, 1) := by decide +kernel
theorem dX10_findBar_76 : decode cX10_findBar 76 = .ok (.goto 7, 3) := by decide +kernel
theorem dX10_findBar_79 : decode cX10_findBar 79 = .ok (.aload_n 0, 1) := by decide +kernel
theorem dX10_findBar_80 : decode cX10_findBar 80 = .ok (.getfield 183, 3) := by decide +kernel
theorem dX10_findBar_83 : decode cX10_findBar 83 = .ok (.putfield 186, 3) := by decide +kernel
theorem dX10_findBar_86 : decode cX10_findBar 86 = .ok (.aload_n 0, 1) := by decide +kernel
theorem dX10_findBar_87 : decode cX10_findBar 87 = .ok (.aload_n 0, 1) := by decide +kernel
theorem dX10_findBar_88 : decode cX10_findBar 88 = .ok (.getfield 7, 3) := by decide +kernel
theorem dX10_findBar_91 : decode cX10_findBar 91 = .ok (.iconst 2, 1) := by decide +kernel
theorem dX10_findBar_92 : decode cX10_findBar 92 = .ok (.iaload, 1) := by decide +kernel
theorem dX10_findBar_93 : decode cX10_findBar 93 = .ok (.aload_n 0, 1) := by decide +kernel
theorem dX10_findBar_94 : decode cX10_findBar 94 = .ok (.getfield 183, 3) := by decide +kernel
theorem dX10_findBar_97 : decode cX10_findBar 97 = .ok (.aload_n 0, 1) := by decide +kernel
theorem dX10_findBar_98 : decode cX10_findBar 98 = .ok (.getfield 186, 3) := by decide +kernel
theorem dX10_findBar_101 : decode cX10_findBar 101 = .ok (.isub, 1) := by decide +kernel
theorem dX10_findBar_102 : decode cX10_findBar 102 = .ok (.if_icmp .ge 12, 3) := by decide +kernel
theorem dX10_findBar_105 : decode cX10_findBar 105 = .ok (.aload_n 0, 1) := by decide +kernel
theorem dX10_findBar_106 : decode cX10_findBar 106 = .ok (.getfield 7, 3) := by decide +kernel
theorem dX10_findBar_109 : decode cX10_findBar 109 = .ok (.iconst 2, 1) := by decide +kernel
theorem dX10_findBar_110 : decode cX10_findBar 110 = .ok (.iaload, 1) := by decide +kernel
theorem dX10_findBar_111 : decode cX10_findBar 111 = .ok (.goto 12, 3) := by decide +kernel
theorem dX10_findBar_114 : decode cX10_findBar 114 = .ok (.aload_n 0, 1) := by decide +kernel
theorem dX10_findBar_115 : decode cX10_findBar 115 = .ok (.getfield 183, 3) := by decide +kernel
theorem dX10_findBar_118 : decode cX10_findBar 118 = .ok (.aload_n 0, 1) := by decide +kernel
theorem dX10_findBar_119 : decode cX10_findBar 119 = .ok (.getfield 186, 3) := by decide +kernel
theorem dX10_findBar_122 : decode cX10_findBar 122 = .ok (.isub, 1) := by decide +kernel
theorem dX10_findBar_123 : decode cX10_findBar 123 = .ok (.putfield 189, 3) := by decide +kernel
theorem dX10_findBar_126 : decode cX10_findBar 126 = .ok (.aload_n 0, 1) := by decide +kernel
theorem dX10_findBar_127 : decode cX10_findBar 127 = .ok (.getfield 183, 3) := by decide +kernel
theorem dX10_findBar_130 : decode cX10_findBar 130 = .ok (.aload_n 0, 1) := by decide +kernel
theorem dX10_findBar_131 : decode cX10_findBar 131 = .ok (.getfield 186, 3) := by decide +kernel
theorem dX10_findBar_134 : decode cX10_findBar 134 = .ok (.isub, 1) := by decide +kernel
theorem dX10_findBar_135 : decode cX10_findBar 135 = .ok (.aload_n 0, 1) := by decide +kernel
theorem dX10_findBar_136 : decode cX10_findBar 136 = .ok (.getfield 189, 3) := by decide +kernel
theorem dX10_findBar_139 : decode cX10_findBar 139 = .ok (.isub, 1) := by decide +kernel
theorem dX10_findBar_140 : decode cX10_findBar 140 = .ok (.istore 5, 2) := by decide +kernel
theorem dX10_findBar_142 : decode cX10_findBar 142 = .ok (.aload_n 0, 1) := by decide +kernel
theorem dX10_findBar_143 : decode cX10_findBar 143 = .ok (.iload_n 3, 1) := by decide +kernel
theorem dX10_findBar_144 : decode cX10_findBar 144 = .ok (.ifCond .ne 7, 3) := by decide +kernel
theorem dX10_findBar_147 : decode cX10_findBar 147 = .ok (.iconst 0, 1) := by decide +kernel
theorem dX10_findBar_148 : decode cX10_findBar 148 = .ok (.goto 25, 3) := by decide +kernel
theorem dX10_findBar_151 : decode cX10_findBar 151 = .ok (.aload_n 0, 1) := by decide +kernel
theorem dX10_findBar_152 : decode cX10_findBar 152 = .ok (.getfield 7, 3) := by decide +kernel
theorem dX10_findBar_155 : decode cX10_findBar 155 = .ok (.iconst 3, 1) := by decide +kernel
theorem dX10_findBar_156 : decode cX10_findBar 156 = .ok (.iaload, 1) := by decide +kernel
theorem dX10_findBar_157 : decode cX10_findBar 157 = .ok (.iload 5, 2) := by decide +kernel
theorem dX10_findBar_159 : decode cX10_findBar 159 = .ok (.if_icmp .ge 12, 3) := by decide +kernel
theorem dX10_findBar_162 : decode cX10_findBar 162 = .ok (.aload_n 0, 1) := by decide +kernel
theorem dX10_findBar_163 : decode cX10_findBar 163 = .ok (.getfield 7, 3) := by decide +kernel
theorem dX10_findBar_166 : decode cX10_findBar 166 = .ok (.iconst 3, 1) := by decide +kernel
theorem dX10_findBar_167 : decode cX10_findBar 167 = .ok (.iaload, 1) := by decide +kernel
theorem dX10_findBar_168 : decode cX10_findBar 168 = .ok (.goto 5, 3) := by decide +kernel
theorem dX10_findBar_171 : decode cX10_findBar 171 = .ok (.iload 5, 2) := by decide +kernel
theorem dX10_findBar_173 : decode cX10_findBar 173 = .ok (.putfield 192, 3) := by decide +kernel
theorem dX10_findBar_176 : decode cX10_findBar 176 = .ok (.aload_n 0, 1) := by decide +kernel
theorem dX10_findBar_177 : decode cX10_findBar 177 = .ok (.iload 5, 2) := by decide +kernel
theorem dX10_findBar_179 : decode cX10_findBar 179 = .ok (.aload_n 0, 1) := by decide +kernel
theorem dX10_findBar_180 : decode cX10_findBar 180 = .ok (.getfield 192, 3) := by decide +kernel
theorem dX10_findBar_183 : decode cX10_findBar 183 = .ok (.isub, 1) := by decide +kernel
theorem dX10_findBar_184 : decode cX10_findBar 184 = .ok (.putfield 195, 3) := by decide +kernel
theorem dX10_findBar_187 : decode cX10_findBar 187 = .ok (.aload_n 0, 1) := by decide +kernel
theorem dX10_findBar_188 : decode cX10_findBar 188 = .ok (.iload_n 1, 1) := by decide +kernel
theorem dX10_findBar_189 : decode cX10_findBar 189 = .ok (.aload_n 0, 1) := by decide +kernel
theorem dX10_findBar_190 : decode cX10_findBar 190 = .ok (.getfield 195, 3) := by decide +kernel
theorem dX10_findBar_193 : decode cX10_findBar 193 = .ok (.invokevirtual 198, 3) := by decide +kernel
theorem dX10_findBar_196 : decode cX10_findBar 196 = .ok (.return_, 1) := by decide +kernel
theorem dX10_press_0 : decode cX10_press 0 = .ok (.aload_n 0, 1) := by decide +kernel
theorem dX10_press_1 : decode cX10_press 1 = .ok (.iload_n 1, 1) := by decide +kernel
theorem dX10_press_2 : decode cX10_press 2 = .ok (.invokevirtual 156, 3) := by decide +kernel
theorem dX10_press_5 : decode cX10_press 5 = .ok (.ifCond .eq 17, 3) := by decide +kernel
theorem dX10_press_8 : decode cX10_press 8 = .ok (.iload_n 2, 1) := by decide +kernel
theorem dX10_press_9 : decode cX10_press 9 = .ok (.i2l, 1) := by decide +kernel
theorem dX10_press_10 : decode cX10_press 10 = .ok (.ldc2_w 202, 3) := by decide +kernel
theorem dX10_press_13 : decode cX10_press 13 = .ok (.ldc2_w 204, 3) := by decide +kernel
theorem dX10_press_16 : decode cX10_press 16 = .ok (.invokestatic 131, 3) := by decide +kernel
theorem dX10_press_19 : decode cX10_press 19 = .ok (.ifCond .ne 6, 3) := by decide +kernel
theorem dX10_press_22 : decode cX10_press 22 = .ok (.bipush (-2), 2) := by decide +kernel
theorem dX10_press_24 : decode cX10_press 24 = .ok (.ireturn, 1) := by decide +kernel
theorem dX10_press_25 : decode cX10_press 25 = .ok (.aload_n 0, 1) := by decide +kernel
theorem dX10_press_26 : decode cX10_press 26 = .ok (.iload_n 1, 1) := by decide +kernel
theorem dX10_press_27 : decode cX10_press 27 = .ok (.invokevirtual 164, 3) := by decide +kernel
theorem dX10_press_30 : decode cX10_press 30 = .ok (.ifCond .ne 6, 3) := by decide +kernel
theorem dX10_press_33 : decode cX10_press 33 = .ok (.bipush (-3), 2) := by decide +kernel
theorem dX10_press_35 : decode cX10_press 35 = .ok (.ireturn, 1) := by decide +kernel
theorem dX10_press_36 : decode cX10_press 36 = .ok (.aload_n 0, 1) := by decide +kernel
theorem dX10_press_37 : decode cX10_press 37 = .ok (.getfield 206, 3) := by decide +kernel
theorem dX10_press_40 : decode cX10_press 40 = .ok (.sipush 200, 3) := by decide +kernel
theorem dX10_press_43 : decode cX10_press 43 = .ok (.if_icmp .ne 6, 3) := by decide +kernel
theorem dX10_press_46 : decode cX10_press 46 = .ok (.bipush (-4), 2) := by decide +kernel
theorem dX10_press_48 : decode cX10_press 48 = .ok (.ireturn, 1) := by decide +kernel
theorem dX10_press_49 : decode cX10_press 49 = .ok (.aload_n 0, 1) := by decide +kernel
theorem dX10_press_50 : decode cX10_press 50 = .ok (.getfield 25, 3) := by decide +kernel
theorem dX10_press_53 : decode cX10_press 53 = .ok (.iload_n 1, 1) := by decide +kernel
theorem dX10_press_54 : decode cX10_press 54 = .ok (.iaload, 1) := by decide +kernel
theorem dX10_press_55 : decode cX10_press 55 = .ok (.istore_n 3, 1) := by decide +kernel
theorem dX10_press_56 : decode cX10_press 56 = .ok (.aload_n 0, 1) := by decide +kernel
theorem dX10_press_57 : decode cX10_press 57 = .ok (.iload_n 3, 1) := by decide +kernel
theorem dX10_press_58 : decode cX10_press 58 = .ok (.iload_n 2, 1) := by decide +kernel
theorem dX10_press_59 : decode cX10_press 59 = .ok (.aload_n 0, 1) := by decide +kernel
theorem dX10_press_60 : decode cX10_press 60 = .ok (.getfield 64, 3) := by decide +kernel
theorem dX10_press_63 : decode cX10_press 63 = .ok (.iload_n 1, 1) := by decide +kernel
theorem dX10_press_64 : decode cX10_press 64 = .ok (.if_icmp .ne 20, 3) := by decide +kernel
theorem dX10_press_67 : decode cX10_press 67 = .ok (.aload_n 0, 1) := by decide +kernel
theorem dX10_press_68 : decode cX10_press 68 = .ok (.getfield 68, 3) := by decide +kernel
theorem dX10_press_71 : decode cX10_press 71 = .ok (.aload_n 0, 1) := by decide +kernel
theorem dX10_press_72 : decode cX10_press 72 = .ok (.getfield 159, 3) := by decide +kernel
theorem dX10_press_75 : decode cX10_press 75 = .ok (.iconst 1, 1) := by decide +kernel
theorem dX10_press_76 : decode cX10_press 76 = .ok (.isub, 1) := by decide +kernel
theorem dX10_press_77 : decode cX10_press 77 = .ok (.if_icmp .ne 7, 3) := by decide +kernel
theorem dX10_press_80 : decode cX10_press 80 = .ok (.iconst 1, 1) := by decide +kernel
theorem dX10_press_81 : decode cX10_press 81 = .ok (.goto 4, 3) := by decide +kernel
theorem dX10_press_84 : decode cX10_press 84 = .ok (.iconst 0, 1) := by decide +kernel
theorem dX10_press_85 : decode cX10_press 85 = .ok (.invokevirtual 209, 3) := by decide +kernel
theorem dX10_press_88 : decode cX10_press 88 = .ok (.iconst 0, 1) := by decide +kernel
theorem dX10_press_89 : decode cX10_press 89 = .ok (.istore 4, 2) := by decide +kernel
theorem dX10_press_91 : decode cX10_press 91 = .ok (.iload 4, 2) := by decide +kernel
theorem dX10_press_93 : decode cX10_press 93 = .ok (.aload_n 0, 1) := by decide +kernel
theorem dX10_press_94 : decode cX10_press 94 = .ok (.getfield 75, 3) := by decide +kernel
theorem dX10_press_97 : decode cX10_press 97 = .ok (.iload_n 3, 1) := by decide +kernel
theorem dX10_press_98 : decode cX10_press 98 = .ok (.iaload, 1) := by decide +kernel
theorem dX10_press_99 : decode cX10_press 99 = .ok (.if_icmp .ge 30, 3) := by decide +kernel
theorem dX10_press_102 : decode cX10_press 102 = .ok (.aload_n 0, 1) := by decide +kernel
theorem dX10_press_103 : decode cX10_press 103 = .ok (.getfield 81, 3) := by decide +kernel
theorem dX10_press_106 : decode cX10_press 106 = .ok (.iconst 3, 1) := by decide +kernel
theorem dX10_press_107 : decode cX10_press 107 = .ok (.iload_n 3, 1) := by decide +kernel
theorem dX10_press_108 : decode cX10_press 108 = .ok (.imul, 1) := by decide +kernel
theorem dX10_press_109 : decode cX10_press 109 = .ok (.iload 4, 2) := by decide +kernel
theorem dX10_press_111 : decode cX10_press 111 = .ok (.iadd, 1) := by decide +kernel
theorem dX10_press_112 : decode cX10_press 112 = .ok (.dup2, 1) := by decide +kernel
theorem dX10_press_113 : decode cX10_press 113 = .ok (.iaload, 1) := by decide +kernel
theorem dX10_press_114 : decode cX10_press 114 = .ok (.aload_n 0, 1) := by decide +kernel
theorem dX10_press_115 : decode cX10_press 115 = .ok (.getfield 84, 3) := by decide +kernel
theorem dX10_press_118 : decode cX10_press 118 = .ok (.iload 4, 2) := by decide +kernel
theorem dX10_press_120 : decode cX10_press 120 = .ok (.iaload, 1) := by decide +kernel
theorem dX10_press_121 : decode cX10_press 121 = .ok (.isub, 1) := by decide +kernel
theorem dX10_press_122 : decode cX10_press 122 = .ok (.iastore, 1) := by decide +kernel
theorem dX10_press_123 : decode cX10_press 123 = .ok (.iinc 4 1, 3) := by decide +kernel
theorem dX10_press_126 : decode cX10_press 126 = .ok (.goto (-35), 3) := by decide +kernel
theorem dX10_press_129 : decode cX10_press 129 = .ok (.aload_n 0, 1) := by decide +kernel
theorem dX10_press_130 : decode cX10_press 130 = .ok (.getfield 40, 3) := by decide +kernel
theorem dX10_press_133 : decode cX10_press 133 = .ok (.aload_n 0, 1) := by decide +kernel
theorem dX10_press_134 : decode cX10_press 134 = .ok (.getfield 206, 3) := by decide +kernel
theorem dX10_press_137 : decode cX10_press 137 = .ok (.iload_n 1, 1) := by decide +kernel
theorem dX10_press_138 : decode cX10_press 138 = .ok (.iastore, 1) := by decide +kernel
theorem dX10_press_139 : decode cX10_press 139 = .ok (.aload_n 0, 1) := by decide +kernel
theorem dX10_press_140 : decode cX10_press 140 = .ok (.getfield 43, 3) := by decide +kernel
theorem dX10_press_143 : decode cX10_press 143 = .ok (.aload_n 0, 1) := by decide +kernel
theorem dX10_press_144 : decode cX10_press 144 = .ok (.getfield 206, 3) := by decide +kernel
theorem dX10_press_147 : decode cX10_press 147 = .ok (.iload_n 2, 1) := by decide +kernel
theorem dX10_press_148 : decode cX10_press 148 = .ok (.iastore, 1) := by decide +kernel
theorem dX10_press_149 : decode cX10_press 149 = .ok (.aload_n 0, 1) := by decide +kernel
theorem dX10_press_150 : decode cX10_press 150 = .ok (.getfield 46, 3) := by decide +kernel
theorem dX10_press_153 : decode cX10_press 153 = .ok (.aload_n 0, 1) := by decide +kernel
theorem dX10_press_154 : decode cX10_press 154 = .ok (.getfield 206, 3) := by decide +kernel
theorem dX10_press_157 : decode cX10_press 157 = .ok (.aload_n 0, 1) := by decide +kernel
theorem dX10_press_158 : decode cX10_press 158 = .ok (.getfield 183, 3) := by decide +kernel
theorem dX10_press_161 : decode cX10_press 161 = .ok (.iastore, 1) := by decide +kernel
theorem dX10_press_162 : decode cX10_press 162 = .ok (.aload_n 0, 1) := by decide +kernel
theorem dX10_press_163 : decode cX10_press 163 = .ok (.getfield 49, 3) := by decide +kernel
theorem dX10_press_166 : decode cX10_press 166 = .ok (.aload_n 0, 1) := by decide +kernel
theorem dX10_press_167 : decode cX10_press 167 = .ok (.getfield 206, 3) := by decide +kernel
theorem dX10_press_170 : decode cX10_press 170 = .ok (.aload_n 0, 1) := by decide +kernel
theorem dX10_press_171 : decode cX10_press 171 = .ok (.getfield 171, 3) := by decide +kernel
theorem dX10_press_174 : decode cX10_press 174 = .ok (.iastore, 1) := by decide +kernel
theorem dX10_press_175 : decode cX10_press 175 = .ok (.aload_n 0, 1) := by decide +kernel
theorem dX10_press_176 : decode cX10_press 176 = .ok (.getfield 52, 3) := by decide +kernel
theorem dX10_press_179 : decode cX10_press 179 = .ok (.aload_n 0, 1) := by decide +kernel
theorem dX10_press_180 : decode cX10_press 180 = .ok (.getfield 206, 3) := by decide +kernel
theorem dX10_press_183 : decode cX10_press 183 = .ok (.aload_n 0, 1) := by decide +kernel
theorem dX10_press_184 : decode cX10_press 184 = .ok (.getfield 195, 3) := by decide +kernel
theorem dX10_press_187 : decode cX10_press 187 = .ok (.aload_n 0, 1) := by decide +kernel
theorem dX10_press_188 : decode cX10_press 188 = .ok (.getfield 171, 3) := by decide +kernel
theorem dX10_press_191 : decode cX10_press 191 = .ok (.isub, 1) := by decide +kernel
theorem dX10_press_192 : decode cX10_press 192 = .ok (.iastore, 1) := by decide +kernel
theorem dX10_press_193 : decode cX10_press 193 = .ok (.aload_n 0, 1) := by decide +kernel
theorem dX10_press_194 : decode cX10_press 194 = .ok (.getfield 55, 3) := by decide +kernel
theorem dX10_press_197 : decode cX10_press 197 = .ok (.aload_n 0, 1) := by decide +kernel
theorem dX10_press_198 : decode cX10_press 198 = .ok (.getfield 206, 3) := by decide +kernel
theorem dX10_press_201 : decode cX10_press 201 = .ok (.aload_n 0, 1) := by decide +kernel
theorem dX10_press_202 : decode cX10_press 202 = .ok (.getfield 192, 3) := by decide +kernel
theorem dX10_press_205 : decode cX10_press 205 = .ok (.iastore, 1) := by decide +kernel
theorem dX10_press_206 : decode cX10_press 206 = .ok (.aload_n 0, 1) := by decide +kernel
theorem dX10_press_207 : decode cX10_press 207 = .ok (.getfield 58, 3) := by decide +kernel
theorem dX10_press_210 : decode cX10_press 210 = .ok (.aload_n 0, 1) := by decide +kernel
theorem dX10_press_211 : decode cX10_press 211 = .ok (.getfield 206, 3) := by decide +kernel
theorem dX10_press_214 : decode cX10_press 214 = .ok (.iconst (-1), 1) := by decide +kernel
theorem dX10_press_215 : decode cX10_press 215 = .ok (.iastore, 1) := by decide +kernel
theorem dX10_press_216 : decode cX10_press 216 = .ok (.aload_n 0, 1) := by decide +kernel
theorem dX10_press_217 : decode cX10_press 217 = .ok (.getfield 61, 3) := by decide +kernel
theorem dX10_press_220 : decode cX10_press 220 = .ok (.aload_n 0, 1) := by decide +kernel
theorem dX10_press_221 : decode cX10_press 221 = .ok (.getfield 206, 3) := by decide +kernel
theorem dX10_press_224 : decode cX10_press 224 = .ok (.iconst (-1), 1) := by decide +kernel
theorem dX10_press_225 : decode cX10_press 225 = .ok (.iastore, 1) := by decide +kernel
theorem dX10_press_226 : decode cX10_press 226 = .ok (.aload_n 0, 1) := by decide +kernel
theorem dX10_press_227 : decode cX10_press 227 = .ok (.dup, 1) := by decide +kernel
theorem dX10_press_228 : decode cX10_press 228 = .ok (.getfield 206, 3) := by decide +kernel
theorem dX10_press_231 : decode cX10_press 231 = .ok (.iconst 1, 1) := by decide +kernel
theorem dX10_press_232 : decode cX10_press 232 = .ok (.iadd, 1) := by decide +kernel
theorem dX10_press_233 : decode cX10_press 233 = .ok (.putfield 206, 3) := by decide +kernel
theorem dX10_press_236 : decode cX10_press 236 = .ok (.aload_n 0, 1) := by decide +kernel
theorem dX10_press_237 : decode cX10_press 237 = .ok (.getfield 71, 3) := by decide +kernel
theorem dX10_press_240 : decode cX10_press 240 = .ok (.iconst 0, 1) := by decide +kernel
theorem dX10_press_241 : decode cX10_press 241 = .ok (.dup2, 1) := by decide +kernel
theorem dX10_press_242 : decode cX10_press 242 = .ok (.laload, 1) := by decide +kernel
theorem dX10_press_243 : decode cX10_press 243 = .ok (.aload_n 0, 1) := by decide +kernel
theorem dX10_press_244 : decode cX10_press 244 = .ok (.getfield 186, 3) := by decide +kernel
theorem dX10_press_247 : decode cX10_press 247 = .ok (.i2l, 1) := by decide +kernel
theorem dX10_press_248 : decode cX10_press 248 = .ok (.ladd, 1) := by decide +kernel
theorem dX10_press_249 : decode cX10_press 249 = .ok (.lastore, 1) := by decide +kernel
theorem dX10_press_250 : decode cX10_press 250 = .ok (.aload_n 0, 1) := by decide +kernel
theorem dX10_press_251 : decode cX10_press 251 = .ok (.getfield 71, 3) := by decide +kernel
theorem dX10_press_254 : decode cX10_press 254 = .ok (.iconst 1, 1) := by decide +kernel
theorem dX10_press_255 : decode cX10_press 255 = .ok (.dup2, 1) := by decide +kernel
theorem dX10_press_256 : decode cX10_press 256 = .ok (.laload, 1) := by decide +kernel
theorem dX10_press_257 : decode cX10_press 257 = .ok (.aload_n 0, 1) := by decide +kernel
theorem dX10_press_258 : decode cX10_press 258 = .ok (.getfield 189, 3) := by decide +kernel
theorem dX10_press_261 : decode cX10_press 261 = .ok (.i2l, 1) := by decide +kernel
theorem dX10_press_262 : decode cX10_press 262 = .ok (.ladd, 1) := by decide +kernel
theorem dX10_press_263 : decode cX10_press 263 = .ok (.lastore, 1) := by decide +kernel
theorem dX10_press_264 : decode cX10_press 264 = .ok (.aload_n 0, 1) := by decide +kernel
theorem dX10_press_265 : decode cX10_press 265 = .ok (.getfield 71, 3) := by decide +kernel
theorem dX10_press_268 : decode cX10_press 268 = .ok (.iconst 2, 1) := by decide +kernel
theorem dX10_press_269 : decode cX10_press 269 = .ok (.dup2, 1) := by decide +kernel
theorem dX10_press_270 : decode cX10_press 270 = .ok (.laload, 1) := by decide +kernel
theorem dX10_press_271 : decode cX10_press 271 = .ok (.aload_n 0, 1) := by decide +kernel
theorem dX10_press_272 : decode cX10_press 272 = .ok (.getfield 192, 3) := by decide +kernel
theorem dX10_press_275 : decode cX10_press 275 = .ok (.i2l, 1) := by decide +kernel
theorem dX10_press_276 : decode cX10_press 276 = .ok (.ladd, 1) := by decide +kernel
theorem dX10_press_277 : decode cX10_press 277 = .ok (.lastore, 1) := by decide +kernel
theorem dX10_press_278 : decode cX10_press 278 = .ok (.aload_n 0, 1) := by decide +kernel
theorem dX10_press_279 : decode cX10_press 279 = .ok (.getfield 71, 3) := by decide +kernel
theorem dX10_press_282 : decode cX10_press 282 = .ok (.iconst 3, 1) := by decide +kernel
theorem dX10_press_283 : decode cX10_press 283 = .ok (.dup2, 1) := by decide +kernel
theorem dX10_press_284 : decode cX10_press 284 = .ok (.laload, 1) := by decide +kernel
theorem dX10_press_285 : decode cX10_press 285 = .ok (.aload_n 0, 1) := by decide +kernel
theorem dX10_press_286 : decode cX10_press 286 = .ok (.getfield 171, 3) := by decide +kernel
theorem dX10_press_289 : decode cX10_press 289 = .ok (.i2l, 1) := by decide +kernel
theorem dX10_press_290 : decode cX10_press 290 = .ok (.ladd, 1) := by decide +kernel
theorem dX10_press_291 : decode cX10_press 291 = .ok (.lastore, 1) := by decide +kernel
theorem dX10_press_292 : decode cX10_press 292 = .ok (.aload_n 0, 1) := by decide +kernel
theorem dX10_press_293 : decode cX10_press 293 = .ok (.getfield 71, 3) := by decide +kernel
theorem dX10_press_296 : decode cX10_press 296 = .ok (.iconst 4, 1) := by decide +kernel
theorem dX10_press_297 : decode cX10_press 297 = .ok (.dup2, 1) := by decide +kernel
theorem dX10_press_298 : decode cX10_press 298 = .ok (.laload, 1) := by decide +kernel
theorem dX10_press_299 : decode cX10_press 299 = .ok (.aload_n 0, 1) := by decide +kernel
theorem dX10_press_300 : decode cX10_press 300 = .ok (.getfield 195, 3) := by decide +kernel
theorem dX10_press_303 : decode cX10_press 303 = .ok (.aload_n 0, 1) := by decide +kernel
theorem dX10_press_304 : decode cX10_press 304 = .ok (.getfield 171, 3) := by decide +kernel
theorem dX10_press_307 : decode cX10_press 307 = .ok (.isub, 1) := by decide +kernel
theorem dX10_press_308 : decode cX10_press 308 = .ok (.i2l, 1) := by decide +kernel
theorem dX10_press_309 : decode cX10_press 309 = .ok (.ladd, 1) := by decide +kernel
theorem dX10_press_310 : decode cX10_press 310 = .ok (.lastore, 1) := by decide +kernel
theorem dX10_press_311 : decode cX10_press 311 = .ok (.aload_n 0, 1) := by decide +kernel
theorem dX10_press_312 : decode cX10_press 312 = .ok (.getfield 71, 3) := by decide +kernel
theorem dX10_press_315 : decode cX10_press 315 = .ok (.iconst 5, 1) := by decide +kernel
theorem dX10_press_316 : decode cX10_press 316 = .ok (.dup2, 1) := by decide +kernel
theorem dX10_press_317 : decode cX10_press 317 = .ok (.laload, 1) := by decide +kernel
theorem dX10_press_318 : decode cX10_press 318 = .ok (.aload_n 0, 1) := by decide +kernel
theorem dX10_press_319 : decode cX10_press 319 = .ok (.getfield 183, 3) := by decide +kernel
theorem dX10_press_322 : decode cX10_press 322 = .ok (.i2l, 1) := by decide +kernel
theorem dX10_press_323 : decode cX10_press 323 = .ok (.ladd, 1) := by decide +kernel
theorem dX10_press_324 : decode cX10_press 324 = .ok (.lastore, 1) := by decide +kernel
theorem dX10_press_325 : decode cX10_press 325 = .ok (.aload_n 0, 1) := by decide +kernel
theorem dX10_press_326 : decode cX10_press 326 = .ok (.getfield 71, 3) := by decide +kernel
theorem dX10_press_329 : decode cX10_press 329 = .ok (.bipush 6, 2) := by decide +kernel
theorem dX10_press_331 : decode cX10_press 331 = .ok (.dup2, 1) := by decide +kernel
theorem dX10_press_332 : decode cX10_press 332 = .ok (.laload, 1) := by decide +kernel
theorem dX10_press_333 : decode cX10_press 333 = .ok (.iload_n 2, 1) := by decide +kernel
theorem dX10_press_334 : decode cX10_press 334 = .ok (.i2l, 1) := by decide +kernel
theorem dX10_press_335 : decode cX10_press 335 = .ok (.ladd, 1) := by decide +kernel
theorem dX10_press_336 : decode cX10_press 336 = .ok (.lastore, 1) := by decide +kernel
theorem dX10_press_337 : decode cX10_press 337 = .ok (.aload_n 0, 1) := by decide +kernel
theorem dX10_press_338 : decode cX10_press 338 = .ok (.getfield 31, 3) := by decide +kernel
theorem dX10_press_341 : decode cX10_press 341 = .ok (.iload_n 1, 1) := by decide +kernel
theorem dX10_press_342 : decode cX10_press 342 = .ok (.dup2, 1) := by decide +kernel
theorem dX10_press_343 : decode cX10_press 343 = .ok (.iaload, 1) := by decide +kernel
theorem dX10_press_344 : decode cX10_press 344 = .ok (.iconst 1, 1) := by decide +kernel
theorem dX10_press_345 : decode cX10_press 345 = .ok (.iadd, 1) := by decide +kernel
theorem dX10_press_346 : decode cX10_press 346 = .ok (.iastore, 1) := by decide +kernel
theorem dX10_press_347 : decode cX10_press 347 = .ok (.aload_n 0, 1) := by decide +kernel
theorem dX10_press_348 : decode cX10_press 348 = .ok (.getfield 34, 3) := by decide +kernel
theorem dX10_press_351 : decode cX10_press 351 = .ok (.iload_n 1, 1) := by decide +kernel
theorem dX10_press_352 : decode cX10_press 352 = .ok (.dup2, 1) := by decide +kernel
theorem dX10_press_353 : decode cX10_press 353 = .ok (.iaload, 1) := by decide +kernel
theorem dX10_press_354 : decode cX10_press 354 = .ok (.iconst 1, 1) := by decide +kernel
theorem dX10_press_355 : decode cX10_press 355 = .ok (.iadd, 1) := by decide +kernel
theorem dX10_press_356 : decode cX10_press 356 = .ok (.iastore, 1) := by decide +kernel
theorem dX10_press_357 : decode cX10_press 357 = .ok (.aload_n 0, 1) := by decide +kernel
theorem dX10_press_358 : decode cX10_press 358 = .ok (.iload_n 1, 1) := by decide +kernel
theorem dX10_press_359 : decode cX10_press 359 = .ok (.putfield 64, 3) := by decide +kernel
theorem dX10_press_362 : decode cX10_press 362 = .ok (.aload_n 0, 1) := by decide +kernel
theorem dX10_press_363 : decode cX10_press 363 = .ok (.aload_n 0, 1) := by decide +kernel
theorem dX10_press_364 : decode cX10_press 364 = .ok (.getfield 159, 3) := by decide +kernel
theorem dX10_press_367 : decode cX10_press 367 = .ok (.putfield 68, 3) := by decide +kernel
theorem dX10_press_370 : decode cX10_press 370 = .ok (.aload_n 0, 1) := by decide +kernel
theorem dX10_press_371 : decode cX10_press 371 = .ok (.dup, 1) := by decide +kernel
theorem dX10_press_372 : decode cX10_press 372 = .ok (.getfield 159, 3) := by decide +kernel
theorem dX10_press_375 : decode cX10_press 375 = .ok (.iconst 1, 1) := by decide +kernel
theorem dX10_press_376 : decode cX10_press 376 = .ok (.iadd, 1) := by decide +kernel
theorem dX10_press_377 : decode cX10_press 377 = .ok (.putfield 159, 3) := by decide +kernel
theorem dX10_press_380 : decode cX10_press 380 = .ok (.aload_n 0, 1) := by decide +kernel
theorem dX10_press_381 : decode cX10_press 381 = .ok (.getfield 171, 3) := by decide +kernel
theorem dX10_press_384 : decode cX10_press 384 = .ok (.ireturn, 1) := by decide +kernel
theorem dX10_isBar_0 : decode cX10_isBar 0 = .ok (.iload_n 1, 1) := by decide +kernel
theorem dX10_isBar_1 : decode cX10_isBar 1 = .ok (.i2l, 1) := by decide +kernel
theorem dX10_isBar_2 : decode cX10_isBar 2 = .ok (.lconst 0, 1) := by decide +kernel
theorem dX10_isBar_3 : decode cX10_isBar 3 = .ok (.aload_n 0, 1) := by decide +kernel
theorem dX10_isBar_4 : decode cX10_isBar 4 = .ok (.getfield 206, 3) := by decide +kernel
theorem dX10_isBar_7 : decode cX10_isBar 7 = .ok (.iconst 1, 1) := by decide +kernel
theorem dX10_isBar_8 : decode cX10_isBar 8 = .ok (.isub, 1) := by decide +kernel
theorem dX10_isBar_9 : decode cX10_isBar 9 = .ok (.i2l, 1) := by decide +kernel
theorem dX10_isBar_10 : decode cX10_isBar 10 = .ok (.invokestatic 131, 3) := by decide +kernel
theorem dX10_isBar_13 : decode cX10_isBar 13 = .ok (.ireturn, 1) := by decide +kernel
theorem dX10_bar_0 : decode cX10_bar 0 = .ok (.aload_n 0, 1) := by decide +kernel
theorem dX10_bar_1 : decode cX10_bar 1 = .ok (.iload_n 1, 1) := by decide +kernel
theorem dX10_bar_2 : decode cX10_bar 2 = .ok (.invokevirtual 213, 3) := by decide +kernel
theorem dX10_bar_5 : decode cX10_bar 5 = .ok (.ifCond .ne 6, 3) := by decide +kernel
theorem dX10_bar_8 : decode cX10_bar 8 = .ok (.bipush (-2), 2) := by decide +kernel
theorem dX10_bar_10 : decode cX10_bar 10 = .ok (.ireturn, 1) := by decide +kernel
theorem dX10_bar_11 : decode cX10_bar 11 = .ok (.iload_n 2, 1) := by decide +kernel
theorem dX10_bar_12 : decode cX10_bar 12 = .ok (.tableswitch 93 0 6 #[44, 51, 58, 65, 72, 79, 86], 44) := by decide +kernel
theorem dX10_bar_56 : decode cX10_bar 56 = .ok (.aload_n 0, 1) := by decide +kernel
theorem dX10_bar_57 : decode cX10_bar 57 = .ok (.getfield 40, 3) := by decide +kernel
theorem dX10_bar_60 : decode cX10_bar 60 = .ok (.iload_n 1, 1) := by decide +kernel
theorem dX10_bar_61 : decode cX10_bar 61 = .ok (.iaload, 1) := by decide +kernel
theorem dX10_bar_62 : decode cX10_bar 62 = .ok (.ireturn, 1) := by decide +kernel
theorem dX10_bar_63 : decode cX10_bar 63 = .ok (.aload_n 0, 1) := by decide +kernel
theorem dX10_bar_64 : decode cX10_bar 64 = .ok (.getfield 43, 3) := by decide +kernel
theorem dX10_bar_67 : decode cX10_bar 67 = .ok (.iload_n 1, 1) := by decide +kernel
theorem dX10_bar_68 : decode cX10_bar 68 = .ok (.iaload, 1) := by decide +kernel
theorem dX10_bar_69 : decode cX10_bar 69 = .ok (.ireturn, 1) := by decide +kernel
theorem dX10_bar_70 : decode cX10_bar 70 = .ok (.aload_n 0, 1) := by decide +kernel
theorem dX10_bar_71 : decode cX10_bar 71 = .ok (.getfield 46, 3) := by decide +kernel
theorem dX10_bar_74 : decode cX10_bar 74 = .ok (.iload_n 1, 1) := by decide +kernel
theorem dX10_bar_75 : decode cX10_bar 75 = .ok (.iaload, 1) := by decide +kernel
theorem dX10_bar_76 : decode cX10_bar 76 = .ok (.ireturn, 1) := by decide +kernel
theorem dX10_bar_77 : decode cX10_bar 77 = .ok (.aload_n 0, 1) := by decide +kernel
theorem dX10_bar_78 : decode cX10_bar 78 = .ok (.getfield 49, 3) := by decide +kernel
theorem dX10_bar_81 : decode cX10_bar 81 = .ok (.iload_n 1, 1) := by decide +kernel
theorem dX10_bar_82 : decode cX10_bar 82 = .ok (.iaload, 1) := by decide +kernel
theorem dX10_bar_83 : decode cX10_bar 83 = .ok (.ireturn, 1) := by decide +kernel
theorem dX10_bar_84 : decode cX10_bar 84 = .ok (.aload_n 0, 1) := by decide +kernel
theorem dX10_bar_85 : decode cX10_bar 85 = .ok (.getfield 52, 3) := by decide +kernel
theorem dX10_bar_88 : decode cX10_bar 88 = .ok (.iload_n 1, 1) := by decide +kernel
theorem dX10_bar_89 : decode cX10_bar 89 = .ok (.iaload, 1) := by decide +kernel
theorem dX10_bar_90 : decode cX10_bar 90 = .ok (.ireturn, 1) := by decide +kernel
theorem dX10_bar_91 : decode cX10_bar 91 = .ok (.aload_n 0, 1) := by decide +kernel
theorem dX10_bar_92 : decode cX10_bar 92 = .ok (.getfield 55, 3) := by decide +kernel
theorem dX10_bar_95 : decode cX10_bar 95 = .ok (.iload_n 1, 1) := by decide +kernel
theorem dX10_bar_96 : decode cX10_bar 96 = .ok (.iaload, 1) := by decide +kernel
theorem dX10_bar_97 : decode cX10_bar 97 = .ok (.ireturn, 1) := by decide +kernel
theorem dX10_bar_98 : decode cX10_bar 98 = .ok (.aload_n 0, 1) := by decide +kernel
theorem dX10_bar_99 : decode cX10_bar 99 = .ok (.getfield 58, 3) := by decide +kernel
theorem dX10_bar_102 : decode cX10_bar 102 = .ok (.iload_n 1, 1) := by decide +kernel
theorem dX10_bar_103 : decode cX10_bar 103 = .ok (.iaload, 1) := by decide +kernel
theorem dX10_bar_104 : decode cX10_bar 104 = .ok (.ireturn, 1) := by decide +kernel
theorem dX10_bar_105 : decode cX10_bar 105 = .ok (.bipush (-2), 2) := by decide +kernel
theorem dX10_bar_107 : decode cX10_bar 107 = .ok (.ireturn, 1) := by decide +kernel
theorem dX10_order_0 : decode cX10_order 0 = .ok (.aload_n 0, 1) := by decide +kernel
theorem dX10_order_1 : decode cX10_order 1 = .ok (.iload_n 1, 1) := by decide +kernel
theorem dX10_order_2 : decode cX10_order 2 = .ok (.invokevirtual 150, 3) := by decide +kernel
theorem dX10_order_5 : decode cX10_order 5 = .ok (.ifCond .eq 29, 3) := by decide +kernel
theorem dX10_order_8 : decode cX10_order 8 = .ok (.iload_n 2, 1) := by decide +kernel
theorem dX10_order_9 : decode cX10_order 9 = .ok (.i2l, 1) := by decide +kernel
theorem dX10_order_10 : decode cX10_order 10 = .ok (.ldc2_w 146, 3) := by decide +kernel
theorem dX10_order_13 : decode cX10_order 13 = .ok (.ldc2_w 216, 3) := by decide +kernel
theorem dX10_order_16 : decode cX10_order 16 = .ok (.invokestatic 131, 3) := by decide +kernel
theorem dX10_order_19 : decode cX10_order 19 = .ok (.ifCond .eq 15, 3) := by decide +kernel
theorem dX10_order_22 : decode cX10_order 22 = .ok (.iload_n 3, 1) := by decide +kernel
theorem dX10_order_23 : decode cX10_order 23 = .ok (.i2l, 1) := by decide +kernel
theorem dX10_order_24 : decode cX10_order 24 = .ok (.lconst 0, 1) := by decide +kernel
theorem dX10_order_25 : decode cX10_order 25 = .ok (.ldc2_w 218, 3) := by decide +kernel
theorem dX10_order_28 : decode cX10_order 28 = .ok (.invokestatic 131, 3) := by decide +kernel
theorem dX10_order_31 : decode cX10_order 31 = .ok (.ifCond .ne 6, 3) := by decide +kernel
theorem dX10_order_34 : decode cX10_order 34 = .ok (.bipush (-2), 2) := by decide +kernel
theorem dX10_order_36 : decode cX10_order 36 = .ok (.ireturn, 1) := by decide +kernel
theorem dX10_order_37 : decode cX10_order 37 = .ok (.aload_n 0, 1) := by decide +kernel
theorem dX10_order_38 : decode cX10_order 38 = .ok (.getfield 75, 3) := by decide +kernel
theorem dX10_order_41 : decode cX10_order 41 = .ok (.iload_n 1, 1) := by decide +kernel
theorem dX10_order_42 : decode cX10_order 42 = .ok (.iaload, 1) := by decide +kernel
theorem dX10_order_43 : decode cX10_order 43 = .ok (.iconst 3, 1) := by decide +kernel
theorem dX10_order_44 : decode cX10_order 44 = .ok (.if_icmp .ne 6, 3) := by decide +kernel
theorem dX10_order_47 : decode cX10_order 47 = .ok (.bipush (-4), 2) := by decide +kernel
theorem dX10_order_49 : decode cX10_order 49 = .ok (.ireturn, 1) := by decide +kernel
theorem dX10_order_50 : decode cX10_order 50 = .ok (.aload_n 0, 1) := by decide +kernel
theorem dX10_order_51 : decode cX10_order 51 = .ok (.getfield 78, 3) := by decide +kernel
theorem dX10_order_54 : decode cX10_order 54 = .ok (.iconst 3, 1) := by decide +kernel
theorem dX10_order_55 : decode cX10_order 55 = .ok (.iload_n 1, 1) := by decide +kernel
theorem dX10_order_56 : decode cX10_order 56 = .ok (.imul, 1) := by decide +kernel
theorem dX10_order_57 : decode cX10_order 57 = .ok (.aload_n 0, 1) := by decide +kernel
theorem dX10_order_58 : decode cX10_order 58 = .ok (.getfield 75, 3) := by decide +kernel
theorem dX10_order_61 : decode cX10_order 61 = .ok (.iload_n 1, 1) := by decide +kernel
theorem dX10_order_62 : decode cX10_order 62 = .ok (.iaload, 1) := by decide +kernel
theorem dX10_order_63 : decode cX10_order 63 = .ok (.iadd, 1) := by decide +kernel
theorem dX10_order_64 : decode cX10_order 64 = .ok (.iload_n 2, 1) := by decide +kernel
theorem dX10_order_65 : decode cX10_order 65 = .ok (.iastore, 1) := by decide +kernel
theorem dX10_order_66 : decode cX10_order 66 = .ok (.aload_n 0, 1) := by decide +kernel
theorem dX10_order_67 : decode cX10_order 67 = .ok (.getfield 81, 3) := by decide +kernel
theorem dX10_order_70 : decode cX10_order 70 = .ok (.iconst 3, 1) := by decide +kernel
theorem dX10_order_71 : decode cX10_order 71 = .ok (.iload_n 1, 1) := by decide +kernel
theorem dX10_order_72 : decode cX10_order 72 = .ok (.imul, 1) := by decide +kernel
theorem dX10_order_73 : decode cX10_order 73 = .ok (.aload_n 0, 1) := by decide +kernel
theorem dX10_order_74 : decode cX10_order 74 = .ok (.getfield 75, 3) := by decide +kernel
theorem dX10_order_77 : decode cX10_order 77 = .ok (.iload_n 1, 1) := by decide +kernel
theorem dX10_order_78 : decode cX10_order 78 = .ok (.iaload, 1) := by decide +kernel
theorem dX10_order_79 : decode cX10_order 79 = .ok (.iadd, 1) := by decide +kernel
theorem dX10_order_80 : decode cX10_order 80 = .ok (.iload_n 3, 1) := by decide +kernel
theorem dX10_order_81 : decode cX10_order 81 = .ok (.iastore, 1) := by decide +kernel
theorem dX10_order_82 : decode cX10_order 82 = .ok (.aload_n 0, 1) := by decide +kernel
theorem dX10_order_83 : decode cX10_order 83 = .ok (.getfield 75, 3) := by decide +kernel
theorem dX10_order_86 : decode cX10_order 86 = .ok (.iload_n 1, 1) := by decide +kernel
theorem dX10_order_87 : decode cX10_order 87 = .ok (.dup2, 1) := by decide +kernel
theorem dX10_order_88 : decode cX10_order 88 = .ok (.iaload, 1) := by decide +kernel
theorem dX10_order_89 : decode cX10_order 89 = .ok (.iconst 1, 1) := by decide +kernel
theorem dX10_order_90 : decode cX10_order 90 = .ok (.iadd, 1) := by decide +kernel
theorem dX10_order_91 : decode cX10_order 91 = .ok (.iastore, 1) := by decide +kernel
theorem dX10_order_92 : decode cX10_order 92 = .ok (.aload_n 0, 1) := by decide +kernel
theorem dX10_order_93 : decode cX10_order 93 = .ok (.getfield 75, 3) := by decide +kernel
theorem dX10_order_96 : decode cX10_order 96 = .ok (.iload_n 1, 1) := by decide +kernel
theorem dX10_order_97 : decode cX10_order 97 = .ok (.iaload, 1) := by decide +kernel
theorem dX10_order_98 : decode cX10_order 98 = .ok (.iconst 1, 1) := by decide +kernel
theorem dX10_order_99 : decode cX10_order 99 = .ok (.isub, 1) := by decide +kernel
theorem dX10_order_100 : decode cX10_order 100 = .ok (.ireturn, 1) := by decide +kernel
theorem dX10_wanted_0 : decode cX10_wanted 0 = .ok (.aload_n 0, 1) := by decide +kernel
theorem dX10_wanted_1 : decode cX10_wanted 1 = .ok (.iload_n 1, 1) := by decide +kernel
theorem dX10_wanted_2 : decode cX10_wanted 2 = .ok (.invokevirtual 150, 3) := by decide +kernel
theorem dX10_wanted_5 : decode cX10_wanted 5 = .ok (.ifCond .eq 34, 3) := by decide +kernel
theorem dX10_wanted_8 : decode cX10_wanted 8 = .ok (.iload_n 2, 1) := by decide +kernel
theorem dX10_wanted_9 : decode cX10_wanted 9 = .ok (.i2l, 1) := by decide +kernel
theorem dX10_wanted_10 : decode cX10_wanted 10 = .ok (.lconst 0, 1) := by decide +kernel
theorem dX10_wanted_11 : decode cX10_wanted 11 = .ok (.aload_n 0, 1) := by decide +kernel
theorem dX10_wanted_12 : decode cX10_wanted 12 = .ok (.getfield 75, 3) := by decide +kernel
theorem dX10_wanted_15 : decode cX10_wanted 15 = .ok (.iload_n 1, 1) := by decide +kernel
theorem dX10_wanted_16 : decode cX10_wanted 16 = .ok (.iaload, 1) := by decide +kernel
theorem dX10_wanted_17 : decode cX10_wanted 17 = .ok (.iconst 1, 1) := by decide +kernel
theorem dX10_wanted_18 : decode cX10_wanted 18 = .ok (.isub, 1) := by decide +kernel
theorem dX10_wanted_19 : decode cX10_wanted 19 = .ok (.i2l, 1) := by decide +kernel
theorem dX10_wanted_20 : decode cX10_wanted 20 = .ok (.invokestatic 131, 3) := by decide +kernel
theorem dX10_wanted_23 : decode cX10_wanted 23 = .ok (.ifCond .eq 16, 3) := by decide +kernel
theorem dX10_wanted_26 : decode cX10_wanted 26 = .ok (.aload_n 0, 1) := by decide +kernel
theorem dX10_wanted_27 : decode cX10_wanted 27 = .ok (.getfield 81, 3) := by decide +kernel
theorem dX10_wanted_30 : decode cX10_wanted 30 = .ok (.iconst 3, 1) := by decide +kernel
theorem dX10_wanted_31 : decode cX10_wanted 31 = .ok (.iload_n 1, 1) := by decide +kernel
theorem dX10_wanted_32 : decode cX10_wanted 32 = .ok (.imul, 1) := by decide +kernel
theorem dX10_wanted_33 : decode cX10_wanted 33 = .ok (.iload_n 2, 1) := by decide +kernel
theorem dX10_wanted_34 : decode cX10_wanted 34 = .ok (.iadd, 1) := by decide +kernel
theorem dX10_wanted_35 : decode cX10_wanted 35 = .ok (.iaload, 1) := by decide +kernel
theorem dX10_wanted_36 : decode cX10_wanted 36 = .ok (.goto 5, 3) := by decide +kernel
theorem dX10_wanted_39 : decode cX10_wanted 39 = .ok (.bipush (-2), 2) := by decide +kernel
theorem dX10_wanted_41 : decode cX10_wanted 41 = .ok (.ireturn, 1) := by decide +kernel
theorem dX10_pattern_0 : decode cX10_pattern 0 = .ok (.aload_n 0, 1) := by decide +kernel
theorem dX10_pattern_1 : decode cX10_pattern 1 = .ok (.iload_n 1, 1) := by decide +kernel
theorem dX10_pattern_2 : decode cX10_pattern 2 = .ok (.invokevirtual 150, 3) := by decide +kernel
theorem dX10_pattern_5 : decode cX10_pattern 5 = .ok (.ifCond .eq 27, 3) := by decide +kernel
theorem dX10_pattern_8 : decode cX10_pattern 8 = .ok (.iload_n 2, 1) := by decide +kernel
theorem dX10_pattern_9 : decode cX10_pattern 9 = .ok (.i2l, 1) := by decide +kernel
theorem dX10_pattern_10 : decode cX10_pattern 10 = .ok (.lconst 0, 1) := by decide +kernel
theorem dX10_pattern_11 : decode cX10_pattern 11 = .ok (.ldc2_w 220, 3) := by decide +kernel
theorem dX10_pattern_14 : decode cX10_pattern 14 = .ok (.invokestatic 131, 3) := by decide +kernel
theorem dX10_pattern_17 : decode cX10_pattern 17 = .ok (.ifCond .eq 15, 3) := by decide +kernel
theorem dX10_pattern_20 : decode cX10_pattern 20 = .ok (.iload_n 3, 1) := by decide +kernel
theorem dX10_pattern_21 : decode cX10_pattern 21 = .ok (.i2l, 1) := by decide +kernel
theorem dX10_pattern_22 : decode cX10_pattern 22 = .ok (.lconst 0, 1) := by decide +kernel
theorem dX10_pattern_23 : decode cX10_pattern 23 = .ok (.ldc2_w 144, 3) := by decide +kernel
theorem dX10_pattern_26 : decode cX10_pattern 26 = .ok (.invokestatic 131, 3) := by decide +kernel
theorem dX10_pattern_29 : decode cX10_pattern 29 = .ok (.ifCond .ne 6, 3) := by decide +kernel
theorem dX10_pattern_32 : decode cX10_pattern 32 = .ok (.bipush (-2), 2) := by decide +kernel
theorem dX10_pattern_34 : decode cX10_pattern 34 = .ok (.ireturn, 1) := by decide +kernel
theorem dX10_pattern_35 : decode cX10_pattern 35 = .ok (.aload_n 0, 1) := by decide +kernel
theorem dX10_pattern_36 : decode cX10_pattern 36 = .ok (.iload_n 1, 1) := by decide +kernel
theorem dX10_pattern_37 : decode cX10_pattern 37 = .ok (.iload_n 2, 1) := by decide +kernel
theorem dX10_pattern_38 : decode cX10_pattern 38 = .ok (.invokevirtual 198, 3) := by decide +kernel
theorem dX10_pattern_41 : decode cX10_pattern 41 = .ok (.iload_n 3, 1) := by decide +kernel
theorem dX10_pattern_42 : decode cX10_pattern 42 = .ok (.iconst 3, 1) := by decide +kernel
theorem dX10_pattern_43 : decode cX10_pattern 43 = .ok (.if_icmp .ne 10, 3) := by decide +kernel
theorem dX10_pattern_46 : decode cX10_pattern 46 = .ok (.aload_n 0, 1) := by decide +kernel
theorem dX10_pattern_47 : decode cX10_pattern 47 = .ok (.getfield 171, 3) := by decide +kernel
theorem dX10_pattern_50 : decode cX10_pattern 50 = .ok (.goto 9, 3) := by decide +kernel
theorem dX10_pattern_53 : decode cX10_pattern 53 = .ok (.aload_n 0, 1) := by decide +kernel
theorem dX10_pattern_54 : decode cX10_pattern 54 = .ok (.getfield 84, 3) := by decide +kernel
theorem dX10_pattern_57 : decode cX10_pattern 57 = .ok (.iload_n 3, 1) := by decide +kernel
theorem dX10_pattern_58 : decode cX10_pattern 58 = .ok (.iaload, 1) := by decide +kernel
theorem dX10_pattern_59 : decode cX10_pattern 59 = .ok (.ireturn, 1) := by decide +kernel
theorem dX10_account_0 : decode cX10_account 0 = .ok (.iload_n 1, 1) := by decide +kernel
theorem dX10_account_1 : decode cX10_account 1 = .ok (.i2l, 1) := by decide +kernel
theorem dX10_account_2 : decode cX10_account 2 = .ok (.lconst 0, 1) := by decide +kernel
theorem dX10_account_3 : decode cX10_account 3 = .ok (.ldc2_w 222, 3) := by decide +kernel
theorem dX10_account_6 : decode cX10_account 6 = .ok (.invokestatic 131, 3) := by decide +kernel
theorem dX10_account_9 : decode cX10_account 9 = .ok (.ifCond .eq 13, 3) := by decide +kernel
theorem dX10_account_12 : decode cX10_account 12 = .ok (.aload_n 0, 1) := by decide +kernel
theorem dX10_account_13 : decode cX10_account 13 = .ok (.getfield 71, 3) := by decide +kernel
theorem dX10_account_16 : decode cX10_account 16 = .ok (.iload_n 1, 1) := by decide +kernel
theorem dX10_account_17 : decode cX10_account 17 = .ok (.laload, 1) := by decide +kernel
theorem dX10_account_18 : decode cX10_account 18 = .ok (.l2i, 1) := by decide +kernel
theorem dX10_account_19 : decode cX10_account 19 = .ok (.goto 5, 3) := by decide +kernel
theorem dX10_account_22 : decode cX10_account 22 = .ok (.bipush (-2), 2) := by decide +kernel
theorem dX10_account_24 : decode cX10_account 24 = .ok (.ireturn, 1) := by decide +kernel
theorem dX10_stock_0 : decode cX10_stock 0 = .ok (.iload_n 1, 1) := by decide +kernel
theorem dX10_stock_1 : decode cX10_stock 1 = .ok (.i2l, 1) := by decide +kernel
theorem dX10_stock_2 : decode cX10_stock 2 = .ok (.ldc2_w 202, 3) := by decide +kernel
theorem dX10_stock_5 : decode cX10_stock 5 = .ok (.ldc2_w 204, 3) := by decide +kernel
theorem dX10_stock_8 : decode cX10_stock 8 = .ok (.invokestatic 131, 3) := by decide +kernel
theorem dX10_stock_11 : decode cX10_stock 11 = .ok (.ifCond .ne 6, 3) := by decide +kernel
theorem dX10_stock_14 : decode cX10_stock 14 = .ok (.bipush (-2), 2) := by decide +kernel
theorem dX10_stock_16 : decode cX10_stock 16 = .ok (.ireturn, 1) := by decide +kernel
theorem dX10_stock_17 : decode cX10_stock 17 = .ok (.aload_n 0, 1) := by decide +kernel
theorem dX10_stock_18 : decode cX10_stock 18 = .ok (.getfield 224, 3) := by decide +kernel
theorem dX10_stock_21 : decode cX10_stock 21 = .ok (.bipush 6, 2) := by decide +kernel
theorem dX10_stock_23 : decode cX10_stock 23 = .ok (.if_icmp .ne 6, 3) := by decide +kernel
theorem dX10_stock_26 : decode cX10_stock 26 = .ok (.bipush (-4), 2) := by decide +kernel
theorem dX10_stock_28 : decode cX10_stock 28 = .ok (.ireturn, 1) := by decide +kernel
theorem dX10_stock_29 : decode cX10_stock 29 = .ok (.aload_n 0, 1) := by decide +kernel
theorem dX10_stock_30 : decode cX10_stock 30 = .ok (.getfield 87, 3) := by decide +kernel
theorem dX10_stock_33 : decode cX10_stock 33 = .ok (.aload_n 0, 1) := by decide +kernel
theorem dX10_stock_34 : decode cX10_stock 34 = .ok (.getfield 224, 3) := by decide +kernel
theorem dX10_stock_37 : decode cX10_stock 37 = .ok (.iload_n 1, 1) := by decide +kernel
theorem dX10_stock_38 : decode cX10_stock 38 = .ok (.iastore, 1) := by decide +kernel
theorem dX10_stock_39 : decode cX10_stock 39 = .ok (.aload_n 0, 1) := by decide +kernel
theorem dX10_stock_40 : decode cX10_stock 40 = .ok (.dup, 1) := by decide +kernel
theorem dX10_stock_41 : decode cX10_stock 41 = .ok (.getfield 224, 3) := by decide +kernel
theorem dX10_stock_44 : decode cX10_stock 44 = .ok (.iconst 1, 1) := by decide +kernel
theorem dX10_stock_45 : decode cX10_stock 45 = .ok (.iadd, 1) := by decide +kernel
theorem dX10_stock_46 : decode cX10_stock 46 = .ok (.putfield 224, 3) := by decide +kernel
theorem dX10_stock_49 : decode cX10_stock 49 = .ok (.aload_n 0, 1) := by decide +kernel
theorem dX10_stock_50 : decode cX10_stock 50 = .ok (.getfield 224, 3) := by decide +kernel
theorem dX10_stock_53 : decode cX10_stock 53 = .ok (.ireturn, 1) := by decide +kernel
theorem dX10_best_0 : decode cX10_best 0 = .ok (.aload_n 0, 1) := by decide +kernel
theorem dX10_best_1 : decode cX10_best 1 = .ok (.iload_n 1, 1) := by decide +kernel
theorem dX10_best_2 : decode cX10_best 2 = .ok (.invokevirtual 156, 3) := by decide +kernel
theorem dX10_best_5 : decode cX10_best 5 = .ok (.ifCond .ne 6, 3) := by decide +kernel
theorem dX10_best_8 : decode cX10_best 8 = .ok (.bipush (-2), 2) := by decide +kernel
theorem dX10_best_10 : decode cX10_best 10 = .ok (.ireturn, 1) := by decide +kernel
theorem dX10_best_11 : decode cX10_best 11 = .ok (.iconst (-1), 1) := by decide +kernel
theorem dX10_best_12 : decode cX10_best 12 = .ok (.istore_n 3, 1) := by decide +kernel
theorem dX10_best_13 : decode cX10_best 13 = .ok (.iconst 0, 1) := by decide +kernel
theorem dX10_best_14 : decode cX10_best 14 = .ok (.istore 4, 2) := by decide +kernel
theorem dX10_best_16 : decode cX10_best 16 = .ok (.iconst 0, 1) := by decide +kernel
theorem dX10_best_17 : decode cX10_best 17 = .ok (.istore 5, 2) := by decide +kernel
theorem dX10_best_19 : decode cX10_best 19 = .ok (.iload 5, 2) := by decide +kernel
theorem dX10_best_21 : decode cX10_best 21 = .ok (.aload_n 0, 1) := by decide +kernel
theorem dX10_best_22 : decode cX10_best 22 = .ok (.getfield 224, 3) := by decide +kernel
theorem dX10_best_25 : decode cX10_best 25 = .ok (.if_icmp .ge 117, 3) := by decide +kernel
theorem dX10_best_28 : decode cX10_best 28 = .ok (.aload_n 0, 1) := by decide +kernel
theorem dX10_best_29 : decode cX10_best 29 = .ok (.aload_n 0, 1) := by decide +kernel
theorem dX10_best_30 : decode cX10_best 30 = .ok (.getfield 25, 3) := by decide +kernel
theorem dX10_best_33 : decode cX10_best 33 = .ok (.iload_n 1, 1) := by decide +kernel
theorem dX10_best_34 : decode cX10_best 34 = .ok (.iaload, 1) := by decide +kernel
theorem dX10_best_35 : decode cX10_best 35 = .ok (.aload_n 0, 1) := by decide +kernel
theorem dX10_best_36 : decode cX10_best 36 = .ok (.getfield 87, 3) := by decide +kernel
theorem dX10_best_39 : decode cX10_best 39 = .ok (.iload 5, 2) := by decide +kernel
theorem dX10_best_41 : decode cX10_best 41 = .ok (.iaload, 1) := by decide +kernel
theorem dX10_best_42 : decode cX10_best 42 = .ok (.iload_n 2, 1) := by decide +kernel
theorem dX10_best_43 : decode cX10_best 43 = .ok (.invokevirtual 209, 3) := by decide +kernel
theorem dX10_best_46 : decode cX10_best 46 = .ok (.aload_n 0, 1) := by decide +kernel
theorem dX10_best_47 : decode cX10_best 47 = .ok (.getfield 171, 3) := by decide +kernel
theorem dX10_best_50 : decode cX10_best 50 = .ok (.ifCond .le 86, 3) := by decide +kernel
theorem dX10_best_53 : decode cX10_best 53 = .ok (.iload_n 3, 1) := by decide +kernel
theorem dX10_best_54 : decode cX10_best 54 = .ok (.iconst (-1), 1) := by decide +kernel
theorem dX10_best_55 : decode cX10_best 55 = .ok (.if_icmp .ne 7, 3) := by decide +kernel
theorem dX10_best_58 : decode cX10_best 58 = .ok (.lconst 1, 1) := by decide +kernel
theorem dX10_best_59 : decode cX10_best 59 = .ok (.goto 11, 3) := by decide +kernel
theorem dX10_best_62 : decode cX10_best 62 = .ok (.aload_n 0, 1) := by decide +kernel
theorem dX10_best_63 : decode cX10_best 63 = .ok (.getfield 171, 3) := by decide +kernel
theorem dX10_best_66 : decode cX10_best 66 = .ok (.i2l, 1) := by decide +kernel
theorem dX10_best_67 : decode cX10_best 67 = .ok (.iload_n 3, 1) := by decide +kernel
theorem dX10_best_68 : decode cX10_best 68 = .ok (.i2l, 1) := by decide +kernel
theorem dX10_best_69 : decode cX10_best 69 = .ok (.lmul, 1) := by decide +kernel
theorem dX10_best_70 : decode cX10_best 70 = .ok (.lstore 6, 2) := by decide +kernel
theorem dX10_best_72 : decode cX10_best 72 = .ok (.iload_n 3, 1) := by decide +kernel
theorem dX10_best_73 : decode cX10_best 73 = .ok (.iconst (-1), 1) := by decide +kernel
theorem dX10_best_74 : decode cX10_best 74 = .ok (.if_icmp .ne 7, 3) := by decide +kernel
theorem dX10_best_77 : decode cX10_best 77 = .ok (.lconst 0, 1) := by decide +kernel
theorem dX10_best_78 : decode cX10_best 78 = .ok (.goto 15, 3) := by decide +kernel
theorem dX10_best_81 : decode cX10_best 81 = .ok (.iload 4, 2) := by decide +kernel
theorem dX10_best_83 : decode cX10_best 83 = .ok (.i2l, 1) := by decide +kernel
theorem dX10_best_84 : decode cX10_best 84 = .ok (.aload_n 0, 1) := by decide +kernel
theorem dX10_best_85 : decode cX10_best 85 = .ok (.getfield 87, 3) := by decide +kernel
theorem dX10_best_88 : decode cX10_best 88 = .ok (.iload 5, 2) := by decide +kernel
theorem dX10_best_90 : decode cX10_best 90 = .ok (.iaload, 1) := by decide +kernel
theorem dX10_best_91 : decode cX10_best 91 = .ok (.i2l, 1) := by decide +kernel
theorem dX10_best_92 : decode cX10_best 92 = .ok (.lmul, 1) := by decide +kernel
theorem dX10_best_93 : decode cX10_best 93 = .ok (.lstore 8, 2) := by decide +kernel
theorem dX10_best_95 : decode cX10_best 95 = .ok (.lload 6, 2) := by decide +kernel
theorem dX10_best_97 : decode cX10_best 97 = .ok (.lload 8, 2) := by decide +kernel
theorem dX10_best_99 : decode cX10_best 99 = .ok (.lcmp, 1) := by decide +kernel
theorem dX10_best_100 : decode cX10_best 100 = .ok (.ifCond .gt 22, 3) := by decide +kernel
theorem dX10_best_103 : decode cX10_best 103 = .ok (.lload 6, 2) := by decide +kernel
theorem dX10_best_105 : decode cX10_best 105 = .ok (.lload 8, 2) := by decide +kernel
theorem dX10_best_107 : decode cX10_best 107 = .ok (.lcmp, 1) := by decide +kernel
theorem dX10_best_108 : decode cX10_best 108 = .ok (.ifCond .ne 28, 3) := by decide +kernel
theorem dX10_best_111 : decode cX10_best 111 = .ok (.aload_n 0, 1) := by decide +kernel
theorem dX10_best_112 : decode cX10_best 112 = .ok (.getfield 87, 3) := by decide +kernel
theorem dX10_best_115 : decode cX10_best 115 = .ok (.iload 5, 2) := by decide +kernel
theorem dX10_best_117 : decode cX10_best 117 = .ok (.iaload, 1) := by decide +kernel
theorem dX10_best_118 : decode cX10_best 118 = .ok (.iload_n 3, 1) := by decide +kernel
theorem dX10_best_119 : decode cX10_best 119 = .ok (.if_icmp .ge 17, 3) := by decide +kernel
theorem dX10_best_122 : decode cX10_best 122 = .ok (.aload_n 0, 1) := by decide +kernel
theorem dX10_best_123 : decode cX10_best 123 = .ok (.getfield 87, 3) := by decide +kernel
theorem dX10_best_126 : decode cX10_best 126 = .ok (.iload 5, 2) := by decide +kernel
theorem dX10_best_128 : decode cX10_best 128 = .ok (.iaload, 1) := by decide +kernel
theorem dX10_best_129 : decode cX10_best 129 = .ok (.istore_n 3, 1) := by decide +kernel
theorem dX10_best_130 : decode cX10_best 130 = .ok (.aload_n 0, 1) := by decide +kernel
theorem dX10_best_131 : decode cX10_best 131 = .ok (.getfield 171, 3) := by decide +kernel
theorem dX10_best_134 : decode cX10_best 134 = .ok (.istore 4, 2) := by decide +kernel
theorem dX10_best_136 : decode cX10_best 136 = .ok (.iinc 5 1, 3) := by decide +kernel
theorem dX10_best_139 : decode cX10_best 139 = .ok (.goto (-120), 3) := by decide +kernel
theorem dX10_best_142 : decode cX10_best 142 = .ok (.iload_n 3, 1) := by decide +kernel
theorem dX10_best_143 : decode cX10_best 143 = .ok (.ireturn, 1) := by decide +kernel
theorem dX10_job_0 : decode cX10_job 0 = .ok (.aload_n 0, 1) := by decide +kernel
theorem dX10_job_1 : decode cX10_job 1 = .ok (.iload_n 1, 1) := by decide +kernel
theorem dX10_job_2 : decode cX10_job 2 = .ok (.invokevirtual 150, 3) := by decide +kernel
theorem dX10_job_5 : decode cX10_job 5 = .ok (.ifCond .eq 27, 3) := by decide +kernel
theorem dX10_job_8 : decode cX10_job 8 = .ok (.iload_n 2, 1) := by decide +kernel
theorem dX10_job_9 : decode cX10_job 9 = .ok (.i2l, 1) := by decide +kernel
theorem dX10_job_10 : decode cX10_job 10 = .ok (.lconst 1, 1) := by decide +kernel
theorem dX10_job_11 : decode cX10_job 11 = .ok (.ldc2_w 154, 3) := by decide +kernel
theorem dX10_job_14 : decode cX10_job 14 = .ok (.invokestatic 131, 3) := by decide +kernel
theorem dX10_job_17 : decode cX10_job 17 = .ok (.ifCond .eq 15, 3) := by decide +kernel
theorem dX10_job_20 : decode cX10_job 20 = .ok (.iload_n 3, 1) := by decide +kernel
theorem dX10_job_21 : decode cX10_job 21 = .ok (.i2l, 1) := by decide +kernel
theorem dX10_job_22 : decode cX10_job 22 = .ok (.lconst 0, 1) := by decide +kernel
theorem dX10_job_23 : decode cX10_job 23 = .ok (.ldc2_w 181, 3) := by decide +kernel
theorem dX10_job_26 : decode cX10_job 26 = .ok (.invokestatic 131, 3) := by decide +kernel
theorem dX10_job_29 : decode cX10_job 29 = .ok (.ifCond .ne 6, 3) := by decide +kernel
theorem dX10_job_32 : decode cX10_job 32 = .ok (.bipush (-2), 2) := by decide +kernel
theorem dX10_job_34 : decode cX10_job 34 = .ok (.ireturn, 1) := by decide +kernel
theorem dX10_job_35 : decode cX10_job 35 = .ok (.aload_n 0, 1) := by decide +kernel
theorem dX10_job_36 : decode cX10_job 36 = .ok (.getfield 227, 3) := by decide +kernel
theorem dX10_job_39 : decode cX10_job 39 = .ok (.bipush 7, 2) := by decide +kernel
theorem dX10_job_41 : decode cX10_job 41 = .ok (.if_icmp .ne 6, 3) := by decide +kernel
theorem dX10_job_44 : decode cX10_job 44 = .ok (.bipush (-4), 2) := by decide +kernel
theorem dX10_job_46 : decode cX10_job 46 = .ok (.ireturn, 1) := by decide +kernel
theorem dX10_job_47 : decode cX10_job 47 = .ok (.aload_n 0, 1) := by decide +kernel
theorem dX10_job_48 : decode cX10_job 48 = .ok (.getfield 90, 3) := by decide +kernel
theorem dX10_job_51 : decode cX10_job 51 = .ok (.aload_n 0, 1) := by decide +kernel
theorem dX10_job_52 : decode cX10_job 52 = .ok (.getfield 227, 3) := by decide +kernel
theorem dX10_job_55 : decode cX10_job 55 = .ok (.iload_n 1, 1) := by decide +kernel
theorem dX10_job_56 : decode cX10_job 56 = .ok (.iastore, 1) := by decide +kernel
theorem dX10_job_57 : decode cX10_job 57 = .ok (.aload_n 0, 1) := by decide +kernel
theorem dX10_job_58 : decode cX10_job 58 = .ok (.getfield 93, 3) := by decide +kernel
theorem dX10_job_61 : decode cX10_job 61 = .ok (.aload_n 0, 1) := by decide +kernel
theorem dX10_job_62 : decode cX10_job 62 = .ok (.getfield 227, 3) := by decide +kernel
theorem dX10_job_65 : decode cX10_job 65 = .ok (.iload_n 2, 1) := by decide +kernel
theorem dX10_job_66 : decode cX10_job 66 = .ok (.iastore, 1) := by decide +kernel
theorem dX10_job_67 : decode cX10_job 67 = .ok (.aload_n 0, 1) := by decide +kernel
theorem dX10_job_68 : decode cX10_job 68 = .ok (.getfield 96, 3) := by decide +kernel
theorem dX10_job_71 : decode cX10_job 71 = .ok (.aload_n 0, 1) := by decide +kernel
theorem dX10_job_72 : decode cX10_job 72 = .ok (.getfield 227, 3) := by decide +kernel
theorem dX10_job_75 : decode cX10_job 75 = .ok (.iload_n 3, 1) := by decide +kernel
theorem dX10_job_76 : decode cX10_job 76 = .ok (.iastore, 1) := by decide +kernel
theorem dX10_job_77 : decode cX10_job 77 = .ok (.aload_n 0, 1) := by decide +kernel
theorem dX10_job_78 : decode cX10_job 78 = .ok (.dup, 1) := by decide +kernel
theorem dX10_job_79 : decode cX10_job 79 = .ok (.getfield 227, 3) := by decide +kernel
theorem dX10_job_82 : decode cX10_job 82 = .ok (.iconst 1, 1) := by decide +kernel
theorem dX10_job_83 : decode cX10_job 83 = .ok (.iadd, 1) := by decide +kernel
theorem dX10_job_84 : decode cX10_job 84 = .ok (.putfield 227, 3) := by decide +kernel
theorem dX10_job_87 : decode cX10_job 87 = .ok (.aload_n 0, 1) := by decide +kernel
theorem dX10_job_88 : decode cX10_job 88 = .ok (.getfield 227, 3) := by decide +kernel
theorem dX10_job_91 : decode cX10_job 91 = .ok (.iconst 1, 1) := by decide +kernel
theorem dX10_job_92 : decode cX10_job 92 = .ok (.isub, 1) := by decide +kernel
theorem dX10_job_93 : decode cX10_job 93 = .ok (.ireturn, 1) := by decide +kernel
theorem dX10_change_0 : decode cX10_change 0 = .ok (.iload_n 1, 1) := by decide +kernel
theorem dX10_change_1 : decode cX10_change 1 = .ok (.i2l, 1) := by decide +kernel
theorem dX10_change_2 : decode cX10_change 2 = .ok (.lconst 0, 1) := by decide +kernel
theorem dX10_change_3 : decode cX10_change 3 = .ok (.ldc2_w 169, 3) := by decide +kernel
theorem dX10_change_6 : decode cX10_change 6 = .ok (.invokestatic 131, 3) := by decide +kernel
theorem dX10_change_9 : decode cX10_change 9 = .ok (.ifCond .ne 6, 3) := by decide +kernel
theorem dX10_change_12 : decode cX10_change 12 = .ok (.bipush (-2), 2) := by decide +kernel
theorem dX10_change_14 : decode cX10_change 14 = .ok (.ireturn, 1) := by decide +kernel
theorem dX10_change_15 : decode cX10_change 15 = .ok (.aload_n 0, 1) := by decide +kernel
theorem dX10_change_16 : decode cX10_change 16 = .ok (.getfield 99, 3) := by decide +kernel
theorem dX10_change_19 : decode cX10_change 19 = .ok (.istore_n 2, 1) := by decide +kernel
theorem dX10_change_20 : decode cX10_change 20 = .ok (.aload_n 0, 1) := by decide +kernel
end
section
theorem dX10_change_21 : decode cX10_change 21 = .ok (.iload_n 1, 1) := by decide +kernel
theorem dX10_change_22 : decode cX10_change 22 = .ok (.putfield 99, 3) := by decide +kernel
theorem dX10_change_25 : decode cX10_change 25 = .ok (.iload_n 2, 1) := by decide +kernel
theorem dX10_change_26 : decode cX10_change 26 = .ok (.ireturn, 1) := by decide +kernel
theorem dX10_nextRow_0 : decode cX10_nextRow 0 = .ok (.aload_n 0, 1) := by decide +kernel
theorem dX10_nextRow_1 : decode cX10_nextRow 1 = .ok (.getfield 227, 3) := by decide +kernel
theorem dX10_nextRow_4 : decode cX10_nextRow 4 = .ok (.iconst 2, 1) := by decide +kernel
theorem dX10_nextRow_5 : decode cX10_nextRow 5 = .ok (.isub, 1) := by decide +kernel
theorem dX10_nextRow_6 : decode cX10_nextRow 6 = .ok (.istore_n 1, 1) := by decide +kernel
theorem dX10_nextRow_7 : decode cX10_nextRow 7 = .ok (.iload_n 1, 1) := by decide +kernel
theorem dX10_nextRow_8 : decode cX10_nextRow 8 = .ok (.ifCond .lt 26, 3) := by decide +kernel
theorem dX10_nextRow_11 : decode cX10_nextRow 11 = .ok (.aload_n 0, 1) := by decide +kernel
theorem dX10_nextRow_12 : decode cX10_nextRow 12 = .ok (.getfield 102, 3) := by decide +kernel
theorem dX10_nextRow_15 : decode cX10_nextRow 15 = .ok (.iload_n 1, 1) := by decide +kernel
theorem dX10_nextRow_16 : decode cX10_nextRow 16 = .ok (.iaload, 1) := by decide +kernel
theorem dX10_nextRow_17 : decode cX10_nextRow 17 = .ok (.aload_n 0, 1) := by decide +kernel
theorem dX10_nextRow_18 : decode cX10_nextRow 18 = .ok (.getfield 102, 3) := by decide +kernel
theorem dX10_nextRow_21 : decode cX10_nextRow 21 = .ok (.iload_n 1, 1) := by decide +kernel
theorem dX10_nextRow_22 : decode cX10_nextRow 22 = .ok (.iconst 1, 1) := by decide +kernel
theorem dX10_nextRow_23 : decode cX10_nextRow 23 = .ok (.iadd, 1) := by decide +kernel
theorem dX10_nextRow_24 : decode cX10_nextRow 24 = .ok (.iaload, 1) := by decide +kernel
theorem dX10_nextRow_25 : decode cX10_nextRow 25 = .ok (.if_icmp .le 9, 3) := by decide +kernel
theorem dX10_nextRow_28 : decode cX10_nextRow 28 = .ok (.iinc 1 (-1), 3) := by decide +kernel
theorem dX10_nextRow_31 : decode cX10_nextRow 31 = .ok (.goto (-24), 3) := by decide +kernel
theorem dX10_nextRow_34 : decode cX10_nextRow 34 = .ok (.iload_n 1, 1) := by decide +kernel
theorem dX10_nextRow_35 : decode cX10_nextRow 35 = .ok (.ifCond .ge 5, 3) := by decide +kernel
theorem dX10_nextRow_38 : decode cX10_nextRow 38 = .ok (.iconst 0, 1) := by decide +kernel
theorem dX10_nextRow_39 : decode cX10_nextRow 39 = .ok (.ireturn, 1) := by decide +kernel
theorem dX10_nextRow_40 : decode cX10_nextRow 40 = .ok (.aload_n 0, 1) := by decide +kernel
theorem dX10_nextRow_41 : decode cX10_nextRow 41 = .ok (.getfield 227, 3) := by decide +kernel
theorem dX10_nextRow_44 : decode cX10_nextRow 44 = .ok (.iconst 1, 1) := by decide +kernel
theorem dX10_nextRow_45 : decode cX10_nextRow 45 = .ok (.isub, 1) := by decide +kernel
theorem dX10_nextRow_46 : decode cX10_nextRow 46 = .ok (.istore_n 2, 1) := by decide +kernel
theorem dX10_nextRow_47 : decode cX10_nextRow 47 = .ok (.aload_n 0, 1) := by decide +kernel
theorem dX10_nextRow_48 : decode cX10_nextRow 48 = .ok (.getfield 102, 3) := by decide +kernel
theorem dX10_nextRow_51 : decode cX10_nextRow 51 = .ok (.iload_n 2, 1) := by decide +kernel
theorem dX10_nextRow_52 : decode cX10_nextRow 52 = .ok (.iaload, 1) := by decide +kernel
theorem dX10_nextRow_53 : decode cX10_nextRow 53 = .ok (.aload_n 0, 1) := by decide +kernel
theorem dX10_nextRow_54 : decode cX10_nextRow 54 = .ok (.getfield 102, 3) := by decide +kernel
theorem dX10_nextRow_57 : decode cX10_nextRow 57 = .ok (.iload_n 1, 1) := by decide +kernel
theorem dX10_nextRow_58 : decode cX10_nextRow 58 = .ok (.iaload, 1) := by decide +kernel
theorem dX10_nextRow_59 : decode cX10_nextRow 59 = .ok (.if_icmp .ge 9, 3) := by decide +kernel
theorem dX10_nextRow_62 : decode cX10_nextRow 62 = .ok (.iinc 2 (-1), 3) := by decide +kernel
theorem dX10_nextRow_65 : decode cX10_nextRow 65 = .ok (.goto (-18), 3) := by decide +kernel
theorem dX10_nextRow_68 : decode cX10_nextRow 68 = .ok (.aload_n 0, 1) := by decide +kernel
theorem dX10_nextRow_69 : decode cX10_nextRow 69 = .ok (.getfield 102, 3) := by decide +kernel
theorem dX10_nextRow_72 : decode cX10_nextRow 72 = .ok (.iload_n 1, 1) := by decide +kernel
theorem dX10_nextRow_73 : decode cX10_nextRow 73 = .ok (.iaload, 1) := by decide +kernel
theorem dX10_nextRow_74 : decode cX10_nextRow 74 = .ok (.istore_n 3, 1) := by decide +kernel
theorem dX10_nextRow_75 : decode cX10_nextRow 75 = .ok (.aload_n 0, 1) := by decide +kernel
theorem dX10_nextRow_76 : decode cX10_nextRow 76 = .ok (.getfield 102, 3) := by decide +kernel
theorem dX10_nextRow_79 : decode cX10_nextRow 79 = .ok (.iload_n 1, 1) := by decide +kernel
theorem dX10_nextRow_80 : decode cX10_nextRow 80 = .ok (.aload_n 0, 1) := by decide +kernel
theorem dX10_nextRow_81 : decode cX10_nextRow 81 = .ok (.getfield 102, 3) := by decide +kernel
theorem dX10_nextRow_84 : decode cX10_nextRow 84 = .ok (.iload_n 2, 1) := by decide +kernel
theorem dX10_nextRow_85 : decode cX10_nextRow 85 = .ok (.iaload, 1) := by decide +kernel
theorem dX10_nextRow_86 : decode cX10_nextRow 86 = .ok (.iastore, 1) := by decide +kernel
theorem dX10_nextRow_87 : decode cX10_nextRow 87 = .ok (.aload_n 0, 1) := by decide +kernel
theorem dX10_nextRow_88 : decode cX10_nextRow 88 = .ok (.getfield 102, 3) := by decide +kernel
theorem dX10_nextRow_91 : decode cX10_nextRow 91 = .ok (.iload_n 2, 1) := by decide +kernel
theorem dX10_nextRow_92 : decode cX10_nextRow 92 = .ok (.iload_n 3, 1) := by decide +kernel
theorem dX10_nextRow_93 : decode cX10_nextRow 93 = .ok (.iastore, 1) := by decide +kernel
theorem dX10_nextRow_94 : decode cX10_nextRow 94 = .ok (.iload_n 1, 1) := by decide +kernel
theorem dX10_nextRow_95 : decode cX10_nextRow 95 = .ok (.iconst 1, 1) := by decide +kernel
theorem dX10_nextRow_96 : decode cX10_nextRow 96 = .ok (.iadd, 1) := by decide +kernel
theorem dX10_nextRow_97 : decode cX10_nextRow 97 = .ok (.istore 4, 2) := by decide +kernel
theorem dX10_nextRow_99 : decode cX10_nextRow 99 = .ok (.aload_n 0, 1) := by decide +kernel
theorem dX10_nextRow_100 : decode cX10_nextRow 100 = .ok (.getfield 227, 3) := by decide +kernel
theorem dX10_nextRow_103 : decode cX10_nextRow 103 = .ok (.iconst 1, 1) := by decide +kernel
theorem dX10_nextRow_104 : decode cX10_nextRow 104 = .ok (.isub, 1) := by decide +kernel
theorem dX10_nextRow_105 : decode cX10_nextRow 105 = .ok (.istore 5, 2) := by decide +kernel
theorem dX10_nextRow_107 : decode cX10_nextRow 107 = .ok (.iload 4, 2) := by decide +kernel
theorem dX10_nextRow_109 : decode cX10_nextRow 109 = .ok (.iload 5, 2) := by decide +kernel
theorem dX10_nextRow_111 : decode cX10_nextRow 111 = .ok (.if_icmp .ge 42, 3) := by decide +kernel
theorem dX10_nextRow_114 : decode cX10_nextRow 114 = .ok (.aload_n 0, 1) := by decide +kernel
theorem dX10_nextRow_115 : decode cX10_nextRow 115 = .ok (.getfield 102, 3) := by decide +kernel
theorem dX10_nextRow_118 : decode cX10_nextRow 118 = .ok (.iload 4, 2) := by decide +kernel
theorem dX10_nextRow_120 : decode cX10_nextRow 120 = .ok (.iaload, 1) := by decide +kernel
theorem dX10_nextRow_121 : decode cX10_nextRow 121 = .ok (.istore_n 3, 1) := by decide +kernel
theorem dX10_nextRow_122 : decode cX10_nextRow 122 = .ok (.aload_n 0, 1) := by decide +kernel
theorem dX10_nextRow_123 : decode cX10_nextRow 123 = .ok (.getfield 102, 3) := by decide +kernel
theorem dX10_nextRow_126 : decode cX10_nextRow 126 = .ok (.iload 4, 2) := by decide +kernel
theorem dX10_nextRow_128 : decode cX10_nextRow 128 = .ok (.aload_n 0, 1) := by decide +kernel
theorem dX10_nextRow_129 : decode cX10_nextRow 129 = .ok (.getfield 102, 3) := by decide +kernel
theorem dX10_nextRow_132 : decode cX10_nextRow 132 = .ok (.iload 5, 2) := by decide +kernel
theorem dX10_nextRow_134 : decode cX10_nextRow 134 = .ok (.iaload, 1) := by decide +kernel
theorem dX10_nextRow_135 : decode cX10_nextRow 135 = .ok (.iastore, 1) := by decide +kernel
theorem dX10_nextRow_136 : decode cX10_nextRow 136 = .ok (.aload_n 0, 1) := by decide +kernel
theorem dX10_nextRow_137 : decode cX10_nextRow 137 = .ok (.getfield 102, 3) := by decide +kernel
theorem dX10_nextRow_140 : decode cX10_nextRow 140 = .ok (.iload 5, 2) := by decide +kernel
theorem dX10_nextRow_142 : decode cX10_nextRow 142 = .ok (.iload_n 3, 1) := by decide +kernel
theorem dX10_nextRow_143 : decode cX10_nextRow 143 = .ok (.iastore, 1) := by decide +kernel
theorem dX10_nextRow_144 : decode cX10_nextRow 144 = .ok (.iinc 4 1, 3) := by decide +kernel
theorem dX10_nextRow_147 : decode cX10_nextRow 147 = .ok (.iinc 5 (-1), 3) := by decide +kernel
theorem dX10_nextRow_150 : decode cX10_nextRow 150 = .ok (.goto (-43), 3) := by decide +kernel
theorem dX10_nextRow_153 : decode cX10_nextRow 153 = .ok (.iconst 1, 1) := by decide +kernel
theorem dX10_nextRow_154 : decode cX10_nextRow 154 = .ok (.ireturn, 1) := by decide +kernel
theorem dX10_findOrder_0 : decode cX10_findOrder 0 = .ok (.iconst 0, 1) := by decide +kernel
theorem dX10_findOrder_1 : decode cX10_findOrder 1 = .ok (.istore_n 1, 1) := by decide +kernel
theorem dX10_findOrder_2 : decode cX10_findOrder 2 = .ok (.iload_n 1, 1) := by decide +kernel
theorem dX10_findOrder_3 : decode cX10_findOrder 3 = .ok (.aload_n 0, 1) := by decide +kernel
theorem dX10_findOrder_4 : decode cX10_findOrder 4 = .ok (.getfield 227, 3) := by decide +kernel
theorem dX10_findOrder_7 : decode cX10_findOrder 7 = .ok (.if_icmp .ge 16, 3) := by decide +kernel
theorem dX10_findOrder_10 : decode cX10_findOrder 10 = .ok (.aload_n 0, 1) := by decide +kernel
theorem dX10_findOrder_11 : decode cX10_findOrder 11 = .ok (.getfield 102, 3) := by decide +kernel
theorem dX10_findOrder_14 : decode cX10_findOrder 14 = .ok (.iload_n 1, 1) := by decide +kernel
theorem dX10_findOrder_15 : decode cX10_findOrder 15 = .ok (.iload_n 1, 1) := by decide +kernel
theorem dX10_findOrder_16 : decode cX10_findOrder 16 = .ok (.iastore, 1) := by decide +kernel
theorem dX10_findOrder_17 : decode cX10_findOrder 17 = .ok (.iinc 1 1, 3) := by decide +kernel
theorem dX10_findOrder_20 : decode cX10_findOrder 20 = .ok (.goto (-18), 3) := by decide +kernel
theorem dX10_findOrder_23 : decode cX10_findOrder 23 = .ok (.iconst (-1), 1) := by decide +kernel
theorem dX10_findOrder_24 : decode cX10_findOrder 24 = .ok (.istore_n 1, 1) := by decide +kernel
theorem dX10_findOrder_25 : decode cX10_findOrder 25 = .ok (.iconst 0, 1) := by decide +kernel
theorem dX10_findOrder_26 : decode cX10_findOrder 26 = .ok (.istore_n 2, 1) := by decide +kernel
theorem dX10_findOrder_27 : decode cX10_findOrder 27 = .ok (.aload_n 0, 1) := by decide +kernel
theorem dX10_findOrder_28 : decode cX10_findOrder 28 = .ok (.getfield 227, 3) := by decide +kernel
theorem dX10_findOrder_31 : decode cX10_findOrder 31 = .ok (.ifCond .le 7, 3) := by decide +kernel
theorem dX10_findOrder_34 : decode cX10_findOrder 34 = .ok (.iconst 1, 1) := by decide +kernel
theorem dX10_findOrder_35 : decode cX10_findOrder 35 = .ok (.goto 4, 3) := by decide +kernel
theorem dX10_findOrder_38 : decode cX10_findOrder 38 = .ok (.iconst 0, 1) := by decide +kernel
theorem dX10_findOrder_39 : decode cX10_findOrder 39 = .ok (.istore_n 3, 1) := by decide +kernel
theorem dX10_findOrder_40 : decode cX10_findOrder 40 = .ok (.iload_n 3, 1) := by decide +kernel
theorem dX10_findOrder_41 : decode cX10_findOrder 41 = .ok (.ifCond .eq 196, 3) := by decide +kernel
theorem dX10_findOrder_44 : decode cX10_findOrder 44 = .ok (.iconst 0, 1) := by decide +kernel
theorem dX10_findOrder_45 : decode cX10_findOrder 45 = .ok (.istore 4, 2) := by decide +kernel
theorem dX10_findOrder_47 : decode cX10_findOrder 47 = .ok (.iconst 0, 1) := by decide +kernel
theorem dX10_findOrder_48 : decode cX10_findOrder 48 = .ok (.istore 5, 2) := by decide +kernel
theorem dX10_findOrder_50 : decode cX10_findOrder 50 = .ok (.iconst 0, 1) := by decide +kernel
theorem dX10_findOrder_51 : decode cX10_findOrder 51 = .ok (.istore 6, 2) := by decide +kernel
theorem dX10_findOrder_53 : decode cX10_findOrder 53 = .ok (.iload 6, 2) := by decide +kernel
theorem dX10_findOrder_55 : decode cX10_findOrder 55 = .ok (.aload_n 0, 1) := by decide +kernel
theorem dX10_findOrder_56 : decode cX10_findOrder 56 = .ok (.getfield 227, 3) := by decide +kernel
theorem dX10_findOrder_59 : decode cX10_findOrder 59 = .ok (.if_icmp .ge 109, 3) := by decide +kernel
theorem dX10_findOrder_62 : decode cX10_findOrder 62 = .ok (.aload_n 0, 1) := by decide +kernel
theorem dX10_findOrder_63 : decode cX10_findOrder 63 = .ok (.getfield 102, 3) := by decide +kernel
theorem dX10_findOrder_66 : decode cX10_findOrder 66 = .ok (.iload 6, 2) := by decide +kernel
theorem dX10_findOrder_68 : decode cX10_findOrder 68 = .ok (.iaload, 1) := by decide +kernel
theorem dX10_findOrder_69 : decode cX10_findOrder 69 = .ok (.istore 7, 2) := by decide +kernel
theorem dX10_findOrder_71 : decode cX10_findOrder 71 = .ok (.iload 6, 2) := by decide +kernel
theorem dX10_findOrder_73 : decode cX10_findOrder 73 = .ok (.ifCond .le 46, 3) := by decide +kernel
theorem dX10_findOrder_76 : decode cX10_findOrder 76 = .ok (.aload_n 0, 1) := by decide +kernel
theorem dX10_findOrder_77 : decode cX10_findOrder 77 = .ok (.getfield 13, 3) := by decide +kernel
theorem dX10_findOrder_80 : decode cX10_findOrder 80 = .ok (.aload_n 0, 1) := by decide +kernel
theorem dX10_findOrder_81 : decode cX10_findOrder 81 = .ok (.getfield 90, 3) := by decide +kernel
theorem dX10_findOrder_84 : decode cX10_findOrder 84 = .ok (.iload 7, 2) := by decide +kernel
theorem dX10_findOrder_86 : decode cX10_findOrder 86 = .ok (.iaload, 1) := by decide +kernel
theorem dX10_findOrder_87 : decode cX10_findOrder 87 = .ok (.iaload, 1) := by decide +kernel
theorem dX10_findOrder_88 : decode cX10_findOrder 88 = .ok (.aload_n 0, 1) := by decide +kernel
theorem dX10_findOrder_89 : decode cX10_findOrder 89 = .ok (.getfield 13, 3) := by decide +kernel
theorem dX10_findOrder_92 : decode cX10_findOrder 92 = .ok (.aload_n 0, 1) := by decide +kernel
theorem dX10_findOrder_93 : decode cX10_findOrder 93 = .ok (.getfield 90, 3) := by decide +kernel
theorem dX10_findOrder_96 : decode cX10_findOrder 96 = .ok (.aload_n 0, 1) := by decide +kernel
theorem dX10_findOrder_97 : decode cX10_findOrder 97 = .ok (.getfield 102, 3) := by decide +kernel
theorem dX10_findOrder_100 : decode cX10_findOrder 100 = .ok (.iload 6, 2) := by decide +kernel
theorem dX10_findOrder_102 : decode cX10_findOrder 102 = .ok (.iconst 1, 1) := by decide +kernel
theorem dX10_findOrder_103 : decode cX10_findOrder 103 = .ok (.isub, 1) := by decide +kernel
theorem dX10_findOrder_104 : decode cX10_findOrder 104 = .ok (.iaload, 1) := by decide +kernel
theorem dX10_findOrder_105 : decode cX10_findOrder 105 = .ok (.iaload, 1) := by decide +kernel
theorem dX10_findOrder_106 : decode cX10_findOrder 106 = .ok (.iaload, 1) := by decide +kernel
theorem dX10_findOrder_107 : decode cX10_findOrder 107 = .ok (.if_icmp .eq 12, 3) := by decide +kernel
theorem dX10_findOrder_110 : decode cX10_findOrder 110 = .ok (.iload 4, 2) := by decide +kernel
theorem dX10_findOrder_112 : decode cX10_findOrder 112 = .ok (.aload_n 0, 1) := by decide +kernel
theorem dX10_findOrder_113 : decode cX10_findOrder 113 = .ok (.getfield 99, 3) := by decide +kernel
theorem dX10_findOrder_116 : decode cX10_findOrder 116 = .ok (.iadd, 1) := by decide +kernel
theorem dX10_findOrder_117 : decode cX10_findOrder 117 = .ok (.istore 4, 2) := by decide +kernel
theorem dX10_findOrder_119 : decode cX10_findOrder 119 = .ok (.iload 4, 2) := by decide +kernel
theorem dX10_findOrder_121 : decode cX10_findOrder 121 = .ok (.aload_n 0, 1) := by decide +kernel
theorem dX10_findOrder_122 : decode cX10_findOrder 122 = .ok (.getfield 93, 3) := by decide +kernel
theorem dX10_findOrder_125 : decode cX10_findOrder 125 = .ok (.iload 7, 2) := by decide +kernel
theorem dX10_findOrder_127 : decode cX10_findOrder 127 = .ok (.iaload, 1) := by decide +kernel
theorem dX10_findOrder_128 : decode cX10_findOrder 128 = .ok (.iadd, 1) := by decide +kernel
theorem dX10_findOrder_129 : decode cX10_findOrder 129 = .ok (.istore 4, 2) := by decide +kernel
theorem dX10_findOrder_131 : decode cX10_findOrder 131 = .ok (.iload 5, 2) := by decide +kernel
theorem dX10_findOrder_133 : decode cX10_findOrder 133 = .ok (.iload 4, 2) := by decide +kernel
theorem dX10_findOrder_135 : decode cX10_findOrder 135 = .ok (.aload_n 0, 1) := by decide +kernel
theorem dX10_findOrder_136 : decode cX10_findOrder 136 = .ok (.getfield 96, 3) := by decide +kernel
theorem dX10_findOrder_139 : decode cX10_findOrder 139 = .ok (.iload 7, 2) := by decide +kernel
theorem dX10_findOrder_141 : decode cX10_findOrder 141 = .ok (.iaload, 1) := by decide +kernel
theorem dX10_findOrder_142 : decode cX10_findOrder 142 = .ok (.if_icmp .le 16, 3) := by decide +kernel
theorem dX10_findOrder_145 : decode cX10_findOrder 145 = .ok (.iload 4, 2) := by decide +kernel
theorem dX10_findOrder_147 : decode cX10_findOrder 147 = .ok (.aload_n 0, 1) := by decide +kernel
theorem dX10_findOrder_148 : decode cX10_findOrder 148 = .ok (.getfield 96, 3) := by decide +kernel
theorem dX10_findOrder_151 : decode cX10_findOrder 151 = .ok (.iload 7, 2) := by decide +kernel
theorem dX10_findOrder_153 : decode cX10_findOrder 153 = .ok (.iaload, 1) := by decide +kernel
theorem dX10_findOrder_154 : decode cX10_findOrder 154 = .ok (.isub, 1) := by decide +kernel
theorem dX10_findOrder_155 : decode cX10_findOrder 155 = .ok (.goto 4, 3) := by decide +kernel
theorem dX10_findOrder_158 : decode cX10_findOrder 158 = .ok (.iconst 0, 1) := by decide +kernel
theorem dX10_findOrder_159 : decode cX10_findOrder 159 = .ok (.iadd, 1) := by decide +kernel
theorem dX10_findOrder_160 : decode cX10_findOrder 160 = .ok (.istore 5, 2) := by decide +kernel
theorem dX10_findOrder_162 : decode cX10_findOrder 162 = .ok (.iinc 6 1, 3) := by decide +kernel
theorem dX10_findOrder_165 : decode cX10_findOrder 165 = .ok (.goto (-112), 3) := by decide +kernel
theorem dX10_findOrder_168 : decode cX10_findOrder 168 = .ok (.iload_n 1, 1) := by decide +kernel
theorem dX10_findOrder_169 : decode cX10_findOrder 169 = .ok (.iconst (-1), 1) := by decide +kernel
theorem dX10_findOrder_170 : decode cX10_findOrder 170 = .ok (.if_icmp .eq 21, 3) := by decide +kernel
theorem dX10_findOrder_173 : decode cX10_findOrder 173 = .ok (.iload 5, 2) := by decide +kernel
theorem dX10_findOrder_175 : decode cX10_findOrder 175 = .ok (.iload_n 1, 1) := by decide +kernel
theorem dX10_findOrder_176 : decode cX10_findOrder 176 = .ok (.if_icmp .lt 15, 3) := by decide +kernel
theorem dX10_findOrder_179 : decode cX10_findOrder 179 = .ok (.iload 5, 2) := by decide +kernel
theorem dX10_findOrder_181 : decode cX10_findOrder 181 = .ok (.iload_n 1, 1) := by decide +kernel
theorem dX10_findOrder_182 : decode cX10_findOrder 182 = .ok (.if_icmp .ne 47, 3) := by decide +kernel
theorem dX10_findOrder_185 : decode cX10_findOrder 185 = .ok (.iload 4, 2) := by decide +kernel
theorem dX10_findOrder_187 : decode cX10_findOrder 187 = .ok (.iload_n 2, 1) := by decide +kernel
theorem dX10_findOrder_188 : decode cX10_findOrder 188 = .ok (.if_icmp .ge 41, 3) := by decide +kernel
theorem dX10_findOrder_191 : decode cX10_findOrder 191 = .ok (.iload 5, 2) := by decide +kernel
theorem dX10_findOrder_193 : decode cX10_findOrder 193 = .ok (.istore_n 1, 1) := by decide +kernel
theorem dX10_findOrder_194 : decode cX10_findOrder 194 = .ok (.iload 4, 2) := by decide +kernel
theorem dX10_findOrder_196 : decode cX10_findOrder 196 = .ok (.istore_n 2, 1) := by decide +kernel
theorem dX10_findOrder_197 : decode cX10_findOrder 197 = .ok (.iconst 0, 1) := by decide +kernel
theorem dX10_findOrder_198 : decode cX10_findOrder 198 = .ok (.istore 6, 2) := by decide +kernel
theorem dX10_findOrder_200 : decode cX10_findOrder 200 = .ok (.iload 6, 2) := by decide +kernel
theorem dX10_findOrder_202 : decode cX10_findOrder 202 = .ok (.aload_n 0, 1) := by decide +kernel
theorem dX10_findOrder_203 : decode cX10_findOrder 203 = .ok (.getfield 227, 3) := by decide +kernel
theorem dX10_findOrder_206 : decode cX10_findOrder 206 = .ok (.if_icmp .ge 23, 3) := by decide +kernel
theorem dX10_findOrder_209 : decode cX10_findOrder 209 = .ok (.aload_n 0, 1) := by decide +kernel
theorem dX10_findOrder_210 : decode cX10_findOrder 210 = .ok (.getfield 105, 3) := by decide +kernel
theorem dX10_findOrder_213 : decode cX10_findOrder 213 = .ok (.iload 6, 2) := by decide +kernel
theorem dX10_findOrder_215 : decode cX10_findOrder 215 = .ok (.aload_n 0, 1) := by decide +kernel
theorem dX10_findOrder_216 : decode cX10_findOrder 216 = .ok (.getfield 102, 3) := by decide +kernel
theorem dX10_findOrder_219 : decode cX10_findOrder 219 = .ok (.iload 6, 2) := by decide +kernel
theorem dX10_findOrder_221 : decode cX10_findOrder 221 = .ok (.iaload, 1) := by decide +kernel
theorem dX10_findOrder_222 : decode cX10_findOrder 222 = .ok (.iastore, 1) := by decide +kernel
theorem dX10_findOrder_223 : decode cX10_findOrder 223 = .ok (.iinc 6 1, 3) := by decide +kernel
theorem dX10_findOrder_226 : decode cX10_findOrder 226 = .ok (.goto (-26), 3) := by decide +kernel
theorem dX10_findOrder_229 : decode cX10_findOrder 229 = .ok (.aload_n 0, 1) := by decide +kernel
theorem dX10_findOrder_230 : decode cX10_findOrder 230 = .ok (.invokevirtual 230, 3) := by decide +kernel
theorem dX10_findOrder_233 : decode cX10_findOrder 233 = .ok (.istore_n 3, 1) := by decide +kernel
theorem dX10_findOrder_234 : decode cX10_findOrder 234 = .ok (.goto (-194), 3) := by decide +kernel
theorem dX10_findOrder_237 : decode cX10_findOrder 237 = .ok (.iload_n 1, 1) := by decide +kernel
theorem dX10_findOrder_238 : decode cX10_findOrder 238 = .ok (.iconst (-1), 1) := by decide +kernel
theorem dX10_findOrder_239 : decode cX10_findOrder 239 = .ok (.if_icmp .ne 7, 3) := by decide +kernel
theorem dX10_findOrder_242 : decode cX10_findOrder 242 = .ok (.iconst 0, 1) := by decide +kernel
theorem dX10_findOrder_243 : decode cX10_findOrder 243 = .ok (.goto 4, 3) := by decide +kernel
theorem dX10_findOrder_246 : decode cX10_findOrder 246 = .ok (.iload_n 1, 1) := by decide +kernel
theorem dX10_findOrder_247 : decode cX10_findOrder 247 = .ok (.ireturn, 1) := by decide +kernel
theorem dX10_late_0 : decode cX10_late 0 = .ok (.aload_n 0, 1) := by decide +kernel
theorem dX10_late_1 : decode cX10_late 1 = .ok (.invokevirtual 234, 3) := by decide +kernel
theorem dX10_late_4 : decode cX10_late 4 = .ok (.ireturn, 1) := by decide +kernel
theorem dX10_planned_0 : decode cX10_planned 0 = .ok (.iload_n 1, 1) := by decide +kernel
theorem dX10_planned_1 : decode cX10_planned 1 = .ok (.i2l, 1) := by decide +kernel
theorem dX10_planned_2 : decode cX10_planned 2 = .ok (.lconst 0, 1) := by decide +kernel
theorem dX10_planned_3 : decode cX10_planned 3 = .ok (.aload_n 0, 1) := by decide +kernel
theorem dX10_planned_4 : decode cX10_planned 4 = .ok (.getfield 227, 3) := by decide +kernel
theorem dX10_planned_7 : decode cX10_planned 7 = .ok (.iconst 1, 1) := by decide +kernel
theorem dX10_planned_8 : decode cX10_planned 8 = .ok (.isub, 1) := by decide +kernel
theorem dX10_planned_9 : decode cX10_planned 9 = .ok (.i2l, 1) := by decide +kernel
theorem dX10_planned_10 : decode cX10_planned 10 = .ok (.invokestatic 131, 3) := by decide +kernel
theorem dX10_planned_13 : decode cX10_planned 13 = .ok (.ifCond .ne 6, 3) := by decide +kernel
theorem dX10_planned_16 : decode cX10_planned 16 = .ok (.bipush (-2), 2) := by decide +kernel
theorem dX10_planned_18 : decode cX10_planned 18 = .ok (.ireturn, 1) := by decide +kernel
theorem dX10_planned_19 : decode cX10_planned 19 = .ok (.aload_n 0, 1) := by decide +kernel
theorem dX10_planned_20 : decode cX10_planned 20 = .ok (.invokevirtual 234, 3) := by decide +kernel
theorem dX10_planned_23 : decode cX10_planned 23 = .ok (.istore_n 2, 1) := by decide +kernel
theorem dX10_planned_24 : decode cX10_planned 24 = .ok (.aload_n 0, 1) := by decide +kernel
theorem dX10_planned_25 : decode cX10_planned 25 = .ok (.getfield 105, 3) := by decide +kernel
theorem dX10_planned_28 : decode cX10_planned 28 = .ok (.iload_n 1, 1) := by decide +kernel
theorem dX10_planned_29 : decode cX10_planned 29 = .ok (.iaload, 1) := by decide +kernel
theorem dX10_planned_30 : decode cX10_planned 30 = .ok (.ireturn, 1) := by decide +kernel
theorem dX10_room_0 : decode cX10_room 0 = .ok (.iload_n 1, 1) := by decide +kernel
theorem dX10_room_1 : decode cX10_room 1 = .ok (.i2l, 1) := by decide +kernel
theorem dX10_room_2 : decode cX10_room 2 = .ok (.ldc2_w 181, 3) := by decide +kernel
theorem dX10_room_5 : decode cX10_room 5 = .ok (.ldc2_w 238, 3) := by decide +kernel
theorem dX10_room_8 : decode cX10_room 8 = .ok (.invokestatic 131, 3) := by decide +kernel
theorem dX10_room_11 : decode cX10_room 11 = .ok (.ifCond .ne 6, 3) := by decide +kernel
theorem dX10_room_14 : decode cX10_room 14 = .ok (.bipush (-2), 2) := by decide +kernel
theorem dX10_room_16 : decode cX10_room 16 = .ok (.ireturn, 1) := by decide +kernel
theorem dX10_room_17 : decode cX10_room 17 = .ok (.aload_n 0, 1) := by decide +kernel
theorem dX10_room_18 : decode cX10_room 18 = .ok (.getfield 109, 3) := by decide +kernel
theorem dX10_room_21 : decode cX10_room 21 = .ok (.istore_n 2, 1) := by decide +kernel
theorem dX10_room_22 : decode cX10_room 22 = .ok (.aload_n 0, 1) := by decide +kernel
theorem dX10_room_23 : decode cX10_room 23 = .ok (.iload_n 1, 1) := by decide +kernel
theorem dX10_room_24 : decode cX10_room 24 = .ok (.putfield 109, 3) := by decide +kernel
theorem dX10_room_27 : decode cX10_room 27 = .ok (.iload_n 2, 1) := by decide +kernel
theorem dX10_room_28 : decode cX10_room 28 = .ok (.ireturn, 1) := by decide +kernel
theorem dX10_waits_0 : decode cX10_waits 0 = .ok (.aload_n 0, 1) := by decide +kernel
theorem dX10_waits_1 : decode cX10_waits 1 = .ok (.getfield 58, 3) := by decide +kernel
theorem dX10_waits_4 : decode cX10_waits 4 = .ok (.iload_n 1, 1) := by decide +kernel
theorem dX10_waits_5 : decode cX10_waits 5 = .ok (.iaload, 1) := by decide +kernel
theorem dX10_waits_6 : decode cX10_waits 6 = .ok (.iconst (-1), 1) := by decide +kernel
theorem dX10_waits_7 : decode cX10_waits 7 = .ok (.if_icmp .ne 25, 3) := by decide +kernel
theorem dX10_waits_10 : decode cX10_waits 10 = .ok (.aload_n 0, 1) := by decide +kernel
theorem dX10_waits_11 : decode cX10_waits 11 = .ok (.getfield 49, 3) := by decide +kernel
theorem dX10_waits_14 : decode cX10_waits 14 = .ok (.iload_n 1, 1) := by decide +kernel
theorem dX10_waits_15 : decode cX10_waits 15 = .ok (.iaload, 1) := by decide +kernel
theorem dX10_waits_16 : decode cX10_waits 16 = .ok (.ifCond .le 16, 3) := by decide +kernel
theorem dX10_waits_19 : decode cX10_waits 19 = .ok (.aload_n 0, 1) := by decide +kernel
theorem dX10_waits_20 : decode cX10_waits 20 = .ok (.getfield 112, 3) := by decide +kernel
theorem dX10_waits_23 : decode cX10_waits 23 = .ok (.iload_n 1, 1) := by decide +kernel
theorem dX10_waits_24 : decode cX10_waits 24 = .ok (.baload, 1) := by decide +kernel
theorem dX10_waits_25 : decode cX10_waits 25 = .ok (.ifCond .ne 7, 3) := by decide +kernel
theorem dX10_waits_28 : decode cX10_waits 28 = .ok (.iconst 1, 1) := by decide +kernel
theorem dX10_waits_29 : decode cX10_waits 29 = .ok (.goto 4, 3) := by decide +kernel
theorem dX10_waits_32 : decode cX10_waits 32 = .ok (.iconst 0, 1) := by decide +kernel
theorem dX10_waits_33 : decode cX10_waits 33 = .ok (.ireturn, 1) := by decide +kernel
theorem dX10_noneGone_0 : decode cX10_noneGone 0 = .ok (.iconst 0, 1) := by decide +kernel
theorem dX10_noneGone_1 : decode cX10_noneGone 1 = .ok (.istore_n 1, 1) := by decide +kernel
theorem dX10_noneGone_2 : decode cX10_noneGone 2 = .ok (.iload_n 1, 1) := by decide +kernel
theorem dX10_noneGone_3 : decode cX10_noneGone 3 = .ok (.sipush 200, 3) := by decide +kernel
theorem dX10_noneGone_6 : decode cX10_noneGone 6 = .ok (.if_icmp .ge 16, 3) := by decide +kernel
theorem dX10_noneGone_9 : decode cX10_noneGone 9 = .ok (.aload_n 0, 1) := by decide +kernel
theorem dX10_noneGone_10 : decode cX10_noneGone 10 = .ok (.getfield 112, 3) := by decide +kernel
theorem dX10_noneGone_13 : decode cX10_noneGone 13 = .ok (.iload_n 1, 1) := by decide +kernel
theorem dX10_noneGone_14 : decode cX10_noneGone 14 = .ok (.iconst 0, 1) := by decide +kernel
theorem dX10_noneGone_15 : decode cX10_noneGone 15 = .ok (.bastore, 1) := by decide +kernel
theorem dX10_noneGone_16 : decode cX10_noneGone 16 = .ok (.iinc 1 1, 3) := by decide +kernel
theorem dX10_noneGone_19 : decode cX10_noneGone 19 = .ok (.goto (-17), 3) := by decide +kernel
theorem dX10_noneGone_22 : decode cX10_noneGone 22 = .ok (.return_, 1) := by decide +kernel
theorem dX10_takes_0 : decode cX10_takes 0 = .ok (.iconst (-1), 1) := by decide +kernel
theorem dX10_takes_1 : decode cX10_takes 1 = .ok (.istore_n 1, 1) := by decide +kernel
theorem dX10_takes_2 : decode cX10_takes 2 = .ok (.iconst 0, 1) := by decide +kernel
theorem dX10_takes_3 : decode cX10_takes 3 = .ok (.istore_n 2, 1) := by decide +kernel
theorem dX10_takes_4 : decode cX10_takes 4 = .ok (.iload_n 2, 1) := by decide +kernel
theorem dX10_takes_5 : decode cX10_takes 5 = .ok (.aload_n 0, 1) := by decide +kernel
theorem dX10_takes_6 : decode cX10_takes 6 = .ok (.getfield 206, 3) := by decide +kernel
theorem dX10_takes_9 : decode cX10_takes 9 = .ok (.if_icmp .ge 28, 3) := by decide +kernel
theorem dX10_takes_12 : decode cX10_takes 12 = .ok (.iload_n 1, 1) := by decide +kernel
theorem dX10_takes_13 : decode cX10_takes 13 = .ok (.iconst (-1), 1) := by decide +kernel
theorem dX10_takes_14 : decode cX10_takes 14 = .ok (.if_icmp .ne 23, 3) := by decide +kernel
theorem dX10_takes_17 : decode cX10_takes 17 = .ok (.aload_n 0, 1) := by decide +kernel
theorem dX10_takes_18 : decode cX10_takes 18 = .ok (.iload_n 2, 1) := by decide +kernel
theorem dX10_takes_19 : decode cX10_takes 19 = .ok (.invokevirtual 240, 3) := by decide +kernel
theorem dX10_takes_22 : decode cX10_takes 22 = .ok (.ifCond .eq 7, 3) := by decide +kernel
theorem dX10_takes_25 : decode cX10_takes 25 = .ok (.iload_n 2, 1) := by decide +kernel
theorem dX10_takes_26 : decode cX10_takes 26 = .ok (.goto 4, 3) := by decide +kernel
theorem dX10_takes_29 : decode cX10_takes 29 = .ok (.iconst (-1), 1) := by decide +kernel
theorem dX10_takes_30 : decode cX10_takes 30 = .ok (.istore_n 1, 1) := by decide +kernel
theorem dX10_takes_31 : decode cX10_takes 31 = .ok (.iinc 2 1, 3) := by decide +kernel
theorem dX10_takes_34 : decode cX10_takes 34 = .ok (.goto (-30), 3) := by decide +kernel
theorem dX10_takes_37 : decode cX10_takes 37 = .ok (.iload_n 1, 1) := by decide +kernel
theorem dX10_takes_38 : decode cX10_takes 38 = .ok (.iconst (-1), 1) := by decide +kernel
theorem dX10_takes_39 : decode cX10_takes 39 = .ok (.if_icmp .ne 5, 3) := by decide +kernel
theorem dX10_takes_42 : decode cX10_takes 42 = .ok (.iconst 0, 1) := by decide +kernel
theorem dX10_takes_43 : decode cX10_takes 43 = .ok (.ireturn, 1) := by decide +kernel
theorem dX10_takes_44 : decode cX10_takes 44 = .ok (.iconst 0, 1) := by decide +kernel
theorem dX10_takes_45 : decode cX10_takes 45 = .ok (.istore_n 2, 1) := by decide +kernel
theorem dX10_takes_46 : decode cX10_takes 46 = .ok (.iconst 0, 1) := by decide +kernel
theorem dX10_takes_47 : decode cX10_takes 47 = .ok (.istore_n 3, 1) := by decide +kernel
theorem dX10_takes_48 : decode cX10_takes 48 = .ok (.iconst 1, 1) := by decide +kernel
theorem dX10_takes_49 : decode cX10_takes 49 = .ok (.istore 4, 2) := by decide +kernel
theorem dX10_takes_51 : decode cX10_takes 51 = .ok (.iload_n 1, 1) := by decide +kernel
theorem dX10_takes_52 : decode cX10_takes 52 = .ok (.istore 5, 2) := by decide +kernel
theorem dX10_takes_54 : decode cX10_takes 54 = .ok (.iload 5, 2) := by decide +kernel
theorem dX10_takes_56 : decode cX10_takes 56 = .ok (.aload_n 0, 1) := by decide +kernel
theorem dX10_takes_57 : decode cX10_takes 57 = .ok (.getfield 206, 3) := by decide +kernel
theorem dX10_takes_60 : decode cX10_takes 60 = .ok (.if_icmp .ge 112, 3) := by decide +kernel
theorem dX10_takes_63 : decode cX10_takes 63 = .ok (.iload 4, 2) := by decide +kernel
theorem dX10_takes_65 : decode cX10_takes 65 = .ok (.ifCond .eq 107, 3) := by decide +kernel
theorem dX10_takes_68 : decode cX10_takes 68 = .ok (.aload_n 0, 1) := by decide +kernel
theorem dX10_takes_69 : decode cX10_takes 69 = .ok (.iload 5, 2) := by decide +kernel
theorem dX10_takes_71 : decode cX10_takes 71 = .ok (.invokevirtual 240, 3) := by decide +kernel
theorem dX10_takes_74 : decode cX10_takes 74 = .ok (.ifCond .eq 92, 3) := by decide +kernel
theorem dX10_takes_77 : decode cX10_takes 77 = .ok (.aload_n 0, 1) := by decide +kernel
theorem dX10_takes_78 : decode cX10_takes 78 = .ok (.getfield 19, 3) := by decide +kernel
theorem dX10_takes_81 : decode cX10_takes 81 = .ok (.aload_n 0, 1) := by decide +kernel
theorem dX10_takes_82 : decode cX10_takes 82 = .ok (.getfield 25, 3) := by decide +kernel
theorem dX10_takes_85 : decode cX10_takes 85 = .ok (.aload_n 0, 1) := by decide +kernel
theorem dX10_takes_86 : decode cX10_takes 86 = .ok (.getfield 40, 3) := by decide +kernel
theorem dX10_takes_89 : decode cX10_takes 89 = .ok (.iload 5, 2) := by decide +kernel
theorem dX10_takes_91 : decode cX10_takes 91 = .ok (.iaload, 1) := by decide +kernel
theorem dX10_takes_92 : decode cX10_takes 92 = .ok (.iaload, 1) := by decide +kernel
theorem dX10_takes_93 : decode cX10_takes 93 = .ok (.iaload, 1) := by decide +kernel
theorem dX10_takes_94 : decode cX10_takes 94 = .ok (.aload_n 0, 1) := by decide +kernel
theorem dX10_takes_95 : decode cX10_takes 95 = .ok (.getfield 19, 3) := by decide +kernel
theorem dX10_takes_98 : decode cX10_takes 98 = .ok (.aload_n 0, 1) := by decide +kernel
theorem dX10_takes_99 : decode cX10_takes 99 = .ok (.getfield 25, 3) := by decide +kernel
theorem dX10_takes_102 : decode cX10_takes 102 = .ok (.aload_n 0, 1) := by decide +kernel
theorem dX10_takes_103 : decode cX10_takes 103 = .ok (.getfield 40, 3) := by decide +kernel
theorem dX10_takes_106 : decode cX10_takes 106 = .ok (.iload_n 1, 1) := by decide +kernel
theorem dX10_takes_107 : decode cX10_takes 107 = .ok (.iaload, 1) := by decide +kernel
theorem dX10_takes_108 : decode cX10_takes 108 = .ok (.iaload, 1) := by decide +kernel
theorem dX10_takes_109 : decode cX10_takes 109 = .ok (.iaload, 1) := by decide +kernel
theorem dX10_takes_110 : decode cX10_takes 110 = .ok (.if_icmp .ne 56, 3) := by decide +kernel
theorem dX10_takes_113 : decode cX10_takes 113 = .ok (.iload_n 2, 1) := by decide +kernel
theorem dX10_takes_114 : decode cX10_takes 114 = .ok (.ifCond .eq 19, 3) := by decide +kernel
theorem dX10_takes_117 : decode cX10_takes 117 = .ok (.iload_n 3, 1) := by decide +kernel
theorem dX10_takes_118 : decode cX10_takes 118 = .ok (.aload_n 0, 1) := by decide +kernel
theorem dX10_takes_119 : decode cX10_takes 119 = .ok (.getfield 49, 3) := by decide +kernel
theorem dX10_takes_122 : decode cX10_takes 122 = .ok (.iload 5, 2) := by decide +kernel
theorem dX10_takes_124 : decode cX10_takes 124 = .ok (.iaload, 1) := by decide +kernel
theorem dX10_takes_125 : decode cX10_takes 125 = .ok (.iadd, 1) := by decide +kernel
theorem dX10_takes_126 : decode cX10_takes 126 = .ok (.aload_n 0, 1) := by decide +kernel
theorem dX10_takes_127 : decode cX10_takes 127 = .ok (.getfield 109, 3) := by decide +kernel
theorem dX10_takes_130 : decode cX10_takes 130 = .ok (.if_icmp .gt 7, 3) := by decide +kernel
theorem dX10_takes_133 : decode cX10_takes 133 = .ok (.iconst 1, 1) := by decide +kernel
theorem dX10_takes_134 : decode cX10_takes 134 = .ok (.goto 4, 3) := by decide +kernel
theorem dX10_takes_137 : decode cX10_takes 137 = .ok (.iconst 0, 1) := by decide +kernel
theorem dX10_takes_138 : decode cX10_takes 138 = .ok (.istore 4, 2) := by decide +kernel
theorem dX10_takes_140 : decode cX10_takes 140 = .ok (.iload 4, 2) := by decide +kernel
theorem dX10_takes_142 : decode cX10_takes 142 = .ok (.ifCond .eq 24, 3) := by decide +kernel
theorem dX10_takes_145 : decode cX10_takes 145 = .ok (.aload_n 0, 1) := by decide +kernel
theorem dX10_takes_146 : decode cX10_takes 146 = .ok (.getfield 112, 3) := by decide +kernel
theorem dX10_takes_149 : decode cX10_takes 149 = .ok (.iload 5, 2) := by decide +kernel
theorem dX10_takes_151 : decode cX10_takes 151 = .ok (.iconst 1, 1) := by decide +kernel
theorem dX10_takes_152 : decode cX10_takes 152 = .ok (.bastore, 1) := by decide +kernel
theorem dX10_takes_153 : decode cX10_takes 153 = .ok (.iload_n 3, 1) := by decide +kernel
theorem dX10_takes_154 : decode cX10_takes 154 = .ok (.aload_n 0, 1) := by decide +kernel
theorem dX10_takes_155 : decode cX10_takes 155 = .ok (.getfield 49, 3) := by decide +kernel
theorem dX10_takes_158 : decode cX10_takes 158 = .ok (.iload 5, 2) := by decide +kernel
theorem dX10_takes_160 : decode cX10_takes 160 = .ok (.iaload, 1) := by decide +kernel
theorem dX10_takes_161 : decode cX10_takes 161 = .ok (.iadd, 1) := by decide +kernel
theorem dX10_takes_162 : decode cX10_takes 162 = .ok (.istore_n 3, 1) := by decide +kernel
theorem dX10_takes_163 : decode cX10_takes 163 = .ok (.iinc 2 1, 3) := by decide +kernel
theorem dX10_takes_166 : decode cX10_takes 166 = .ok (.iinc 5 1, 3) := by decide +kernel
theorem dX10_takes_169 : decode cX10_takes 169 = .ok (.goto (-115), 3) := by decide +kernel
theorem dX10_takes_172 : decode cX10_takes 172 = .ok (.iload_n 2, 1) := by decide +kernel
theorem dX10_takes_173 : decode cX10_takes 173 = .ok (.ireturn, 1) := by decide +kernel
theorem dX10_age_0 : decode cX10_age 0 = .ok (.aload_n 0, 1) := by decide +kernel
theorem dX10_age_1 : decode cX10_age 1 = .ok (.invokevirtual 243, 3) := by decide +kernel
theorem dX10_age_4 : decode cX10_age 4 = .ok (.aload_n 0, 1) := by decide +kernel
theorem dX10_age_5 : decode cX10_age 5 = .ok (.invokevirtual 246, 3) := by decide +kernel
theorem dX10_age_8 : decode cX10_age 8 = .ok (.istore_n 1, 1) := by decide +kernel
theorem dX10_age_9 : decode cX10_age 9 = .ok (.iload_n 1, 1) := by decide +kernel
theorem dX10_age_10 : decode cX10_age 10 = .ok (.ifCond .ne 6, 3) := by decide +kernel
theorem dX10_age_13 : decode cX10_age 13 = .ok (.bipush (-3), 2) := by decide +kernel
theorem dX10_age_15 : decode cX10_age 15 = .ok (.ireturn, 1) := by decide +kernel
theorem dX10_age_16 : decode cX10_age 16 = .ok (.iconst 0, 1) := by decide +kernel
theorem dX10_age_17 : decode cX10_age 17 = .ok (.istore_n 2, 1) := by decide +kernel
theorem dX10_age_18 : decode cX10_age 18 = .ok (.iload_n 2, 1) := by decide +kernel
theorem dX10_age_19 : decode cX10_age 19 = .ok (.aload_n 0, 1) := by decide +kernel
theorem dX10_age_20 : decode cX10_age 20 = .ok (.getfield 206, 3) := by decide +kernel
theorem dX10_age_23 : decode cX10_age 23 = .ok (.if_icmp .ge 37, 3) := by decide +kernel
theorem dX10_age_26 : decode cX10_age 26 = .ok (.aload_n 0, 1) := by decide +kernel
theorem dX10_age_27 : decode cX10_age 27 = .ok (.getfield 58, 3) := by decide +kernel
theorem dX10_age_30 : decode cX10_age 30 = .ok (.iload_n 2, 1) := by decide +kernel
theorem dX10_age_31 : decode cX10_age 31 = .ok (.aload_n 0, 1) := by decide +kernel
theorem dX10_age_32 : decode cX10_age 32 = .ok (.getfield 112, 3) := by decide +kernel
theorem dX10_age_35 : decode cX10_age 35 = .ok (.iload_n 2, 1) := by decide +kernel
theorem dX10_age_36 : decode cX10_age 36 = .ok (.baload, 1) := by decide +kernel
theorem dX10_age_37 : decode cX10_age 37 = .ok (.ifCond .eq 10, 3) := by decide +kernel
theorem dX10_age_40 : decode cX10_age 40 = .ok (.aload_n 0, 1) := by decide +kernel
theorem dX10_age_41 : decode cX10_age 41 = .ok (.getfield 249, 3) := by decide +kernel
theorem dX10_age_44 : decode cX10_age 44 = .ok (.goto 9, 3) := by decide +kernel
theorem dX10_age_47 : decode cX10_age 47 = .ok (.aload_n 0, 1) := by decide +kernel
theorem dX10_age_48 : decode cX10_age 48 = .ok (.getfield 58, 3) := by decide +kernel
theorem dX10_age_51 : decode cX10_age 51 = .ok (.iload_n 2, 1) := by decide +kernel
theorem dX10_age_52 : decode cX10_age 52 = .ok (.iaload, 1) := by decide +kernel
theorem dX10_age_53 : decode cX10_age 53 = .ok (.iastore, 1) := by decide +kernel
theorem dX10_age_54 : decode cX10_age 54 = .ok (.iinc 2 1, 3) := by decide +kernel
theorem dX10_age_57 : decode cX10_age 57 = .ok (.goto (-39), 3) := by decide +kernel
theorem dX10_age_60 : decode cX10_age 60 = .ok (.aload_n 0, 1) := by decide +kernel
theorem dX10_age_61 : decode cX10_age 61 = .ok (.dup, 1) := by decide +kernel
theorem dX10_age_62 : decode cX10_age 62 = .ok (.getfield 249, 3) := by decide +kernel
theorem dX10_age_65 : decode cX10_age 65 = .ok (.iconst 1, 1) := by decide +kernel
theorem dX10_age_66 : decode cX10_age 66 = .ok (.iadd, 1) := by decide +kernel
theorem dX10_age_67 : decode cX10_age 67 = .ok (.putfield 249, 3) := by decide +kernel
theorem dX10_age_70 : decode cX10_age 70 = .ok (.iload_n 1, 1) := by decide +kernel
theorem dX10_age_71 : decode cX10_age 71 = .ok (.ireturn, 1) := by decide +kernel
theorem dX10_batches_0 : decode cX10_batches 0 = .ok (.aload_n 0, 1) := by decide +kernel
theorem dX10_batches_1 : decode cX10_batches 1 = .ok (.invokevirtual 243, 3) := by decide +kernel
theorem dX10_batches_4 : decode cX10_batches 4 = .ok (.iconst 0, 1) := by decide +kernel
theorem dX10_batches_5 : decode cX10_batches 5 = .ok (.istore_n 1, 1) := by decide +kernel
theorem dX10_batches_6 : decode cX10_batches 6 = .ok (.aload_n 0, 1) := by decide +kernel
theorem dX10_batches_7 : decode cX10_batches 7 = .ok (.invokevirtual 246, 3) := by decide +kernel
theorem dX10_batches_10 : decode cX10_batches 10 = .ok (.ifCond .le 9, 3) := by decide +kernel
theorem dX10_batches_13 : decode cX10_batches 13 = .ok (.iinc 1 1, 3) := by decide +kernel
theorem dX10_batches_16 : decode cX10_batches 16 = .ok (.goto (-10), 3) := by decide +kernel
theorem dX10_batches_19 : decode cX10_batches 19 = .ok (.iload_n 1, 1) := by decide +kernel
theorem dX10_batches_20 : decode cX10_batches 20 = .ok (.ireturn, 1) := by decide +kernel
theorem dX10_sample_0 : decode cX10_sample 0 = .ok (.aload_n 0, 1) := by decide +kernel
theorem dX10_sample_1 : decode cX10_sample 1 = .ok (.iload_n 1, 1) := by decide +kernel
theorem dX10_sample_2 : decode cX10_sample 2 = .ok (.invokevirtual 213, 3) := by decide +kernel
theorem dX10_sample_5 : decode cX10_sample 5 = .ok (.ifCond .ne 6, 3) := by decide +kernel
theorem dX10_sample_8 : decode cX10_sample 8 = .ok (.bipush (-2), 2) := by decide +kernel
theorem dX10_sample_10 : decode cX10_sample 10 = .ok (.ireturn, 1) := by decide +kernel
theorem dX10_sample_11 : decode cX10_sample 11 = .ok (.aload_n 0, 1) := by decide +kernel
theorem dX10_sample_12 : decode cX10_sample 12 = .ok (.getfield 61, 3) := by decide +kernel
theorem dX10_sample_15 : decode cX10_sample 15 = .ok (.iload_n 1, 1) := by decide +kernel
theorem dX10_sample_16 : decode cX10_sample 16 = .ok (.iload_n 2, 1) := by decide +kernel
theorem dX10_sample_17 : decode cX10_sample 17 = .ok (.ifCond .eq 7, 3) := by decide +kernel
theorem dX10_sample_20 : decode cX10_sample 20 = .ok (.iconst 1, 1) := by decide +kernel
theorem dX10_sample_21 : decode cX10_sample 21 = .ok (.goto 4, 3) := by decide +kernel
theorem dX10_sample_24 : decode cX10_sample 24 = .ok (.iconst 0, 1) := by decide +kernel
theorem dX10_sample_25 : decode cX10_sample 25 = .ok (.iastore, 1) := by decide +kernel
theorem dX10_sample_26 : decode cX10_sample 26 = .ok (.iconst 1, 1) := by decide +kernel
theorem dX10_sample_27 : decode cX10_sample 27 = .ok (.ireturn, 1) := by decide +kernel
theorem dX10_isSuspect_0 : decode cX10_isSuspect 0 = .ok (.aload_n 0, 1) := by decide +kernel
theorem dX10_isSuspect_1 : decode cX10_isSuspect 1 = .ok (.getfield 61, 3) := by decide +kernel
theorem dX10_isSuspect_4 : decode cX10_isSuspect 4 = .ok (.iload_n 1, 1) := by decide +kernel
theorem dX10_isSuspect_5 : decode cX10_isSuspect 5 = .ok (.iaload, 1) := by decide +kernel
theorem dX10_isSuspect_6 : decode cX10_isSuspect 6 = .ok (.iconst 1, 1) := by decide +kernel
theorem dX10_isSuspect_7 : decode cX10_isSuspect 7 = .ok (.if_icmp .ne 5, 3) := by decide +kernel
theorem dX10_isSuspect_10 : decode cX10_isSuspect 10 = .ok (.iconst 0, 1) := by decide +kernel
theorem dX10_isSuspect_11 : decode cX10_isSuspect 11 = .ok (.ireturn, 1) := by decide +kernel
theorem dX10_isSuspect_12 : decode cX10_isSuspect 12 = .ok (.aload_n 0, 1) := by decide +kernel
theorem dX10_isSuspect_13 : decode cX10_isSuspect 13 = .ok (.getfield 61, 3) := by decide +kernel
theorem dX10_isSuspect_16 : decode cX10_isSuspect 16 = .ok (.iload_n 1, 1) := by decide +kernel
theorem dX10_isSuspect_17 : decode cX10_isSuspect 17 = .ok (.iaload, 1) := by decide +kernel
theorem dX10_isSuspect_18 : decode cX10_isSuspect 18 = .ok (.ifCond .ne 7, 3) := by decide +kernel
theorem dX10_isSuspect_21 : decode cX10_isSuspect 21 = .ok (.iconst 1, 1) := by decide +kernel
theorem dX10_isSuspect_22 : decode cX10_isSuspect 22 = .ok (.goto 4, 3) := by decide +kernel
theorem dX10_isSuspect_25 : decode cX10_isSuspect 25 = .ok (.iconst 0, 1) := by decide +kernel
theorem dX10_isSuspect_26 : decode cX10_isSuspect 26 = .ok (.istore_n 2, 1) := by decide +kernel
theorem dX10_isSuspect_27 : decode cX10_isSuspect 27 = .ok (.iconst (-1), 1) := by decide +kernel
theorem dX10_isSuspect_28 : decode cX10_isSuspect 28 = .ok (.istore_n 3, 1) := by decide +kernel
theorem dX10_isSuspect_29 : decode cX10_isSuspect 29 = .ok (.iload_n 3, 1) := by decide +kernel
theorem dX10_isSuspect_30 : decode cX10_isSuspect 30 = .ok (.iconst 2, 1) := by decide +kernel
theorem dX10_isSuspect_31 : decode cX10_isSuspect 31 = .ok (.if_icmp .ge 99, 3) := by decide +kernel
theorem dX10_isSuspect_34 : decode cX10_isSuspect 34 = .ok (.iconst 0, 1) := by decide +kernel
theorem dX10_isSuspect_35 : decode cX10_isSuspect 35 = .ok (.istore 4, 2) := by decide +kernel
theorem dX10_isSuspect_37 : decode cX10_isSuspect 37 = .ok (.iload_n 1, 1) := by decide +kernel
theorem dX10_isSuspect_38 : decode cX10_isSuspect 38 = .ok (.iload_n 3, 1) := by decide +kernel
theorem dX10_isSuspect_39 : decode cX10_isSuspect 39 = .ok (.iadd, 1) := by decide +kernel
theorem dX10_isSuspect_40 : decode cX10_isSuspect 40 = .ok (.istore 5, 2) := by decide +kernel
theorem dX10_isSuspect_42 : decode cX10_isSuspect 42 = .ok (.iload 5, 2) := by decide +kernel
theorem dX10_isSuspect_44 : decode cX10_isSuspect 44 = .ok (.ifCond .lt 80, 3) := by decide +kernel
theorem dX10_isSuspect_47 : decode cX10_isSuspect 47 = .ok (.iload 5, 2) := by decide +kernel
theorem dX10_isSuspect_49 : decode cX10_isSuspect 49 = .ok (.aload_n 0, 1) := by decide +kernel
theorem dX10_isSuspect_50 : decode cX10_isSuspect 50 = .ok (.getfield 206, 3) := by decide +kernel
theorem dX10_isSuspect_53 : decode cX10_isSuspect 53 = .ok (.if_icmp .ge 71, 3) := by decide +kernel
theorem dX10_isSuspect_56 : decode cX10_isSuspect 56 = .ok (.iload 4, 2) := by decide +kernel
theorem dX10_isSuspect_58 : decode cX10_isSuspect 58 = .ok (.ifCond .ne 66, 3) := by decide +kernel
theorem dX10_isSuspect_61 : decode cX10_isSuspect 61 = .ok (.aload_n 0, 1) := by decide +kernel
theorem dX10_isSuspect_62 : decode cX10_isSuspect 62 = .ok (.getfield 40, 3) := by decide +kernel
theorem dX10_isSuspect_65 : decode cX10_isSuspect 65 = .ok (.iload 5, 2) := by decide +kernel
theorem dX10_isSuspect_67 : decode cX10_isSuspect 67 = .ok (.iaload, 1) := by decide +kernel
theorem dX10_isSuspect_68 : decode cX10_isSuspect 68 = .ok (.aload_n 0, 1) := by decide +kernel
theorem dX10_isSuspect_69 : decode cX10_isSuspect 69 = .ok (.getfield 40, 3) := by decide +kernel
theorem dX10_isSuspect_72 : decode cX10_isSuspect 72 = .ok (.iload_n 1, 1) := by decide +kernel
theorem dX10_isSuspect_73 : decode cX10_isSuspect 73 = .ok (.iaload, 1) := by decide +kernel
theorem dX10_isSuspect_74 : decode cX10_isSuspect 74 = .ok (.if_icmp .ne 41, 3) := by decide +kernel
theorem dX10_isSuspect_77 : decode cX10_isSuspect 77 = .ok (.aload_n 0, 1) := by decide +kernel
theorem dX10_isSuspect_78 : decode cX10_isSuspect 78 = .ok (.getfield 61, 3) := by decide +kernel
theorem dX10_isSuspect_81 : decode cX10_isSuspect 81 = .ok (.iload 5, 2) := by decide +kernel
theorem dX10_isSuspect_83 : decode cX10_isSuspect 83 = .ok (.iaload, 1) := by decide +kernel
theorem dX10_isSuspect_84 : decode cX10_isSuspect 84 = .ok (.iconst 1, 1) := by decide +kernel
theorem dX10_isSuspect_85 : decode cX10_isSuspect 85 = .ok (.if_icmp .ne 7, 3) := by decide +kernel
theorem dX10_isSuspect_88 : decode cX10_isSuspect 88 = .ok (.iconst 1, 1) := by decide +kernel
theorem dX10_isSuspect_89 : decode cX10_isSuspect 89 = .ok (.goto 4, 3) := by decide +kernel
theorem dX10_isSuspect_92 : decode cX10_isSuspect 92 = .ok (.iconst 0, 1) := by decide +kernel
theorem dX10_isSuspect_93 : decode cX10_isSuspect 93 = .ok (.istore 4, 2) := by decide +kernel
theorem dX10_isSuspect_95 : decode cX10_isSuspect 95 = .ok (.iload_n 2, 1) := by decide +kernel
theorem dX10_isSuspect_96 : decode cX10_isSuspect 96 = .ok (.ifCond .ne 13, 3) := by decide +kernel
theorem dX10_isSuspect_99 : decode cX10_isSuspect 99 = .ok (.aload_n 0, 1) := by decide +kernel
theorem dX10_isSuspect_100 : decode cX10_isSuspect 100 = .ok (.getfield 61, 3) := by decide +kernel
theorem dX10_isSuspect_103 : decode cX10_isSuspect 103 = .ok (.iload 5, 2) := by decide +kernel
theorem dX10_isSuspect_105 : decode cX10_isSuspect 105 = .ok (.iaload, 1) := by decide +kernel
theorem dX10_isSuspect_106 : decode cX10_isSuspect 106 = .ok (.ifCond .ne 7, 3) := by decide +kernel
theorem dX10_isSuspect_109 : decode cX10_isSuspect 109 = .ok (.iconst 1, 1) := by decide +kernel
theorem dX10_isSuspect_110 : decode cX10_isSuspect 110 = .ok (.goto 4, 3) := by decide +kernel
theorem dX10_isSuspect_113 : decode cX10_isSuspect 113 = .ok (.iconst 0, 1) := by decide +kernel
theorem dX10_isSuspect_114 : decode cX10_isSuspect 114 = .ok (.istore_n 2, 1) := by decide +kernel
theorem dX10_isSuspect_115 : decode cX10_isSuspect 115 = .ok (.iload 5, 2) := by decide +kernel
theorem dX10_isSuspect_117 : decode cX10_isSuspect 117 = .ok (.iload_n 3, 1) := by decide +kernel
theorem dX10_isSuspect_118 : decode cX10_isSuspect 118 = .ok (.iadd, 1) := by decide +kernel
theorem dX10_isSuspect_119 : decode cX10_isSuspect 119 = .ok (.istore 5, 2) := by decide +kernel
theorem dX10_isSuspect_121 : decode cX10_isSuspect 121 = .ok (.goto (-79), 3) := by decide +kernel
theorem dX10_isSuspect_124 : decode cX10_isSuspect 124 = .ok (.iinc 3 2, 3) := by decide +kernel
theorem dX10_isSuspect_127 : decode cX10_isSuspect 127 = .ok (.goto (-98), 3) := by decide +kernel
theorem dX10_isSuspect_130 : decode cX10_isSuspect 130 = .ok (.iload_n 2, 1) := by decide +kernel
theorem dX10_isSuspect_131 : decode cX10_isSuspect 131 = .ok (.ireturn, 1) := by decide +kernel
theorem dX10_suspect_0 : decode cX10_suspect 0 = .ok (.aload_n 0, 1) := by decide +kernel
theorem dX10_suspect_1 : decode cX10_suspect 1 = .ok (.iload_n 1, 1) := by decide +kernel
theorem dX10_suspect_2 : decode cX10_suspect 2 = .ok (.invokevirtual 213, 3) := by decide +kernel
theorem dX10_suspect_5 : decode cX10_suspect 5 = .ok (.ifCond .ne 8, 3) := by decide +kernel
theorem dX10_suspect_8 : decode cX10_suspect 8 = .ok (.bipush (-2), 2) := by decide +kernel
theorem dX10_suspect_10 : decode cX10_suspect 10 = .ok (.goto 16, 3) := by decide +kernel
theorem dX10_suspect_13 : decode cX10_suspect 13 = .ok (.aload_n 0, 1) := by decide +kernel
theorem dX10_suspect_14 : decode cX10_suspect 14 = .ok (.iload_n 1, 1) := by decide +kernel
theorem dX10_suspect_15 : decode cX10_suspect 15 = .ok (.invokevirtual 252, 3) := by decide +kernel
theorem dX10_suspect_18 : decode cX10_suspect 18 = .ok (.ifCond .eq 7, 3) := by decide +kernel
theorem dX10_suspect_21 : decode cX10_suspect 21 = .ok (.iconst 1, 1) := by decide +kernel
theorem dX10_suspect_22 : decode cX10_suspect 22 = .ok (.goto 4, 3) := by decide +kernel
theorem dX10_suspect_25 : decode cX10_suspect 25 = .ok (.iconst 0, 1) := by decide +kernel
theorem dX10_suspect_26 : decode cX10_suspect 26 = .ok (.ireturn, 1) := by decide +kernel
theorem dX10_held_0 : decode cX10_held 0 = .ok (.iconst 0, 1) := by decide +kernel
theorem dX10_held_1 : decode cX10_held 1 = .ok (.istore_n 1, 1) := by decide +kernel
theorem dX10_held_2 : decode cX10_held 2 = .ok (.iconst 0, 1) := by decide +kernel
theorem dX10_held_3 : decode cX10_held 3 = .ok (.istore_n 2, 1) := by decide +kernel
theorem dX10_held_4 : decode cX10_held 4 = .ok (.iload_n 2, 1) := by decide +kernel
theorem dX10_held_5 : decode cX10_held 5 = .ok (.aload_n 0, 1) := by decide +kernel
theorem dX10_held_6 : decode cX10_held 6 = .ok (.getfield 206, 3) := by decide +kernel
theorem dX10_held_9 : decode cX10_held 9 = .ok (.if_icmp .ge 30, 3) := by decide +kernel
theorem dX10_held_12 : decode cX10_held 12 = .ok (.iload_n 1, 1) := by decide +kernel
theorem dX10_held_13 : decode cX10_held 13 = .ok (.aload_n 0, 1) := by decide +kernel
theorem dX10_held_14 : decode cX10_held 14 = .ok (.iload_n 2, 1) := by decide +kernel
theorem dX10_held_15 : decode cX10_held 15 = .ok (.invokevirtual 252, 3) := by decide +kernel
theorem dX10_held_18 : decode cX10_held 18 = .ok (.ifCond .eq 12, 3) := by decide +kernel
theorem dX10_held_21 : decode cX10_held 21 = .ok (.aload_n 0, 1) := by decide +kernel
theorem dX10_held_22 : decode cX10_held 22 = .ok (.getfield 49, 3) := by decide +kernel
theorem dX10_held_25 : decode cX10_held 25 = .ok (.iload_n 2, 1) := by decide +kernel
theorem dX10_held_26 : decode cX10_held 26 = .ok (.iaload, 1) := by decide +kernel
theorem dX10_held_27 : decode cX10_held 27 = .ok (.goto 4, 3) := by decide +kernel
theorem dX10_held_30 : decode cX10_held 30 = .ok (.iconst 0, 1) := by decide +kernel
theorem dX10_held_31 : decode cX10_held 31 = .ok (.iadd, 1) := by decide +kernel
theorem dX10_held_32 : decode cX10_held 32 = .ok (.istore_n 1, 1) := by decide +kernel
theorem dX10_held_33 : decode cX10_held 33 = .ok (.iinc 2 1, 3) := by decide +kernel
theorem dX10_held_36 : decode cX10_held 36 = .ok (.goto (-32), 3) := by decide +kernel
theorem dX10_held_39 : decode cX10_held 39 = .ok (.iload_n 1, 1) := by decide +kernel
theorem dX10_held_40 : decode cX10_held 40 = .ok (.ireturn, 1) := by decide +kernel
theorem dX10_drift_0 : decode cX10_drift 0 = .ok (.aload_n 0, 1) := by decide +kernel
theorem dX10_drift_1 : decode cX10_drift 1 = .ok (.iload_n 1, 1) := by decide +kernel
theorem dX10_drift_2 : decode cX10_drift 2 = .ok (.invokevirtual 213, 3) := by decide +kernel
theorem dX10_drift_5 : decode cX10_drift 5 = .ok (.ifCond .eq 16, 3) := by decide +kernel
theorem dX10_drift_8 : decode cX10_drift 8 = .ok (.aload_n 0, 1) := by decide +kernel
theorem dX10_drift_9 : decode cX10_drift 9 = .ok (.iload_n 2, 1) := by decide +kernel
theorem dX10_drift_10 : decode cX10_drift 10 = .ok (.invokevirtual 213, 3) := by decide +kernel
theorem dX10_drift_13 : decode cX10_drift 13 = .ok (.ifCond .eq 8, 3) := by decide +kernel
theorem dX10_drift_16 : decode cX10_drift 16 = .ok (.iload_n 1, 1) := by decide +kernel
theorem dX10_drift_17 : decode cX10_drift 17 = .ok (.iload_n 2, 1) := by decide +kernel
theorem dX10_drift_18 : decode cX10_drift 18 = .ok (.if_icmp .le 6, 3) := by decide +kernel
theorem dX10_drift_21 : decode cX10_drift 21 = .ok (.ldc 255, 2) := by decide +kernel
theorem dX10_drift_23 : decode cX10_drift 23 = .ok (.ireturn, 1) := by decide +kernel
theorem dX10_drift_24 : decode cX10_drift 24 = .ok (.iconst 0, 1) := by decide +kernel
theorem dX10_drift_25 : decode cX10_drift 25 = .ok (.istore_n 3, 1) := by decide +kernel
theorem dX10_drift_26 : decode cX10_drift 26 = .ok (.iconst 0, 1) := by decide +kernel
theorem dX10_drift_27 : decode cX10_drift 27 = .ok (.istore 4, 2) := by decide +kernel
theorem dX10_drift_29 : decode cX10_drift 29 = .ok (.iload_n 1, 1) := by decide +kernel
theorem dX10_drift_30 : decode cX10_drift 30 = .ok (.istore 5, 2) := by decide +kernel
theorem dX10_drift_32 : decode cX10_drift 32 = .ok (.iload 5, 2) := by decide +kernel
theorem dX10_drift_34 : decode cX10_drift 34 = .ok (.iload_n 2, 1) := by decide +kernel
theorem dX10_drift_35 : decode cX10_drift 35 = .ok (.if_icmp .gt 81, 3) := by decide +kernel
theorem dX10_drift_38 : decode cX10_drift 38 = .ok (.aload_n 0, 1) := by decide +kernel
theorem dX10_drift_39 : decode cX10_drift 39 = .ok (.getfield 116, 3) := by decide +kernel
theorem dX10_drift_42 : decode cX10_drift 42 = .ok (.iconst 0, 1) := by decide +kernel
theorem dX10_drift_43 : decode cX10_drift 43 = .ok (.iaload, 1) := by decide +kernel
theorem dX10_drift_44 : decode cX10_drift 44 = .ok (.ifCond .lt 14, 3) := by decide +kernel
theorem dX10_drift_47 : decode cX10_drift 47 = .ok (.iload 5, 2) := by decide +kernel
theorem dX10_drift_49 : decode cX10_drift 49 = .ok (.aload_n 0, 1) := by decide +kernel
theorem dX10_drift_50 : decode cX10_drift 50 = .ok (.getfield 119, 3) := by decide +kernel
theorem dX10_drift_53 : decode cX10_drift 53 = .ok (.iconst 0, 1) := by decide +kernel
theorem dX10_drift_54 : decode cX10_drift 54 = .ok (.iaload, 1) := by decide +kernel
theorem dX10_drift_55 : decode cX10_drift 55 = .ok (.if_icmp .lt 7, 3) := by decide +kernel
theorem dX10_drift_58 : decode cX10_drift 58 = .ok (.iconst (-1), 1) := by decide +kernel
theorem dX10_drift_59 : decode cX10_drift 59 = .ok (.goto 10, 3) := by decide +kernel
theorem dX10_drift_62 : decode cX10_drift 62 = .ok (.aload_n 0, 1) := by decide +kernel
theorem dX10_drift_63 : decode cX10_drift 63 = .ok (.getfield 122, 3) := by decide +kernel
theorem dX10_drift_66 : decode cX10_drift 66 = .ok (.iload 5, 2) := by decide +kernel
theorem dX10_drift_68 : decode cX10_drift 68 = .ok (.iaload, 1) := by decide +kernel
theorem dX10_drift_69 : decode cX10_drift 69 = .ok (.istore 6, 2) := by decide +kernel
theorem dX10_drift_71 : decode cX10_drift 71 = .ok (.iload 6, 2) := by decide +kernel
theorem dX10_drift_73 : decode cX10_drift 73 = .ok (.i2l, 1) := by decide +kernel
theorem dX10_drift_74 : decode cX10_drift 74 = .ok (.lconst 1, 1) := by decide +kernel
theorem dX10_drift_75 : decode cX10_drift 75 = .ok (.ldc2_w 256, 3) := by decide +kernel
theorem dX10_drift_78 : decode cX10_drift 78 = .ok (.invokestatic 131, 3) := by decide +kernel
theorem dX10_drift_81 : decode cX10_drift 81 = .ok (.ifCond .eq 29, 3) := by decide +kernel
theorem dX10_drift_84 : decode cX10_drift 84 = .ok (.iload_n 3, 1) := by decide +kernel
theorem dX10_drift_85 : decode cX10_drift 85 = .ok (.iload 6, 2) := by decide +kernel
theorem dX10_drift_87 : decode cX10_drift 87 = .ok (.aload_n 0, 1) := by decide +kernel
theorem dX10_drift_88 : decode cX10_drift 88 = .ok (.getfield 22, 3) := by decide +kernel
theorem dX10_drift_91 : decode cX10_drift 91 = .ok (.aload_n 0, 1) := by decide +kernel
theorem dX10_drift_92 : decode cX10_drift 92 = .ok (.getfield 25, 3) := by decide +kernel
theorem dX10_drift_95 : decode cX10_drift 95 = .ok (.aload_n 0, 1) := by decide +kernel
theorem dX10_drift_96 : decode cX10_drift 96 = .ok (.getfield 40, 3) := by decide +kernel
theorem dX10_drift_99 : decode cX10_drift 99 = .ok (.iload 5, 2) := by decide +kernel
theorem dX10_drift_101 : decode cX10_drift 101 = .ok (.iaload, 1) := by decide +kernel
theorem dX10_drift_102 : decode cX10_drift 102 = .ok (.iaload, 1) := by decide +kernel
theorem dX10_drift_103 : decode cX10_drift 103 = .ok (.iaload, 1) := by decide +kernel
theorem dX10_drift_104 : decode cX10_drift 104 = .ok (.isub, 1) := by decide +kernel
theorem dX10_drift_105 : decode cX10_drift 105 = .ok (.iadd, 1) := by decide +kernel
theorem dX10_drift_106 : decode cX10_drift 106 = .ok (.istore_n 3, 1) := by decide +kernel
theorem dX10_drift_107 : decode cX10_drift 107 = .ok (.iinc 4 1, 3) := by decide +kernel
theorem dX10_drift_110 : decode cX10_drift 110 = .ok (.iinc 5 1, 3) := by decide +kernel
theorem dX10_drift_113 : decode cX10_drift 113 = .ok (.goto (-81), 3) := by decide +kernel
theorem dX10_drift_116 : decode cX10_drift 116 = .ok (.iload 4, 2) := by decide +kernel
theorem dX10_drift_118 : decode cX10_drift 118 = .ok (.ifCond .ne 7, 3) := by decide +kernel
theorem dX10_drift_121 : decode cX10_drift 121 = .ok (.ldc_w 258, 3) := by decide +kernel
theorem dX10_drift_124 : decode cX10_drift 124 = .ok (.ireturn, 1) := by decide +kernel
theorem dX10_drift_125 : decode cX10_drift 125 = .ok (.iload_n 3, 1) := by decide +kernel
theorem dX10_drift_126 : decode cX10_drift 126 = .ok (.iload 4, 2) := by decide +kernel
theorem dX10_drift_128 : decode cX10_drift 128 = .ok (.idiv, 1) := by decide +kernel
theorem dX10_drift_129 : decode cX10_drift 129 = .ok (.istore 5, 2) := by decide +kernel
theorem dX10_drift_131 : decode cX10_drift 131 = .ok (.iload 5, 2) := by decide +kernel
theorem dX10_drift_133 : decode cX10_drift 133 = .ok (.iload 4, 2) := by decide +kernel
theorem dX10_drift_135 : decode cX10_drift 135 = .ok (.imul, 1) := by decide +kernel
theorem dX10_drift_136 : decode cX10_drift 136 = .ok (.iload_n 3, 1) := by decide +kernel
theorem dX10_drift_137 : decode cX10_drift 137 = .ok (.if_icmp .le 10, 3) := by decide +kernel
theorem dX10_drift_140 : decode cX10_drift 140 = .ok (.iload 5, 2) := by decide +kernel
theorem dX10_drift_142 : decode cX10_drift 142 = .ok (.iconst 1, 1) := by decide +kernel
theorem dX10_drift_143 : decode cX10_drift 143 = .ok (.isub, 1) := by decide +kernel
theorem dX10_drift_144 : decode cX10_drift 144 = .ok (.goto 5, 3) := by decide +kernel
theorem dX10_drift_147 : decode cX10_drift 147 = .ok (.iload 5, 2) := by decide +kernel
theorem dX10_drift_149 : decode cX10_drift 149 = .ok (.ireturn, 1) := by decide +kernel
theorem dX10_met_0 : decode cX10_met 0 = .ok (.aload_n 0, 1) := by decide +kernel
theorem dX10_met_1 : decode cX10_met 1 = .ok (.iload_n 1, 1) := by decide +kernel
theorem dX10_met_2 : decode cX10_met 2 = .ok (.putfield 259, 3) := by decide +kernel
theorem dX10_met_5 : decode cX10_met 5 = .ok (.bipush (-10), 2) := by decide +kernel
theorem dX10_met_7 : decode cX10_met 7 = .ok (.iload_n 1, 1) := by decide +kernel
theorem dX10_met_8 : decode cX10_met 8 = .ok (.isub, 1) := by decide +kernel
theorem dX10_met_9 : decode cX10_met 9 = .ok (.ireturn, 1) := by decide +kernel
theorem dX10_isSheet_0 : decode cX10_isSheet 0 = .ok (.iload_n 0, 1) := by decide +kernel
theorem dX10_isSheet_1 : decode cX10_isSheet 1 = .ok (.i2l, 1) := by decide +kernel
theorem dX10_isSheet_2 : decode cX10_isSheet 2 = .ok (.lconst 0, 1) := by decide +kernel
theorem dX10_isSheet_3 : decode cX10_isSheet 3 = .ok (.ldc2_w 144, 3) := by decide +kernel
theorem dX10_isSheet_6 : decode cX10_isSheet 6 = .ok (.invokestatic 131, 3) := by decide +kernel
theorem dX10_isSheet_9 : decode cX10_isSheet 9 = .ok (.ireturn, 1) := by decide +kernel
theorem dX10_sheet_0 : decode cX10_sheet 0 = .ok (.iload_n 1, 1) := by decide +kernel
theorem dX10_sheet_1 : decode cX10_sheet 1 = .ok (.invokestatic 262, 3) := by decide +kernel
theorem dX10_sheet_4 : decode cX10_sheet 4 = .ok (.ifCond .eq 22, 3) := by decide +kernel
theorem dX10_sheet_7 : decode cX10_sheet 7 = .ok (.iload_n 2, 1) := by decide +kernel
theorem dX10_sheet_8 : decode cX10_sheet 8 = .ok (.i2l, 1) := by decide +kernel
theorem dX10_sheet_9 : decode cX10_sheet 9 = .ok (.lconst 0, 1) := by decide +kernel
theorem dX10_sheet_10 : decode cX10_sheet 10 = .ok (.ldc2_w 138, 3) := by decide +kernel
theorem dX10_sheet_13 : decode cX10_sheet 13 = .ok (.invokestatic 131, 3) := by decide +kernel
theorem dX10_sheet_16 : decode cX10_sheet 16 = .ok (.ifCond .eq 10, 3) := by decide +kernel
theorem dX10_sheet_19 : decode cX10_sheet 19 = .ok (.iload_n 3, 1) := by decide +kernel
theorem dX10_sheet_20 : decode cX10_sheet 20 = .ok (.sipush 200, 3) := by decide +kernel
theorem dX10_sheet_23 : decode cX10_sheet 23 = .ok (.if_icmp .le 6, 3) := by decide +kernel
theorem dX10_sheet_26 : decode cX10_sheet 26 = .ok (.bipush (-2), 2) := by decide +kernel
theorem dX10_sheet_28 : decode cX10_sheet 28 = .ok (.ireturn, 1) := by decide +kernel
theorem dX10_sheet_29 : decode cX10_sheet 29 = .ok (.iload_n 3, 1) := by decide +kernel
theorem dX10_sheet_30 : decode cX10_sheet 30 = .ok (.ifCond .ge 9, 3) := by decide +kernel
theorem dX10_sheet_33 : decode cX10_sheet 33 = .ok (.aload_n 0, 1) := by decide +kernel
theorem dX10_sheet_34 : decode cX10_sheet 34 = .ok (.iconst 5, 1) := by decide +kernel
theorem dX10_sheet_35 : decode cX10_sheet 35 = .ok (.invokevirtual 265, 3) := by decide +kernel
theorem dX10_sheet_38 : decode cX10_sheet 38 = .ok (.ireturn, 1) := by decide +kernel
theorem dX10_sheet_39 : decode cX10_sheet 39 = .ok (.aload_n 0, 1) := by decide +kernel
theorem dX10_sheet_40 : decode cX10_sheet 40 = .ok (.getfield 116, 3) := by decide +kernel
theorem dX10_sheet_43 : decode cX10_sheet 43 = .ok (.iload_n 1, 1) := by decide +kernel
theorem dX10_sheet_44 : decode cX10_sheet 44 = .ok (.iload_n 2, 1) := by decide +kernel
theorem dX10_sheet_45 : decode cX10_sheet 45 = .ok (.iastore, 1) := by decide +kernel
theorem dX10_sheet_46 : decode cX10_sheet 46 = .ok (.aload_n 0, 1) := by decide +kernel
theorem dX10_sheet_47 : decode cX10_sheet 47 = .ok (.getfield 119, 3) := by decide +kernel
theorem dX10_sheet_50 : decode cX10_sheet 50 = .ok (.iload_n 1, 1) := by decide +kernel
theorem dX10_sheet_51 : decode cX10_sheet 51 = .ok (.iload_n 3, 1) := by decide +kernel
theorem dX10_sheet_52 : decode cX10_sheet 52 = .ok (.iastore, 1) := by decide +kernel
theorem dX10_sheet_53 : decode cX10_sheet 53 = .ok (.iconst 0, 1) := by decide +kernel
theorem dX10_sheet_54 : decode cX10_sheet 54 = .ok (.istore 4, 2) := by decide +kernel
theorem dX10_sheet_56 : decode cX10_sheet 56 = .ok (.iload 4, 2) := by decide +kernel
theorem dX10_sheet_58 : decode cX10_sheet 58 = .ok (.iload_n 3, 1) := by decide +kernel
theorem dX10_sheet_59 : decode cX10_sheet 59 = .ok (.if_icmp .ge 23, 3) := by decide +kernel
theorem dX10_sheet_62 : decode cX10_sheet 62 = .ok (.aload_n 0, 1) := by decide +kernel
theorem dX10_sheet_63 : decode cX10_sheet 63 = .ok (.getfield 122, 3) := by decide +kernel
theorem dX10_sheet_66 : decode cX10_sheet 66 = .ok (.sipush 200, 3) := by decide +kernel
theorem dX10_sheet_69 : decode cX10_sheet 69 = .ok (.iload_n 1, 1) := by decide +kernel
theorem dX10_sheet_70 : decode cX10_sheet 70 = .ok (.imul, 1) := by decide +kernel
theorem dX10_sheet_71 : decode cX10_sheet 71 = .ok (.iload 4, 2) := by decide +kernel
theorem dX10_sheet_73 : decode cX10_sheet 73 = .ok (.iadd, 1) := by decide +kernel
theorem dX10_sheet_74 : decode cX10_sheet 74 = .ok (.iconst 0, 1) := by decide +kernel
theorem dX10_sheet_75 : decode cX10_sheet 75 = .ok (.iastore, 1) := by decide +kernel
theorem dX10_sheet_76 : decode cX10_sheet 76 = .ok (.iinc 4 1, 3) := by decide +kernel
theorem dX10_sheet_79 : decode cX10_sheet 79 = .ok (.goto (-23), 3) := by decide +kernel
theorem dX10_sheet_82 : decode cX10_sheet 82 = .ok (.iload_n 3, 1) := by decide +kernel
theorem dX10_sheet_83 : decode cX10_sheet 83 = .ok (.ireturn, 1) := by decide +kernel
theorem dX10_lose_0 : decode cX10_lose 0 = .ok (.iload_n 1, 1) := by decide +kernel
theorem dX10_lose_1 : decode cX10_lose 1 = .ok (.invokestatic 262, 3) := by decide +kernel
theorem dX10_lose_4 : decode cX10_lose 4 = .ok (.ifCond .ne 6, 3) := by decide +kernel
theorem dX10_lose_7 : decode cX10_lose 7 = .ok (.bipush (-2), 2) := by decide +kernel
theorem dX10_lose_9 : decode cX10_lose 9 = .ok (.ireturn, 1) := by decide +kernel
theorem dX10_lose_10 : decode cX10_lose 10 = .ok (.aload_n 0, 1) := by decide +kernel
theorem dX10_lose_11 : decode cX10_lose 11 = .ok (.getfield 116, 3) := by decide +kernel
theorem dX10_lose_14 : decode cX10_lose 14 = .ok (.iload_n 1, 1) := by decide +kernel
theorem dX10_lose_15 : decode cX10_lose 15 = .ok (.iaload, 1) := by decide +kernel
theorem dX10_lose_16 : decode cX10_lose 16 = .ok (.ifCond .ge 9, 3) := by decide +kernel
theorem dX10_lose_19 : decode cX10_lose 19 = .ok (.aload_n 0, 1) := by decide +kernel
theorem dX10_lose_20 : decode cX10_lose 20 = .ok (.iconst 1, 1) := by decide +kernel
theorem dX10_lose_21 : decode cX10_lose 21 = .ok (.invokevirtual 265, 3) := by decide +kernel
theorem dX10_lose_24 : decode cX10_lose 24 = .ok (.ireturn, 1) := by decide +kernel
theorem dX10_lose_25 : decode cX10_lose 25 = .ok (.aload_n 0, 1) := by decide +kernel
theorem dX10_lose_26 : decode cX10_lose 26 = .ok (.getfield 116, 3) := by decide +kernel
theorem dX10_lose_29 : decode cX10_lose 29 = .ok (.iload_n 1, 1) := by decide +kernel
theorem dX10_lose_30 : decode cX10_lose 30 = .ok (.iconst (-1), 1) := by decide +kernel
theorem dX10_lose_31 : decode cX10_lose 31 = .ok (.iastore, 1) := by decide +kernel
theorem dX10_lose_32 : decode cX10_lose 32 = .ok (.aload_n 0, 1) := by decide +kernel
theorem dX10_lose_33 : decode cX10_lose 33 = .ok (.getfield 119, 3) := by decide +kernel
theorem dX10_lose_36 : decode cX10_lose 36 = .ok (.iload_n 1, 1) := by decide +kernel
theorem dX10_lose_37 : decode cX10_lose 37 = .ok (.iaload, 1) := by decide +kernel
theorem dX10_lose_38 : decode cX10_lose 38 = .ok (.ireturn, 1) := by decide +kernel
theorem dX10_lacks_0 : decode cX10_lacks 0 = .ok (.aload_n 0, 1) := by decide +kernel
theorem dX10_lacks_1 : decode cX10_lacks 1 = .ok (.getfield 116, 3) := by decide +kernel
theorem dX10_lacks_4 : decode cX10_lacks 4 = .ok (.iload_n 1, 1) := by decide +kernel
theorem dX10_lacks_5 : decode cX10_lacks 5 = .ok (.iaload, 1) := by decide +kernel
theorem dX10_lacks_6 : decode cX10_lacks 6 = .ok (.ifCond .ge 9, 3) := by decide +kernel
theorem dX10_lacks_9 : decode cX10_lacks 9 = .ok (.aload_n 0, 1) := by decide +kernel
theorem dX10_lacks_10 : decode cX10_lacks 10 = .ok (.iconst 1, 1) := by decide +kernel
theorem dX10_lacks_11 : decode cX10_lacks 11 = .ok (.invokevirtual 265, 3) := by decide +kernel
theorem dX10_lacks_14 : decode cX10_lacks 14 = .ok (.ireturn, 1) := by decide +kernel
theorem dX10_lacks_15 : decode cX10_lacks 15 = .ok (.aload_n 0, 1) := by decide +kernel
theorem dX10_lacks_16 : decode cX10_lacks 16 = .ok (.getfield 116, 3) := by decide +kernel
theorem dX10_lacks_19 : decode cX10_lacks 19 = .ok (.iload_n 1, 1) := by decide +kernel
theorem dX10_lacks_20 : decode cX10_lacks 20 = .ok (.iaload, 1) := by decide +kernel
theorem dX10_lacks_21 : decode cX10_lacks 21 = .ok (.iload_n 2, 1) := by decide +kernel
theorem dX10_lacks_22 : decode cX10_lacks 22 = .ok (.if_icmp .eq 9, 3) := by decide +kernel
theorem dX10_lacks_25 : decode cX10_lacks 25 = .ok (.aload_n 0, 1) := by decide +kernel
theorem dX10_lacks_26 : decode cX10_lacks 26 = .ok (.iconst 3, 1) := by decide +kernel
theorem dX10_lacks_27 : decode cX10_lacks 27 = .ok (.invokevirtual 265, 3) := by decide +kernel
theorem dX10_lacks_30 : decode cX10_lacks 30 = .ok (.ireturn, 1) := by decide +kernel
theorem dX10_lacks_31 : decode cX10_lacks 31 = .ok (.iload_n 3, 1) := by decide +kernel
theorem dX10_lacks_32 : decode cX10_lacks 32 = .ok (.i2l, 1) := by decide +kernel
theorem dX10_lacks_33 : decode cX10_lacks 33 = .ok (.lconst 0, 1) := by decide +kernel
theorem dX10_lacks_34 : decode cX10_lacks 34 = .ok (.aload_n 0, 1) := by decide +kernel
theorem dX10_lacks_35 : decode cX10_lacks 35 = .ok (.getfield 119, 3) := by decide +kernel
theorem dX10_lacks_38 : decode cX10_lacks 38 = .ok (.iload_n 1, 1) := by decide +kernel
theorem dX10_lacks_39 : decode cX10_lacks 39 = .ok (.iaload, 1) := by decide +kernel
theorem dX10_lacks_40 : decode cX10_lacks 40 = .ok (.iconst 1, 1) := by decide +kernel
theorem dX10_lacks_41 : decode cX10_lacks 41 = .ok (.isub, 1) := by decide +kernel
theorem dX10_lacks_42 : decode cX10_lacks 42 = .ok (.i2l, 1) := by decide +kernel
theorem dX10_lacks_43 : decode cX10_lacks 43 = .ok (.invokestatic 131, 3) := by decide +kernel
theorem dX10_lacks_46 : decode cX10_lacks 46 = .ok (.ifCond .eq 7, 3) := by decide +kernel
theorem dX10_lacks_49 : decode cX10_lacks 49 = .ok (.iconst 0, 1) := by decide +kernel
theorem dX10_lacks_50 : decode cX10_lacks 50 = .ok (.goto 8, 3) := by decide +kernel
theorem dX10_lacks_53 : decode cX10_lacks 53 = .ok (.aload_n 0, 1) := by decide +kernel
theorem dX10_lacks_54 : decode cX10_lacks 54 = .ok (.iconst 2, 1) := by decide +kernel
theorem dX10_lacks_55 : decode cX10_lacks 55 = .ok (.invokevirtual 265, 3) := by decide +kernel
theorem dX10_lacks_58 : decode cX10_lacks 58 = .ok (.ireturn, 1) := by decide +kernel
theorem dX10_put_0 : decode cX10_put 0 = .ok (.iload_n 1, 1) := by decide +kernel
theorem dX10_put_1 : decode cX10_put 1 = .ok (.invokestatic 262, 3) := by decide +kernel
theorem dX10_put_4 : decode cX10_put 4 = .ok (.ifCond .eq 15, 3) := by decide +kernel
theorem dX10_put_7 : decode cX10_put 7 = .ok (.iload_n 2, 1) := by decide +kernel
theorem dX10_put_8 : decode cX10_put 8 = .ok (.i2l, 1) := by decide +kernel
theorem dX10_put_9 : decode cX10_put 9 = .ok (.lconst 0, 1) := by decide +kernel
theorem dX10_put_10 : decode cX10_put 10 = .ok (.ldc2_w 138, 3) := by decide +kernel
theorem dX10_put_13 : decode cX10_put 13 = .ok (.invokestatic 131, 3) := by decide +kernel
theorem dX10_put_16 : decode cX10_put 16 = .ok (.ifCond .ne 6, 3) := by decide +kernel
theorem dX10_put_19 : decode cX10_put 19 = .ok (.bipush (-2), 2) := by decide +kernel
theorem dX10_put_21 : decode cX10_put 21 = .ok (.ireturn, 1) := by decide +kernel
theorem dX10_put_22 : decode cX10_put 22 = .ok (.aload_n 0, 1) := by decide +kernel
theorem dX10_put_23 : decode cX10_put 23 = .ok (.iload_n 1, 1) := by decide +kernel
theorem dX10_put_24 : decode cX10_put 24 = .ok (.iload_n 2, 1) := by decide +kernel
theorem dX10_put_25 : decode cX10_put 25 = .ok (.iload_n 3, 1) := by decide +kernel
theorem dX10_put_26 : decode cX10_put 26 = .ok (.invokevirtual 269, 3) := by decide +kernel
theorem dX10_put_29 : decode cX10_put 29 = .ok (.istore 5, 2) := by decide +kernel
theorem dX10_put_31 : decode cX10_put 31 = .ok (.iload 5, 2) := by decide +kernel
theorem dX10_put_33 : decode cX10_put 33 = .ok (.ifCond .eq 6, 3) := by decide +kernel
theorem dX10_put_36 : decode cX10_put 36 = .ok (.iload 5, 2) := by decide +kernel
theorem dX10_put_38 : decode cX10_put 38 = .ok (.ireturn, 1) := by decide +kernel
theorem dX10_put_39 : decode cX10_put 39 = .ok (.aload_n 0, 1) := by decide +kernel
theorem dX10_put_40 : decode cX10_put 40 = .ok (.getfield 122, 3) := by decide +kernel
theorem dX10_put_43 : decode cX10_put 43 = .ok (.sipush 200, 3) := by decide +kernel
theorem dX10_put_46 : decode cX10_put 46 = .ok (.iload_n 1, 1) := by decide +kernel
theorem dX10_put_47 : decode cX10_put 47 = .ok (.imul, 1) := by decide +kernel
theorem dX10_put_48 : decode cX10_put 48 = .ok (.iload_n 3, 1) := by decide +kernel
theorem dX10_put_49 : decode cX10_put 49 = .ok (.iadd, 1) := by decide +kernel
theorem dX10_put_50 : decode cX10_put 50 = .ok (.iload_n 2, 1) := by decide +kernel
theorem dX10_put_51 : decode cX10_put 51 = .ok (.ifCond .ne 9, 3) := by decide +kernel
theorem dX10_put_54 : decode cX10_put 54 = .ok (.iload 4, 2) := by decide +kernel
theorem dX10_put_56 : decode cX10_put 56 = .ok (.i2b, 1) := by decide +kernel
theorem dX10_put_57 : decode cX10_put 57 = .ok (.goto 16, 3) := by decide +kernel
theorem dX10_put_60 : decode cX10_put 60 = .ok (.iload_n 2, 1) := by decide +kernel
theorem dX10_put_61 : decode cX10_put 61 = .ok (.iconst 1, 1) := by decide +kernel
theorem dX10_put_62 : decode cX10_put 62 = .ok (.if_icmp .ne 9, 3) := by decide +kernel
theorem dX10_put_65 : decode cX10_put 65 = .ok (.iload 4, 2) := by decide +kernel
theorem dX10_put_67 : decode cX10_put 67 = .ok (.i2s, 1) := by decide +kernel
theorem dX10_put_68 : decode cX10_put 68 = .ok (.goto 5, 3) := by decide +kernel
theorem dX10_put_71 : decode cX10_put 71 = .ok (.iload 4, 2) := by decide +kernel
theorem dX10_put_73 : decode cX10_put 73 = .ok (.iastore, 1) := by decide +kernel
theorem dX10_put_74 : decode cX10_put 74 = .ok (.iconst 1, 1) := by decide +kernel
theorem dX10_put_75 : decode cX10_put 75 = .ok (.ireturn, 1) := by decide +kernel
theorem dX10_get_0 : decode cX10_get 0 = .ok (.iload_n 1, 1) := by decide +kernel
theorem dX10_get_1 : decode cX10_get 1 = .ok (.invokestatic 262, 3) := by decide +kernel
theorem dX10_get_4 : decode cX10_get 4 = .ok (.ifCond .eq 25, 3) := by decide +kernel
theorem dX10_get_7 : decode cX10_get 7 = .ok (.iload_n 2, 1) := by decide +kernel
theorem dX10_get_8 : decode cX10_get 8 = .ok (.i2l, 1) := by decide +kernel
theorem dX10_get_9 : decode cX10_get 9 = .ok (.lconst 0, 1) := by decide +kernel
theorem dX10_get_10 : decode cX10_get 10 = .ok (.ldc2_w 138, 3) := by decide +kernel
theorem dX10_get_13 : decode cX10_get 13 = .ok (.invokestatic 131, 3) := by decide +kernel
theorem dX10_get_16 : decode cX10_get 16 = .ok (.ifCond .eq 13, 3) := by decide +kernel
theorem dX10_get_19 : decode cX10_get 19 = .ok (.aload_n 0, 1) := by decide +kernel
theorem dX10_get_20 : decode cX10_get 20 = .ok (.iload_n 1, 1) := by decide +kernel
theorem dX10_get_21 : decode cX10_get 21 = .ok (.iload_n 2, 1) := by decide +kernel
theorem dX10_get_22 : decode cX10_get 22 = .ok (.iload_n 3, 1) := by decide +kernel
theorem dX10_get_23 : decode cX10_get 23 = .ok (.invokevirtual 269, 3) := by decide +kernel
theorem dX10_get_26 : decode cX10_get 26 = .ok (.ifCond .eq 7, 3) := by decide +kernel
theorem dX10_get_29 : decode cX10_get 29 = .ok (.ldc_w 273, 3) := by decide +kernel
theorem dX10_get_32 : decode cX10_get 32 = .ok (.ireturn, 1) := by decide +kernel
theorem dX10_get_33 : decode cX10_get 33 = .ok (.aload_n 0, 1) := by decide +kernel
theorem dX10_get_34 : decode cX10_get 34 = .ok (.getfield 122, 3) := by decide +kernel
theorem dX10_get_37 : decode cX10_get 37 = .ok (.sipush 200, 3) := by decide +kernel
theorem dX10_get_40 : decode cX10_get 40 = .ok (.iload_n 1, 1) := by decide +kernel
theorem dX10_get_41 : decode cX10_get 41 = .ok (.imul, 1) := by decide +kernel
theorem dX10_get_42 : decode cX10_get 42 = .ok (.iload_n 3, 1) := by decide +kernel
theorem dX10_get_43 : decode cX10_get 43 = .ok (.iadd, 1) := by decide +kernel
theorem dX10_get_44 : decode cX10_get 44 = .ok (.iaload, 1) := by decide +kernel
theorem dX10_get_45 : decode cX10_get 45 = .ok (.ireturn, 1) := by decide +kernel
theorem dX10_copy_0 : decode cX10_copy 0 = .ok (.iload_n 1, 1) := by decide +kernel
theorem dX10_copy_1 : decode cX10_copy 1 = .ok (.invokestatic 262, 3) := by decide +kernel
theorem dX10_copy_4 : decode cX10_copy 4 = .ok (.ifCond .eq 10, 3) := by decide +kernel
theorem dX10_copy_7 : decode cX10_copy 7 = .ok (.iload_n 3, 1) := by decide +kernel
theorem dX10_copy_8 : decode cX10_copy 8 = .ok (.invokestatic 262, 3) := by decide +kernel
theorem dX10_copy_11 : decode cX10_copy 11 = .ok (.ifCond .ne 6, 3) := by decide +kernel
theorem dX10_copy_14 : decode cX10_copy 14 = .ok (.bipush (-2), 2) := by decide +kernel
theorem dX10_copy_16 : decode cX10_copy 16 = .ok (.ireturn, 1) := by decide +kernel
theorem dX10_copy_17 : decode cX10_copy 17 = .ok (.aload_n 0, 1) := by decide +kernel
theorem dX10_copy_18 : decode cX10_copy 18 = .ok (.getfield 116, 3) := by decide +kernel
theorem dX10_copy_21 : decode cX10_copy 21 = .ok (.iload_n 1, 1) := by decide +kernel
theorem dX10_copy_22 : decode cX10_copy 22 = .ok (.iaload, 1) := by decide +kernel
theorem dX10_copy_23 : decode cX10_copy 23 = .ok (.ifCond .lt 12, 3) := by decide +kernel
theorem dX10_copy_26 : decode cX10_copy 26 = .ok (.aload_n 0, 1) := by decide +kernel
theorem dX10_copy_27 : decode cX10_copy 27 = .ok (.getfield 116, 3) := by decide +kernel
theorem dX10_copy_30 : decode cX10_copy 30 = .ok (.iload_n 3, 1) := by decide +kernel
theorem dX10_copy_31 : decode cX10_copy 31 = .ok (.iaload, 1) := by decide +kernel
theorem dX10_copy_32 : decode cX10_copy 32 = .ok (.ifCond .ge 9, 3) := by decide +kernel
theorem dX10_copy_35 : decode cX10_copy 35 = .ok (.aload_n 0, 1) := by decide +kernel
theorem dX10_copy_36 : decode cX10_copy 36 = .ok (.iconst 1, 1) := by decide +kernel
theorem dX10_copy_37 : decode cX10_copy 37 = .ok (.invokevirtual 265, 3) := by decide +kernel
theorem dX10_copy_40 : decode cX10_copy 40 = .ok (.ireturn, 1) := by decide +kernel
theorem dX10_copy_41 : decode cX10_copy 41 = .ok (.aload_n 0, 1) := by decide +kernel
theorem dX10_copy_42 : decode cX10_copy 42 = .ok (.getfield 116, 3) := by decide +kernel
theorem dX10_copy_45 : decode cX10_copy 45 = .ok (.iload_n 1, 1) := by decide +kernel
theorem dX10_copy_46 : decode cX10_copy 46 = .ok (.iaload, 1) := by decide +kernel
theorem dX10_copy_47 : decode cX10_copy 47 = .ok (.aload_n 0, 1) := by decide +kernel
theorem dX10_copy_48 : decode cX10_copy 48 = .ok (.getfield 116, 3) := by decide +kernel
theorem dX10_copy_51 : decode cX10_copy 51 = .ok (.iload_n 3, 1) := by decide +kernel
theorem dX10_copy_52 : decode cX10_copy 52 = .ok (.iaload, 1) := by decide +kernel
theorem dX10_copy_53 : decode cX10_copy 53 = .ok (.if_icmp .eq 9, 3) := by decide +kernel
theorem dX10_copy_56 : decode cX10_copy 56 = .ok (.aload_n 0, 1) := by decide +kernel
theorem dX10_copy_57 : decode cX10_copy 57 = .ok (.iconst 4, 1) := by decide +kernel
theorem dX10_copy_58 : decode cX10_copy 58 = .ok (.invokevirtual 265, 3) := by decide +kernel
theorem dX10_copy_61 : decode cX10_copy 61 = .ok (.ireturn, 1) := by decide +kernel
theorem dX10_copy_62 : decode cX10_copy 62 = .ok (.iload_n 2, 1) := by decide +kernel
theorem dX10_copy_63 : decode cX10_copy 63 = .ok (.ifCond .lt 48, 3) := by decide +kernel
theorem dX10_copy_66 : decode cX10_copy 66 = .ok (.iload 4, 2) := by decide +kernel
end
section
theorem dX10_copy_68 : decode cX10_copy 68 = .ok (.ifCond .lt 43, 3) := by decide +kernel
theorem dX10_copy_71 : decode cX10_copy 71 = .ok (.iload 5, 2) := by decide +kernel
theorem dX10_copy_73 : decode cX10_copy 73 = .ok (.ifCond .lt 38, 3) := by decide +kernel
theorem dX10_copy_76 : decode cX10_copy 76 = .ok (.iload_n 2, 1) := by decide +kernel
theorem dX10_copy_77 : decode cX10_copy 77 = .ok (.i2l, 1) := by decide +kernel
theorem dX10_copy_78 : decode cX10_copy 78 = .ok (.iload 5, 2) := by decide +kernel
theorem dX10_copy_80 : decode cX10_copy 80 = .ok (.i2l, 1) := by decide +kernel
theorem dX10_copy_81 : decode cX10_copy 81 = .ok (.ladd, 1) := by decide +kernel
theorem dX10_copy_82 : decode cX10_copy 82 = .ok (.aload_n 0, 1) := by decide +kernel
theorem dX10_copy_83 : decode cX10_copy 83 = .ok (.getfield 119, 3) := by decide +kernel
theorem dX10_copy_86 : decode cX10_copy 86 = .ok (.iload_n 1, 1) := by decide +kernel
theorem dX10_copy_87 : decode cX10_copy 87 = .ok (.iaload, 1) := by decide +kernel
theorem dX10_copy_88 : decode cX10_copy 88 = .ok (.i2l, 1) := by decide +kernel
theorem dX10_copy_89 : decode cX10_copy 89 = .ok (.lcmp, 1) := by decide +kernel
theorem dX10_copy_90 : decode cX10_copy 90 = .ok (.ifCond .gt 21, 3) := by decide +kernel
theorem dX10_copy_93 : decode cX10_copy 93 = .ok (.iload 4, 2) := by decide +kernel
theorem dX10_copy_95 : decode cX10_copy 95 = .ok (.i2l, 1) := by decide +kernel
theorem dX10_copy_96 : decode cX10_copy 96 = .ok (.iload 5, 2) := by decide +kernel
theorem dX10_copy_98 : decode cX10_copy 98 = .ok (.i2l, 1) := by decide +kernel
theorem dX10_copy_99 : decode cX10_copy 99 = .ok (.ladd, 1) := by decide +kernel
theorem dX10_copy_100 : decode cX10_copy 100 = .ok (.aload_n 0, 1) := by decide +kernel
theorem dX10_copy_101 : decode cX10_copy 101 = .ok (.getfield 119, 3) := by decide +kernel
theorem dX10_copy_104 : decode cX10_copy 104 = .ok (.iload_n 3, 1) := by decide +kernel
theorem dX10_copy_105 : decode cX10_copy 105 = .ok (.iaload, 1) := by decide +kernel
theorem dX10_copy_106 : decode cX10_copy 106 = .ok (.i2l, 1) := by decide +kernel
theorem dX10_copy_107 : decode cX10_copy 107 = .ok (.lcmp, 1) := by decide +kernel
theorem dX10_copy_108 : decode cX10_copy 108 = .ok (.ifCond .le 9, 3) := by decide +kernel
theorem dX10_copy_111 : decode cX10_copy 111 = .ok (.aload_n 0, 1) := by decide +kernel
theorem dX10_copy_112 : decode cX10_copy 112 = .ok (.iconst 2, 1) := by decide +kernel
theorem dX10_copy_113 : decode cX10_copy 113 = .ok (.invokevirtual 265, 3) := by decide +kernel
theorem dX10_copy_116 : decode cX10_copy 116 = .ok (.ireturn, 1) := by decide +kernel
theorem dX10_copy_117 : decode cX10_copy 117 = .ok (.iconst 0, 1) := by decide +kernel
theorem dX10_copy_118 : decode cX10_copy 118 = .ok (.istore 6, 2) := by decide +kernel
theorem dX10_copy_120 : decode cX10_copy 120 = .ok (.iload 6, 2) := by decide +kernel
theorem dX10_copy_122 : decode cX10_copy 122 = .ok (.iload 5, 2) := by decide +kernel
theorem dX10_copy_124 : decode cX10_copy 124 = .ok (.if_icmp .ge 31, 3) := by decide +kernel
theorem dX10_copy_127 : decode cX10_copy 127 = .ok (.aload_n 0, 1) := by decide +kernel
theorem dX10_copy_128 : decode cX10_copy 128 = .ok (.getfield 125, 3) := by decide +kernel
theorem dX10_copy_131 : decode cX10_copy 131 = .ok (.iload 6, 2) := by decide +kernel
theorem dX10_copy_133 : decode cX10_copy 133 = .ok (.aload_n 0, 1) := by decide +kernel
theorem dX10_copy_134 : decode cX10_copy 134 = .ok (.getfield 122, 3) := by decide +kernel
theorem dX10_copy_137 : decode cX10_copy 137 = .ok (.sipush 200, 3) := by decide +kernel
theorem dX10_copy_140 : decode cX10_copy 140 = .ok (.iload_n 1, 1) := by decide +kernel
theorem dX10_copy_141 : decode cX10_copy 141 = .ok (.imul, 1) := by decide +kernel
theorem dX10_copy_142 : decode cX10_copy 142 = .ok (.iload_n 2, 1) := by decide +kernel
theorem dX10_copy_143 : decode cX10_copy 143 = .ok (.iadd, 1) := by decide +kernel
theorem dX10_copy_144 : decode cX10_copy 144 = .ok (.iload 6, 2) := by decide +kernel
theorem dX10_copy_146 : decode cX10_copy 146 = .ok (.iadd, 1) := by decide +kernel
theorem dX10_copy_147 : decode cX10_copy 147 = .ok (.iaload, 1) := by decide +kernel
theorem dX10_copy_148 : decode cX10_copy 148 = .ok (.iastore, 1) := by decide +kernel
theorem dX10_copy_149 : decode cX10_copy 149 = .ok (.iinc 6 1, 3) := by decide +kernel
theorem dX10_copy_152 : decode cX10_copy 152 = .ok (.goto (-32), 3) := by decide +kernel
theorem dX10_copy_155 : decode cX10_copy 155 = .ok (.iconst 0, 1) := by decide +kernel
theorem dX10_copy_156 : decode cX10_copy 156 = .ok (.istore 6, 2) := by decide +kernel
theorem dX10_copy_158 : decode cX10_copy 158 = .ok (.iload 6, 2) := by decide +kernel
theorem dX10_copy_160 : decode cX10_copy 160 = .ok (.iload 5, 2) := by decide +kernel
theorem dX10_copy_162 : decode cX10_copy 162 = .ok (.if_icmp .ge 32, 3) := by decide +kernel
theorem dX10_copy_165 : decode cX10_copy 165 = .ok (.aload_n 0, 1) := by decide +kernel
theorem dX10_copy_166 : decode cX10_copy 166 = .ok (.getfield 122, 3) := by decide +kernel
theorem dX10_copy_169 : decode cX10_copy 169 = .ok (.sipush 200, 3) := by decide +kernel
theorem dX10_copy_172 : decode cX10_copy 172 = .ok (.iload_n 3, 1) := by decide +kernel
theorem dX10_copy_173 : decode cX10_copy 173 = .ok (.imul, 1) := by decide +kernel
theorem dX10_copy_174 : decode cX10_copy 174 = .ok (.iload 4, 2) := by decide +kernel
theorem dX10_copy_176 : decode cX10_copy 176 = .ok (.iadd, 1) := by decide +kernel
theorem dX10_copy_177 : decode cX10_copy 177 = .ok (.iload 6, 2) := by decide +kernel
theorem dX10_copy_179 : decode cX10_copy 179 = .ok (.iadd, 1) := by decide +kernel
theorem dX10_copy_180 : decode cX10_copy 180 = .ok (.aload_n 0, 1) := by decide +kernel
theorem dX10_copy_181 : decode cX10_copy 181 = .ok (.getfield 125, 3) := by decide +kernel
theorem dX10_copy_184 : decode cX10_copy 184 = .ok (.iload 6, 2) := by decide +kernel
theorem dX10_copy_186 : decode cX10_copy 186 = .ok (.iaload, 1) := by decide +kernel
theorem dX10_copy_187 : decode cX10_copy 187 = .ok (.iastore, 1) := by decide +kernel
theorem dX10_copy_188 : decode cX10_copy 188 = .ok (.iinc 6 1, 3) := by decide +kernel
theorem dX10_copy_191 : decode cX10_copy 191 = .ok (.goto (-33), 3) := by decide +kernel
theorem dX10_copy_194 : decode cX10_copy 194 = .ok (.iconst 1, 1) := by decide +kernel
theorem dX10_copy_195 : decode cX10_copy 195 = .ok (.ireturn, 1) := by decide +kernel
theorem dX10_waiting_0 : decode cX10_waiting 0 = .ok (.aload_n 0, 1) := by decide +kernel
theorem dX10_waiting_1 : decode cX10_waiting 1 = .ok (.invokevirtual 243, 3) := by decide +kernel
theorem dX10_waiting_4 : decode cX10_waiting 4 = .ok (.iconst 0, 1) := by decide +kernel
theorem dX10_waiting_5 : decode cX10_waiting 5 = .ok (.istore_n 1, 1) := by decide +kernel
theorem dX10_waiting_6 : decode cX10_waiting 6 = .ok (.iconst 0, 1) := by decide +kernel
theorem dX10_waiting_7 : decode cX10_waiting 7 = .ok (.istore_n 2, 1) := by decide +kernel
theorem dX10_waiting_8 : decode cX10_waiting 8 = .ok (.iload_n 2, 1) := by decide +kernel
theorem dX10_waiting_9 : decode cX10_waiting 9 = .ok (.aload_n 0, 1) := by decide +kernel
theorem dX10_waiting_10 : decode cX10_waiting 10 = .ok (.getfield 206, 3) := by decide +kernel
theorem dX10_waiting_13 : decode cX10_waiting 13 = .ok (.if_icmp .ge 25, 3) := by decide +kernel
theorem dX10_waiting_16 : decode cX10_waiting 16 = .ok (.iload_n 1, 1) := by decide +kernel
theorem dX10_waiting_17 : decode cX10_waiting 17 = .ok (.aload_n 0, 1) := by decide +kernel
theorem dX10_waiting_18 : decode cX10_waiting 18 = .ok (.iload_n 2, 1) := by decide +kernel
theorem dX10_waiting_19 : decode cX10_waiting 19 = .ok (.invokevirtual 240, 3) := by decide +kernel
theorem dX10_waiting_22 : decode cX10_waiting 22 = .ok (.ifCond .eq 7, 3) := by decide +kernel
theorem dX10_waiting_25 : decode cX10_waiting 25 = .ok (.iconst 1, 1) := by decide +kernel
theorem dX10_waiting_26 : decode cX10_waiting 26 = .ok (.goto 4, 3) := by decide +kernel
theorem dX10_waiting_29 : decode cX10_waiting 29 = .ok (.iconst 0, 1) := by decide +kernel
theorem dX10_waiting_30 : decode cX10_waiting 30 = .ok (.iadd, 1) := by decide +kernel
theorem dX10_waiting_31 : decode cX10_waiting 31 = .ok (.istore_n 1, 1) := by decide +kernel
theorem dX10_waiting_32 : decode cX10_waiting 32 = .ok (.iinc 2 1, 3) := by decide +kernel
theorem dX10_waiting_35 : decode cX10_waiting 35 = .ok (.goto (-27), 3) := by decide +kernel
theorem dX10_waiting_38 : decode cX10_waiting 38 = .ok (.iload_n 1, 1) := by decide +kernel
theorem dX10_waiting_39 : decode cX10_waiting 39 = .ok (.ireturn, 1) := by decide +kernel
theorem dX10_count_0 : decode cX10_count 0 = .ok (.iload_n 1, 1) := by decide +kernel
theorem dX10_count_1 : decode cX10_count 1 = .ok (.tableswitch 87 0 7 #[47, 52, 57, 62, 67, 72, 77, 82], 47) := by decide +kernel
theorem dX10_count_48 : decode cX10_count 48 = .ok (.aload_n 0, 1) := by decide +kernel
theorem dX10_count_49 : decode cX10_count 49 = .ok (.getfield 128, 3) := by decide +kernel
theorem dX10_count_52 : decode cX10_count 52 = .ok (.ireturn, 1) := by decide +kernel
theorem dX10_count_53 : decode cX10_count 53 = .ok (.aload_n 0, 1) := by decide +kernel
theorem dX10_count_54 : decode cX10_count 54 = .ok (.getfield 135, 3) := by decide +kernel
theorem dX10_count_57 : decode cX10_count 57 = .ok (.ireturn, 1) := by decide +kernel
theorem dX10_count_58 : decode cX10_count 58 = .ok (.aload_n 0, 1) := by decide +kernel
theorem dX10_count_59 : decode cX10_count 59 = .ok (.getfield 159, 3) := by decide +kernel
theorem dX10_count_62 : decode cX10_count 62 = .ok (.ireturn, 1) := by decide +kernel
theorem dX10_count_63 : decode cX10_count 63 = .ok (.aload_n 0, 1) := by decide +kernel
theorem dX10_count_64 : decode cX10_count 64 = .ok (.getfield 206, 3) := by decide +kernel
theorem dX10_count_67 : decode cX10_count 67 = .ok (.ireturn, 1) := by decide +kernel
theorem dX10_count_68 : decode cX10_count 68 = .ok (.aload_n 0, 1) := by decide +kernel
theorem dX10_count_69 : decode cX10_count 69 = .ok (.getfield 227, 3) := by decide +kernel
theorem dX10_count_72 : decode cX10_count 72 = .ok (.ireturn, 1) := by decide +kernel
theorem dX10_count_73 : decode cX10_count 73 = .ok (.aload_n 0, 1) := by decide +kernel
theorem dX10_count_74 : decode cX10_count 74 = .ok (.getfield 249, 3) := by decide +kernel
theorem dX10_count_77 : decode cX10_count 77 = .ok (.ireturn, 1) := by decide +kernel
theorem dX10_count_78 : decode cX10_count 78 = .ok (.aload_n 0, 1) := by decide +kernel
theorem dX10_count_79 : decode cX10_count 79 = .ok (.getfield 259, 3) := by decide +kernel
theorem dX10_count_82 : decode cX10_count 82 = .ok (.ireturn, 1) := by decide +kernel
theorem dX10_count_83 : decode cX10_count 83 = .ok (.aload_n 0, 1) := by decide +kernel
theorem dX10_count_84 : decode cX10_count 84 = .ok (.invokevirtual 274, 3) := by decide +kernel
theorem dX10_count_87 : decode cX10_count 87 = .ok (.ireturn, 1) := by decide +kernel
theorem dX10_count_88 : decode cX10_count 88 = .ok (.bipush (-2), 2) := by decide +kernel
theorem dX10_count_90 : decode cX10_count 90 = .ok (.ireturn, 1) := by decide +kernel
theorem dX10_digest_0 : decode cX10_digest 0 = .ok (.ldc2_w 277, 3) := by decide +kernel
theorem dX10_digest_3 : decode cX10_digest 3 = .ok (.lstore_n 1, 1) := by decide +kernel
theorem dX10_digest_4 : decode cX10_digest 4 = .ok (.iconst 0, 1) := by decide +kernel
theorem dX10_digest_5 : decode cX10_digest 5 = .ok (.istore_n 3, 1) := by decide +kernel
theorem dX10_digest_6 : decode cX10_digest 6 = .ok (.iload_n 3, 1) := by decide +kernel
theorem dX10_digest_7 : decode cX10_digest 7 = .ok (.bipush 8, 2) := by decide +kernel
theorem dX10_digest_9 : decode cX10_digest 9 = .ok (.if_icmp .ge 32, 3) := by decide +kernel
theorem dX10_digest_12 : decode cX10_digest 12 = .ok (.iload_n 3, 1) := by decide +kernel
theorem dX10_digest_13 : decode cX10_digest 13 = .ok (.bipush 6, 2) := by decide +kernel
theorem dX10_digest_15 : decode cX10_digest 15 = .ok (.if_icmp .ne 7, 3) := by decide +kernel
theorem dX10_digest_18 : decode cX10_digest 18 = .ok (.lload_n 1, 1) := by decide +kernel
theorem dX10_digest_19 : decode cX10_digest 19 = .ok (.goto 15, 3) := by decide +kernel
theorem dX10_digest_22 : decode cX10_digest 22 = .ok (.ldc2_w 279, 3) := by decide +kernel
theorem dX10_digest_25 : decode cX10_digest 25 = .ok (.lload_n 1, 1) := by decide +kernel
theorem dX10_digest_26 : decode cX10_digest 26 = .ok (.lmul, 1) := by decide +kernel
theorem dX10_digest_27 : decode cX10_digest 27 = .ok (.aload_n 0, 1) := by decide +kernel
theorem dX10_digest_28 : decode cX10_digest 28 = .ok (.iload_n 3, 1) := by decide +kernel
theorem dX10_digest_29 : decode cX10_digest 29 = .ok (.invokevirtual 281, 3) := by decide +kernel
theorem dX10_digest_32 : decode cX10_digest 32 = .ok (.i2l, 1) := by decide +kernel
theorem dX10_digest_33 : decode cX10_digest 33 = .ok (.ladd, 1) := by decide +kernel
theorem dX10_digest_34 : decode cX10_digest 34 = .ok (.lstore_n 1, 1) := by decide +kernel
theorem dX10_digest_35 : decode cX10_digest 35 = .ok (.iinc 3 1, 3) := by decide +kernel
theorem dX10_digest_38 : decode cX10_digest 38 = .ok (.goto (-32), 3) := by decide +kernel
theorem dX10_digest_41 : decode cX10_digest 41 = .ok (.iconst 0, 1) := by decide +kernel
theorem dX10_digest_42 : decode cX10_digest 42 = .ok (.istore_n 3, 1) := by decide +kernel
theorem dX10_digest_43 : decode cX10_digest 43 = .ok (.iload_n 3, 1) := by decide +kernel
theorem dX10_digest_44 : decode cX10_digest 44 = .ok (.aload_n 0, 1) := by decide +kernel
theorem dX10_digest_45 : decode cX10_digest 45 = .ok (.getfield 135, 3) := by decide +kernel
theorem dX10_digest_48 : decode cX10_digest 48 = .ok (.if_icmp .ge 39, 3) := by decide +kernel
theorem dX10_digest_51 : decode cX10_digest 51 = .ok (.iconst 2, 1) := by decide +kernel
theorem dX10_digest_52 : decode cX10_digest 52 = .ok (.istore 4, 2) := by decide +kernel
theorem dX10_digest_54 : decode cX10_digest 54 = .ok (.iload 4, 2) := by decide +kernel
theorem dX10_digest_56 : decode cX10_digest 56 = .ok (.iconst 5, 1) := by decide +kernel
theorem dX10_digest_57 : decode cX10_digest 57 = .ok (.if_icmp .ge 24, 3) := by decide +kernel
theorem dX10_digest_60 : decode cX10_digest 60 = .ok (.ldc2_w 279, 3) := by decide +kernel
theorem dX10_digest_63 : decode cX10_digest 63 = .ok (.lload_n 1, 1) := by decide +kernel
theorem dX10_digest_64 : decode cX10_digest 64 = .ok (.lmul, 1) := by decide +kernel
theorem dX10_digest_65 : decode cX10_digest 65 = .ok (.aload_n 0, 1) := by decide +kernel
theorem dX10_digest_66 : decode cX10_digest 66 = .ok (.iload_n 3, 1) := by decide +kernel
theorem dX10_digest_67 : decode cX10_digest 67 = .ok (.iload 4, 2) := by decide +kernel
theorem dX10_digest_69 : decode cX10_digest 69 = .ok (.invokevirtual 284, 3) := by decide +kernel
theorem dX10_digest_72 : decode cX10_digest 72 = .ok (.i2l, 1) := by decide +kernel
theorem dX10_digest_73 : decode cX10_digest 73 = .ok (.ladd, 1) := by decide +kernel
theorem dX10_digest_74 : decode cX10_digest 74 = .ok (.lstore_n 1, 1) := by decide +kernel
theorem dX10_digest_75 : decode cX10_digest 75 = .ok (.iinc 4 1, 3) := by decide +kernel
theorem dX10_digest_78 : decode cX10_digest 78 = .ok (.goto (-24), 3) := by decide +kernel
theorem dX10_digest_81 : decode cX10_digest 81 = .ok (.iinc 3 1, 3) := by decide +kernel
theorem dX10_digest_84 : decode cX10_digest 84 = .ok (.goto (-41), 3) := by decide +kernel
theorem dX10_digest_87 : decode cX10_digest 87 = .ok (.iconst 0, 1) := by decide +kernel
theorem dX10_digest_88 : decode cX10_digest 88 = .ok (.istore_n 3, 1) := by decide +kernel
theorem dX10_digest_89 : decode cX10_digest 89 = .ok (.iload_n 3, 1) := by decide +kernel
theorem dX10_digest_90 : decode cX10_digest 90 = .ok (.aload_n 0, 1) := by decide +kernel
theorem dX10_digest_91 : decode cX10_digest 91 = .ok (.getfield 206, 3) := by decide +kernel
theorem dX10_digest_94 : decode cX10_digest 94 = .ok (.if_icmp .ge 40, 3) := by decide +kernel
theorem dX10_digest_97 : decode cX10_digest 97 = .ok (.iconst 3, 1) := by decide +kernel
theorem dX10_digest_98 : decode cX10_digest 98 = .ok (.istore 4, 2) := by decide +kernel
theorem dX10_digest_100 : decode cX10_digest 100 = .ok (.iload 4, 2) := by decide +kernel
theorem dX10_digest_102 : decode cX10_digest 102 = .ok (.bipush 7, 2) := by decide +kernel
theorem dX10_digest_104 : decode cX10_digest 104 = .ok (.if_icmp .ge 24, 3) := by decide +kernel
theorem dX10_digest_107 : decode cX10_digest 107 = .ok (.ldc2_w 279, 3) := by decide +kernel
theorem dX10_digest_110 : decode cX10_digest 110 = .ok (.lload_n 1, 1) := by decide +kernel
theorem dX10_digest_111 : decode cX10_digest 111 = .ok (.lmul, 1) := by decide +kernel
theorem dX10_digest_112 : decode cX10_digest 112 = .ok (.aload_n 0, 1) := by decide +kernel
theorem dX10_digest_113 : decode cX10_digest 113 = .ok (.iload_n 3, 1) := by decide +kernel
theorem dX10_digest_114 : decode cX10_digest 114 = .ok (.iload 4, 2) := by decide +kernel
theorem dX10_digest_116 : decode cX10_digest 116 = .ok (.invokevirtual 287, 3) := by decide +kernel
theorem dX10_digest_119 : decode cX10_digest 119 = .ok (.i2l, 1) := by decide +kernel
theorem dX10_digest_120 : decode cX10_digest 120 = .ok (.ladd, 1) := by decide +kernel
theorem dX10_digest_121 : decode cX10_digest 121 = .ok (.lstore_n 1, 1) := by decide +kernel
theorem dX10_digest_122 : decode cX10_digest 122 = .ok (.iinc 4 1, 3) := by decide +kernel
theorem dX10_digest_125 : decode cX10_digest 125 = .ok (.goto (-25), 3) := by decide +kernel
theorem dX10_digest_128 : decode cX10_digest 128 = .ok (.iinc 3 1, 3) := by decide +kernel
theorem dX10_digest_131 : decode cX10_digest 131 = .ok (.goto (-42), 3) := by decide +kernel
theorem dX10_digest_134 : decode cX10_digest 134 = .ok (.iconst 0, 1) := by decide +kernel
theorem dX10_digest_135 : decode cX10_digest 135 = .ok (.istore_n 3, 1) := by decide +kernel
theorem dX10_digest_136 : decode cX10_digest 136 = .ok (.iload_n 3, 1) := by decide +kernel
theorem dX10_digest_137 : decode cX10_digest 137 = .ok (.bipush 7, 2) := by decide +kernel
theorem dX10_digest_139 : decode cX10_digest 139 = .ok (.if_icmp .ge 22, 3) := by decide +kernel
theorem dX10_digest_142 : decode cX10_digest 142 = .ok (.ldc2_w 279, 3) := by decide +kernel
theorem dX10_digest_145 : decode cX10_digest 145 = .ok (.lload_n 1, 1) := by decide +kernel
theorem dX10_digest_146 : decode cX10_digest 146 = .ok (.lmul, 1) := by decide +kernel
theorem dX10_digest_147 : decode cX10_digest 147 = .ok (.aload_n 0, 1) := by decide +kernel
theorem dX10_digest_148 : decode cX10_digest 148 = .ok (.iload_n 3, 1) := by decide +kernel
theorem dX10_digest_149 : decode cX10_digest 149 = .ok (.invokevirtual 290, 3) := by decide +kernel
theorem dX10_digest_152 : decode cX10_digest 152 = .ok (.i2l, 1) := by decide +kernel
theorem dX10_digest_153 : decode cX10_digest 153 = .ok (.ladd, 1) := by decide +kernel
theorem dX10_digest_154 : decode cX10_digest 154 = .ok (.lstore_n 1, 1) := by decide +kernel
theorem dX10_digest_155 : decode cX10_digest 155 = .ok (.iinc 3 1, 3) := by decide +kernel
theorem dX10_digest_158 : decode cX10_digest 158 = .ok (.goto (-22), 3) := by decide +kernel
theorem dX10_digest_161 : decode cX10_digest 161 = .ok (.iconst 0, 1) := by decide +kernel
theorem dX10_digest_162 : decode cX10_digest 162 = .ok (.istore_n 3, 1) := by decide +kernel
theorem dX10_digest_163 : decode cX10_digest 163 = .ok (.iload_n 3, 1) := by decide +kernel
theorem dX10_digest_164 : decode cX10_digest 164 = .ok (.aload_n 0, 1) := by decide +kernel
theorem dX10_digest_165 : decode cX10_digest 165 = .ok (.getfield 128, 3) := by decide +kernel
theorem dX10_digest_168 : decode cX10_digest 168 = .ok (.if_icmp .ge 48, 3) := by decide +kernel
theorem dX10_digest_171 : decode cX10_digest 171 = .ok (.iconst 0, 1) := by decide +kernel
theorem dX10_digest_172 : decode cX10_digest 172 = .ok (.istore 4, 2) := by decide +kernel
theorem dX10_digest_174 : decode cX10_digest 174 = .ok (.iload 4, 2) := by decide +kernel
theorem dX10_digest_176 : decode cX10_digest 176 = .ok (.aload_n 0, 1) := by decide +kernel
theorem dX10_digest_177 : decode cX10_digest 177 = .ok (.getfield 75, 3) := by decide +kernel
theorem dX10_digest_180 : decode cX10_digest 180 = .ok (.iload_n 3, 1) := by decide +kernel
theorem dX10_digest_181 : decode cX10_digest 181 = .ok (.iaload, 1) := by decide +kernel
theorem dX10_digest_182 : decode cX10_digest 182 = .ok (.if_icmp .ge 28, 3) := by decide +kernel
theorem dX10_digest_185 : decode cX10_digest 185 = .ok (.ldc2_w 279, 3) := by decide +kernel
theorem dX10_digest_188 : decode cX10_digest 188 = .ok (.lload_n 1, 1) := by decide +kernel
theorem dX10_digest_189 : decode cX10_digest 189 = .ok (.lmul, 1) := by decide +kernel
theorem dX10_digest_190 : decode cX10_digest 190 = .ok (.aload_n 0, 1) := by decide +kernel
theorem dX10_digest_191 : decode cX10_digest 191 = .ok (.getfield 81, 3) := by decide +kernel
theorem dX10_digest_194 : decode cX10_digest 194 = .ok (.iconst 3, 1) := by decide +kernel
theorem dX10_digest_195 : decode cX10_digest 195 = .ok (.iload_n 3, 1) := by decide +kernel
theorem dX10_digest_196 : decode cX10_digest 196 = .ok (.imul, 1) := by decide +kernel
theorem dX10_digest_197 : decode cX10_digest 197 = .ok (.iload 4, 2) := by decide +kernel
theorem dX10_digest_199 : decode cX10_digest 199 = .ok (.iadd, 1) := by decide +kernel
theorem dX10_digest_200 : decode cX10_digest 200 = .ok (.iaload, 1) := by decide +kernel
theorem dX10_digest_201 : decode cX10_digest 201 = .ok (.i2l, 1) := by decide +kernel
theorem dX10_digest_202 : decode cX10_digest 202 = .ok (.ladd, 1) := by decide +kernel
theorem dX10_digest_203 : decode cX10_digest 203 = .ok (.lstore_n 1, 1) := by decide +kernel
theorem dX10_digest_204 : decode cX10_digest 204 = .ok (.iinc 4 1, 3) := by decide +kernel
theorem dX10_digest_207 : decode cX10_digest 207 = .ok (.goto (-33), 3) := by decide +kernel
theorem dX10_digest_210 : decode cX10_digest 210 = .ok (.iinc 3 1, 3) := by decide +kernel
theorem dX10_digest_213 : decode cX10_digest 213 = .ok (.goto (-50), 3) := by decide +kernel
theorem dX10_digest_216 : decode cX10_digest 216 = .ok (.lload_n 1, 1) := by decide +kernel
theorem dX10_digest_217 : decode cX10_digest 217 = .ok (.lreturn, 1) := by decide +kernel
theorem dJ9_floorDiv_7cf53_0 : decode cJ9_floorDiv_7cf53 0 = .ok (.iload_n 0, 1) := by decide +kernel
theorem dJ9_floorDiv_7cf53_1 : decode cJ9_floorDiv_7cf53 1 = .ok (.iload_n 1, 1) := by decide +kernel
theorem dJ9_floorDiv_7cf53_2 : decode cJ9_floorDiv_7cf53 2 = .ok (.idiv, 1) := by decide +kernel
theorem dJ9_floorDiv_7cf53_3 : decode cJ9_floorDiv_7cf53 3 = .ok (.istore_n 2, 1) := by decide +kernel
theorem dJ9_floorDiv_7cf53_4 : decode cJ9_floorDiv_7cf53 4 = .ok (.iload_n 0, 1) := by decide +kernel
theorem dJ9_floorDiv_7cf53_5 : decode cJ9_floorDiv_7cf53 5 = .ok (.iload_n 1, 1) := by decide +kernel
theorem dJ9_floorDiv_7cf53_6 : decode cJ9_floorDiv_7cf53 6 = .ok (.ixor, 1) := by decide +kernel
theorem dJ9_floorDiv_7cf53_7 : decode cJ9_floorDiv_7cf53 7 = .ok (.ifCond .ge 14, 3) := by decide +kernel
theorem dJ9_floorDiv_7cf53_10 : decode cJ9_floorDiv_7cf53 10 = .ok (.iload_n 2, 1) := by decide +kernel
theorem dJ9_floorDiv_7cf53_11 : decode cJ9_floorDiv_7cf53 11 = .ok (.iload_n 1, 1) := by decide +kernel
theorem dJ9_floorDiv_7cf53_12 : decode cJ9_floorDiv_7cf53 12 = .ok (.imul, 1) := by decide +kernel
theorem dJ9_floorDiv_7cf53_13 : decode cJ9_floorDiv_7cf53 13 = .ok (.iload_n 0, 1) := by decide +kernel
theorem dJ9_floorDiv_7cf53_14 : decode cJ9_floorDiv_7cf53 14 = .ok (.if_icmp .eq 7, 3) := by decide +kernel
theorem dJ9_floorDiv_7cf53_17 : decode cJ9_floorDiv_7cf53 17 = .ok (.iload_n 2, 1) := by decide +kernel
theorem dJ9_floorDiv_7cf53_18 : decode cJ9_floorDiv_7cf53 18 = .ok (.iconst 1, 1) := by decide +kernel
theorem dJ9_floorDiv_7cf53_19 : decode cJ9_floorDiv_7cf53 19 = .ok (.isub, 1) := by decide +kernel
theorem dJ9_floorDiv_7cf53_20 : decode cJ9_floorDiv_7cf53 20 = .ok (.ireturn, 1) := by decide +kernel
theorem dJ9_floorDiv_7cf53_21 : decode cJ9_floorDiv_7cf53 21 = .ok (.iload_n 2, 1) := by decide +kernel
theorem dJ9_floorDiv_7cf53_22 : decode cJ9_floorDiv_7cf53 22 = .ok (.ireturn, 1) := by decide +kernel
theorem dJ9_max_7cf53_0 : decode cJ9_max_7cf53 0 = .ok (.iload_n 0, 1) := by decide +kernel
theorem dJ9_max_7cf53_1 : decode cJ9_max_7cf53 1 = .ok (.iload_n 1, 1) := by decide +kernel
theorem dJ9_max_7cf53_2 : decode cJ9_max_7cf53 2 = .ok (.if_icmp .lt 7, 3) := by decide +kernel
theorem dJ9_max_7cf53_5 : decode cJ9_max_7cf53 5 = .ok (.iload_n 0, 1) := by decide +kernel
theorem dJ9_max_7cf53_6 : decode cJ9_max_7cf53 6 = .ok (.goto 4, 3) := by decide +kernel
theorem dJ9_max_7cf53_9 : decode cJ9_max_7cf53 9 = .ok (.iload_n 1, 1) := by decide +kernel
theorem dJ9_max_7cf53_10 : decode cJ9_max_7cf53 10 = .ok (.ireturn, 1) := by decide +kernel
theorem dJ9_min_7cf53_0 : decode cJ9_min_7cf53 0 = .ok (.iload_n 0, 1) := by decide +kernel
theorem dJ9_min_7cf53_1 : decode cJ9_min_7cf53 1 = .ok (.iload_n 1, 1) := by decide +kernel
theorem dJ9_min_7cf53_2 : decode cJ9_min_7cf53 2 = .ok (.if_icmp .gt 7, 3) := by decide +kernel
theorem dJ9_min_7cf53_5 : decode cJ9_min_7cf53 5 = .ok (.iload_n 0, 1) := by decide +kernel
theorem dJ9_min_7cf53_6 : decode cJ9_min_7cf53 6 = .ok (.goto 4, 3) := by decide +kernel
theorem dJ9_min_7cf53_9 : decode cJ9_min_7cf53 9 = .ok (.iload_n 1, 1) := by decide +kernel
theorem dJ9_min_7cf53_10 : decode cJ9_min_7cf53 10 = .ok (.ireturn, 1) := by decide +kernel
theorem dL_law_0 : decode cL_law 0 = .ok (.new 7, 3) := by decide +kernel
theorem dL_law_3 : decode cL_law 3 = .ok (.dup, 1) := by decide +kernel
theorem dL_law_4 : decode cL_law 4 = .ok (.invokespecial 9, 3) := by decide +kernel
theorem dL_law_7 : decode cL_law 7 = .ok (.astore_n 1, 1) := by decide +kernel
theorem dL_law_8 : decode cL_law 8 = .ok (.new 10, 3) := by decide +kernel
theorem dL_law_11 : decode cL_law 11 = .ok (.dup, 1) := by decide +kernel
theorem dL_law_12 : decode cL_law 12 = .ok (.invokespecial 12, 3) := by decide +kernel
theorem dL_law_15 : decode cL_law 15 = .ok (.astore_n 2, 1) := by decide +kernel
theorem dL_law_16 : decode cL_law 16 = .ok (.iconst 0, 1) := by decide +kernel
theorem dL_law_17 : decode cL_law 17 = .ok (.istore_n 3, 1) := by decide +kernel
theorem dL_law_18 : decode cL_law 18 = .ok (.iload_n 3, 1) := by decide +kernel
theorem dL_law_19 : decode cL_law 19 = .ok (.aload_n 0, 1) := by decide +kernel
theorem dL_law_20 : decode cL_law 20 = .ok (.arraylength, 1) := by decide +kernel
theorem dL_law_21 : decode cL_law 21 = .ok (.bipush 6, 2) := by decide +kernel
theorem dL_law_23 : decode cL_law 23 = .ok (.isub, 1) := by decide +kernel
theorem dL_law_24 : decode cL_law 24 = .ok (.if_icmp .gt 1248, 3) := by decide +kernel
theorem dL_law_27 : decode cL_law 27 = .ok (.aload_n 0, 1) := by decide +kernel
theorem dL_law_28 : decode cL_law 28 = .ok (.iload_n 3, 1) := by decide +kernel
theorem dL_law_29 : decode cL_law 29 = .ok (.iaload, 1) := by decide +kernel
theorem dL_law_30 : decode cL_law 30 = .ok (.bipush 63, 2) := by decide +kernel
theorem dL_law_32 : decode cL_law 32 = .ok (.iand, 1) := by decide +kernel
theorem dL_law_33 : decode cL_law 33 = .ok (.tableswitch 1233 0 34 #[155, 208, 241, 264, 287, 310, 343, 366, 389, 422, 455, 488, 531, 564, 607, 630, 653, 702, 745, 768, 781, 804, 827, 840, 853, 902, 925, 938, 971, 1014, 1037, 1090, 1133, 1196, 1219], 155) := by decide +kernel
theorem dL_law_188 : decode cL_law 188 = .ok (.aload_n 1, 1) := by decide +kernel
theorem dL_law_189 : decode cL_law 189 = .ok (.aload_n 0, 1) := by decide +kernel
theorem dL_law_190 : decode cL_law 190 = .ok (.iload_n 3, 1) := by decide +kernel
theorem dL_law_191 : decode cL_law 191 = .ok (.iconst 1, 1) := by decide +kernel
theorem dL_law_192 : decode cL_law 192 = .ok (.iadd, 1) := by decide +kernel
theorem dL_law_193 : decode cL_law 193 = .ok (.iaload, 1) := by decide +kernel
theorem dL_law_194 : decode cL_law 194 = .ok (.aload_n 0, 1) := by decide +kernel
theorem dL_law_195 : decode cL_law 195 = .ok (.iload_n 3, 1) := by decide +kernel
theorem dL_law_196 : decode cL_law 196 = .ok (.iconst 2, 1) := by decide +kernel
theorem dL_law_197 : decode cL_law 197 = .ok (.iadd, 1) := by decide +kernel
theorem dL_law_198 : decode cL_law 198 = .ok (.iaload, 1) := by decide +kernel
theorem dL_law_199 : decode cL_law 199 = .ok (.aload_n 0, 1) := by decide +kernel
theorem dL_law_200 : decode cL_law 200 = .ok (.iload_n 3, 1) := by decide +kernel
theorem dL_law_201 : decode cL_law 201 = .ok (.iconst 3, 1) := by decide +kernel
theorem dL_law_202 : decode cL_law 202 = .ok (.iadd, 1) := by decide +kernel
theorem dL_law_203 : decode cL_law 203 = .ok (.iaload, 1) := by decide +kernel
theorem dL_law_204 : decode cL_law 204 = .ok (.aload_n 0, 1) := by decide +kernel
theorem dL_law_205 : decode cL_law 205 = .ok (.iload_n 3, 1) := by decide +kernel
theorem dL_law_206 : decode cL_law 206 = .ok (.iconst 4, 1) := by decide +kernel
theorem dL_law_207 : decode cL_law 207 = .ok (.iadd, 1) := by decide +kernel
theorem dL_law_208 : decode cL_law 208 = .ok (.iaload, 1) := by decide +kernel
theorem dL_law_209 : decode cL_law 209 = .ok (.invokevirtual 13, 3) := by decide +kernel
theorem dL_law_212 : decode cL_law 212 = .ok (.aload_n 2, 1) := by decide +kernel
theorem dL_law_213 : decode cL_law 213 = .ok (.aload_n 0, 1) := by decide +kernel
theorem dL_law_214 : decode cL_law 214 = .ok (.iload_n 3, 1) := by decide +kernel
theorem dL_law_215 : decode cL_law 215 = .ok (.iconst 1, 1) := by decide +kernel
theorem dL_law_216 : decode cL_law 216 = .ok (.iadd, 1) := by decide +kernel
theorem dL_law_217 : decode cL_law 217 = .ok (.iaload, 1) := by decide +kernel
theorem dL_law_218 : decode cL_law 218 = .ok (.aload_n 0, 1) := by decide +kernel
theorem dL_law_219 : decode cL_law 219 = .ok (.iload_n 3, 1) := by decide +kernel
theorem dL_law_220 : decode cL_law 220 = .ok (.iconst 2, 1) := by decide +kernel
theorem dL_law_221 : decode cL_law 221 = .ok (.iadd, 1) := by decide +kernel
theorem dL_law_222 : decode cL_law 222 = .ok (.iaload, 1) := by decide +kernel
theorem dL_law_223 : decode cL_law 223 = .ok (.aload_n 0, 1) := by decide +kernel
theorem dL_law_224 : decode cL_law 224 = .ok (.iload_n 3, 1) := by decide +kernel
theorem dL_law_225 : decode cL_law 225 = .ok (.iconst 3, 1) := by decide +kernel
theorem dL_law_226 : decode cL_law 226 = .ok (.iadd, 1) := by decide +kernel
theorem dL_law_227 : decode cL_law 227 = .ok (.iaload, 1) := by decide +kernel
theorem dL_law_228 : decode cL_law 228 = .ok (.aload_n 0, 1) := by decide +kernel
theorem dL_law_229 : decode cL_law 229 = .ok (.iload_n 3, 1) := by decide +kernel
theorem dL_law_230 : decode cL_law 230 = .ok (.iconst 4, 1) := by decide +kernel
theorem dL_law_231 : decode cL_law 231 = .ok (.iadd, 1) := by decide +kernel
theorem dL_law_232 : decode cL_law 232 = .ok (.iaload, 1) := by decide +kernel
theorem dL_law_233 : decode cL_law 233 = .ok (.invokevirtual 17, 3) := by decide +kernel
theorem dL_law_236 : decode cL_law 236 = .ok (.if_icmp .eq 1030, 3) := by decide +kernel
theorem dL_law_239 : decode cL_law 239 = .ok (.iconst 0, 1) := by decide +kernel
theorem dL_law_240 : decode cL_law 240 = .ok (.ireturn, 1) := by decide +kernel
theorem dL_law_241 : decode cL_law 241 = .ok (.aload_n 1, 1) := by decide +kernel
theorem dL_law_242 : decode cL_law 242 = .ok (.aload_n 0, 1) := by decide +kernel
theorem dL_law_243 : decode cL_law 243 = .ok (.iload_n 3, 1) := by decide +kernel
theorem dL_law_244 : decode cL_law 244 = .ok (.iconst 1, 1) := by decide +kernel
theorem dL_law_245 : decode cL_law 245 = .ok (.iadd, 1) := by decide +kernel
theorem dL_law_246 : decode cL_law 246 = .ok (.iaload, 1) := by decide +kernel
theorem dL_law_247 : decode cL_law 247 = .ok (.aload_n 0, 1) := by decide +kernel
theorem dL_law_248 : decode cL_law 248 = .ok (.iload_n 3, 1) := by decide +kernel
theorem dL_law_249 : decode cL_law 249 = .ok (.iconst 2, 1) := by decide +kernel
theorem dL_law_250 : decode cL_law 250 = .ok (.iadd, 1) := by decide +kernel
theorem dL_law_251 : decode cL_law 251 = .ok (.iaload, 1) := by decide +kernel
theorem dL_law_252 : decode cL_law 252 = .ok (.invokevirtual 18, 3) := by decide +kernel
theorem dL_law_255 : decode cL_law 255 = .ok (.aload_n 2, 1) := by decide +kernel
theorem dL_law_256 : decode cL_law 256 = .ok (.aload_n 0, 1) := by decide +kernel
theorem dL_law_257 : decode cL_law 257 = .ok (.iload_n 3, 1) := by decide +kernel
theorem dL_law_258 : decode cL_law 258 = .ok (.iconst 1, 1) := by decide +kernel
theorem dL_law_259 : decode cL_law 259 = .ok (.iadd, 1) := by decide +kernel
theorem dL_law_260 : decode cL_law 260 = .ok (.iaload, 1) := by decide +kernel
theorem dL_law_261 : decode cL_law 261 = .ok (.aload_n 0, 1) := by decide +kernel
theorem dL_law_262 : decode cL_law 262 = .ok (.iload_n 3, 1) := by decide +kernel
theorem dL_law_263 : decode cL_law 263 = .ok (.iconst 2, 1) := by decide +kernel
theorem dL_law_264 : decode cL_law 264 = .ok (.iadd, 1) := by decide +kernel
theorem dL_law_265 : decode cL_law 265 = .ok (.iaload, 1) := by decide +kernel
theorem dL_law_266 : decode cL_law 266 = .ok (.invokevirtual 22, 3) := by decide +kernel
theorem dL_law_269 : decode cL_law 269 = .ok (.if_icmp .eq 997, 3) := by decide +kernel
theorem dL_law_272 : decode cL_law 272 = .ok (.iconst 0, 1) := by decide +kernel
theorem dL_law_273 : decode cL_law 273 = .ok (.ireturn, 1) := by decide +kernel
theorem dL_law_274 : decode cL_law 274 = .ok (.aload_n 1, 1) := by decide +kernel
theorem dL_law_275 : decode cL_law 275 = .ok (.aload_n 0, 1) := by decide +kernel
theorem dL_law_276 : decode cL_law 276 = .ok (.iload_n 3, 1) := by decide +kernel
theorem dL_law_277 : decode cL_law 277 = .ok (.iconst 1, 1) := by decide +kernel
theorem dL_law_278 : decode cL_law 278 = .ok (.iadd, 1) := by decide +kernel
theorem dL_law_279 : decode cL_law 279 = .ok (.iaload, 1) := by decide +kernel
theorem dL_law_280 : decode cL_law 280 = .ok (.invokevirtual 23, 3) := by decide +kernel
theorem dL_law_283 : decode cL_law 283 = .ok (.aload_n 2, 1) := by decide +kernel
theorem dL_law_284 : decode cL_law 284 = .ok (.aload_n 0, 1) := by decide +kernel
theorem dL_law_285 : decode cL_law 285 = .ok (.iload_n 3, 1) := by decide +kernel
theorem dL_law_286 : decode cL_law 286 = .ok (.iconst 1, 1) := by decide +kernel
theorem dL_law_287 : decode cL_law 287 = .ok (.iadd, 1) := by decide +kernel
theorem dL_law_288 : decode cL_law 288 = .ok (.iaload, 1) := by decide +kernel
theorem dL_law_289 : decode cL_law 289 = .ok (.invokevirtual 27, 3) := by decide +kernel
theorem dL_law_292 : decode cL_law 292 = .ok (.if_icmp .eq 974, 3) := by decide +kernel
theorem dL_law_295 : decode cL_law 295 = .ok (.iconst 0, 1) := by decide +kernel
theorem dL_law_296 : decode cL_law 296 = .ok (.ireturn, 1) := by decide +kernel
theorem dL_law_297 : decode cL_law 297 = .ok (.aload_n 1, 1) := by decide +kernel
theorem dL_law_298 : decode cL_law 298 = .ok (.aload_n 0, 1) := by decide +kernel
theorem dL_law_299 : decode cL_law 299 = .ok (.iload_n 3, 1) := by decide +kernel
theorem dL_law_300 : decode cL_law 300 = .ok (.iconst 1, 1) := by decide +kernel
theorem dL_law_301 : decode cL_law 301 = .ok (.iadd, 1) := by decide +kernel
theorem dL_law_302 : decode cL_law 302 = .ok (.iaload, 1) := by decide +kernel
theorem dL_law_303 : decode cL_law 303 = .ok (.invokevirtual 28, 3) := by decide +kernel
theorem dL_law_306 : decode cL_law 306 = .ok (.aload_n 2, 1) := by decide +kernel
theorem dL_law_307 : decode cL_law 307 = .ok (.aload_n 0, 1) := by decide +kernel
theorem dL_law_308 : decode cL_law 308 = .ok (.iload_n 3, 1) := by decide +kernel
theorem dL_law_309 : decode cL_law 309 = .ok (.iconst 1, 1) := by decide +kernel
theorem dL_law_310 : decode cL_law 310 = .ok (.iadd, 1) := by decide +kernel
theorem dL_law_311 : decode cL_law 311 = .ok (.iaload, 1) := by decide +kernel
theorem dL_law_312 : decode cL_law 312 = .ok (.invokevirtual 31, 3) := by decide +kernel
theorem dL_law_315 : decode cL_law 315 = .ok (.if_icmp .eq 951, 3) := by decide +kernel
theorem dL_law_318 : decode cL_law 318 = .ok (.iconst 0, 1) := by decide +kernel
theorem dL_law_319 : decode cL_law 319 = .ok (.ireturn, 1) := by decide +kernel
theorem dL_law_320 : decode cL_law 320 = .ok (.aload_n 1, 1) := by decide +kernel
theorem dL_law_321 : decode cL_law 321 = .ok (.aload_n 0, 1) := by decide +kernel
theorem dL_law_322 : decode cL_law 322 = .ok (.iload_n 3, 1) := by decide +kernel
theorem dL_law_323 : decode cL_law 323 = .ok (.iconst 1, 1) := by decide +kernel
theorem dL_law_324 : decode cL_law 324 = .ok (.iadd, 1) := by decide +kernel
theorem dL_law_325 : decode cL_law 325 = .ok (.iaload, 1) := by decide +kernel
theorem dL_law_326 : decode cL_law 326 = .ok (.invokevirtual 32, 3) := by decide +kernel
theorem dL_law_329 : decode cL_law 329 = .ok (.aload_n 2, 1) := by decide +kernel
theorem dL_law_330 : decode cL_law 330 = .ok (.aload_n 0, 1) := by decide +kernel
theorem dL_law_331 : decode cL_law 331 = .ok (.iload_n 3, 1) := by decide +kernel
theorem dL_law_332 : decode cL_law 332 = .ok (.iconst 1, 1) := by decide +kernel
theorem dL_law_333 : decode cL_law 333 = .ok (.iadd, 1) := by decide +kernel
theorem dL_law_334 : decode cL_law 334 = .ok (.iaload, 1) := by decide +kernel
theorem dL_law_335 : decode cL_law 335 = .ok (.invokevirtual 35, 3) := by decide +kernel
theorem dL_law_338 : decode cL_law 338 = .ok (.if_icmp .eq 928, 3) := by decide +kernel
theorem dL_law_341 : decode cL_law 341 = .ok (.iconst 0, 1) := by decide +kernel
theorem dL_law_342 : decode cL_law 342 = .ok (.ireturn, 1) := by decide +kernel
theorem dL_law_343 : decode cL_law 343 = .ok (.aload_n 1, 1) := by decide +kernel
theorem dL_law_344 : decode cL_law 344 = .ok (.aload_n 0, 1) := by decide +kernel
theorem dL_law_345 : decode cL_law 345 = .ok (.iload_n 3, 1) := by decide +kernel
theorem dL_law_346 : decode cL_law 346 = .ok (.iconst 1, 1) := by decide +kernel
theorem dL_law_347 : decode cL_law 347 = .ok (.iadd, 1) := by decide +kernel
theorem dL_law_348 : decode cL_law 348 = .ok (.iaload, 1) := by decide +kernel
theorem dL_law_349 : decode cL_law 349 = .ok (.aload_n 0, 1) := by decide +kernel
theorem dL_law_350 : decode cL_law 350 = .ok (.iload_n 3, 1) := by decide +kernel
theorem dL_law_351 : decode cL_law 351 = .ok (.iconst 2, 1) := by decide +kernel
theorem dL_law_352 : decode cL_law 352 = .ok (.iadd, 1) := by decide +kernel
theorem dL_law_353 : decode cL_law 353 = .ok (.iaload, 1) := by decide +kernel
theorem dL_law_354 : decode cL_law 354 = .ok (.invokevirtual 36, 3) := by decide +kernel
theorem dL_law_357 : decode cL_law 357 = .ok (.aload_n 2, 1) := by decide +kernel
theorem dL_law_358 : decode cL_law 358 = .ok (.aload_n 0, 1) := by decide +kernel
theorem dL_law_359 : decode cL_law 359 = .ok (.iload_n 3, 1) := by decide +kernel
theorem dL_law_360 : decode cL_law 360 = .ok (.iconst 1, 1) := by decide +kernel
theorem dL_law_361 : decode cL_law 361 = .ok (.iadd, 1) := by decide +kernel
theorem dL_law_362 : decode cL_law 362 = .ok (.iaload, 1) := by decide +kernel
theorem dL_law_363 : decode cL_law 363 = .ok (.aload_n 0, 1) := by decide +kernel
theorem dL_law_364 : decode cL_law 364 = .ok (.iload_n 3, 1) := by decide +kernel
theorem dL_law_365 : decode cL_law 365 = .ok (.iconst 2, 1) := by decide +kernel
theorem dL_law_366 : decode cL_law 366 = .ok (.iadd, 1) := by decide +kernel
theorem dL_law_367 : decode cL_law 367 = .ok (.iaload, 1) := by decide +kernel
theorem dL_law_368 : decode cL_law 368 = .ok (.invokevirtual 39, 3) := by decide +kernel
theorem dL_law_371 : decode cL_law 371 = .ok (.if_icmp .eq 895, 3) := by decide +kernel
theorem dL_law_374 : decode cL_law 374 = .ok (.iconst 0, 1) := by decide +kernel
theorem dL_law_375 : decode cL_law 375 = .ok (.ireturn, 1) := by decide +kernel
theorem dL_law_376 : decode cL_law 376 = .ok (.aload_n 1, 1) := by decide +kernel
theorem dL_law_377 : decode cL_law 377 = .ok (.aload_n 0, 1) := by decide +kernel
theorem dL_law_378 : decode cL_law 378 = .ok (.iload_n 3, 1) := by decide +kernel
theorem dL_law_379 : decode cL_law 379 = .ok (.iconst 1, 1) := by decide +kernel
theorem dL_law_380 : decode cL_law 380 = .ok (.iadd, 1) := by decide +kernel
theorem dL_law_381 : decode cL_law 381 = .ok (.iaload, 1) := by decide +kernel
theorem dL_law_382 : decode cL_law 382 = .ok (.invokevirtual 40, 3) := by decide +kernel
theorem dL_law_385 : decode cL_law 385 = .ok (.aload_n 2, 1) := by decide +kernel
theorem dL_law_386 : decode cL_law 386 = .ok (.aload_n 0, 1) := by decide +kernel
theorem dL_law_387 : decode cL_law 387 = .ok (.iload_n 3, 1) := by decide +kernel
theorem dL_law_388 : decode cL_law 388 = .ok (.iconst 1, 1) := by decide +kernel
theorem dL_law_389 : decode cL_law 389 = .ok (.iadd, 1) := by decide +kernel
theorem dL_law_390 : decode cL_law 390 = .ok (.iaload, 1) := by decide +kernel
theorem dL_law_391 : decode cL_law 391 = .ok (.invokevirtual 43, 3) := by decide +kernel
theorem dL_law_394 : decode cL_law 394 = .ok (.if_icmp .eq 872, 3) := by decide +kernel
theorem dL_law_397 : decode cL_law 397 = .ok (.iconst 0, 1) := by decide +kernel
theorem dL_law_398 : decode cL_law 398 = .ok (.ireturn, 1) := by decide +kernel
theorem dL_law_399 : decode cL_law 399 = .ok (.aload_n 1, 1) := by decide +kernel
theorem dL_law_400 : decode cL_law 400 = .ok (.aload_n 0, 1) := by decide +kernel
theorem dL_law_401 : decode cL_law 401 = .ok (.iload_n 3, 1) := by decide +kernel
theorem dL_law_402 : decode cL_law 402 = .ok (.iconst 1, 1) := by decide +kernel
theorem dL_law_403 : decode cL_law 403 = .ok (.iadd, 1) := by decide +kernel
theorem dL_law_404 : decode cL_law 404 = .ok (.iaload, 1) := by decide +kernel
theorem dL_law_405 : decode cL_law 405 = .ok (.invokevirtual 44, 3) := by decide +kernel
theorem dL_law_408 : decode cL_law 408 = .ok (.aload_n 2, 1) := by decide +kernel
theorem dL_law_409 : decode cL_law 409 = .ok (.aload_n 0, 1) := by decide +kernel
theorem dL_law_410 : decode cL_law 410 = .ok (.iload_n 3, 1) := by decide +kernel
theorem dL_law_411 : decode cL_law 411 = .ok (.iconst 1, 1) := by decide +kernel
theorem dL_law_412 : decode cL_law 412 = .ok (.iadd, 1) := by decide +kernel
theorem dL_law_413 : decode cL_law 413 = .ok (.iaload, 1) := by decide +kernel
theorem dL_law_414 : decode cL_law 414 = .ok (.invokevirtual 47, 3) := by decide +kernel
theorem dL_law_417 : decode cL_law 417 = .ok (.if_icmp .eq 849, 3) := by decide +kernel
theorem dL_law_420 : decode cL_law 420 = .ok (.iconst 0, 1) := by decide +kernel
theorem dL_law_421 : decode cL_law 421 = .ok (.ireturn, 1) := by decide +kernel
theorem dL_law_422 : decode cL_law 422 = .ok (.aload_n 1, 1) := by decide +kernel
theorem dL_law_423 : decode cL_law 423 = .ok (.aload_n 0, 1) := by decide +kernel
theorem dL_law_424 : decode cL_law 424 = .ok (.iload_n 3, 1) := by decide +kernel
theorem dL_law_425 : decode cL_law 425 = .ok (.iconst 1, 1) := by decide +kernel
theorem dL_law_426 : decode cL_law 426 = .ok (.iadd, 1) := by decide +kernel
theorem dL_law_427 : decode cL_law 427 = .ok (.iaload, 1) := by decide +kernel
theorem dL_law_428 : decode cL_law 428 = .ok (.aload_n 0, 1) := by decide +kernel
theorem dL_law_429 : decode cL_law 429 = .ok (.iload_n 3, 1) := by decide +kernel
theorem dL_law_430 : decode cL_law 430 = .ok (.iconst 2, 1) := by decide +kernel
theorem dL_law_431 : decode cL_law 431 = .ok (.iadd, 1) := by decide +kernel
theorem dL_law_432 : decode cL_law 432 = .ok (.iaload, 1) := by decide +kernel
theorem dL_law_433 : decode cL_law 433 = .ok (.invokevirtual 48, 3) := by decide +kernel
theorem dL_law_436 : decode cL_law 436 = .ok (.aload_n 2, 1) := by decide +kernel
theorem dL_law_437 : decode cL_law 437 = .ok (.aload_n 0, 1) := by decide +kernel
theorem dL_law_438 : decode cL_law 438 = .ok (.iload_n 3, 1) := by decide +kernel
theorem dL_law_439 : decode cL_law 439 = .ok (.iconst 1, 1) := by decide +kernel
theorem dL_law_440 : decode cL_law 440 = .ok (.iadd, 1) := by decide +kernel
theorem dL_law_441 : decode cL_law 441 = .ok (.iaload, 1) := by decide +kernel
theorem dL_law_442 : decode cL_law 442 = .ok (.aload_n 0, 1) := by decide +kernel
theorem dL_law_443 : decode cL_law 443 = .ok (.iload_n 3, 1) := by decide +kernel
theorem dL_law_444 : decode cL_law 444 = .ok (.iconst 2, 1) := by decide +kernel
theorem dL_law_445 : decode cL_law 445 = .ok (.iadd, 1) := by decide +kernel
theorem dL_law_446 : decode cL_law 446 = .ok (.iaload, 1) := by decide +kernel
theorem dL_law_447 : decode cL_law 447 = .ok (.invokevirtual 51, 3) := by decide +kernel
theorem dL_law_450 : decode cL_law 450 = .ok (.if_icmp .eq 816, 3) := by decide +kernel
theorem dL_law_453 : decode cL_law 453 = .ok (.iconst 0, 1) := by decide +kernel
theorem dL_law_454 : decode cL_law 454 = .ok (.ireturn, 1) := by decide +kernel
theorem dL_law_455 : decode cL_law 455 = .ok (.aload_n 1, 1) := by decide +kernel
theorem dL_law_456 : decode cL_law 456 = .ok (.aload_n 0, 1) := by decide +kernel
theorem dL_law_457 : decode cL_law 457 = .ok (.iload_n 3, 1) := by decide +kernel
theorem dL_law_458 : decode cL_law 458 = .ok (.iconst 1, 1) := by decide +kernel
theorem dL_law_459 : decode cL_law 459 = .ok (.iadd, 1) := by decide +kernel
theorem dL_law_460 : decode cL_law 460 = .ok (.iaload, 1) := by decide +kernel
theorem dL_law_461 : decode cL_law 461 = .ok (.aload_n 0, 1) := by decide +kernel
theorem dL_law_462 : decode cL_law 462 = .ok (.iload_n 3, 1) := by decide +kernel
theorem dL_law_463 : decode cL_law 463 = .ok (.iconst 2, 1) := by decide +kernel
theorem dL_law_464 : decode cL_law 464 = .ok (.iadd, 1) := by decide +kernel
theorem dL_law_465 : decode cL_law 465 = .ok (.iaload, 1) := by decide +kernel
theorem dL_law_466 : decode cL_law 466 = .ok (.invokevirtual 52, 3) := by decide +kernel
theorem dL_law_469 : decode cL_law 469 = .ok (.aload_n 2, 1) := by decide +kernel
theorem dL_law_470 : decode cL_law 470 = .ok (.aload_n 0, 1) := by decide +kernel
theorem dL_law_471 : decode cL_law 471 = .ok (.iload_n 3, 1) := by decide +kernel
theorem dL_law_472 : decode cL_law 472 = .ok (.iconst 1, 1) := by decide +kernel
theorem dL_law_473 : decode cL_law 473 = .ok (.iadd, 1) := by decide +kernel
theorem dL_law_474 : decode cL_law 474 = .ok (.iaload, 1) := by decide +kernel
theorem dL_law_475 : decode cL_law 475 = .ok (.aload_n 0, 1) := by decide +kernel
theorem dL_law_476 : decode cL_law 476 = .ok (.iload_n 3, 1) := by decide +kernel
theorem dL_law_477 : decode cL_law 477 = .ok (.iconst 2, 1) := by decide +kernel
theorem dL_law_478 : decode cL_law 478 = .ok (.iadd, 1) := by decide +kernel
theorem dL_law_479 : decode cL_law 479 = .ok (.iaload, 1) := by decide +kernel
theorem dL_law_480 : decode cL_law 480 = .ok (.invokevirtual 55, 3) := by decide +kernel
theorem dL_law_483 : decode cL_law 483 = .ok (.if_icmp .eq 783, 3) := by decide +kernel
theorem dL_law_486 : decode cL_law 486 = .ok (.iconst 0, 1) := by decide +kernel
theorem dL_law_487 : decode cL_law 487 = .ok (.ireturn, 1) := by decide +kernel
theorem dL_law_488 : decode cL_law 488 = .ok (.aload_n 1, 1) := by decide +kernel
theorem dL_law_489 : decode cL_law 489 = .ok (.aload_n 0, 1) := by decide +kernel
theorem dL_law_490 : decode cL_law 490 = .ok (.iload_n 3, 1) := by decide +kernel
theorem dL_law_491 : decode cL_law 491 = .ok (.iconst 1, 1) := by decide +kernel
theorem dL_law_492 : decode cL_law 492 = .ok (.iadd, 1) := by decide +kernel
theorem dL_law_493 : decode cL_law 493 = .ok (.iaload, 1) := by decide +kernel
theorem dL_law_494 : decode cL_law 494 = .ok (.aload_n 0, 1) := by decide +kernel
theorem dL_law_495 : decode cL_law 495 = .ok (.iload_n 3, 1) := by decide +kernel
theorem dL_law_496 : decode cL_law 496 = .ok (.iconst 2, 1) := by decide +kernel
theorem dL_law_497 : decode cL_law 497 = .ok (.iadd, 1) := by decide +kernel
theorem dL_law_498 : decode cL_law 498 = .ok (.iaload, 1) := by decide +kernel
theorem dL_law_499 : decode cL_law 499 = .ok (.invokevirtual 56, 3) := by decide +kernel
theorem dL_law_502 : decode cL_law 502 = .ok (.aload_n 2, 1) := by decide +kernel
theorem dL_law_503 : decode cL_law 503 = .ok (.aload_n 0, 1) := by decide +kernel
theorem dL_law_504 : decode cL_law 504 = .ok (.iload_n 3, 1) := by decide +kernel
theorem dL_law_505 : decode cL_law 505 = .ok (.iconst 1, 1) := by decide +kernel
theorem dL_law_506 : decode cL_law 506 = .ok (.iadd, 1) := by decide +kernel
theorem dL_law_507 : decode cL_law 507 = .ok (.iaload, 1) := by decide +kernel
theorem dL_law_508 : decode cL_law 508 = .ok (.aload_n 0, 1) := by decide +kernel
theorem dL_law_509 : decode cL_law 509 = .ok (.iload_n 3, 1) := by decide +kernel
theorem dL_law_510 : decode cL_law 510 = .ok (.iconst 2, 1) := by decide +kernel
theorem dL_law_511 : decode cL_law 511 = .ok (.iadd, 1) := by decide +kernel
theorem dL_law_512 : decode cL_law 512 = .ok (.iaload, 1) := by decide +kernel
theorem dL_law_513 : decode cL_law 513 = .ok (.invokevirtual 59, 3) := by decide +kernel
theorem dL_law_516 : decode cL_law 516 = .ok (.if_icmp .eq 750, 3) := by decide +kernel
theorem dL_law_519 : decode cL_law 519 = .ok (.iconst 0, 1) := by decide +kernel
theorem dL_law_520 : decode cL_law 520 = .ok (.ireturn, 1) := by decide +kernel
theorem dL_law_521 : decode cL_law 521 = .ok (.aload_n 1, 1) := by decide +kernel
theorem dL_law_522 : decode cL_law 522 = .ok (.aload_n 0, 1) := by decide +kernel
theorem dL_law_523 : decode cL_law 523 = .ok (.iload_n 3, 1) := by decide +kernel
theorem dL_law_524 : decode cL_law 524 = .ok (.iconst 1, 1) := by decide +kernel
theorem dL_law_525 : decode cL_law 525 = .ok (.iadd, 1) := by decide +kernel
theorem dL_law_526 : decode cL_law 526 = .ok (.iaload, 1) := by decide +kernel
theorem dL_law_527 : decode cL_law 527 = .ok (.aload_n 0, 1) := by decide +kernel
theorem dL_law_528 : decode cL_law 528 = .ok (.iload_n 3, 1) := by decide +kernel
theorem dL_law_529 : decode cL_law 529 = .ok (.iconst 2, 1) := by decide +kernel
theorem dL_law_530 : decode cL_law 530 = .ok (.iadd, 1) := by decide +kernel
theorem dL_law_531 : decode cL_law 531 = .ok (.iaload, 1) := by decide +kernel
theorem dL_law_532 : decode cL_law 532 = .ok (.aload_n 0, 1) := by decide +kernel
theorem dL_law_533 : decode cL_law 533 = .ok (.iload_n 3, 1) := by decide +kernel
theorem dL_law_534 : decode cL_law 534 = .ok (.iconst 3, 1) := by decide +kernel
theorem dL_law_535 : decode cL_law 535 = .ok (.iadd, 1) := by decide +kernel
theorem dL_law_536 : decode cL_law 536 = .ok (.iaload, 1) := by decide +kernel
theorem dL_law_537 : decode cL_law 537 = .ok (.invokevirtual 60, 3) := by decide +kernel
theorem dL_law_540 : decode cL_law 540 = .ok (.aload_n 2, 1) := by decide +kernel
theorem dL_law_541 : decode cL_law 541 = .ok (.aload_n 0, 1) := by decide +kernel
theorem dL_law_542 : decode cL_law 542 = .ok (.iload_n 3, 1) := by decide +kernel
theorem dL_law_543 : decode cL_law 543 = .ok (.iconst 1, 1) := by decide +kernel
theorem dL_law_544 : decode cL_law 544 = .ok (.iadd, 1) := by decide +kernel
theorem dL_law_545 : decode cL_law 545 = .ok (.iaload, 1) := by decide +kernel
theorem dL_law_546 : decode cL_law 546 = .ok (.aload_n 0, 1) := by decide +kernel
theorem dL_law_547 : decode cL_law 547 = .ok (.iload_n 3, 1) := by decide +kernel
theorem dL_law_548 : decode cL_law 548 = .ok (.iconst 2, 1) := by decide +kernel
theorem dL_law_549 : decode cL_law 549 = .ok (.iadd, 1) := by decide +kernel
theorem dL_law_550 : decode cL_law 550 = .ok (.iaload, 1) := by decide +kernel
theorem dL_law_551 : decode cL_law 551 = .ok (.aload_n 0, 1) := by decide +kernel
theorem dL_law_552 : decode cL_law 552 = .ok (.iload_n 3, 1) := by decide +kernel
theorem dL_law_553 : decode cL_law 553 = .ok (.iconst 3, 1) := by decide +kernel
theorem dL_law_554 : decode cL_law 554 = .ok (.iadd, 1) := by decide +kernel
theorem dL_law_555 : decode cL_law 555 = .ok (.iaload, 1) := by decide +kernel
theorem dL_law_556 : decode cL_law 556 = .ok (.invokevirtual 64, 3) := by decide +kernel
theorem dL_law_559 : decode cL_law 559 = .ok (.if_icmp .eq 707, 3) := by decide +kernel
theorem dL_law_562 : decode cL_law 562 = .ok (.iconst 0, 1) := by decide +kernel
theorem dL_law_563 : decode cL_law 563 = .ok (.ireturn, 1) := by decide +kernel
theorem dL_law_564 : decode cL_law 564 = .ok (.aload_n 1, 1) := by decide +kernel
theorem dL_law_565 : decode cL_law 565 = .ok (.aload_n 0, 1) := by decide +kernel
theorem dL_law_566 : decode cL_law 566 = .ok (.iload_n 3, 1) := by decide +kernel
theorem dL_law_567 : decode cL_law 567 = .ok (.iconst 1, 1) := by decide +kernel
theorem dL_law_568 : decode cL_law 568 = .ok (.iadd, 1) := by decide +kernel
theorem dL_law_569 : decode cL_law 569 = .ok (.iaload, 1) := by decide +kernel
theorem dL_law_570 : decode cL_law 570 = .ok (.aload_n 0, 1) := by decide +kernel
theorem dL_law_571 : decode cL_law 571 = .ok (.iload_n 3, 1) := by decide +kernel
theorem dL_law_572 : decode cL_law 572 = .ok (.iconst 2, 1) := by decide +kernel
theorem dL_law_573 : decode cL_law 573 = .ok (.iadd, 1) := by decide +kernel
theorem dL_law_574 : decode cL_law 574 = .ok (.iaload, 1) := by decide +kernel
theorem dL_law_575 : decode cL_law 575 = .ok (.invokevirtual 65, 3) := by decide +kernel
theorem dL_law_578 : decode cL_law 578 = .ok (.aload_n 2, 1) := by decide +kernel
theorem dL_law_579 : decode cL_law 579 = .ok (.aload_n 0, 1) := by decide +kernel
theorem dL_law_580 : decode cL_law 580 = .ok (.iload_n 3, 1) := by decide +kernel
theorem dL_law_581 : decode cL_law 581 = .ok (.iconst 1, 1) := by decide +kernel
theorem dL_law_582 : decode cL_law 582 = .ok (.iadd, 1) := by decide +kernel
theorem dL_law_583 : decode cL_law 583 = .ok (.iaload, 1) := by decide +kernel
theorem dL_law_584 : decode cL_law 584 = .ok (.aload_n 0, 1) := by decide +kernel
theorem dL_law_585 : decode cL_law 585 = .ok (.iload_n 3, 1) := by decide +kernel
theorem dL_law_586 : decode cL_law 586 = .ok (.iconst 2, 1) := by decide +kernel
theorem dL_law_587 : decode cL_law 587 = .ok (.iadd, 1) := by decide +kernel
theorem dL_law_588 : decode cL_law 588 = .ok (.iaload, 1) := by decide +kernel
theorem dL_law_589 : decode cL_law 589 = .ok (.invokevirtual 68, 3) := by decide +kernel
theorem dL_law_592 : decode cL_law 592 = .ok (.if_icmp .eq 674, 3) := by decide +kernel
theorem dL_law_595 : decode cL_law 595 = .ok (.iconst 0, 1) := by decide +kernel
theorem dL_law_596 : decode cL_law 596 = .ok (.ireturn, 1) := by decide +kernel
theorem dL_law_597 : decode cL_law 597 = .ok (.aload_n 1, 1) := by decide +kernel
theorem dL_law_598 : decode cL_law 598 = .ok (.aload_n 0, 1) := by decide +kernel
theorem dL_law_599 : decode cL_law 599 = .ok (.iload_n 3, 1) := by decide +kernel
theorem dL_law_600 : decode cL_law 600 = .ok (.iconst 1, 1) := by decide +kernel
theorem dL_law_601 : decode cL_law 601 = .ok (.iadd, 1) := by decide +kernel
theorem dL_law_602 : decode cL_law 602 = .ok (.iaload, 1) := by decide +kernel
theorem dL_law_603 : decode cL_law 603 = .ok (.aload_n 0, 1) := by decide +kernel
theorem dL_law_604 : decode cL_law 604 = .ok (.iload_n 3, 1) := by decide +kernel
theorem dL_law_605 : decode cL_law 605 = .ok (.iconst 2, 1) := by decide +kernel
theorem dL_law_606 : decode cL_law 606 = .ok (.iadd, 1) := by decide +kernel
theorem dL_law_607 : decode cL_law 607 = .ok (.iaload, 1) := by decide +kernel
theorem dL_law_608 : decode cL_law 608 = .ok (.aload_n 0, 1) := by decide +kernel
theorem dL_law_609 : decode cL_law 609 = .ok (.iload_n 3, 1) := by decide +kernel
theorem dL_law_610 : decode cL_law 610 = .ok (.iconst 3, 1) := by decide +kernel
theorem dL_law_611 : decode cL_law 611 = .ok (.iadd, 1) := by decide +kernel
theorem dL_law_612 : decode cL_law 612 = .ok (.iaload, 1) := by decide +kernel
theorem dL_law_613 : decode cL_law 613 = .ok (.invokevirtual 69, 3) := by decide +kernel
theorem dL_law_616 : decode cL_law 616 = .ok (.aload_n 2, 1) := by decide +kernel
theorem dL_law_617 : decode cL_law 617 = .ok (.aload_n 0, 1) := by decide +kernel
theorem dL_law_618 : decode cL_law 618 = .ok (.iload_n 3, 1) := by decide +kernel
theorem dL_law_619 : decode cL_law 619 = .ok (.iconst 1, 1) := by decide +kernel
theorem dL_law_620 : decode cL_law 620 = .ok (.iadd, 1) := by decide +kernel
theorem dL_law_621 : decode cL_law 621 = .ok (.iaload, 1) := by decide +kernel
theorem dL_law_622 : decode cL_law 622 = .ok (.aload_n 0, 1) := by decide +kernel
theorem dL_law_623 : decode cL_law 623 = .ok (.iload_n 3, 1) := by decide +kernel
theorem dL_law_624 : decode cL_law 624 = .ok (.iconst 2, 1) := by decide +kernel
theorem dL_law_625 : decode cL_law 625 = .ok (.iadd, 1) := by decide +kernel
theorem dL_law_626 : decode cL_law 626 = .ok (.iaload, 1) := by decide +kernel
theorem dL_law_627 : decode cL_law 627 = .ok (.aload_n 0, 1) := by decide +kernel
theorem dL_law_628 : decode cL_law 628 = .ok (.iload_n 3, 1) := by decide +kernel
theorem dL_law_629 : decode cL_law 629 = .ok (.iconst 3, 1) := by decide +kernel
theorem dL_law_630 : decode cL_law 630 = .ok (.iadd, 1) := by decide +kernel
theorem dL_law_631 : decode cL_law 631 = .ok (.iaload, 1) := by decide +kernel
theorem dL_law_632 : decode cL_law 632 = .ok (.invokevirtual 72, 3) := by decide +kernel
theorem dL_law_635 : decode cL_law 635 = .ok (.if_icmp .eq 631, 3) := by decide +kernel
theorem dL_law_638 : decode cL_law 638 = .ok (.iconst 0, 1) := by decide +kernel
theorem dL_law_639 : decode cL_law 639 = .ok (.ireturn, 1) := by decide +kernel
theorem dL_law_640 : decode cL_law 640 = .ok (.aload_n 1, 1) := by decide +kernel
theorem dL_law_641 : decode cL_law 641 = .ok (.aload_n 0, 1) := by decide +kernel
theorem dL_law_642 : decode cL_law 642 = .ok (.iload_n 3, 1) := by decide +kernel
theorem dL_law_643 : decode cL_law 643 = .ok (.iconst 1, 1) := by decide +kernel
theorem dL_law_644 : decode cL_law 644 = .ok (.iadd, 1) := by decide +kernel
theorem dL_law_645 : decode cL_law 645 = .ok (.iaload, 1) := by decide +kernel
theorem dL_law_646 : decode cL_law 646 = .ok (.invokevirtual 73, 3) := by decide +kernel
theorem dL_law_649 : decode cL_law 649 = .ok (.aload_n 2, 1) := by decide +kernel
theorem dL_law_650 : decode cL_law 650 = .ok (.aload_n 0, 1) := by decide +kernel
theorem dL_law_651 : decode cL_law 651 = .ok (.iload_n 3, 1) := by decide +kernel
theorem dL_law_652 : decode cL_law 652 = .ok (.iconst 1, 1) := by decide +kernel
theorem dL_law_653 : decode cL_law 653 = .ok (.iadd, 1) := by decide +kernel
theorem dL_law_654 : decode cL_law 654 = .ok (.iaload, 1) := by decide +kernel
theorem dL_law_655 : decode cL_law 655 = .ok (.invokevirtual 76, 3) := by decide +kernel
theorem dL_law_658 : decode cL_law 658 = .ok (.if_icmp .eq 608, 3) := by decide +kernel
theorem dL_law_661 : decode cL_law 661 = .ok (.iconst 0, 1) := by decide +kernel
theorem dL_law_662 : decode cL_law 662 = .ok (.ireturn, 1) := by decide +kernel
theorem dL_law_663 : decode cL_law 663 = .ok (.aload_n 1, 1) := by decide +kernel
theorem dL_law_664 : decode cL_law 664 = .ok (.aload_n 0, 1) := by decide +kernel
theorem dL_law_665 : decode cL_law 665 = .ok (.iload_n 3, 1) := by decide +kernel
theorem dL_law_666 : decode cL_law 666 = .ok (.iconst 1, 1) := by decide +kernel
theorem dL_law_667 : decode cL_law 667 = .ok (.iadd, 1) := by decide +kernel
theorem dL_law_668 : decode cL_law 668 = .ok (.iaload, 1) := by decide +kernel
theorem dL_law_669 : decode cL_law 669 = .ok (.invokevirtual 77, 3) := by decide +kernel
theorem dL_law_672 : decode cL_law 672 = .ok (.aload_n 2, 1) := by decide +kernel
theorem dL_law_673 : decode cL_law 673 = .ok (.aload_n 0, 1) := by decide +kernel
theorem dL_law_674 : decode cL_law 674 = .ok (.iload_n 3, 1) := by decide +kernel
theorem dL_law_675 : decode cL_law 675 = .ok (.iconst 1, 1) := by decide +kernel
theorem dL_law_676 : decode cL_law 676 = .ok (.iadd, 1) := by decide +kernel
theorem dL_law_677 : decode cL_law 677 = .ok (.iaload, 1) := by decide +kernel
theorem dL_law_678 : decode cL_law 678 = .ok (.invokevirtual 80, 3) := by decide +kernel
theorem dL_law_681 : decode cL_law 681 = .ok (.if_icmp .eq 585, 3) := by decide +kernel
theorem dL_law_684 : decode cL_law 684 = .ok (.iconst 0, 1) := by decide +kernel
theorem dL_law_685 : decode cL_law 685 = .ok (.ireturn, 1) := by decide +kernel
theorem dL_law_686 : decode cL_law 686 = .ok (.aload_n 1, 1) := by decide +kernel
theorem dL_law_687 : decode cL_law 687 = .ok (.aload_n 0, 1) := by decide +kernel
theorem dL_law_688 : decode cL_law 688 = .ok (.iload_n 3, 1) := by decide +kernel
theorem dL_law_689 : decode cL_law 689 = .ok (.iconst 1, 1) := by decide +kernel
theorem dL_law_690 : decode cL_law 690 = .ok (.iadd, 1) := by decide +kernel
theorem dL_law_691 : decode cL_law 691 = .ok (.iaload, 1) := by decide +kernel
theorem dL_law_692 : decode cL_law 692 = .ok (.aload_n 0, 1) := by decide +kernel
theorem dL_law_693 : decode cL_law 693 = .ok (.iload_n 3, 1) := by decide +kernel
theorem dL_law_694 : decode cL_law 694 = .ok (.iconst 2, 1) := by decide +kernel
theorem dL_law_695 : decode cL_law 695 = .ok (.iadd, 1) := by decide +kernel
theorem dL_law_696 : decode cL_law 696 = .ok (.iaload, 1) := by decide +kernel
theorem dL_law_697 : decode cL_law 697 = .ok (.ifCond .eq 7, 3) := by decide +kernel
theorem dL_law_700 : decode cL_law 700 = .ok (.iconst 1, 1) := by decide +kernel
theorem dL_law_701 : decode cL_law 701 = .ok (.goto 4, 3) := by decide +kernel
theorem dL_law_704 : decode cL_law 704 = .ok (.iconst 0, 1) := by decide +kernel
theorem dL_law_705 : decode cL_law 705 = .ok (.invokevirtual 81, 3) := by decide +kernel
theorem dL_law_708 : decode cL_law 708 = .ok (.aload_n 2, 1) := by decide +kernel
theorem dL_law_709 : decode cL_law 709 = .ok (.aload_n 0, 1) := by decide +kernel
theorem dL_law_710 : decode cL_law 710 = .ok (.iload_n 3, 1) := by decide +kernel
theorem dL_law_711 : decode cL_law 711 = .ok (.iconst 1, 1) := by decide +kernel
theorem dL_law_712 : decode cL_law 712 = .ok (.iadd, 1) := by decide +kernel
theorem dL_law_713 : decode cL_law 713 = .ok (.iaload, 1) := by decide +kernel
theorem dL_law_714 : decode cL_law 714 = .ok (.aload_n 0, 1) := by decide +kernel
theorem dL_law_715 : decode cL_law 715 = .ok (.iload_n 3, 1) := by decide +kernel
theorem dL_law_716 : decode cL_law 716 = .ok (.iconst 2, 1) := by decide +kernel
theorem dL_law_717 : decode cL_law 717 = .ok (.iadd, 1) := by decide +kernel
theorem dL_law_718 : decode cL_law 718 = .ok (.iaload, 1) := by decide +kernel
theorem dL_law_719 : decode cL_law 719 = .ok (.ifCond .eq 7, 3) := by decide +kernel
theorem dL_law_722 : decode cL_law 722 = .ok (.iconst 1, 1) := by decide +kernel
theorem dL_law_723 : decode cL_law 723 = .ok (.goto 4, 3) := by decide +kernel
theorem dL_law_726 : decode cL_law 726 = .ok (.iconst 0, 1) := by decide +kernel
theorem dL_law_727 : decode cL_law 727 = .ok (.invokevirtual 85, 3) := by decide +kernel
theorem dL_law_730 : decode cL_law 730 = .ok (.if_icmp .eq 536, 3) := by decide +kernel
theorem dL_law_733 : decode cL_law 733 = .ok (.iconst 0, 1) := by decide +kernel
theorem dL_law_734 : decode cL_law 734 = .ok (.ireturn, 1) := by decide +kernel
theorem dL_law_735 : decode cL_law 735 = .ok (.aload_n 1, 1) := by decide +kernel
theorem dL_law_736 : decode cL_law 736 = .ok (.aload_n 0, 1) := by decide +kernel
theorem dL_law_737 : decode cL_law 737 = .ok (.iload_n 3, 1) := by decide +kernel
theorem dL_law_738 : decode cL_law 738 = .ok (.iconst 1, 1) := by decide +kernel
theorem dL_law_739 : decode cL_law 739 = .ok (.iadd, 1) := by decide +kernel
theorem dL_law_740 : decode cL_law 740 = .ok (.iaload, 1) := by decide +kernel
theorem dL_law_741 : decode cL_law 741 = .ok (.aload_n 0, 1) := by decide +kernel
theorem dL_law_742 : decode cL_law 742 = .ok (.iload_n 3, 1) := by decide +kernel
theorem dL_law_743 : decode cL_law 743 = .ok (.iconst 2, 1) := by decide +kernel
theorem dL_law_744 : decode cL_law 744 = .ok (.iadd, 1) := by decide +kernel
theorem dL_law_745 : decode cL_law 745 = .ok (.iaload, 1) := by decide +kernel
theorem dL_law_746 : decode cL_law 746 = .ok (.aload_n 0, 1) := by decide +kernel
theorem dL_law_747 : decode cL_law 747 = .ok (.iload_n 3, 1) := by decide +kernel
theorem dL_law_748 : decode cL_law 748 = .ok (.iconst 3, 1) := by decide +kernel
theorem dL_law_749 : decode cL_law 749 = .ok (.iadd, 1) := by decide +kernel
theorem dL_law_750 : decode cL_law 750 = .ok (.iaload, 1) := by decide +kernel
theorem dL_law_751 : decode cL_law 751 = .ok (.invokevirtual 86, 3) := by decide +kernel
theorem dL_law_754 : decode cL_law 754 = .ok (.aload_n 2, 1) := by decide +kernel
theorem dL_law_755 : decode cL_law 755 = .ok (.aload_n 0, 1) := by decide +kernel
theorem dL_law_756 : decode cL_law 756 = .ok (.iload_n 3, 1) := by decide +kernel
theorem dL_law_757 : decode cL_law 757 = .ok (.iconst 1, 1) := by decide +kernel
theorem dL_law_758 : decode cL_law 758 = .ok (.iadd, 1) := by decide +kernel
theorem dL_law_759 : decode cL_law 759 = .ok (.iaload, 1) := by decide +kernel
theorem dL_law_760 : decode cL_law 760 = .ok (.aload_n 0, 1) := by decide +kernel
theorem dL_law_761 : decode cL_law 761 = .ok (.iload_n 3, 1) := by decide +kernel
theorem dL_law_762 : decode cL_law 762 = .ok (.iconst 2, 1) := by decide +kernel
theorem dL_law_763 : decode cL_law 763 = .ok (.iadd, 1) := by decide +kernel
theorem dL_law_764 : decode cL_law 764 = .ok (.iaload, 1) := by decide +kernel
theorem dL_law_765 : decode cL_law 765 = .ok (.aload_n 0, 1) := by decide +kernel
theorem dL_law_766 : decode cL_law 766 = .ok (.iload_n 3, 1) := by decide +kernel
theorem dL_law_767 : decode cL_law 767 = .ok (.iconst 3, 1) := by decide +kernel
theorem dL_law_768 : decode cL_law 768 = .ok (.iadd, 1) := by decide +kernel
theorem dL_law_769 : decode cL_law 769 = .ok (.iaload, 1) := by decide +kernel
theorem dL_law_770 : decode cL_law 770 = .ok (.invokevirtual 89, 3) := by decide +kernel
theorem dL_law_773 : decode cL_law 773 = .ok (.if_icmp .eq 493, 3) := by decide +kernel
theorem dL_law_776 : decode cL_law 776 = .ok (.iconst 0, 1) := by decide +kernel
theorem dL_law_777 : decode cL_law 777 = .ok (.ireturn, 1) := by decide +kernel
theorem dL_law_778 : decode cL_law 778 = .ok (.aload_n 1, 1) := by decide +kernel
theorem dL_law_779 : decode cL_law 779 = .ok (.aload_n 0, 1) := by decide +kernel
theorem dL_law_780 : decode cL_law 780 = .ok (.iload_n 3, 1) := by decide +kernel
theorem dL_law_781 : decode cL_law 781 = .ok (.iconst 1, 1) := by decide +kernel
theorem dL_law_782 : decode cL_law 782 = .ok (.iadd, 1) := by decide +kernel
theorem dL_law_783 : decode cL_law 783 = .ok (.iaload, 1) := by decide +kernel
theorem dL_law_784 : decode cL_law 784 = .ok (.invokevirtual 90, 3) := by decide +kernel
theorem dL_law_787 : decode cL_law 787 = .ok (.aload_n 2, 1) := by decide +kernel
theorem dL_law_788 : decode cL_law 788 = .ok (.aload_n 0, 1) := by decide +kernel
theorem dL_law_789 : decode cL_law 789 = .ok (.iload_n 3, 1) := by decide +kernel
theorem dL_law_790 : decode cL_law 790 = .ok (.iconst 1, 1) := by decide +kernel
theorem dL_law_791 : decode cL_law 791 = .ok (.iadd, 1) := by decide +kernel
theorem dL_law_792 : decode cL_law 792 = .ok (.iaload, 1) := by decide +kernel
theorem dL_law_793 : decode cL_law 793 = .ok (.invokevirtual 93, 3) := by decide +kernel
theorem dL_law_796 : decode cL_law 796 = .ok (.if_icmp .eq 470, 3) := by decide +kernel
theorem dL_law_799 : decode cL_law 799 = .ok (.iconst 0, 1) := by decide +kernel
theorem dL_law_800 : decode cL_law 800 = .ok (.ireturn, 1) := by decide +kernel
theorem dL_law_801 : decode cL_law 801 = .ok (.aload_n 1, 1) := by decide +kernel
theorem dL_law_802 : decode cL_law 802 = .ok (.invokevirtual 94, 3) := by decide +kernel
theorem dL_law_805 : decode cL_law 805 = .ok (.aload_n 2, 1) := by decide +kernel
theorem dL_law_806 : decode cL_law 806 = .ok (.invokevirtual 98, 3) := by decide +kernel
theorem dL_law_809 : decode cL_law 809 = .ok (.if_icmp .eq 457, 3) := by decide +kernel
theorem dL_law_812 : decode cL_law 812 = .ok (.iconst 0, 1) := by decide +kernel
theorem dL_law_813 : decode cL_law 813 = .ok (.ireturn, 1) := by decide +kernel
theorem dL_law_814 : decode cL_law 814 = .ok (.aload_n 1, 1) := by decide +kernel
theorem dL_law_815 : decode cL_law 815 = .ok (.aload_n 0, 1) := by decide +kernel
theorem dL_law_816 : decode cL_law 816 = .ok (.iload_n 3, 1) := by decide +kernel
theorem dL_law_817 : decode cL_law 817 = .ok (.iconst 1, 1) := by decide +kernel
theorem dL_law_818 : decode cL_law 818 = .ok (.iadd, 1) := by decide +kernel
theorem dL_law_819 : decode cL_law 819 = .ok (.iaload, 1) := by decide +kernel
theorem dL_law_820 : decode cL_law 820 = .ok (.invokevirtual 99, 3) := by decide +kernel
theorem dL_law_823 : decode cL_law 823 = .ok (.aload_n 2, 1) := by decide +kernel
theorem dL_law_824 : decode cL_law 824 = .ok (.aload_n 0, 1) := by decide +kernel
theorem dL_law_825 : decode cL_law 825 = .ok (.iload_n 3, 1) := by decide +kernel
theorem dL_law_826 : decode cL_law 826 = .ok (.iconst 1, 1) := by decide +kernel
theorem dL_law_827 : decode cL_law 827 = .ok (.iadd, 1) := by decide +kernel
theorem dL_law_828 : decode cL_law 828 = .ok (.iaload, 1) := by decide +kernel
theorem dL_law_829 : decode cL_law 829 = .ok (.invokevirtual 102, 3) := by decide +kernel
theorem dL_law_832 : decode cL_law 832 = .ok (.if_icmp .eq 434, 3) := by decide +kernel
theorem dL_law_835 : decode cL_law 835 = .ok (.iconst 0, 1) := by decide +kernel
theorem dL_law_836 : decode cL_law 836 = .ok (.ireturn, 1) := by decide +kernel
theorem dL_law_837 : decode cL_law 837 = .ok (.aload_n 1, 1) := by decide +kernel
theorem dL_law_838 : decode cL_law 838 = .ok (.aload_n 0, 1) := by decide +kernel
theorem dL_law_839 : decode cL_law 839 = .ok (.iload_n 3, 1) := by decide +kernel
theorem dL_law_840 : decode cL_law 840 = .ok (.iconst 1, 1) := by decide +kernel
theorem dL_law_841 : decode cL_law 841 = .ok (.iadd, 1) := by decide +kernel
theorem dL_law_842 : decode cL_law 842 = .ok (.iaload, 1) := by decide +kernel
theorem dL_law_843 : decode cL_law 843 = .ok (.invokevirtual 103, 3) := by decide +kernel
theorem dL_law_846 : decode cL_law 846 = .ok (.aload_n 2, 1) := by decide +kernel
theorem dL_law_847 : decode cL_law 847 = .ok (.aload_n 0, 1) := by decide +kernel
theorem dL_law_848 : decode cL_law 848 = .ok (.iload_n 3, 1) := by decide +kernel
theorem dL_law_849 : decode cL_law 849 = .ok (.iconst 1, 1) := by decide +kernel
theorem dL_law_850 : decode cL_law 850 = .ok (.iadd, 1) := by decide +kernel
theorem dL_law_851 : decode cL_law 851 = .ok (.iaload, 1) := by decide +kernel
theorem dL_law_852 : decode cL_law 852 = .ok (.invokevirtual 106, 3) := by decide +kernel
theorem dL_law_855 : decode cL_law 855 = .ok (.if_icmp .eq 411, 3) := by decide +kernel
theorem dL_law_858 : decode cL_law 858 = .ok (.iconst 0, 1) := by decide +kernel
theorem dL_law_859 : decode cL_law 859 = .ok (.ireturn, 1) := by decide +kernel
theorem dL_law_860 : decode cL_law 860 = .ok (.aload_n 1, 1) := by decide +kernel
theorem dL_law_861 : decode cL_law 861 = .ok (.invokevirtual 107, 3) := by decide +kernel
theorem dL_law_864 : decode cL_law 864 = .ok (.aload_n 2, 1) := by decide +kernel
theorem dL_law_865 : decode cL_law 865 = .ok (.invokevirtual 110, 3) := by decide +kernel
theorem dL_law_868 : decode cL_law 868 = .ok (.if_icmp .eq 398, 3) := by decide +kernel
theorem dL_law_871 : decode cL_law 871 = .ok (.iconst 0, 1) := by decide +kernel
theorem dL_law_872 : decode cL_law 872 = .ok (.ireturn, 1) := by decide +kernel
theorem dL_law_873 : decode cL_law 873 = .ok (.aload_n 1, 1) := by decide +kernel
theorem dL_law_874 : decode cL_law 874 = .ok (.invokevirtual 111, 3) := by decide +kernel
theorem dL_law_877 : decode cL_law 877 = .ok (.aload_n 2, 1) := by decide +kernel
theorem dL_law_878 : decode cL_law 878 = .ok (.invokevirtual 114, 3) := by decide +kernel
theorem dL_law_881 : decode cL_law 881 = .ok (.if_icmp .eq 385, 3) := by decide +kernel
theorem dL_law_884 : decode cL_law 884 = .ok (.iconst 0, 1) := by decide +kernel
theorem dL_law_885 : decode cL_law 885 = .ok (.ireturn, 1) := by decide +kernel
theorem dL_law_886 : decode cL_law 886 = .ok (.aload_n 1, 1) := by decide +kernel
theorem dL_law_887 : decode cL_law 887 = .ok (.aload_n 0, 1) := by decide +kernel
theorem dL_law_888 : decode cL_law 888 = .ok (.iload_n 3, 1) := by decide +kernel
theorem dL_law_889 : decode cL_law 889 = .ok (.iconst 1, 1) := by decide +kernel
theorem dL_law_890 : decode cL_law 890 = .ok (.iadd, 1) := by decide +kernel
theorem dL_law_891 : decode cL_law 891 = .ok (.iaload, 1) := by decide +kernel
theorem dL_law_892 : decode cL_law 892 = .ok (.aload_n 0, 1) := by decide +kernel
theorem dL_law_893 : decode cL_law 893 = .ok (.iload_n 3, 1) := by decide +kernel
theorem dL_law_894 : decode cL_law 894 = .ok (.iconst 2, 1) := by decide +kernel
theorem dL_law_895 : decode cL_law 895 = .ok (.iadd, 1) := by decide +kernel
theorem dL_law_896 : decode cL_law 896 = .ok (.iaload, 1) := by decide +kernel
theorem dL_law_897 : decode cL_law 897 = .ok (.ifCond .eq 7, 3) := by decide +kernel
theorem dL_law_900 : decode cL_law 900 = .ok (.iconst 1, 1) := by decide +kernel
theorem dL_law_901 : decode cL_law 901 = .ok (.goto 4, 3) := by decide +kernel
theorem dL_law_904 : decode cL_law 904 = .ok (.iconst 0, 1) := by decide +kernel
theorem dL_law_905 : decode cL_law 905 = .ok (.invokevirtual 115, 3) := by decide +kernel
theorem dL_law_908 : decode cL_law 908 = .ok (.aload_n 2, 1) := by decide +kernel
theorem dL_law_909 : decode cL_law 909 = .ok (.aload_n 0, 1) := by decide +kernel
theorem dL_law_910 : decode cL_law 910 = .ok (.iload_n 3, 1) := by decide +kernel
theorem dL_law_911 : decode cL_law 911 = .ok (.iconst 1, 1) := by decide +kernel
theorem dL_law_912 : decode cL_law 912 = .ok (.iadd, 1) := by decide +kernel
theorem dL_law_913 : decode cL_law 913 = .ok (.iaload, 1) := by decide +kernel
theorem dL_law_914 : decode cL_law 914 = .ok (.aload_n 0, 1) := by decide +kernel
theorem dL_law_915 : decode cL_law 915 = .ok (.iload_n 3, 1) := by decide +kernel
theorem dL_law_916 : decode cL_law 916 = .ok (.iconst 2, 1) := by decide +kernel
theorem dL_law_917 : decode cL_law 917 = .ok (.iadd, 1) := by decide +kernel
theorem dL_law_918 : decode cL_law 918 = .ok (.iaload, 1) := by decide +kernel
theorem dL_law_919 : decode cL_law 919 = .ok (.ifCond .eq 7, 3) := by decide +kernel
theorem dL_law_922 : decode cL_law 922 = .ok (.iconst 1, 1) := by decide +kernel
theorem dL_law_923 : decode cL_law 923 = .ok (.goto 4, 3) := by decide +kernel
theorem dL_law_926 : decode cL_law 926 = .ok (.iconst 0, 1) := by decide +kernel
theorem dL_law_927 : decode cL_law 927 = .ok (.invokevirtual 118, 3) := by decide +kernel
theorem dL_law_930 : decode cL_law 930 = .ok (.if_icmp .eq 336, 3) := by decide +kernel
theorem dL_law_933 : decode cL_law 933 = .ok (.iconst 0, 1) := by decide +kernel
theorem dL_law_934 : decode cL_law 934 = .ok (.ireturn, 1) := by decide +kernel
theorem dL_law_935 : decode cL_law 935 = .ok (.aload_n 1, 1) := by decide +kernel
theorem dL_law_936 : decode cL_law 936 = .ok (.aload_n 0, 1) := by decide +kernel
theorem dL_law_937 : decode cL_law 937 = .ok (.iload_n 3, 1) := by decide +kernel
theorem dL_law_938 : decode cL_law 938 = .ok (.iconst 1, 1) := by decide +kernel
theorem dL_law_939 : decode cL_law 939 = .ok (.iadd, 1) := by decide +kernel
theorem dL_law_940 : decode cL_law 940 = .ok (.iaload, 1) := by decide +kernel
theorem dL_law_941 : decode cL_law 941 = .ok (.invokevirtual 119, 3) := by decide +kernel
theorem dL_law_944 : decode cL_law 944 = .ok (.aload_n 2, 1) := by decide +kernel
theorem dL_law_945 : decode cL_law 945 = .ok (.aload_n 0, 1) := by decide +kernel
theorem dL_law_946 : decode cL_law 946 = .ok (.iload_n 3, 1) := by decide +kernel
theorem dL_law_947 : decode cL_law 947 = .ok (.iconst 1, 1) := by decide +kernel
theorem dL_law_948 : decode cL_law 948 = .ok (.iadd, 1) := by decide +kernel
theorem dL_law_949 : decode cL_law 949 = .ok (.iaload, 1) := by decide +kernel
theorem dL_law_950 : decode cL_law 950 = .ok (.invokevirtual 122, 3) := by decide +kernel
end
section
theorem dL_law_953 : decode cL_law 953 = .ok (.if_icmp .eq 313, 3) := by decide +kernel
theorem dL_law_956 : decode cL_law 956 = .ok (.iconst 0, 1) := by decide +kernel
theorem dL_law_957 : decode cL_law 957 = .ok (.ireturn, 1) := by decide +kernel
theorem dL_law_958 : decode cL_law 958 = .ok (.aload_n 1, 1) := by decide +kernel
theorem dL_law_959 : decode cL_law 959 = .ok (.invokevirtual 123, 3) := by decide +kernel
theorem dL_law_962 : decode cL_law 962 = .ok (.aload_n 2, 1) := by decide +kernel
theorem dL_law_963 : decode cL_law 963 = .ok (.invokevirtual 126, 3) := by decide +kernel
theorem dL_law_966 : decode cL_law 966 = .ok (.if_icmp .eq 300, 3) := by decide +kernel
theorem dL_law_969 : decode cL_law 969 = .ok (.iconst 0, 1) := by decide +kernel
theorem dL_law_970 : decode cL_law 970 = .ok (.ireturn, 1) := by decide +kernel
theorem dL_law_971 : decode cL_law 971 = .ok (.aload_n 1, 1) := by decide +kernel
theorem dL_law_972 : decode cL_law 972 = .ok (.aload_n 0, 1) := by decide +kernel
theorem dL_law_973 : decode cL_law 973 = .ok (.iload_n 3, 1) := by decide +kernel
theorem dL_law_974 : decode cL_law 974 = .ok (.iconst 1, 1) := by decide +kernel
theorem dL_law_975 : decode cL_law 975 = .ok (.iadd, 1) := by decide +kernel
theorem dL_law_976 : decode cL_law 976 = .ok (.iaload, 1) := by decide +kernel
theorem dL_law_977 : decode cL_law 977 = .ok (.aload_n 0, 1) := by decide +kernel
theorem dL_law_978 : decode cL_law 978 = .ok (.iload_n 3, 1) := by decide +kernel
theorem dL_law_979 : decode cL_law 979 = .ok (.iconst 2, 1) := by decide +kernel
theorem dL_law_980 : decode cL_law 980 = .ok (.iadd, 1) := by decide +kernel
theorem dL_law_981 : decode cL_law 981 = .ok (.iaload, 1) := by decide +kernel
theorem dL_law_982 : decode cL_law 982 = .ok (.invokevirtual 127, 3) := by decide +kernel
theorem dL_law_985 : decode cL_law 985 = .ok (.aload_n 2, 1) := by decide +kernel
theorem dL_law_986 : decode cL_law 986 = .ok (.aload_n 0, 1) := by decide +kernel
theorem dL_law_987 : decode cL_law 987 = .ok (.iload_n 3, 1) := by decide +kernel
theorem dL_law_988 : decode cL_law 988 = .ok (.iconst 1, 1) := by decide +kernel
theorem dL_law_989 : decode cL_law 989 = .ok (.iadd, 1) := by decide +kernel
theorem dL_law_990 : decode cL_law 990 = .ok (.iaload, 1) := by decide +kernel
theorem dL_law_991 : decode cL_law 991 = .ok (.aload_n 0, 1) := by decide +kernel
theorem dL_law_992 : decode cL_law 992 = .ok (.iload_n 3, 1) := by decide +kernel
theorem dL_law_993 : decode cL_law 993 = .ok (.iconst 2, 1) := by decide +kernel
theorem dL_law_994 : decode cL_law 994 = .ok (.iadd, 1) := by decide +kernel
theorem dL_law_995 : decode cL_law 995 = .ok (.iaload, 1) := by decide +kernel
theorem dL_law_996 : decode cL_law 996 = .ok (.invokevirtual 130, 3) := by decide +kernel
theorem dL_law_999 : decode cL_law 999 = .ok (.if_icmp .eq 267, 3) := by decide +kernel
theorem dL_law_1002 : decode cL_law 1002 = .ok (.iconst 0, 1) := by decide +kernel
theorem dL_law_1003 : decode cL_law 1003 = .ok (.ireturn, 1) := by decide +kernel
theorem dL_law_1004 : decode cL_law 1004 = .ok (.aload_n 1, 1) := by decide +kernel
theorem dL_law_1005 : decode cL_law 1005 = .ok (.aload_n 0, 1) := by decide +kernel
theorem dL_law_1006 : decode cL_law 1006 = .ok (.iload_n 3, 1) := by decide +kernel
theorem dL_law_1007 : decode cL_law 1007 = .ok (.iconst 1, 1) := by decide +kernel
theorem dL_law_1008 : decode cL_law 1008 = .ok (.iadd, 1) := by decide +kernel
theorem dL_law_1009 : decode cL_law 1009 = .ok (.iaload, 1) := by decide +kernel
theorem dL_law_1010 : decode cL_law 1010 = .ok (.aload_n 0, 1) := by decide +kernel
theorem dL_law_1011 : decode cL_law 1011 = .ok (.iload_n 3, 1) := by decide +kernel
theorem dL_law_1012 : decode cL_law 1012 = .ok (.iconst 2, 1) := by decide +kernel
theorem dL_law_1013 : decode cL_law 1013 = .ok (.iadd, 1) := by decide +kernel
theorem dL_law_1014 : decode cL_law 1014 = .ok (.iaload, 1) := by decide +kernel
theorem dL_law_1015 : decode cL_law 1015 = .ok (.aload_n 0, 1) := by decide +kernel
theorem dL_law_1016 : decode cL_law 1016 = .ok (.iload_n 3, 1) := by decide +kernel
theorem dL_law_1017 : decode cL_law 1017 = .ok (.iconst 3, 1) := by decide +kernel
theorem dL_law_1018 : decode cL_law 1018 = .ok (.iadd, 1) := by decide +kernel
theorem dL_law_1019 : decode cL_law 1019 = .ok (.iaload, 1) := by decide +kernel
theorem dL_law_1020 : decode cL_law 1020 = .ok (.invokevirtual 131, 3) := by decide +kernel
theorem dL_law_1023 : decode cL_law 1023 = .ok (.aload_n 2, 1) := by decide +kernel
theorem dL_law_1024 : decode cL_law 1024 = .ok (.aload_n 0, 1) := by decide +kernel
theorem dL_law_1025 : decode cL_law 1025 = .ok (.iload_n 3, 1) := by decide +kernel
theorem dL_law_1026 : decode cL_law 1026 = .ok (.iconst 1, 1) := by decide +kernel
theorem dL_law_1027 : decode cL_law 1027 = .ok (.iadd, 1) := by decide +kernel
theorem dL_law_1028 : decode cL_law 1028 = .ok (.iaload, 1) := by decide +kernel
theorem dL_law_1029 : decode cL_law 1029 = .ok (.aload_n 0, 1) := by decide +kernel
theorem dL_law_1030 : decode cL_law 1030 = .ok (.iload_n 3, 1) := by decide +kernel
theorem dL_law_1031 : decode cL_law 1031 = .ok (.iconst 2, 1) := by decide +kernel
theorem dL_law_1032 : decode cL_law 1032 = .ok (.iadd, 1) := by decide +kernel
theorem dL_law_1033 : decode cL_law 1033 = .ok (.iaload, 1) := by decide +kernel
theorem dL_law_1034 : decode cL_law 1034 = .ok (.aload_n 0, 1) := by decide +kernel
theorem dL_law_1035 : decode cL_law 1035 = .ok (.iload_n 3, 1) := by decide +kernel
theorem dL_law_1036 : decode cL_law 1036 = .ok (.iconst 3, 1) := by decide +kernel
theorem dL_law_1037 : decode cL_law 1037 = .ok (.iadd, 1) := by decide +kernel
theorem dL_law_1038 : decode cL_law 1038 = .ok (.iaload, 1) := by decide +kernel
theorem dL_law_1039 : decode cL_law 1039 = .ok (.invokevirtual 134, 3) := by decide +kernel
theorem dL_law_1042 : decode cL_law 1042 = .ok (.if_icmp .eq 224, 3) := by decide +kernel
theorem dL_law_1045 : decode cL_law 1045 = .ok (.iconst 0, 1) := by decide +kernel
theorem dL_law_1046 : decode cL_law 1046 = .ok (.ireturn, 1) := by decide +kernel
theorem dL_law_1047 : decode cL_law 1047 = .ok (.aload_n 1, 1) := by decide +kernel
theorem dL_law_1048 : decode cL_law 1048 = .ok (.aload_n 0, 1) := by decide +kernel
theorem dL_law_1049 : decode cL_law 1049 = .ok (.iload_n 3, 1) := by decide +kernel
theorem dL_law_1050 : decode cL_law 1050 = .ok (.iconst 1, 1) := by decide +kernel
theorem dL_law_1051 : decode cL_law 1051 = .ok (.iadd, 1) := by decide +kernel
theorem dL_law_1052 : decode cL_law 1052 = .ok (.iaload, 1) := by decide +kernel
theorem dL_law_1053 : decode cL_law 1053 = .ok (.invokevirtual 135, 3) := by decide +kernel
theorem dL_law_1056 : decode cL_law 1056 = .ok (.aload_n 2, 1) := by decide +kernel
theorem dL_law_1057 : decode cL_law 1057 = .ok (.aload_n 0, 1) := by decide +kernel
theorem dL_law_1058 : decode cL_law 1058 = .ok (.iload_n 3, 1) := by decide +kernel
theorem dL_law_1059 : decode cL_law 1059 = .ok (.iconst 1, 1) := by decide +kernel
theorem dL_law_1060 : decode cL_law 1060 = .ok (.iadd, 1) := by decide +kernel
theorem dL_law_1061 : decode cL_law 1061 = .ok (.iaload, 1) := by decide +kernel
theorem dL_law_1062 : decode cL_law 1062 = .ok (.invokevirtual 138, 3) := by decide +kernel
theorem dL_law_1065 : decode cL_law 1065 = .ok (.if_icmp .eq 201, 3) := by decide +kernel
theorem dL_law_1068 : decode cL_law 1068 = .ok (.iconst 0, 1) := by decide +kernel
theorem dL_law_1069 : decode cL_law 1069 = .ok (.ireturn, 1) := by decide +kernel
theorem dL_law_1070 : decode cL_law 1070 = .ok (.aload_n 1, 1) := by decide +kernel
theorem dL_law_1071 : decode cL_law 1071 = .ok (.aload_n 0, 1) := by decide +kernel
theorem dL_law_1072 : decode cL_law 1072 = .ok (.iload_n 3, 1) := by decide +kernel
theorem dL_law_1073 : decode cL_law 1073 = .ok (.iconst 1, 1) := by decide +kernel
theorem dL_law_1074 : decode cL_law 1074 = .ok (.iadd, 1) := by decide +kernel
theorem dL_law_1075 : decode cL_law 1075 = .ok (.iaload, 1) := by decide +kernel
theorem dL_law_1076 : decode cL_law 1076 = .ok (.aload_n 0, 1) := by decide +kernel
theorem dL_law_1077 : decode cL_law 1077 = .ok (.iload_n 3, 1) := by decide +kernel
theorem dL_law_1078 : decode cL_law 1078 = .ok (.iconst 2, 1) := by decide +kernel
theorem dL_law_1079 : decode cL_law 1079 = .ok (.iadd, 1) := by decide +kernel
theorem dL_law_1080 : decode cL_law 1080 = .ok (.iaload, 1) := by decide +kernel
theorem dL_law_1081 : decode cL_law 1081 = .ok (.aload_n 0, 1) := by decide +kernel
theorem dL_law_1082 : decode cL_law 1082 = .ok (.iload_n 3, 1) := by decide +kernel
theorem dL_law_1083 : decode cL_law 1083 = .ok (.iconst 3, 1) := by decide +kernel
theorem dL_law_1084 : decode cL_law 1084 = .ok (.iadd, 1) := by decide +kernel
theorem dL_law_1085 : decode cL_law 1085 = .ok (.iaload, 1) := by decide +kernel
theorem dL_law_1086 : decode cL_law 1086 = .ok (.aload_n 0, 1) := by decide +kernel
theorem dL_law_1087 : decode cL_law 1087 = .ok (.iload_n 3, 1) := by decide +kernel
theorem dL_law_1088 : decode cL_law 1088 = .ok (.iconst 4, 1) := by decide +kernel
theorem dL_law_1089 : decode cL_law 1089 = .ok (.iadd, 1) := by decide +kernel
theorem dL_law_1090 : decode cL_law 1090 = .ok (.iaload, 1) := by decide +kernel
theorem dL_law_1091 : decode cL_law 1091 = .ok (.invokevirtual 139, 3) := by decide +kernel
theorem dL_law_1094 : decode cL_law 1094 = .ok (.aload_n 2, 1) := by decide +kernel
theorem dL_law_1095 : decode cL_law 1095 = .ok (.aload_n 0, 1) := by decide +kernel
theorem dL_law_1096 : decode cL_law 1096 = .ok (.iload_n 3, 1) := by decide +kernel
theorem dL_law_1097 : decode cL_law 1097 = .ok (.iconst 1, 1) := by decide +kernel
theorem dL_law_1098 : decode cL_law 1098 = .ok (.iadd, 1) := by decide +kernel
theorem dL_law_1099 : decode cL_law 1099 = .ok (.iaload, 1) := by decide +kernel
theorem dL_law_1100 : decode cL_law 1100 = .ok (.aload_n 0, 1) := by decide +kernel
theorem dL_law_1101 : decode cL_law 1101 = .ok (.iload_n 3, 1) := by decide +kernel
theorem dL_law_1102 : decode cL_law 1102 = .ok (.iconst 2, 1) := by decide +kernel
theorem dL_law_1103 : decode cL_law 1103 = .ok (.iadd, 1) := by decide +kernel
theorem dL_law_1104 : decode cL_law 1104 = .ok (.iaload, 1) := by decide +kernel
theorem dL_law_1105 : decode cL_law 1105 = .ok (.aload_n 0, 1) := by decide +kernel
theorem dL_law_1106 : decode cL_law 1106 = .ok (.iload_n 3, 1) := by decide +kernel
theorem dL_law_1107 : decode cL_law 1107 = .ok (.iconst 3, 1) := by decide +kernel
theorem dL_law_1108 : decode cL_law 1108 = .ok (.iadd, 1) := by decide +kernel
theorem dL_law_1109 : decode cL_law 1109 = .ok (.iaload, 1) := by decide +kernel
theorem dL_law_1110 : decode cL_law 1110 = .ok (.aload_n 0, 1) := by decide +kernel
theorem dL_law_1111 : decode cL_law 1111 = .ok (.iload_n 3, 1) := by decide +kernel
theorem dL_law_1112 : decode cL_law 1112 = .ok (.iconst 4, 1) := by decide +kernel
theorem dL_law_1113 : decode cL_law 1113 = .ok (.iadd, 1) := by decide +kernel
theorem dL_law_1114 : decode cL_law 1114 = .ok (.iaload, 1) := by decide +kernel
theorem dL_law_1115 : decode cL_law 1115 = .ok (.invokevirtual 142, 3) := by decide +kernel
theorem dL_law_1118 : decode cL_law 1118 = .ok (.if_icmp .eq 148, 3) := by decide +kernel
theorem dL_law_1121 : decode cL_law 1121 = .ok (.iconst 0, 1) := by decide +kernel
theorem dL_law_1122 : decode cL_law 1122 = .ok (.ireturn, 1) := by decide +kernel
theorem dL_law_1123 : decode cL_law 1123 = .ok (.aload_n 1, 1) := by decide +kernel
theorem dL_law_1124 : decode cL_law 1124 = .ok (.aload_n 0, 1) := by decide +kernel
theorem dL_law_1125 : decode cL_law 1125 = .ok (.iload_n 3, 1) := by decide +kernel
theorem dL_law_1126 : decode cL_law 1126 = .ok (.iconst 1, 1) := by decide +kernel
theorem dL_law_1127 : decode cL_law 1127 = .ok (.iadd, 1) := by decide +kernel
theorem dL_law_1128 : decode cL_law 1128 = .ok (.iaload, 1) := by decide +kernel
theorem dL_law_1129 : decode cL_law 1129 = .ok (.aload_n 0, 1) := by decide +kernel
theorem dL_law_1130 : decode cL_law 1130 = .ok (.iload_n 3, 1) := by decide +kernel
theorem dL_law_1131 : decode cL_law 1131 = .ok (.iconst 2, 1) := by decide +kernel
theorem dL_law_1132 : decode cL_law 1132 = .ok (.iadd, 1) := by decide +kernel
theorem dL_law_1133 : decode cL_law 1133 = .ok (.iaload, 1) := by decide +kernel
theorem dL_law_1134 : decode cL_law 1134 = .ok (.aload_n 0, 1) := by decide +kernel
theorem dL_law_1135 : decode cL_law 1135 = .ok (.iload_n 3, 1) := by decide +kernel
theorem dL_law_1136 : decode cL_law 1136 = .ok (.iconst 3, 1) := by decide +kernel
theorem dL_law_1137 : decode cL_law 1137 = .ok (.iadd, 1) := by decide +kernel
theorem dL_law_1138 : decode cL_law 1138 = .ok (.iaload, 1) := by decide +kernel
theorem dL_law_1139 : decode cL_law 1139 = .ok (.invokevirtual 143, 3) := by decide +kernel
theorem dL_law_1142 : decode cL_law 1142 = .ok (.aload_n 2, 1) := by decide +kernel
theorem dL_law_1143 : decode cL_law 1143 = .ok (.aload_n 0, 1) := by decide +kernel
theorem dL_law_1144 : decode cL_law 1144 = .ok (.iload_n 3, 1) := by decide +kernel
theorem dL_law_1145 : decode cL_law 1145 = .ok (.iconst 1, 1) := by decide +kernel
theorem dL_law_1146 : decode cL_law 1146 = .ok (.iadd, 1) := by decide +kernel
theorem dL_law_1147 : decode cL_law 1147 = .ok (.iaload, 1) := by decide +kernel
theorem dL_law_1148 : decode cL_law 1148 = .ok (.aload_n 0, 1) := by decide +kernel
theorem dL_law_1149 : decode cL_law 1149 = .ok (.iload_n 3, 1) := by decide +kernel
theorem dL_law_1150 : decode cL_law 1150 = .ok (.iconst 2, 1) := by decide +kernel
theorem dL_law_1151 : decode cL_law 1151 = .ok (.iadd, 1) := by decide +kernel
theorem dL_law_1152 : decode cL_law 1152 = .ok (.iaload, 1) := by decide +kernel
theorem dL_law_1153 : decode cL_law 1153 = .ok (.aload_n 0, 1) := by decide +kernel
theorem dL_law_1154 : decode cL_law 1154 = .ok (.iload_n 3, 1) := by decide +kernel
theorem dL_law_1155 : decode cL_law 1155 = .ok (.iconst 3, 1) := by decide +kernel
theorem dL_law_1156 : decode cL_law 1156 = .ok (.iadd, 1) := by decide +kernel
theorem dL_law_1157 : decode cL_law 1157 = .ok (.iaload, 1) := by decide +kernel
theorem dL_law_1158 : decode cL_law 1158 = .ok (.invokevirtual 146, 3) := by decide +kernel
theorem dL_law_1161 : decode cL_law 1161 = .ok (.if_icmp .eq 105, 3) := by decide +kernel
theorem dL_law_1164 : decode cL_law 1164 = .ok (.iconst 0, 1) := by decide +kernel
theorem dL_law_1165 : decode cL_law 1165 = .ok (.ireturn, 1) := by decide +kernel
theorem dL_law_1166 : decode cL_law 1166 = .ok (.aload_n 1, 1) := by decide +kernel
theorem dL_law_1167 : decode cL_law 1167 = .ok (.aload_n 0, 1) := by decide +kernel
theorem dL_law_1168 : decode cL_law 1168 = .ok (.iload_n 3, 1) := by decide +kernel
theorem dL_law_1169 : decode cL_law 1169 = .ok (.iconst 1, 1) := by decide +kernel
theorem dL_law_1170 : decode cL_law 1170 = .ok (.iadd, 1) := by decide +kernel
theorem dL_law_1171 : decode cL_law 1171 = .ok (.iaload, 1) := by decide +kernel
theorem dL_law_1172 : decode cL_law 1172 = .ok (.aload_n 0, 1) := by decide +kernel
theorem dL_law_1173 : decode cL_law 1173 = .ok (.iload_n 3, 1) := by decide +kernel
theorem dL_law_1174 : decode cL_law 1174 = .ok (.iconst 2, 1) := by decide +kernel
theorem dL_law_1175 : decode cL_law 1175 = .ok (.iadd, 1) := by decide +kernel
theorem dL_law_1176 : decode cL_law 1176 = .ok (.iaload, 1) := by decide +kernel
theorem dL_law_1177 : decode cL_law 1177 = .ok (.aload_n 0, 1) := by decide +kernel
theorem dL_law_1178 : decode cL_law 1178 = .ok (.iload_n 3, 1) := by decide +kernel
theorem dL_law_1179 : decode cL_law 1179 = .ok (.iconst 3, 1) := by decide +kernel
theorem dL_law_1180 : decode cL_law 1180 = .ok (.iadd, 1) := by decide +kernel
theorem dL_law_1181 : decode cL_law 1181 = .ok (.iaload, 1) := by decide +kernel
theorem dL_law_1182 : decode cL_law 1182 = .ok (.aload_n 0, 1) := by decide +kernel
theorem dL_law_1183 : decode cL_law 1183 = .ok (.iload_n 3, 1) := by decide +kernel
theorem dL_law_1184 : decode cL_law 1184 = .ok (.iconst 4, 1) := by decide +kernel
theorem dL_law_1185 : decode cL_law 1185 = .ok (.iadd, 1) := by decide +kernel
theorem dL_law_1186 : decode cL_law 1186 = .ok (.iaload, 1) := by decide +kernel
theorem dL_law_1187 : decode cL_law 1187 = .ok (.aload_n 0, 1) := by decide +kernel
theorem dL_law_1188 : decode cL_law 1188 = .ok (.iload_n 3, 1) := by decide +kernel
theorem dL_law_1189 : decode cL_law 1189 = .ok (.iconst 5, 1) := by decide +kernel
theorem dL_law_1190 : decode cL_law 1190 = .ok (.iadd, 1) := by decide +kernel
theorem dL_law_1191 : decode cL_law 1191 = .ok (.iaload, 1) := by decide +kernel
theorem dL_law_1192 : decode cL_law 1192 = .ok (.invokevirtual 147, 3) := by decide +kernel
theorem dL_law_1195 : decode cL_law 1195 = .ok (.aload_n 2, 1) := by decide +kernel
theorem dL_law_1196 : decode cL_law 1196 = .ok (.aload_n 0, 1) := by decide +kernel
theorem dL_law_1197 : decode cL_law 1197 = .ok (.iload_n 3, 1) := by decide +kernel
theorem dL_law_1198 : decode cL_law 1198 = .ok (.iconst 1, 1) := by decide +kernel
theorem dL_law_1199 : decode cL_law 1199 = .ok (.iadd, 1) := by decide +kernel
theorem dL_law_1200 : decode cL_law 1200 = .ok (.iaload, 1) := by decide +kernel
theorem dL_law_1201 : decode cL_law 1201 = .ok (.aload_n 0, 1) := by decide +kernel
theorem dL_law_1202 : decode cL_law 1202 = .ok (.iload_n 3, 1) := by decide +kernel
theorem dL_law_1203 : decode cL_law 1203 = .ok (.iconst 2, 1) := by decide +kernel
theorem dL_law_1204 : decode cL_law 1204 = .ok (.iadd, 1) := by decide +kernel
theorem dL_law_1205 : decode cL_law 1205 = .ok (.iaload, 1) := by decide +kernel
theorem dL_law_1206 : decode cL_law 1206 = .ok (.aload_n 0, 1) := by decide +kernel
theorem dL_law_1207 : decode cL_law 1207 = .ok (.iload_n 3, 1) := by decide +kernel
theorem dL_law_1208 : decode cL_law 1208 = .ok (.iconst 3, 1) := by decide +kernel
theorem dL_law_1209 : decode cL_law 1209 = .ok (.iadd, 1) := by decide +kernel
theorem dL_law_1210 : decode cL_law 1210 = .ok (.iaload, 1) := by decide +kernel
theorem dL_law_1211 : decode cL_law 1211 = .ok (.aload_n 0, 1) := by decide +kernel
theorem dL_law_1212 : decode cL_law 1212 = .ok (.iload_n 3, 1) := by decide +kernel
theorem dL_law_1213 : decode cL_law 1213 = .ok (.iconst 4, 1) := by decide +kernel
theorem dL_law_1214 : decode cL_law 1214 = .ok (.iadd, 1) := by decide +kernel
theorem dL_law_1215 : decode cL_law 1215 = .ok (.iaload, 1) := by decide +kernel
theorem dL_law_1216 : decode cL_law 1216 = .ok (.aload_n 0, 1) := by decide +kernel
theorem dL_law_1217 : decode cL_law 1217 = .ok (.iload_n 3, 1) := by decide +kernel
theorem dL_law_1218 : decode cL_law 1218 = .ok (.iconst 5, 1) := by decide +kernel
theorem dL_law_1219 : decode cL_law 1219 = .ok (.iadd, 1) := by decide +kernel
theorem dL_law_1220 : decode cL_law 1220 = .ok (.iaload, 1) := by decide +kernel
theorem dL_law_1221 : decode cL_law 1221 = .ok (.invokevirtual 151, 3) := by decide +kernel
theorem dL_law_1224 : decode cL_law 1224 = .ok (.if_icmp .eq 42, 3) := by decide +kernel
theorem dL_law_1227 : decode cL_law 1227 = .ok (.iconst 0, 1) := by decide +kernel
theorem dL_law_1228 : decode cL_law 1228 = .ok (.ireturn, 1) := by decide +kernel
theorem dL_law_1229 : decode cL_law 1229 = .ok (.aload_n 1, 1) := by decide +kernel
theorem dL_law_1230 : decode cL_law 1230 = .ok (.aload_n 0, 1) := by decide +kernel
theorem dL_law_1231 : decode cL_law 1231 = .ok (.iload_n 3, 1) := by decide +kernel
theorem dL_law_1232 : decode cL_law 1232 = .ok (.iconst 1, 1) := by decide +kernel
theorem dL_law_1233 : decode cL_law 1233 = .ok (.iadd, 1) := by decide +kernel
theorem dL_law_1234 : decode cL_law 1234 = .ok (.iaload, 1) := by decide +kernel
theorem dL_law_1235 : decode cL_law 1235 = .ok (.invokevirtual 152, 3) := by decide +kernel
theorem dL_law_1238 : decode cL_law 1238 = .ok (.aload_n 2, 1) := by decide +kernel
theorem dL_law_1239 : decode cL_law 1239 = .ok (.aload_n 0, 1) := by decide +kernel
theorem dL_law_1240 : decode cL_law 1240 = .ok (.iload_n 3, 1) := by decide +kernel
theorem dL_law_1241 : decode cL_law 1241 = .ok (.iconst 1, 1) := by decide +kernel
theorem dL_law_1242 : decode cL_law 1242 = .ok (.iadd, 1) := by decide +kernel
theorem dL_law_1243 : decode cL_law 1243 = .ok (.iaload, 1) := by decide +kernel
theorem dL_law_1244 : decode cL_law 1244 = .ok (.invokevirtual 155, 3) := by decide +kernel
theorem dL_law_1247 : decode cL_law 1247 = .ok (.if_icmp .eq 19, 3) := by decide +kernel
theorem dL_law_1250 : decode cL_law 1250 = .ok (.iconst 0, 1) := by decide +kernel
theorem dL_law_1251 : decode cL_law 1251 = .ok (.ireturn, 1) := by decide +kernel
theorem dL_law_1252 : decode cL_law 1252 = .ok (.aload_n 1, 1) := by decide +kernel
theorem dL_law_1253 : decode cL_law 1253 = .ok (.invokevirtual 156, 3) := by decide +kernel
theorem dL_law_1256 : decode cL_law 1256 = .ok (.aload_n 2, 1) := by decide +kernel
theorem dL_law_1257 : decode cL_law 1257 = .ok (.invokevirtual 160, 3) := by decide +kernel
theorem dL_law_1260 : decode cL_law 1260 = .ok (.lcmp, 1) := by decide +kernel
theorem dL_law_1261 : decode cL_law 1261 = .ok (.ifCond .eq 5, 3) := by decide +kernel
theorem dL_law_1264 : decode cL_law 1264 = .ok (.iconst 0, 1) := by decide +kernel
theorem dL_law_1265 : decode cL_law 1265 = .ok (.ireturn, 1) := by decide +kernel
theorem dL_law_1266 : decode cL_law 1266 = .ok (.iinc 3 6, 3) := by decide +kernel
theorem dL_law_1269 : decode cL_law 1269 = .ok (.goto (-1251), 3) := by decide +kernel
theorem dL_law_1272 : decode cL_law 1272 = .ok (.iconst 1, 1) := by decide +kernel
theorem dL_law_1273 : decode cL_law 1273 = .ok (.ireturn, 1) := by decide +kernel
end
section
/-! THE SMALL MACHINE. Memory: ints, longs, references by (cell, place), and how many cells there are; cells are numbered as they are made. -/
abbrev zM : Type := (Nat → Nat → Int32) × (Nat → Nat → Int64) × (Nat → Nat → Option Nat) × Nat
abbrev zL : Type := List (Option Value)
abbrev zC : Type := List Value → zL → zM → Prop
abbrev zE : Type := Nat → Nat → List Value → zM → (Option Value → zM → Prop) → Prop
abbrev zO : Type := Nat → zE → (Option Value → zM → Prop) → (Nat → zC) → zC → zC
abbrev zB : Type := List (zO × Nat)
def zX (n1 : Nat) (E : zE) (Q : Option Value → zM → Prop) (G : Nat → zC) : zB → zC
  | [] => fun _ _ _ => False
  | (o, _) :: r => o n1 E Q G (zX n1 E Q G r)
/-- the cells in the order of their making: an object of a class, an array (0 int, 1 long, 2 boolean; length) -/
def zShpL : List (Nat ⊕ (Nat × Nat)) := [.inl 9, .inl 6, .inr (0, 8), .inr (0, 8), .inr (0, 8), .inr (0, 8), .inl 3, .inr (0, 8), .inr (0, 24), .inr (0, 24), .inl 2, .inr (0, 12), .inr (0, 12), .inr (0, 12), .inr (0, 12), .inr (0, 12), .inr (0, 6), .inl 8, .inl 4, .inr (0, 3), .inr (0, 3), .inr (0, 3), .inl 1, .inr (0, 200), .inr (0, 200), .inr (0, 200), .inr (0, 200), .inr (0, 200), .inr (0, 200), .inr (0, 200), .inr (0, 200), .inr (0, 200), .inr (0, 200), .inl 0, .inr (0, 6), .inl 5, .inr (0, 7), .inr (0, 7), .inr (0, 7), .inr (0, 7), .inr (0, 7), .inr (2, 7), .inl 7, .inr (0, 800), .inr (0, 4), .inr (0, 4), .inl 10, .inr (0, 6), .inr (0, 8), .inr (0, 8), .inr (0, 8), .inr (0, 8), .inr (0, 12), .inr (0, 12), .inr (0, 12), .inr (0, 12), .inr (0, 12), .inr (0, 200), .inr (0, 200), .inr (0, 200), .inr (0, 200), .inr (0, 200), .inr (0, 200), .inr (0, 200), .inr (0, 200), .inr (1, 7), .inr (0, 8), .inr (0, 24), .inr (0, 24), .inr (0, 3), .inr (0, 6), .inr (0, 7), .inr (0, 7), .inr (0, 7), .inr (0, 7), .inr (0, 7), .inr (2, 200), .inr (0, 4), .inr (0, 4), .inr (0, 800), .inr (0, 200)]
def zshp (k : Nat) : Nat ⊕ (Nat × Nat) := zShpL.getD k (.inr (9, 0))
/-- which fields of a class are references -/
def zNL : List (List Bool) := [[false, false, false, false, false, false, false], [true, true, true, true, true, true, true, true, true, true, false, false], [true, true, true, true, true, false], [true, true, true], [true, false, true, true, false], [true, false, false, true, true, true, true, true, false, false, false], [true, true, true, true, false], [true, false, true, true], [false, false, false, false, false, false, false, false], [true, true, true, true, true, true, true, true, true, true, true, false, false, false, false], [true, false, true, true, true, true, false, true, true, true, true, true, false, false, true, true, true, true, true, true, true, true, false, false, true, true, true, true, true, false, false, false, false, false, false, false, true, false, true, true, true, false, true, true, false, false, true, true, true, true, true, false]]
def zfr (ci j : Nat) : Bool := (zNL.getD ci []).getD j false
def zN (ci : Nat) : Nat := (zNL.getD ci []).length
def zsz (k : Nat) : Nat := match zshp k with
  | .inl ci => zN ci
  | .inr q => q.2
def zss : Nat → Nat
  | 0 => 0
  | n + 1 => zss n + zsz n
/-- where the references point, once all is made -/
def zRL : List (List (Option Nat)) := [[some 1, some 6, some 10, some 16, some 17, some 18, some 22, some 33, some 34, some 35, some 42, none, none, none, none], [some 2, some 3, some 4, some 5, none], [], [], [], [], [some 7, some 8, some 9], [], [], [], [some 11, some 12, some 13, some 14, some 15, none], [], [], [], [], [], [], [none, none, none, none, none, none, none, none], [some 19, none, some 20, some 21, none], [], [], [], [some 23, some 24, some 25, some 26, some 27, some 28, some 29, some 30, some 31, some 32, none, none], [], [], [], [], [], [], [], [], [], [], [none, none, none, none, none, none, none], [], [some 36, none, none, some 37, some 38, some 39, some 40, some 41, none, none, none], [], [], [], [], [], [], [some 43, none, some 44, some 45], [], [], [], [some 47, none, some 48, some 49, some 50, some 51, none, some 52, some 53, some 54, some 55, some 56, none, none, some 57, some 58, some 59, some 60, some 61, some 62, some 63, some 64, none, none, some 65, some 66, some 67, some 68, some 69, none, none, none, none, none, none, none, some 70, none, some 71, some 72, some 73, none, some 74, some 75, none, none, some 76, some 77, some 78, some 79, some 80, none], [], [], [], [], [], [], [], [], [], [], [], [], [], [], [], [], [], [], [], [], [], [], [], [], [], [], [], [], [], [], [], [], [], []]
def zR (k j : Nat) : Option Nat := (zRL.getD k []).getD j none
def zwI (M : zM) (k j : Nat) (v : Int32) : zM := (va_up M.1 k (va_up (M.1 k) j v), M.2)
def zwJ (M : zM) (k j : Nat) (v : Int64) : zM := (M.1, va_up M.2.1 k (va_up (M.2.1 k) j v), M.2.2)
def zwR (M : zM) (k j r : Nat) : zM := (M.1, M.2.1, va_up M.2.2.1 k (va_up (M.2.2.1 k) j (some r)), M.2.2.2)
def zwA (M : zM) (k : Nat) (f : Nat → Int32) : zM := (va_up M.1 k f, M.2)
/-- one cell more, as it is born -/
def znew (M : zM) : zM := (va_up M.1 M.2.2.2 (fun _ => 0), va_up M.2.1 M.2.2.2 (fun _ => 0), va_up M.2.2.1 M.2.2.2 (fun _ => none), M.2.2.2 + 1)
def zokO (M : zM) (k ci : Nat) : Bool := Nat.blt k M.2.2.2 && (match zshp k with
  | .inl c => Nat.beq c ci
  | .inr _ => false)
def zlen (M : zM) (k ty : Nat) : Option Nat := cond (Nat.blt k M.2.2.2) (match zshp k with
  | .inl _ => none
  | .inr q => cond (Nat.beq q.1 ty) (some q.2) none) none
def zcat (st : List Value) : Nat := (st.map fun v => v.category).sum
def zkill (L : zL) (i : Nat) : zL := match i with
  | 0 => L
  | k + 1 => match L[k]? with
    | some (some w) => cond (Nat.beq w.category 2) (L.set k none) L
    | _ => L
def zst (L : zL) (i : Nat) (v : Value) : zL := (zkill L i).set i (some v)
def zst2 (L : zL) (i : Nat) (v : Value) : zL := ((zkill L i).set i (some v)).set (i + 1) none
def zent (n : Nat) (vs : List Value) : zL := (vs.flatMap fun v => cond (Nat.beq v.category 2) [some v, none] [some v]) ++ List.replicate (n - (vs.flatMap fun v => cond (Nat.beq v.category 2) [some v, none] [some v]).length) none
/-! the ops: n1 E Q G K st L M (how many cells at the end, callees, the end, jumps, what goes on) -/
def oI (v : Int32) : zO := fun _ _ _ _ K st L M => K (.int v :: st) L M
def oJ (v : Int64) : zO := fun _ _ _ _ K st L M => K (.long v :: st) L M
def oIl (i : Nat) : zO := fun _ _ _ _ K st L M => match L[i]? with
  | some (some (.int x)) => K (.int x :: st) L M
  | _ => False
def oJl (i : Nat) : zO := fun _ _ _ _ K st L M => match L[i]? with
  | some (some (.long x)) => K (.long x :: st) L M
  | _ => False
def oAl (i : Nat) : zO := fun _ _ _ _ K st L M => match L[i]? with
  | some (some (.ref x)) => K (.ref x :: st) L M
  | _ => False
def oIs (i : Nat) : zO := fun _ _ _ _ K st L M => match st with
  | .int x :: r => cond (Nat.blt i L.length) (K r (zst L i (.int x)) M) False
  | _ => False
def oAs (i : Nat) : zO := fun _ _ _ _ K st L M => match st with
  | .ref x :: r => cond (Nat.blt i L.length) (K r (zst L i (.ref x)) M) False
  | _ => False
def oJs (i : Nat) : zO := fun _ _ _ _ K st L M => match st with
  | .long x :: r => cond (Nat.blt (i + 1) L.length) (K r (zst2 L i (.long x)) M) False
  | _ => False
def oInc (i : Nat) (v : Int32) : zO := fun _ _ _ _ K st L M => match L[i]? with
  | some (some (.int x)) => K st (zst L i (.int (x + v))) M
  | _ => False
def oAdd : zO := fun _ _ _ _ K st L M => match st with
  | .int y :: .int x :: r => K (.int (x + y) :: r) L M
  | _ => False
def oSub : zO := fun _ _ _ _ K st L M => match st with
  | .int y :: .int x :: r => K (.int (x - y) :: r) L M
  | _ => False
def oMul : zO := fun _ _ _ _ K st L M => match st with
  | .int y :: .int x :: r => K (.int (x * y) :: r) L M
  | _ => False
def oAnd : zO := fun _ _ _ _ K st L M => match st with
  | .int y :: .int x :: r => K (.int (x &&& y) :: r) L M
  | _ => False
def oXor : zO := fun _ _ _ _ K st L M => match st with
  | .int y :: .int x :: r => K (.int (x ^^^ y) :: r) L M
  | _ => False
def oJadd : zO := fun _ _ _ _ K st L M => match st with
  | .long y :: .long x :: r => K (.long (x + y) :: r) L M
  | _ => False
def oJmul : zO := fun _ _ _ _ K st L M => match st with
  | .long y :: .long x :: r => K (.long (x * y) :: r) L M
  | _ => False
def oJcmp : zO := fun _ _ _ _ K st L M => match st with
  | .long y :: .long x :: r => K (.int (lg_cmp x y) :: r) L M
  | _ => False
def oDiv : zO := fun _ _ _ _ K st L M => match st with
  | .int y :: .int x :: r => (¬ y = 0) ∧ K (.int (x / y) :: r) L M
  | _ => False
def oJdiv : zO := fun _ _ _ _ K st L M => match st with
  | .long y :: .long x :: r => (¬ y = 0) ∧ K (.long (x / y) :: r) L M
  | _ => False
def oI2l : zO := fun _ _ _ _ K st L M => match st with
  | .int x :: r => K (.long (x.toInt64) :: r) L M
  | _ => False
def oL2i : zO := fun _ _ _ _ K st L M => match st with
  | .long x :: r => K (.int (x.toInt32) :: r) L M
  | _ => False
def oI2b : zO := fun _ _ _ _ K st L M => match st with
  | .int x :: r => K (.int (x.toInt8.toInt32) :: r) L M
  | _ => False
def oI2s : zO := fun _ _ _ _ K st L M => match st with
  | .int x :: r => K (.int (x.toInt16.toInt32) :: r) L M
  | _ => False
def oDup : zO := fun _ _ _ _ K st L M => match st with
  | v :: r => cond (Nat.beq v.category 1) (K (v :: v :: r) L M) False
  | _ => False
def oPop : zO := fun _ _ _ _ K st L M => match st with
  | v :: r => cond (Nat.beq v.category 1) (K r L M) False
  | _ => False
def oDup2 : zO := fun _ _ _ _ K st L M => match st with
  | v :: w :: r => cond (Nat.beq v.category 1 && Nat.beq w.category 1) (K (v :: w :: v :: w :: r) L M) False
  | _ => False
def oGo (t : Nat) : zO := fun _ _ _ G _ st L M => G t st L M
def oIfEq (t : Nat) : zO := fun _ _ _ G K st L M => match st with
  | .int x :: r => (x = 0 → G t r L M) ∧ (¬ x = 0 → K r L M)
  | _ => False
def oCmpEq (t : Nat) : zO := fun _ _ _ G K st L M => match st with
  | .int y :: .int x :: r => (x = y → G t r L M) ∧ (¬ x = y → K r L M)
  | _ => False
def oIfNe (t : Nat) : zO := fun _ _ _ G K st L M => match st with
  | .int x :: r => (¬ x = 0 → G t r L M) ∧ (x = 0 → K r L M)
  | _ => False
def oCmpNe (t : Nat) : zO := fun _ _ _ G K st L M => match st with
  | .int y :: .int x :: r => (¬ x = y → G t r L M) ∧ (x = y → K r L M)
  | _ => False
def oIfLt (t : Nat) : zO := fun _ _ _ G K st L M => match st with
  | .int x :: r => (x < 0 → G t r L M) ∧ (¬ x < 0 → K r L M)
  | _ => False
def oCmpLt (t : Nat) : zO := fun _ _ _ G K st L M => match st with
  | .int y :: .int x :: r => (x < y → G t r L M) ∧ (¬ x < y → K r L M)
  | _ => False
def oIfGe (t : Nat) : zO := fun _ _ _ G K st L M => match st with
  | .int x :: r => (0 ≤ x → G t r L M) ∧ (¬ 0 ≤ x → K r L M)
  | _ => False
def oCmpGe (t : Nat) : zO := fun _ _ _ G K st L M => match st with
  | .int y :: .int x :: r => (y ≤ x → G t r L M) ∧ (¬ y ≤ x → K r L M)
  | _ => False
def oIfGt (t : Nat) : zO := fun _ _ _ G K st L M => match st with
  | .int x :: r => (0 < x → G t r L M) ∧ (¬ 0 < x → K r L M)
  | _ => False
def oCmpGt (t : Nat) : zO := fun _ _ _ G K st L M => match st with
  | .int y :: .int x :: r => (y < x → G t r L M) ∧ (¬ y < x → K r L M)
  | _ => False
def oIfLe (t : Nat) : zO := fun _ _ _ G K st L M => match st with
  | .int x :: r => (x ≤ 0 → G t r L M) ∧ (¬ x ≤ 0 → K r L M)
  | _ => False
def oCmpLe (t : Nat) : zO := fun _ _ _ G K st L M => match st with
  | .int y :: .int x :: r => (x ≤ y → G t r L M) ∧ (¬ x ≤ y → K r L M)
  | _ => False
/-- a table switch from 0 on -/
def zsw (x : Int32) (G : Nat → Prop) : Int → List Nat → Prop
  | _, [] => True
  | j, t :: ts => (x.toInt = j → G t) ∧ zsw x G (j + 1) ts
def oSw (dflt : Nat) (ts : List Nat) : zO := fun _ _ _ G _ st L M => match st with
  | .int x :: r => ((x.toInt < 0 ∨ (ts.length : Int) ≤ x.toInt) → G dflt r L M) ∧ zsw x (fun t => G t r L M) 0 ts
  | _ => False
def oRI : zO := fun n1 _ Q _ _ st _ M => match st with
  | [.int x] => cond (Nat.beq M.2.2.2 n1) (Q (some (.int x)) M) False
  | _ => False
def oRZ : zO := fun n1 _ Q _ _ st _ M => match st with
  | [.int x] => (x = 0 ∨ x = 1) ∧ cond (Nat.beq M.2.2.2 n1) (Q (some (.int x)) M) False
  | _ => False
def oRJ : zO := fun n1 _ Q _ _ st _ M => match st with
  | [.long x] => cond (Nat.beq M.2.2.2 n1) (Q (some (.long x)) M) False
  | _ => False
def oRV : zO := fun n1 _ Q _ _ st _ M => match st with
  | [] => cond (Nat.beq M.2.2.2 n1) (Q none M) False
  | _ => False
/-! memory -/
def oGI (ci j : Nat) : zO := fun _ _ _ _ K st L M => match st with
  | .ref k :: r => cond (zokO M k ci) (K (.int (M.1 k j) :: r) L M) False
  | _ => False
def oGR (ci j : Nat) : zO := fun _ _ _ _ K st L M => match st with
  | .ref k :: r => cond (zokO M k ci) (match M.2.2.1 k j with
    | some t => cond (Nat.blt t 900) (K (.ref t :: r) L M) False
    | none => False) False
  | _ => False
def oPI (ci j : Nat) : zO := fun _ _ _ _ K st L M => match st with
  | .int v :: .ref k :: r => cond (zokO M k ci) (K r L (zwI M k j v)) False
  | _ => False
def oPZ (ci j : Nat) : zO := fun _ _ _ _ K st L M => match st with
  | .int v :: .ref k :: r => (v = 0 ∨ v = 1) ∧ cond (zokO M k ci) (K r L (zwI M k j v)) False
  | _ => False
def oPR (ci j : Nat) : zO := fun _ _ _ _ K st L M => match st with
  | .ref t :: .ref k :: r => cond (zokO M k ci && Nat.blt t 900) (K r L (zwR M k j t)) False
  | _ => False
def oLd : zO := fun _ _ _ _ K st L M => match st with
  | .int i :: .ref k :: r => (match zlen M k 0 with
    | some n => vp_in i n ∧ K (.int (M.1 k i.toNatClampNeg) :: r) L M
    | none => False)
  | _ => False
def oSt : zO := fun _ _ _ _ K st L M => match st with
  | .int x :: .int i :: .ref k :: r => (match zlen M k 0 with
    | some n => vp_in i n ∧ K r L (zwI M k i.toNatClampNeg x)
    | none => False)
  | _ => False
def oLdZ : zO := fun _ _ _ _ K st L M => match st with
  | .int i :: .ref k :: r => (match zlen M k 2 with
    | some n => vp_in i n ∧ K (.int (M.1 k i.toNatClampNeg) :: r) L M
    | none => False)
  | _ => False
def oStZ : zO := fun _ _ _ _ K st L M => match st with
  | .int x :: .int i :: .ref k :: r => (match zlen M k 2 with
    | some n => vp_in i n ∧ (x = 0 ∨ x = 1) ∧ K r L (zwI M k i.toNatClampNeg x)
    | none => False)
  | _ => False
def oLdJ : zO := fun _ _ _ _ K st L M => match st with
  | .int i :: .ref k :: r => (match zlen M k 1 with
    | some n => vp_in i n ∧ K (.long (M.2.1 k i.toNatClampNeg) :: r) L M
    | none => False)
  | _ => False
def oStJ : zO := fun _ _ _ _ K st L M => match st with
  | .long x :: .int i :: .ref k :: r => (match zlen M k 1 with
    | some n => vp_in i n ∧ K r L (zwJ M k i.toNatClampNeg x)
    | none => False)
  | _ => False
/-- LAW_LIMITS, the class's table: cell 1000 -/
def zlim (j : Nat) : Int32 := ([100, 5000, 5000, 5000, 20, 20] : List Int32).getD j 0
def oGS : zO := fun _ _ _ _ K st L M => K (.ref 1000 :: st) L M
def oLim : zO := fun _ _ _ _ K st L M => match st with
  | .int i :: .ref k :: r => cond (Nat.beq k 1000) (vp_in i 6 ∧ K (.int (zlim i.toNatClampNeg) :: r) L M) False
  | _ => False
def oLimN : zO := fun _ _ _ _ K st L M => match st with
  | .ref k :: r => cond (Nat.beq k 1000) (K (.int 6 :: r) L M) False
  | _ => False
/-- the law's script: cell 1001 -/
def oScr (xs : Nat → Int32) (n : Nat) : zO := fun _ _ _ _ K st L M => match st with
  | .int i :: .ref k :: r => cond (Nat.beq k 1001) (vp_in i n ∧ K (.int (xs i.toNatClampNeg) :: r) L M) False
  | _ => False
def oScrN (n : Nat) : zO := fun _ _ _ _ K st L M => match st with
  | .ref k :: r => cond (Nat.beq k 1001) (K (.int (Int32.ofNat n) :: r) L M) False
  | _ => False
/-- System.arraycopy within int rows -/
def oCpy : zO := fun _ _ _ _ K st L M => match st with
  | .int n :: .int dp :: .ref k1 :: .int sp :: .ref k0 :: r => (match zlen M k0 0, zlen M k1 0 with
    | some l0, some l1 => ¬ sp < 0 ∧ ¬ dp < 0 ∧ ¬ n < 0 ∧ sp.toNatClampNeg + n.toNatClampNeg ≤ l0 ∧ dp.toNatClampNeg + n.toNatClampNeg ≤ l1 ∧ cond (Nat.ble (zcat r) 8) (K r L (zwA M k1 (va_cpy (M.1 k0) (M.1 k1) sp.toNatClampNeg dp.toNatClampNeg n.toNatClampNeg))) False
    | _, _ => False)
  | _ => False
/-! what is made -/
def oNew (ci : Nat) : zO := fun n1 _ _ _ K st L M => cond (Nat.blt M.2.2.2 n1 && Nat.blt M.2.2.2 900 && (match zshp M.2.2.2 with
  | .inl c => Nat.beq c ci
  | .inr _ => false)) (K (.ref M.2.2.2 :: st) L (znew M)) False
def oNewA (ty : Nat) : zO := fun n1 _ _ _ K st L M => match st with
  | .int x :: r => cond (Nat.blt M.2.2.2 n1 && Nat.blt M.2.2.2 900) (match zshp M.2.2.2 with
    | .inl _ => False
    | .inr q => cond (Nat.beq q.1 ty && Nat.ble q.2 1000) (x = Int32.ofNat q.2 ∧ K (.ref M.2.2.2 :: r) L (znew M)) False) False
  | _ => False
def oObj : zO := fun _ _ _ _ K st L M => match st with
  | .ref _ :: r => cond (Nat.ble (zcat r) 8) (K r L M) False
  | _ => False
/-! calls: y is the callee's number, na how many arguments beside the receiver -/
def oV (na y ci : Nat) : zO := fun _ E _ _ K st L M => match st.drop na with
  | .ref k :: r => cond (zokO M k ci && (Nat.ble (zcat r) 8 && Nat.beq (st.take na).length na)) (E y M.2.2.2 (.ref k :: (st.take na).reverse) M (fun v M' => K (v.toList ++ r) L M')) False
  | _ => False
def oS (na y : Nat) : zO := fun _ E _ _ K st L M => cond (Nat.ble (zcat (st.drop na)) 8 && Nat.beq (st.take na).length na) (E y M.2.2.2 ((st.take na).reverse) M (fun v M' => K (v.toList ++ st.drop na) L M')) False
def oNi (y n2 : Nat) : zO := fun n1 E _ _ K st L M => match st with
  | .ref k :: r => cond (Nat.ble n2 n1 && (Nat.ble n2 900 && Nat.ble (zcat r) 8)) (E y n2 [.ref k] M (fun v M' => K (v.toList ++ r) L M')) False
  | _ => False
end
section
/-! ===== EACH OP IS SOUND over the kit's rows ===== -/
def zgood : List Cond := lw_tbl.filter goodWord
theorem zgood_at {w : Cond} (i : Nat) (h : lw_tbl[i]? = some w) (hg : goodWord w = true) : w ∈ zgood := List.mem_filter.mpr ⟨List.mem_of_getElem? h, hg⟩
theorem zgood_sub {ws : List Cond} (ps : List Nat) (hp : ws = ps.filterMap (fun i => lw_tbl[i]?)) (h : ws.all goodWord = true) : ∀ w ∈ ws, w ∈ zgood := by
  intro w hw
  have h1 := List.all_eq_true.mp h w hw
  rw [hp] at hw
  obtain ⟨i, -, hi⟩ := List.mem_filterMap.mp hw
  exact zgood_at i hi h1
theorem zgood_ok {w : Cond} (h : w ∈ zgood) : (w.onTables && w.keeps) = true ∨ ∃ ty, w = .arrayClass ty := good_of_word (List.mem_filter.mp h).2
theorem zcond {c : Bool} {P : Prop} (h : cond c P False) : c = true ∧ P := by
  cases c
  · exact h.elim
  · exact ⟨rfl, h⟩
def zadr (B aL b k : Nat) : Nat := if k < 900 then B + k else if k = 1000 then aL else b
theorem zadr_lt {B aL b k : Nat} (h : k < 900) : zadr B aL b k = B + k := if_pos h
def zdn (B aL b : Nat) (v : Value) : Value := match v with
  | .ref k => .ref (zadr B aL b k)
  | w => w
theorem zdn_cat {B aL b : Nat} {v : Value} : (zdn B aL b v).category = v.category := by cases v <;> rfl
def zfv (B : Nat) (M : zM) (k ci j : Nat) : Value := cond (zfr ci j) (va_rf ((M.2.2.1 k j).map (fun r => B + r))) (.int (M.1 k j))
def zcell (X : ClassId × ClassId × ClassId) (B : Nat) (M : zM) (k : Nat) : va_E := match zshp k with
  | .inl ci => .inr (ci, (List.range (zN ci)).map (zfv B M k ci))
  | .inr q => if q.1 = 0 then .inl (X.1, q.2, .inl (M.1 k)) else if q.1 = 1 then .inl (X.2.1, q.2, .inr (.inl (M.2.1 k))) else .inl (X.2.2, q.2, .inl (M.1 k))
def zw (X : ClassId × ClassId × ClassId) (B : Nat) (M : zM) : va_W := (List.range M.2.2.2).map (fun k => (B + k, zcell X B M k))
section ZPURE
variable {X : ClassId × ClassId × ClassId} {B : Nat} {M M' : zM} {k ci n : Nat}
theorem zcell_o (h : zshp k = .inl ci) : zcell X B M k = .inr (ci, (List.range (zN ci)).map (zfv B M k ci)) := by simp only [zcell, h]
theorem zcell_i (h : zshp k = .inr (0, n)) : zcell X B M k = .inl (X.1, n, .inl (M.1 k)) := by simp [zcell, h]
theorem zcell_j (h : zshp k = .inr (1, n)) : zcell X B M k = .inl (X.2.1, n, .inr (.inl (M.2.1 k))) := by simp [zcell, h]
theorem zcell_z (h : zshp k = .inr (2, n)) : zcell X B M k = .inl (X.2.2, n, .inl (M.1 k)) := by simp [zcell, h]
theorem zcell_cg (h1 : M.1 k = M'.1 k) (h2 : M.2.1 k = M'.2.1 k) (h3 : M.2.2.1 k = M'.2.2.1 k) : zcell X B M k = zcell X B M' k := by
  have hf : ∀ c, zfv B M k c = zfv B M' k c := fun c => by funext j; simp only [zfv, h1, h3]
  unfold zcell
  cases zshp k with
  | inl c => simp only [hf]
  | inr q => simp only [h1, h2]
theorem zokO_ok (h : zokO M k ci = true) : k < M.2.2.2 ∧ zshp k = .inl ci := by
  simp only [zokO, Bool.and_eq_true] at h
  obtain ⟨h1, h2⟩ := h
  refine ⟨Nat.le_of_ble_eq_true h1, ?_⟩
  cases hs : zshp k with
  | inl c => rw [hs] at h2; rw [Nat.eq_of_beq_eq_true h2]
  | inr q => rw [hs] at h2; cases h2
theorem zlen_ok {ty : Nat} (h : zlen M k ty = some n) : k < M.2.2.2 ∧ zshp k = .inr (ty, n) := by
  unfold zlen at h
  cases hb : Nat.blt k M.2.2.2 with
  | false => rw [hb] at h; cases h
  | true =>
    rw [hb] at h
    refine ⟨Nat.le_of_ble_eq_true hb, ?_⟩
    cases hs : zshp k with
    | inl c => rw [hs] at h; cases h
    | inr q =>
      rw [hs] at h
      dsimp only at h
      cases hq : Nat.beq q.1 ty with
      | false => rw [hq] at h; cases h
      | true =>
        rw [hq] at h
        have e1 := Nat.eq_of_beq_eq_true hq
        have e2 : q.2 = n := Option.some.inj h
        rw [← e1, ← e2]
theorem zw_get (h : k < M.2.2.2) : (zw X B M)[k]? = some (B + k, zcell X B M k) := by
  simp [zw, h]
theorem zw_D : va_D (fun q => B ≤ q) (zw X B M) := by
  refine ⟨fun i j p q hi hj hpq => ?_, fun i q hi => ?_⟩
  · simp only [zw, List.getElem?_map, Option.map_eq_some_iff] at hi hj
    obtain ⟨a, ha, rfl⟩ := hi
    obtain ⟨c, hc, rfl⟩ := hj
    have h1 := (List.getElem?_eq_some_iff.mp ha).2
    have h2 := (List.getElem?_eq_some_iff.mp hc).2
    simp only [List.getElem_range] at h1 h2
    dsimp only at hpq
    omega
  · simp only [zw, List.getElem?_map, Option.map_eq_some_iff] at hi
    obtain ⟨a, ha, rfl⟩ := hi
    exact Nat.le_add_right _ _
theorem zw_set (hk : k < M.2.2.2) (hn : M'.2.2.2 = M.2.2.2) (h : ∀ j, j ≠ k → zcell X B M' j = zcell X B M j) {e : va_E} (he : zcell X B M' k = e) : (zw X B M).set k (B + k, e) = zw X B M' := by
  subst he
  apply List.ext_getElem?
  intro i
  by_cases hi : i = k
  · subst hi
    rw [List.getElem?_set_self (by simpa [zw] using hk), zw_get (by omega)]
  · rw [List.getElem?_set_ne (Ne.symm hi)]
    by_cases hl : i < M.2.2.2
    · rw [zw_get hl, zw_get (by omega), h i hi]
    · rw [List.getElem?_eq_none (by simp [zw]; omega), List.getElem?_eq_none (by simp [zw]; omega)]
theorem zw_push (hn : M'.2.2.2 = M.2.2.2 + 1) (h : ∀ j, j < M.2.2.2 → zcell X B M' j = zcell X B M j) {e : va_E} (he : zcell X B M' M.2.2.2 = e) : zw X B M ++ [(B + M.2.2.2, e)] = zw X B M' := by
  subst he
  unfold zw
  rw [hn, List.range_succ, List.map_append]
  congr 1
  exact List.map_congr_left (fun j hj => by rw [h j (List.mem_range.mp hj)])
theorem zsetm {f f' : Nat → Value} {N j : Nat} {v : Value} (hj : j < N) (h1 : f' j = v) (h2 : ∀ i, i ≠ j → f' i = f i) : ((List.range N).map f).set j v = (List.range N).map f' := by
  apply List.ext_getElem?
  intro i
  by_cases hi : i = j
  · subst hi
    rw [List.getElem?_set_self (by simpa using hj)]
    simp [hj, h1]
  · rw [List.getElem?_set_ne (Ne.symm hi)]
    simp only [List.getElem?_map]
    by_cases hl : i < N
    · simp [hl, h2 i hi]
    · simp [hl]
theorem zwI_cell {j i : Nat} {v : Int32} (h : i ≠ k) : zcell X B (zwI M k j v) i = zcell X B M i := zcell_cg (by simp [zwI, va_up, h]) rfl rfl
theorem zwJ_cell {j i : Nat} {v : Int64} (h : i ≠ k) : zcell X B (zwJ M k j v) i = zcell X B M i := zcell_cg rfl (by simp [zwJ, va_up, h]) rfl
theorem zwR_cell {j i r : Nat} (h : i ≠ k) : zcell X B (zwR M k j r) i = zcell X B M i := zcell_cg rfl rfl (by simp [zwR, va_up, h])
theorem zwA_cell {f : Nat → Int32} {i : Nat} (h : i ≠ k) : zcell X B (zwA M k f) i = zcell X B M i := zcell_cg (by simp [zwA, va_up, h]) rfl rfl
theorem znew_cell {i : Nat} (h : i < M.2.2.2) : zcell X B (znew M) i = zcell X B M i := by
  have h : i ≠ M.2.2.2 := by omega
  exact zcell_cg (by simp [znew, va_up, h]) (by simp [znew, va_up, h]) (by simp [znew, va_up, h])
/-- the locals, by their places -/
def zlo (f : Value → Value) : Nat → zL → List (Nat × Value)
  | _, [] => []
  | i, none :: r => zlo f (i + 1) r
  | i, some v :: r => (i, f v) :: zlo f (i + 1) r
theorem zlo_mem {f : Value → Value} : ∀ (L : zL) (i : Nat) (q : Nat × Value), q ∈ zlo f i L ↔ ∃ (k : Nat) (w : Value), L[k]? = some (some w) ∧ q = (i + k, f w)
  | [], i, q => by simp [zlo]
  | none :: r, i, q => by
    rw [zlo, zlo_mem r (i + 1) q]
    constructor
    · rintro ⟨k, w, h1, h2⟩
      exact ⟨k + 1, w, by simpa using h1, by rw [h2]; simp only [Prod.mk.injEq, and_true]; omega⟩
    · rintro ⟨k, w, h1, h2⟩
      cases k with
      | zero => simp at h1
      | succ k => exact ⟨k, w, by simpa using h1, by rw [h2]; simp only [Prod.mk.injEq, and_true]; omega⟩
  | some v :: r, i, q => by
    rw [zlo, List.mem_cons, zlo_mem r (i + 1) q]
    constructor
    · rintro (h | ⟨k, w, h1, h2⟩)
      · exact ⟨0, v, by simp, by rw [h]; simp⟩
      · exact ⟨k + 1, w, by simpa using h1, by rw [h2]; simp only [Prod.mk.injEq, and_true]; omega⟩
    · rintro ⟨k, w, h1, h2⟩
      cases k with
      | zero => simp at h1; subst h1; exact Or.inl (by rw [h2]; simp)
      | succ k => exact Or.inr ⟨k, w, by simpa using h1, by rw [h2]; simp only [Prod.mk.injEq, and_true]; omega⟩
def zLH (B aL b nL : Nat) (L : zL) (ls : Array Slot) : Prop := L.length = nL ∧ lv_has ls nL (zlo (zdn B aL b) 0 L)
theorem zLH.get {B aL b nL i : Nat} {L : zL} {ls : Array Slot} {w : Value} (h : zLH B aL b nL L ls) (hi : L[i]? = some (some w)) : ls[i]? = some (.val (zdn B aL b w)) := by
  have := h.2.2.2 (i, zdn B aL b w) ((zlo_mem L 0 _).mpr ⟨i, w, hi, by simp⟩)
  exact this
theorem zkill_len {L : zL} {i : Nat} : (zkill L i).length = L.length := by
  cases i with
  | zero => rfl
  | succ i =>
    unfold zkill
    dsimp only
    split
    · rename_i w _
      cases Nat.beq w.category 2 <;> simp
    · rfl
theorem zkill_get {L : zL} {i k : Nat} {w : Value} (h : (zkill L i)[k]? = some (some w)) : L[k]? = some (some w) ∧ (k + 1 = i → ¬ w.category = 2) := by
  cases i with
  | zero => exact ⟨h, fun q => by omega⟩
  | succ i =>
    unfold zkill at h
    dsimp only at h
    split at h
    · rename_i w0 hw0
      cases hb : Nat.beq w0.category 2 with
      | true =>
        rw [hb] at h
        simp only [cond_true] at h
        by_cases hk : k = i
        · subst hk
          rw [List.getElem?_set_self (List.getElem?_eq_some_iff.mp hw0).1] at h
          cases h
        · rw [List.getElem?_set_ne (Ne.symm hk)] at h
          exact ⟨h, fun q => by omega⟩
      | false =>
        rw [hb] at h
        simp only [cond_false] at h
        refine ⟨h, fun q hc => ?_⟩
        have hk : k = i := by omega
        subst hk
        rw [hw0] at h
        cases h
        rw [hc] at hb
        exact absurd hb (by decide)
    · rename_i hne
      refine ⟨h, fun q => ?_⟩
      have hk : k = i := by omega
      subst hk
      exact absurd h (hne w)
theorem zst_get {L : zL} {i k : Nat} {v w : Value} (h : (zst L i v)[k]? = some (some w)) : (k = i ∧ w = v) ∨ (k ≠ i ∧ L[k]? = some (some w) ∧ (k + 1 = i → ¬ w.category = 2)) := by
  unfold zst at h
  by_cases hk : k = i
  · subst hk
    by_cases hl : k < (zkill L k).length
    · rw [List.getElem?_set_self hl] at h
      cases h
      exact Or.inl ⟨rfl, rfl⟩
    · rw [List.getElem?_eq_none (by simp; omega)] at h
      cases h
  · rw [List.getElem?_set_ne (Ne.symm hk)] at h
    exact Or.inr ⟨hk, zkill_get h⟩
theorem zst2_get {L : zL} {i k : Nat} {v w : Value} (h : (zst2 L i v)[k]? = some (some w)) : (k = i ∧ w = v) ∨ (k ≠ i ∧ k ≠ i + 1 ∧ L[k]? = some (some w) ∧ (k + 1 = i → ¬ w.category = 2)) := by
  have h : ((zst L i v).set (i + 1) none)[k]? = some (some w) := h
  by_cases hk : k = i + 1
  · subst hk
    by_cases hl : i + 1 < (zst L i v).length
    · rw [List.getElem?_set_self hl] at h
      cases h
    · rw [List.getElem?_eq_none (by simp; omega)] at h
      cases h
  · rw [List.getElem?_set_ne (Ne.symm hk)] at h
    rcases zst_get h with q | ⟨q1, q2⟩
    · exact Or.inl q
    · exact Or.inr ⟨q1, hk, q2⟩
theorem zLH.put1 {B aL b nL i : Nat} {L : zL} {ls ls' : Array Slot} {v : Value} (h : zLH B aL b nL L ls) (h' : lv_has ls' nL ((i, zdn B aL b v) :: (zlo (zdn B aL b) 0 L).filter (fun q => !(q.1 == i) && !(q.1 + 1 == i && q.2.category == 2)))) : zLH B aL b nL (zst L i v) ls' := by
  refine ⟨by simp only [zst, List.length_set, zkill_len]; exact h.1, h'.1, h'.2.1, fun q hq => ?_⟩
  obtain ⟨k, w, h1, rfl⟩ := (zlo_mem _ 0 q).mp hq
  refine h'.2.2 _ ?_
  rcases zst_get h1 with ⟨rfl, rfl⟩ | ⟨h2, h3, h4⟩
  · simp
  · refine List.mem_cons_of_mem _ (List.mem_filter.mpr ⟨(zlo_mem L 0 _).mpr ⟨k, w, h3, rfl⟩, ?_⟩)
    simp only [Nat.zero_add, zdn_cat]
    by_cases hk : k + 1 = i
    · simp [h2, h4 hk]
    · simp [h2, hk]
theorem zLH.put2 {B aL b nL i : Nat} {L : zL} {ls ls' : Array Slot} {v : Value} (h : zLH B aL b nL L ls) (h' : lv_has ls' nL ((i, zdn B aL b v) :: (zlo (zdn B aL b) 0 L).filter (fun q => !(q.1 == i) && (!(q.1 == i + 1) && !(q.1 + 1 == i && q.2.category == 2))))) : zLH B aL b nL (zst2 L i v) ls' := by
  refine ⟨by simp only [zst2, List.length_set, zkill_len]; exact h.1, h'.1, h'.2.1, fun q hq => ?_⟩
  obtain ⟨k, w, h1, rfl⟩ := (zlo_mem _ 0 q).mp hq
  refine h'.2.2 _ ?_
  rcases zst2_get h1 with ⟨rfl, rfl⟩ | ⟨h2, h5, h3, h4⟩
  · simp
  · refine List.mem_cons_of_mem _ (List.mem_filter.mpr ⟨(zlo_mem L 0 _).mpr ⟨k, w, h3, rfl⟩, ?_⟩)
    simp only [Nat.zero_add, zdn_cat]
    by_cases hk : k + 1 = i
    · simp [h2, h5, h4 hk]
    · simp [h2, h5, hk]
end ZPURE
end
section
/-! what holds in every method: the tables, the class's own table, the nest's words -/
def znest : List Cond := lw_tbl.filter (fun w => match w with
  | .methodLinkNest .. => true
  | _ => false)
def zG (D : va_G) (X : ClassId × ClassId × ClassId) (B aL : Nat) (U : State) : Prop :=
  va_K D vwCl [(X.1, .int), (X.2.1, .long), (X.2.2, .boolean)] U ∧ va_Z "BilletBars" "LAW_LIMITS" "[I" (.ref aL) (fun q => B ≤ q) U U.heap ∧ va_T .int aL 6 (fun j => .int (zlim j)) (fun q => B ≤ q) U U.heap ∧ ∀ w ∈ znest, va_Nw w U
theorem zG.moved {D : va_G} {X : ClassId × ClassId × ClassId} {B aL : Nat} {s U : State} (h : zG D X B aL s) (hW : s.WarmedH U.vm) (hq : ∀ q : Nat, q < s.heap.size → ¬ B ≤ q → U.heap[q]? = s.heap[q]?) : zG D X B aL U := by
  obtain ⟨h1, h2, h3, h4⟩ := h
  refine ⟨h1.moved hW.alike, (h2.moved hW.alike).kept hq, (h3.moved hW.alike).kept hq, fun w hw => ?_⟩
  have h5 := h4 w hw
  have h6 := (List.mem_filter.mp hw).2
  cases w with
  | methodLinkNest a i x hh => exact va_Nw.warmM hW h5
  | _ => simp at h6
theorem zG.blind {D : va_G} {X : ClassId × ClassId × ClassId} {B aL : Nat} {U : State} {g : JFrame} {mk : MethodId} {a : Array Value} (h : zG D X B aL U) : zG D X B aL (U.calling g mk a) := by
  obtain ⟨h1, h2, h3, h4⟩ := h
  refine ⟨va_K.moved (u := U) (U := U.calling g mk a) (Vm.Alike.refl U.vm) h1, va_Z.moved (u := U) (U := U.calling g mk a) (Vm.Alike.refl U.vm) h2, va_T.moved (u := U) (U := U.calling g mk a) (Vm.Alike.refl U.vm) h3, fun w hw => ?_⟩
  have h5 := h4 w hw
  have h6 := (List.mem_filter.mp hw).2
  cases w with
  | methodLinkNest a i x hh => exact va_Nw.same rfl (u := U) (U := U.calling g mk _) rfl h5
  | _ => simp at h6
def zplain (v : Option Value) : Prop := v = none ∨ (∃ x, v = some (.int x)) ∨ ∃ x, v = some (.long x)
def zPc (D : va_G) (X : ClassId × ClassId × ClassId) (B aL b : Nat) (a : List Value) (M : zM) : Array Value → State → Prop := va_Pc (a.map (zdn B aL b)) (fun U => zG D X B aL U ∧ U.heap.size = B + M.2.2.2 ∧ va_P D vwCl (zw X B M) U.heap)
def zQc (D : va_G) (X : ClassId × ClassId × ClassId) (B n1 : Nat) (Q : Option Value → zM → Prop) : Array Value → State → Outcome → State → Prop := fun _ st oc t =>
  (∃ (v : Option Value) (M' : zM), oc = .returned v ∧ zplain v ∧ Q v M' ∧ M'.2.2.2 = n1 ∧ va_P D vwCl (zw X B M') t.heap) ∧ va_F (fun q => B ≤ q) st t
def zrm (d mc ms : Nat) : Room := { frames := d, cells := mc, slots := ms, locals := 60 * d }
section ZW
variable {p : Program} {l : Launch} {e : Env} {R : Room} {s : State} {m : MethodId} {args : Array Value} {below : List Frame} {meth : Method} {c : Code} {Qf : State → Prop} {D : va_G} {X : ClassId × ClassId × ClassId} {B aL b : Nat} {cc : ByteArray} {nL n0 n1 d : Nat} {own : String} {E : zE} {Q : Option Value → zM → Prop}
/-- the machine stands at pc with this stack, these locals, this memory: and comes to its end -/
def zAt (p : Program) (l : Launch) (e : Env) (R : Room) (s : State) (m : MethodId) (args : Array Value) (below : List Frame) (meth : Method) (c : Code) (Qf : State → Prop) (D : va_G) (X : ClassId × ClassId × ClassId) (B aL b nL n0 n1 : Nat) (pc : Nat) : zC := fun st L M =>
  ∀ (H : Heap) (locs : List Loc) (ls : Array Slot), n0 ≤ M.2.2.2 → M.2.2.2 ≤ n1 → va_P D vwCl (zw X B M) H → va_S (fun q => B ≤ q) s.heap H locs → zLH B aL b nL L ls →
    W p l e R s m args below meth c H locs (M.2.2.2 - n0) (zss M.2.2.2 - zss n0) Qf (F0 m pc ls (st.map (zdn B aL b)))
/-- what holds in a method's run -/
def zF (p : Program) (R : Room) (s : State) (m : MethodId) (args : Array Value) (c : Code) (cc : ByteArray) (nL : Nat) (own : String) (D : va_G) (X : ClassId × ClassId × ClassId) (B aL d n0 n1 : Nat) : Prop :=
  p.tables.exec = Jvm.exec ∧ c.code = cc ∧ c.maxLocals = nL ∧ s.vm.findClass own = some m.cls ∧ (∀ w ∈ zgood, w.before args s = true) ∧ zG D X B aL s ∧ s.heap.size = B + n0 ∧ (d + 1 ≤ R.frames ∧ 60 * (d + 1) ≤ R.locals) ∧ n1 - n0 ≤ R.cells ∧ zss n1 - zss n0 ≤ R.slots ∧ n1 ≤ 900
def zS (p : Program) (l : Launch) (e : Env) (R : Room) (s : State) (m : MethodId) (args : Array Value) (below : List Frame) (meth : Method) (c : Code) (Qf : State → Prop) (D : va_G) (X : ClassId × ClassId × ClassId) (B aL b nL n0 n1 : Nat) (E : zE) (Q : Option Value → zM → Prop) (pc : Nat) (o : zO) (pc' : Nat) : Prop :=
  ∀ (K : zC) (st : List Value) (L : zL) (M : zM), (∀ st L M, K st L M → zAt p l e R s m args below meth c Qf D X B aL b nL n0 n1 pc' st L M) → o n1 E Q (zAt p l e R s m args below meth c Qf D X B aL b nL n0 n1) K st L M → zAt p l e R s m args below meth c Qf D X B aL b nL n0 n1 pc st L M
def zSL (p : Program) (l : Launch) (e : Env) (R : Room) (s : State) (m : MethodId) (args : Array Value) (below : List Frame) (meth : Method) (c : Code) (Qf : State → Prop) (D : va_G) (X : ClassId × ClassId × ClassId) (B aL b nL n0 n1 : Nat) (E : zE) (Q : Option Value → zM → Prop) : Nat → zB → Prop
  | _, [] => True
  | pc, (o, pc') :: r => zS p l e R s m args below meth c Qf D X B aL b nL n0 n1 E Q pc o pc' ∧ zSL p l e R s m args below meth c Qf D X B aL b nL n0 n1 E Q pc' r
theorem zSL_ok : ∀ (bl : zB) (pc : Nat), zSL p l e R s m args below meth c Qf D X B aL b nL n0 n1 E Q pc bl → ∀ st L M, zX n1 E Q (zAt p l e R s m args below meth c Qf D X B aL b nL n0 n1) bl st L M → zAt p l e R s m args below meth c Qf D X B aL b nL n0 n1 pc st L M
  | [], _, _ => fun _ _ _ h => h.elim
  | (o, pc') :: r, pc, h => fun st L M hx => h.1 _ st L M (fun st L M hk => zSL_ok r pc' h.2 st L M hk) hx
theorem zsized {M : zM} {H : Heap} {locs : List Loc} {sl : Nat} {g : JFrame} (hs : s.heap.size = B + n0) (hn : n0 ≤ M.2.2.2) (hP : va_P D vwCl (zw X B M) H) (hS : va_S (fun q => B ≤ q) s.heap H locs) (k : H.size = B + M.2.2.2 → W p l e R s m args below meth c H locs (M.2.2.2 - n0) sl Qf g) : W p l e R s m args below meth c H locs (M.2.2.2 - n0) sl Qf g := by
  intro T hT Y
  refine k ?_ T hT Y
  have h1 : T.heap.size ≤ s.heap.size + (M.2.2.2 - n0) := Y.same.2.2.1
  rw [hT, hs] at h1
  have h2 := hS.1
  have h3 : B + M.2.2.2 ≤ H.size := by
    cases hm : M.2.2.2 with
    | zero => omega
    | succ j =>
      have h4 : B + j < H.size := (hP j _ (zw_get (X := X) (B := B) (M := M) (k := j) (by omega))).lt
      omega
  omega
theorem s_iconst (F : zF p R s m args c cc nL own D X B aL d n0 n1) {pc : Nat} {n : Int} {v : Int32} (hd : decode cc pc = .ok (.iconst n, 1)) (hv : Int32.ofInt n = v) : zS p l e R s m args below meth c Qf D X B aL b nL n0 n1 E Q pc (oI v) (pc + 1) := by
  intro K st L M hK h
  intro H locs ls h1 h2 h3 h4 h5
  exact lv_iconst F.1 F.2.1 hd hv (hK _ _ _ h H locs ls h1 h2 h3 h4 h5)
theorem s_bipush (F : zF p R s m args c cc nL own D X B aL d n0 n1) {pc : Nat} {n : Int} {v : Int32} (hd : decode cc pc = .ok (.bipush n, 2)) (hv : (Int8.ofInt n).toInt32 = v) : zS p l e R s m args below meth c Qf D X B aL b nL n0 n1 E Q pc (oI v) (pc + 2) := by
  intro K st L M hK h
  intro H locs ls h1 h2 h3 h4 h5
  exact lv_bipush F.1 F.2.1 hd hv (hK _ _ _ h H locs ls h1 h2 h3 h4 h5)
theorem s_sipush (F : zF p R s m args c cc nL own D X B aL d n0 n1) {pc : Nat} {n : Int} {v : Int32} (hd : decode cc pc = .ok (.sipush n, 3)) (hv : (Int16.ofInt n).toInt32 = v) : zS p l e R s m args below meth c Qf D X B aL b nL n0 n1 E Q pc (oI v) (pc + 3) := by
  intro K st L M hK h
  intro H locs ls h1 h2 h3 h4 h5
  exact lv_sipush F.1 F.2.1 hd hv (hK _ _ _ h H locs ls h1 h2 h3 h4 h5)
theorem s_lconst (F : zF p R s m args c cc nL own D X B aL d n0 n1) {pc : Nat} {n : Fin 2} {v : Int64} (hd : decode cc pc = .ok (.lconst n, 1)) (hv : Int64.ofNat (n : Nat) = v) : zS p l e R s m args below meth c Qf D X B aL b nL n0 n1 E Q pc (oJ v) (pc + 1) := by
  intro K st L M hK h
  intro H locs ls h1 h2 h3 h4 h5
  exact lv_lconst F.1 F.2.1 hd hv (hK _ _ _ h H locs ls h1 h2 h3 h4 h5)
theorem s_ldc (F : zF p R s m args c cc nL own D X B aL d n0 n1) {pc : Nat} {idx : Nat} {v : Int32} (hw : Cond.constant own idx v ∈ zgood) (hd : decode cc pc = .ok (.ldc idx, 2)) : zS p l e R s m args below meth c Qf D X B aL b nL n0 n1 E Q pc (oI v) (pc + 2) := by
  intro K st L M hK h
  intro H locs ls h1 h2 h3 h4 h5
  exact lv_ldc F.1 F.2.1 F.2.2.2.1 (F.2.2.2.2.1 _ hw) hd (hK _ _ _ h H locs ls h1 h2 h3 h4 h5)
theorem s_ldcw (F : zF p R s m args c cc nL own D X B aL d n0 n1) {pc : Nat} {idx : Nat} {v : Int32} (hw : Cond.constant own idx v ∈ zgood) (hd : decode cc pc = .ok (.ldc_w idx, 3)) : zS p l e R s m args below meth c Qf D X B aL b nL n0 n1 E Q pc (oI v) (pc + 3) := by
  intro K st L M hK h
  intro H locs ls h1 h2 h3 h4 h5
  exact lv_ldcw F.1 F.2.1 F.2.2.2.1 (F.2.2.2.2.1 _ hw) hd (hK _ _ _ h H locs ls h1 h2 h3 h4 h5)
theorem s_ldc2 (F : zF p R s m args c cc nL own D X B aL d n0 n1) {pc : Nat} {idx : Nat} {v : Int64} (hw : Cond.constantLong own idx v ∈ zgood) (hd : decode cc pc = .ok (.ldc2_w idx, 3)) : zS p l e R s m args below meth c Qf D X B aL b nL n0 n1 E Q pc (oJ v) (pc + 3) := by
  intro K st L M hK h
  intro H locs ls h1 h2 h3 h4 h5
  exact lv_ldc2 F.1 F.2.1 F.2.2.2.1 (F.2.2.2.2.1 _ hw) hd (hK _ _ _ h H locs ls h1 h2 h3 h4 h5)
theorem s_iload_n (F : zF p R s m args c cc nL own D X B aL d n0 n1) {pc : Nat} {k : Fin 4} {i : Nat} (hd : decode cc pc = .ok (.iload_n k, 1)) (hi : (k : Nat) = i) : zS p l e R s m args below meth c Qf D X B aL b nL n0 n1 E Q pc (oIl i) (pc + 1) := by
  intro K st L M hK h
  intro H locs ls h1 h2 h3 h4 h5
  unfold oIl at h
  split at h
  · rename_i x hq
    exact lv_iload_n F.1 F.2.1 hd hi (zLH.get h5 hq) (hK _ _ _ h H locs ls h1 h2 h3 h4 h5)
  · exact h.elim
theorem s_iload (F : zF p R s m args c cc nL own D X B aL d n0 n1) {pc : Nat} {i : Nat} (hd : decode cc pc = .ok (.iload i, 2)) : zS p l e R s m args below meth c Qf D X B aL b nL n0 n1 E Q pc (oIl i) (pc + 2) := by
  intro K st L M hK h
  intro H locs ls h1 h2 h3 h4 h5
  unfold oIl at h
  split at h
  · rename_i x hq
    exact lv_iload F.1 F.2.1 hd (zLH.get h5 hq) (hK _ _ _ h H locs ls h1 h2 h3 h4 h5)
  · exact h.elim
theorem s_lload_n (F : zF p R s m args c cc nL own D X B aL d n0 n1) {pc : Nat} {k : Fin 4} {i : Nat} (hd : decode cc pc = .ok (.lload_n k, 1)) (hi : (k : Nat) = i) : zS p l e R s m args below meth c Qf D X B aL b nL n0 n1 E Q pc (oJl i) (pc + 1) := by
  intro K st L M hK h
  intro H locs ls h1 h2 h3 h4 h5
  unfold oJl at h
  split at h
  · rename_i x hq
    exact lv_lload_n F.1 F.2.1 hd hi (zLH.get h5 hq) (hK _ _ _ h H locs ls h1 h2 h3 h4 h5)
  · exact h.elim
theorem s_lload (F : zF p R s m args c cc nL own D X B aL d n0 n1) {pc : Nat} {i : Nat} (hd : decode cc pc = .ok (.lload i, 2)) : zS p l e R s m args below meth c Qf D X B aL b nL n0 n1 E Q pc (oJl i) (pc + 2) := by
  intro K st L M hK h
  intro H locs ls h1 h2 h3 h4 h5
  unfold oJl at h
  split at h
  · rename_i x hq
    exact lv_lload F.1 F.2.1 hd (zLH.get h5 hq) (hK _ _ _ h H locs ls h1 h2 h3 h4 h5)
  · exact h.elim
theorem s_aload_n (F : zF p R s m args c cc nL own D X B aL d n0 n1) {pc : Nat} {k : Fin 4} {i : Nat} (hd : decode cc pc = .ok (.aload_n k, 1)) (hi : (k : Nat) = i) : zS p l e R s m args below meth c Qf D X B aL b nL n0 n1 E Q pc (oAl i) (pc + 1) := by
  intro K st L M hK h
  intro H locs ls h1 h2 h3 h4 h5
  unfold oAl at h
  split at h
  · rename_i x hq
    exact lv_aload_n F.1 F.2.1 hd hi (zLH.get h5 hq) (hK _ _ _ h H locs ls h1 h2 h3 h4 h5)
  · exact h.elim
theorem s_aload (F : zF p R s m args c cc nL own D X B aL d n0 n1) {pc : Nat} {i : Nat} (hd : decode cc pc = .ok (.aload i, 2)) : zS p l e R s m args below meth c Qf D X B aL b nL n0 n1 E Q pc (oAl i) (pc + 2) := by
  intro K st L M hK h
  intro H locs ls h1 h2 h3 h4 h5
  unfold oAl at h
  split at h
  · rename_i x hq
    exact lv_aload F.1 F.2.1 hd (zLH.get h5 hq) (hK _ _ _ h H locs ls h1 h2 h3 h4 h5)
  · exact h.elim
theorem s_istore_n (F : zF p R s m args c cc nL own D X B aL d n0 n1) {pc : Nat} {k : Fin 4} {i : Nat} (hd : decode cc pc = .ok (.istore_n k, 1)) (hi : (k : Nat) = i) : zS p l e R s m args below meth c Qf D X B aL b nL n0 n1 E Q pc (oIs i) (pc + 1) := by
  intro K st L M hK h
  intro H locs ls h1 h2 h3 h4 h5
  unfold oIs at h
  split at h
  · obtain ⟨h0, h⟩ := zcond h
    exact lv_istore_n F.1 F.2.1 hd hi h5.2 (by have := Nat.le_of_ble_eq_true h0; have := h5.1; omega) rfl (fun ls1 hl => hK _ _ _ h H locs ls1 h1 h2 h3 h4 (h5.put1 (v := .int _) hl))
  · exact h.elim
theorem s_istore (F : zF p R s m args c cc nL own D X B aL d n0 n1) {pc : Nat} {i : Nat} (hd : decode cc pc = .ok (.istore i, 2)) : zS p l e R s m args below meth c Qf D X B aL b nL n0 n1 E Q pc (oIs i) (pc + 2) := by
  intro K st L M hK h
  intro H locs ls h1 h2 h3 h4 h5
  unfold oIs at h
  split at h
  · obtain ⟨h0, h⟩ := zcond h
    exact lv_istore F.1 F.2.1 hd h5.2 (by have := Nat.le_of_ble_eq_true h0; have := h5.1; omega) rfl (fun ls1 hl => hK _ _ _ h H locs ls1 h1 h2 h3 h4 (h5.put1 (v := .int _) hl))
  · exact h.elim
theorem s_astore_n (F : zF p R s m args c cc nL own D X B aL d n0 n1) {pc : Nat} {k : Fin 4} {i : Nat} (hd : decode cc pc = .ok (.astore_n k, 1)) (hi : (k : Nat) = i) : zS p l e R s m args below meth c Qf D X B aL b nL n0 n1 E Q pc (oAs i) (pc + 1) := by
  intro K st L M hK h
  intro H locs ls h1 h2 h3 h4 h5
  unfold oAs at h
  split at h
  · obtain ⟨h0, h⟩ := zcond h
    exact lv_astore_n F.1 F.2.1 hd hi h5.2 (by have := Nat.le_of_ble_eq_true h0; have := h5.1; omega) rfl (fun ls1 hl => hK _ _ _ h H locs ls1 h1 h2 h3 h4 (h5.put1 (v := .ref _) hl))
  · exact h.elim
theorem s_astore (F : zF p R s m args c cc nL own D X B aL d n0 n1) {pc : Nat} {i : Nat} (hd : decode cc pc = .ok (.astore i, 2)) : zS p l e R s m args below meth c Qf D X B aL b nL n0 n1 E Q pc (oAs i) (pc + 2) := by
  intro K st L M hK h
  intro H locs ls h1 h2 h3 h4 h5
  unfold oAs at h
  split at h
  · obtain ⟨h0, h⟩ := zcond h
    exact lv_astore F.1 F.2.1 hd h5.2 (by have := Nat.le_of_ble_eq_true h0; have := h5.1; omega) rfl (fun ls1 hl => hK _ _ _ h H locs ls1 h1 h2 h3 h4 (h5.put1 (v := .ref _) hl))
  · exact h.elim
theorem s_lstore_n (F : zF p R s m args c cc nL own D X B aL d n0 n1) {pc : Nat} {k : Fin 4} {i : Nat} (hd : decode cc pc = .ok (.lstore_n k, 1)) (hi : (k : Nat) = i) : zS p l e R s m args below meth c Qf D X B aL b nL n0 n1 E Q pc (oJs i) (pc + 1) := by
  intro K st L M hK h
  intro H locs ls h1 h2 h3 h4 h5
  unfold oJs at h
  split at h
  · obtain ⟨h0, h⟩ := zcond h
    exact lv_lstore_n F.1 F.2.1 hd hi h5.2 (by have := Nat.le_of_ble_eq_true h0; have := h5.1; omega) rfl (fun ls1 hl => hK _ _ _ h H locs ls1 h1 h2 h3 h4 (h5.put2 (v := .long _) hl))
  · exact h.elim
theorem s_lstore (F : zF p R s m args c cc nL own D X B aL d n0 n1) {pc : Nat} {i : Nat} (hd : decode cc pc = .ok (.lstore i, 2)) : zS p l e R s m args below meth c Qf D X B aL b nL n0 n1 E Q pc (oJs i) (pc + 2) := by
  intro K st L M hK h
  intro H locs ls h1 h2 h3 h4 h5
  unfold oJs at h
  split at h
  · obtain ⟨h0, h⟩ := zcond h
    exact lv_lstore F.1 F.2.1 hd h5.2 (by have := Nat.le_of_ble_eq_true h0; have := h5.1; omega) rfl (fun ls1 hl => hK _ _ _ h H locs ls1 h1 h2 h3 h4 (h5.put2 (v := .long _) hl))
  · exact h.elim
theorem s_iinc (F : zF p R s m args c cc nL own D X B aL d n0 n1) {pc : Nat} {i : Nat} {n : Int} {v : Int32} (hd : decode cc pc = .ok (.iinc i n, 3)) (hv : Int32.ofInt n = v) : zS p l e R s m args below meth c Qf D X B aL b nL n0 n1 E Q pc (oInc i v) (pc + 3) := by
  intro K st L M hK h
  intro H locs ls h1 h2 h3 h4 h5
  unfold oInc at h
  split at h
  · rename_i x hq
    have hm : (i, Value.int x) ∈ zlo (zdn B aL b) 0 L := (zlo_mem L 0 _).mpr ⟨i, .int x, hq, by simp [zdn]⟩
    obtain ⟨k, hk⟩ := List.getElem?_of_mem hm
    have hil := (List.getElem?_eq_some_iff.mp hq).1
    exact lv_iinc F.1 F.2.1 hd h5.2 hk (by rw [hv]) (by have := h5.1; omega) rfl (fun ls1 hl => hK _ _ _ h H locs ls1 h1 h2 h3 h4 (h5.put1 (v := .int _) hl))
  · exact h.elim
theorem s_iadd (F : zF p R s m args c cc nL own D X B aL d n0 n1) {pc : Nat} (hd : decode cc pc = .ok (.iadd, 1)) : zS p l e R s m args below meth c Qf D X B aL b nL n0 n1 E Q pc (oAdd) (pc + 1) := by
  intro K st L M hK h
  intro H locs ls h1 h2 h3 h4 h5
  unfold oAdd at h
  split at h
  · exact lv_iadd F.1 F.2.1 hd (hK _ _ _ h H locs ls h1 h2 h3 h4 h5)
  · exact h.elim
theorem s_isub (F : zF p R s m args c cc nL own D X B aL d n0 n1) {pc : Nat} (hd : decode cc pc = .ok (.isub, 1)) : zS p l e R s m args below meth c Qf D X B aL b nL n0 n1 E Q pc (oSub) (pc + 1) := by
  intro K st L M hK h
  intro H locs ls h1 h2 h3 h4 h5
  unfold oSub at h
  split at h
  · exact lv_isub F.1 F.2.1 hd (hK _ _ _ h H locs ls h1 h2 h3 h4 h5)
  · exact h.elim
theorem s_imul (F : zF p R s m args c cc nL own D X B aL d n0 n1) {pc : Nat} (hd : decode cc pc = .ok (.imul, 1)) : zS p l e R s m args below meth c Qf D X B aL b nL n0 n1 E Q pc (oMul) (pc + 1) := by
  intro K st L M hK h
  intro H locs ls h1 h2 h3 h4 h5
  unfold oMul at h
  split at h
  · exact lv_imul F.1 F.2.1 hd (hK _ _ _ h H locs ls h1 h2 h3 h4 h5)
  · exact h.elim
theorem s_iand (F : zF p R s m args c cc nL own D X B aL d n0 n1) {pc : Nat} (hd : decode cc pc = .ok (.iand, 1)) : zS p l e R s m args below meth c Qf D X B aL b nL n0 n1 E Q pc (oAnd) (pc + 1) := by
  intro K st L M hK h
  intro H locs ls h1 h2 h3 h4 h5
  unfold oAnd at h
  split at h
  · exact lv_iand F.1 F.2.1 hd (hK _ _ _ h H locs ls h1 h2 h3 h4 h5)
  · exact h.elim
theorem s_ixor (F : zF p R s m args c cc nL own D X B aL d n0 n1) {pc : Nat} (hd : decode cc pc = .ok (.ixor, 1)) : zS p l e R s m args below meth c Qf D X B aL b nL n0 n1 E Q pc (oXor) (pc + 1) := by
  intro K st L M hK h
  intro H locs ls h1 h2 h3 h4 h5
  unfold oXor at h
  split at h
  · exact lv_ixor F.1 F.2.1 hd (hK _ _ _ h H locs ls h1 h2 h3 h4 h5)
  · exact h.elim
theorem s_ladd (F : zF p R s m args c cc nL own D X B aL d n0 n1) {pc : Nat} (hd : decode cc pc = .ok (.ladd, 1)) : zS p l e R s m args below meth c Qf D X B aL b nL n0 n1 E Q pc (oJadd) (pc + 1) := by
  intro K st L M hK h
  intro H locs ls h1 h2 h3 h4 h5
  unfold oJadd at h
  split at h
  · exact lv_ladd F.1 F.2.1 hd (hK _ _ _ h H locs ls h1 h2 h3 h4 h5)
  · exact h.elim
theorem s_lmul (F : zF p R s m args c cc nL own D X B aL d n0 n1) {pc : Nat} (hd : decode cc pc = .ok (.lmul, 1)) : zS p l e R s m args below meth c Qf D X B aL b nL n0 n1 E Q pc (oJmul) (pc + 1) := by
  intro K st L M hK h
  intro H locs ls h1 h2 h3 h4 h5
  unfold oJmul at h
  split at h
  · exact lv_lmul F.1 F.2.1 hd (hK _ _ _ h H locs ls h1 h2 h3 h4 h5)
  · exact h.elim
theorem s_lcmp (F : zF p R s m args c cc nL own D X B aL d n0 n1) {pc : Nat} (hd : decode cc pc = .ok (.lcmp, 1)) : zS p l e R s m args below meth c Qf D X B aL b nL n0 n1 E Q pc (oJcmp) (pc + 1) := by
  intro K st L M hK h
  intro H locs ls h1 h2 h3 h4 h5
  unfold oJcmp at h
  split at h
  · exact W.lcmp F.1 F.2.1 hd (hK _ _ _ h H locs ls h1 h2 h3 h4 h5)
  · exact h.elim
theorem s_idiv (F : zF p R s m args c cc nL own D X B aL d n0 n1) {pc : Nat} (hd : decode cc pc = .ok (.idiv, 1)) : zS p l e R s m args below meth c Qf D X B aL b nL n0 n1 E Q pc (oDiv) (pc + 1) := by
  intro K st L M hK h
  intro H locs ls h1 h2 h3 h4 h5
  unfold oDiv at h
  split at h
  · obtain ⟨h0, h⟩ := h
    exact lv_idiv F.1 F.2.1 hd h0 (hK _ _ _ h H locs ls h1 h2 h3 h4 h5)
  · exact h.elim
theorem s_ldiv (F : zF p R s m args c cc nL own D X B aL d n0 n1) {pc : Nat} (hd : decode cc pc = .ok (.ldiv, 1)) : zS p l e R s m args below meth c Qf D X B aL b nL n0 n1 E Q pc (oJdiv) (pc + 1) := by
  intro K st L M hK h
  intro H locs ls h1 h2 h3 h4 h5
  unfold oJdiv at h
  split at h
  · obtain ⟨h0, h⟩ := h
    exact lv_ldiv F.1 F.2.1 hd h0 (hK _ _ _ h H locs ls h1 h2 h3 h4 h5)
  · exact h.elim
theorem s_i2l (F : zF p R s m args c cc nL own D X B aL d n0 n1) {pc : Nat} (hd : decode cc pc = .ok (.i2l, 1)) : zS p l e R s m args below meth c Qf D X B aL b nL n0 n1 E Q pc (oI2l) (pc + 1) := by
  intro K st L M hK h
  intro H locs ls h1 h2 h3 h4 h5
  unfold oI2l at h
  split at h
  · exact lv_i2l F.1 F.2.1 hd rfl (hK _ _ _ h H locs ls h1 h2 h3 h4 h5)
  · exact h.elim
theorem s_l2i (F : zF p R s m args c cc nL own D X B aL d n0 n1) {pc : Nat} (hd : decode cc pc = .ok (.l2i, 1)) : zS p l e R s m args below meth c Qf D X B aL b nL n0 n1 E Q pc (oL2i) (pc + 1) := by
  intro K st L M hK h
  intro H locs ls h1 h2 h3 h4 h5
  unfold oL2i at h
  split at h
  · exact lv_l2i F.1 F.2.1 hd rfl (hK _ _ _ h H locs ls h1 h2 h3 h4 h5)
  · exact h.elim
theorem s_i2b (F : zF p R s m args c cc nL own D X B aL d n0 n1) {pc : Nat} (hd : decode cc pc = .ok (.i2b, 1)) : zS p l e R s m args below meth c Qf D X B aL b nL n0 n1 E Q pc (oI2b) (pc + 1) := by
  intro K st L M hK h
  intro H locs ls h1 h2 h3 h4 h5
  unfold oI2b at h
  split at h
  · exact lv_i2b F.1 F.2.1 hd rfl (hK _ _ _ h H locs ls h1 h2 h3 h4 h5)
  · exact h.elim
theorem s_i2s (F : zF p R s m args c cc nL own D X B aL d n0 n1) {pc : Nat} (hd : decode cc pc = .ok (.i2s, 1)) : zS p l e R s m args below meth c Qf D X B aL b nL n0 n1 E Q pc (oI2s) (pc + 1) := by
  intro K st L M hK h
  intro H locs ls h1 h2 h3 h4 h5
  unfold oI2s at h
  split at h
  · exact lv_i2s F.1 F.2.1 hd rfl (hK _ _ _ h H locs ls h1 h2 h3 h4 h5)
  · exact h.elim
theorem s_dup (F : zF p R s m args c cc nL own D X B aL d n0 n1) {pc : Nat} (hd : decode cc pc = .ok (.dup, 1)) : zS p l e R s m args below meth c Qf D X B aL b nL n0 n1 E Q pc (oDup) (pc + 1) := by
  intro K st L M hK h
  intro H locs ls h1 h2 h3 h4 h5
  unfold oDup at h
  split at h
  · obtain ⟨h0, h⟩ := zcond h
    exact lv_dup F.1 F.2.1 hd (by rw [zdn_cat]; exact Nat.eq_of_beq_eq_true h0) (hK _ _ _ h H locs ls h1 h2 h3 h4 h5)
  · exact h.elim
theorem s_pop (F : zF p R s m args c cc nL own D X B aL d n0 n1) {pc : Nat} (hd : decode cc pc = .ok (.pop, 1)) : zS p l e R s m args below meth c Qf D X B aL b nL n0 n1 E Q pc (oPop) (pc + 1) := by
  intro K st L M hK h
  intro H locs ls h1 h2 h3 h4 h5
  unfold oPop at h
  split at h
  · obtain ⟨h0, h⟩ := zcond h
    exact lv_pop F.1 F.2.1 hd (by rw [zdn_cat]; exact Nat.eq_of_beq_eq_true h0) (hK _ _ _ h H locs ls h1 h2 h3 h4 h5)
  · exact h.elim
theorem s_dup2 (F : zF p R s m args c cc nL own D X B aL d n0 n1) {pc : Nat} (hd : decode cc pc = .ok (.dup2, 1)) : zS p l e R s m args below meth c Qf D X B aL b nL n0 n1 E Q pc (oDup2) (pc + 1) := by
  intro K st L M hK h
  intro H locs ls h1 h2 h3 h4 h5
  unfold oDup2 at h
  split at h
  · obtain ⟨h0, h⟩ := zcond h
    simp only [Bool.and_eq_true] at h0
    exact lv_dup2_11 F.1 F.2.1 hd (by rw [zdn_cat]; exact Nat.eq_of_beq_eq_true h0.1) (by rw [zdn_cat]; exact Nat.eq_of_beq_eq_true h0.2) (hK _ _ _ h H locs ls h1 h2 h3 h4 h5)
  · exact h.elim
theorem s_goto (F : zF p R s m args c cc nL own D X B aL d n0 n1) {pc : Nat} {off : Int} {t : Nat} (hd : decode cc pc = .ok (.goto off, 3)) (ht : (pc : Int) + off = (t : Int)) : zS p l e R s m args below meth c Qf D X B aL b nL n0 n1 E Q pc (oGo t) (pc + 3) := by
  intro K st L M hK h
  intro H locs ls h1 h2 h3 h4 h5
  exact lv_goto F.1 F.2.1 hd ht (h H locs ls h1 h2 h3 h4 h5)
theorem s_fall (F : zF p R s m args c cc nL own D X B aL d n0 n1) {pc : Nat}  : zS p l e R s m args below meth c Qf D X B aL b nL n0 n1 E Q pc (oGo pc) (pc) := by
  intro K st L M hK h
  intro H locs ls h1 h2 h3 h4 h5
  exact h H locs ls h1 h2 h3 h4 h5
theorem s_ifeq (F : zF p R s m args c cc nL own D X B aL d n0 n1) {pc : Nat} {off : Int} {t : Nat} (hd : decode cc pc = .ok (.ifCond .eq off, 3)) (ht : (pc : Int) + off = (t : Int)) : zS p l e R s m args below meth c Qf D X B aL b nL n0 n1 E Q pc (oIfEq t) (pc + 3) := by
  intro K st L M hK h
  intro H locs ls h1 h2 h3 h4 h5
  unfold oIfEq at h
  split at h
  · exact lv_if_eq F.1 F.2.1 hd ht (fun q => h.1 q H locs ls h1 h2 h3 h4 h5) (fun q => hK _ _ _ (h.2 q) H locs ls h1 h2 h3 h4 h5)
  · exact h.elim
theorem s_cmpeq (F : zF p R s m args c cc nL own D X B aL d n0 n1) {pc : Nat} {off : Int} {t : Nat} (hd : decode cc pc = .ok (.if_icmp .eq off, 3)) (ht : (pc : Int) + off = (t : Int)) : zS p l e R s m args below meth c Qf D X B aL b nL n0 n1 E Q pc (oCmpEq t) (pc + 3) := by
  intro K st L M hK h
  intro H locs ls h1 h2 h3 h4 h5
  unfold oCmpEq at h
  split at h
  · exact lv_icmp_eq F.1 F.2.1 hd ht (fun q => h.1 q H locs ls h1 h2 h3 h4 h5) (fun q => hK _ _ _ (h.2 q) H locs ls h1 h2 h3 h4 h5)
  · exact h.elim
theorem s_ifne (F : zF p R s m args c cc nL own D X B aL d n0 n1) {pc : Nat} {off : Int} {t : Nat} (hd : decode cc pc = .ok (.ifCond .ne off, 3)) (ht : (pc : Int) + off = (t : Int)) : zS p l e R s m args below meth c Qf D X B aL b nL n0 n1 E Q pc (oIfNe t) (pc + 3) := by
  intro K st L M hK h
  intro H locs ls h1 h2 h3 h4 h5
  unfold oIfNe at h
  split at h
  · exact lv_if_ne F.1 F.2.1 hd ht (fun q => h.1 q H locs ls h1 h2 h3 h4 h5) (fun q => hK _ _ _ (h.2 q) H locs ls h1 h2 h3 h4 h5)
  · exact h.elim
theorem s_cmpne (F : zF p R s m args c cc nL own D X B aL d n0 n1) {pc : Nat} {off : Int} {t : Nat} (hd : decode cc pc = .ok (.if_icmp .ne off, 3)) (ht : (pc : Int) + off = (t : Int)) : zS p l e R s m args below meth c Qf D X B aL b nL n0 n1 E Q pc (oCmpNe t) (pc + 3) := by
  intro K st L M hK h
  intro H locs ls h1 h2 h3 h4 h5
  unfold oCmpNe at h
  split at h
  · exact lv_icmp_ne F.1 F.2.1 hd ht (fun q => h.1 q H locs ls h1 h2 h3 h4 h5) (fun q => hK _ _ _ (h.2 q) H locs ls h1 h2 h3 h4 h5)
  · exact h.elim
theorem s_iflt (F : zF p R s m args c cc nL own D X B aL d n0 n1) {pc : Nat} {off : Int} {t : Nat} (hd : decode cc pc = .ok (.ifCond .lt off, 3)) (ht : (pc : Int) + off = (t : Int)) : zS p l e R s m args below meth c Qf D X B aL b nL n0 n1 E Q pc (oIfLt t) (pc + 3) := by
  intro K st L M hK h
  intro H locs ls h1 h2 h3 h4 h5
  unfold oIfLt at h
  split at h
  · exact lv_if_lt F.1 F.2.1 hd ht (fun q => h.1 q H locs ls h1 h2 h3 h4 h5) (fun q => hK _ _ _ (h.2 q) H locs ls h1 h2 h3 h4 h5)
  · exact h.elim
theorem s_cmplt (F : zF p R s m args c cc nL own D X B aL d n0 n1) {pc : Nat} {off : Int} {t : Nat} (hd : decode cc pc = .ok (.if_icmp .lt off, 3)) (ht : (pc : Int) + off = (t : Int)) : zS p l e R s m args below meth c Qf D X B aL b nL n0 n1 E Q pc (oCmpLt t) (pc + 3) := by
  intro K st L M hK h
  intro H locs ls h1 h2 h3 h4 h5
  unfold oCmpLt at h
  split at h
  · exact lv_icmp_lt F.1 F.2.1 hd ht (fun q => h.1 q H locs ls h1 h2 h3 h4 h5) (fun q => hK _ _ _ (h.2 q) H locs ls h1 h2 h3 h4 h5)
  · exact h.elim
theorem s_ifge (F : zF p R s m args c cc nL own D X B aL d n0 n1) {pc : Nat} {off : Int} {t : Nat} (hd : decode cc pc = .ok (.ifCond .ge off, 3)) (ht : (pc : Int) + off = (t : Int)) : zS p l e R s m args below meth c Qf D X B aL b nL n0 n1 E Q pc (oIfGe t) (pc + 3) := by
  intro K st L M hK h
  intro H locs ls h1 h2 h3 h4 h5
  unfold oIfGe at h
  split at h
  · exact lv_if_ge F.1 F.2.1 hd ht (fun q => h.1 q H locs ls h1 h2 h3 h4 h5) (fun q => hK _ _ _ (h.2 q) H locs ls h1 h2 h3 h4 h5)
  · exact h.elim
theorem s_cmpge (F : zF p R s m args c cc nL own D X B aL d n0 n1) {pc : Nat} {off : Int} {t : Nat} (hd : decode cc pc = .ok (.if_icmp .ge off, 3)) (ht : (pc : Int) + off = (t : Int)) : zS p l e R s m args below meth c Qf D X B aL b nL n0 n1 E Q pc (oCmpGe t) (pc + 3) := by
  intro K st L M hK h
  intro H locs ls h1 h2 h3 h4 h5
  unfold oCmpGe at h
  split at h
  · exact lv_icmp_ge F.1 F.2.1 hd ht (fun q => h.1 q H locs ls h1 h2 h3 h4 h5) (fun q => hK _ _ _ (h.2 q) H locs ls h1 h2 h3 h4 h5)
  · exact h.elim
theorem s_ifgt (F : zF p R s m args c cc nL own D X B aL d n0 n1) {pc : Nat} {off : Int} {t : Nat} (hd : decode cc pc = .ok (.ifCond .gt off, 3)) (ht : (pc : Int) + off = (t : Int)) : zS p l e R s m args below meth c Qf D X B aL b nL n0 n1 E Q pc (oIfGt t) (pc + 3) := by
  intro K st L M hK h
  intro H locs ls h1 h2 h3 h4 h5
  unfold oIfGt at h
  split at h
  · exact lv_if_gt F.1 F.2.1 hd ht (fun q => h.1 q H locs ls h1 h2 h3 h4 h5) (fun q => hK _ _ _ (h.2 q) H locs ls h1 h2 h3 h4 h5)
  · exact h.elim
theorem s_cmpgt (F : zF p R s m args c cc nL own D X B aL d n0 n1) {pc : Nat} {off : Int} {t : Nat} (hd : decode cc pc = .ok (.if_icmp .gt off, 3)) (ht : (pc : Int) + off = (t : Int)) : zS p l e R s m args below meth c Qf D X B aL b nL n0 n1 E Q pc (oCmpGt t) (pc + 3) := by
  intro K st L M hK h
  intro H locs ls h1 h2 h3 h4 h5
  unfold oCmpGt at h
  split at h
  · exact lv_icmp_gt F.1 F.2.1 hd ht (fun q => h.1 q H locs ls h1 h2 h3 h4 h5) (fun q => hK _ _ _ (h.2 q) H locs ls h1 h2 h3 h4 h5)
  · exact h.elim
theorem s_ifle (F : zF p R s m args c cc nL own D X B aL d n0 n1) {pc : Nat} {off : Int} {t : Nat} (hd : decode cc pc = .ok (.ifCond .le off, 3)) (ht : (pc : Int) + off = (t : Int)) : zS p l e R s m args below meth c Qf D X B aL b nL n0 n1 E Q pc (oIfLe t) (pc + 3) := by
  intro K st L M hK h
  intro H locs ls h1 h2 h3 h4 h5
  unfold oIfLe at h
  split at h
  · exact lv_if_le F.1 F.2.1 hd ht (fun q => h.1 q H locs ls h1 h2 h3 h4 h5) (fun q => hK _ _ _ (h.2 q) H locs ls h1 h2 h3 h4 h5)
  · exact h.elim
theorem s_cmple (F : zF p R s m args c cc nL own D X B aL d n0 n1) {pc : Nat} {off : Int} {t : Nat} (hd : decode cc pc = .ok (.if_icmp .le off, 3)) (ht : (pc : Int) + off = (t : Int)) : zS p l e R s m args below meth c Qf D X B aL b nL n0 n1 E Q pc (oCmpLe t) (pc + 3) := by
  intro K st L M hK h
  intro H locs ls h1 h2 h3 h4 h5
  unfold oCmpLe at h
  split at h
  · exact lv_icmp_le F.1 F.2.1 hd ht (fun q => h.1 q H locs ls h1 h2 h3 h4 h5) (fun q => hK _ _ _ (h.2 q) H locs ls h1 h2 h3 h4 h5)
  · exact h.elim
theorem zagetD {a : Array Int} {i : Nat} (h : i < a.size) : a[i]? = some (a.getD i 0) := by simp [Array.getD, h]
theorem zlgetD {a : List Nat} {i : Nat} (h : i < a.length) : a[i]? = some (a.getD i 0) := by simp [List.getD, h]
theorem zsw_at {x : Int32} {G : Nat → Prop} : ∀ (ts : List Nat) (j : Int) (i t : Nat), zsw x G j ts → ts[i]? = some t → x.toInt = j + i → G t
  | [], _, _, _, _, h2, _ => by simp at h2
  | u :: ts, j, 0, t, h1, h2, h3 => by
    simp at h2
    subst h2
    exact h1.1 (by omega)
  | u :: ts, j, i + 1, t, h1, h2, h3 => zsw_at ts (j + 1) i t h1.2 (by simpa using h2) (by omega)
theorem s_tsw (F : zF p R s m args c cc nL own D X B aL d n0 n1) {pc : Nat} {dflt hi : Int} {offs : Array Int} {len dt nx : Nat} {ts : List Nat} (hd : decode cc pc = .ok (.tableswitch dflt 0 hi offs, len)) (h0 : (pc : Int) + dflt = (dt : Int)) (hh : hi + 1 = (ts.length : Int)) (ho : offs.size = ts.length) (hj : ∀ i, i < ts.length → (pc : Int) + offs.getD i 0 = (ts.getD i 0 : Nat)) : zS p l e R s m args below meth c Qf D X B aL b nL n0 n1 E Q pc (oSw dt ts) (nx) := by
  intro K st L M hK h
  intro H locs ls h1 h2 h3 h4 h5
  unfold oSw at h
  split at h
  · rename_i x r
    by_cases hc : x.toInt < 0 ∨ (ts.length : Int) ≤ x.toInt
    · exact lv_tableOut F.1 F.2.1 hd (by omega) h0 (h.1 hc H locs ls h1 h2 h3 h4 h5)
    · have hi1 : (x.toInt - 0).toNat < ts.length := by omega
      have hg := zsw_at ts 0 (x.toInt - 0).toNat _ h.2 (zlgetD hi1) (by omega)
      exact lv_tableIn F.1 F.2.1 hd (by omega) (by omega) (zagetD (by omega)) (hj _ hi1) (hg H locs ls h1 h2 h3 h4 h5)
  · exact h.elim
theorem s_ri (F : zF p R s m args c cc nL own D X B aL d n0 n1) {pc : Nat} (hr : meth.sig.returnType = some .int) (hlk : meth.locks = false) (hd : decode cc pc = .ok (.ireturn, 1)) {nx : Nat} : zS p l e R s m args below meth c (MQ below (zQc D X B n1 Q) args s (n1 - n0) (zss n1 - zss n0) (fun q => B ≤ q)) D X B aL b nL n0 n1 E Q pc (oRI) (nx) := by
  intro K st L M hK h
  intro H locs ls h1 h2 h3 h4 h5
  unfold oRI at h
  split at h
  · obtain ⟨h0, h⟩ := zcond h
    have hn := Nat.eq_of_beq_eq_true h0
    rw [hn]
    exact W.iret F.1 F.2.1 hr (fun t ht hW => ⟨⟨_, M, rfl, Or.inr (Or.inl ⟨_, rfl⟩), h, hn, by rw [ht]; exact h3⟩, h4.F ht⟩) h4.2.2 hd hlk
  · exact h.elim
theorem s_rz (F : zF p R s m args c cc nL own D X B aL d n0 n1) {pc : Nat} (hr : meth.sig.returnType = some .boolean) (hlk : meth.locks = false) (hd : decode cc pc = .ok (.ireturn, 1)) {nx : Nat} : zS p l e R s m args below meth c (MQ below (zQc D X B n1 Q) args s (n1 - n0) (zss n1 - zss n0) (fun q => B ≤ q)) D X B aL b nL n0 n1 E Q pc (oRZ) (nx) := by
  intro K st L M hK h
  intro H locs ls h1 h2 h3 h4 h5
  unfold oRZ at h
  split at h
  · obtain ⟨hz, h⟩ := h
    obtain ⟨h0, h⟩ := zcond h
    have hn := Nat.eq_of_beq_eq_true h0
    rw [hn]
    exact W.zret F.1 F.2.1 hr (by rcases hz with rfl | rfl <;> decide) (fun t ht hW => ⟨⟨_, M, rfl, Or.inr (Or.inl ⟨_, rfl⟩), h, hn, by rw [ht]; exact h3⟩, h4.F ht⟩) h4.2.2 hd hlk
  · exact h.elim
theorem s_rj (F : zF p R s m args c cc nL own D X B aL d n0 n1) {pc : Nat} (hr : meth.sig.returnType = some .long) (hlk : meth.locks = false) (hd : decode cc pc = .ok (.lreturn, 1)) {nx : Nat} : zS p l e R s m args below meth c (MQ below (zQc D X B n1 Q) args s (n1 - n0) (zss n1 - zss n0) (fun q => B ≤ q)) D X B aL b nL n0 n1 E Q pc (oRJ) (nx) := by
  intro K st L M hK h
  intro H locs ls h1 h2 h3 h4 h5
  unfold oRJ at h
  split at h
  · obtain ⟨h0, h⟩ := zcond h
    have hn := Nat.eq_of_beq_eq_true h0
    rw [hn]
    exact W.lret F.1 F.2.1 hr (fun t ht hW => ⟨⟨_, M, rfl, Or.inr (Or.inr ⟨_, rfl⟩), h, hn, by rw [ht]; exact h3⟩, h4.F ht⟩) h4.2.2 hd hlk
  · exact h.elim
theorem s_rv (F : zF p R s m args c cc nL own D X B aL d n0 n1) {pc : Nat} (hr : meth.sig.returnType = none) (hlk : meth.locks = false) (hd : decode cc pc = .ok (.return_, 1)) {nx : Nat} : zS p l e R s m args below meth c (MQ below (zQc D X B n1 Q) args s (n1 - n0) (zss n1 - zss n0) (fun q => B ≤ q)) D X B aL b nL n0 n1 E Q pc (oRV) (nx) := by
  intro K st L M hK h
  intro H locs ls h1 h2 h3 h4 h5
  unfold oRV at h
  split at h
  · obtain ⟨h0, h⟩ := zcond h
    have hn := Nat.eq_of_beq_eq_true h0
    rw [hn]
    exact W.vret F.1 F.2.1 hr (fun t ht hW => ⟨⟨none, M, rfl, Or.inl rfl, h, hn, by rw [ht]; exact h3⟩, h4.F ht⟩) h4.2.2 hd hlk
  · exact h.elim
theorem z9 {k n : Nat} (F : zF p R s m args c cc nL own D X B aL d n0 n1) (hk : k < n) (h2 : n ≤ n1) : k < 900 := by
  have := F.2.2.2.2.2.2.2.2.2.2
  omega
theorem zmap_ref {k : Nat} {r : List Value} (h : k < 900) : (Value.ref k :: r).map (zdn B aL b) = .ref (B + k) :: r.map (zdn B aL b) := by simp only [List.map_cons, zdn, zadr_lt h]
theorem s_gi (F : zF p R s m args c cc nL own D X B aL d n0 n1) {pc : Nat} {ci j idx : Nat} {C : String} {T : u_T} {N : Nat} (hc : vwCl[ci]? = some (C, T, N)) (hin : ∀ w ∈ u_ws C T N, w ∈ zgood) (hj : j < N) (hN : zN ci = N) (hf : zfr ci j = false) (hl : Cond.fieldLink own idx (T j).1 (T j).2.1 (T j).2.2.1 ∈ zgood) (hd : decode cc pc = .ok (.getfield idx, 3)) : zS p l e R s m args below meth c Qf D X B aL b nL n0 n1 E Q pc (oGI ci j) (pc + 3) := by
  intro K st L M hK h
  intro H locs ls h1 h2 h3 h4 h5
  unfold oGI at h
  split at h
  · obtain ⟨h0, h⟩ := zcond h
    obtain ⟨hk, hsh⟩ := zokO_ok h0
    rw [zmap_ref (z9 F hk h2)]
    have he := zw_get (X := X) (B := B) hk
    rw [zcell_o hsh] at he
    exact va_get F.1 F.2.1 F.2.2.2.2.1 hin F.2.2.2.1 F.2.2.2.2.2.1.1 h3 _ he hc j hj (F.2.2.2.2.1 _ hl) (fun _ q => q) (v := .int (M.1 _ j)) (by rw [hN]; simp [hj, zfv, hf]) hd (hK _ _ _ h H locs ls h1 h2 h3 h4 h5)
  · exact h.elim
theorem s_gr (F : zF p R s m args c cc nL own D X B aL d n0 n1) {pc : Nat} {ci j idx : Nat} {C : String} {T : u_T} {N : Nat} (hc : vwCl[ci]? = some (C, T, N)) (hin : ∀ w ∈ u_ws C T N, w ∈ zgood) (hj : j < N) (hN : zN ci = N) (hf : zfr ci j = true) (hl : Cond.fieldLink own idx (T j).1 (T j).2.1 (T j).2.2.1 ∈ zgood) (hd : decode cc pc = .ok (.getfield idx, 3)) : zS p l e R s m args below meth c Qf D X B aL b nL n0 n1 E Q pc (oGR ci j) (pc + 3) := by
  intro K st L M hK h
  intro H locs ls h1 h2 h3 h4 h5
  unfold oGR at h
  split at h
  · obtain ⟨h0, h⟩ := zcond h
    split at h
    · rename_i t ht
      obtain ⟨h9, h⟩ := zcond h
      have h9 : t < 900 := Nat.le_of_ble_eq_true h9
      obtain ⟨hk, hsh⟩ := zokO_ok h0
      rw [zmap_ref (z9 F hk h2)]
      have he := zw_get (X := X) (B := B) hk
      rw [zcell_o hsh] at he
      have hg := hK _ _ _ h H locs ls h1 h2 h3 h4 h5
      rw [zmap_ref h9] at hg
      exact va_get F.1 F.2.1 F.2.2.2.2.1 hin F.2.2.2.1 F.2.2.2.2.2.1.1 h3 _ he hc j hj (F.2.2.2.2.1 _ hl) (fun _ q => q) (v := .ref (B + t)) (by rw [hN]; simp [hj, zfv, hf, ht, va_rf]) hd hg
    · exact h.elim
  · exact h.elim
theorem s_pi (F : zF p R s m args c cc nL own D X B aL d n0 n1) {pc : Nat} {ci j idx : Nat} {C : String} {T : u_T} {N : Nat} (hc : vwCl[ci]? = some (C, T, N)) (hin : ∀ w ∈ u_ws C T N, w ∈ zgood) (hj : j < N) (hN : zN ci = N) {ty : Nat → FieldType} (hty : ∀ k, k < N → parseFieldDescriptor (T k).2.2.1 = some (ty k)) (hnm : ∀ a, a < N → ∀ b, b < N → a ≠ b → (T a).2.1 ≠ (T b).2.1) (hf : zfr ci j = false) (hl : Cond.fieldLink own idx (T j).1 (T j).2.1 (T j).2.2.1 ∈ zgood) (hfin : (T j).2.2.2 = false) (ht : ty j = .int) (hd : decode cc pc = .ok (.putfield idx, 3)) : zS p l e R s m args below meth c Qf D X B aL b nL n0 n1 E Q pc (oPI ci j) (pc + 3) := by
  intro K st L M hK h
  intro H locs ls h1 h2 h3 h4 h5
  unfold oPI at h
  split at h
  · obtain ⟨h0, h⟩ := zcond h
    obtain ⟨hk, hsh⟩ := zokO_ok h0
    rename_i v k r _
    rw [show (Value.int v :: Value.ref k :: r).map (zdn B aL b) = .int v :: .ref (B + k) :: r.map (zdn B aL b) by simp only [List.map_cons, zdn, zadr_lt (z9 F hk h2)]]
    have he := zw_get (X := X) (B := B) hk
    rw [zcell_o hsh] at he
    refine va_put F.1 F.2.1 F.2.2.2.2.1 hin ty hty hnm F.2.2.2.1 F.2.2.2.2.2.1.1 h3 zw_D h4 _ he hc j hj (F.2.2.2.2.1 _ hl) (fun _ q => q) hfin (v := .int v) (hty j hj) (by rw [ht]; rfl) (by rw [ht]; rfl) (by simp [hN, hj]) hd (fun H1 locs1 hP1 hD1 hS1 => ?_)
    have hset : ((List.range (zN ci)).map (zfv B M k ci)).set j (.int v) = (List.range (zN ci)).map (zfv B (zwI M k j v) k ci) := zsetm (by omega) (by simp [zfv, hf, zwI, va_up]) (fun i hi => by simp [zfv, zwI, va_up, hi])
    have hw := zw_set (X := X) (B := B) (M' := zwI M k j v) hk rfl (fun i hi => zwI_cell hi) (e := .inr (ci, ((List.range (zN ci)).map (zfv B M k ci)).set j (.int v))) (by rw [zcell_o hsh, hset])
    rw [hw] at hP1
    exact hK _ _ _ h H1 locs1 ls h1 h2 hP1 hS1 h5
  · exact h.elim
theorem s_pz (F : zF p R s m args c cc nL own D X B aL d n0 n1) {pc : Nat} {ci j idx : Nat} {C : String} {T : u_T} {N : Nat} (hc : vwCl[ci]? = some (C, T, N)) (hin : ∀ w ∈ u_ws C T N, w ∈ zgood) (hj : j < N) (hN : zN ci = N) {ty : Nat → FieldType} (hty : ∀ k, k < N → parseFieldDescriptor (T k).2.2.1 = some (ty k)) (hnm : ∀ a, a < N → ∀ b, b < N → a ≠ b → (T a).2.1 ≠ (T b).2.1) (hf : zfr ci j = false) (hl : Cond.fieldLink own idx (T j).1 (T j).2.1 (T j).2.2.1 ∈ zgood) (hfin : (T j).2.2.2 = false) (ht : ty j = .boolean) (hd : decode cc pc = .ok (.putfield idx, 3)) : zS p l e R s m args below meth c Qf D X B aL b nL n0 n1 E Q pc (oPZ ci j) (pc + 3) := by
  intro K st L M hK h
  intro H locs ls h1 h2 h3 h4 h5
  unfold oPZ at h
  split at h
  · obtain ⟨hz, h⟩ := h
    obtain ⟨h0, h⟩ := zcond h
    obtain ⟨hk, hsh⟩ := zokO_ok h0
    rename_i v k r _
    rw [show (Value.int v :: Value.ref k :: r).map (zdn B aL b) = .int v :: .ref (B + k) :: r.map (zdn B aL b) by simp only [List.map_cons, zdn, zadr_lt (z9 F hk h2)]]
    have he := zw_get (X := X) (B := B) hk
    rw [zcell_o hsh] at he
    refine va_put F.1 F.2.1 F.2.2.2.2.1 hin ty hty hnm F.2.2.2.1 F.2.2.2.2.2.1.1 h3 zw_D h4 _ he hc j hj (F.2.2.2.2.1 _ hl) (fun _ q => q) hfin (v := .int v) (hty j hj) (by rw [ht]; rcases hz with rfl | rfl <;> decide) (by rw [ht]; rcases hz with rfl | rfl <;> decide) (by simp [hN, hj]) hd (fun H1 locs1 hP1 hD1 hS1 => ?_)
    have hset : ((List.range (zN ci)).map (zfv B M k ci)).set j (.int v) = (List.range (zN ci)).map (zfv B (zwI M k j v) k ci) := zsetm (by omega) (by simp [zfv, hf, zwI, va_up]) (fun i hi => by simp [zfv, zwI, va_up, hi])
    have hw := zw_set (X := X) (B := B) (M' := zwI M k j v) hk rfl (fun i hi => zwI_cell hi) (e := .inr (ci, ((List.range (zN ci)).map (zfv B M k ci)).set j (.int v))) (by rw [zcell_o hsh, hset])
    rw [hw] at hP1
    exact hK _ _ _ h H1 locs1 ls h1 h2 hP1 hS1 h5
  · exact h.elim
theorem s_pr (F : zF p R s m args c cc nL own D X B aL d n0 n1) {pc : Nat} {ci j idx : Nat} {C : String} {T : u_T} {N : Nat} (hc : vwCl[ci]? = some (C, T, N)) (hin : ∀ w ∈ u_ws C T N, w ∈ zgood) (hj : j < N) (hN : zN ci = N) {ty : Nat → FieldType} (hty : ∀ k, k < N → parseFieldDescriptor (T k).2.2.1 = some (ty k)) (hnm : ∀ a, a < N → ∀ b, b < N → a ≠ b → (T a).2.1 ≠ (T b).2.1) (hf : zfr ci j = true) (hl : Cond.fieldLink own idx (T j).1 (T j).2.1 (T j).2.2.1 ∈ zgood) (hfin : (T j).2.2.2 = true) (hin2 : meth.name = "<init>") (hdecl : (T j).1 = own) (ht : (∃ q, ty j = .array q) ∨ ∃ q, ty j = .object q) (hd : decode cc pc = .ok (.putfield idx, 3)) : zS p l e R s m args below meth c Qf D X B aL b nL n0 n1 E Q pc (oPR ci j) (pc + 3) := by
  intro K st L M hK h
  intro H locs ls h1 h2 h3 h4 h5
  unfold oPR at h
  split at h
  · obtain ⟨h0, h⟩ := zcond h
    simp only [Bool.and_eq_true] at h0
    obtain ⟨h0, h9⟩ := h0
    rename_i t k r _
    have h9 : t < 900 := Nat.le_of_ble_eq_true h9
    obtain ⟨hk, hsh⟩ := zokO_ok h0
    rw [show (Value.ref t :: Value.ref k :: r).map (zdn B aL b) = .ref (B + t) :: .ref (B + k) :: r.map (zdn B aL b) by simp only [List.map_cons, zdn, zadr_lt (z9 F hk h2), zadr_lt h9]]
    have he := zw_get (X := X) (B := B) hk
    rw [zcell_o hsh] at he
    refine va_putF F.1 F.2.1 F.2.2.2.2.1 hin ty hty hnm F.2.2.2.1 F.2.2.2.2.2.1.1 h3 zw_D h4 _ he hc j hj (F.2.2.2.2.1 _ hl) (fun _ q => q) hfin hin2 hdecl (v := .ref (B + t)) (hty j hj) (by rcases ht with ⟨q, ht⟩ | ⟨q, ht⟩ <;> rw [ht] <;> rfl) (by rcases ht with ⟨q, ht⟩ | ⟨q, ht⟩ <;> rw [ht] <;> rfl) (by simp [hN, hj]) hd (fun H1 locs1 hP1 hD1 hS1 => ?_)
    have hset : ((List.range (zN ci)).map (zfv B M k ci)).set j (.ref (B + t)) = (List.range (zN ci)).map (zfv B (zwR M k j t) k ci) := zsetm (by omega) (by simp [zfv, hf, zwR, va_up, va_rf]) (fun i hi => by simp [zfv, zwR, va_up, hi])
    have hw := zw_set (X := X) (B := B) (M' := zwR M k j t) hk rfl (fun i hi => zwR_cell hi) (e := .inr (ci, ((List.range (zN ci)).map (zfv B M k ci)).set j (.ref (B + t)))) (by rw [zcell_o hsh, hset])
    rw [hw] at hP1
    exact hK _ _ _ h H1 locs1 ls h1 h2 hP1 hS1 h5
  · exact h.elim
theorem s_iaload (F : zF p R s m args c cc nL own D X B aL d n0 n1) {pc : Nat} (hd : decode cc pc = .ok (.iaload, 1)) : zS p l e R s m args below meth c Qf D X B aL b nL n0 n1 E Q pc (oLd) (pc + 1) := by
  intro K st L M hK h
  intro H locs ls h1 h2 h3 h4 h5
  unfold oLd at h
  split at h
  · rename_i i k r
    split at h
    · rename_i n hn
      obtain ⟨hk, hsh⟩ := zlen_ok hn
      rw [show (Value.int i :: Value.ref k :: r).map (zdn B aL b) = .int i :: .ref (B + k) :: r.map (zdn B aL b) by simp only [List.map_cons, zdn, zadr_lt (z9 F hk h2)]]
      have he := zw_get (X := X) (B := B) hk
      rw [zcell_i hsh] at he
      exact va_iald F.1 F.2.1 F.2.2.2.2.2.1.1 h3 _ 0 he rfl h.1 hd (hK _ _ _ h.2 H locs ls h1 h2 h3 h4 h5)
    · exact h.elim
  · exact h.elim
theorem s_laload (F : zF p R s m args c cc nL own D X B aL d n0 n1) {pc : Nat} (hd : decode cc pc = .ok (.laload, 1)) : zS p l e R s m args below meth c Qf D X B aL b nL n0 n1 E Q pc (oLdJ) (pc + 1) := by
  intro K st L M hK h
  intro H locs ls h1 h2 h3 h4 h5
  unfold oLdJ at h
  split at h
  · rename_i i k r
    split at h
    · rename_i n hn
      obtain ⟨hk, hsh⟩ := zlen_ok hn
      rw [show (Value.int i :: Value.ref k :: r).map (zdn B aL b) = .int i :: .ref (B + k) :: r.map (zdn B aL b) by simp only [List.map_cons, zdn, zadr_lt (z9 F hk h2)]]
      have he := zw_get (X := X) (B := B) hk
      rw [zcell_j hsh] at he
      exact va_lald F.1 F.2.1 F.2.2.2.2.2.1.1 h3 _ 1 he rfl h.1 hd (hK _ _ _ h.2 H locs ls h1 h2 h3 h4 h5)
    · exact h.elim
  · exact h.elim
theorem s_zaload (F : zF p R s m args c cc nL own D X B aL d n0 n1) {pc : Nat} (hd : decode cc pc = .ok (.baload, 1)) : zS p l e R s m args below meth c Qf D X B aL b nL n0 n1 E Q pc (oLdZ) (pc + 1) := by
  intro K st L M hK h
  intro H locs ls h1 h2 h3 h4 h5
  unfold oLdZ at h
  split at h
  · rename_i i k r
    split at h
    · rename_i n hn
      obtain ⟨hk, hsh⟩ := zlen_ok hn
      rw [show (Value.int i :: Value.ref k :: r).map (zdn B aL b) = .int i :: .ref (B + k) :: r.map (zdn B aL b) by simp only [List.map_cons, zdn, zadr_lt (z9 F hk h2)]]
      have he := zw_get (X := X) (B := B) hk
      rw [zcell_z hsh] at he
      exact va_zald F.1 F.2.1 F.2.2.2.2.2.1.1 h3 _ 2 he rfl h.1 hd (hK _ _ _ h.2 H locs ls h1 h2 h3 h4 h5)
    · exact h.elim
  · exact h.elim
theorem s_iastore (F : zF p R s m args c cc nL own D X B aL d n0 n1) {pc : Nat} (hd : decode cc pc = .ok (.iastore, 1)) : zS p l e R s m args below meth c Qf D X B aL b nL n0 n1 E Q pc (oSt) (pc + 1) := by
  intro K st L M hK h
  intro H locs ls h1 h2 h3 h4 h5
  unfold oSt at h
  split at h
  · rename_i x i k r
    split at h
    · rename_i n hn
      obtain ⟨hk, hsh⟩ := zlen_ok hn
      rw [show (Value.int x :: Value.int i :: Value.ref k :: r).map (zdn B aL b) = .int x :: .int i :: .ref (B + k) :: r.map (zdn B aL b) by simp only [List.map_cons, zdn, zadr_lt (z9 F hk h2)]]
      have he := zw_get (X := X) (B := B) hk
      rw [zcell_i hsh] at he
      refine va_iast F.1 F.2.1 F.2.2.2.2.2.1.1 h3 zw_D h4 _ 0 he rfl h.1 hd (fun H1 locs1 hP1 hD1 hS1 => ?_)
      have hw := zw_set (X := X) (B := B) (M' := zwI M k i.toNatClampNeg x) hk rfl (fun i hi => zwI_cell hi) (e := .inl (X.1, n, .inl (upd (M.1 k) i.toNatClampNeg x))) (by rw [zcell_i hsh]; simp only [zwI, va_up, if_pos]; first | rfl | (rw [hz]; rfl))
      rw [hw] at hP1
      exact hK _ _ _ h.2 H1 locs1 ls h1 h2 hP1 hS1 h5
    · exact h.elim
  · exact h.elim
theorem s_lastore (F : zF p R s m args c cc nL own D X B aL d n0 n1) {pc : Nat} (hd : decode cc pc = .ok (.lastore, 1)) : zS p l e R s m args below meth c Qf D X B aL b nL n0 n1 E Q pc (oStJ) (pc + 1) := by
  intro K st L M hK h
  intro H locs ls h1 h2 h3 h4 h5
  unfold oStJ at h
  split at h
  · rename_i x i k r
    split at h
    · rename_i n hn
      obtain ⟨hk, hsh⟩ := zlen_ok hn
      rw [show (Value.long x :: Value.int i :: Value.ref k :: r).map (zdn B aL b) = .long x :: .int i :: .ref (B + k) :: r.map (zdn B aL b) by simp only [List.map_cons, zdn, zadr_lt (z9 F hk h2)]]
      have he := zw_get (X := X) (B := B) hk
      rw [zcell_j hsh] at he
      refine va_last F.1 F.2.1 F.2.2.2.2.2.1.1 h3 zw_D h4 _ 1 he rfl h.1 hd (fun H1 locs1 hP1 hD1 hS1 => ?_)
      have hw := zw_set (X := X) (B := B) (M' := zwJ M k i.toNatClampNeg x) hk rfl (fun i hi => zwJ_cell hi) (e := .inl (X.2.1, n, .inr (.inl (vp_updL (M.2.1 k) i.toNatClampNeg x)))) (by rw [zcell_j hsh]; simp only [zwJ, va_up, if_pos]; first | rfl | (rw [hz]; rfl))
      rw [hw] at hP1
      exact hK _ _ _ h.2 H1 locs1 ls h1 h2 hP1 hS1 h5
    · exact h.elim
  · exact h.elim
theorem s_zastore (F : zF p R s m args c cc nL own D X B aL d n0 n1) {pc : Nat} (hd : decode cc pc = .ok (.bastore, 1)) : zS p l e R s m args below meth c Qf D X B aL b nL n0 n1 E Q pc (oStZ) (pc + 1) := by
  intro K st L M hK h
  intro H locs ls h1 h2 h3 h4 h5
  unfold oStZ at h
  split at h
  · rename_i x i k r
    split at h
    · rename_i n hn
      obtain ⟨hk, hsh⟩ := zlen_ok hn
      have hz : vp_nar .boolean x = x := by rcases h.2.1 with rfl | rfl <;> decide
      rw [show (Value.int x :: Value.int i :: Value.ref k :: r).map (zdn B aL b) = .int x :: .int i :: .ref (B + k) :: r.map (zdn B aL b) by simp only [List.map_cons, zdn, zadr_lt (z9 F hk h2)]]
      have he := zw_get (X := X) (B := B) hk
      rw [zcell_z hsh] at he
      refine va_zast F.1 F.2.1 F.2.2.2.2.2.1.1 h3 zw_D h4 _ 2 he rfl h.1 hd (fun H1 locs1 hP1 hD1 hS1 => ?_)
      have hw := zw_set (X := X) (B := B) (M' := zwI M k i.toNatClampNeg x) hk rfl (fun i hi => zwI_cell hi) (e := .inl (X.2.2, n, .inl (upd (M.1 k) i.toNatClampNeg (vp_nar .boolean x)))) (by rw [zcell_z hsh]; simp only [zwI, va_up, if_pos]; first | rfl | (rw [hz]; rfl))
      rw [hw] at hP1
      exact hK _ _ _ h.2.2 H1 locs1 ls h1 h2 hP1 hS1 h5
    · exact h.elim
  · exact h.elim
end ZW
end
section
/-! the methods, numbered: name, bytes, locals, what they return -/
def zmt : List (MethodName × ByteArray × Nat × Option FieldType) := [(yX0_init, cX0_init, 1, none),
  (yX0_enter, cX0_enter, 2, none),
  (yX1_init, cX1_init, 1, none),
  (yX1_has, cX1_has, 2, (some .boolean)),
  (yX1_latestWas, cX1_latestWas, 3, (some .boolean)),
  (yX1_add, cX1_add, 6, none),
  (yX1_waits, cX1_waits, 2, (some .boolean)),
  (yX1_waiting, cX1_waiting, 3, (some .int)),
  (yX1_firstWaiting, cX1_firstWaiting, 2, (some .int)),
  (yX1_fillOven, cX1_fillOven, 7, (some .int)),
  (yX1_ovensNeeded, cX1_ovensNeeded, 6, (some .int)),
  (yX1_isSuspect, cX1_isSuspect, 2, (some .boolean)),
  (yX1_poorUpTo, cX1_poorUpTo, 3, (some .boolean)),
  (yX1_poorFrom, cX1_poorFrom, 3, (some .boolean)),
  (yX2_init, cX2_init, 1, none),
  (yX2_has, cX2_has, 2, (some .boolean)),
  (yX2_add, cX2_add, 3, (some .int)),
  (yX2_isWarm, cX2_isWarm, 2, (some .boolean)),
  (yX2_ticksWarm, cX2_ticksWarm, 3, (some .int)),
  (yX2_mayPress, cX2_mayPress, 3, (some .boolean)),
  (yX2_leastWorn, cX2_leastWorn, 5, (some .int)),
  (yX2_wear, cX2_wear, 2, none),
  (yX3_init, cX3_init, 1, none),
  (yX3_add, cX3_add, 5, (some .int)),
  (yX3_serve, cX3_serve, 4, none),
  (yX4_init, cX4_init, 1, none),
  (yX4_seek, cX4_seek, 8, none),
  (yX4_load, cX4_load, 6, none),
  (yX4_seekSecond, cX4_seekSecond, 4, none),
  (yX4_fitting, cX4_fitting, 4, (some .int)),
  (yX4_offer, cX4_offer, 6, none),
  (yX5_init, cX5_init, 1, none),
  (yX5_add, cX5_add, 4, (some .int)),
  (yX5_setGap, cX5_setGap, 3, (some .int)),
  (yX5_settle, cX5_settle, 1, none),
  (yX5_fillPlace, cX5_fillPlace, 5, none),
  (yX5_tryJob, cX5_tryJob, 7, none),
  (yX5_keepIfBetter, cX5_keepIfBetter, 4, none),
  (yX6_init, cX6_init, 1, none),
  (yX6_has, cX6_has, 2, (some .boolean)),
  (yX6_add, cX6_add, 5, (some .int)),
  (yX7_init, cX7_init, 1, none),
  (yX7_found, cX7_found, 2, (some .int)),
  (yX7_renew, cX7_renew, 5, (some .int)),
  (yX7_discard, cX7_discard, 3, (some .int)),
  (yX7_faultOf, cX7_faultOf, 4, (some .int)),
  (yX7_write, cX7_write, 5, none),
  (yX7_move, cX7_move, 6, (some .int)),
  (yX7_weight, cX7_weight, 3, (some .int)),
  (yX8_init, cX8_init, 1, none),
  (yX8_trim, cX8_trim, 6, none),
  (yX8_share, cX8_share, 2, none),
  (yX9_init, cX9_init, 1, none),
  (yX9_profile, cX9_profile, 5, (some .int)),
  (yX9_die, cX9_die, 3, (some .int)),
  (yX9_warm, cX9_warm, 2, (some .int)),
  (yX9_cool, cX9_cool, 3, (some .int)),
  (yX9_nitride, cX9_nitride, 3, (some .int)),
  (yX9_about, cX9_about, 3, (some .int)),
  (yX9_ready, cX9_ready, 2, (some .int)),
  (yX9_pass, cX9_pass, 2, (some .int)),
  (yX9_law, cX9_law, 4, (some .int)),
  (yX9_press, cX9_press, 4, (some .int)),
  (yX9_bar, cX9_bar, 3, (some .int)),
  (yX9_order, cX9_order, 4, (some .int)),
  (yX9_wanted, cX9_wanted, 3, (some .int)),
  (yX9_pattern, cX9_pattern, 4, (some .int)),
  (yX9_account, cX9_account, 2, (some .int)),
  (yX9_stock, cX9_stock, 2, (some .int)),
  (yX9_best, cX9_best, 7, (some .int)),
  (yX9_job, cX9_job, 4, (some .int)),
  (yX9_change, cX9_change, 2, (some .int)),
  (yX9_late, cX9_late, 1, (some .int)),
  (yX9_planned, cX9_planned, 2, (some .int)),
  (yX9_room, cX9_room, 3, (some .int)),
  (yX9_age, cX9_age, 3, (some .int)),
  (yX9_batches, cX9_batches, 3, (some .int)),
  (yX9_sample, cX9_sample, 3, (some .int)),
  (yX9_suspect, cX9_suspect, 2, (some .int)),
  (yX9_held, cX9_held, 3, (some .int)),
  (yX9_drift, cX9_drift, 7, (some .int)),
  (yX9_sheet, cX9_sheet, 4, (some .int)),
  (yX9_lose, cX9_lose, 2, (some .int)),
  (yX9_put, cX9_put, 6, (some .int)),
  (yX9_get, cX9_get, 5, (some .int)),
  (yX9_copy, cX9_copy, 6, (some .int)),
  (yX9_count, cX9_count, 2, (some .int)),
  (yX9_digest, cX9_digest, 5, (some .long)),
  (yX9_within, cX9_within, 3, (some .boolean)),
  (yX9_isSheet, cX9_isSheet, 1, (some .boolean)),
  (yX9_isForm, cX9_isForm, 1, (some .boolean)),
  (yX9_foresee, cX9_foresee, 4, none),
  (yX9_paysMore, cX9_paysMore, 8, (some .boolean)),
  (yX10_init, cX10_init, 2, none),
  (yX10_in, cX10_in, 6, (some .boolean)),
  (yX10_isProfile, cX10_isProfile, 2, (some .boolean)),
  (yX10_isDie, cX10_isDie, 2, (some .boolean)),
  (yX10_profile, cX10_profile, 5, (some .int)),
  (yX10_die, cX10_die, 3, (some .int)),
  (yX10_warm, cX10_warm, 2, (some .int)),
  (yX10_cool, cX10_cool, 3, (some .int)),
  (yX10_nitride, cX10_nitride, 3, (some .int)),
  (yX10_mayPress, cX10_mayPress, 2, (some .boolean)),
  (yX10_about, cX10_about, 3, (some .int)),
  (yX10_ready, cX10_ready, 4, (some .int)),
  (yX10_pass, cX10_pass, 2, (some .int)),
  (yX10_law, cX10_law, 4, (some .int)),
  (yX10_most, cX10_most, 3, (some .int)),
  (yX10_findPattern, cX10_findPattern, 10, none),
  (yX10_lengthOf, cX10_lengthOf, 3, (some .int)),
  (yX10_findBar, cX10_findBar, 6, none),
  (yX10_press, cX10_press, 5, (some .int)),
  (yX10_isBar, cX10_isBar, 2, (some .boolean)),
  (yX10_bar, cX10_bar, 3, (some .int)),
  (yX10_order, cX10_order, 4, (some .int)),
  (yX10_wanted, cX10_wanted, 3, (some .int)),
  (yX10_pattern, cX10_pattern, 4, (some .int)),
  (yX10_account, cX10_account, 2, (some .int)),
  (yX10_stock, cX10_stock, 2, (some .int)),
  (yX10_best, cX10_best, 10, (some .int)),
  (yX10_job, cX10_job, 4, (some .int)),
  (yX10_change, cX10_change, 3, (some .int)),
  (yX10_nextRow, cX10_nextRow, 6, (some .boolean)),
  (yX10_findOrder, cX10_findOrder, 8, (some .int)),
  (yX10_late, cX10_late, 1, (some .int)),
  (yX10_planned, cX10_planned, 3, (some .int)),
  (yX10_room, cX10_room, 3, (some .int)),
  (yX10_waits, cX10_waits, 2, (some .boolean)),
  (yX10_noneGone, cX10_noneGone, 2, none),
  (yX10_takes, cX10_takes, 6, (some .int)),
  (yX10_age, cX10_age, 3, (some .int)),
  (yX10_batches, cX10_batches, 2, (some .int)),
  (yX10_sample, cX10_sample, 3, (some .int)),
  (yX10_isSuspect, cX10_isSuspect, 6, (some .boolean)),
  (yX10_suspect, cX10_suspect, 2, (some .int)),
  (yX10_held, cX10_held, 3, (some .int)),
  (yX10_drift, cX10_drift, 7, (some .int)),
  (yX10_met, cX10_met, 2, (some .int)),
  (yX10_isSheet, cX10_isSheet, 1, (some .boolean)),
  (yX10_sheet, cX10_sheet, 5, (some .int)),
  (yX10_lose, cX10_lose, 2, (some .int)),
  (yX10_lacks, cX10_lacks, 4, (some .int)),
  (yX10_put, cX10_put, 6, (some .int)),
  (yX10_get, cX10_get, 4, (some .int)),
  (yX10_copy, cX10_copy, 7, (some .int)),
  (yX10_waiting, cX10_waiting, 3, (some .int)),
  (yX10_count, cX10_count, 2, (some .int)),
  (yX10_digest, cX10_digest, 5, (some .long)),
  (yJ9_floorDiv_7cf53, cJ9_floorDiv_7cf53, 3, (some .int)),
  (yJ9_max_7cf53, cJ9_max_7cf53, 2, (some .int)),
  (yJ9_min_7cf53, cJ9_min_7cf53, 2, (some .int))]
def zmd (y : Nat) : MethodName × ByteArray × Nat × Option FieldType := zmt.getD y (yL_law, cL_law, 4, none)
def zmn (y : Nat) : MethodName := (zmd y).1
def zmc (y : Nat) : ByteArray := (zmd y).2.1
def zml (y : Nat) : Nat := (zmd y).2.2.1
def zmr (y : Nat) : Option FieldType := (zmd y).2.2.2
def zws (y : Nat) : List Cond := Cond.code (zmn y) (zmc y) (zml y) (zmr y) :: zgood
/-- a callee's contract at depth d -/
def zEc (l : Launch) (D : va_G) (X : ClassId × ClassId × ClassId) (B aL b d : Nat) : zE := fun y n2 a M Q => M.2.2.2 ≤ n2 ∧ Met l (zmn y) (zws y) (zrm d (n2 - M.2.2.2) (zss n2 - zss M.2.2.2)) (zPc D X B aL b a M) (zQc D X B n2 Q) (n2 - M.2.2.2) (zss n2 - zss M.2.2.2) (fun q => B ≤ q)
def zMK (y np : Nat) : Prop := Cond.code (zmn y) (zmc y) (zml y) (zmr y) ∈ zgood ∧ Cond.initialized (zmn y).cls ∈ zgood ∧ ((zmn y).cls ≠ "java/lang/invoke/MethodHandle" ∧ (zmn y).cls ≠ "java/lang/invoke/VarHandle" ∧ (parseMethodDescriptor (zmn y).desc).map (fun d => d.parameters.length) = some np) ∧ zml y ≤ 30
theorem zss_mono : ∀ {a c : Nat}, a ≤ c → zss a ≤ zss c
  | a, 0, h => by cases Nat.le_zero.mp h; exact Nat.le_refl _
  | a, c + 1, h => by
    rcases Nat.lt_or_ge a (c + 1) with q | q
    · exact Nat.le_trans (zss_mono (Nat.le_of_lt_succ q)) (Nat.le_add_right _ _)
    · cases Nat.le_antisymm h q; exact Nat.le_refl _
section ZW2
variable {p : Program} {l : Launch} {e : Env} {R : Room} {s : State} {m : MethodId} {args : Array Value} {below : List Frame} {meth : Method} {c : Code} {Qf : State → Prop} {D : va_G} {X : ClassId × ClassId × ClassId} {B aL b : Nat} {cc : ByteArray} {nL n0 n1 d : Nat} {own : String} {E : zE} {Q : Option Value → zM → Prop}
theorem zws_good {y : Nat} (h : Cond.code (zmn y) (zmc y) (zml y) (zmr y) ∈ zgood) : GoodIn zgood (zws y) := by
  intro w hw
  rcases List.mem_cons.mp hw with rfl | hw
  · exact ⟨h, zgood_ok h⟩
  · exact ⟨hw, zgood_ok hw⟩
theorem zgi_app {big a c : List Cond} (ha : GoodIn big a) (hb : GoodIn big c) : GoodIn big (a ++ c) := fun w h => (List.mem_append.mp h).elim (ha w) (hb w)
theorem zgi_cons {a : List Cond} {w : Cond} (hw : w ∈ zgood) (ha : GoodIn zgood a) : GoodIn zgood (w :: a) := fun v h => (List.mem_cons.mp h).elim (fun q => by rw [q]; exact ⟨hw, zgood_ok hw⟩) (ha v)
theorem zgi_nil : GoodIn zgood [] := fun v h => by cases h
theorem z_call {H : Heap} {locs : List Loc} {cells slots mc ms pc n2 : Nat} {ls : Array Slot} {st0 rest : List Value} {a : Array Value} {Q2 : Option Value → zM → Prop} (hr : va_Run p l e R s m args below meth c H locs cells slots mc ms (F0 m pc ls st0) rest (zQc D X B n2 Q2 a) (fun q => B ≤ q)) (hS : va_S (fun q => B ≤ q) s.heap H locs)
    (kk : ∀ (v : Option Value) (M' : zM) (H1 : Heap) (locs1 : List Loc), zplain v → Q2 v M' → M'.2.2.2 = n2 → va_P D vwCl (zw X B M') H1 → va_S (fun q => B ≤ q) s.heap H1 locs1 → W p l e R s m args below meth c H1 locs1 (cells + mc) (slots + ms) Qf (F0 m (pc + 3) ls (v.toList ++ rest))) : W p l e R s m args below meth c H locs cells slots Qf (F0 m pc ls st0) := by
  intro T hT Y
  obtain ⟨v, st₀, t, T', L, h0, Y', hL, e1, e2, ⟨⟨v', M', hv, hp, hq, hn, hP⟩, hz, hk⟩, st⟩ := hr T hT Y
  cases hv
  rw [h0] at hz hk
  obtain ⟨t2, a1, b1⟩ := kk v M' T'.heap (locs ++ L) hp hq hn (by rw [e1]; exact hP)
    ⟨Nat.le_trans hS.1 (by rw [e1]; exact hz), fun q h1 h2 => by rw [e1, hk q (Nat.lt_of_lt_of_le h1 hS.1) h2]; exact hS.2.1 q h1 h2, fun q hq => by
      rcases List.mem_append.mp hq with h | h
      · exact hS.2.2 q h
      · exact hL q h⟩ T' rfl Y'
  exact ⟨t2, st t2 a1, b1⟩
theorem zpre {U : State} {H : Heap} {locs : List Loc} {M : zM} {a : List Value} {av : Array Value} (F : zF p R s m args c cc nL own D X B aL d n0 n1) (h3 : va_P D vwCl (zw X B M) H) (h4 : va_S (fun q => B ≤ q) s.heap H locs) (hsz : H.size = B + M.2.2.2) (hav : av = (a.map (zdn B aL b)).toArray) (hU : U.heap = H) (hW : s.WarmedH U.vm) : zPc D X B aL b a M av U :=
  ⟨hav, F.2.2.2.2.2.1.moved hW (fun q h1 h2 => by rw [hU]; exact h4.2.1 q h1 h2), by rw [hU]; exact hsz, by rw [hU]; exact h3⟩
theorem zblind {M : zM} {a : List Value} : FrameBlind (zPc D X B aL b a M) := fun _ _ _ _ q => ⟨q.1, q.2.1.blind, q.2.2.1, q.2.2.2⟩
theorem zcells {M M' : zM} (h1 : n0 ≤ M.2.2.2) (h2 : M.2.2.2 ≤ M'.2.2.2) : M.2.2.2 - n0 + (M'.2.2.2 - M.2.2.2) = M'.2.2.2 - n0 ∧ zss M.2.2.2 - zss n0 + (zss M'.2.2.2 - zss M.2.2.2) = zss M'.2.2.2 - zss n0 := by
  have := zss_mono h1
  have := zss_mono h2
  omega
theorem zfits {n n2 : Nat} (F : zF p R s m args c cc nL own D X B aL d n0 n1) (h1 : n0 ≤ n) (h2 : n ≤ n2) (h3 : n2 ≤ n1) : n - n0 + (n2 - n) ≤ R.cells ∧ zss n - zss n0 + (zss n2 - zss n) ≤ R.slots := by
  have := zss_mono h1
  have := zss_mono h2
  have := zss_mono h3
  have := F.2.2.2.2.2.2.2.2.1
  have := F.2.2.2.2.2.2.2.2.2.1
  omega
theorem zback {v : Option Value} {r : List Value} (h : zplain v) : v.toList ++ r.map (zdn B aL b) = (v.toList ++ r).map (zdn B aL b) := by
  rcases h with rfl | ⟨x, rfl⟩ | ⟨x, rfl⟩ <;> rfl
theorem zcat_map {r : List Value} : ((r.map (zdn B aL b)).map fun v => v.category).sum = zcat r := by
  unfold zcat
  rw [List.map_map]
  congr 1
  exact List.map_congr_left (fun v _ => zdn_cat)
theorem zlocs {y : Nat} (F : zF p R s m args c cc nL own D X B aL d n0 n1) (hm : zml y ≤ 30) (mc ms : Nat) : (zrm d mc ms).frames + 1 ≤ R.frames ∧ 8 + (zml y + 11) + (zrm d mc ms).locals ≤ R.locals := by
  have h1 := F.2.2.2.2.2.2.2.1.1
  have h2 := F.2.2.2.2.2.2.2.1.2
  refine ⟨h1, ?_⟩
  show 8 + (zml y + 11) + 60 * d ≤ R.locals
  omega
theorem s_gs (F : zF p R s m args c cc nL own D X B aL d n0 n1) {pc : Nat} {idx : Nat} (hl : Cond.fieldLink own idx "BilletBars" "LAW_LIMITS" "[I" ∈ zgood) (hd : decode cc pc = .ok (.getstatic idx, 3)) : zS p l e R s m args below meth c Qf D X B aL b nL n0 n1 E Q pc (oGS) (pc + 3) := by
  intro K st L M hK h
  intro H locs ls h1 h2 h3 h4 h5
  exact va_gets F.1 F.2.1 F.2.2.2.2.2.1.2.1 h4 F.2.2.2.1 (F.2.2.2.2.1 _ hl) (fun _ q => q) hd (hK _ _ _ h H locs ls h1 h2 h3 h4 h5)
theorem s_lim (F : zF p R s m args c cc nL own D X B aL d n0 n1) {pc : Nat} (hd : decode cc pc = .ok (.iaload, 1)) : zS p l e R s m args below meth c Qf D X B aL b nL n0 n1 E Q pc (oLim) (pc + 1) := by
  intro K st L M hK h
  intro H locs ls h1 h2 h3 h4 h5
  unfold oLim at h
  split at h
  · obtain ⟨h0, h⟩ := zcond h
    rename_i i k r
    have hk := Nat.eq_of_beq_eq_true h0
    subst hk
    exact va_ti F.1 F.2.1 F.2.2.2.2.2.1.2.2.1 h4 h.1 rfl hd (hK _ _ _ h.2 H locs ls h1 h2 h3 h4 h5)
  · exact h.elim
theorem s_limn (F : zF p R s m args c cc nL own D X B aL d n0 n1) {pc : Nat} (hd : decode cc pc = .ok (.arraylength, 1)) : zS p l e R s m args below meth c Qf D X B aL b nL n0 n1 E Q pc (oLimN) (pc + 1) := by
  intro K st L M hK h
  intro H locs ls h1 h2 h3 h4 h5
  unfold oLimN at h
  split at h
  · obtain ⟨h0, h⟩ := zcond h
    rename_i k r
    have hk := Nat.eq_of_beq_eq_true h0
    subst hk
    exact va_tlen F.1 F.2.1 F.2.2.2.2.2.1.2.2.1 h4 rfl hd (hK _ _ _ h H locs ls h1 h2 h3 h4 h5)
  · exact h.elim
theorem s_scr (F : zF p R s m args c cc nL own D X B aL d n0 n1) {pc : Nat} {xs : Nat → Int32} {n : Nat} (hX : va_X b n xs s s.heap) (hb1 : b < s.heap.size) (hb2 : b < B) (hd : decode cc pc = .ok (.iaload, 1)) : zS p l e R s m args below meth c Qf D X B aL b nL n0 n1 E Q pc (oScr xs n) (pc + 1) := by
  intro K st L M hK h
  intro H locs ls h1 h2 h3 h4 h5
  unfold oScr at h
  split at h
  · obtain ⟨h0, h⟩ := zcond h
    rename_i i k r
    have hk := Nat.eq_of_beq_eq_true h0
    subst hk
    exact va_sld F.1 F.2.1 hX hb1 (Nat.not_le.mpr hb2) h4 h.1 hd (hK _ _ _ h.2 H locs ls h1 h2 h3 h4 h5)
  · exact h.elim
theorem s_scrn (F : zF p R s m args c cc nL own D X B aL d n0 n1) {pc : Nat} {xs : Nat → Int32} {n : Nat} (hX : va_X b n xs s s.heap) (hb1 : b < s.heap.size) (hb2 : b < B) (hd : decode cc pc = .ok (.arraylength, 1)) : zS p l e R s m args below meth c Qf D X B aL b nL n0 n1 E Q pc (oScrN n) (pc + 1) := by
  intro K st L M hK h
  intro H locs ls h1 h2 h3 h4 h5
  unfold oScrN at h
  split at h
  · obtain ⟨h0, h⟩ := zcond h
    rename_i k r
    have hk := Nat.eq_of_beq_eq_true h0
    subst hk
    exact va_slen F.1 F.2.1 hX hb1 (Nat.not_le.mpr hb2) h4 hd (hK _ _ _ h H locs ls h1 h2 h3 h4 h5)
  · exact h.elim
theorem s_cpy (F : zF p R s m args c cc nL own D X B aL d n0 n1) {pc : Nat} {idx : Nat} (hl : Cond.methodLink own idx arraycopyName ∈ zgood) (hn : Cond.native arraycopyName ∈ zgood) (hs : Cond.static arraycopyName ∈ zgood) (hi : Cond.initialized "java/lang/System" ∈ zgood) (hd : decode cc pc = .ok (.invokestatic idx, 3)) : zS p l e R s m args below meth c Qf D X B aL b nL n0 n1 E Q pc (oCpy) (pc + 3) := by
  intro K st L M hK h
  intro H locs ls h1 h2 h3 h4 h5
  unfold oCpy at h
  split at h
  · rename_i n dp k1 sp k0 r
    split at h
    · rename_i l0 l1 e0 e1
      obtain ⟨g1, g2, g3, g4, g5, h⟩ := h
      obtain ⟨g6, h⟩ := zcond h
      have g6 : zcat r ≤ 8 := Nat.le_of_ble_eq_true g6
      obtain ⟨hk0, hsh0⟩ := zlen_ok e0
      obtain ⟨hk1, hsh1⟩ := zlen_ok e1
      rw [show (Value.int n :: Value.int dp :: Value.ref k1 :: Value.int sp :: Value.ref k0 :: r).map (zdn B aL b) = .int n :: .int dp :: .ref (B + k1) :: .int sp :: .ref (B + k0) :: r.map (zdn B aL b) by simp only [List.map_cons, zdn, zadr_lt (z9 F hk0 h2), zadr_lt (z9 F hk1 h2)]]
      have he0 := zw_get (X := X) (B := B) hk0
      have he1 := zw_get (X := X) (B := B) hk1
      rw [zcell_i hsh0] at he0
      rw [zcell_i hsh1] at he1
      have hnw : nativeFrameWords "java/lang/System" "arraycopy" 5 ≤ 40 := by decide
      have hR := F.2.2.2.2.2.2.2.1
      refine va_copyi F.1 F.2.1 (by rw [F.2.2.1, h5.2.1]) F.2.2.2.1 (F.2.2.2.2.1 _ hl) (F.2.2.2.2.1 _ hn) (F.2.2.2.2.1 _ hs) (F.2.2.2.2.1 _ hi) F.2.2.2.2.2.1.1 h3 zw_D h4 _ _ 0 0 he0 he1 rfl rfl rfl g1 g2 g3 g4 g5 (fun _ _ => rfl) (by omega) (by rw [zcat_map]; omega) hd (fun H1 locs1 hP1 hD1 hS1 => ?_)
      have hw := zw_set (X := X) (B := B) (M' := zwA M k1 (va_cpy (M.1 k0) (M.1 k1) sp.toNatClampNeg dp.toNatClampNeg n.toNatClampNeg)) hk1 rfl (fun i hi => zwA_cell hi) (e := .inl (X.1, l1, .inl (va_cpy (M.1 k0) (M.1 k1) sp.toNatClampNeg dp.toNatClampNeg n.toNatClampNeg))) (by rw [zcell_i hsh1]; simp only [zwA, va_up, if_pos])
      rw [hw] at hP1
      exact hK _ _ _ h H1 locs1 ls h1 h2 hP1 hS1 h5
    · exact h.elim
  · exact h.elim
theorem s_new (F : zF p R s m args c cc nL own D X B aL d n0 n1) {pc : Nat} {ci idx : Nat} {C : String} {T : u_T} {N : Nat} (hc : vwCl[ci]? = some (C, T, N)) (hin : ∀ w ∈ u_ws C T N, w ∈ zgood) (hN : zN ci = N) {ty : Nat → FieldType} (hty : ∀ k, k < N → parseFieldDescriptor (T k).2.2.1 = some (ty k)) (hdf : ∀ j, j < N → defaultValue (ty j) = cond (zfr ci j) .null (.int 0)) (hl : Cond.classLink own idx C ∈ zgood) (hi : Cond.instantiable C N ∈ zgood) (hini : Cond.initialized C ∈ zgood) (hd : decode cc pc = .ok (.new idx, 3)) : zS p l e R s m args below meth c Qf D X B aL b nL n0 n1 E Q pc (oNew ci) (pc + 3) := by
  intro K st L M hK h
  intro H locs ls h1 h2 h3 h4 h5
  obtain ⟨h0, h⟩ := zcond h
  simp only [Bool.and_eq_true] at h0
  obtain ⟨⟨g1, g2⟩, g3⟩ := h0
  have g1 : M.2.2.2 < n1 := Nat.le_of_ble_eq_true g1
  have g2 : M.2.2.2 < 900 := Nat.le_of_ble_eq_true g2
  have hsh : zshp M.2.2.2 = .inl ci := by
    cases hs : zshp M.2.2.2 with
    | inl q => rw [hs] at g3; rw [Nat.eq_of_beq_eq_true g3]
    | inr q => rw [hs] at g3; cases g3
  have hzz : zss (M.2.2.2 + 1) = zss M.2.2.2 + N := by rw [zss, zsz, hsh]; dsimp only; rw [hN]
  refine zsized F.2.2.2.2.2.2.1 h1 h3 h4 (fun hsz => ?_)
  have hft := zfits F h1 (Nat.le_succ M.2.2.2) g1
  rw [hzz] at hft
  have hKn := F.2.2.2.2.2.1.1.1 ci _ hc
  refine W.newcK F.1 F.2.1 F.2.2.2.1 (F.2.2.2.2.1 _ hl) (F.2.2.2.2.1 _ hi) (F.2.2.2.2.1 _ hini) rfl hd (by omega) (by omega) hKn.2.1 hsz (fun H1 kC hkC e1 z1 o1 => ?_)
  have hk : ∀ (k : Nat) (x : Nat × va_E), (zw X B M)[k]? = some x → H1[x.1]? = H[x.1]? := fun k x hx => o1 x.1 (by have := (h3 k x hx).lt; omega)
  have hnewc : va_P D vwCl [(B + M.2.2.2, .inr (ci, (List.range (zN ci)).map (zfv B (znew M) M.2.2.2 ci)))] H1 := by
    intro k x hx
    have hz : k < 1 := (List.getElem?_eq_some_iff.mp hx).1
    rw [show k = 0 by omega] at hx
    cases hx
    refine ⟨_, hc, (u_born ty F.2.2.2.2.1 hin hKn hkC e1 hty).to (fun j hj => ?_)⟩
    dsimp only
    rw [hdf j hj, vp_V, hN]
    simp only [zfv, znew, va_up, if_pos, List.getD, List.getElem?_map, List.getElem?_range hj, Option.map_some, Option.getD_some, Option.map_none, va_rf]
  have hP1 : va_P D vwCl (zw X B (znew M)) H1 := by
    rw [← zw_push (M := M) (M' := znew M) rfl (fun j hj => znew_cell hj) (e := .inr (ci, (List.range (zN ci)).map (zfv B (znew M) M.2.2.2 ci))) (zcell_o hsh)]
    exact (h3.kept hk).app hnewc
  have hS1 : va_S (fun q => B ≤ q) s.heap H1 locs := ⟨Nat.le_trans h4.1 (by omega), fun x q1 q2 => (o1 x (by have := h4.1; omega)).trans (h4.2.1 x q1 q2), h4.2.2⟩
  have hg := hK _ _ _ h H1 locs ls (show n0 ≤ M.2.2.2 + 1 by omega) (show M.2.2.2 + 1 ≤ n1 by omega) hP1 hS1 h5
  rw [zmap_ref g2] at hg
  have h8 := zss_mono h1
  exact W.cs (show M.2.2.2 - n0 + 1 = (znew M).2.2.2 - n0 by show _ = M.2.2.2 + 1 - n0; omega) (show zss M.2.2.2 - zss n0 + N = zss (znew M).2.2.2 - zss n0 by show _ = zss (M.2.2.2 + 1) - zss n0; omega) hg
theorem s_newa (F : zF p R s m args c cc nL own D X B aL d n0 n1) {pc : Nat} {ty : Nat} {atype : ArrayType} {a0 : FieldType} (hty : newarray.typeOf atype = a0) (hp : (ty = 0 ∧ a0 = .int) ∨ (ty = 1 ∧ a0 = .long) ∨ (ty = 2 ∧ a0 = .boolean)) (hl : Cond.arrayClass a0 ∈ zgood) (hd : decode cc pc = .ok (.newarray atype, 2)) : zS p l e R s m args below meth c Qf D X B aL b nL n0 n1 E Q pc (oNewA ty) (pc + 2) := by
  intro K st L M hK h
  intro H locs ls h1 h2 h3 h4 h5
  unfold oNewA at h
  split at h
  · rename_i x r
    obtain ⟨h0, h⟩ := zcond h
    simp only [Bool.and_eq_true] at h0
    obtain ⟨g1, g2⟩ := h0
    have g1 : M.2.2.2 < n1 := Nat.le_of_ble_eq_true g1
    have g2 : M.2.2.2 < 900 := Nat.le_of_ble_eq_true g2
    cases hs : zshp M.2.2.2 with
    | inl q => rw [hs] at h; exact h.elim
    | inr q =>
      rw [hs] at h
      dsimp only at h
      obtain ⟨q1, q2⟩ := q
      dsimp only at h
      obtain ⟨hb0, hh⟩ := zcond h
      clear h
      simp only [Bool.and_eq_true] at hb0
      obtain ⟨g3, g4⟩ := hb0
      have g3 := Nat.eq_of_beq_eq_true g3
      have g4 : q2 ≤ 1000 := Nat.le_of_ble_eq_true g4
      subst g3
      obtain ⟨rfl, hkk⟩ := hh
      have hzz : zss (M.2.2.2 + 1) = zss M.2.2.2 + q2 := by rw [zss, zsz, hs]
      refine zsized F.2.2.2.2.2.2.1 h1 h3 h4 (fun hsz => ?_)
      have hft := zfits F h1 (Nat.le_succ M.2.2.2) g1
      rw [hzz] at hft
      have hneg : ¬ Int32.ofNat q2 < 0 := nI_pos (n := q2) (by omega)
      have hcl : (Int32.ofNat q2).toNatClampNeg = q2 := nI_clamp (n := q2) (by omega)
      have hby : q2 * componentBytes (newarray.typeOf atype) ≤ 536870912 := by
        rw [hty]
        rcases hp with ⟨-, rfl⟩ | ⟨-, rfl⟩ | ⟨-, rfl⟩ <;> simp [componentBytes] <;> omega
      refine va_newaK F.1 F.2.1 (by rw [hty]; exact F.2.2.2.2.1 _ hl) rfl hd rfl hneg hcl hby (by omega) (by omega) hsz (fun H1 cA e1 z1 o1 hAr hNm => ?_)
      have hk : ∀ (k : Nat) (x : Nat × va_E), (zw X B M)[k]? = some x → H1[x.1]? = H[x.1]? := fun k x hx => o1 x.1 (by have := (h3 k x hx).lt; omega)
      have hce : va_P D vwCl [(B + M.2.2.2, zcell X B (znew M) M.2.2.2)] H1 := by
        intro k x hx
        have hz : k < 1 := (List.getElem?_eq_some_iff.mp hx).1
        rw [show k = 0 by omega] at hx
        cases hx
        rw [hty] at e1 hNm
        have hKt := F.2.2.2.2.2.1.1.2
        rcases hp with ⟨hq, rfl⟩ | ⟨hq, rfl⟩ | ⟨hq, rfl⟩
        · have hX := (hKt 0 _ rfl).2
          have hX : s.vm.findClass ("[" ++ FieldType.int.toString) = some X.1 := hX
          have hcA : cA = X.1 := Option.some.inj (hNm.symm.trans hX)
          subst hcA
          rw [zcell_i (by rw [hs, hq])]
          show H1[B + M.2.2.2]? = some (vp_cell _ _)
          rw [e1, vp_cell_i]
          simp [znew, va_up, defaultValue]
        · have hX := (hKt 1 _ rfl).2
          have hX : s.vm.findClass ("[" ++ FieldType.long.toString) = some X.2.1 := hX
          have hcA : cA = X.2.1 := Option.some.inj (hNm.symm.trans hX)
          subst hcA
          rw [zcell_j (by rw [hs, hq])]
          show H1[B + M.2.2.2]? = some (vp_cell _ _)
          rw [e1, vp_cell_l]
          simp [znew, va_up, defaultValue]
        · have hX := (hKt 2 _ rfl).2
          have hX : s.vm.findClass ("[" ++ FieldType.boolean.toString) = some X.2.2 := hX
          have hcA : cA = X.2.2 := Option.some.inj (hNm.symm.trans hX)
          subst hcA
          rw [zcell_z (by rw [hs, hq])]
          show H1[B + M.2.2.2]? = some (vp_cell _ _)
          rw [e1, vp_cell_i]
          simp [znew, va_up, defaultValue]
      have hP1 : va_P D vwCl (zw X B (znew M)) H1 := by
        rw [← zw_push (M := M) (M' := znew M) rfl (fun j hj => znew_cell hj) rfl]
        exact (h3.kept hk).app hce
      have hS1 : va_S (fun q => B ≤ q) s.heap H1 locs := ⟨Nat.le_trans h4.1 (by omega), fun x q1 q2 => (o1 x (by have := h4.1; omega)).trans (h4.2.1 x q1 q2), h4.2.2⟩
      have hg := hK _ _ _ hkk H1 locs ls (show n0 ≤ M.2.2.2 + 1 by omega) (show M.2.2.2 + 1 ≤ n1 by omega) hP1 hS1 h5
      rw [zmap_ref g2] at hg
      have h8 := zss_mono h1
      exact W.cs (show M.2.2.2 - n0 + 1 = (znew M).2.2.2 - n0 by show _ = M.2.2.2 + 1 - n0; omega) (show zss M.2.2.2 - zss n0 + q2 = zss (znew M).2.2.2 - zss n0 by show _ = zss (M.2.2.2 + 1) - zss n0; omega) hg
  · exact h.elim
theorem s_obj (F : zF p R s m args c cc nL own D X B aL d n0 n1) {pc : Nat} {idx : Nat} (hl : Cond.methodLink own idx Lib.objectInit ∈ zgood) (hi : Cond.instanceMethod Lib.objectInit ∈ zgood) (hco : Cond.code Lib.objectInit ⟨#[0xb1]⟩ 1 none ∈ zgood) (hd : decode cc pc = .ok (.invokespecial idx, 3)) : zS p l e R s m args below meth c Qf D X B aL b nL n0 n1 E Q pc (oObj) (pc + 3) := by
  intro K st L M hK h
  intro H locs ls h1 h2 h3 h4 h5
  unfold oObj at h
  split at h
  · obtain ⟨h0, h⟩ := zcond h
    have h0 := Nat.le_of_ble_eq_true h0
    have hR := F.2.2.2.2.2.2.2.1
    refine W.objInit F.1 F.2.1 F.2.2.2.1 (F.2.2.2.2.1 _ hl) (F.2.2.2.2.1 _ hi) (F.2.2.2.2.1 _ hco) rfl (by rw [F.2.2.1]; exact h5.2.1) rfl hd (by omega) (by show 2 * 0 + _ + 12 ≤ _; rw [zcat_map]; omega) ?_
    exact hK _ _ _ h H locs ls h1 h2 h3 h4 h5
  · exact h.elim
theorem s_v (F : zF p R s m args c cc nL own D X B aL d n0 n1) {pc : Nat} {na y ci idx : Nat} {T : u_T} {N : Nat} (hk : zMK y na) (hi : Cond.instanceMethod (zmn y) ∈ zgood) (hs : Cond.selects (zmn y).cls (zmn y) (zmn y) ∈ zgood) (hl : Cond.methodLink own idx (zmn y) ∈ zgood) (hc : vwCl[ci]? = some ((zmn y).cls, T, N)) (hd : decode cc pc = .ok (.invokevirtual idx, 3)) : zS p l e R s m args below meth c Qf D X B aL b nL n0 n1 (zEc l D X B aL b d) Q pc (oV na y ci) (pc + 3) := by
  intro K st L M hK h
  intro H locs ls h1 h2 h3 h4 h5
  unfold oV at h
  split at h
  · rename_i k r hdr
    obtain ⟨h0, h⟩ := zcond h
    simp only [Bool.and_eq_true] at h0
    obtain ⟨g1, g2, g3⟩ := h0
    have g2 : zcat r ≤ 8 := Nat.le_of_ble_eq_true g2
    have g3 := Nat.eq_of_beq_eq_true g3
    obtain ⟨hkn, hsh⟩ := zokO_ok g1
    obtain ⟨hn, hM⟩ := h
    have he := zw_get (X := X) (B := B) hkn
    rw [zcell_o hsh] at he
    refine zsized F.2.2.2.2.2.2.1 h1 h3 h4 (fun hsz => ?_)
    have hst : st.map (zdn B aL b) = (((st.take na).reverse).map (zdn B aL b)).reverse ++ .ref (B + k) :: r.map (zdn B aL b) := by
      conv => lhs; rw [← List.take_append_drop na st]
      rw [hdr, List.map_append, zmap_ref (z9 F hkn h2), List.map_reverse, List.reverse_reverse]
    rw [hst]
    refine z_call (va_runV (As := ((st.take na).reverse).map (zdn B aL b)) (rest := r.map (zdn B aL b)) ⟨F.1, F.2.1, F.2.2.1, F.2.2.2.1, F.2.2.2.2.1⟩ hM (cwV na F.2.2.2.2.1 (zgi_app (zgi_cons hl (zgi_cons hi (zgi_cons hs (zgi_cons hk.2.1 zgi_nil)))) (zws_good hk.1)) rfl rfl rfl ⟨rfl, hk.2.2.1⟩ (zlocs F hk.2.2.2 _ _)) ⟨zblind, va_recv F.2.2.2.2.2.1.1 h3 hc he, fun U hU hW => zpre F h3 h4 hsz (by simp only [List.map_cons, zdn, zadr_lt (z9 F hkn h2)]) hU hW⟩ rfl (by simpa using g3) h5.2.1 rfl (lv_room (by rw [zcat_map]; exact g2)) hd (zfits F h1 hn h2)) h4 (fun v M' H1 locs1 g1 g2 g3 g4 g5 => ?_)
    have hq := zcells (M := M) (M' := M') h1 (by omega)
    rw [g3] at hq
    refine W.cs hq.1 hq.2 ?_
    rw [← g3, zback g1]
    exact hK _ _ _ g2 H1 locs1 ls (by omega) (by omega) g4 g5 h5
  · exact h.elim
theorem s_s (F : zF p R s m args c cc nL own D X B aL d n0 n1) {pc : Nat} {na y idx : Nat} (hk : zMK y na) (hs : Cond.static (zmn y) ∈ zgood) (hl : Cond.methodLink own idx (zmn y) ∈ zgood) (hd : decode cc pc = .ok (.invokestatic idx, 3)) : zS p l e R s m args below meth c Qf D X B aL b nL n0 n1 (zEc l D X B aL b d) Q pc (oS na y) (pc + 3) := by
  intro K st L M hK h
  intro H locs ls h1 h2 h3 h4 h5
  obtain ⟨h0, h⟩ := zcond h
  simp only [Bool.and_eq_true] at h0
  obtain ⟨g2, g3⟩ := h0
  have g2 : zcat (st.drop na) ≤ 8 := Nat.le_of_ble_eq_true g2
  have g3 := Nat.eq_of_beq_eq_true g3
  obtain ⟨hn, hM⟩ := h
  refine zsized F.2.2.2.2.2.2.1 h1 h3 h4 (fun hsz => ?_)
  have hst : st.map (zdn B aL b) = (((st.take na).reverse).map (zdn B aL b)).reverse ++ (st.drop na).map (zdn B aL b) := by
    conv => lhs; rw [← List.take_append_drop na st]
    rw [List.map_append, List.map_reverse, List.reverse_reverse]
  rw [hst]
  refine z_call (va_runS (As := ((st.take na).reverse).map (zdn B aL b)) (rest := (st.drop na).map (zdn B aL b)) ⟨F.1, F.2.1, F.2.2.1, F.2.2.2.1, F.2.2.2.2.1⟩ hM (va_cwS na F.2.2.2.2.1 (zgi_app (zgi_cons hl (zgi_cons hs (zgi_cons hk.2.1 zgi_nil))) (zws_good hk.1)) rfl rfl rfl hk.2.2.1 (zlocs F hk.2.2.2 _ _)) ⟨zblind, fun U hU hW => zpre F h3 h4 hsz rfl hU hW⟩ rfl (by simpa using g3) h5.2.1 rfl (lv_room (by rw [zcat_map]; exact g2)) hd (zfits F h1 hn h2)) h4 (fun v M' H1 locs1 g1 g2 g3 g4 g5 => ?_)
  have hq := zcells (M := M) (M' := M') h1 (by omega)
  rw [g3] at hq
  refine W.cs hq.1 hq.2 ?_
  rw [← g3, zback g1]
  exact hK _ _ _ g2 H1 locs1 ls (by omega) (by omega) g4 g5 h5
theorem s_sn (F : zF p R s m args c cc nL own D X B aL d n0 n1) {pc : Nat} {na y idx : Nat} (hk : zMK y na) (hs : Cond.static (zmn y) ∈ zgood) {host : String} (hl : Cond.methodLinkNest own idx (zmn y) host ∈ znest) (hd : decode cc pc = .ok (.invokestatic idx, 3)) : zS p l e R s m args below meth c Qf D X B aL b nL n0 n1 (zEc l D X B aL b d) Q pc (oS na y) (pc + 3) := by
  intro K st L M hK h
  intro H locs ls h1 h2 h3 h4 h5
  obtain ⟨h0, h⟩ := zcond h
  simp only [Bool.and_eq_true] at h0
  obtain ⟨g2, g3⟩ := h0
  have g2 : zcat (st.drop na) ≤ 8 := Nat.le_of_ble_eq_true g2
  have g3 := Nat.eq_of_beq_eq_true g3
  obtain ⟨hn, hM⟩ := h
  refine zsized F.2.2.2.2.2.2.1 h1 h3 h4 (fun hsz => ?_)
  have hst : st.map (zdn B aL b) = (((st.take na).reverse).map (zdn B aL b)).reverse ++ (st.drop na).map (zdn B aL b) := by
    conv => lhs; rw [← List.take_append_drop na st]
    rw [List.map_append, List.map_reverse, List.reverse_reverse]
  rw [hst]
  refine z_call (va_runSN (As := ((st.take na).reverse).map (zdn B aL b)) (rest := (st.drop na).map (zdn B aL b)) ⟨F.1, F.2.1, F.2.2.1, F.2.2.2.1, F.2.2.2.2.1⟩ hM ⟨va_cnB na F.2.2.2.2.1 (zws_good hk.1) rfl rfl rfl (F.2.2.2.2.2.1.2.2.2 _ hl) (F.2.2.2.2.1 _ hk.2.1) hk.2.2.1 (zlocs F hk.2.2.2 _ _), F.2.2.2.2.1 _ hs, trivial⟩ ⟨zblind, fun U hU hW => zpre F h3 h4 hsz rfl hU hW⟩ rfl (by simpa using g3) h5.2.1 rfl (lv_room (by rw [zcat_map]; exact g2)) hd (zfits F h1 hn h2)) h4 (fun v M' H1 locs1 g1 g2 g3 g4 g5 => ?_)
  have hq := zcells (M := M) (M' := M') h1 (by omega)
  rw [g3] at hq
  refine W.cs hq.1 hq.2 ?_
  rw [← g3, zback g1]
  exact hK _ _ _ g2 H1 locs1 ls (by omega) (by omega) g4 g5 h5
theorem s_ni (F : zF p R s m args c cc nL own D X B aL d n0 n1) {pc : Nat} {y idx n2 : Nat} (hk : zMK y 0) (hrt : zmr y = none) (hi : Cond.instanceMethod (zmn y) ∈ zgood) (hy1 : (zmn y).name = "<init>") (hl : Cond.methodLink own idx (zmn y) ∈ zgood) (hd : decode cc pc = .ok (.invokespecial idx, 3)) : zS p l e R s m args below meth c Qf D X B aL b nL n0 n1 (zEc l D X B aL b d) Q pc (oNi y n2) (pc + 3) := by
  intro K st L M hK h
  intro H locs ls h1 h2 h3 h4 h5
  unfold oNi at h
  split at h
  · rename_i k r
    obtain ⟨h0, h⟩ := zcond h
    simp only [Bool.and_eq_true] at h0
    obtain ⟨g1, g9, g2⟩ := h0
    have g1 : n2 ≤ n1 := Nat.le_of_ble_eq_true g1
    have g2 : zcat r ≤ 8 := Nat.le_of_ble_eq_true g2
    obtain ⟨hn, hM⟩ := h
    refine zsized F.2.2.2.2.2.2.1 h1 h3 h4 (fun hsz => ?_)
    refine z_call (va_runI (As := []) (b := zadr B aL b k) (rest := r.map (zdn B aL b)) ⟨F.1, F.2.1, F.2.2.1, F.2.2.2.1, F.2.2.2.2.1⟩ hM (cwI 0 F.2.2.2.2.1 (zws_good hk.1) (by rw [zws, hrt]) rfl rfl (F.2.2.2.2.1 _ hk.2.1) (F.2.2.2.2.1 _ hl) (F.2.2.2.2.1 _ hi) hy1 hk.2.2.1 (zlocs F hk.2.2.2 _ _)) ⟨zblind, fun U hU hW => zpre F h3 h4 hsz rfl hU hW⟩ rfl rfl h5.2.1 rfl (lv_room (by rw [zcat_map]; exact g2)) hd (zfits F h1 hn g1)) h4 (fun v M' H1 locs1 g1 g2 g3 g4 g5 => ?_)
    have hq := zcells (M := M) (M' := M') h1 (by omega)
    rw [g3] at hq
    refine W.cs hq.1 hq.2 ?_
    rw [← g3, zback g1]
    exact hK _ _ _ g2 H1 locs1 ls (by omega) (by omega) g4 g5 h5
  · exact h.elim
theorem s_nin (F : zF p R s m args c cc nL own D X B aL d n0 n1) {pc : Nat} {y idx n2 : Nat} (hk : zMK y 0) (hrt : zmr y = none) (hi : Cond.instanceMethod (zmn y) ∈ zgood) (hy1 : (zmn y).name = "<init>") {host : String} (hl : Cond.methodLinkNest own idx (zmn y) host ∈ znest) (hd : decode cc pc = .ok (.invokespecial idx, 3)) : zS p l e R s m args below meth c Qf D X B aL b nL n0 n1 (zEc l D X B aL b d) Q pc (oNi y n2) (pc + 3) := by
  intro K st L M hK h
  intro H locs ls h1 h2 h3 h4 h5
  unfold oNi at h
  split at h
  · rename_i k r
    obtain ⟨h0, h⟩ := zcond h
    simp only [Bool.and_eq_true] at h0
    obtain ⟨g1, g9, g2⟩ := h0
    have g1 : n2 ≤ n1 := Nat.le_of_ble_eq_true g1
    have g2 : zcat r ≤ 8 := Nat.le_of_ble_eq_true g2
    obtain ⟨hn, hM⟩ := h
    refine zsized F.2.2.2.2.2.2.1 h1 h3 h4 (fun hsz => ?_)
    refine z_call (va_runIN (As := []) (b := zadr B aL b k) (rest := r.map (zdn B aL b)) ⟨F.1, F.2.1, F.2.2.1, F.2.2.2.1, F.2.2.2.2.1⟩ hM ⟨va_cnB 0 F.2.2.2.2.1 (zws_good hk.1) (by rw [zws, hrt]) rfl rfl (F.2.2.2.2.2.1.2.2.2 _ hl) (F.2.2.2.2.1 _ hk.2.1) hk.2.2.1 (zlocs F hk.2.2.2 _ _), hy1, F.2.2.2.2.1 _ hi⟩ ⟨zblind, fun U hU hW => zpre F h3 h4 hsz rfl hU hW⟩ rfl rfl h5.2.1 rfl (lv_room (by rw [zcat_map]; exact g2)) hd (zfits F h1 hn g1)) h4 (fun v M' H1 locs1 g1 g2 g3 g4 g5 => ?_)
    have hq := zcells (M := M) (M' := M') h1 (by omega)
    rw [g3] at hq
    refine W.cs hq.1 hq.2 ?_
    rw [← g3, zback g1]
    exact hK _ _ _ g2 H1 locs1 ls (by omega) (by omega) g4 g5 h5
  · exact h.elim
end ZW2
end
