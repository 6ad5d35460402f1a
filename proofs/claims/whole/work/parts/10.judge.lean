/-! THE JUDGEMENT: method y, begun with these arguments in this memory, comes to Q, calling no deeper than d -/
def zok (y n1 : Nat) (a : List Value) (M : zM) : Bool := Nat.ble M.2.2.2 n1 && (Nat.ble n1 900 && (Nat.blt y 151 && Nat.ble (zcat a) (zml y)))
def zT : Nat → zE
  | 0 => fun _ _ _ _ _ => False
  | d + 1 => fun y n1 a M Q => zok y n1 a M = true ∧ ∀ (E : zE) (At : Nat → zC), (∀ y' n' a' M' Q', zT d y' n' a' M' Q' → E y' n' a' M' Q') → (∀ pc st L M', zX n1 E Q At (zlk (zmB y) pc) st L M' → At pc st L M') → At 0 [] (zent (zml y) a) M
def zCl (y : Nat) : Prop := ∀ (p : Program) (l : Launch) (e : Env) (R : Room) (s : State) (m : MethodId) (args : Array Value) (below : List Frame) (meth : Method) (c : Code) (D : va_G) (X : ClassId × ClassId × ClassId) (B aL b n0 n1 d : Nat) (Q : Option Value → zM → Prop), zF p R s m args c (zmc y) (zml y) (zmn y).cls D X B aL d n0 n1 → meth.sig.returnType = zmr y → meth.locks = false → meth.name = (zmn y).name → zSA p l e R s m args below meth c (MQ below (zQc D X B n1 Q) args s (n1 - n0) (zss n1 - zss n0) (fun q => B ≤ q)) D X B aL b (zml y) n0 n1 (zEc l D X B aL b d) Q (zmB y)
theorem zcl_0 : zCl 0 := fun _ _ _ _ _ _ _ _ _ _ _ _ _ _ _ _ _ _ _ F hr hlk hin => zm_X0_init F hr hlk hin
theorem zcl_1 : zCl 1 := fun _ _ _ _ _ _ _ _ _ _ _ _ _ _ _ _ _ _ _ F hr hlk hin => zm_X0_enter F hr hlk hin
theorem zcl_2 : zCl 2 := fun _ _ _ _ _ _ _ _ _ _ _ _ _ _ _ _ _ _ _ F hr hlk hin => zm_X1_init F hr hlk hin
theorem zcl_3 : zCl 3 := fun _ _ _ _ _ _ _ _ _ _ _ _ _ _ _ _ _ _ _ F hr hlk hin => zm_X1_has F hr hlk hin
theorem zcl_4 : zCl 4 := fun _ _ _ _ _ _ _ _ _ _ _ _ _ _ _ _ _ _ _ F hr hlk hin => zm_X1_latestWas F hr hlk hin
theorem zcl_5 : zCl 5 := fun _ _ _ _ _ _ _ _ _ _ _ _ _ _ _ _ _ _ _ F hr hlk hin => zm_X1_add F hr hlk hin
theorem zcl_6 : zCl 6 := fun _ _ _ _ _ _ _ _ _ _ _ _ _ _ _ _ _ _ _ F hr hlk hin => zm_X1_waits F hr hlk hin
theorem zcl_7 : zCl 7 := fun _ _ _ _ _ _ _ _ _ _ _ _ _ _ _ _ _ _ _ F hr hlk hin => zm_X1_waiting F hr hlk hin
theorem zcl_8 : zCl 8 := fun _ _ _ _ _ _ _ _ _ _ _ _ _ _ _ _ _ _ _ F hr hlk hin => zm_X1_firstWaiting F hr hlk hin
theorem zcl_9 : zCl 9 := fun _ _ _ _ _ _ _ _ _ _ _ _ _ _ _ _ _ _ _ F hr hlk hin => zm_X1_fillOven F hr hlk hin
theorem zcl_10 : zCl 10 := fun _ _ _ _ _ _ _ _ _ _ _ _ _ _ _ _ _ _ _ F hr hlk hin => zm_X1_ovensNeeded F hr hlk hin
theorem zcl_11 : zCl 11 := fun _ _ _ _ _ _ _ _ _ _ _ _ _ _ _ _ _ _ _ F hr hlk hin => zm_X1_isSuspect F hr hlk hin
theorem zcl_12 : zCl 12 := fun _ _ _ _ _ _ _ _ _ _ _ _ _ _ _ _ _ _ _ F hr hlk hin => zm_X1_poorUpTo F hr hlk hin
theorem zcl_13 : zCl 13 := fun _ _ _ _ _ _ _ _ _ _ _ _ _ _ _ _ _ _ _ F hr hlk hin => zm_X1_poorFrom F hr hlk hin
theorem zcl_14 : zCl 14 := fun _ _ _ _ _ _ _ _ _ _ _ _ _ _ _ _ _ _ _ F hr hlk hin => zm_X2_init F hr hlk hin
theorem zcl_15 : zCl 15 := fun _ _ _ _ _ _ _ _ _ _ _ _ _ _ _ _ _ _ _ F hr hlk hin => zm_X2_has F hr hlk hin
theorem zcl_16 : zCl 16 := fun _ _ _ _ _ _ _ _ _ _ _ _ _ _ _ _ _ _ _ F hr hlk hin => zm_X2_add F hr hlk hin
theorem zcl_17 : zCl 17 := fun _ _ _ _ _ _ _ _ _ _ _ _ _ _ _ _ _ _ _ F hr hlk hin => zm_X2_isWarm F hr hlk hin
theorem zcl_18 : zCl 18 := fun _ _ _ _ _ _ _ _ _ _ _ _ _ _ _ _ _ _ _ F hr hlk hin => zm_X2_ticksWarm F hr hlk hin
theorem zcl_19 : zCl 19 := fun _ _ _ _ _ _ _ _ _ _ _ _ _ _ _ _ _ _ _ F hr hlk hin => zm_X2_mayPress F hr hlk hin
theorem zcl_20 : zCl 20 := fun _ _ _ _ _ _ _ _ _ _ _ _ _ _ _ _ _ _ _ F hr hlk hin => zm_X2_leastWorn F hr hlk hin
theorem zcl_21 : zCl 21 := fun _ _ _ _ _ _ _ _ _ _ _ _ _ _ _ _ _ _ _ F hr hlk hin => zm_X2_wear F hr hlk hin
theorem zcl_22 : zCl 22 := fun _ _ _ _ _ _ _ _ _ _ _ _ _ _ _ _ _ _ _ F hr hlk hin => zm_X3_init F hr hlk hin
theorem zcl_23 : zCl 23 := fun _ _ _ _ _ _ _ _ _ _ _ _ _ _ _ _ _ _ _ F hr hlk hin => zm_X3_add F hr hlk hin
theorem zcl_24 : zCl 24 := fun _ _ _ _ _ _ _ _ _ _ _ _ _ _ _ _ _ _ _ F hr hlk hin => zm_X3_serve F hr hlk hin
theorem zcl_25 : zCl 25 := fun _ _ _ _ _ _ _ _ _ _ _ _ _ _ _ _ _ _ _ F hr hlk hin => zm_X4_init F hr hlk hin
theorem zcl_26 : zCl 26 := fun _ _ _ _ _ _ _ _ _ _ _ _ _ _ _ _ _ _ _ F hr hlk hin => zm_X4_seek F hr hlk hin
theorem zcl_27 : zCl 27 := fun _ _ _ _ _ _ _ _ _ _ _ _ _ _ _ _ _ _ _ F hr hlk hin => zm_X4_load F hr hlk hin
theorem zcl_28 : zCl 28 := fun _ _ _ _ _ _ _ _ _ _ _ _ _ _ _ _ _ _ _ F hr hlk hin => zm_X4_seekSecond F hr hlk hin
theorem zcl_29 : zCl 29 := fun _ _ _ _ _ _ _ _ _ _ _ _ _ _ _ _ _ _ _ F hr hlk hin => zm_X4_fitting F hr hlk hin
theorem zcl_30 : zCl 30 := fun _ _ _ _ _ _ _ _ _ _ _ _ _ _ _ _ _ _ _ F hr hlk hin => zm_X4_offer F hr hlk hin
theorem zcl_31 : zCl 31 := fun _ _ _ _ _ _ _ _ _ _ _ _ _ _ _ _ _ _ _ F hr hlk hin => zm_X5_init F hr hlk hin
theorem zcl_32 : zCl 32 := fun _ _ _ _ _ _ _ _ _ _ _ _ _ _ _ _ _ _ _ F hr hlk hin => zm_X5_add F hr hlk hin
theorem zcl_33 : zCl 33 := fun _ _ _ _ _ _ _ _ _ _ _ _ _ _ _ _ _ _ _ F hr hlk hin => zm_X5_setGap F hr hlk hin
theorem zcl_34 : zCl 34 := fun _ _ _ _ _ _ _ _ _ _ _ _ _ _ _ _ _ _ _ F hr hlk hin => zm_X5_settle F hr hlk hin
theorem zcl_35 : zCl 35 := fun _ _ _ _ _ _ _ _ _ _ _ _ _ _ _ _ _ _ _ F hr hlk hin => zm_X5_fillPlace F hr hlk hin
theorem zcl_36 : zCl 36 := fun _ _ _ _ _ _ _ _ _ _ _ _ _ _ _ _ _ _ _ F hr hlk hin => zm_X5_tryJob F hr hlk hin
theorem zcl_37 : zCl 37 := fun _ _ _ _ _ _ _ _ _ _ _ _ _ _ _ _ _ _ _ F hr hlk hin => zm_X5_keepIfBetter F hr hlk hin
theorem zcl_38 : zCl 38 := fun _ _ _ _ _ _ _ _ _ _ _ _ _ _ _ _ _ _ _ F hr hlk hin => zm_X6_init F hr hlk hin
theorem zcl_39 : zCl 39 := fun _ _ _ _ _ _ _ _ _ _ _ _ _ _ _ _ _ _ _ F hr hlk hin => zm_X6_has F hr hlk hin
theorem zcl_40 : zCl 40 := fun _ _ _ _ _ _ _ _ _ _ _ _ _ _ _ _ _ _ _ F hr hlk hin => zm_X6_add F hr hlk hin
theorem zcl_41 : zCl 41 := fun _ _ _ _ _ _ _ _ _ _ _ _ _ _ _ _ _ _ _ F hr hlk hin => zm_X7_init F hr hlk hin
theorem zcl_42 : zCl 42 := fun _ _ _ _ _ _ _ _ _ _ _ _ _ _ _ _ _ _ _ F hr hlk hin => zm_X7_found F hr hlk hin
theorem zcl_43 : zCl 43 := fun _ _ _ _ _ _ _ _ _ _ _ _ _ _ _ _ _ _ _ F hr hlk hin => zm_X7_renew F hr hlk hin
theorem zcl_44 : zCl 44 := fun _ _ _ _ _ _ _ _ _ _ _ _ _ _ _ _ _ _ _ F hr hlk hin => zm_X7_discard F hr hlk hin
theorem zcl_45 : zCl 45 := fun _ _ _ _ _ _ _ _ _ _ _ _ _ _ _ _ _ _ _ F hr hlk hin => zm_X7_faultOf F hr hlk hin
theorem zcl_46 : zCl 46 := fun _ _ _ _ _ _ _ _ _ _ _ _ _ _ _ _ _ _ _ F hr hlk hin => zm_X7_write F hr hlk hin
theorem zcl_47 : zCl 47 := fun _ _ _ _ _ _ _ _ _ _ _ _ _ _ _ _ _ _ _ F hr hlk hin => zm_X7_move F hr hlk hin
theorem zcl_48 : zCl 48 := fun _ _ _ _ _ _ _ _ _ _ _ _ _ _ _ _ _ _ _ F hr hlk hin => zm_X7_weight F hr hlk hin
theorem zcl_49 : zCl 49 := fun _ _ _ _ _ _ _ _ _ _ _ _ _ _ _ _ _ _ _ F hr hlk hin => zm_X8_init F hr hlk hin
theorem zcl_50 : zCl 50 := fun _ _ _ _ _ _ _ _ _ _ _ _ _ _ _ _ _ _ _ F hr hlk hin => zm_X8_trim F hr hlk hin
theorem zcl_51 : zCl 51 := fun _ _ _ _ _ _ _ _ _ _ _ _ _ _ _ _ _ _ _ F hr hlk hin => zm_X8_share F hr hlk hin
theorem zcl_52 : zCl 52 := fun _ _ _ _ _ _ _ _ _ _ _ _ _ _ _ _ _ _ _ F hr hlk hin => zm_X9_init F hr hlk hin
theorem zcl_53 : zCl 53 := fun _ _ _ _ _ _ _ _ _ _ _ _ _ _ _ _ _ _ _ F hr hlk hin => zm_X9_profile F hr hlk hin
theorem zcl_54 : zCl 54 := fun _ _ _ _ _ _ _ _ _ _ _ _ _ _ _ _ _ _ _ F hr hlk hin => zm_X9_die F hr hlk hin
theorem zcl_55 : zCl 55 := fun _ _ _ _ _ _ _ _ _ _ _ _ _ _ _ _ _ _ _ F hr hlk hin => zm_X9_warm F hr hlk hin
theorem zcl_56 : zCl 56 := fun _ _ _ _ _ _ _ _ _ _ _ _ _ _ _ _ _ _ _ F hr hlk hin => zm_X9_cool F hr hlk hin
theorem zcl_57 : zCl 57 := fun _ _ _ _ _ _ _ _ _ _ _ _ _ _ _ _ _ _ _ F hr hlk hin => zm_X9_nitride F hr hlk hin
theorem zcl_58 : zCl 58 := fun _ _ _ _ _ _ _ _ _ _ _ _ _ _ _ _ _ _ _ F hr hlk hin => zm_X9_about F hr hlk hin
theorem zcl_59 : zCl 59 := fun _ _ _ _ _ _ _ _ _ _ _ _ _ _ _ _ _ _ _ F hr hlk hin => zm_X9_ready F hr hlk hin
theorem zcl_60 : zCl 60 := fun _ _ _ _ _ _ _ _ _ _ _ _ _ _ _ _ _ _ _ F hr hlk hin => zm_X9_pass F hr hlk hin
theorem zcl_61 : zCl 61 := fun _ _ _ _ _ _ _ _ _ _ _ _ _ _ _ _ _ _ _ F hr hlk hin => zm_X9_law F hr hlk hin
theorem zcl_62 : zCl 62 := fun _ _ _ _ _ _ _ _ _ _ _ _ _ _ _ _ _ _ _ F hr hlk hin => zm_X9_press F hr hlk hin
theorem zcl_63 : zCl 63 := fun _ _ _ _ _ _ _ _ _ _ _ _ _ _ _ _ _ _ _ F hr hlk hin => zm_X9_bar F hr hlk hin
theorem zcl_64 : zCl 64 := fun _ _ _ _ _ _ _ _ _ _ _ _ _ _ _ _ _ _ _ F hr hlk hin => zm_X9_order F hr hlk hin
theorem zcl_65 : zCl 65 := fun _ _ _ _ _ _ _ _ _ _ _ _ _ _ _ _ _ _ _ F hr hlk hin => zm_X9_wanted F hr hlk hin
theorem zcl_66 : zCl 66 := fun _ _ _ _ _ _ _ _ _ _ _ _ _ _ _ _ _ _ _ F hr hlk hin => zm_X9_pattern F hr hlk hin
theorem zcl_67 : zCl 67 := fun _ _ _ _ _ _ _ _ _ _ _ _ _ _ _ _ _ _ _ F hr hlk hin => zm_X9_account F hr hlk hin
theorem zcl_68 : zCl 68 := fun _ _ _ _ _ _ _ _ _ _ _ _ _ _ _ _ _ _ _ F hr hlk hin => zm_X9_stock F hr hlk hin
theorem zcl_69 : zCl 69 := fun _ _ _ _ _ _ _ _ _ _ _ _ _ _ _ _ _ _ _ F hr hlk hin => zm_X9_best F hr hlk hin
theorem zcl_70 : zCl 70 := fun _ _ _ _ _ _ _ _ _ _ _ _ _ _ _ _ _ _ _ F hr hlk hin => zm_X9_job F hr hlk hin
theorem zcl_71 : zCl 71 := fun _ _ _ _ _ _ _ _ _ _ _ _ _ _ _ _ _ _ _ F hr hlk hin => zm_X9_change F hr hlk hin
theorem zcl_72 : zCl 72 := fun _ _ _ _ _ _ _ _ _ _ _ _ _ _ _ _ _ _ _ F hr hlk hin => zm_X9_late F hr hlk hin
theorem zcl_73 : zCl 73 := fun _ _ _ _ _ _ _ _ _ _ _ _ _ _ _ _ _ _ _ F hr hlk hin => zm_X9_planned F hr hlk hin
theorem zcl_74 : zCl 74 := fun _ _ _ _ _ _ _ _ _ _ _ _ _ _ _ _ _ _ _ F hr hlk hin => zm_X9_room F hr hlk hin
theorem zcl_75 : zCl 75 := fun _ _ _ _ _ _ _ _ _ _ _ _ _ _ _ _ _ _ _ F hr hlk hin => zm_X9_age F hr hlk hin
theorem zcl_76 : zCl 76 := fun _ _ _ _ _ _ _ _ _ _ _ _ _ _ _ _ _ _ _ F hr hlk hin => zm_X9_batches F hr hlk hin
theorem zcl_77 : zCl 77 := fun _ _ _ _ _ _ _ _ _ _ _ _ _ _ _ _ _ _ _ F hr hlk hin => zm_X9_sample F hr hlk hin
theorem zcl_78 : zCl 78 := fun _ _ _ _ _ _ _ _ _ _ _ _ _ _ _ _ _ _ _ F hr hlk hin => zm_X9_suspect F hr hlk hin
theorem zcl_79 : zCl 79 := fun _ _ _ _ _ _ _ _ _ _ _ _ _ _ _ _ _ _ _ F hr hlk hin => zm_X9_held F hr hlk hin
theorem zcl_80 : zCl 80 := fun _ _ _ _ _ _ _ _ _ _ _ _ _ _ _ _ _ _ _ F hr hlk hin => zm_X9_drift F hr hlk hin
theorem zcl_81 : zCl 81 := fun _ _ _ _ _ _ _ _ _ _ _ _ _ _ _ _ _ _ _ F hr hlk hin => zm_X9_sheet F hr hlk hin
theorem zcl_82 : zCl 82 := fun _ _ _ _ _ _ _ _ _ _ _ _ _ _ _ _ _ _ _ F hr hlk hin => zm_X9_lose F hr hlk hin
theorem zcl_83 : zCl 83 := fun _ _ _ _ _ _ _ _ _ _ _ _ _ _ _ _ _ _ _ F hr hlk hin => zm_X9_put F hr hlk hin
theorem zcl_84 : zCl 84 := fun _ _ _ _ _ _ _ _ _ _ _ _ _ _ _ _ _ _ _ F hr hlk hin => zm_X9_get F hr hlk hin
theorem zcl_85 : zCl 85 := fun _ _ _ _ _ _ _ _ _ _ _ _ _ _ _ _ _ _ _ F hr hlk hin => zm_X9_copy F hr hlk hin
theorem zcl_86 : zCl 86 := fun _ _ _ _ _ _ _ _ _ _ _ _ _ _ _ _ _ _ _ F hr hlk hin => zm_X9_count F hr hlk hin
theorem zcl_87 : zCl 87 := fun _ _ _ _ _ _ _ _ _ _ _ _ _ _ _ _ _ _ _ F hr hlk hin => zm_X9_digest F hr hlk hin
theorem zcl_88 : zCl 88 := fun _ _ _ _ _ _ _ _ _ _ _ _ _ _ _ _ _ _ _ F hr hlk hin => zm_X9_within F hr hlk hin
theorem zcl_89 : zCl 89 := fun _ _ _ _ _ _ _ _ _ _ _ _ _ _ _ _ _ _ _ F hr hlk hin => zm_X9_isSheet F hr hlk hin
theorem zcl_90 : zCl 90 := fun _ _ _ _ _ _ _ _ _ _ _ _ _ _ _ _ _ _ _ F hr hlk hin => zm_X9_isForm F hr hlk hin
theorem zcl_91 : zCl 91 := fun _ _ _ _ _ _ _ _ _ _ _ _ _ _ _ _ _ _ _ F hr hlk hin => zm_X9_foresee F hr hlk hin
theorem zcl_92 : zCl 92 := fun _ _ _ _ _ _ _ _ _ _ _ _ _ _ _ _ _ _ _ F hr hlk hin => zm_X9_paysMore F hr hlk hin
theorem zcl_93 : zCl 93 := fun _ _ _ _ _ _ _ _ _ _ _ _ _ _ _ _ _ _ _ F hr hlk hin => zm_X10_init F hr hlk hin
theorem zcl_94 : zCl 94 := fun _ _ _ _ _ _ _ _ _ _ _ _ _ _ _ _ _ _ _ F hr hlk hin => zm_X10_in F hr hlk hin
theorem zcl_95 : zCl 95 := fun _ _ _ _ _ _ _ _ _ _ _ _ _ _ _ _ _ _ _ F hr hlk hin => zm_X10_isProfile F hr hlk hin
theorem zcl_96 : zCl 96 := fun _ _ _ _ _ _ _ _ _ _ _ _ _ _ _ _ _ _ _ F hr hlk hin => zm_X10_isDie F hr hlk hin
theorem zcl_97 : zCl 97 := fun _ _ _ _ _ _ _ _ _ _ _ _ _ _ _ _ _ _ _ F hr hlk hin => zm_X10_profile F hr hlk hin
theorem zcl_98 : zCl 98 := fun _ _ _ _ _ _ _ _ _ _ _ _ _ _ _ _ _ _ _ F hr hlk hin => zm_X10_die F hr hlk hin
theorem zcl_99 : zCl 99 := fun _ _ _ _ _ _ _ _ _ _ _ _ _ _ _ _ _ _ _ F hr hlk hin => zm_X10_warm F hr hlk hin
theorem zcl_100 : zCl 100 := fun _ _ _ _ _ _ _ _ _ _ _ _ _ _ _ _ _ _ _ F hr hlk hin => zm_X10_cool F hr hlk hin
theorem zcl_101 : zCl 101 := fun _ _ _ _ _ _ _ _ _ _ _ _ _ _ _ _ _ _ _ F hr hlk hin => zm_X10_nitride F hr hlk hin
theorem zcl_102 : zCl 102 := fun _ _ _ _ _ _ _ _ _ _ _ _ _ _ _ _ _ _ _ F hr hlk hin => zm_X10_mayPress F hr hlk hin
theorem zcl_103 : zCl 103 := fun _ _ _ _ _ _ _ _ _ _ _ _ _ _ _ _ _ _ _ F hr hlk hin => zm_X10_about F hr hlk hin
theorem zcl_104 : zCl 104 := fun _ _ _ _ _ _ _ _ _ _ _ _ _ _ _ _ _ _ _ F hr hlk hin => zm_X10_ready F hr hlk hin
theorem zcl_105 : zCl 105 := fun _ _ _ _ _ _ _ _ _ _ _ _ _ _ _ _ _ _ _ F hr hlk hin => zm_X10_pass F hr hlk hin
theorem zcl_106 : zCl 106 := fun _ _ _ _ _ _ _ _ _ _ _ _ _ _ _ _ _ _ _ F hr hlk hin => zm_X10_law F hr hlk hin
theorem zcl_107 : zCl 107 := fun _ _ _ _ _ _ _ _ _ _ _ _ _ _ _ _ _ _ _ F hr hlk hin => zm_X10_most F hr hlk hin
theorem zcl_108 : zCl 108 := fun _ _ _ _ _ _ _ _ _ _ _ _ _ _ _ _ _ _ _ F hr hlk hin => zm_X10_findPattern F hr hlk hin
theorem zcl_109 : zCl 109 := fun _ _ _ _ _ _ _ _ _ _ _ _ _ _ _ _ _ _ _ F hr hlk hin => zm_X10_lengthOf F hr hlk hin
theorem zcl_110 : zCl 110 := fun _ _ _ _ _ _ _ _ _ _ _ _ _ _ _ _ _ _ _ F hr hlk hin => zm_X10_findBar F hr hlk hin
theorem zcl_111 : zCl 111 := fun _ _ _ _ _ _ _ _ _ _ _ _ _ _ _ _ _ _ _ F hr hlk hin => zm_X10_press F hr hlk hin
theorem zcl_112 : zCl 112 := fun _ _ _ _ _ _ _ _ _ _ _ _ _ _ _ _ _ _ _ F hr hlk hin => zm_X10_isBar F hr hlk hin
theorem zcl_113 : zCl 113 := fun _ _ _ _ _ _ _ _ _ _ _ _ _ _ _ _ _ _ _ F hr hlk hin => zm_X10_bar F hr hlk hin
theorem zcl_114 : zCl 114 := fun _ _ _ _ _ _ _ _ _ _ _ _ _ _ _ _ _ _ _ F hr hlk hin => zm_X10_order F hr hlk hin
theorem zcl_115 : zCl 115 := fun _ _ _ _ _ _ _ _ _ _ _ _ _ _ _ _ _ _ _ F hr hlk hin => zm_X10_wanted F hr hlk hin
theorem zcl_116 : zCl 116 := fun _ _ _ _ _ _ _ _ _ _ _ _ _ _ _ _ _ _ _ F hr hlk hin => zm_X10_pattern F hr hlk hin
theorem zcl_117 : zCl 117 := fun _ _ _ _ _ _ _ _ _ _ _ _ _ _ _ _ _ _ _ F hr hlk hin => zm_X10_account F hr hlk hin
theorem zcl_118 : zCl 118 := fun _ _ _ _ _ _ _ _ _ _ _ _ _ _ _ _ _ _ _ F hr hlk hin => zm_X10_stock F hr hlk hin
theorem zcl_119 : zCl 119 := fun _ _ _ _ _ _ _ _ _ _ _ _ _ _ _ _ _ _ _ F hr hlk hin => zm_X10_best F hr hlk hin
theorem zcl_120 : zCl 120 := fun _ _ _ _ _ _ _ _ _ _ _ _ _ _ _ _ _ _ _ F hr hlk hin => zm_X10_job F hr hlk hin
theorem zcl_121 : zCl 121 := fun _ _ _ _ _ _ _ _ _ _ _ _ _ _ _ _ _ _ _ F hr hlk hin => zm_X10_change F hr hlk hin
theorem zcl_122 : zCl 122 := fun _ _ _ _ _ _ _ _ _ _ _ _ _ _ _ _ _ _ _ F hr hlk hin => zm_X10_nextRow F hr hlk hin
theorem zcl_123 : zCl 123 := fun _ _ _ _ _ _ _ _ _ _ _ _ _ _ _ _ _ _ _ F hr hlk hin => zm_X10_findOrder F hr hlk hin
theorem zcl_124 : zCl 124 := fun _ _ _ _ _ _ _ _ _ _ _ _ _ _ _ _ _ _ _ F hr hlk hin => zm_X10_late F hr hlk hin
theorem zcl_125 : zCl 125 := fun _ _ _ _ _ _ _ _ _ _ _ _ _ _ _ _ _ _ _ F hr hlk hin => zm_X10_planned F hr hlk hin
theorem zcl_126 : zCl 126 := fun _ _ _ _ _ _ _ _ _ _ _ _ _ _ _ _ _ _ _ F hr hlk hin => zm_X10_room F hr hlk hin
theorem zcl_127 : zCl 127 := fun _ _ _ _ _ _ _ _ _ _ _ _ _ _ _ _ _ _ _ F hr hlk hin => zm_X10_waits F hr hlk hin
theorem zcl_128 : zCl 128 := fun _ _ _ _ _ _ _ _ _ _ _ _ _ _ _ _ _ _ _ F hr hlk hin => zm_X10_noneGone F hr hlk hin
theorem zcl_129 : zCl 129 := fun _ _ _ _ _ _ _ _ _ _ _ _ _ _ _ _ _ _ _ F hr hlk hin => zm_X10_takes F hr hlk hin
theorem zcl_130 : zCl 130 := fun _ _ _ _ _ _ _ _ _ _ _ _ _ _ _ _ _ _ _ F hr hlk hin => zm_X10_age F hr hlk hin
theorem zcl_131 : zCl 131 := fun _ _ _ _ _ _ _ _ _ _ _ _ _ _ _ _ _ _ _ F hr hlk hin => zm_X10_batches F hr hlk hin
theorem zcl_132 : zCl 132 := fun _ _ _ _ _ _ _ _ _ _ _ _ _ _ _ _ _ _ _ F hr hlk hin => zm_X10_sample F hr hlk hin
theorem zcl_133 : zCl 133 := fun _ _ _ _ _ _ _ _ _ _ _ _ _ _ _ _ _ _ _ F hr hlk hin => zm_X10_isSuspect F hr hlk hin
theorem zcl_134 : zCl 134 := fun _ _ _ _ _ _ _ _ _ _ _ _ _ _ _ _ _ _ _ F hr hlk hin => zm_X10_suspect F hr hlk hin
theorem zcl_135 : zCl 135 := fun _ _ _ _ _ _ _ _ _ _ _ _ _ _ _ _ _ _ _ F hr hlk hin => zm_X10_held F hr hlk hin
theorem zcl_136 : zCl 136 := fun _ _ _ _ _ _ _ _ _ _ _ _ _ _ _ _ _ _ _ F hr hlk hin => zm_X10_drift F hr hlk hin
theorem zcl_137 : zCl 137 := fun _ _ _ _ _ _ _ _ _ _ _ _ _ _ _ _ _ _ _ F hr hlk hin => zm_X10_met F hr hlk hin
theorem zcl_138 : zCl 138 := fun _ _ _ _ _ _ _ _ _ _ _ _ _ _ _ _ _ _ _ F hr hlk hin => zm_X10_isSheet F hr hlk hin
theorem zcl_139 : zCl 139 := fun _ _ _ _ _ _ _ _ _ _ _ _ _ _ _ _ _ _ _ F hr hlk hin => zm_X10_sheet F hr hlk hin
theorem zcl_140 : zCl 140 := fun _ _ _ _ _ _ _ _ _ _ _ _ _ _ _ _ _ _ _ F hr hlk hin => zm_X10_lose F hr hlk hin
theorem zcl_141 : zCl 141 := fun _ _ _ _ _ _ _ _ _ _ _ _ _ _ _ _ _ _ _ F hr hlk hin => zm_X10_lacks F hr hlk hin
theorem zcl_142 : zCl 142 := fun _ _ _ _ _ _ _ _ _ _ _ _ _ _ _ _ _ _ _ F hr hlk hin => zm_X10_put F hr hlk hin
theorem zcl_143 : zCl 143 := fun _ _ _ _ _ _ _ _ _ _ _ _ _ _ _ _ _ _ _ F hr hlk hin => zm_X10_get F hr hlk hin
theorem zcl_144 : zCl 144 := fun _ _ _ _ _ _ _ _ _ _ _ _ _ _ _ _ _ _ _ F hr hlk hin => zm_X10_copy F hr hlk hin
theorem zcl_145 : zCl 145 := fun _ _ _ _ _ _ _ _ _ _ _ _ _ _ _ _ _ _ _ F hr hlk hin => zm_X10_waiting F hr hlk hin
theorem zcl_146 : zCl 146 := fun _ _ _ _ _ _ _ _ _ _ _ _ _ _ _ _ _ _ _ F hr hlk hin => zm_X10_count F hr hlk hin
theorem zcl_147 : zCl 147 := fun _ _ _ _ _ _ _ _ _ _ _ _ _ _ _ _ _ _ _ F hr hlk hin => zm_X10_digest F hr hlk hin
theorem zcl_148 : zCl 148 := fun _ _ _ _ _ _ _ _ _ _ _ _ _ _ _ _ _ _ _ F hr hlk hin => zm_J9_floorDiv_7cf53 F hr hlk hin
theorem zcl_149 : zCl 149 := fun _ _ _ _ _ _ _ _ _ _ _ _ _ _ _ _ _ _ _ F hr hlk hin => zm_J9_max_7cf53 F hr hlk hin
theorem zcl_150 : zCl 150 := fun _ _ _ _ _ _ _ _ _ _ _ _ _ _ _ _ _ _ _ F hr hlk hin => zm_J9_min_7cf53 F hr hlk hin
theorem zcg_0 : ∀ y ∈ [0, 1, 2, 3, 4, 5, 6, 7, 8, 9, 10, 11, 12, 13, 14, 15, 16, 17, 18, 19, 20, 21, 22, 23, 24], zCl y := List.forall_mem_cons.mpr ⟨zcl_0, List.forall_mem_cons.mpr ⟨zcl_1, List.forall_mem_cons.mpr ⟨zcl_2, List.forall_mem_cons.mpr ⟨zcl_3, List.forall_mem_cons.mpr ⟨zcl_4, List.forall_mem_cons.mpr ⟨zcl_5, List.forall_mem_cons.mpr ⟨zcl_6, List.forall_mem_cons.mpr ⟨zcl_7, List.forall_mem_cons.mpr ⟨zcl_8, List.forall_mem_cons.mpr ⟨zcl_9, List.forall_mem_cons.mpr ⟨zcl_10, List.forall_mem_cons.mpr ⟨zcl_11, List.forall_mem_cons.mpr ⟨zcl_12, List.forall_mem_cons.mpr ⟨zcl_13, List.forall_mem_cons.mpr ⟨zcl_14, List.forall_mem_cons.mpr ⟨zcl_15, List.forall_mem_cons.mpr ⟨zcl_16, List.forall_mem_cons.mpr ⟨zcl_17, List.forall_mem_cons.mpr ⟨zcl_18, List.forall_mem_cons.mpr ⟨zcl_19, List.forall_mem_cons.mpr ⟨zcl_20, List.forall_mem_cons.mpr ⟨zcl_21, List.forall_mem_cons.mpr ⟨zcl_22, List.forall_mem_cons.mpr ⟨zcl_23, List.forall_mem_cons.mpr ⟨zcl_24, fun _ h => absurd h List.not_mem_nil⟩⟩⟩⟩⟩⟩⟩⟩⟩⟩⟩⟩⟩⟩⟩⟩⟩⟩⟩⟩⟩⟩⟩⟩⟩
theorem zcg_1 : ∀ y ∈ [25, 26, 27, 28, 29, 30, 31, 32, 33, 34, 35, 36, 37, 38, 39, 40, 41, 42, 43, 44, 45, 46, 47, 48, 49], zCl y := List.forall_mem_cons.mpr ⟨zcl_25, List.forall_mem_cons.mpr ⟨zcl_26, List.forall_mem_cons.mpr ⟨zcl_27, List.forall_mem_cons.mpr ⟨zcl_28, List.forall_mem_cons.mpr ⟨zcl_29, List.forall_mem_cons.mpr ⟨zcl_30, List.forall_mem_cons.mpr ⟨zcl_31, List.forall_mem_cons.mpr ⟨zcl_32, List.forall_mem_cons.mpr ⟨zcl_33, List.forall_mem_cons.mpr ⟨zcl_34, List.forall_mem_cons.mpr ⟨zcl_35, List.forall_mem_cons.mpr ⟨zcl_36, List.forall_mem_cons.mpr ⟨zcl_37, List.forall_mem_cons.mpr ⟨zcl_38, List.forall_mem_cons.mpr ⟨zcl_39, List.forall_mem_cons.mpr ⟨zcl_40, List.forall_mem_cons.mpr ⟨zcl_41, List.forall_mem_cons.mpr ⟨zcl_42, List.forall_mem_cons.mpr ⟨zcl_43, List.forall_mem_cons.mpr ⟨zcl_44, List.forall_mem_cons.mpr ⟨zcl_45, List.forall_mem_cons.mpr ⟨zcl_46, List.forall_mem_cons.mpr ⟨zcl_47, List.forall_mem_cons.mpr ⟨zcl_48, List.forall_mem_cons.mpr ⟨zcl_49, fun _ h => absurd h List.not_mem_nil⟩⟩⟩⟩⟩⟩⟩⟩⟩⟩⟩⟩⟩⟩⟩⟩⟩⟩⟩⟩⟩⟩⟩⟩⟩
theorem zcg_2 : ∀ y ∈ [50, 51, 52, 53, 54, 55, 56, 57, 58, 59, 60, 61, 62, 63, 64, 65, 66, 67, 68, 69, 70, 71, 72, 73, 74], zCl y := List.forall_mem_cons.mpr ⟨zcl_50, List.forall_mem_cons.mpr ⟨zcl_51, List.forall_mem_cons.mpr ⟨zcl_52, List.forall_mem_cons.mpr ⟨zcl_53, List.forall_mem_cons.mpr ⟨zcl_54, List.forall_mem_cons.mpr ⟨zcl_55, List.forall_mem_cons.mpr ⟨zcl_56, List.forall_mem_cons.mpr ⟨zcl_57, List.forall_mem_cons.mpr ⟨zcl_58, List.forall_mem_cons.mpr ⟨zcl_59, List.forall_mem_cons.mpr ⟨zcl_60, List.forall_mem_cons.mpr ⟨zcl_61, List.forall_mem_cons.mpr ⟨zcl_62, List.forall_mem_cons.mpr ⟨zcl_63, List.forall_mem_cons.mpr ⟨zcl_64, List.forall_mem_cons.mpr ⟨zcl_65, List.forall_mem_cons.mpr ⟨zcl_66, List.forall_mem_cons.mpr ⟨zcl_67, List.forall_mem_cons.mpr ⟨zcl_68, List.forall_mem_cons.mpr ⟨zcl_69, List.forall_mem_cons.mpr ⟨zcl_70, List.forall_mem_cons.mpr ⟨zcl_71, List.forall_mem_cons.mpr ⟨zcl_72, List.forall_mem_cons.mpr ⟨zcl_73, List.forall_mem_cons.mpr ⟨zcl_74, fun _ h => absurd h List.not_mem_nil⟩⟩⟩⟩⟩⟩⟩⟩⟩⟩⟩⟩⟩⟩⟩⟩⟩⟩⟩⟩⟩⟩⟩⟩⟩
theorem zcg_3 : ∀ y ∈ [75, 76, 77, 78, 79, 80, 81, 82, 83, 84, 85, 86, 87, 88, 89, 90, 91, 92, 93, 94, 95, 96, 97, 98, 99], zCl y := List.forall_mem_cons.mpr ⟨zcl_75, List.forall_mem_cons.mpr ⟨zcl_76, List.forall_mem_cons.mpr ⟨zcl_77, List.forall_mem_cons.mpr ⟨zcl_78, List.forall_mem_cons.mpr ⟨zcl_79, List.forall_mem_cons.mpr ⟨zcl_80, List.forall_mem_cons.mpr ⟨zcl_81, List.forall_mem_cons.mpr ⟨zcl_82, List.forall_mem_cons.mpr ⟨zcl_83, List.forall_mem_cons.mpr ⟨zcl_84, List.forall_mem_cons.mpr ⟨zcl_85, List.forall_mem_cons.mpr ⟨zcl_86, List.forall_mem_cons.mpr ⟨zcl_87, List.forall_mem_cons.mpr ⟨zcl_88, List.forall_mem_cons.mpr ⟨zcl_89, List.forall_mem_cons.mpr ⟨zcl_90, List.forall_mem_cons.mpr ⟨zcl_91, List.forall_mem_cons.mpr ⟨zcl_92, List.forall_mem_cons.mpr ⟨zcl_93, List.forall_mem_cons.mpr ⟨zcl_94, List.forall_mem_cons.mpr ⟨zcl_95, List.forall_mem_cons.mpr ⟨zcl_96, List.forall_mem_cons.mpr ⟨zcl_97, List.forall_mem_cons.mpr ⟨zcl_98, List.forall_mem_cons.mpr ⟨zcl_99, fun _ h => absurd h List.not_mem_nil⟩⟩⟩⟩⟩⟩⟩⟩⟩⟩⟩⟩⟩⟩⟩⟩⟩⟩⟩⟩⟩⟩⟩⟩⟩
theorem zcg_4 : ∀ y ∈ [100, 101, 102, 103, 104, 105, 106, 107, 108, 109, 110, 111, 112, 113, 114, 115, 116, 117, 118, 119, 120, 121, 122, 123, 124], zCl y := List.forall_mem_cons.mpr ⟨zcl_100, List.forall_mem_cons.mpr ⟨zcl_101, List.forall_mem_cons.mpr ⟨zcl_102, List.forall_mem_cons.mpr ⟨zcl_103, List.forall_mem_cons.mpr ⟨zcl_104, List.forall_mem_cons.mpr ⟨zcl_105, List.forall_mem_cons.mpr ⟨zcl_106, List.forall_mem_cons.mpr ⟨zcl_107, List.forall_mem_cons.mpr ⟨zcl_108, List.forall_mem_cons.mpr ⟨zcl_109, List.forall_mem_cons.mpr ⟨zcl_110, List.forall_mem_cons.mpr ⟨zcl_111, List.forall_mem_cons.mpr ⟨zcl_112, List.forall_mem_cons.mpr ⟨zcl_113, List.forall_mem_cons.mpr ⟨zcl_114, List.forall_mem_cons.mpr ⟨zcl_115, List.forall_mem_cons.mpr ⟨zcl_116, List.forall_mem_cons.mpr ⟨zcl_117, List.forall_mem_cons.mpr ⟨zcl_118, List.forall_mem_cons.mpr ⟨zcl_119, List.forall_mem_cons.mpr ⟨zcl_120, List.forall_mem_cons.mpr ⟨zcl_121, List.forall_mem_cons.mpr ⟨zcl_122, List.forall_mem_cons.mpr ⟨zcl_123, List.forall_mem_cons.mpr ⟨zcl_124, fun _ h => absurd h List.not_mem_nil⟩⟩⟩⟩⟩⟩⟩⟩⟩⟩⟩⟩⟩⟩⟩⟩⟩⟩⟩⟩⟩⟩⟩⟩⟩
theorem zcg_5 : ∀ y ∈ [125, 126, 127, 128, 129, 130, 131, 132, 133, 134, 135, 136, 137, 138, 139, 140, 141, 142, 143, 144, 145, 146, 147, 148, 149], zCl y := List.forall_mem_cons.mpr ⟨zcl_125, List.forall_mem_cons.mpr ⟨zcl_126, List.forall_mem_cons.mpr ⟨zcl_127, List.forall_mem_cons.mpr ⟨zcl_128, List.forall_mem_cons.mpr ⟨zcl_129, List.forall_mem_cons.mpr ⟨zcl_130, List.forall_mem_cons.mpr ⟨zcl_131, List.forall_mem_cons.mpr ⟨zcl_132, List.forall_mem_cons.mpr ⟨zcl_133, List.forall_mem_cons.mpr ⟨zcl_134, List.forall_mem_cons.mpr ⟨zcl_135, List.forall_mem_cons.mpr ⟨zcl_136, List.forall_mem_cons.mpr ⟨zcl_137, List.forall_mem_cons.mpr ⟨zcl_138, List.forall_mem_cons.mpr ⟨zcl_139, List.forall_mem_cons.mpr ⟨zcl_140, List.forall_mem_cons.mpr ⟨zcl_141, List.forall_mem_cons.mpr ⟨zcl_142, List.forall_mem_cons.mpr ⟨zcl_143, List.forall_mem_cons.mpr ⟨zcl_144, List.forall_mem_cons.mpr ⟨zcl_145, List.forall_mem_cons.mpr ⟨zcl_146, List.forall_mem_cons.mpr ⟨zcl_147, List.forall_mem_cons.mpr ⟨zcl_148, List.forall_mem_cons.mpr ⟨zcl_149, fun _ h => absurd h List.not_mem_nil⟩⟩⟩⟩⟩⟩⟩⟩⟩⟩⟩⟩⟩⟩⟩⟩⟩⟩⟩⟩⟩⟩⟩⟩⟩
theorem zcg_6 : ∀ y ∈ [150], zCl y := List.forall_mem_cons.mpr ⟨zcl_150, fun _ h => absurd h List.not_mem_nil⟩
theorem zcl_all (y : Nat) (h : y < 151) : zCl y := by
  have hm : y ∈ [0, 1, 2, 3, 4, 5, 6, 7, 8, 9, 10, 11, 12, 13, 14, 15, 16, 17, 18, 19, 20, 21, 22, 23, 24] ++ ([25, 26, 27, 28, 29, 30, 31, 32, 33, 34, 35, 36, 37, 38, 39, 40, 41, 42, 43, 44, 45, 46, 47, 48, 49] ++ ([50, 51, 52, 53, 54, 55, 56, 57, 58, 59, 60, 61, 62, 63, 64, 65, 66, 67, 68, 69, 70, 71, 72, 73, 74] ++ ([75, 76, 77, 78, 79, 80, 81, 82, 83, 84, 85, 86, 87, 88, 89, 90, 91, 92, 93, 94, 95, 96, 97, 98, 99] ++ ([100, 101, 102, 103, 104, 105, 106, 107, 108, 109, 110, 111, 112, 113, 114, 115, 116, 117, 118, 119, 120, 121, 122, 123, 124] ++ ([125, 126, 127, 128, 129, 130, 131, 132, 133, 134, 135, 136, 137, 138, 139, 140, 141, 142, 143, 144, 145, 146, 147, 148, 149] ++ ([150])))))) := (show ∀ y, y < 151 → y ∈ [0, 1, 2, 3, 4, 5, 6, 7, 8, 9, 10, 11, 12, 13, 14, 15, 16, 17, 18, 19, 20, 21, 22, 23, 24] ++ ([25, 26, 27, 28, 29, 30, 31, 32, 33, 34, 35, 36, 37, 38, 39, 40, 41, 42, 43, 44, 45, 46, 47, 48, 49] ++ ([50, 51, 52, 53, 54, 55, 56, 57, 58, 59, 60, 61, 62, 63, 64, 65, 66, 67, 68, 69, 70, 71, 72, 73, 74] ++ ([75, 76, 77, 78, 79, 80, 81, 82, 83, 84, 85, 86, 87, 88, 89, 90, 91, 92, 93, 94, 95, 96, 97, 98, 99] ++ ([100, 101, 102, 103, 104, 105, 106, 107, 108, 109, 110, 111, 112, 113, 114, 115, 116, 117, 118, 119, 120, 121, 122, 123, 124] ++ ([125, 126, 127, 128, 129, 130, 131, 132, 133, 134, 135, 136, 137, 138, 139, 140, 141, 142, 143, 144, 145, 146, 147, 148, 149] ++ ([150])))))) by decide +kernel) y h
  rcases List.mem_append.mp hm with hm | hm
  · exact zcg_0 y hm
  rcases List.mem_append.mp hm with hm | hm
  · exact zcg_1 y hm
  rcases List.mem_append.mp hm with hm | hm
  · exact zcg_2 y hm
  rcases List.mem_append.mp hm with hm | hm
  · exact zcg_3 y hm
  rcases List.mem_append.mp hm with hm | hm
  · exact zcg_4 y hm
  rcases List.mem_append.mp hm with hm | hm
  · exact zcg_5 y hm
  exact zcg_6 y hm
theorem zofW {l : Launch} {y : MethodName} {ws ws' : List Cond} {rm : Room} {Pc : Array Value → State → Prop} {Qc : Array Value → State → Outcome → State → Prop} {mc ms : Nat} {free : Addr → Prop} {cc : ByteArray} {maxL : Nat} {ret : Option FieldType}
    (hy : plainFor y = true) (hw : ws = Cond.code y cc maxL ret :: ws')
    (body : ∀ p e s m args below meth c s₁, BodyLoose p l y (headSpec ws rm) cc maxL ret e s m args below meth c s₁ → c.maxLocals = maxL → Pc args s →
      W p l e (headSpec ws rm).room s m args below meth c s.heap [] 0 0 (MQ below Qc args s mc ms free) (entryFrame m args maxL)) : Met l y ws rm Pc Qc mc ms free := by
  refine MetFree.of_bodySF (code := cc) (maxLocals := maxL) (ret := ret) hy ?_ ?_
  · intro args s m h hn
    obtain ⟨meth, c, q1, q2, q3, q4, q5, q6, -, -⟩ := Cond.code_spec hn (atoms_spec (ws := ws) h _ (by rw [hw]; exact List.mem_cons_self))
    exact ⟨meth, c, q1, q2, q3, q4, q5, q6⟩
  · intro p e s m args below meth c s₁ Bd hml hP _
    have hh0 : s₁.heap = s.heap := by rw [Bd.state]; rfl
    obtain ⟨t, a1, o, b1, b2, b3⟩ := body p e s m args below meth c s₁ Bd hml hP s₁ hh0 (Stand.of_body Bd)
    exact ⟨t, o, a1, b1, b2, ⟨b3.1, b3.2⟩⟩
theorem zplain_all : ∀ y, y < 151 → plainFor (zmn y) = true := by decide +kernel
theorem zlo_none {f : Value → Value} : ∀ (n i : Nat), zlo f i (List.replicate n none) = []
  | 0, _ => rfl
  | n + 1, i => by rw [List.replicate_succ, zlo, zlo_none n (i + 1)]
theorem zent_core {B aL b : Nat} : ∀ (a : List Value) (i n : Nat), zlo (zdn B aL b) i ((a.flatMap fun v => cond (Nat.beq v.category 2) [some v, none] [some v]) ++ List.replicate n none) = lv_args i (a.map (zdn B aL b))
  | [], i, n => by simp [zlo_none, lv_args]
  | v :: vs, i, n => by
    rw [List.flatMap_cons, List.map_cons, lv_args, List.append_assoc]
    rcases lv_cat v with h | h
    · have hb : Nat.beq v.category 2 = false := by rw [h]; rfl
      rw [hb, zdn_cat, h]
      simp only [cond_false, List.singleton_append, zlo]
      rw [zent_core vs (i + 1) n]
      simp
    · have hb : Nat.beq v.category 2 = true := by rw [h]; rfl
      rw [hb, zdn_cat, h]
      simp only [cond_true, List.cons_append, List.nil_append, zlo]
      rw [zent_core vs (i + 1 + 1) n]
      simp
theorem zlg_len {B aL b : Nat} : ∀ (a : List Value), (lg_sl (a.map (zdn B aL b))).length = zcat a
  | [] => rfl
  | v :: vs => by
    have ih := zlg_len (B := B) (aL := aL) (b := b) vs
    unfold lg_sl at ih ⊢
    rw [List.map_cons, List.flatMap_cons, List.length_append, ih, zdn_cat]
    unfold zcat
    rw [List.map_cons, List.sum_cons]
    rcases lv_cat v with h | h <;> simp [h]
theorem zflat_len : ∀ (a : List Value), (a.flatMap fun v => cond (Nat.beq v.category 2) [some v, none] [some v]).length = zcat a
  | [] => rfl
  | v :: vs => by
    have ih := zflat_len vs
    rw [List.flatMap_cons, List.length_append, ih]
    unfold zcat
    rw [List.map_cons, List.sum_cons]
    rcases lv_cat v with h | h
    · rw [h]; rfl
    · rw [h]; rfl
theorem zent_LH {B aL b n : Nat} {a : List Value} {ls : Array Slot} (h : zcat a ≤ n) (hl : lv_has ls n (lv_args 0 (a.map (zdn B aL b)))) : zLH B aL b n (zent n a) ls := by
  refine ⟨?_, ?_⟩
  · unfold zent
    rw [List.length_append, List.length_replicate, zflat_len]
    omega
  · unfold zent
    rw [zent_core]
    exact hl
theorem zsound (l : Launch) (D : va_G) (X : ClassId × ClassId × ClassId) (B aL b : Nat) : ∀ (d y n1 : Nat) (a : List Value) (M : zM) (Q : Option Value → zM → Prop), zT d y n1 a M Q → zEc l D X B aL b d y n1 a M Q
  | 0, _, _, _, _, _, h => h.elim
  | d + 1, y, n1, a, M, Q, h0 => by
    obtain ⟨hok, h⟩ := h0
    simp only [zok, Bool.and_eq_true] at hok
    obtain ⟨k1, k2, k3, k4⟩ := hok
    have k1 : M.2.2.2 ≤ n1 := Nat.le_of_ble_eq_true k1
    have k2 : n1 ≤ 900 := Nat.le_of_ble_eq_true k2
    have k3 : y < 151 := Nat.le_of_ble_eq_true k3
    have k4 : zcat a ≤ zml y := Nat.le_of_ble_eq_true k4
    refine ⟨k1, zofW (cc := zmc y) (maxL := zml y) (ret := zmr y) (zplain_all y k3) rfl ?_⟩
    intro p e s m args below meth c s₁ Bd hml hv
    obtain ⟨rfl, hG, hsz, hP⟩ := hv
    have hts := atoms_spec (ws := zws y) Bd.pre
    have hown : s.vm.findClass (zmn y).cls = some m.cls := findClass_of_methodNamed Bd.named
    have hnm : meth.name = (zmn y).name := (name_of_methodNamed Bd.named Bd.method).1
    have F : zF p (zrm (d + 1) (n1 - M.2.2.2) (zss n1 - zss M.2.2.2)) s m (a.map (zdn B aL b)).toArray c (zmc y) (zml y) (zmn y).cls D X B aL d M.2.2.2 n1 := ⟨Bd.exec, Bd.bytes, hml, hown, fun w hw => hts w (List.mem_cons_of_mem _ hw), hG, hsz, ⟨Nat.le_refl _, Nat.le_refl _⟩, Nat.le_refl _, Nat.le_refl _, k2⟩
    have hcl := zcl_all y k3 p l e (zrm (d + 1) (n1 - M.2.2.2) (zss n1 - zss M.2.2.2)) s m (a.map (zdn B aL b)).toArray below meth c D X B aL b M.2.2.2 n1 d Q F Bd.returns Bd.notSynchronized hnm
    have hAt := h (zEc l D X B aL b d) (zAt p l e (zrm (d + 1) (n1 - M.2.2.2) (zss n1 - zss M.2.2.2)) s m (a.map (zdn B aL b)).toArray below meth c (MQ below (zQc D X B n1 Q) (a.map (zdn B aL b)).toArray s (n1 - M.2.2.2) (zss n1 - zss M.2.2.2) (fun q => B ≤ q)) D X B aL b (zml y) M.2.2.2 n1) (fun y' n' a' M' Q' q => zsound l D X B aL b d y' n' a' M' Q' q) (fun pc st L M' q => zSL_ok _ pc (zSA_ok _ hcl pc) st L M' q)
    have hl := lv_entry (a.map (zdn B aL b)) (n := zml y) (by rw [zlg_len]; exact k4)
    rw [lg_entry_eq]
    have hW := hAt s.heap [] _ (Nat.le_refl _) k1 hP va_S.rf (zent_LH k4 hl)
    rw [Nat.sub_self, Nat.sub_self] at hW
    exact hW
