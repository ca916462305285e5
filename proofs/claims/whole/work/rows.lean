section
-- ===== PART A: goes FIRST, ahead of the names: the tables' words, and 'selects' of the private methods out of them =====
/-- a private method of a class that the tables say can be made, by its rows of tables_1 -/
def lw_okq (q : MethodName × Nat) : Prop := (q.1.cls ≠ "java/lang/invoke/MethodHandle" ∧ q.1.cls ≠ "java/lang/invoke/VarHandle") ∧ Cond.instantiable q.1.cls q.2 ∈ tables_1 ∧ Cond.privateMethod q.1 ∈ tables_1 ∧ Cond.instanceMethod q.1 ∈ tables_1
theorem lw_p0 : lw_okq (⟨"TideTablePainters", "showsThisDay", "(LTideTablePainters$Pier;)Z"⟩, 11) := ⟨⟨by decide +kernel, by decide +kernel⟩, List.mem_of_getElem? (i := 17) (by decide +kernel), List.mem_of_getElem? (i := 146) (by decide +kernel), List.mem_of_getElem? (i := 147) (by decide +kernel)⟩
theorem lw_p1 : lw_okq (⟨"java/lang/Throwable", "fillInStackTrace", "(I)Ljava/lang/Throwable;"⟩, 6) := ⟨⟨by decide +kernel, by decide +kernel⟩, List.mem_of_getElem? (i := 234) (by decide +kernel), List.mem_of_getElem? (i := 232) (by decide +kernel), List.mem_of_getElem? (i := 233) (by decide +kernel)⟩
theorem lw_p2 : lw_okq (⟨"TideTablePainters", "pierNumbered", "(I)LTideTablePainters$Pier;"⟩, 11) := ⟨⟨by decide +kernel, by decide +kernel⟩, List.mem_of_getElem? (i := 17) (by decide +kernel), List.mem_of_getElem? (i := 404) (by decide +kernel), List.mem_of_getElem? (i := 405) (by decide +kernel)⟩
theorem lw_p3 : lw_okq (⟨"TideTablePainters", "demandPier", "(I)V"⟩, 11) := ⟨⟨by decide +kernel, by decide +kernel⟩, List.mem_of_getElem? (i := 17) (by decide +kernel), List.mem_of_getElem? (i := 408) (by decide +kernel), List.mem_of_getElem? (i := 409) (by decide +kernel)⟩
theorem lw_p4 : lw_okq (⟨"TideTablePainters", "fillTableWithWater", "(III)V"⟩, 11) := ⟨⟨by decide +kernel, by decide +kernel⟩, List.mem_of_getElem? (i := 17) (by decide +kernel), List.mem_of_getElem? (i := 443) (by decide +kernel), List.mem_of_getElem? (i := 444) (by decide +kernel)⟩
theorem lw_p5 : lw_okq (⟨"TideTablePainters", "reportsFor", "(II)LTideTablePainters$Reports;"⟩, 11) := ⟨⟨by decide +kernel, by decide +kernel⟩, List.mem_of_getElem? (i := 17) (by decide +kernel), List.mem_of_getElem? (i := 477) (by decide +kernel), List.mem_of_getElem? (i := 478) (by decide +kernel)⟩
theorem lw_p6 : lw_okq (⟨"TideTablePainters", "tinsOf", "(I)LTideTablePainters$Tins;"⟩, 11) := ⟨⟨by decide +kernel, by decide +kernel⟩, List.mem_of_getElem? (i := 17) (by decide +kernel), List.mem_of_getElem? (i := 590) (by decide +kernel), List.mem_of_getElem? (i := 591) (by decide +kernel)⟩
theorem lw_p7 : lw_okq (⟨"TideTablePainters", "ordersBefore", "(I)I"⟩, 11) := ⟨⟨by decide +kernel, by decide +kernel⟩, List.mem_of_getElem? (i := 17) (by decide +kernel), List.mem_of_getElem? (i := 633) (by decide +kernel), List.mem_of_getElem? (i := 634) (by decide +kernel)⟩
theorem lw_p8 : lw_okq (⟨"TideTablePainters", "comesBefore", "(II)Z"⟩, 11) := ⟨⟨by decide +kernel, by decide +kernel⟩, List.mem_of_getElem? (i := 17) (by decide +kernel), List.mem_of_getElem? (i := 637) (by decide +kernel), List.mem_of_getElem? (i := 638) (by decide +kernel)⟩
theorem lw_p9 : lw_okq (⟨"TideTablePainters", "pierOfOrder", "(I)I"⟩, 11) := ⟨⟨by decide +kernel, by decide +kernel⟩, List.mem_of_getElem? (i := 17) (by decide +kernel), List.mem_of_getElem? (i := 656) (by decide +kernel), List.mem_of_getElem? (i := 657) (by decide +kernel)⟩
theorem lw_p10 : lw_okq (⟨"TideTablePainters", "paintNextLine", "()Z"⟩, 11) := ⟨⟨by decide +kernel, by decide +kernel⟩, List.mem_of_getElem? (i := 17) (by decide +kernel), List.mem_of_getElem? (i := 667) (by decide +kernel), List.mem_of_getElem? (i := 668) (by decide +kernel)⟩
theorem lw_p11 : lw_okq (⟨"TideTablePainters", "beginFirstOrder", "()V"⟩, 11) := ⟨⟨by decide +kernel, by decide +kernel⟩, List.mem_of_getElem? (i := 17) (by decide +kernel), List.mem_of_getElem? (i := 671) (by decide +kernel), List.mem_of_getElem? (i := 672) (by decide +kernel)⟩
theorem lw_p12 : lw_okq (⟨"TideTablePainters", "tinsForLine", "(LTideTablePainters$Board;I)LTideTablePainters$Tins;"⟩, 11) := ⟨⟨by decide +kernel, by decide +kernel⟩, List.mem_of_getElem? (i := 17) (by decide +kernel), List.mem_of_getElem? (i := 680) (by decide +kernel), List.mem_of_getElem? (i := 681) (by decide +kernel)⟩
theorem lw_p13 : lw_okq (⟨"TideTablePainters", "boardWithLine", "(II)LTideTablePainters$Board;"⟩, 11) := ⟨⟨by decide +kernel, by decide +kernel⟩, List.mem_of_getElem? (i := 17) (by decide +kernel), List.mem_of_getElem? (i := 751) (by decide +kernel), List.mem_of_getElem? (i := 752) (by decide +kernel)⟩
theorem lw_p14 : lw_okq (⟨"TideTablePainters", "boardWithPaintedLine", "(II)LTideTablePainters$Board;"⟩, 11) := ⟨⟨by decide +kernel, by decide +kernel⟩, List.mem_of_getElem? (i := 17) (by decide +kernel), List.mem_of_getElem? (i := 763) (by decide +kernel), List.mem_of_getElem? (i := 764) (by decide +kernel)⟩
theorem lw_p15 : lw_okq (⟨"TideTablePaintersModel", "isGood", "(ZI)Z"⟩, 32) := ⟨⟨by decide +kernel, by decide +kernel⟩, List.mem_of_getElem? (i := 796) (by decide +kernel), List.mem_of_getElem? (i := 910) (by decide +kernel), List.mem_of_getElem? (i := 911) (by decide +kernel)⟩
def lw_privs_1 : List (MethodName × Nat) := [(⟨"TideTablePainters", "showsThisDay", "(LTideTablePainters$Pier;)Z"⟩, 11), (⟨"java/lang/Throwable", "fillInStackTrace", "(I)Ljava/lang/Throwable;"⟩, 6), (⟨"TideTablePainters", "pierNumbered", "(I)LTideTablePainters$Pier;"⟩, 11), (⟨"TideTablePainters", "demandPier", "(I)V"⟩, 11), (⟨"TideTablePainters", "fillTableWithWater", "(III)V"⟩, 11), (⟨"TideTablePainters", "reportsFor", "(II)LTideTablePainters$Reports;"⟩, 11), (⟨"TideTablePainters", "tinsOf", "(I)LTideTablePainters$Tins;"⟩, 11), (⟨"TideTablePainters", "ordersBefore", "(I)I"⟩, 11), (⟨"TideTablePainters", "comesBefore", "(II)Z"⟩, 11), (⟨"TideTablePainters", "pierOfOrder", "(I)I"⟩, 11), (⟨"TideTablePainters", "paintNextLine", "()Z"⟩, 11), (⟨"TideTablePainters", "beginFirstOrder", "()V"⟩, 11), (⟨"TideTablePainters", "tinsForLine", "(LTideTablePainters$Board;I)LTideTablePainters$Tins;"⟩, 11), (⟨"TideTablePainters", "boardWithLine", "(II)LTideTablePainters$Board;"⟩, 11), (⟨"TideTablePainters", "boardWithPaintedLine", "(II)LTideTablePainters$Board;"⟩, 11), (⟨"TideTablePaintersModel", "isGood", "(ZI)Z"⟩, 32)]
theorem lw_r1 : ∀ q ∈ lw_privs_1, lw_okq q := List.forall_mem_cons.mpr ⟨lw_p0, List.forall_mem_cons.mpr ⟨lw_p1, List.forall_mem_cons.mpr ⟨lw_p2, List.forall_mem_cons.mpr ⟨lw_p3, List.forall_mem_cons.mpr ⟨lw_p4, List.forall_mem_cons.mpr ⟨lw_p5, List.forall_mem_cons.mpr ⟨lw_p6, List.forall_mem_cons.mpr ⟨lw_p7, List.forall_mem_cons.mpr ⟨lw_p8, List.forall_mem_cons.mpr ⟨lw_p9, List.forall_mem_cons.mpr ⟨lw_p10, List.forall_mem_cons.mpr ⟨lw_p11, List.forall_mem_cons.mpr ⟨lw_p12, List.forall_mem_cons.mpr ⟨lw_p13, List.forall_mem_cons.mpr ⟨lw_p14, List.forall_mem_cons.mpr ⟨lw_p15, fun _ h => absurd h List.not_mem_nil⟩⟩⟩⟩⟩⟩⟩⟩⟩⟩⟩⟩⟩⟩⟩⟩
theorem lw_p16 : lw_okq (⟨"TideTablePaintersModel", "fail", "(I)I"⟩, 32) := ⟨⟨by decide +kernel, by decide +kernel⟩, List.mem_of_getElem? (i := 796) (by decide +kernel), List.mem_of_getElem? (i := 914) (by decide +kernel), List.mem_of_getElem? (i := 915) (by decide +kernel)⟩
theorem lw_p17 : lw_okq (⟨"TideTablePaintersModel", "passDay", "()V"⟩, 32) := ⟨⟨by decide +kernel, by decide +kernel⟩, List.mem_of_getElem? (i := 796) (by decide +kernel), List.mem_of_getElem? (i := 930) (by decide +kernel), List.mem_of_getElem? (i := 931) (by decide +kernel)⟩
theorem lw_p18 : lw_okq (⟨"TideTablePaintersModel", "dropReport", "(II)V"⟩, 32) := ⟨⟨by decide +kernel, by decide +kernel⟩, List.mem_of_getElem? (i := 796) (by decide +kernel), List.mem_of_getElem? (i := 934) (by decide +kernel), List.mem_of_getElem? (i := 935) (by decide +kernel)⟩
theorem lw_p19 : lw_okq (⟨"TideTablePaintersModel", "isPier", "(I)Z"⟩, 32) := ⟨⟨by decide +kernel, by decide +kernel⟩, List.mem_of_getElem? (i := 796) (by decide +kernel), List.mem_of_getElem? (i := 953) (by decide +kernel), List.mem_of_getElem? (i := 954) (by decide +kernel)⟩
theorem lw_p20 : lw_okq (⟨"TideTablePaintersModel", "range", "(II)I"⟩, 32) := ⟨⟨by decide +kernel, by decide +kernel⟩, List.mem_of_getElem? (i := 796) (by decide +kernel), List.mem_of_getElem? (i := 957) (by decide +kernel), List.mem_of_getElem? (i := 958) (by decide +kernel)⟩
theorem lw_p21 : lw_okq (⟨"TideTablePaintersModel", "findTable", "(II)V"⟩, 32) := ⟨⟨by decide +kernel, by decide +kernel⟩, List.mem_of_getElem? (i := 796) (by decide +kernel), List.mem_of_getElem? (i := 966) (by decide +kernel), List.mem_of_getElem? (i := 967) (by decide +kernel)⟩
theorem lw_p22 : lw_okq (⟨"TideTablePaintersModel", "behind", "(II)I"⟩, 32) := ⟨⟨by decide +kernel, by decide +kernel⟩, List.mem_of_getElem? (i := 796) (by decide +kernel), List.mem_of_getElem? (i := 970) (by decide +kernel), List.mem_of_getElem? (i := 971) (by decide +kernel)⟩
theorem lw_p23 : lw_okq (⟨"TideTablePaintersModel", "correction", "(I)I"⟩, 32) := ⟨⟨by decide +kernel, by decide +kernel⟩, List.mem_of_getElem? (i := 796) (by decide +kernel), List.mem_of_getElem? (i := 974) (by decide +kernel), List.mem_of_getElem? (i := 975) (by decide +kernel)⟩
theorem lw_p24 : lw_okq (⟨"TideTablePaintersModel", "isWater", "(III)Z"⟩, 32) := ⟨⟨by decide +kernel, by decide +kernel⟩, List.mem_of_getElem? (i := 796) (by decide +kernel), List.mem_of_getElem? (i := 982) (by decide +kernel), List.mem_of_getElem? (i := 983) (by decide +kernel)⟩
theorem lw_p25 : lw_okq (⟨"TideTablePaintersModel", "level", "(III)I"⟩, 32) := ⟨⟨by decide +kernel, by decide +kernel⟩, List.mem_of_getElem? (i := 796) (by decide +kernel), List.mem_of_getElem? (i := 990) (by decide +kernel), List.mem_of_getElem? (i := 991) (by decide +kernel)⟩
theorem lw_p26 : lw_okq (⟨"TideTablePaintersModel", "isPair", "(II)Z"⟩, 32) := ⟨⟨by decide +kernel, by decide +kernel⟩, List.mem_of_getElem? (i := 796) (by decide +kernel), List.mem_of_getElem? (i := 1006) (by decide +kernel), List.mem_of_getElem? (i := 1007) (by decide +kernel)⟩
theorem lw_p27 : lw_okq (⟨"TideTablePaintersModel", "placeOf", "(II)I"⟩, 32) := ⟨⟨by decide +kernel, by decide +kernel⟩, List.mem_of_getElem? (i := 796) (by decide +kernel), List.mem_of_getElem? (i := 1010) (by decide +kernel), List.mem_of_getElem? (i := 1011) (by decide +kernel)⟩
theorem lw_p28 : lw_okq (⟨"TideTablePaintersModel", "ofReport", "([III)I"⟩, 32) := ⟨⟨by decide +kernel, by decide +kernel⟩, List.mem_of_getElem? (i := 796) (by decide +kernel), List.mem_of_getElem? (i := 1040) (by decide +kernel), List.mem_of_getElem? (i := 1041) (by decide +kernel)⟩
theorem lw_p29 : lw_okq (⟨"TideTablePaintersModel", "isColour", "(I)Z"⟩, 32) := ⟨⟨by decide +kernel, by decide +kernel⟩, List.mem_of_getElem? (i := 796) (by decide +kernel), List.mem_of_getElem? (i := 1056) (by decide +kernel), List.mem_of_getElem? (i := 1057) (by decide +kernel)⟩
theorem lw_p30 : lw_okq (⟨"TideTablePaintersModel", "ahead", "(I)I"⟩, 32) := ⟨⟨by decide +kernel, by decide +kernel⟩, List.mem_of_getElem? (i := 796) (by decide +kernel), List.mem_of_getElem? (i := 1084) (by decide +kernel), List.mem_of_getElem? (i := 1085) (by decide +kernel)⟩
theorem lw_p31 : lw_okq (⟨"TideTablePaintersModel", "isAhead", "(II)Z"⟩, 32) := ⟨⟨by decide +kernel, by decide +kernel⟩, List.mem_of_getElem? (i := 796) (by decide +kernel), List.mem_of_getElem? (i := 1088) (by decide +kernel), List.mem_of_getElem? (i := 1089) (by decide +kernel)⟩
def lw_privs_2 : List (MethodName × Nat) := [(⟨"TideTablePaintersModel", "fail", "(I)I"⟩, 32), (⟨"TideTablePaintersModel", "passDay", "()V"⟩, 32), (⟨"TideTablePaintersModel", "dropReport", "(II)V"⟩, 32), (⟨"TideTablePaintersModel", "isPier", "(I)Z"⟩, 32), (⟨"TideTablePaintersModel", "range", "(II)I"⟩, 32), (⟨"TideTablePaintersModel", "findTable", "(II)V"⟩, 32), (⟨"TideTablePaintersModel", "behind", "(II)I"⟩, 32), (⟨"TideTablePaintersModel", "correction", "(I)I"⟩, 32), (⟨"TideTablePaintersModel", "isWater", "(III)Z"⟩, 32), (⟨"TideTablePaintersModel", "level", "(III)I"⟩, 32), (⟨"TideTablePaintersModel", "isPair", "(II)Z"⟩, 32), (⟨"TideTablePaintersModel", "placeOf", "(II)I"⟩, 32), (⟨"TideTablePaintersModel", "ofReport", "([III)I"⟩, 32), (⟨"TideTablePaintersModel", "isColour", "(I)Z"⟩, 32), (⟨"TideTablePaintersModel", "ahead", "(I)I"⟩, 32), (⟨"TideTablePaintersModel", "isAhead", "(II)Z"⟩, 32)]
theorem lw_r2 : ∀ q ∈ lw_privs_2, lw_okq q := List.forall_mem_cons.mpr ⟨lw_p16, List.forall_mem_cons.mpr ⟨lw_p17, List.forall_mem_cons.mpr ⟨lw_p18, List.forall_mem_cons.mpr ⟨lw_p19, List.forall_mem_cons.mpr ⟨lw_p20, List.forall_mem_cons.mpr ⟨lw_p21, List.forall_mem_cons.mpr ⟨lw_p22, List.forall_mem_cons.mpr ⟨lw_p23, List.forall_mem_cons.mpr ⟨lw_p24, List.forall_mem_cons.mpr ⟨lw_p25, List.forall_mem_cons.mpr ⟨lw_p26, List.forall_mem_cons.mpr ⟨lw_p27, List.forall_mem_cons.mpr ⟨lw_p28, List.forall_mem_cons.mpr ⟨lw_p29, List.forall_mem_cons.mpr ⟨lw_p30, List.forall_mem_cons.mpr ⟨lw_p31, fun _ h => absurd h List.not_mem_nil⟩⟩⟩⟩⟩⟩⟩⟩⟩⟩⟩⟩⟩⟩⟩⟩
theorem lw_p32 : lw_okq (⟨"TideTablePaintersModel", "waitingAt", "(I)I"⟩, 32) := ⟨⟨by decide +kernel, by decide +kernel⟩, List.mem_of_getElem? (i := 796) (by decide +kernel), List.mem_of_getElem? (i := 1104) (by decide +kernel), List.mem_of_getElem? (i := 1105) (by decide +kernel)⟩
theorem lw_p33 : lw_okq (⟨"TideTablePaintersModel", "paintLine", "()Z"⟩, 32) := ⟨⟨by decide +kernel, by decide +kernel⟩, List.mem_of_getElem? (i := 796) (by decide +kernel), List.mem_of_getElem? (i := 1120) (by decide +kernel), List.mem_of_getElem? (i := 1121) (by decide +kernel)⟩
theorem lw_p34 : lw_okq (⟨"TideTablePaintersModel", "begin", "(I)V"⟩, 32) := ⟨⟨by decide +kernel, by decide +kernel⟩, List.mem_of_getElem? (i := 796) (by decide +kernel), List.mem_of_getElem? (i := 1124) (by decide +kernel), List.mem_of_getElem? (i := 1125) (by decide +kernel)⟩
theorem lw_p35 : lw_okq (⟨"TideTablePaintersModel", "take", "(II)Z"⟩, 32) := ⟨⟨by decide +kernel, by decide +kernel⟩, List.mem_of_getElem? (i := 796) (by decide +kernel), List.mem_of_getElem? (i := 1128) (by decide +kernel), List.mem_of_getElem? (i := 1129) (by decide +kernel)⟩
theorem lw_p36 : lw_okq (⟨"TideTablePaintersModel", "dropOldest", "(I)V"⟩, 32) := ⟨⟨by decide +kernel, by decide +kernel⟩, List.mem_of_getElem? (i := 796) (by decide +kernel), List.mem_of_getElem? (i := 1132) (by decide +kernel), List.mem_of_getElem? (i := 1133) (by decide +kernel)⟩
theorem lw_p37 : lw_okq (⟨"TideTablePaintersModel", "makeReadable", "(I)V"⟩, 32) := ⟨⟨by decide +kernel, by decide +kernel⟩, List.mem_of_getElem? (i := 796) (by decide +kernel), List.mem_of_getElem? (i := 1136) (by decide +kernel), List.mem_of_getElem? (i := 1137) (by decide +kernel)⟩
theorem lw_p38 : lw_okq (⟨"TideTablePaintersModel", "drip", "(I)V"⟩, 32) := ⟨⟨by decide +kernel, by decide +kernel⟩, List.mem_of_getElem? (i := 796) (by decide +kernel), List.mem_of_getElem? (i := 1140) (by decide +kernel), List.mem_of_getElem? (i := 1141) (by decide +kernel)⟩
theorem lw_p39 : lw_okq (⟨"TideTablePaintersModel", "isLine", "(II)Z"⟩, 32) := ⟨⟨by decide +kernel, by decide +kernel⟩, List.mem_of_getElem? (i := 796) (by decide +kernel), List.mem_of_getElem? (i := 1164) (by decide +kernel), List.mem_of_getElem? (i := 1165) (by decide +kernel)⟩
theorem lw_p40 : lw_okq (⟨"TideTablePaintersModel", "ofLine", "([III)I"⟩, 32) := ⟨⟨by decide +kernel, by decide +kernel⟩, List.mem_of_getElem? (i := 796) (by decide +kernel), List.mem_of_getElem? (i := 1172) (by decide +kernel), List.mem_of_getElem? (i := 1173) (by decide +kernel)⟩
theorem lw_p41 : lw_okq (⟨"TideTablePaintersModel", "unreadable", "(I)I"⟩, 32) := ⟨⟨by decide +kernel, by decide +kernel⟩, List.mem_of_getElem? (i := 796) (by decide +kernel), List.mem_of_getElem? (i := 1188) (by decide +kernel), List.mem_of_getElem? (i := 1189) (by decide +kernel)⟩
theorem lw_p42 : lw_okq (⟨"TideTablePaintersModel", "right", "(I)Z"⟩, 32) := ⟨⟨by decide +kernel, by decide +kernel⟩, List.mem_of_getElem? (i := 796) (by decide +kernel), List.mem_of_getElem? (i := 1196) (by decide +kernel), List.mem_of_getElem? (i := 1197) (by decide +kernel)⟩
def lw_privs_3 : List (MethodName × Nat) := [(⟨"TideTablePaintersModel", "waitingAt", "(I)I"⟩, 32), (⟨"TideTablePaintersModel", "paintLine", "()Z"⟩, 32), (⟨"TideTablePaintersModel", "begin", "(I)V"⟩, 32), (⟨"TideTablePaintersModel", "take", "(II)Z"⟩, 32), (⟨"TideTablePaintersModel", "dropOldest", "(I)V"⟩, 32), (⟨"TideTablePaintersModel", "makeReadable", "(I)V"⟩, 32), (⟨"TideTablePaintersModel", "drip", "(I)V"⟩, 32), (⟨"TideTablePaintersModel", "isLine", "(II)Z"⟩, 32), (⟨"TideTablePaintersModel", "ofLine", "([III)I"⟩, 32), (⟨"TideTablePaintersModel", "unreadable", "(I)I"⟩, 32), (⟨"TideTablePaintersModel", "right", "(I)Z"⟩, 32)]
theorem lw_r3 : ∀ q ∈ lw_privs_3, lw_okq q := List.forall_mem_cons.mpr ⟨lw_p32, List.forall_mem_cons.mpr ⟨lw_p33, List.forall_mem_cons.mpr ⟨lw_p34, List.forall_mem_cons.mpr ⟨lw_p35, List.forall_mem_cons.mpr ⟨lw_p36, List.forall_mem_cons.mpr ⟨lw_p37, List.forall_mem_cons.mpr ⟨lw_p38, List.forall_mem_cons.mpr ⟨lw_p39, List.forall_mem_cons.mpr ⟨lw_p40, List.forall_mem_cons.mpr ⟨lw_p41, List.forall_mem_cons.mpr ⟨lw_p42, fun _ h => absurd h List.not_mem_nil⟩⟩⟩⟩⟩⟩⟩⟩⟩⟩⟩
def lw_privs : List (MethodName × Nat) := lw_privs_1 ++ (lw_privs_2 ++ (lw_privs_3))
def lw_tbl : List Cond := k2_sels lw_privs ++ tables_1
theorem lw_privs_ok : ∀ q ∈ lw_privs, lw_okq q := by
  show ∀ q ∈ lw_privs_1 ++ (lw_privs_2 ++ (lw_privs_3)), lw_okq q
  exact List.forall_mem_append.mpr ⟨lw_r1, List.forall_mem_append.mpr ⟨lw_r2, lw_r3⟩⟩
/-! ===== BEGIN words of one list among another's, by their places ===== -/
theorem goodIn_r {big : List Cond} (ws : List Cond) (ps : List Nat) (hp : ws = ps.filterMap (fun i => big[i]?)) (h : ws.all goodWord = true) : GoodIn big ws := by
  intro w hw
  have h1 := List.all_eq_true.mp h w hw
  rw [hp] at hw
  obtain ⟨i, -, hi⟩ := List.mem_filterMap.mp hw
  have hm : w ∈ big := by first | exact List.mem_of_getElem? hi | exact List.getElem?_mem hi
  exact ⟨hm, good_of_word h1⟩
theorem goodIn_app {big a b : List Cond} (ha : GoodIn big a) (hb : GoodIn big b) : GoodIn big (a ++ b) := fun w h => (List.mem_append.mp h).elim (ha w) (hb w)
theorem goodIn_ca {big a b : List Cond} {c : Cond} (ha : GoodIn big (c :: a)) (hb : GoodIn big b) : GoodIn big (c :: (a ++ b)) := fun w h => (List.mem_cons.mp h).elim (fun e => ha w (List.mem_cons.mpr (Or.inl e))) (fun h => (List.mem_append.mp h).elim (fun h => ha w (List.mem_cons.mpr (Or.inr h))) (hb w))
theorem goodIn_sub {big ws : List Cond} (hm : ∀ w ∈ ws, w ∈ big) (h : ws.all goodWord = true) : GoodIn big ws := fun w hw => ⟨hm w hw, good_of_word (List.all_eq_true.mp h w hw)⟩
/-! ===== END ===== -/

/-! ===== BEGIN exceptions that leave a method, and their catching by the caller (launches without stack traces) ===== -/
section VXA
/-! The laws vx_back, vx_callV, vx_callS, vx_callSW, vx_throw0, vx_throwS follow proofs of the library, with one case more: JvmDerived/Free/Laws.lean (Back.of_free), Shelf42/LK1.lean (callV, callS), Shelf/KitTraced.lean (throwNew0V, throwNewS). -/
/-- where a method has thrown q: the class by its name, the cell, what was written, the world -/
def vx_T (XC : String → State → State → Prop) (st : State) (q : Addr) (t : State) (mc ms : Nat) (free : Addr → Prop) : Prop :=
  ∃ (E : String) (ce : Cell) (L : List Loc), XC E st t ∧ t.heap[q]? = some ce ∧ ce.vm = .none ∧ st.vm.findClass E = some ce.cls ∧ st.WarmedH t.vm ∧ st.sameButNew ({ t with vm := st.vm } : State) L mc ms ∧ ∀ z ∈ L, free z.base
def vx_Q (Qc : Array Value → State → Outcome → State → Prop) (XC : String → State → State → Prop) (mc ms : Nat) (free : Addr → Prop) : Array Value → State → Outcome → State → Prop := fun a st o t =>
  (Qc a st o t ∧ ∃ L, FrameEnd st o t L mc ms ∧ ∀ q ∈ L, free q.base) ∨ ∃ q, o = .threw q ∧ vx_T XC st q t mc ms free
/-- a callee that returns or throws -/
def vx_Met (l : Launch) (y : MethodName) (ws : List Cond) (rm : Room) (Pc : Array Value → State → Prop) (Qc : Array Value → State → Outcome → State → Prop) (XC : String → State → State → Prop) (mc ms : Nat) (free : Addr → Prop) : Prop :=
  MetFree l y (headSpec ws rm) Pc (fun _ _ _ _ _ => True) (vx_Q Qc XC mc ms free)
def vx_Post (XC : String → State → State → Prop) (mc ms : Nat) (free : Addr → Prop) : Pt → Array Value → Addr → Pt → Prop := fun A a q B =>
  ∃ (g : JFrame) (mk : MethodId) (t : State) (L : List Loc) (E : String) (ce : Cell), B.U.heap = t.heap ∧ B.U.vm = t.vm ∧ XC E (A.U.calling g mk a) t ∧ t.heap[q]? = some ce ∧ ce.vm = .none ∧ A.U.vm.findClass E = some ce.cls ∧ B.locs = A.locs ++ L ∧ (∀ z ∈ L, free z.base) ∧ B.cells = A.cells + mc ∧ B.slots = A.slots + ms
def vx_Back (l : Launch) (R : Room) (p : Program) (e : Env) (below : List Frame) (s : State) (sargs : Array Value) (y : MethodName) (len W9 : Nat)
    (Pre : Pt → Array Value → Prop) (Post : Pt → Array Value → Option Value → Pt → Prop) (PostX : Pt → Array Value → Addr → Pt → Prop) : Prop :=
  ∀ (m : MethodId) (meth : Method) (c : Code) (A : Pt) (g : JFrame) (ig : Instr) (mk : MethodId) (a : Array Value),
    Stand p l e R s m sargs below meth c A.U A.locs A.cells A.slots → g.method = m → g.locals.size = c.maxLocals → decode c.code g.pc = .ok (ig, len) →
    2 * g.monitorRoom + (g.stack.map fun v => v.category).sum ≤ W9 → A.U.methodNamed? y = some mk → Pre A a →
    (∃ (v : Option Value) (B : Pt), Stand p l e R s m sargs below meth c B.U B.locs B.cells B.slots ∧ Post A a v B ∧
      Steps p.tables e below (doInvoke e (A.U.setTop g) [] mk a).1 (B.U.setTop { g with pc := g.pc + len, stack := v.toList ++ g.stack })) ∨
    (∃ (q : Addr) (B : Pt), Stand p l e R s m sargs below meth c B.U B.locs B.cells B.slots ∧ PostX A a q B ∧
      Steps p.tables e below (doInvoke e (A.U.setTop g) [] mk a).1 ((B.U.setTop g).pushFrame (.throwing q)))
section Payer
variable {l : Launch} {R : Room} {p : Program} {e : Env} {below : List Frame} {s : State} {sargs : Array Value} {y : MethodName} {len W9 : Nat}
theorem vx_back {ws : List Cond} {rm : Room} {Pc : Array Value → State → Prop} {Qc : Array Value → State → Outcome → State → Prop} {XC : String → State → State → Prop} {mc ms : Nat} {free : Addr → Prop} {bytes : ByteArray} {maxL : Nat} {ret : Option FieldType}
    (hM : vx_Met l y ws rm Pc Qc XC mc ms free) (hblind : FrameBlind Pc) (hrc : rm.cells = mc) (hrs : rm.slots = ms)
    (hframes : rm.frames + 1 ≤ R.frames) (hlocals : W9 + (maxL + 11) + rm.locals ≤ R.locals)
    (hws : ∀ w ∈ ws, ∀ a' U, s.WarmedH U.vm → w.before a' U = true) (hcode : Cond.code y bytes maxL ret ∈ ws) (hinit : ∀ a' U, s.WarmedH U.vm → (Cond.initialized y.cls).before a' U = true) :
    vx_Back l R p e below s sargs y len W9 (PreOf R mc ms Pc) (PostOf Qc mc ms free) (vx_Post XC mc ms free) := by
  intro m meth c A g ig mk a X hg hsize hdg hW hn hp
  have h1 : (headSpec ws rm).pre.before a A.U = true := atoms_intro fun w hw => hws w hw _ _ X.warmed
  have h2 : (Cond.code y bytes maxL ret).before a A.U = true := hws _ hcode _ _ X.warmed
  have h3 : (Cond.initialized y.cls).before a A.U = true := hinit _ _ X.warmed
  have h4 : A.cells + (headSpec ws rm).room.cells ≤ R.cells := by rw [show (headSpec ws rm).room.cells = mc from hrc]; exact hp.1
  have h5 : A.slots + (headSpec ws rm).room.slots ≤ R.slots := by rw [show (headSpec ws rm).room.slots = ms from hrs]; exact hp.2.1
  have hPc : Pc a (A.U.calling g mk a) := hblind _ _ _ _ hp.2.2
  obtain ⟨U, Ls, c0, s0⟩ := A
  dsimp only [Pt.U, Pt.locs, Pt.cells, Pt.slots] at h1 h2 h3 h4 h5 X hn hPc ⊢
  obtain ⟨methY, cY, hmY, hcY, -, hlY, -, -, -, -⟩ := Cond.code_spec hn h2
  obtain ⟨kY, hkY, -⟩ := className_of_methodNamed hn
  have hinitY : kY.init = .initialized := Cond.initialized_spec (findClass_of_methodNamed hn) hkY h3
  have h : At U g.method c below := by rw [hg]; exact X.here
  have hlocals9 : W9 + (maxL + 11) + (headSpec ws rm).room.locals ≤ R.locals := hlocals
  have happ : (headSpec ws rm).appliesLoose y e.platform (U.calling g mk a) = true :=
    Spec.appliesLoose_calling (g := g) h hdg hn hkY hinitY
      (X.room_calling (g := g) (R' := (headSpec ws rm).room) hsize hmY hcY hframes (by rw [hlY]; omega) h4 h5) h1
  obtain ⟨mid, hmid⟩ := h.above
  have hfr : (U.setTop g).frames = (.java g :: mid) ++ below := by rw [State.frames_setTop' g h.top, hmid]; rfl
  obtain ⟨o, s₂, hsteps, -, hend, hq⟩ := Steps.callFree hM p X.admits X.cas X.clock (acts := []) hfr happ hPc trivial
  have hq' : vx_Q Qc XC mc ms free a (U.calling g mk a) o s₂ := hq
  rw [State.frames_setTop' g h.top] at hend
  obtain ⟨g₀, hg0⟩ := Option.isSome_iff_exists.mp h.top
  obtain ⟨r, hr⟩ := State.topJava?_eq_some.mp hg0
  have hr' : (({ U with heap := s₂.heap, slotsUsed := s₂.slotsUsed } : State).setVm s₂.vm).frames = .java g₀ :: r := hr
  rcases hq' with ⟨hqc, L, hfe, hL⟩ | ⟨q, rfl, E, ce, L, hx, hce, hcv, hcl, hW₂, hsm, hL⟩
  · obtain ⟨⟨v, rfl⟩, hW₂, e2, q2, q3, q4, q5, q6⟩ := id hfe
    have e3 : s₂ = ({ (U.calling g mk a).setFrames s₂.frames with heap := s₂.heap, slotsUsed := s₂.slotsUsed } : State).setVm s₂.vm := by
      have : s₂ = ({ s₂ with vm := (U.calling g mk a).vm } : State).setVm s₂.vm := rfl
      rw [e2] at this
      exact this
    obtain ⟨c₂, i₂, len₂, hc₂, hd₂, hf₂⟩ := hend
    have hW' : U.WarmedH s₂.vm := hW₂
    have hcc : c₂ = c := by
      have h1 : s₂.code? g.method = U.code? g.method := by
        rw [State.code?_eq, State.code?_eq, hW'.alike.method?]
      exact Option.some.inj (hc₂.symm.trans (h1.trans h.code))
    subst hcc
    have hlen : len₂ = len := by rw [hdg] at hd₂; cases hd₂; rfl
    subst hlen
    have hs₂ : s₂ = (({ U with heap := s₂.heap, slotsUsed := s₂.slotsUsed } : State).setVm s₂.vm).setTop { g with pc := g.pc + len₂, stack := v.toList ++ g.stack } := by
      refine e3.trans ?_
      rw [hf₂, State.calling_eq h.top, State.setFrames_setFrames, State.setTop_of_frames _ hr', hr]
      rfl
    have hsame : U.sameButNew ({ U with heap := s₂.heap, slotsUsed := s₂.slotsUsed } : State) L mc ms := by
      refine ⟨?_, q2, q3, q4, q5, q6⟩
      obtain ⟨t, ht, -⟩ := State.frames_cons hr
      show ({ U with heap := s₂.heap, slotsUsed := s₂.slotsUsed } : State) = { U.setFrames U.frames with heap := s₂.heap, slotsUsed := s₂.slotsUsed }
      rw [State.setFrames_self ht]
    subst hg
    refine Or.inl ⟨v, ⟨(({ U with heap := s₂.heap, slotsUsed := s₂.slotsUsed } : State).setVm s₂.vm), Ls ++ L, c0 + mc, s0 + ms⟩,
      ⟨X.admits, X.cas, X.clock, X.frames, X.room, X.hears, X.method, X.code, (X.here.setHeapUsed s₂.heap s₂.slotsUsed).setVm hW'.alike, X.tail, State.WarmedH.trans X.warmed hW', X.limits, X.bytes, X.same.trans (hsame.setVm s.vm)⟩,
      ⟨g, mk, s₂, L, rfl, rfl, hqc, rfl, hL, rfl, rfl⟩, ?_⟩
    show Steps p.tables e below _ ((({ U with heap := s₂.heap, slotsUsed := s₂.slotsUsed } : State).setVm s₂.vm).setTop { g with pc := g.pc + len₂, stack := v.toList ++ g.stack })
    rw [← hs₂]
    exact hsteps
  · obtain ⟨e2, q2, q3, q4, q5, q6⟩ := id hsm
    have e3 : s₂ = ({ (U.calling g mk a).setFrames s₂.frames with heap := s₂.heap, slotsUsed := s₂.slotsUsed } : State).setVm s₂.vm := by
      have : s₂ = ({ s₂ with vm := (U.calling g mk a).vm } : State).setVm s₂.vm := rfl
      rw [e2] at this
      exact this
    have hf₂ : s₂.frames = .throwing q :: .java g :: U.frames.tail := hend
    have hW' : U.WarmedH s₂.vm := hW₂
    have hs₂ : s₂ = ((({ U with heap := s₂.heap, slotsUsed := s₂.slotsUsed } : State).setVm s₂.vm).setTop g).pushFrame (.throwing q) := by
      refine e3.trans ?_
      rw [hf₂, State.calling_eq h.top, State.setFrames_setFrames, State.pushFrame, State.frames_setTop _ hr', State.setTop_of_frames _ hr', State.setFrames_setFrames, hr]
      rfl
    have hsame : U.sameButNew ({ U with heap := s₂.heap, slotsUsed := s₂.slotsUsed } : State) L mc ms := by
      refine ⟨?_, q2, q3, q4, q5, q6⟩
      obtain ⟨t, ht, -⟩ := State.frames_cons hr
      show ({ U with heap := s₂.heap, slotsUsed := s₂.slotsUsed } : State) = { U.setFrames U.frames with heap := s₂.heap, slotsUsed := s₂.slotsUsed }
      rw [State.setFrames_self ht]
    subst hg
    refine Or.inr ⟨q, ⟨(({ U with heap := s₂.heap, slotsUsed := s₂.slotsUsed } : State).setVm s₂.vm), Ls ++ L, c0 + mc, s0 + ms⟩,
      ⟨X.admits, X.cas, X.clock, X.frames, X.room, X.hears, X.method, X.code, (X.here.setHeapUsed s₂.heap s₂.slotsUsed).setVm hW'.alike, X.tail, State.WarmedH.trans X.warmed hW', X.limits, X.bytes, X.same.trans (hsame.setVm s.vm)⟩,
      ⟨g, mk, s₂, L, E, ce, rfl, rfl, hx, hce, hcv, hcl, rfl, hL, rfl, rfl⟩, ?_⟩
    show Steps p.tables e below _ (((({ U with heap := s₂.heap, slotsUsed := s₂.slotsUsed } : State).setVm s₂.vm).setTop g).pushFrame (.throwing q))
    rw [← hs₂]
    exact hsteps
end Payer
section Calls
variable {p : Program} {l : Launch} {e : Env} {R : Room} {s : State} {m : MethodId} {args : Array Value} {below : List Frame} {meth : Method} {c : Code} {T : State} {locs : List Loc} {cells slots : Nat}
theorem vx_callV (X : Stand p l e R s m args below meth c T locs cells slots) (hexec : p.tables.exec = Jvm.exec) {own C : String} {index : Nat} {y : MethodName} {bytes : ByteArray} {maxL : Nat} {ret : Option FieldType}
    (hown : s.vm.findClass own = some m.cls) (hlink : (Cond.methodLink own index y).before args s = true) (hinst : (Cond.instanceMethod y).before args s = true) (hsel : (Cond.selects C y y).before args s = true)
    (hcode : (Cond.code y bytes maxL ret).before args s = true) (hy : y.cls ≠ "java/lang/invoke/MethodHandle" ∧ y.cls ≠ "java/lang/invoke/VarHandle")
    {W9 : Nat} {Pre : Pt → Array Value → Prop} {Post : Pt → Array Value → Option Value → Pt → Prop} {PostX : Pt → Array Value → Addr → Pt → Prop} (hK : vx_Back l R p e below s args y 3 W9 Pre Post PostX)
    {b : Addr} {cellB : Cell} (hcell : T.heap[b]? = some cellB) (hobj : cellB.vm.isStatics = false) (hcls : s.vm.findClass C = some cellB.cls)
    {g : JFrame} (hg : g.method = m) (hsize : g.locals.size = c.maxLocals) {argsL rest : List Value} (hlen : ∀ sig, parseMethodDescriptor y.desc = some sig → argsL.length = sig.parameters.length)
    (hstack : g.stack = argsL.reverse ++ .ref b :: rest) (hW : 2 * g.monitorRoom + (rest.map fun v => v.category).sum ≤ W9) (hdg : decode c.code g.pc = .ok (.invokevirtual index, 3))
    (hpre : ∀ vm₁, s.WarmedH vm₁ → Pre ⟨T.setVm vm₁, locs, cells, slots⟩ (Value.ref b :: argsL).toArray) :
    (∃ (v : Option Value) (vm₁ : Vm) (B : Pt), s.WarmedH vm₁ ∧ Stand p l e R s m args below meth c B.U B.locs B.cells B.slots ∧ Post ⟨T.setVm vm₁, locs, cells, slots⟩ (Value.ref b :: argsL).toArray v B ∧
      ∀ target, Steps p.tables e below (B.U.setTop { g with pc := g.pc + 3, stack := v.toList ++ rest }) target → Steps p.tables e below (T.setTop g) target) ∨
    (∃ (q : Addr) (vm₁ : Vm) (B : Pt), s.WarmedH vm₁ ∧ Stand p l e R s m args below meth c B.U B.locs B.cells B.slots ∧ PostX ⟨T.setVm vm₁, locs, cells, slots⟩ (Value.ref b :: argsL).toArray q B ∧
      Steps p.tables e below (T.setTop g) ((B.U.setTop { g with stack := rest }).pushFrame (.throwing q))) := by
  obtain ⟨mk, methM, hnamed, hmethM, hstM, habM⟩ := Cond.instanceMethod_spec hinst
  obtain ⟨methM', cM, hmethM', -, -, -, -, -, -, hsigM⟩ := Cond.code_spec hnamed hcode
  cases hmethM.symm.trans hmethM'
  obtain ⟨c2, r2, m2, q1, q2, q3, q4, kP, hkP, hkPi⟩ := Cond.selects_spec hsel
  cases hcls.symm.trans q1
  cases (State.methodFound?_of_named hnamed hy).symm.trans q2
  cases hnamed.symm.trans q3
  have hselP : selectMethod e.platform s.vm cellB.cls mk = .method mk := by rw [Launch.admits_selectMethod X.admits]; exact q4
  obtain ⟨vm₁, X₁, hstep₁⟩ := X.invokevirtual hexec hown hlink hnamed hmethM hstM hkP hkPi hy (a := b) (cell := cellB) hcell
    (fun z h => by rw [h] at hobj; cases hobj) hselP hmethM habM hkP hkPi (g := g) hg (argsL := argsL) (rest := rest) (hlen _ hsigM) hstack hdg
  rcases hK m meth c ⟨T.setVm vm₁, locs, cells, slots⟩ { g with stack := rest } (.invokevirtual index) mk (Value.ref b :: argsL).toArray X₁ hg hsize hdg hW (X₁.named hnamed) (hpre vm₁ X₁.warmed) with ⟨v, B, X', hpost, hsteps⟩ | ⟨q, B, X', hpost, hsteps⟩
  · exact Or.inl ⟨v, vm₁, B, X₁.warmed, X', hpost, fun target h => hstep₁ _ fun acts => by rw [doInvoke_state]; exact hsteps.trans h⟩
  · exact Or.inr ⟨q, vm₁, B, X₁.warmed, X', hpost, hstep₁ _ fun acts => by rw [doInvoke_state]; exact hsteps⟩
theorem vx_callS (X : Stand p l e R s m args below meth c T locs cells slots) (hexec : p.tables.exec = Jvm.exec) {own : String} {index : Nat} {y : MethodName} {bytes : ByteArray} {maxL : Nat} {ret : Option FieldType}
    (hown : s.vm.findClass own = some m.cls) (hlink : (Cond.methodLink own index y).before args s = true) (hstat : (Cond.static y).before args s = true) (hinit : (Cond.initialized y.cls).before args s = true)
    (hcode : (Cond.code y bytes maxL ret).before args s = true) (hy : y.cls ≠ "java/lang/invoke/MethodHandle" ∧ y.cls ≠ "java/lang/invoke/VarHandle")
    {W9 : Nat} {Pre : Pt → Array Value → Prop} {Post : Pt → Array Value → Option Value → Pt → Prop} {PostX : Pt → Array Value → Addr → Pt → Prop} (hK : vx_Back l R p e below s args y 3 W9 Pre Post PostX)
    {g : JFrame} (hg : g.method = m) (hsize : g.locals.size = c.maxLocals) {argsL rest : List Value} (hlen : ∀ sig, parseMethodDescriptor y.desc = some sig → argsL.length = sig.parameters.length)
    (hstack : g.stack = argsL.reverse ++ rest) (hW : 2 * g.monitorRoom + (rest.map fun v => v.category).sum ≤ W9) (hdg : decode c.code g.pc = .ok (.invokestatic index, 3))
    (hpre : ∀ vm₁, s.WarmedH vm₁ → Pre ⟨T.setVm vm₁, locs, cells, slots⟩ argsL.toArray) :
    (∃ (v : Option Value) (vm₁ : Vm) (B : Pt), s.WarmedH vm₁ ∧ Stand p l e R s m args below meth c B.U B.locs B.cells B.slots ∧ Post ⟨T.setVm vm₁, locs, cells, slots⟩ argsL.toArray v B ∧
      ∀ target, Steps p.tables e below (B.U.setTop { g with pc := g.pc + 3, stack := v.toList ++ rest }) target → Steps p.tables e below (T.setTop g) target) ∨
    (∃ (q : Addr) (vm₁ : Vm) (B : Pt), s.WarmedH vm₁ ∧ Stand p l e R s m args below meth c B.U B.locs B.cells B.slots ∧ PostX ⟨T.setVm vm₁, locs, cells, slots⟩ argsL.toArray q B ∧
      Steps p.tables e below (T.setTop g) ((B.U.setTop { g with stack := rest }).pushFrame (.throwing q))) := by
  obtain ⟨mk, hnamed⟩ := Cond.code_named hcode
  obtain ⟨methM, cM, hmethM, -, -, -, -, -, -, hsigM⟩ := Cond.code_spec hnamed hcode
  have hstatic : methM.isStatic = true := Cond.static_spec hnamed hmethM hstat
  obtain ⟨kP, hkP, -⟩ := className_of_methodNamed hnamed
  have hinitP : kP.init = .initialized := Cond.initialized_spec (findClass_of_methodNamed hnamed) hkP hinit
  obtain ⟨vm₁, X₁, hstep₁⟩ := X.invokestatic hexec hown hlink hnamed hmethM hstatic hkP hinitP hy (g := g) hg (argsL := argsL) (rest := rest) (hlen _ hsigM) hstack hdg
  rcases hK m meth c ⟨T.setVm vm₁, locs, cells, slots⟩ { g with stack := rest } (.invokestatic index) mk argsL.toArray X₁ hg hsize hdg hW (X₁.named hnamed) (hpre vm₁ X₁.warmed) with ⟨v, B, X', hpost, hsteps⟩ | ⟨q, B, X', hpost, hsteps⟩
  · exact Or.inl ⟨v, vm₁, B, X₁.warmed, X', hpost, fun target h => hstep₁ _ fun acts => by rw [doInvoke_state]; exact hsteps.trans h⟩
  · exact Or.inr ⟨q, vm₁, B, X₁.warmed, X', hpost, hstep₁ _ fun acts => by rw [doInvoke_state]; exact hsteps⟩
end Calls
theorem vx_cls {s : State} {T : State} {vm₁ : Vm} {E : String} {k : ClassId} (hW : s.WarmedH vm₁) (h : (T.setVm vm₁).vm.findClass E = some k) : s.vm.findClass E = some k := by
  have h1 : vm₁.findClass E = some k := h
  rw [hW.alike.findClass] at h1
  exact h1
/-- the method's frame g, with q thrown over it -/
def vx_W (p : Program) (l : Launch) (e : Env) (R : Room) (s : State) (m : MethodId) (args : Array Value) (below : List Frame) (meth : Method) (c : Code) (H : Heap) (locs : List Loc) (cells slots : Nat) (Q : State → Prop) (g : JFrame) (q : Addr) : Prop :=
  ∀ T : State, T.heap = H → Stand p l e R s m args below meth c T locs cells slots → ∃ t, Steps p.tables e below ((T.setTop g).pushFrame (.throwing q)) t ∧ Q t
def vx_Run (p : Program) (l : Launch) (e : Env) (R : Room) (s : State) (m : MethodId) (args : Array Value) (below : List Frame) (meth : Method) (c : Code) (H : Heap) (locs : List Loc) (cells slots mc ms : Nat) (g : JFrame) (rest : List Value) (Qa : State → Outcome → State → Prop) (XC : String → State → State → Prop) (free : Addr → Prop) : Prop :=
  ∀ T : State, T.heap = H → Stand p l e R s m args below meth c T locs cells slots →
    (∃ (v : Option Value) (st₀ t T' : State) (L : List Loc), st₀.heap = H ∧ Stand p l e R s m args below meth c T' (locs ++ L) (cells + mc) (slots + ms) ∧ (∀ q ∈ L, free q.base) ∧ T'.heap = t.heap ∧ T'.vm = t.vm ∧ Qa st₀ (.returned v) t ∧
      Goes p e below T g T' { g with pc := g.pc + 3, stack := v.toList ++ rest }) ∨
    (∃ (q : Addr) (st₀ t T' : State) (L : List Loc) (E : String) (ce : Cell), st₀.heap = H ∧ Stand p l e R s m args below meth c T' (locs ++ L) (cells + mc) (slots + ms) ∧ (∀ z ∈ L, free z.base) ∧ T'.heap = t.heap ∧ T'.vm = t.vm ∧ XC E st₀ t ∧ t.heap[q]? = some ce ∧ ce.vm = .none ∧ s.vm.findClass E = some ce.cls ∧
      Steps p.tables e below (T.setTop g) ((T'.setTop { g with stack := rest }).pushFrame (.throwing q)))
def vx_X {S : Type} (px : S → Prop) (B : String → S → State → Prop) (A : Nat → Prop) : String → State → State → Prop := fun E st t => ∃ u : S, px u ∧ B E u t ∧ va_F A st t
section Runs
variable {p : Program} {l : Launch} {e : Env} {R : Room} {s : State} {m : MethodId} {args : Array Value} {below : List Frame} {meth : Method} {c : Code} {H : Heap} {locs : List Loc} {cells slots : Nat}
variable {y : MethodName} {bytes cc : ByteArray} {maxL nL mc ms n index : Nat} {ret : Option FieldType} {ws : List Cond} {rm : Room} {Pc : Array Value → State → Prop} {Qc : Array Value → State → Outcome → State → Prop} {XC : String → State → State → Prop} {free : Addr → Prop} {Ts : List Cond} {own C : String} {b : Addr} {As rest : List Value} {g : JFrame}
theorem vx_callBack (cb : CallB R s args own index y bytes maxL ret ws rm mc ms n) (hM : vx_Met l y ws rm Pc Qc XC mc ms free) (hbl : FrameBlind Pc) : vx_Back l R p e below s args y 3 8 (PreOf R mc ms Pc) (PostOf Qc mc ms free) (vx_Post XC mc ms free) := by
  obtain ⟨hrc, hrs, hfr, hlo, hws, hcw, -, hini, -⟩ := cb
  exact vx_back (bytes := bytes) (maxL := maxL) (ret := ret) hM hbl hrc hrs hfr hlo hws hcw (fun a' U hW => word_at hW (Or.inl (by first | rfl | simp [Cond.onTables, Cond.keeps, Cond.steady])) hini)
theorem vx_runV (S : CallFix p m c cc nL s args Ts own) (hM : vx_Met l y ws rm Pc Qc XC mc ms free) (cw : CallW R s args own C index y bytes maxL ret ws rm mc ms n) (hp : PreV s H C b Pc As)
    (hg : g.method = m) (hn : As.length = n) (hsize : g.locals.size = nL) (hstack : g.stack = As.reverse ++ .ref b :: rest) (hW : 2 * g.monitorRoom + (rest.map fun v => v.category).sum ≤ 8) (hdg : decode cc g.pc = .ok (.invokevirtual index, 3)) (hf : cells + mc ≤ R.cells ∧ slots + ms ≤ R.slots) :
    vx_Run p l e R s m args below meth c H locs cells slots mc ms g rest (Qc (Value.ref b :: As).toArray) XC free := by
  have hK : vx_Back l R p e below s args y 3 8 (PreOf R mc ms Pc) (PostOf Qc mc ms free) (vx_Post XC mc ms free) := vx_callBack cw.1 hM hp.1
  obtain ⟨⟨-, -, -, -, -, -, hcode, -, hy, hlen, hl⟩, hin, hse⟩ := cw
  obtain ⟨hx, hb, hml, ho, -⟩ := S
  obtain ⟨-, ⟨cellB, hcB, hoB, hclB⟩, hPc⟩ := hp
  intro T hT X
  rcases vx_callV X hx (C := C) (bytes := bytes) (maxL := maxL) (ret := ret) ho hl hin hse hcode hy hK (by rw [hT]; exact hcB) hoB hclB hg (hsize.trans hml.symm) (argsL := As) (rest := rest) (fun sig h => hn.trans (hlen sig h)) hstack hW (by rw [hb]; exact hdg)
    (fun vm₁ hW₁ => ⟨hf.1, hf.2, hPc (T.setVm vm₁) hT hW₁⟩) with ⟨v, vm₁, ⟨U', l2, c2, s2⟩, hW₁, X', ⟨g', mk, t, L, e1, e2, hq, h1, hL, h2, h3⟩, st⟩ | ⟨q, vm₁, ⟨U', l2, c2, s2⟩, hW₁, X', ⟨g', mk, t, L, E, ce, e1, e2, hq, hce, hcv, hcl, h1, hL, h2, h3⟩, st⟩
  · dsimp only [Pt.U, Pt.locs, Pt.cells, Pt.slots] at X' e1 e2 h1 h2 h3 st
    subst h1; subst h2; subst h3
    exact Or.inl ⟨v, (T.setVm vm₁).calling g' mk (Value.ref b :: As).toArray, t, U', L, hT, X', hL, e1, e2, hq, st⟩
  · dsimp only [Pt.U, Pt.locs, Pt.cells, Pt.slots] at X' e1 e2 h1 h2 h3 st hcl
    subst h1; subst h2; subst h3
    exact Or.inr ⟨q, (T.setVm vm₁).calling g' mk (Value.ref b :: As).toArray, t, U', L, E, ce, hT, X', hL, e1, e2, hq, hce, hcv, vx_cls hW₁ hcl, st⟩
theorem vx_runS (S : CallFix p m c cc nL s args Ts own) (hM : vx_Met l y ws rm Pc Qc XC mc ms free) (cw : CallB R s args own index y bytes maxL ret ws rm mc ms n ∧ (Cond.static y).before args s = true) (hp : PreS s H Pc As)
    (hg : g.method = m) (hn : As.length = n) (hsize : g.locals.size = nL) (hstack : g.stack = As.reverse ++ rest) (hW : 2 * g.monitorRoom + (rest.map fun v => v.category).sum ≤ 8) (hdg : decode cc g.pc = .ok (.invokestatic index, 3)) (hf : cells + mc ≤ R.cells ∧ slots + ms ≤ R.slots) :
    vx_Run p l e R s m args below meth c H locs cells slots mc ms g rest (Qc As.toArray) XC free := by
  have hK : vx_Back l R p e below s args y 3 8 (PreOf R mc ms Pc) (PostOf Qc mc ms free) (vx_Post XC mc ms free) := vx_callBack cw.1 hM hp.1
  obtain ⟨⟨-, -, -, -, -, -, hcode, hini, hy, hlen, hl⟩, hstt⟩ := cw
  obtain ⟨hx, hb, hml, ho, -⟩ := S
  intro T hT X
  rcases vx_callS X hx (bytes := bytes) (maxL := maxL) (ret := ret) ho hl hstt hini hcode hy hK hg (hsize.trans hml.symm) (argsL := As) (rest := rest) (fun sig h => hn.trans (hlen sig h)) hstack hW (by rw [hb]; exact hdg)
    (fun vm₁ hW₁ => ⟨hf.1, hf.2, hp.2 (T.setVm vm₁) hT hW₁⟩) with ⟨v, vm₁, ⟨U', l2, c2, s2⟩, hW₁, X', ⟨g', mk, t, L, e1, e2, hq, h1, hL, h2, h3⟩, st⟩ | ⟨q, vm₁, ⟨U', l2, c2, s2⟩, hW₁, X', ⟨g', mk, t, L, E, ce, e1, e2, hq, hce, hcv, hcl, h1, hL, h2, h3⟩, st⟩
  · dsimp only [Pt.U, Pt.locs, Pt.cells, Pt.slots] at X' e1 e2 h1 h2 h3 st
    subst h1; subst h2; subst h3
    exact Or.inl ⟨v, (T.setVm vm₁).calling g' mk As.toArray, t, U', L, hT, X', hL, e1, e2, hq, st⟩
  · dsimp only [Pt.U, Pt.locs, Pt.cells, Pt.slots] at X' e1 e2 h1 h2 h3 st hcl
    subst h1; subst h2; subst h3
    exact Or.inr ⟨q, (T.setVm vm₁).calling g' mk As.toArray, t, U', L, E, ce, hT, X', hL, e1, e2, hq, hce, hcv, vx_cls hW₁ hcl, st⟩
end Runs
section Rows
variable {p : Program} {l : Launch} {e : Env} {R : Room} {s : State} {m : MethodId} {args : Array Value} {below : List Frame} {meth : Method} {c : Code} {H : Heap} {locs : List Loc} {cells slots : Nat} {Q : State → Prop}
variable {mc ms : Nat} {free : Addr → Prop} {A0 A1 : Nat → Prop} {H0 : Heap} {a : Array Value} {pc : Nat} {ls : Array Slot} {st0 rest : List Value}
theorem vx_keep {st₀ t T' : State} {L : List Loc} (h0 : st₀.heap = H) (e1 : T'.heap = t.heap) (hS : va_S A0 H0 H locs) (hA : ∀ q, q < H.size → A1 q → A0 q) (hf : ∀ q, free q → A0 q) (hL : ∀ q ∈ L, free q.base) (hF : va_F A1 st₀ t) :
    H.size ≤ T'.heap.size ∧ (∀ q : Nat, q < H.size → ¬ A1 q → T'.heap[q]? = H[q]?) ∧ va_S A0 H0 T'.heap (locs ++ L) := by
  obtain ⟨hz, hk⟩ := hF
  rw [h0] at hz hk
  exact ⟨by rw [e1]; exact hz, fun q h1 h2 => by rw [e1]; exact hk q h1 h2,
    ⟨Nat.le_trans hS.1 (by rw [e1]; exact hz), fun q h1 h2 => by rw [e1, hk q (Nat.lt_of_lt_of_le h1 hS.1) (fun z => h2 (hA q (Nat.lt_of_lt_of_le h1 hS.1) z))]; exact hS.2.1 q h1 h2, fun q hq => by
      rcases List.mem_append.mp hq with h | h
      · exact hS.2.2 q h
      · exact hf _ (hL q h)⟩⟩
theorem vx_calli {S SX : Type} {post : Int32 → S → Prop} {px : SX → Prop} {B : S → State → Prop} {BX : String → SX → State → Prop} {AX : Nat → Prop} (hr : vx_Run p l e R s m args below meth c H locs cells slots mc ms (F0 m pc ls st0) rest (va_Qi post B A1 a) (vx_X px BX AX) free) (hS : va_S A0 H0 H locs) (hA : ∀ q, q < H.size → A1 q → A0 q) (hf : ∀ q, free q → A0 q) (hAX : ∀ q, q < H.size → AX q → A0 q)
    (kx : ∀ (E : String) (ce : Cell) (q9 : Addr) (u : SX) (t : State) (H1 : Heap) (locs1 : List Loc), t.heap = H1 → s.vm.Alike t.vm → px u → BX E u t → H.size ≤ H1.size → (∀ q : Nat, q < H.size → ¬ AX q → H1[q]? = H[q]?) → va_S A0 H0 H1 locs1 → H1[q9]? = some ce → ce.vm = .none → s.vm.findClass E = some ce.cls → vx_W p l e R s m args below meth c H1 locs1 (cells + mc) (slots + ms) Q (F0 m pc ls rest) q9)
    (kk : ∀ (r : Int32) (u : S) (t : State) (H1 : Heap) (locs1 : List Loc), t.heap = H1 → s.vm.Alike t.vm → post r u → B u t → H.size ≤ H1.size → (∀ q : Nat, q < H.size → ¬ A1 q → H1[q]? = H[q]?) → va_S A0 H0 H1 locs1 → W p l e R s m args below meth c H1 locs1 (cells + mc) (slots + ms) Q (F0 m (pc + 3) ls (.int r :: rest))) : W p l e R s m args below meth c H locs cells slots Q (F0 m pc ls st0) := by
  intro T hT X
  rcases hr T hT X with ⟨v, st₀, t, T', L, h0, X', hL, e1, e2, ⟨⟨r, u, hv, hp, hb⟩, hF⟩, st⟩ | ⟨q, st₀, t, T', L, E, ce, h0, X', hL, e1, e2, ⟨u, hp, hb, hF⟩, hce, hcv, hcl, st⟩
  · cases hv
    obtain ⟨k1, k2, k3⟩ := vx_keep h0 e1 hS hA hf hL hF
    obtain ⟨t2, a1, b1⟩ := kk r u t T'.heap (locs ++ L) e1.symm (by rw [← e2]; exact X'.warmed.alike) hp hb k1 k2 k3 T' rfl X'
    exact ⟨t2, st t2 a1, b1⟩
  · obtain ⟨k1, k2, k3⟩ := vx_keep h0 e1 hS hAX hf hL hF
    obtain ⟨t2, a1, b1⟩ := kx E ce q u t T'.heap (locs ++ L) e1.symm (by rw [← e2]; exact X'.warmed.alike) hp hb k1 k2 k3 (by rw [e1]; exact hce) hcv hcl T' rfl X'
    exact ⟨t2, st.trans a1, b1⟩
theorem vx_calll {S SX : Type} {post : Int64 → S → Prop} {px : SX → Prop} {B : S → State → Prop} {BX : String → SX → State → Prop} {AX : Nat → Prop} (hr : vx_Run p l e R s m args below meth c H locs cells slots mc ms (F0 m pc ls st0) rest (va_Ql post B A1 a) (vx_X px BX AX) free) (hS : va_S A0 H0 H locs) (hA : ∀ q, q < H.size → A1 q → A0 q) (hf : ∀ q, free q → A0 q) (hAX : ∀ q, q < H.size → AX q → A0 q)
    (kx : ∀ (E : String) (ce : Cell) (q9 : Addr) (u : SX) (t : State) (H1 : Heap) (locs1 : List Loc), t.heap = H1 → s.vm.Alike t.vm → px u → BX E u t → H.size ≤ H1.size → (∀ q : Nat, q < H.size → ¬ AX q → H1[q]? = H[q]?) → va_S A0 H0 H1 locs1 → H1[q9]? = some ce → ce.vm = .none → s.vm.findClass E = some ce.cls → vx_W p l e R s m args below meth c H1 locs1 (cells + mc) (slots + ms) Q (F0 m pc ls rest) q9)
    (kk : ∀ (r : Int64) (u : S) (t : State) (H1 : Heap) (locs1 : List Loc), t.heap = H1 → s.vm.Alike t.vm → post r u → B u t → H.size ≤ H1.size → (∀ q : Nat, q < H.size → ¬ A1 q → H1[q]? = H[q]?) → va_S A0 H0 H1 locs1 → W p l e R s m args below meth c H1 locs1 (cells + mc) (slots + ms) Q (F0 m (pc + 3) ls (.long r :: rest))) : W p l e R s m args below meth c H locs cells slots Q (F0 m pc ls st0) := by
  intro T hT X
  rcases hr T hT X with ⟨v, st₀, t, T', L, h0, X', hL, e1, e2, ⟨⟨r, u, hv, hp, hb⟩, hF⟩, st⟩ | ⟨q, st₀, t, T', L, E, ce, h0, X', hL, e1, e2, ⟨u, hp, hb, hF⟩, hce, hcv, hcl, st⟩
  · cases hv
    obtain ⟨k1, k2, k3⟩ := vx_keep h0 e1 hS hA hf hL hF
    obtain ⟨t2, a1, b1⟩ := kk r u t T'.heap (locs ++ L) e1.symm (by rw [← e2]; exact X'.warmed.alike) hp hb k1 k2 k3 T' rfl X'
    exact ⟨t2, st t2 a1, b1⟩
  · obtain ⟨k1, k2, k3⟩ := vx_keep h0 e1 hS hAX hf hL hF
    obtain ⟨t2, a1, b1⟩ := kx E ce q u t T'.heap (locs ++ L) e1.symm (by rw [← e2]; exact X'.warmed.alike) hp hb k1 k2 k3 (by rw [e1]; exact hce) hcv hcl T' rfl X'
    exact ⟨t2, st.trans a1, b1⟩
theorem vx_callf {S SX : Type} {post : UInt32 → S → Prop} {px : SX → Prop} {B : S → State → Prop} {BX : String → SX → State → Prop} {AX : Nat → Prop} (hr : vx_Run p l e R s m args below meth c H locs cells slots mc ms (F0 m pc ls st0) rest (va_Qf post B A1 a) (vx_X px BX AX) free) (hS : va_S A0 H0 H locs) (hA : ∀ q, q < H.size → A1 q → A0 q) (hf : ∀ q, free q → A0 q) (hAX : ∀ q, q < H.size → AX q → A0 q)
    (kx : ∀ (E : String) (ce : Cell) (q9 : Addr) (u : SX) (t : State) (H1 : Heap) (locs1 : List Loc), t.heap = H1 → s.vm.Alike t.vm → px u → BX E u t → H.size ≤ H1.size → (∀ q : Nat, q < H.size → ¬ AX q → H1[q]? = H[q]?) → va_S A0 H0 H1 locs1 → H1[q9]? = some ce → ce.vm = .none → s.vm.findClass E = some ce.cls → vx_W p l e R s m args below meth c H1 locs1 (cells + mc) (slots + ms) Q (F0 m pc ls rest) q9)
    (kk : ∀ (r : UInt32) (u : S) (t : State) (H1 : Heap) (locs1 : List Loc), t.heap = H1 → s.vm.Alike t.vm → post r u → B u t → H.size ≤ H1.size → (∀ q : Nat, q < H.size → ¬ A1 q → H1[q]? = H[q]?) → va_S A0 H0 H1 locs1 → W p l e R s m args below meth c H1 locs1 (cells + mc) (slots + ms) Q (F0 m (pc + 3) ls (.float r :: rest))) : W p l e R s m args below meth c H locs cells slots Q (F0 m pc ls st0) := by
  intro T hT X
  rcases hr T hT X with ⟨v, st₀, t, T', L, h0, X', hL, e1, e2, ⟨⟨r, u, hv, hp, hb⟩, hF⟩, st⟩ | ⟨q, st₀, t, T', L, E, ce, h0, X', hL, e1, e2, ⟨u, hp, hb, hF⟩, hce, hcv, hcl, st⟩
  · cases hv
    obtain ⟨k1, k2, k3⟩ := vx_keep h0 e1 hS hA hf hL hF
    obtain ⟨t2, a1, b1⟩ := kk r u t T'.heap (locs ++ L) e1.symm (by rw [← e2]; exact X'.warmed.alike) hp hb k1 k2 k3 T' rfl X'
    exact ⟨t2, st t2 a1, b1⟩
  · obtain ⟨k1, k2, k3⟩ := vx_keep h0 e1 hS hAX hf hL hF
    obtain ⟨t2, a1, b1⟩ := kx E ce q u t T'.heap (locs ++ L) e1.symm (by rw [← e2]; exact X'.warmed.alike) hp hb k1 k2 k3 (by rw [e1]; exact hce) hcv hcl T' rfl X'
    exact ⟨t2, st.trans a1, b1⟩
theorem vx_calld {S SX : Type} {post : UInt64 → S → Prop} {px : SX → Prop} {B : S → State → Prop} {BX : String → SX → State → Prop} {AX : Nat → Prop} (hr : vx_Run p l e R s m args below meth c H locs cells slots mc ms (F0 m pc ls st0) rest (va_Qd post B A1 a) (vx_X px BX AX) free) (hS : va_S A0 H0 H locs) (hA : ∀ q, q < H.size → A1 q → A0 q) (hf : ∀ q, free q → A0 q) (hAX : ∀ q, q < H.size → AX q → A0 q)
    (kx : ∀ (E : String) (ce : Cell) (q9 : Addr) (u : SX) (t : State) (H1 : Heap) (locs1 : List Loc), t.heap = H1 → s.vm.Alike t.vm → px u → BX E u t → H.size ≤ H1.size → (∀ q : Nat, q < H.size → ¬ AX q → H1[q]? = H[q]?) → va_S A0 H0 H1 locs1 → H1[q9]? = some ce → ce.vm = .none → s.vm.findClass E = some ce.cls → vx_W p l e R s m args below meth c H1 locs1 (cells + mc) (slots + ms) Q (F0 m pc ls rest) q9)
    (kk : ∀ (r : UInt64) (u : S) (t : State) (H1 : Heap) (locs1 : List Loc), t.heap = H1 → s.vm.Alike t.vm → post r u → B u t → H.size ≤ H1.size → (∀ q : Nat, q < H.size → ¬ A1 q → H1[q]? = H[q]?) → va_S A0 H0 H1 locs1 → W p l e R s m args below meth c H1 locs1 (cells + mc) (slots + ms) Q (F0 m (pc + 3) ls (.double r :: rest))) : W p l e R s m args below meth c H locs cells slots Q (F0 m pc ls st0) := by
  intro T hT X
  rcases hr T hT X with ⟨v, st₀, t, T', L, h0, X', hL, e1, e2, ⟨⟨r, u, hv, hp, hb⟩, hF⟩, st⟩ | ⟨q, st₀, t, T', L, E, ce, h0, X', hL, e1, e2, ⟨u, hp, hb, hF⟩, hce, hcv, hcl, st⟩
  · cases hv
    obtain ⟨k1, k2, k3⟩ := vx_keep h0 e1 hS hA hf hL hF
    obtain ⟨t2, a1, b1⟩ := kk r u t T'.heap (locs ++ L) e1.symm (by rw [← e2]; exact X'.warmed.alike) hp hb k1 k2 k3 T' rfl X'
    exact ⟨t2, st t2 a1, b1⟩
  · obtain ⟨k1, k2, k3⟩ := vx_keep h0 e1 hS hAX hf hL hF
    obtain ⟨t2, a1, b1⟩ := kx E ce q u t T'.heap (locs ++ L) e1.symm (by rw [← e2]; exact X'.warmed.alike) hp hb k1 k2 k3 (by rw [e1]; exact hce) hcv hcl T' rfl X'
    exact ⟨t2, st.trans a1, b1⟩
theorem vx_callv {S SX : Type} {post : S → Prop} {px : SX → Prop} {B : S → State → Prop} {BX : String → SX → State → Prop} {AX : Nat → Prop} (hr : vx_Run p l e R s m args below meth c H locs cells slots mc ms (F0 m pc ls st0) rest (va_Qv post B A1 a) (vx_X px BX AX) free) (hS : va_S A0 H0 H locs) (hA : ∀ q, q < H.size → A1 q → A0 q) (hf : ∀ q, free q → A0 q) (hAX : ∀ q, q < H.size → AX q → A0 q)
    (kx : ∀ (E : String) (ce : Cell) (q9 : Addr) (u : SX) (t : State) (H1 : Heap) (locs1 : List Loc), t.heap = H1 → s.vm.Alike t.vm → px u → BX E u t → H.size ≤ H1.size → (∀ q : Nat, q < H.size → ¬ AX q → H1[q]? = H[q]?) → va_S A0 H0 H1 locs1 → H1[q9]? = some ce → ce.vm = .none → s.vm.findClass E = some ce.cls → vx_W p l e R s m args below meth c H1 locs1 (cells + mc) (slots + ms) Q (F0 m pc ls rest) q9)
    (kk : ∀ (u : S) (t : State) (H1 : Heap) (locs1 : List Loc), t.heap = H1 → s.vm.Alike t.vm → post u → B u t → H.size ≤ H1.size → (∀ q : Nat, q < H.size → ¬ A1 q → H1[q]? = H[q]?) → va_S A0 H0 H1 locs1 → W p l e R s m args below meth c H1 locs1 (cells + mc) (slots + ms) Q (F0 m (pc + 3) ls (rest))) : W p l e R s m args below meth c H locs cells slots Q (F0 m pc ls st0) := by
  intro T hT X
  rcases hr T hT X with ⟨v, st₀, t, T', L, h0, X', hL, e1, e2, ⟨⟨u, hv, hp, hb⟩, hF⟩, st⟩ | ⟨q, st₀, t, T', L, E, ce, h0, X', hL, e1, e2, ⟨u, hp, hb, hF⟩, hce, hcv, hcl, st⟩
  · cases hv
    obtain ⟨k1, k2, k3⟩ := vx_keep h0 e1 hS hA hf hL hF
    obtain ⟨t2, a1, b1⟩ := kk u t T'.heap (locs ++ L) e1.symm (by rw [← e2]; exact X'.warmed.alike) hp hb k1 k2 k3 T' rfl X'
    exact ⟨t2, st t2 a1, b1⟩
  · obtain ⟨k1, k2, k3⟩ := vx_keep h0 e1 hS hAX hf hL hF
    obtain ⟨t2, a1, b1⟩ := kx E ce q u t T'.heap (locs ++ L) e1.symm (by rw [← e2]; exact X'.warmed.alike) hp hb k1 k2 k3 (by rw [e1]; exact hce) hcv hcl T' rfl X'
    exact ⟨t2, st.trans a1, b1⟩
/-- caught by the row x of this method's table; the rows ahead don't take it -/
theorem vx_catch {own name : String} {E : String} {ce : Cell} {q : Addr} (hown : s.vm.findClass own = some m.cls) (pre : List ExceptionTableEntry) (x : ExceptionTableEntry) (suf : List ExceptionTableEntry) (hsplit : c.exceptionTable.toList = pre ++ x :: suf)
    (hpass : ∀ z ∈ pre, covers z pc = false ∨ (z.catchType ≠ 0 ∧ ∃ nm : String, (Cond.classLink own z.catchType nm).before args s = true ∧ va_Nc E nm s)) (hx : covers x pc = true) (h0 : x.catchType ≠ 0)
    (hlink : (Cond.classLink own x.catchType name).before args s = true) (hcast : (Cond.castable E name).before args s = true) (hcell : H[q]? = some ce) (hv : ce.vm = .none) (hcl : s.vm.findClass E = some ce.cls)
    (kk : W p l e R s m args below meth c H locs cells slots Q (F0 m x.handlerPc ls [.ref q])) : vx_W p l e R s m args below meth c H locs cells slots Q (F0 m pc ls rest) q := by
  intro T hT X
  have hpl : e.platform.magicAccessors = ({} : Platform).magicAccessors := by rw [X.admits.platform]
  obtain ⟨c3, c4, hc3, hc4, hasg⟩ := Cond.castable_spec hcast
  cases Option.some.inj (hc3.symm.trans hcl)
  obtain ⟨c5, hc5, hcl5⟩ := Cond.classLink_spec hown hlink e.platform hpl
  cases Option.some.inj (hc4.symm.trans hc5)
  obtain ⟨vm', X', st⟩ := X.thenCaughtThrough q (g := F0 m pc ls rest) rfl (Steps.refl _) (by rw [hT]; exact hcell) (by rw [hv]; rfl) (by obtain ⟨k9, h9, -⟩ := Vm.findClass_spec hcl; exact ⟨k9, h9⟩) pre x suf hsplit
    (fun z hz => by
      rcases hpass z hz with h | ⟨hz0, nm, hl1, hn1⟩
      · exact Or.inl h
      · obtain ⟨c6, hc6, hcl6⟩ := Cond.classLink_spec hown hl1 e.platform hpl
        obtain ⟨a8, b8, h1, h2, h3⟩ := hn1
        cases Option.some.inj (h1.symm.trans hcl)
        cases Option.some.inj (h2.symm.trans hc6)
        exact Or.inr ⟨hz0, _, hcl6, h3⟩) hx (Or.inr ⟨h0, c4, hcl5, hasg⟩)
  obtain ⟨t, a1, b1⟩ := kk (T.setVm vm') hT X'
  exact ⟨t, st.trans a1, b1⟩
end Rows
section Ends
variable {p : Program} {l : Launch} {e : Env} {R : Room} {s : State} {m : MethodId} {args : Array Value} {below : List Frame} {meth : Method} {c : Code} {H : Heap} {locs : List Loc} {cells slots : Nat} {Q : State → Prop}
variable {mc ms : Nat} {free : Addr → Prop} {A0 A1 : Nat → Prop} {H0 : Heap} {a : Array Value} {ls : Array Slot} {st0 rest : List Value}
variable {Qc : Array Value → State → Outcome → State → Prop} {XC : String → State → State → Prop}
/-- what a body that may throw owes at its end -/
def vx_MQ (below : List Frame) (Qc : Array Value → State → Outcome → State → Prop) (XC : String → State → State → Prop) (a : Array Value) (s : State) (mc ms : Nat) (free : Addr → Prop) : State → Prop := fun t =>
  ∃ o, t.status = .running ∧ Ended t below o ∧ vx_Q Qc XC mc ms free a s o t
theorem vx_ret {g : JFrame} {mc ms : Nat} (k : W p l e R s m args below meth c H locs cells slots (MQ below Qc args s mc ms free) g) : W p l e R s m args below meth c H locs cells slots (vx_MQ below Qc XC args s mc ms free) g := by
  intro T hT X
  obtain ⟨t, a1, o, b1, b2, b3, b4⟩ := k T hT X
  exact ⟨t, a1, o, b1, b2, Or.inl ⟨b3, b4⟩⟩
/-- not caught here: it goes on to the caller -/
theorem vx_widen {g : JFrame} {q : Addr} {k n : Nat} (h1 : cells ≤ k) (h2 : slots ≤ n) (kk : vx_W p l e R s m args below meth c H locs k n Q g q) : vx_W p l e R s m args below meth c H locs cells slots Q g q := fun T hT X => kk T hT (stand_widen X h1 h2)
theorem vx_out {pc : Nat} {E : String} {ce : Cell} {q : Addr} {mc ms : Nat} (hout : ∀ x ∈ c.exceptionTable.toList, covers x pc = false) (hlocks : meth.locks = false) (hcell : H[q]? = some ce) (hv : ce.vm = .none) (hcl : s.vm.findClass E = some ce.cls)
    (hx : ∀ t : State, t.heap = H → s.vm.Alike t.vm → XC E s t) (hf : ∀ z ∈ locs, free z.base) (hc : cells ≤ mc) (hs : slots ≤ ms) :
    vx_W p l e R s m args below meth c H locs cells slots (vx_MQ below Qc XC args s mc ms free) (F0 m pc ls rest) q := by
  intro T hT X
  obtain ⟨st1, hrun, hend, hW, hsm⟩ := X.leaveThrown q (g := F0 m pc ls rest) rfl rfl rfl hout hlocks
  have hcell9 : (T.setFrames (.throwing q :: below)).heap[q]? = some ce := by
    show T.heap[q]? = some ce
    rw [hT]; exact hcell
  exact ⟨_, st1, .threw q, hrun, hend, Or.inr ⟨q, rfl, E, ce, locs, hx _ hT hW.alike, hcell9, hv, hcl, hW, hsm.mono hc hs, hf⟩⟩
theorem vx_frame {U : State} {k n : Nat} (h : s.sameButNew ({ U with vm := s.vm } : State) locs k n) : s.heap.size ≤ U.heap.size ∧ ∀ q : Nat, q < s.heap.size → (∀ z ∈ locs, z.base ≠ q) → U.heap[q]? = s.heap[q]? := by
  obtain ⟨-, h2, -, -, -, h6⟩ := h
  refine ⟨h2, fun q hq hz => ?_⟩
  obtain ⟨c9, e1, e2, e3, e4⟩ := h6 q _ (Array.getElem?_eq_getElem hq)
  have hs : c9.slots = (s.heap[q]).slots := Array.ext_getElem? fun i => e4 i fun hm => hz _ hm rfl
  have h9 : c9 = s.heap[q] := by
    rw [hs] at e2
    exact e2
  have e5 : U.heap[q]? = some c9 := e1
  rw [e5, h9, Array.getElem?_eq_getElem hq]
/-- the words of a throw but the four that speak of the heap -/
def vx_no (w : Cond) : Bool := decide (w ≠ .isRef (.static Bundle.tN "UNASSIGNED_STACK" Bundle.steD)) && decide (w ≠ .isRef (.static Bundle.tN "SUPPRESSED_SENTINEL" Bundle.listD)) && decide (w ≠ .laysStatic Bundle.tN "UNASSIGNED_STACK" Bundle.steD) && decide (w ≠ .laysStatic Bundle.tN "SUPPRESSED_SENTINEL" Bundle.listD)
def vx_at0 (own : String) (ic : Nat) (X : String) (names : List String) : List Cond := (Bundle.ownAtoms0 own ic X names).filter vx_no
def vx_atS (own : String) (ic : Nat) (X : String) (names : List String) : List Cond := (Bundle.ownAtoms own ic X names).filter vx_no
/-- a word that the tables alone decide, or a good one -/
def vx_ot (w : Cond) : Bool := w.onTables || goodWord w
theorem vx_ot_at {args a' : Array Value} {s U : State} {w : Cond} (hW : s.WarmedH U.vm) (hvm : s.vm = U.vm) (hg : vx_ot w = true) (h : w.before args s = true) : w.before a' U = true := by
  simp only [vx_ot, Bool.or_eq_true] at hg
  rcases hg with hg | hg
  · exact va_tabs hg hvm h
  · exact word_at hW (good_of_word hg) h
/-- a list's words: the good ones out of the method's own list, the others by premises of their own -/
theorem vx_hat {args : Array Value} {s : State} {L B : List Cond} (h1 : ∀ w ∈ L.filter goodWord, w.before args s = true) (h2 : ∀ w ∈ L.filter (fun w => !goodWord w), w ∈ B) (h3 : ∀ w ∈ B, w.before args s = true) : ∀ w ∈ L, w.before args s = true := by
  intro w hw
  by_cases g : goodWord w = true
  · exact h1 w (List.mem_filter.mpr ⟨hw, g⟩)
  · refine h3 w (h2 w (List.mem_filter.mpr ⟨hw, ?_⟩))
    show (!goodWord w) = true
    cases hgw : goodWord w
    · rfl
    · exact absurd hgw g
theorem vx_c {args : Array Value} {s : State} {w : Cond} {B : List Cond} (h : w.before args s = true) (t : ∀ w ∈ B, w.before args s = true) : ∀ w' ∈ w :: B, w'.before args s = true := fun w' h' => (List.mem_cons.mp h').elim (fun e => by rw [e]; exact h) (t w')
theorem vx_n {args : Array Value} {s : State} : ∀ w ∈ ([] : List Cond), w.before args s = true := fun _ h => nomatch h
theorem vx_own {args : Array Value} {s : State} {L : List Cond} (h1 : ∀ w ∈ L.filter vx_no, w.before args s = true)
    (hU : (Cond.isRef (.static Bundle.tN "UNASSIGNED_STACK" Bundle.steD)).before args s = true) (hN : (Cond.isRef (.static Bundle.tN "SUPPRESSED_SENTINEL" Bundle.listD)).before args s = true)
    (lU : (Cond.laysStatic Bundle.tN "UNASSIGNED_STACK" Bundle.steD).before args s = true) (lN : (Cond.laysStatic Bundle.tN "SUPPRESSED_SENTINEL" Bundle.listD).before args s = true) : ∀ w ∈ L, w.before args s = true := by
  intro w hw
  by_cases e1 : w = .isRef (.static Bundle.tN "UNASSIGNED_STACK" Bundle.steD)
  · rw [e1]; exact hU
  · by_cases e2 : w = .isRef (.static Bundle.tN "SUPPRESSED_SENTINEL" Bundle.listD)
    · rw [e2]; exact hN
    · by_cases e3 : w = .laysStatic Bundle.tN "UNASSIGNED_STACK" Bundle.steD
      · rw [e3]; exact lU
      · by_cases e4 : w = .laysStatic Bundle.tN "SUPPRESSED_SENTINEL" Bundle.listD
        · rw [e4]; exact lN
        · exact h1 w (List.mem_filter.mpr ⟨hw, by unfold vx_no; rw [decide_eq_true e1, decide_eq_true e2, decide_eq_true e3, decide_eq_true e4]; rfl⟩)
/-- where a static field lies, its class's statics cell in H -/
def vx_L (C n d : String) (A : Nat → Prop) (U : State) (H : Heap) : Prop := ∃ (c : ClassId) (k : Class) (i : Nat) (f : Field) (a : Nat) (cell : Cell), U.vm.findClass C = some c ∧ U.fieldFound? C n d = some (c, k, i, f) ∧ f.isStatic = true ∧ k.statics = some a ∧ H[a]? = some cell ∧ cell.vm.isStatics = true ∧ cell.cls = c ∧ f.slot < cell.slots.size ∧ k.staticTypes[f.slot]? = some f.type ∧ ¬ A a
theorem vx_L.moved {C n d : String} {A : Nat → Prop} {u U : State} {H : Heap} (hvm : u.vm.Alike U.vm) (h : vx_L C n d A u H) : vx_L C n d A U H := by
  obtain ⟨c, k, i, f, a, cell, h1, h2, h3, h4, h5, h6, h7, h8, h9, h10⟩ := h
  obtain ⟨k', hi', he⟩ := State.fieldFound?_setVm hvm h2
  exact ⟨c, k', i, f, a, cell, by rw [hvm.findClass]; exact h1, hi', h3, by rw [he]; exact h4, h5, h6, h7, h8, by rw [he]; exact h9, h10⟩
theorem vx_L.kept {C n d : String} {A : Nat → Prop} {U : State} {H H1 : Heap} (h : vx_L C n d A U H) (hq : ∀ a : Nat, a < H.size → ¬ A a → H1[a]? = H[a]?) : vx_L C n d A U H1 := by
  obtain ⟨c, k, i, f, a, cell, h1, h2, h3, h4, h5, h6, h7, h8, h9, h10⟩ := h
  exact ⟨c, k, i, f, a, cell, h1, h2, h3, h4, by rw [hq a (Array.getElem?_eq_some_iff.mp h5).1 h10]; exact h5, h6, h7, h8, h9, h10⟩
theorem vx_L.narrow {C n d : String} {A B : Nat → Prop} {U : State} {H : Heap} (h : vx_L C n d A U H) (hAB : ∀ q, B q → A q) : vx_L C n d B U H := by
  obtain ⟨c, k, i, f, a, cell, h1, h2, h3, h4, h5, h6, h7, h8, h9, h10⟩ := h
  exact ⟨c, k, i, f, a, cell, h1, h2, h3, h4, h5, h6, h7, h8, h9, fun z => h10 (hAB _ z)⟩
theorem vx_L.word {C n d : String} {A : Nat → Prop} {s : State} {args : Array Value} (h : vx_L C n d A s s.heap) : (Cond.laysStatic C n d).before args s = true := by
  obtain ⟨c, k, i, f, a, cell, h1, h2, h3, h4, h5, h6, h7, h8, h9, -⟩ := h
  show (Cond.laysStatic C n d).holds args s none s [] = true
  exact Cond.laysStatic_of h1 h2 h3 h4 h5 h6 h7 h8 h9
/-- .. and what it holds: null or some reference -/
def vx_Zq (C n d : String) (A : Nat → Prop) (U : State) (H : Heap) : Prop := va_Zq C n d A U H ∧ vx_L C n d A U H
theorem vx_Zq.moved {C n d : String} {A : Nat → Prop} {u U : State} {H : Heap} (hvm : u.vm.Alike U.vm) (h : vx_Zq C n d A u H) : vx_Zq C n d A U H := ⟨va_Zq.moved hvm h.1, vx_L.moved hvm h.2⟩
theorem vx_Zq.kept {C n d : String} {A : Nat → Prop} {U : State} {H H1 : Heap} (h : vx_Zq C n d A U H) (hq : ∀ a : Nat, a < H.size → ¬ A a → H1[a]? = H[a]?) : vx_Zq C n d A U H1 := ⟨va_Zq.kept h.1 hq, vx_L.kept h.2 hq⟩
theorem vx_Zq.narrow {C n d : String} {A B : Nat → Prop} {U : State} {H : Heap} (h : vx_Zq C n d A U H) (hAB : ∀ q, B q → A q) : vx_Zq C n d B U H := ⟨va_Zq.narrow h.1 hAB, vx_L.narrow h.2 hAB⟩
theorem vx_Zqof {args : Array Value} {s : State} {C n d : String} {A : Nat → Prop} (hl : (Cond.laysStatic C n d).before args s = true) (hini : (Cond.initialized C).before args s = true) (h : (Cond.isRef (.static C n d)).before args s = true) (hA : ∀ a : Nat, a < s.heap.size → ¬ A a) : vx_Zq C n d A s s.heap := by
  refine ⟨va_Zqof hl hini h hA, ?_⟩
  obtain ⟨c, k, i, f, a, cell, h1, h2, h3, h4, h5, h6, h7, h8, h9⟩ := Cond.laysStatic_spec hl
  exact ⟨c, k, i, f, a, cell, h1, h2, h3, h4, h5, h6, h7, h8, h9, hA a (Array.getElem?_eq_some_iff.mp h5).1⟩
theorem vx_isRef {C n d : String} {v : Value} {A : Nat → Prop} {s : State} {args : Array Value} (h : va_Z C n d v A s s.heap) (hv : v.isRef = true) : (Cond.isRef (.static C n d)).before args s = true := by
  obtain ⟨cf, kf, fi, f, a, cell, h1, h2, h3, h4, h5, h6, h7, -⟩ := h
  have he : (Term.static C n d).eval args s none [] s = some v := by
    simp [Term.eval, State.fieldNamed?, h1, h2, h4, h5, h6, h7]
  simp only [Cond.before, Cond.holds, Cond.value, he]
  cases v <;> simp_all [Value.isRef]
theorem vx_isRefq {C n d : String} {A : Nat → Prop} {s : State} {args : Array Value} (h : va_Zq C n d A s s.heap) : (Cond.isRef (.static C n d)).before args s = true := by
  rcases h with h | ⟨t, h⟩
  · exact vx_isRef h rfl
  · exact vx_isRef h rfl
/-- the same frame, seen from here: as if the method were called anew in this heap -/
theorem vx_rebase {T : State} (X : Stand p l e R s m args below meth c T locs cells slots) {R' : Room} (hf : R'.frames ≤ R.frames) (hl : R'.locals ≤ R.locals) (hc : cells + R'.cells ≤ R.cells) (hs : slots + R'.slots ≤ R.slots) :
    Stand p l e R' ((T.setVm s.vm).setFrames (.invoking m args :: below)) m args below meth c T [] 0 0 := by
  have htop : (T.setVm s.vm).topJava?.isSome := X.here.top
  have hF : ((T.setVm s.vm).setFrames (.invoking m args :: below)).frames = .invoking m args :: below := State.frames_setFrames _ (State.cur_lt_of_top htop)
  obtain ⟨g₀, hg0⟩ := Option.isSome_iff_exists.mp htop
  obtain ⟨r, hr⟩ := State.topJava?_eq_some.mp hg0
  have hl9 : e.platform.stackLimits (T.setVm s.vm).me = e.platform.stackLimits s.me := X.limits
  have hb9 : (T.setVm s.vm).me.stackBytes = s.me.stackBytes := X.bytes
  refine ⟨X.admits, X.cas, X.clock, hF, ?_, X.hears, X.method, X.code, X.here, X.tail, X.warmed, ?_, ?_, ?_⟩
  · have h := X.room
    have hU : ((T.setVm s.vm).setFrames (.invoking m args :: below)).localsInUse = s.localsInUse := by
      rw [State.localsInUse_invoking hF (meth := meth) (c := c) X.method X.code, State.localsInUse_invoking X.frames X.method X.code]
    simp only [State.hasRoom, Bool.and_eq_true, decide_eq_true_eq] at h ⊢
    obtain ⟨⟨⟨⟨h1, h2, h3, h4, h5, h6⟩, h7⟩, h8⟩, h9⟩ := h
    rw [X.frames, List.length_cons] at h2 h3
    have q1 := X.heapSize
    have q2 := X.used
    simp only [hF, hU, List.length_cons, State.stackLimits_setFrames, State.stackBytes_setFrames, hl9, hb9]
    refine ⟨⟨⟨⟨by omega, by omega, by omega, by omega, by omega, h6⟩, ?_⟩, ?_⟩, X.book⟩
    · show T.heap.size + R'.cells ≤ e.platform.maxCells
      omega
    · show T.slotsUsed + R'.slots ≤ e.platform.maxSlots
      omega
  · rw [State.stackLimits_setFrames]; rfl
  · rw [State.stackBytes_setFrames]; rfl
  · refine ⟨?_, Nat.le_refl _, Nat.le_refl _, ?_, ?_, fun a c9 h9 => ⟨c9, h9, rfl, rfl, fun _ _ => rfl⟩⟩
    · obtain ⟨t, ht, -⟩ := State.frames_cons hr
      show T.setVm s.vm = { ((T.setVm s.vm).setFrames (.invoking m args :: below)).setFrames (T.setVm s.vm).frames with heap := T.heap, slotsUsed := T.slotsUsed }
      rw [State.setFrames_setFrames, State.setFrames_self ht]
      rfl
    · show T.slotsUsed = T.slotsUsed + ((T.heap.toList.drop T.heap.size).map (·.slots.size)).sum
      rw [List.drop_eq_nil_of_le (Nat.le_of_eq Array.length_toList)]
      rfl
    · show ((T.heap.toList.drop T.heap.size).map (·.slots.size)).sum ≤ 0
      rw [List.drop_eq_nil_of_le (Nat.le_of_eq Array.length_toList)]
      exact Nat.le_refl _
/-- 'throw new E()': new; dup; invokespecial; athrow -/
theorem vx_throw0 {cc : ByteArray} {pc : Nat} (hexec : p.tables.exec = Jvm.exec) (hb : c.code = cc) (hl : l.stackTraces = false) {own cls : String} {names : List String} {ik ic mc ms : Nat} {A : Nat → Prop}
    (hown : s.vm.findClass own = some m.cls) (hcls : Bundle.fit cls = true) (hnames : ∀ n ∈ names, Bundle.fit n = true)
    (hk : (Cond.classLink own ik cls).before args s = true) (hini : (Cond.initialized cls).before args s = true) (hat : ∀ w ∈ vx_at0 own ic cls names, w.before args s = true)
    (hgood : ∀ w ∈ Cond.classLink own ik cls :: Cond.initialized cls :: vx_at0 own ic cls names, vx_ot w = true)
    (hU : vx_Zq Bundle.tN "UNASSIGNED_STACK" Bundle.steD A s s.heap) (hN : vx_Zq Bundle.tN "SUPPRESSED_SENTINEL" Bundle.listD A s s.heap) (hS : va_S A s.heap H locs) (hsize : ls.size = c.maxLocals)
    (d0 : decode cc pc = .ok (.new ik, 3)) (d3 : decode cc (pc + 3) = .ok (.dup, 1)) (d4 : decode cc (pc + 4) = .ok (.invokespecial ic, 3)) (d7 : decode cc (pc + 7) = .ok (.athrow, 1))
    (hout : ∀ x ∈ c.exceptionTable.toList, covers x (pc + 7) = false)
    (hRframes : names.length + 3 < R.frames) (hRlocals : (rest.map fun v => v.category).sum + (13 * (names.length + 1) + 42) ≤ R.locals) (hRcells : cells + 1 ≤ R.cells) (hRslots : slots + 6 ≤ R.slots) (hlocks : meth.locks = false)
    (hx : ∀ t : State, s.vm.Alike t.vm → H.size ≤ t.heap.size → (∀ q : Nat, q < H.size → t.heap[q]? = H[q]?) → XC cls s t)
    (hf : ∀ z ∈ locs, free z.base) (hc : cells + 1 ≤ mc) (hs : slots + 6 ≤ ms) :
    W p l e R s m args below meth c H locs cells slots (vx_MQ below Qc XC args s mc ms free) (F0 m pc ls rest) := by
  intro T hT X
  have htr : e.platform.stackTraces = false := (show e.platform.stackTraces = l.stackTraces by rw [X.admits.platform]).trans hl
  have Y := vx_rebase X (R' := { frames := R.frames, locals := R.locals, cells := 1, slots := 6 }) (Nat.le_refl _) (Nat.le_refl _) hRcells hRslots
  obtain ⟨s', hA⟩ : ∃ z, z = (T.setVm s.vm).setFrames (.invoking m args :: below) := ⟨_, rfl⟩
  rw [← hA] at Y
  have hvm : s'.vm = s.vm := by rw [hA]; rfl
  have hhp : s'.heap = H := by rw [hA]; exact hT
  have hW0 : s.WarmedH s'.vm := by rw [hvm]; exact State.WarmedH.refl s
  have hat' : ∀ w ∈ vx_at0 own ic cls names, w.before args s' = true := fun w hw => vx_ot_at hW0 hvm.symm (hgood w (List.mem_cons_of_mem _ (List.mem_cons_of_mem _ hw))) (hat w hw)
  have hk' : (Cond.classLink own ik cls).before args s' = true := vx_ot_at hW0 hvm.symm (hgood _ List.mem_cons_self) hk
  have hini' : (Cond.initialized cls).before args s' = true := vx_ot_at hW0 hvm.symm (hgood _ (List.mem_cons_of_mem _ List.mem_cons_self)) hini
  have hU' : vx_Zq Bundle.tN "UNASSIGNED_STACK" Bundle.steD A s' s'.heap := by rw [hhp]; exact vx_Zq.moved hW0.alike (hU.kept hS.2.1)
  have hN' : vx_Zq Bundle.tN "SUPPRESSED_SENTINEL" Bundle.listD A s' s'.heap := by rw [hhp]; exact vx_Zq.moved hW0.alike (hN.kept hS.2.1)
  have h : ∀ w ∈ Bundle.ownAtoms0 own ic cls names, w.before args s' = true := vx_own hat' (vx_isRefq hU'.1) (vx_isRefq hN'.1) hU'.2.word hN'.2.word
  have hown' : s'.vm.findClass own = some m.cls := by rw [hvm]; exact hown
  have hins : (Cond.instantiable cls 6).before args s' = true := h _ (by simp [Bundle.ownAtoms0])
  obtain ⟨vm₁, cX, kX, hfX, hkX, -, -, X₁, st1⟩ := Y.newCold hexec (own := own) (C := cls) (index := ik) (n := 6) hown' hk' hins hini'
    (g := F0 m pc ls rest) rfl (by rw [hb]; exact d0) (Nat.le_refl _) (Nat.le_refl _)
  generalize hT1 : (T.setVm vm₁).pushCell { cls := cX, slots := kX.instanceTypes.map defaultValue, vm := .none } = T1 at X₁ st1
  have hcat : (Value.ref T.heap.size).category = 1 := rfl
  have hcellA : T1.heap[T.heap.size]? = some (freshCell cX kX) := by rw [← hT1]; exact State.heap_pushCell_size _ _
  have d3' : decode c.code (pc + 3) = .ok (.dup, 1) := by rw [hb]; exact d3
  obtain ⟨U, hsteps, hrun, hend, hW, hsame, ce, hce, hO⟩ := X₁.ctorThrow0 hexec htr (own := own) (cls := cls) (names := names) (ic := ic) hown' hcls hnames h (fun x hx => nomatch hx) hfX hkX hcellA (by rw [hhp, hT]; exact Nat.le_refl _)
    (g := { method := m, pc := pc + 4, locals := ls, stack := .ref T.heap.size :: .ref T.heap.size :: rest, locked := none }) rfl hsize rfl rfl (rest := rest) rfl
    (by rw [hb]; exact d4) (by rw [hb]; exact d7) hout hRframes (by simp only [List.map_cons, List.sum_cons, hcat]; omega) hlocks
  obtain ⟨f1, f2⟩ := vx_frame hsame
  rw [hhp] at f1 f2
  have hWs : s.WarmedH U.vm := State.WarmedH.trans hW0 hW
  have hcl : s.vm.findClass cls = some ce.cls := by
    have h9 := hO.cls
    rw [hvm] at h9
    exact h9
  have hall : s.sameButNew ({ U with vm := s.vm } : State) locs mc ms := by
    subst hA
    obtain ⟨e1, e2⟩ := hsame
    rw [State.setFrames_setFrames] at e1
    have h2 : (T.setVm s.vm).sameButNew ({ U with vm := s.vm } : State) [] (0 + 1) (0 + 6) := ⟨e1, e2⟩
    have h3 := X.same.trans h2
    rw [List.append_nil] at h3
    exact h3.mono hc hs
  refine ⟨U, ?_, .threw T.heap.size, hrun, hend, Or.inr ⟨T.heap.size, rfl, cls, ce, locs, hx U hWs.alike f1 (fun q hq => f2 q hq (fun z hz => nomatch hz)), hce, hO.vm, hcl, hWs, hall, hf⟩⟩
  refine st1 _ ?_
  show Steps p.tables e below (T1.setTop { method := m, pc := pc + 3, locals := ls, stack := .ref T.heap.size :: rest, locked := none }) _
  jvm_step X₁.here [X₁.here.top, hexec, d3', Value.category]
  exact hsteps
/-- 'throw new E("text")': new; dup; ldc; invokespecial; athrow -/
theorem vx_throwS {cc : ByteArray} {pc : Nat} (hexec : p.tables.exec = Jvm.exec) (hb : c.code = cc) (hl : l.stackTraces = false) {own cls text : String} {names : List String} {ik is ic mc ms sa : Nat} {A : Nat → Prop}
    (hown : s.vm.findClass own = some m.cls) (hcls : Bundle.fit cls = true) (hnames : ∀ n ∈ names, Bundle.fit n = true)
    (hk : (Cond.classLink own ik cls).before args s = true) (hini : (Cond.initialized cls).before args s = true) (hstr : vk_R own is text sa s) (hat : ∀ w ∈ vx_atS own ic cls names, w.before args s = true)
    (hgood : ∀ w ∈ Cond.classLink own ik cls :: Cond.initialized cls :: vx_atS own ic cls names, vx_ot w = true)
    (hU : vx_Zq Bundle.tN "UNASSIGNED_STACK" Bundle.steD A s s.heap) (hN : vx_Zq Bundle.tN "SUPPRESSED_SENTINEL" Bundle.listD A s s.heap) (hS : va_S A s.heap H locs) (hsize : ls.size = c.maxLocals)
    (d0 : decode cc pc = .ok (.new ik, 3)) (d3 : decode cc (pc + 3) = .ok (.dup, 1)) (d4 : decode cc (pc + 4) = .ok (.ldc is, 2)) (d6 : decode cc (pc + 6) = .ok (.invokespecial ic, 3)) (d9 : decode cc (pc + 9) = .ok (.athrow, 1))
    (hout : ∀ x ∈ c.exceptionTable.toList, covers x (pc + 9) = false)
    (hRframes : names.length + 3 < R.frames) (hRlocals : (rest.map fun v => v.category).sum + (13 * (names.length + 1) + 43) ≤ R.locals) (hRcells : cells + 1 ≤ R.cells) (hRslots : slots + 6 ≤ R.slots) (hlocks : meth.locks = false)
    (hx : ∀ t : State, s.vm.Alike t.vm → H.size ≤ t.heap.size → (∀ q : Nat, q < H.size → t.heap[q]? = H[q]?) → XC cls s t)
    (hf : ∀ z ∈ locs, free z.base) (hc : cells + 1 ≤ mc) (hs : slots + 6 ≤ ms) :
    W p l e R s m args below meth c H locs cells slots (vx_MQ below Qc XC args s mc ms free) (F0 m pc ls rest) := by
  intro T hT X
  have htr : e.platform.stackTraces = false := (show e.platform.stackTraces = l.stackTraces by rw [X.admits.platform]).trans hl
  have Y := vx_rebase X (R' := { frames := R.frames, locals := R.locals, cells := 1, slots := 6 }) (Nat.le_refl _) (Nat.le_refl _) hRcells hRslots
  obtain ⟨s', hA⟩ : ∃ z, z = (T.setVm s.vm).setFrames (.invoking m args :: below) := ⟨_, rfl⟩
  rw [← hA] at Y
  have hvm : s'.vm = s.vm := by rw [hA]; rfl
  have hhp : s'.heap = H := by rw [hA]; exact hT
  have hW0 : s.WarmedH s'.vm := by rw [hvm]; exact State.WarmedH.refl s
  have hat' : ∀ w ∈ vx_atS own ic cls names, w.before args s' = true := fun w hw => vx_ot_at hW0 hvm.symm (hgood w (List.mem_cons_of_mem _ (List.mem_cons_of_mem _ hw))) (hat w hw)
  have hk' : (Cond.classLink own ik cls).before args s' = true := vx_ot_at hW0 hvm.symm (hgood _ List.mem_cons_self) hk
  have hini' : (Cond.initialized cls).before args s' = true := vx_ot_at hW0 hvm.symm (hgood _ (List.mem_cons_of_mem _ List.mem_cons_self)) hini
  have hU' : vx_Zq Bundle.tN "UNASSIGNED_STACK" Bundle.steD A s' s'.heap := by rw [hhp]; exact vx_Zq.moved hW0.alike (hU.kept hS.2.1)
  have hN' : vx_Zq Bundle.tN "SUPPRESSED_SENTINEL" Bundle.listD A s' s'.heap := by rw [hhp]; exact vx_Zq.moved hW0.alike (hN.kept hS.2.1)
  have h : ∀ w ∈ Bundle.ownAtoms own ic cls names, w.before args s' = true := vx_own hat' (vx_isRefq hU'.1) (vx_isRefq hN'.1) hU'.2.word hN'.2.word
  have hown' : s'.vm.findClass own = some m.cls := by rw [hvm]; exact hown
  have hins : (Cond.instantiable cls 6).before args s' = true := h _ (by simp [Bundle.ownAtoms])
  obtain ⟨vm₁, cX, kX, hfX, hkX, -, -, X₁, st1⟩ := Y.newCold hexec (own := own) (C := cls) (index := ik) (n := 6) hown' hk' hins hini'
    (g := F0 m pc ls rest) rfl (by rw [hb]; exact d0) (Nat.le_refl _) (Nat.le_refl _)
  generalize hT1 : (T.setVm vm₁).pushCell { cls := cX, slots := kX.instanceTypes.map defaultValue, vm := .none } = T1 at X₁ st1
  have hcat : (Value.ref T.heap.size).category = 1 := rfl
  have hcellA : T1.heap[T.heap.size]? = some (freshCell cX kX) := by rw [← hT1]; exact State.heap_pushCell_size _ _
  have d3' : decode c.code (pc + 3) = .ok (.dup, 1) := by rw [hb]; exact d3
  have d4' : decode c.code (pc + 4) = .ok (.ldc is, 2) := by rw [hb]; exact d4
  have hstr' : vk_R own is text sa s' := vk_R.warm hW0 hstr
  obtain ⟨U, hsteps, hrun, hend, hW, hsame, ce, hce, hO⟩ := X₁.ctorThrowS hexec htr (own := own) (cls := cls) (names := names) (ic := ic) hown' hcls hnames h (fun x hx => nomatch hx) hfX hkX hcellA (by rw [hhp, hT]; exact Nat.le_refl _) (msg := .ref sa) rfl
    (g := { method := m, pc := pc + 6, locals := ls, stack := .ref sa :: .ref T.heap.size :: .ref T.heap.size :: rest, locked := none }) rfl hsize rfl rfl (rest := rest) rfl
    (by rw [hb]; exact d6) (by rw [hb]; exact d9) hout hRframes (by simp only [List.map_cons, List.sum_cons, hcat]; omega) hlocks
  obtain ⟨f1, f2⟩ := vx_frame hsame
  rw [hhp] at f1 f2
  have hWs : s.WarmedH U.vm := State.WarmedH.trans hW0 hW
  have hcl : s.vm.findClass cls = some ce.cls := by
    have h9 := hO.cls
    rw [hvm] at h9
    exact h9
  have hall : s.sameButNew ({ U with vm := s.vm } : State) locs mc ms := by
    subst hA
    obtain ⟨e1, e2⟩ := hsame
    rw [State.setFrames_setFrames] at e1
    have h2 : (T.setVm s.vm).sameButNew ({ U with vm := s.vm } : State) [] (0 + 1) (0 + 6) := ⟨e1, e2⟩
    have h3 := X.same.trans h2
    rw [List.append_nil] at h3
    exact h3.mono hc hs
  refine ⟨U, ?_, .threw T.heap.size, hrun, hend, Or.inr ⟨T.heap.size, rfl, cls, ce, locs, hx U hWs.alike f1 (fun q hq => f2 q hq (fun z hz => nomatch hz)), hce, hO.vm, hcl, hWs, hall, hf⟩⟩
  refine st1 _ ?_
  show Steps p.tables e below (T1.setTop { method := m, pc := pc + 3, locals := ls, stack := .ref T.heap.size :: rest, locked := none }) _
  jvm_step X₁.here [X₁.here.top, hexec, d3', Value.category]
  exact X₁.ldcString hexec (own := own) (text := text) (index := is) (a := sa) hown' hstr'.1 hstr'.2
    (g := { method := m, pc := pc + 4, locals := ls, stack := .ref T.heap.size :: .ref T.heap.size :: rest, locked := none }) rfl d4' _ hsteps
/-- 'throw new E("text")', the text by a wide index -/
theorem vx_throwSW {cc : ByteArray} {pc : Nat} (hexec : p.tables.exec = Jvm.exec) (hb : c.code = cc) (hl : l.stackTraces = false) {own cls text : String} {names : List String} {ik is ic mc ms sa : Nat} {A : Nat → Prop}
    (hown : s.vm.findClass own = some m.cls) (hcls : Bundle.fit cls = true) (hnames : ∀ n ∈ names, Bundle.fit n = true)
    (hk : (Cond.classLink own ik cls).before args s = true) (hini : (Cond.initialized cls).before args s = true) (hstr : vk_R own is text sa s) (hat : ∀ w ∈ vx_atS own ic cls names, w.before args s = true)
    (hgood : ∀ w ∈ Cond.classLink own ik cls :: Cond.initialized cls :: vx_atS own ic cls names, vx_ot w = true)
    (hU : vx_Zq Bundle.tN "UNASSIGNED_STACK" Bundle.steD A s s.heap) (hN : vx_Zq Bundle.tN "SUPPRESSED_SENTINEL" Bundle.listD A s s.heap) (hS : va_S A s.heap H locs) (hsize : ls.size = c.maxLocals)
    (d0 : decode cc pc = .ok (.new ik, 3)) (d3 : decode cc (pc + 3) = .ok (.dup, 1)) (d4 : decode cc (pc + 4) = .ok (.ldc_w is, 3)) (d7 : decode cc (pc + 7) = .ok (.invokespecial ic, 3)) (d10 : decode cc (pc + 10) = .ok (.athrow, 1))
    (hout : ∀ x ∈ c.exceptionTable.toList, covers x (pc + 10) = false)
    (hRframes : names.length + 3 < R.frames) (hRlocals : (rest.map fun v => v.category).sum + (13 * (names.length + 1) + 43) ≤ R.locals) (hRcells : cells + 1 ≤ R.cells) (hRslots : slots + 6 ≤ R.slots) (hlocks : meth.locks = false)
    (hx : ∀ t : State, s.vm.Alike t.vm → H.size ≤ t.heap.size → (∀ q : Nat, q < H.size → t.heap[q]? = H[q]?) → XC cls s t)
    (hf : ∀ z ∈ locs, free z.base) (hc : cells + 1 ≤ mc) (hs : slots + 6 ≤ ms) :
    W p l e R s m args below meth c H locs cells slots (vx_MQ below Qc XC args s mc ms free) (F0 m pc ls rest) := by
  intro T hT X
  have htr : e.platform.stackTraces = false := (show e.platform.stackTraces = l.stackTraces by rw [X.admits.platform]).trans hl
  have Y := vx_rebase X (R' := { frames := R.frames, locals := R.locals, cells := 1, slots := 6 }) (Nat.le_refl _) (Nat.le_refl _) hRcells hRslots
  obtain ⟨s', hA⟩ : ∃ z, z = (T.setVm s.vm).setFrames (.invoking m args :: below) := ⟨_, rfl⟩
  rw [← hA] at Y
  have hvm : s'.vm = s.vm := by rw [hA]; rfl
  have hhp : s'.heap = H := by rw [hA]; exact hT
  have hW0 : s.WarmedH s'.vm := by rw [hvm]; exact State.WarmedH.refl s
  have hat' : ∀ w ∈ vx_atS own ic cls names, w.before args s' = true := fun w hw => vx_ot_at hW0 hvm.symm (hgood w (List.mem_cons_of_mem _ (List.mem_cons_of_mem _ hw))) (hat w hw)
  have hk' : (Cond.classLink own ik cls).before args s' = true := vx_ot_at hW0 hvm.symm (hgood _ List.mem_cons_self) hk
  have hini' : (Cond.initialized cls).before args s' = true := vx_ot_at hW0 hvm.symm (hgood _ (List.mem_cons_of_mem _ List.mem_cons_self)) hini
  have hU' : vx_Zq Bundle.tN "UNASSIGNED_STACK" Bundle.steD A s' s'.heap := by rw [hhp]; exact vx_Zq.moved hW0.alike (hU.kept hS.2.1)
  have hN' : vx_Zq Bundle.tN "SUPPRESSED_SENTINEL" Bundle.listD A s' s'.heap := by rw [hhp]; exact vx_Zq.moved hW0.alike (hN.kept hS.2.1)
  have h : ∀ w ∈ Bundle.ownAtoms own ic cls names, w.before args s' = true := vx_own hat' (vx_isRefq hU'.1) (vx_isRefq hN'.1) hU'.2.word hN'.2.word
  have hown' : s'.vm.findClass own = some m.cls := by rw [hvm]; exact hown
  have hins : (Cond.instantiable cls 6).before args s' = true := h _ (by simp [Bundle.ownAtoms])
  obtain ⟨vm₁, cX, kX, hfX, hkX, -, -, X₁, st1⟩ := Y.newCold hexec (own := own) (C := cls) (index := ik) (n := 6) hown' hk' hins hini'
    (g := F0 m pc ls rest) rfl (by rw [hb]; exact d0) (Nat.le_refl _) (Nat.le_refl _)
  generalize hT1 : (T.setVm vm₁).pushCell { cls := cX, slots := kX.instanceTypes.map defaultValue, vm := .none } = T1 at X₁ st1
  have hcat : (Value.ref T.heap.size).category = 1 := rfl
  have hcellA : T1.heap[T.heap.size]? = some (freshCell cX kX) := by rw [← hT1]; exact State.heap_pushCell_size _ _
  have d3' : decode c.code (pc + 3) = .ok (.dup, 1) := by rw [hb]; exact d3
  have d4' : decode c.code (pc + 4) = .ok (.ldc_w is, 3) := by rw [hb]; exact d4
  have hstr' : vk_R own is text sa s' := vk_R.warm hW0 hstr
  obtain ⟨U, hsteps, hrun, hend, hW, hsame, ce, hce, hO⟩ := X₁.ctorThrowS hexec htr (own := own) (cls := cls) (names := names) (ic := ic) hown' hcls hnames h (fun x hx => nomatch hx) hfX hkX hcellA (by rw [hhp, hT]; exact Nat.le_refl _) (msg := .ref sa) rfl
    (g := { method := m, pc := pc + 7, locals := ls, stack := .ref sa :: .ref T.heap.size :: .ref T.heap.size :: rest, locked := none }) rfl hsize rfl rfl (rest := rest) rfl
    (by rw [hb]; exact d7) (by rw [hb]; exact d10) hout hRframes (by simp only [List.map_cons, List.sum_cons, hcat]; omega) hlocks
  obtain ⟨f1, f2⟩ := vx_frame hsame
  rw [hhp] at f1 f2
  have hWs : s.WarmedH U.vm := State.WarmedH.trans hW0 hW
  have hcl : s.vm.findClass cls = some ce.cls := by
    have h9 := hO.cls
    rw [hvm] at h9
    exact h9
  have hall : s.sameButNew ({ U with vm := s.vm } : State) locs mc ms := by
    subst hA
    obtain ⟨e1, e2⟩ := hsame
    rw [State.setFrames_setFrames] at e1
    have h2 : (T.setVm s.vm).sameButNew ({ U with vm := s.vm } : State) [] (0 + 1) (0 + 6) := ⟨e1, e2⟩
    have h3 := X.same.trans h2
    rw [List.append_nil] at h3
    exact h3.mono hc hs
  refine ⟨U, ?_, .threw T.heap.size, hrun, hend, Or.inr ⟨T.heap.size, rfl, cls, ce, locs, hx U hWs.alike f1 (fun q hq => f2 q hq (fun z hz => nomatch hz)), hce, hO.vm, hcl, hWs, hall, hf⟩⟩
  refine st1 _ ?_
  show Steps p.tables e below (T1.setTop { method := m, pc := pc + 3, locals := ls, stack := .ref T.heap.size :: rest, locked := none }) _
  jvm_step X₁.here [X₁.here.top, hexec, d3', Value.category]
  exact X₁.ldcStringW hexec (own := own) (text := text) (index := is) (a := sa) hown' hstr'.1 hstr'.2
    (g := { method := m, pc := pc + 4, locals := ls, stack := .ref T.heap.size :: .ref T.heap.size :: rest, locked := none }) rfl d4' _ hsteps
end Ends
section Bodies
variable {l : Launch}
theorem vx_ofW {y : MethodName} {ws ws' : List Cond} {rm : Room} {Pc : Array Value → State → Prop} {Qc : Array Value → State → Outcome → State → Prop} {XC : String → State → State → Prop} {mc ms : Nat} {free : Addr → Prop} {cc : ByteArray} {maxL : Nat} {ret : Option FieldType}
    (hy : plainName y.cls = true) (hw : ws = Cond.code y cc maxL ret :: ws')
    (body : ∀ p e s m args below meth c s₁, BodyLoose p l y (headSpec ws rm) cc maxL ret e s m args below meth c s₁ → c.maxLocals = maxL → (∀ x ∈ c.exceptionTable.toList, False) → Pc args s →
      W p l e (headSpec ws rm).room s m args below meth c s.heap [] 0 0 (vx_MQ below Qc XC args s mc ms free) (entryFrame m args maxL)) : vx_Met l y ws rm Pc Qc XC mc ms free := by
  refine MetFree.of_bodyS (code := cc) (maxLocals := maxL) (ret := ret) hy ?_ ?_
  · intro args s m h hn
    obtain ⟨meth, c, h1, h2, h3, h4, h5, h6, -, -⟩ := Cond.code_spec hn (atoms_spec (ws := ws) h _ (by rw [hw]; exact List.mem_cons_self))
    exact ⟨meth, c, h1, h2, h3, h4, h5, h6⟩
  · intro p e s m args below meth c s₁ B hml hP _
    have hh0 : s₁.heap = s.heap := by rw [B.state]; rfl
    have ht : ∀ x ∈ c.exceptionTable.toList, False := by
      obtain ⟨meth9, c9, h1, h2, -, -, -, -, h7, -⟩ := Cond.code_spec B.named (atoms_spec (ws := ws) B.pre _ (by rw [hw]; exact List.mem_cons_self))
      cases Option.some.inj (h1.symm.trans B.method)
      cases Option.some.inj (h2.symm.trans (Stand.of_body B).code)
      intro x hx
      rw [Array.isEmpty_iff.mp h7] at hx
      cases hx
    obtain ⟨t, a1, o, b1, b2, b3⟩ := body p e s m args below meth c s₁ B hml ht hP s₁ hh0 (Stand.of_body B)
    exact ⟨t, o, a1, b1, b2, b3⟩
/-- the table of a body with handlers -/
theorem vx_table {p : Program} {x y : MethodName} {S : Spec} {cc bytes : ByteArray} {maxL maxL' : Nat} {ret ret' : Option FieldType} {e : Env} {s s₁ : State} {m : MethodId} {args : Array Value} {below : List Frame} {meth : Method} {c : Code} {hh : List (Nat × Nat × Nat × Nat)}
    (B : BodyLoose p l y S cc maxL ret e s m args below meth c s₁) (h : (Cond.codeWith y bytes maxL' ret' hh).before args s = true) : c.exceptionTable.toList = tableOf hh := by
  obtain ⟨m9, meth9, c9, hn9, h1, h2, -, -, h6, -⟩ := Cond.codeWith_spec h
  cases Option.some.inj (hn9.symm.trans B.named)
  cases Option.some.inj (h1.symm.trans B.method)
  cases Option.some.inj (h2.symm.trans (Stand.of_body B).code)
  rw [← h6, table_eq]
end Bodies
end VXA
/-! ===== END ===== -/
/-! ===== BEGIN a static call of a method with an exception table ===== -/
section VXS
variable {p : Program} {l : Launch} {e : Env} {R : Room} {s : State} {m : MethodId} {args : Array Value} {below : List Frame} {meth : Method} {c : Code} {T : State} {H : Heap} {locs : List Loc} {cells slots : Nat}
abbrev vx_CSW (R : Room) (s : State) (args : Array Value) (own : String) (index : Nat) (y : MethodName) (bytes : ByteArray) (maxL : Nat) (ret : Option FieldType) (hh : List (Nat × Nat × Nat × Nat)) (ws : List Cond) (rm : Room) (mc ms n : Nat) : Prop :=
  (rm.cells = mc ∧ rm.slots = ms ∧ rm.frames + 1 ≤ R.frames ∧ 8 + (maxL + 11) + rm.locals ≤ R.locals ∧ (∀ w ∈ ws, ∀ (a' : Array Value) (U : State), s.WarmedH U.vm → w.before a' U = true) ∧ Cond.codeWith y bytes maxL ret hh ∈ ws) ∧
  (Cond.codeWith y bytes maxL ret hh).before args s = true ∧ (Cond.initialized y.cls).before args s = true ∧ (y.cls ≠ "java/lang/invoke/MethodHandle" ∧ y.cls ≠ "java/lang/invoke/VarHandle") ∧
  (∀ sig, parseMethodDescriptor y.desc = some sig → n = sig.parameters.length) ∧ (Cond.methodLink own index y).before args s = true ∧ (Cond.static y).before args s = true
theorem vx_cwSW {own : String} {index maxL mc ms : Nat} {y : MethodName} {bytes : ByteArray} {ret : Option FieldType} {hh : List (Nat × Nat × Nat × Nat)} {Ts ws ws' : List Cond} {rm : Room} (n : Nat) (ht : ∀ w ∈ Ts, w.before args s = true) (hT : GoodIn Ts (va_wsS own index y ws)) (hw : ws = Cond.codeWith y bytes maxL ret hh :: ws') (hrc : rm.cells = mc) (hrs : rm.slots = ms)
    (hd : y.cls ≠ "java/lang/invoke/MethodHandle" ∧ y.cls ≠ "java/lang/invoke/VarHandle" ∧ (parseMethodDescriptor y.desc).map (fun d => d.parameters.length) = some n) (hR : rm.frames + 1 ≤ R.frames ∧ 8 + (maxL + 11) + rm.locals ≤ R.locals) :
    vx_CSW R s args own index y bytes maxL ret hh ws rm mc ms n := by
  have ok : ∀ w ∈ va_wsS own index y ws, w.before args s = true := fun w h => ht w (hT w h).1
  have hG : GoodIn Ts ws := fun w h => hT w (by unfold va_wsS; exact List.mem_append_right _ h)
  have hc : Cond.codeWith y bytes maxL ret hh ∈ ws := by rw [hw]; exact List.mem_cons_self
  refine ⟨⟨hrc, hrs, hR.1, hR.2, pay_in ht hG, hc⟩, ht _ (hG _ hc).1, ok _ (by simp [va_wsS]), ⟨hd.1, hd.2.1⟩, fun sig h => ?_, ok _ (by simp [va_wsS]), ok _ (by simp [va_wsS])⟩
  have h2 := hd.2.2
  rw [h] at h2
  exact (Option.some.inj h2).symm
theorem vx_callSW (X : Stand p l e R s m args below meth c T locs cells slots) (hexec : p.tables.exec = Jvm.exec) {own : String} {index : Nat} {y : MethodName} {bytes : ByteArray} {maxL : Nat} {ret : Option FieldType} {hh : List (Nat × Nat × Nat × Nat)}
    (hown : s.vm.findClass own = some m.cls) (hlink : (Cond.methodLink own index y).before args s = true) (hstat : (Cond.static y).before args s = true) (hinit : (Cond.initialized y.cls).before args s = true)
    (hcode : (Cond.codeWith y bytes maxL ret hh).before args s = true) (hy : y.cls ≠ "java/lang/invoke/MethodHandle" ∧ y.cls ≠ "java/lang/invoke/VarHandle")
    {W9 : Nat} {Pre : Pt → Array Value → Prop} {Post : Pt → Array Value → Option Value → Pt → Prop} (hK : Back l R p e below s args y 3 W9 Pre Post)
    {g : JFrame} (hg : g.method = m) (hsize : g.locals.size = c.maxLocals) {argsL rest : List Value} (hlen : ∀ sig, parseMethodDescriptor y.desc = some sig → argsL.length = sig.parameters.length)
    (hstack : g.stack = argsL.reverse ++ rest) (hW : 2 * g.monitorRoom + (rest.map fun v => v.category).sum ≤ W9) (hdg : decode c.code g.pc = .ok (.invokestatic index, 3))
    (hpre : ∀ vm₁, s.WarmedH vm₁ → Pre ⟨T.setVm vm₁, locs, cells, slots⟩ argsL.toArray) :
    ∃ (v : Option Value) (vm₁ : Vm) (B : Pt), s.WarmedH vm₁ ∧ Stand p l e R s m args below meth c B.U B.locs B.cells B.slots ∧ Post ⟨T.setVm vm₁, locs, cells, slots⟩ argsL.toArray v B ∧
      ∀ target, Steps p.tables e below (B.U.setTop { g with pc := g.pc + 3, stack := v.toList ++ rest }) target → Steps p.tables e below (T.setTop g) target := by
  obtain ⟨mk, methM, cM, hnamed, hmethM, -, -, -, -, -, -, hsigM⟩ := Cond.codeWith_spec hcode
  have hstatic : methM.isStatic = true := Cond.static_spec hnamed hmethM hstat
  obtain ⟨kP, hkP, -⟩ := className_of_methodNamed hnamed
  have hinitP : kP.init = .initialized := Cond.initialized_spec (findClass_of_methodNamed hnamed) hkP hinit
  obtain ⟨vm₁, X₁, hstep₁⟩ := X.invokestatic hexec hown hlink hnamed hmethM hstatic hkP hinitP hy (g := g) hg (argsL := argsL) (rest := rest) (hlen _ hsigM) hstack hdg
  obtain ⟨v, B, X', hpost, hsteps⟩ := hK m meth c ⟨T.setVm vm₁, locs, cells, slots⟩ { g with stack := rest } (.invokestatic index) mk argsL.toArray X₁ hg hsize hdg hW (X₁.named hnamed) (hpre vm₁ X₁.warmed)
  exact ⟨v, vm₁, B, X₁.warmed, X', hpost, fun target h => hstep₁ _ fun acts => by rw [doInvoke_state]; exact hsteps.trans h⟩
theorem vx_runSW {y : MethodName} {bytes cc : ByteArray} {maxL nL mc ms n index : Nat} {ret : Option FieldType} {hh : List (Nat × Nat × Nat × Nat)} {ws : List Cond} {rm : Room} {Pc : Array Value → State → Prop} {Qc : Array Value → State → Outcome → State → Prop} {free : Addr → Prop} {Ts : List Cond} {own : String} {As rest : List Value} {g : JFrame}
    (S : CallFix p m c cc nL s args Ts own) (hM : Met l y ws rm Pc Qc mc ms free) (cw : vx_CSW R s args own index y bytes maxL ret hh ws rm mc ms n) (hp : PreS s H Pc As)
    (hg : g.method = m) (hn : As.length = n) (hsize : g.locals.size = nL) (hstack : g.stack = As.reverse ++ rest) (hW : 2 * g.monitorRoom + (rest.map fun v => v.category).sum ≤ 8) (hdg : decode cc g.pc = .ok (.invokestatic index, 3)) (hf : cells + mc ≤ R.cells ∧ slots + ms ≤ R.slots) :
    va_Run p l e R s m args below meth c H locs cells slots mc ms g rest (Qc As.toArray) (free) := by
  obtain ⟨⟨hrc, hrs, hfr, hlo, hws, hcw⟩, hcode, hini, hy, hlen, hl, hstt⟩ := cw
  have hK : Back l R p e below s args y 3 8 (PreOf R mc ms Pc) (PostOf Qc mc ms free) := va_backW (hh := hh) (bytes := bytes) (maxL := maxL) (ret := ret) hM hp.1 hrc hrs hfr hlo hws hcw (fun a' U hW => word_at hW (Or.inl (by first | rfl | simp [Cond.onTables, Cond.keeps, Cond.steady])) hini)
  obtain ⟨hx, hb, hml, ho, -⟩ := S
  intro T hT X
  obtain ⟨v, vm₁, ⟨U', l2, c2, s2⟩, hW₁, X', ⟨g', mk, t, L, e1, e2, hq, h1, hL, h2, h3⟩, st⟩ := vx_callSW X hx (hh := hh) (bytes := bytes) (maxL := maxL) (ret := ret) ho hl hstt hini hcode hy hK hg (hsize.trans hml.symm) (argsL := As) (rest := rest) (fun sig h => hn.trans (hlen sig h)) hstack hW (by rw [hb]; exact hdg)
    (fun vm₁ hW₁ => ⟨hf.1, hf.2, hp.2 (T.setVm vm₁) hT hW₁⟩)
  dsimp only [Pt.U, Pt.locs, Pt.cells, Pt.slots] at X' e1 e2 h1 h2 h3 st
  subst h1; subst h2; subst h3
  exact ⟨v, (T.setVm vm₁).calling g' mk As.toArray, t, U', L, hT, X', hL, e1, e2, hq, st⟩
/-- not caught here, past rows that name other classes: it goes on to the caller -/
theorem vx_outP {p : Program} {l : Launch} {e : Env} {R : Room} {s : State} {m : MethodId} {args : Array Value} {below : List Frame} {meth : Method} {c : Code} {H : Heap} {locs : List Loc} {cells slots : Nat} {free : Addr → Prop} {ls : Array Slot} {rest : List Value} {Qc : Array Value → State → Outcome → State → Prop} {XC : String → State → State → Prop}
    {pc : Nat} {own E : String} {ce : Cell} {q : Addr} {mc ms : Nat} (hown : s.vm.findClass own = some m.cls) (hlocks : meth.locks = false)
    (hpass : ∀ z ∈ c.exceptionTable.toList, covers z pc = false ∨ (z.catchType ≠ 0 ∧ ∃ nm : String, (Cond.classLink own z.catchType nm).before args s = true ∧ va_Nc E nm s)) (hcell : H[q]? = some ce) (hv : ce.vm = .none) (hcl : s.vm.findClass E = some ce.cls)
    (hx : ∀ t : State, t.heap = H → s.vm.Alike t.vm → XC E s t) (hf : ∀ z ∈ locs, free z.base) (hc : cells ≤ mc) (hs : slots ≤ ms) :
    vx_W p l e R s m args below meth c H locs cells slots (vx_MQ below Qc XC args s mc ms free) (F0 m pc ls rest) q := by
  intro T hT X
  have hpl : e.platform.magicAccessors = ({} : Platform).magicAccessors := by rw [X.admits.platform]
  obtain ⟨vm', hW', X', st⟩ := X.outThrough hlocks q (g := F0 m pc ls rest) rfl rfl rfl (cell := ce) (by rw [hT]; exact hcell) (by rw [hv]; rfl)
    (by obtain ⟨k9, h9, -⟩ := Vm.findClass_spec hcl; exact ⟨k9, h9⟩) (fun z hz => by
      rcases hpass z hz with h | ⟨hz0, nm, hl1, hn1⟩
      · exact Or.inl h
      · obtain ⟨c6, hc6, hcl6⟩ := Cond.classLink_spec hown hl1 e.platform hpl
        obtain ⟨a8, b8, h1, h2, h3⟩ := hn1
        cases Option.some.inj (h1.symm.trans hcl)
        cases Option.some.inj (h2.symm.trans hc6)
        exact Or.inr ⟨hz0, _, hcl6, h3⟩)
  obtain ⟨g₀, hfr⟩ := X'.frames_eq
  have hcell9 : ((T.setVm vm').setFrames (.throwing q :: below)).heap[q]? = some ce := by
    show T.heap[q]? = some ce
    rw [hT]; exact hcell
  have hend : Ended ((T.setVm vm').setFrames (.throwing q :: below)) below (.threw q) := State.frames_setFrames _ (State.cur_lt_of_frames hfr)
  refine ⟨(T.setVm vm').setFrames (.throwing q :: below), ?_, .threw q, X'.here.running, hend, Or.inr ⟨q, rfl, E, ce, locs, hx _ hT (X'.ends _).1.alike, hcell9, hv, hcl, (X'.ends _).1, (X'.ends _).2.mono hc hs, hf⟩⟩
  rw [X.pushThrowing_eq]
  exact st
/-- a thing of a world lies in the heap -/
theorem vx_lt {D : va_G} {cl : List vw_C} {ws : va_W} {H1 : Heap} (h : va_P D cl ws H1) {k : Nat} {q : Nat × va_E} (hk : ws[k]? = some q) : q.1 < H1.size := (h k q hk).lt
end VXS
/-! ===== END ===== -/
/-! ===== BEGIN methods with a table of their own: called by a name, returning or throwing ===== -/
section VXH
/-! vx_backW, vx_callVX, vx_callSX, vx_callVW, vx_runVW, vx_runVX, vx_runSX, vx_ofWH follow the same proofs as their sisters above (Free/Laws.lean, Shelf42/LK1.lean); vx_outP calls Shelf42/NT130.lean (outThrough). -/
section
variable {l : Launch} {R : Room} {p : Program} {e : Env} {below : List Frame} {s : State} {sargs : Array Value} {y : MethodName} {len W9 : Nat}
theorem vx_backW {ws : List Cond} {rm : Room} {Pc : Array Value → State → Prop} {Qc : Array Value → State → Outcome → State → Prop} {XC : String → State → State → Prop} {mc ms : Nat} {free : Addr → Prop} {bytes : ByteArray} {maxL : Nat} {ret : Option FieldType} {hh : List (Nat × Nat × Nat × Nat)}
    (hM : vx_Met l y ws rm Pc Qc XC mc ms free) (hblind : FrameBlind Pc) (hrc : rm.cells = mc) (hrs : rm.slots = ms)
    (hframes : rm.frames + 1 ≤ R.frames) (hlocals : W9 + (maxL + 11) + rm.locals ≤ R.locals)
    (hws : ∀ w ∈ ws, ∀ a' U, s.WarmedH U.vm → w.before a' U = true) (hcode : Cond.codeWith y bytes maxL ret hh ∈ ws) (hinit : ∀ a' U, s.WarmedH U.vm → (Cond.initialized y.cls).before a' U = true) :
    vx_Back l R p e below s sargs y len W9 (PreOf R mc ms Pc) (PostOf Qc mc ms free) (vx_Post XC mc ms free) := by
  intro m meth c A g ig mk a X hg hsize hdg hW hn hp
  have h1 : (headSpec ws rm).pre.before a A.U = true := atoms_intro fun w hw => hws w hw _ _ X.warmed
  have h2 : (Cond.codeWith y bytes maxL ret hh).before a A.U = true := hws _ hcode _ _ X.warmed
  have h3 : (Cond.initialized y.cls).before a A.U = true := hinit _ _ X.warmed
  have h4 : A.cells + (headSpec ws rm).room.cells ≤ R.cells := by rw [show (headSpec ws rm).room.cells = mc from hrc]; exact hp.1
  have h5 : A.slots + (headSpec ws rm).room.slots ≤ R.slots := by rw [show (headSpec ws rm).room.slots = ms from hrs]; exact hp.2.1
  have hPc : Pc a (A.U.calling g mk a) := hblind _ _ _ _ hp.2.2
  obtain ⟨U, Ls, c0, s0⟩ := A
  dsimp only [Pt.U, Pt.locs, Pt.cells, Pt.slots] at h1 h2 h3 h4 h5 X hn hPc ⊢
  obtain ⟨m9, methY, cY, hn9, hmY, hcY, -, hlY, -⟩ := Cond.codeWith_spec h2
  cases Option.some.inj (hn9.symm.trans hn)
  obtain ⟨kY, hkY, -⟩ := className_of_methodNamed hn
  have hinitY : kY.init = .initialized := Cond.initialized_spec (findClass_of_methodNamed hn) hkY h3
  have h : At U g.method c below := by rw [hg]; exact X.here
  have hlocals9 : W9 + (maxL + 11) + (headSpec ws rm).room.locals ≤ R.locals := hlocals
  have happ : (headSpec ws rm).appliesLoose y e.platform (U.calling g mk a) = true :=
    Spec.appliesLoose_calling (g := g) h hdg hn hkY hinitY
      (X.room_calling (g := g) (R' := (headSpec ws rm).room) hsize hmY hcY hframes (by rw [hlY]; omega) h4 h5) h1
  obtain ⟨mid, hmid⟩ := h.above
  have hfr : (U.setTop g).frames = (.java g :: mid) ++ below := by rw [State.frames_setTop' g h.top, hmid]; rfl
  obtain ⟨o, s₂, hsteps, -, hend, hq⟩ := Steps.callFree hM p X.admits X.cas X.clock (acts := []) hfr happ hPc trivial
  have hq' : vx_Q Qc XC mc ms free a (U.calling g mk a) o s₂ := hq
  rw [State.frames_setTop' g h.top] at hend
  obtain ⟨g₀, hg0⟩ := Option.isSome_iff_exists.mp h.top
  obtain ⟨r, hr⟩ := State.topJava?_eq_some.mp hg0
  have hr' : (({ U with heap := s₂.heap, slotsUsed := s₂.slotsUsed } : State).setVm s₂.vm).frames = .java g₀ :: r := hr
  rcases hq' with ⟨hqc, L, hfe, hL⟩ | ⟨q, rfl, E, ce, L, hx, hce, hcv, hcl, hW₂, hsm, hL⟩
  · obtain ⟨⟨v, rfl⟩, hW₂, e2, q2, q3, q4, q5, q6⟩ := id hfe
    have e3 : s₂ = ({ (U.calling g mk a).setFrames s₂.frames with heap := s₂.heap, slotsUsed := s₂.slotsUsed } : State).setVm s₂.vm := by
      have : s₂ = ({ s₂ with vm := (U.calling g mk a).vm } : State).setVm s₂.vm := rfl
      rw [e2] at this
      exact this
    obtain ⟨c₂, i₂, len₂, hc₂, hd₂, hf₂⟩ := hend
    have hW' : U.WarmedH s₂.vm := hW₂
    have hcc : c₂ = c := by
      have h1 : s₂.code? g.method = U.code? g.method := by
        rw [State.code?_eq, State.code?_eq, hW'.alike.method?]
      exact Option.some.inj (hc₂.symm.trans (h1.trans h.code))
    subst hcc
    have hlen : len₂ = len := by rw [hdg] at hd₂; cases hd₂; rfl
    subst hlen
    have hs₂ : s₂ = (({ U with heap := s₂.heap, slotsUsed := s₂.slotsUsed } : State).setVm s₂.vm).setTop { g with pc := g.pc + len₂, stack := v.toList ++ g.stack } := by
      refine e3.trans ?_
      rw [hf₂, State.calling_eq h.top, State.setFrames_setFrames, State.setTop_of_frames _ hr', hr]
      rfl
    have hsame : U.sameButNew ({ U with heap := s₂.heap, slotsUsed := s₂.slotsUsed } : State) L mc ms := by
      refine ⟨?_, q2, q3, q4, q5, q6⟩
      obtain ⟨t, ht, -⟩ := State.frames_cons hr
      show ({ U with heap := s₂.heap, slotsUsed := s₂.slotsUsed } : State) = { U.setFrames U.frames with heap := s₂.heap, slotsUsed := s₂.slotsUsed }
      rw [State.setFrames_self ht]
    subst hg
    refine Or.inl ⟨v, ⟨(({ U with heap := s₂.heap, slotsUsed := s₂.slotsUsed } : State).setVm s₂.vm), Ls ++ L, c0 + mc, s0 + ms⟩,
      ⟨X.admits, X.cas, X.clock, X.frames, X.room, X.hears, X.method, X.code, (X.here.setHeapUsed s₂.heap s₂.slotsUsed).setVm hW'.alike, X.tail, State.WarmedH.trans X.warmed hW', X.limits, X.bytes, X.same.trans (hsame.setVm s.vm)⟩,
      ⟨g, mk, s₂, L, rfl, rfl, hqc, rfl, hL, rfl, rfl⟩, ?_⟩
    show Steps p.tables e below _ ((({ U with heap := s₂.heap, slotsUsed := s₂.slotsUsed } : State).setVm s₂.vm).setTop { g with pc := g.pc + len₂, stack := v.toList ++ g.stack })
    rw [← hs₂]
    exact hsteps
  · obtain ⟨e2, q2, q3, q4, q5, q6⟩ := id hsm
    have e3 : s₂ = ({ (U.calling g mk a).setFrames s₂.frames with heap := s₂.heap, slotsUsed := s₂.slotsUsed } : State).setVm s₂.vm := by
      have : s₂ = ({ s₂ with vm := (U.calling g mk a).vm } : State).setVm s₂.vm := rfl
      rw [e2] at this
      exact this
    have hf₂ : s₂.frames = .throwing q :: .java g :: U.frames.tail := hend
    have hW' : U.WarmedH s₂.vm := hW₂
    have hs₂ : s₂ = ((({ U with heap := s₂.heap, slotsUsed := s₂.slotsUsed } : State).setVm s₂.vm).setTop g).pushFrame (.throwing q) := by
      refine e3.trans ?_
      rw [hf₂, State.calling_eq h.top, State.setFrames_setFrames, State.pushFrame, State.frames_setTop _ hr', State.setTop_of_frames _ hr', State.setFrames_setFrames, hr]
      rfl
    have hsame : U.sameButNew ({ U with heap := s₂.heap, slotsUsed := s₂.slotsUsed } : State) L mc ms := by
      refine ⟨?_, q2, q3, q4, q5, q6⟩
      obtain ⟨t, ht, -⟩ := State.frames_cons hr
      show ({ U with heap := s₂.heap, slotsUsed := s₂.slotsUsed } : State) = { U.setFrames U.frames with heap := s₂.heap, slotsUsed := s₂.slotsUsed }
      rw [State.setFrames_self ht]
    subst hg
    refine Or.inr ⟨q, ⟨(({ U with heap := s₂.heap, slotsUsed := s₂.slotsUsed } : State).setVm s₂.vm), Ls ++ L, c0 + mc, s0 + ms⟩,
      ⟨X.admits, X.cas, X.clock, X.frames, X.room, X.hears, X.method, X.code, (X.here.setHeapUsed s₂.heap s₂.slotsUsed).setVm hW'.alike, X.tail, State.WarmedH.trans X.warmed hW', X.limits, X.bytes, X.same.trans (hsame.setVm s.vm)⟩,
      ⟨g, mk, s₂, L, E, ce, rfl, rfl, hx, hce, hcv, hcl, rfl, hL, rfl, rfl⟩, ?_⟩
    show Steps p.tables e below _ (((({ U with heap := s₂.heap, slotsUsed := s₂.slotsUsed } : State).setVm s₂.vm).setTop g).pushFrame (.throwing q))
    rw [← hs₂]
    exact hsteps
end
variable {p : Program} {l : Launch} {e : Env} {R : Room} {s : State} {m : MethodId} {args : Array Value} {below : List Frame} {meth : Method} {c : Code} {T : State} {H : Heap} {locs : List Loc} {cells slots : Nat}
theorem vx_callVX (X : Stand p l e R s m args below meth c T locs cells slots) (hexec : p.tables.exec = Jvm.exec) {own C : String} {index : Nat} {y : MethodName} {bytes : ByteArray} {maxL : Nat} {ret : Option FieldType} {hh : List (Nat × Nat × Nat × Nat)}
    (hown : s.vm.findClass own = some m.cls) (hlink : (Cond.methodLink own index y).before args s = true) (hinst : (Cond.instanceMethod y).before args s = true) (hsel : (Cond.selects C y y).before args s = true)
    (hcode : (Cond.codeWith y bytes maxL ret hh).before args s = true) (hy : y.cls ≠ "java/lang/invoke/MethodHandle" ∧ y.cls ≠ "java/lang/invoke/VarHandle")
    {W9 : Nat} {Pre : Pt → Array Value → Prop} {Post : Pt → Array Value → Option Value → Pt → Prop} {PostX : Pt → Array Value → Addr → Pt → Prop} (hK : vx_Back l R p e below s args y 3 W9 Pre Post PostX)
    {b : Addr} {cellB : Cell} (hcell : T.heap[b]? = some cellB) (hobj : cellB.vm.isStatics = false) (hcls : s.vm.findClass C = some cellB.cls)
    {g : JFrame} (hg : g.method = m) (hsize : g.locals.size = c.maxLocals) {argsL rest : List Value} (hlen : ∀ sig, parseMethodDescriptor y.desc = some sig → argsL.length = sig.parameters.length)
    (hstack : g.stack = argsL.reverse ++ .ref b :: rest) (hW : 2 * g.monitorRoom + (rest.map fun v => v.category).sum ≤ W9) (hdg : decode c.code g.pc = .ok (.invokevirtual index, 3))
    (hpre : ∀ vm₁, s.WarmedH vm₁ → Pre ⟨T.setVm vm₁, locs, cells, slots⟩ (Value.ref b :: argsL).toArray) :
    (∃ (v : Option Value) (vm₁ : Vm) (B : Pt), s.WarmedH vm₁ ∧ Stand p l e R s m args below meth c B.U B.locs B.cells B.slots ∧ Post ⟨T.setVm vm₁, locs, cells, slots⟩ (Value.ref b :: argsL).toArray v B ∧
      ∀ target, Steps p.tables e below (B.U.setTop { g with pc := g.pc + 3, stack := v.toList ++ rest }) target → Steps p.tables e below (T.setTop g) target) ∨
    (∃ (q : Addr) (vm₁ : Vm) (B : Pt), s.WarmedH vm₁ ∧ Stand p l e R s m args below meth c B.U B.locs B.cells B.slots ∧ PostX ⟨T.setVm vm₁, locs, cells, slots⟩ (Value.ref b :: argsL).toArray q B ∧
      Steps p.tables e below (T.setTop g) ((B.U.setTop { g with stack := rest }).pushFrame (.throwing q))) := by
  obtain ⟨mk, methM, hnamed, hmethM, hstM, habM⟩ := Cond.instanceMethod_spec hinst
  obtain ⟨m8, methM', cM, hn8, hmethM', -, -, -, -, -, -, hsigM⟩ := Cond.codeWith_spec hcode
  cases Option.some.inj (hn8.symm.trans hnamed)
  cases hmethM.symm.trans hmethM'
  obtain ⟨c2, r2, m2, q1, q2, q3, q4, kP, hkP, hkPi⟩ := Cond.selects_spec hsel
  cases hcls.symm.trans q1
  cases (State.methodFound?_of_named hnamed hy).symm.trans q2
  cases hnamed.symm.trans q3
  have hselP : selectMethod e.platform s.vm cellB.cls mk = .method mk := by rw [Launch.admits_selectMethod X.admits]; exact q4
  obtain ⟨vm₁, X₁, hstep₁⟩ := X.invokevirtual hexec hown hlink hnamed hmethM hstM hkP hkPi hy (a := b) (cell := cellB) hcell
    (fun z h => by rw [h] at hobj; cases hobj) hselP hmethM habM hkP hkPi (g := g) hg (argsL := argsL) (rest := rest) (hlen _ hsigM) hstack hdg
  rcases hK m meth c ⟨T.setVm vm₁, locs, cells, slots⟩ { g with stack := rest } (.invokevirtual index) mk (Value.ref b :: argsL).toArray X₁ hg hsize hdg hW (X₁.named hnamed) (hpre vm₁ X₁.warmed) with ⟨v, B, X', hpost, hsteps⟩ | ⟨q, B, X', hpost, hsteps⟩
  · exact Or.inl ⟨v, vm₁, B, X₁.warmed, X', hpost, fun target h => hstep₁ _ fun acts => by rw [doInvoke_state]; exact hsteps.trans h⟩
  · exact Or.inr ⟨q, vm₁, B, X₁.warmed, X', hpost, hstep₁ _ fun acts => by rw [doInvoke_state]; exact hsteps⟩
theorem vx_callSX (X : Stand p l e R s m args below meth c T locs cells slots) (hexec : p.tables.exec = Jvm.exec) {own : String} {index : Nat} {y : MethodName} {bytes : ByteArray} {maxL : Nat} {ret : Option FieldType} {hh : List (Nat × Nat × Nat × Nat)}
    (hown : s.vm.findClass own = some m.cls) (hlink : (Cond.methodLink own index y).before args s = true) (hstat : (Cond.static y).before args s = true) (hinit : (Cond.initialized y.cls).before args s = true)
    (hcode : (Cond.codeWith y bytes maxL ret hh).before args s = true) (hy : y.cls ≠ "java/lang/invoke/MethodHandle" ∧ y.cls ≠ "java/lang/invoke/VarHandle")
    {W9 : Nat} {Pre : Pt → Array Value → Prop} {Post : Pt → Array Value → Option Value → Pt → Prop} {PostX : Pt → Array Value → Addr → Pt → Prop} (hK : vx_Back l R p e below s args y 3 W9 Pre Post PostX)
    {g : JFrame} (hg : g.method = m) (hsize : g.locals.size = c.maxLocals) {argsL rest : List Value} (hlen : ∀ sig, parseMethodDescriptor y.desc = some sig → argsL.length = sig.parameters.length)
    (hstack : g.stack = argsL.reverse ++ rest) (hW : 2 * g.monitorRoom + (rest.map fun v => v.category).sum ≤ W9) (hdg : decode c.code g.pc = .ok (.invokestatic index, 3))
    (hpre : ∀ vm₁, s.WarmedH vm₁ → Pre ⟨T.setVm vm₁, locs, cells, slots⟩ argsL.toArray) :
    (∃ (v : Option Value) (vm₁ : Vm) (B : Pt), s.WarmedH vm₁ ∧ Stand p l e R s m args below meth c B.U B.locs B.cells B.slots ∧ Post ⟨T.setVm vm₁, locs, cells, slots⟩ argsL.toArray v B ∧
      ∀ target, Steps p.tables e below (B.U.setTop { g with pc := g.pc + 3, stack := v.toList ++ rest }) target → Steps p.tables e below (T.setTop g) target) ∨
    (∃ (q : Addr) (vm₁ : Vm) (B : Pt), s.WarmedH vm₁ ∧ Stand p l e R s m args below meth c B.U B.locs B.cells B.slots ∧ PostX ⟨T.setVm vm₁, locs, cells, slots⟩ argsL.toArray q B ∧
      Steps p.tables e below (T.setTop g) ((B.U.setTop { g with stack := rest }).pushFrame (.throwing q))) := by
  obtain ⟨mk, methM, cM, hnamed, hmethM, -, -, -, -, -, -, hsigM⟩ := Cond.codeWith_spec hcode
  have hstatic : methM.isStatic = true := Cond.static_spec hnamed hmethM hstat
  obtain ⟨kP, hkP, -⟩ := className_of_methodNamed hnamed
  have hinitP : kP.init = .initialized := Cond.initialized_spec (findClass_of_methodNamed hnamed) hkP hinit
  obtain ⟨vm₁, X₁, hstep₁⟩ := X.invokestatic hexec hown hlink hnamed hmethM hstatic hkP hinitP hy (g := g) hg (argsL := argsL) (rest := rest) (hlen _ hsigM) hstack hdg
  rcases hK m meth c ⟨T.setVm vm₁, locs, cells, slots⟩ { g with stack := rest } (.invokestatic index) mk argsL.toArray X₁ hg hsize hdg hW (X₁.named hnamed) (hpre vm₁ X₁.warmed) with ⟨v, B, X', hpost, hsteps⟩ | ⟨q, B, X', hpost, hsteps⟩
  · exact Or.inl ⟨v, vm₁, B, X₁.warmed, X', hpost, fun target h => hstep₁ _ fun acts => by rw [doInvoke_state]; exact hsteps.trans h⟩
  · exact Or.inr ⟨q, vm₁, B, X₁.warmed, X', hpost, hstep₁ _ fun acts => by rw [doInvoke_state]; exact hsteps⟩
theorem vx_callVW (X : Stand p l e R s m args below meth c T locs cells slots) (hexec : p.tables.exec = Jvm.exec) {own C : String} {index : Nat} {y : MethodName} {bytes : ByteArray} {maxL : Nat} {ret : Option FieldType} {hh : List (Nat × Nat × Nat × Nat)}
    (hown : s.vm.findClass own = some m.cls) (hlink : (Cond.methodLink own index y).before args s = true) (hinst : (Cond.instanceMethod y).before args s = true) (hsel : (Cond.selects C y y).before args s = true)
    (hcode : (Cond.codeWith y bytes maxL ret hh).before args s = true) (hy : y.cls ≠ "java/lang/invoke/MethodHandle" ∧ y.cls ≠ "java/lang/invoke/VarHandle")
    {W9 : Nat} {Pre : Pt → Array Value → Prop} {Post : Pt → Array Value → Option Value → Pt → Prop} (hK : Back l R p e below s args y 3 W9 Pre Post)
    {b : Addr} {cellB : Cell} (hcell : T.heap[b]? = some cellB) (hobj : cellB.vm.isStatics = false) (hcls : s.vm.findClass C = some cellB.cls)
    {g : JFrame} (hg : g.method = m) (hsize : g.locals.size = c.maxLocals) {argsL rest : List Value} (hlen : ∀ sig, parseMethodDescriptor y.desc = some sig → argsL.length = sig.parameters.length)
    (hstack : g.stack = argsL.reverse ++ .ref b :: rest) (hW : 2 * g.monitorRoom + (rest.map fun v => v.category).sum ≤ W9) (hdg : decode c.code g.pc = .ok (.invokevirtual index, 3))
    (hpre : ∀ vm₁, s.WarmedH vm₁ → Pre ⟨T.setVm vm₁, locs, cells, slots⟩ (Value.ref b :: argsL).toArray) :
    ∃ (v : Option Value) (vm₁ : Vm) (B : Pt), s.WarmedH vm₁ ∧ Stand p l e R s m args below meth c B.U B.locs B.cells B.slots ∧ Post ⟨T.setVm vm₁, locs, cells, slots⟩ (Value.ref b :: argsL).toArray v B ∧
      ∀ target, Steps p.tables e below (B.U.setTop { g with pc := g.pc + 3, stack := v.toList ++ rest }) target → Steps p.tables e below (T.setTop g) target := by
  obtain ⟨mk, methM, hnamed, hmethM, hstM, habM⟩ := Cond.instanceMethod_spec hinst
  obtain ⟨m8, methM', cM, hn8, hmethM', -, -, -, -, -, -, hsigM⟩ := Cond.codeWith_spec hcode
  cases Option.some.inj (hn8.symm.trans hnamed)
  cases hmethM.symm.trans hmethM'
  obtain ⟨c2, r2, m2, q1, q2, q3, q4, kP, hkP, hkPi⟩ := Cond.selects_spec hsel
  cases hcls.symm.trans q1
  cases (State.methodFound?_of_named hnamed hy).symm.trans q2
  cases hnamed.symm.trans q3
  have hselP : selectMethod e.platform s.vm cellB.cls mk = .method mk := by rw [Launch.admits_selectMethod X.admits]; exact q4
  obtain ⟨vm₁, X₁, hstep₁⟩ := X.invokevirtual hexec hown hlink hnamed hmethM hstM hkP hkPi hy (a := b) (cell := cellB) hcell
    (fun z h => by rw [h] at hobj; cases hobj) hselP hmethM habM hkP hkPi (g := g) hg (argsL := argsL) (rest := rest) (hlen _ hsigM) hstack hdg
  obtain ⟨v, B, X', hpost, hsteps⟩ := hK m meth c ⟨T.setVm vm₁, locs, cells, slots⟩ { g with stack := rest } (.invokevirtual index) mk (Value.ref b :: argsL).toArray X₁ hg hsize hdg hW (X₁.named hnamed) (hpre vm₁ X₁.warmed)
  exact ⟨v, vm₁, B, X₁.warmed, X', hpost, fun target h => hstep₁ _ fun acts => by rw [doInvoke_state]; exact hsteps.trans h⟩
abbrev vx_CVW (R : Room) (s : State) (args : Array Value) (own C : String) (index : Nat) (y : MethodName) (bytes : ByteArray) (maxL : Nat) (ret : Option FieldType) (hh : List (Nat × Nat × Nat × Nat)) (ws : List Cond) (rm : Room) (mc ms n : Nat) : Prop :=
  (rm.cells = mc ∧ rm.slots = ms ∧ rm.frames + 1 ≤ R.frames ∧ 8 + (maxL + 11) + rm.locals ≤ R.locals ∧ (∀ w ∈ ws, ∀ (a' : Array Value) (U : State), s.WarmedH U.vm → w.before a' U = true) ∧ Cond.codeWith y bytes maxL ret hh ∈ ws) ∧
  (Cond.codeWith y bytes maxL ret hh).before args s = true ∧ (Cond.initialized y.cls).before args s = true ∧ (y.cls ≠ "java/lang/invoke/MethodHandle" ∧ y.cls ≠ "java/lang/invoke/VarHandle") ∧
  (∀ sig, parseMethodDescriptor y.desc = some sig → n = sig.parameters.length) ∧ (Cond.methodLink own index y).before args s = true ∧ (Cond.instanceMethod y).before args s = true ∧ (Cond.selects C y y).before args s = true
theorem vx_cwVW {own C : String} {index maxL mc ms : Nat} {y : MethodName} {bytes : ByteArray} {ret : Option FieldType} {hh : List (Nat × Nat × Nat × Nat)} {Ts ws ws' : List Cond} {rm : Room} (n : Nat) (ht : ∀ w ∈ Ts, w.before args s = true) (hT : GoodIn Ts (wsV own index C y ws)) (hw : ws = Cond.codeWith y bytes maxL ret hh :: ws') (hrc : rm.cells = mc) (hrs : rm.slots = ms)
    (hd : y.cls = C ∧ y.cls ≠ "java/lang/invoke/MethodHandle" ∧ y.cls ≠ "java/lang/invoke/VarHandle" ∧ (parseMethodDescriptor y.desc).map (fun d => d.parameters.length) = some n) (hR : rm.frames + 1 ≤ R.frames ∧ 8 + (maxL + 11) + rm.locals ≤ R.locals) :
    vx_CVW R s args own C index y bytes maxL ret hh ws rm mc ms n := by
  obtain ⟨hC, hd⟩ := hd
  subst hC
  have ok : ∀ w ∈ wsV own index y.cls y ws, w.before args s = true := fun w h => ht w (hT w h).1
  have hG : GoodIn Ts ws := fun w h => hT w (by unfold wsV; exact List.mem_append_right _ h)
  have hc : Cond.codeWith y bytes maxL ret hh ∈ ws := by rw [hw]; exact List.mem_cons_self
  refine ⟨⟨hrc, hrs, hR.1, hR.2, pay_in ht hG, hc⟩, ht _ (hG _ hc).1, ok _ (by simp [wsV]), ⟨hd.1, hd.2.1⟩, fun sig h => ?_, ok _ (by simp [wsV]), ok _ (by simp [wsV]), ok _ (by simp [wsV])⟩
  have h2 := hd.2.2
  rw [h] at h2
  exact (Option.some.inj h2).symm
theorem vx_runVW {y : MethodName} {bytes cc : ByteArray} {maxL nL mc ms n index : Nat} {ret : Option FieldType} {hh : List (Nat × Nat × Nat × Nat)} {ws : List Cond} {rm : Room} {Pc : Array Value → State → Prop} {Qc : Array Value → State → Outcome → State → Prop} {free : Addr → Prop} {Ts : List Cond} {own C : String} {b : Addr} {As rest : List Value} {g : JFrame}
    (S : CallFix p m c cc nL s args Ts own) (hM : Met l y ws rm Pc Qc mc ms free) (cw : vx_CVW R s args own C index y bytes maxL ret hh ws rm mc ms n) (hp : PreV s H C b Pc As)
    (hg : g.method = m) (hn : As.length = n) (hsize : g.locals.size = nL) (hstack : g.stack = As.reverse ++ .ref b :: rest) (hW : 2 * g.monitorRoom + (rest.map fun v => v.category).sum ≤ 8) (hdg : decode cc g.pc = .ok (.invokevirtual index, 3)) (hf : cells + mc ≤ R.cells ∧ slots + ms ≤ R.slots) :
    va_Run p l e R s m args below meth c H locs cells slots mc ms g rest (Qc (Value.ref b :: As).toArray) free := by
  obtain ⟨⟨hrc, hrs, hfr, hlo, hws, hcw⟩, hcode, hini, hy, hlen, hl, hin, hse⟩ := cw
  have hK : Back l R p e below s args y 3 8 (PreOf R mc ms Pc) (PostOf Qc mc ms free) := va_backW (hh := hh) (bytes := bytes) (maxL := maxL) (ret := ret) hM hp.1 hrc hrs hfr hlo hws hcw (fun a' U hW => word_at hW (Or.inl (by first | rfl | simp [Cond.onTables, Cond.keeps, Cond.steady])) hini)
  obtain ⟨hx, hb, hml, ho, -⟩ := S
  obtain ⟨-, ⟨cellB, hcB, hoB, hclB⟩, hPc⟩ := hp
  intro T hT X
  obtain ⟨v, vm₁, ⟨U', l2, c2, s2⟩, hW₁, X', ⟨g', mk, t, L, e1, e2, hq, h1, hL, h2, h3⟩, st⟩ := vx_callVW X hx (C := C) (hh := hh) (bytes := bytes) (maxL := maxL) (ret := ret) ho hl hin hse hcode hy hK (by rw [hT]; exact hcB) hoB hclB hg (hsize.trans hml.symm) (argsL := As) (rest := rest) (fun sig h => hn.trans (hlen sig h)) hstack hW (by rw [hb]; exact hdg)
    (fun vm₁ hW₁ => ⟨hf.1, hf.2, hPc (T.setVm vm₁) hT hW₁⟩)
  dsimp only [Pt.U, Pt.locs, Pt.cells, Pt.slots] at X' e1 e2 h1 h2 h3 st
  subst h1; subst h2; subst h3
  exact ⟨v, (T.setVm vm₁).calling g' mk (Value.ref b :: As).toArray, t, U', L, hT, X', hL, e1, e2, hq, st⟩
section
variable {y : MethodName} {bytes cc : ByteArray} {maxL nL mc ms n index : Nat} {ret : Option FieldType} {ws : List Cond} {rm : Room} {Pc : Array Value → State → Prop} {Qc : Array Value → State → Outcome → State → Prop} {XC : String → State → State → Prop} {free : Addr → Prop} {Ts : List Cond} {own C : String} {b : Addr} {As rest : List Value} {g : JFrame}
theorem vx_runVX {hh : List (Nat × Nat × Nat × Nat)} (S : CallFix p m c cc nL s args Ts own) (hM : vx_Met l y ws rm Pc Qc XC mc ms free) (cw : vx_CVW R s args own C index y bytes maxL ret hh ws rm mc ms n) (hp : PreV s H C b Pc As)
    (hg : g.method = m) (hn : As.length = n) (hsize : g.locals.size = nL) (hstack : g.stack = As.reverse ++ .ref b :: rest) (hW : 2 * g.monitorRoom + (rest.map fun v => v.category).sum ≤ 8) (hdg : decode cc g.pc = .ok (.invokevirtual index, 3)) (hf : cells + mc ≤ R.cells ∧ slots + ms ≤ R.slots) :
    vx_Run p l e R s m args below meth c H locs cells slots mc ms g rest (Qc (Value.ref b :: As).toArray) XC free := by
  obtain ⟨⟨hrc, hrs, hfr, hlo, hws, hcw⟩, hcode, hini, hy, hlen, hl, hin, hse⟩ := cw
  have hK : vx_Back l R p e below s args y 3 8 (PreOf R mc ms Pc) (PostOf Qc mc ms free) (vx_Post XC mc ms free) := vx_backW (hh := hh) (bytes := bytes) (maxL := maxL) (ret := ret) hM hp.1 hrc hrs hfr hlo hws hcw (fun a' U hW => word_at hW (Or.inl (by first | rfl | simp [Cond.onTables, Cond.keeps, Cond.steady])) hini)
  obtain ⟨hx, hb, hml, ho, -⟩ := S
  obtain ⟨-, ⟨cellB, hcB, hoB, hclB⟩, hPc⟩ := hp
  intro T hT X
  rcases vx_callVX X hx (C := C) (hh := hh) (bytes := bytes) (maxL := maxL) (ret := ret) ho hl hin hse hcode hy hK (by rw [hT]; exact hcB) hoB hclB hg (hsize.trans hml.symm) (argsL := As) (rest := rest) (fun sig h => hn.trans (hlen sig h)) hstack hW (by rw [hb]; exact hdg)
    (fun vm₁ hW₁ => ⟨hf.1, hf.2, hPc (T.setVm vm₁) hT hW₁⟩) with ⟨v, vm₁, ⟨U', l2, c2, s2⟩, hW₁, X', ⟨g', mk, t, L, e1, e2, hq, h1, hL, h2, h3⟩, st⟩ | ⟨q, vm₁, ⟨U', l2, c2, s2⟩, hW₁, X', ⟨g', mk, t, L, E, ce, e1, e2, hq, hce, hcv, hcl, h1, hL, h2, h3⟩, st⟩
  · dsimp only [Pt.U, Pt.locs, Pt.cells, Pt.slots] at X' e1 e2 h1 h2 h3 st
    subst h1; subst h2; subst h3
    exact Or.inl ⟨v, (T.setVm vm₁).calling g' mk (Value.ref b :: As).toArray, t, U', L, hT, X', hL, e1, e2, hq, st⟩
  · dsimp only [Pt.U, Pt.locs, Pt.cells, Pt.slots] at X' e1 e2 h1 h2 h3 st hcl
    subst h1; subst h2; subst h3
    exact Or.inr ⟨q, (T.setVm vm₁).calling g' mk (Value.ref b :: As).toArray, t, U', L, E, ce, hT, X', hL, e1, e2, hq, hce, hcv, vx_cls hW₁ hcl, st⟩
theorem vx_runSX {hh : List (Nat × Nat × Nat × Nat)} (S : CallFix p m c cc nL s args Ts own) (hM : vx_Met l y ws rm Pc Qc XC mc ms free) (cw : vx_CSW R s args own index y bytes maxL ret hh ws rm mc ms n) (hp : PreS s H Pc As)
    (hg : g.method = m) (hn : As.length = n) (hsize : g.locals.size = nL) (hstack : g.stack = As.reverse ++ rest) (hW : 2 * g.monitorRoom + (rest.map fun v => v.category).sum ≤ 8) (hdg : decode cc g.pc = .ok (.invokestatic index, 3)) (hf : cells + mc ≤ R.cells ∧ slots + ms ≤ R.slots) :
    vx_Run p l e R s m args below meth c H locs cells slots mc ms g rest (Qc As.toArray) XC free := by
  obtain ⟨⟨hrc, hrs, hfr, hlo, hws, hcw⟩, hcode, hini, hy, hlen, hl, hstt⟩ := cw
  have hK : vx_Back l R p e below s args y 3 8 (PreOf R mc ms Pc) (PostOf Qc mc ms free) (vx_Post XC mc ms free) := vx_backW (hh := hh) (bytes := bytes) (maxL := maxL) (ret := ret) hM hp.1 hrc hrs hfr hlo hws hcw (fun a' U hW => word_at hW (Or.inl (by first | rfl | simp [Cond.onTables, Cond.keeps, Cond.steady])) hini)
  obtain ⟨hx, hb, hml, ho, -⟩ := S
  intro T hT X
  rcases vx_callSX X hx (hh := hh) (bytes := bytes) (maxL := maxL) (ret := ret) ho hl hstt hini hcode hy hK hg (hsize.trans hml.symm) (argsL := As) (rest := rest) (fun sig h => hn.trans (hlen sig h)) hstack hW (by rw [hb]; exact hdg)
    (fun vm₁ hW₁ => ⟨hf.1, hf.2, hp.2 (T.setVm vm₁) hT hW₁⟩) with ⟨v, vm₁, ⟨U', l2, c2, s2⟩, hW₁, X', ⟨g', mk, t, L, e1, e2, hq, h1, hL, h2, h3⟩, st⟩ | ⟨q, vm₁, ⟨U', l2, c2, s2⟩, hW₁, X', ⟨g', mk, t, L, E, ce, e1, e2, hq, hce, hcv, hcl, h1, hL, h2, h3⟩, st⟩
  · dsimp only [Pt.U, Pt.locs, Pt.cells, Pt.slots] at X' e1 e2 h1 h2 h3 st
    subst h1; subst h2; subst h3
    exact Or.inl ⟨v, (T.setVm vm₁).calling g' mk As.toArray, t, U', L, hT, X', hL, e1, e2, hq, st⟩
  · dsimp only [Pt.U, Pt.locs, Pt.cells, Pt.slots] at X' e1 e2 h1 h2 h3 st hcl
    subst h1; subst h2; subst h3
    exact Or.inr ⟨q, (T.setVm vm₁).calling g' mk As.toArray, t, U', L, E, ce, hT, X', hL, e1, e2, hq, hce, hcv, vx_cls hW₁ hcl, st⟩
end
end VXH
theorem vx_ofWH {l : Launch} {y : MethodName} {ws ws' : List Cond} {rm : Room} {Pc : Array Value → State → Prop} {Qc : Array Value → State → Outcome → State → Prop} {XC : String → State → State → Prop} {mc ms : Nat} {free : Addr → Prop} {cc : ByteArray} {maxL : Nat} {ret : Option FieldType} {hh : List (Nat × Nat × Nat × Nat)}
    (hy : plainName y.cls = true) (hw : ws = Cond.codeWith y cc maxL ret hh :: ws')
    (body : ∀ p e s m args below meth c s₁, BodyLoose p l y (headSpec ws rm) cc maxL ret e s m args below meth c s₁ → c.maxLocals = maxL → Pc args s →
      W p l e (headSpec ws rm).room s m args below meth c s.heap [] 0 0 (vx_MQ below Qc XC args s mc ms free) (entryFrame m args maxL)) : vx_Met l y ws rm Pc Qc XC mc ms free := by
  refine MetFree.of_bodyS (code := cc) (maxLocals := maxL) (ret := ret) hy ?_ ?_
  · intro args s m h hn
    obtain ⟨m9, meth, c, hn9, h1, h2, h3, h4, -, h5, h6, -⟩ := Cond.codeWith_spec (atoms_spec (ws := ws) h _ (by rw [hw]; exact List.mem_cons_self))
    cases hn.symm.trans hn9
    exact ⟨meth, c, h1, h2, h3, h4, h5, h6⟩
  · intro p e s m args below meth c s₁ B hml hP _
    have hh0 : s₁.heap = s.heap := by rw [B.state]; rfl
    obtain ⟨t, a1, o, b1, b2, b3⟩ := body p e s m args below meth c s₁ B hml hP s₁ hh0 (Stand.of_body B)
    exact ⟨t, o, a1, b1, b2, b3⟩
/-! ===== END ===== -/

/-! ===== BEGIN printed: names, fields, word lists, decode rows ===== -/
/-! ===== WG: the good words of the tables; OW: links to nest mates and casts ===== -/
def WG : List Cond := lw_tbl.filter goodWord
def jOw (w : Cond) : Bool := match w with
  | .fieldLinkNest .. => true
  | .methodLinkNest .. => true
  | .castable .. => true
  | .declares .. => true
  | _ => false
def OW : List Cond := lw_tbl.filter jOw
theorem wg_of {w : Cond} (i : Nat) (h : lw_tbl[i]? = some w) (hg : goodWord w = true) : w ∈ WG := List.mem_filter.mpr ⟨List.mem_of_getElem? h, hg⟩
theorem ow_of {w : Cond} (i : Nat) (h : lw_tbl[i]? = some w) (hg : jOw w = true) : w ∈ OW := List.mem_filter.mpr ⟨List.mem_of_getElem? h, hg⟩
theorem wg_good : ∀ w ∈ WG, (w.onTables && w.keeps) = true ∨ ∃ ty, w = .arrayClass ty := fun _ h => good_of_word (List.mem_filter.mp h).2
theorem wg_in : ∀ w ∈ WG, w ∈ lw_tbl := fun _ h => (List.mem_filter.mp h).1
theorem ow_in : ∀ w ∈ OW, w ∈ lw_tbl := fun _ h => (List.mem_filter.mp h).1
theorem wg_self {y : Cond} (h : y ∈ WG) : GoodIn WG (y :: WG) := fun w hw => (List.mem_cons.mp hw).elim (fun e => ⟨e ▸ h, wg_good w (e ▸ h)⟩) (fun h => ⟨h, wg_good w h⟩)
theorem wg_list {ws : List Cond} (h : ∀ w ∈ ws, w ∈ WG) : GoodIn WG ws := fun w hw => ⟨h w hw, wg_good w (h w hw)⟩
theorem wg_warm {s U : State} {A A' : Array Value} (hW : s.WarmedH U.vm) (h : ∀ w ∈ WG, w.before A s = true) : ∀ w ∈ WG, w.before A' U = true := fun w hw => word_at hW (wg_good w hw) (h w hw)
theorem ow_warm {s U : State} (hW : s.WarmedH U.vm) (h : ∀ w ∈ OW, va_Nw w s) : ∀ w ∈ OW, va_Nw w U := by
  intro w hw
  have h1 := h w hw
  have h2 := (List.mem_filter.mp hw).2
  cases w <;> first | exact va_Nw.warmF hW h1 | exact va_Nw.warmM hW h1 | exact va_Nw.warmC hW h1 | exact va_tabs rfl (rfl : (s.setVm U.vm).vm = U.vm) (by rw [Cond.declares_setVm hW.alike]; exact h1) | cases h2
theorem ow_tabs : ∀ w ∈ OW, w.onTables = true := by
  intro w hw
  have h2 := (List.mem_filter.mp hw).2
  cases w <;> first | rfl | cases h2
end
section
def RX0 : String := "TideTablePainters$Board"
def TX0 : u_T := fun k => match k with
  | 0 => ("TideTablePainters$Board", "waters", "LTideTablePainters$TideTable;", true)
  | 1 => ("TideTablePainters$Board", "states", "[I", true)
  | 2 => ("TideTablePainters$Board", "paintedOn", "[I", true)
  | 3 => ("TideTablePainters$Board", "day", "I", false)
  | _ => ("TideTablePainters$Board", "drips", "I", false)
def tyX0 : Nat → FieldType := fun k => match k with
  | 0 => .object "TideTablePainters$TideTable"
  | 1 => .array .int
  | 2 => .array .int
  | 3 => .int
  | _ => .int
abbrev wsX00 : List Cond := u_ws RX0 TX0 5
theorem nmX0 : ∀ a, a < 5 → ∀ b, b < 5 → a ≠ b → (TX0 a).2.1 ≠ (TX0 b).2.1 := by decide +kernel
theorem tyX0_ok : ∀ k, k < 5 → parseFieldDescriptor (TX0 k).2.2.1 = some (tyX0 k) := by decide +kernel
abbrev cX0_init : ByteArray := prog_2_method_1_code
def yX0_init : MethodName := ⟨RX0, "<init>", "()V"⟩
abbrev cX0_begin : ByteArray := prog_2_method_2_code
def yX0_begin : MethodName := ⟨RX0, "begin", "(LTideTablePainters$Pier;I)V"⟩
abbrev cX0_makeReadable : ByteArray := prog_2_method_3_code
def yX0_makeReadable : MethodName := ⟨RX0, "makeReadable", "(II)V"⟩
abbrev cX0_drip : ByteArray := prog_2_method_4_code
def yX0_drip : MethodName := ⟨RX0, "drip", "(I)V"⟩
abbrev cX0_blotLastReadable : ByteArray := prog_2_method_5_code
def yX0_blotLastReadable : MethodName := ⟨RX0, "blotLastReadable", "()V"⟩
abbrev cX0_fadeOldLines : ByteArray := prog_2_method_6_code
def yX0_fadeOldLines : MethodName := ⟨RX0, "fadeOldLines", "(I)V"⟩
abbrev cX0_blankLines : ByteArray := prog_2_method_7_code
def yX0_blankLines : MethodName := ⟨RX0, "blankLines", "()I"⟩
abbrev cX0_firstSpoiltLine : ByteArray := prog_2_method_8_code
def yX0_firstSpoiltLine : MethodName := ⟨RX0, "firstSpoiltLine", "()I"⟩
abbrev cX0_unreadableMask : ByteArray := prog_2_method_9_code
def yX0_unreadableMask : MethodName := ⟨RX0, "unreadableMask", "()I"⟩
def RX1 : String := "TideTablePainters$Pier"
def TX1 : u_T := fun k => match k with
  | 0 => ("TideTablePainters$Pier", "delay", "I", true)
  | 1 => ("TideTablePainters$Pier", "mean", "I", true)
  | 2 => ("TideTablePainters$Pier", "spring", "I", true)
  | 3 => ("TideTablePainters$Pier", "neap", "I", true)
  | 4 => ("TideTablePainters$Pier", "rungs", "I", true)
  | 5 => ("TideTablePainters$Pier", "reports", "LTideTablePainters$Reports;", true)
  | _ => ("TideTablePainters$Pier", "board", "LTideTablePainters$Board;", true)
def tyX1 : Nat → FieldType := fun k => match k with
  | 0 => .int
  | 1 => .int
  | 2 => .int
  | 3 => .int
  | 4 => .int
  | 5 => .object "TideTablePainters$Reports"
  | _ => .object "TideTablePainters$Board"
abbrev wsX10 : List Cond := u_ws RX1 TX1 7
theorem nmX1 : ∀ a, a < 7 → ∀ b, b < 7 → a ≠ b → (TX1 a).2.1 ≠ (TX1 b).2.1 := by decide +kernel
theorem tyX1_ok : ∀ k, k < 7 → parseFieldDescriptor (TX1 k).2.2.1 = some (tyX1 k) := by decide +kernel
abbrev cX1_init : ByteArray := prog_3_method_1_code
def yX1_init : MethodName := ⟨RX1, "<init>", "(IIIII[I)V"⟩
abbrev cX1_rangeOn : ByteArray := prog_3_method_2_code
def yX1_rangeOn : MethodName := ⟨RX1, "rangeOn", "(I)I"⟩
abbrev cX1_minutesToHigh : ByteArray := prog_3_method_3_code
def yX1_minutesToHigh : MethodName := ⟨RX1, "minutesToHigh", "(II)I"⟩
def RX2 : String := "TideTablePainters$Reports"
def TX2 : u_T := fun k => match k with
  | 0 => ("TideTablePainters$Reports", "fishermen", "[I", true)
  | 1 => ("TideTablePainters$Reports", "minutes", "[I", true)
  | 2 => ("TideTablePainters$Reports", "ages", "[I", true)
  | 3 => ("TideTablePainters$Reports", "count", "I", false)
  | _ => ("TideTablePainters$Reports", "trusts", "[I", true)
def tyX2 : Nat → FieldType := fun k => match k with
  | 0 => .array .int
  | 1 => .array .int
  | 2 => .array .int
  | 3 => .int
  | _ => .array .int
abbrev wsX20 : List Cond := u_ws RX2 TX2 5
theorem nmX2 : ∀ a, a < 5 → ∀ b, b < 5 → a ≠ b → (TX2 a).2.1 ≠ (TX2 b).2.1 := by decide +kernel
theorem tyX2_ok : ∀ k, k < 5 → parseFieldDescriptor (TX2 k).2.2.1 = some (tyX2 k) := by decide +kernel
abbrev cX2_init : ByteArray := prog_4_method_1_code
def yX2_init : MethodName := ⟨RX2, "<init>", "([I)V"⟩
abbrev cX2_placeOf : ByteArray := prog_4_method_2_code
def yX2_placeOf : MethodName := ⟨RX2, "placeOf", "(I)I"⟩
abbrev cX2_put : ByteArray := prog_4_method_3_code
def yX2_put : MethodName := ⟨RX2, "put", "(II)V"⟩
abbrev cX2_removeAt : ByteArray := prog_4_method_4_code
def yX2_removeAt : MethodName := ⟨RX2, "removeAt", "(I)V"⟩
abbrev cX2_correction : ByteArray := prog_4_method_5_code
def yX2_correction : MethodName := ⟨RX2, "correction", "()I"⟩
abbrev cX2_compareWith : ByteArray := prog_4_method_6_code
def yX2_compareWith : MethodName := ⟨RX2, "compareWith", "(I)I"⟩
abbrev cX2_judge : ByteArray := prog_4_method_7_code
def yX2_judge : MethodName := ⟨RX2, "judge", "(II)V"⟩
abbrev cX2_growOlder : ByteArray := prog_4_method_8_code
def yX2_growOlder : MethodName := ⟨RX2, "growOlder", "(I)V"⟩
def RX3 : String := "TideTablePainters$TideTable"
def TX3 : u_T := fun k => match k with
  | 0 => ("TideTablePainters$TideTable", "minutes", "[I", true)
  | 1 => ("TideTablePainters$TideTable", "heights", "[I", true)
  | 2 => ("TideTablePainters$TideTable", "highs", "[Z", true)
  | _ => ("TideTablePainters$TideTable", "count", "I", false)
def tyX3 : Nat → FieldType := fun k => match k with
  | 0 => .array .int
  | 1 => .array .int
  | 2 => .array .boolean
  | _ => .int
abbrev wsX30 : List Cond := u_ws RX3 TX3 4
theorem nmX3 : ∀ a, a < 4 → ∀ b, b < 4 → a ≠ b → (TX3 a).2.1 ≠ (TX3 b).2.1 := by decide +kernel
theorem tyX3_ok : ∀ k, k < 4 → parseFieldDescriptor (TX3 k).2.2.1 = some (tyX3 k) := by decide +kernel
abbrev cX3_init : ByteArray := prog_5_method_1_code
def yX3_init : MethodName := ⟨RX3, "<init>", "()V"⟩
abbrev cX3_fill : ByteArray := prog_5_method_2_code
def yX3_fill : MethodName := ⟨RX3, "fill", "(LTideTablePainters$Pier;I)V"⟩
abbrev cX3_matches : ByteArray := prog_5_method_3_code
def yX3_matches : MethodName := ⟨RX3, "matches", "(LTideTablePainters$TideTable;)Z"⟩
def RX4 : String := "TideTablePainters$Tins"
def TX4 : u_T := fun k => match k with
  | 0 => ("TideTablePainters$Tins", "contents", "[I", true)
  | 1 => ("TideTablePainters$Tins", "count", "I", false)
  | _ => ("TideTablePainters$Tins", "poured", "I", false)
def tyX4 : Nat → FieldType := fun k => match k with
  | 0 => .array .int
  | 1 => .int
  | _ => .int
abbrev wsX40 : List Cond := u_ws RX4 TX4 3
theorem nmX4 : ∀ a, a < 3 → ∀ b, b < 3 → a ≠ b → (TX4 a).2.1 ≠ (TX4 b).2.1 := by decide +kernel
theorem tyX4_ok : ∀ k, k < 3 → parseFieldDescriptor (TX4 k).2.2.1 = some (tyX4 k) := by decide +kernel
abbrev cX4_init : ByteArray := prog_6_method_1_code
def yX4_init : MethodName := ⟨RX4, "<init>", "()V"⟩
abbrev cX4_add : ByteArray := prog_6_method_2_code
def yX4_add : MethodName := ⟨RX4, "add", "(I)V"⟩
abbrev cX4_inOldest : ByteArray := prog_6_method_3_code
def yX4_inOldest : MethodName := ⟨RX4, "inOldest", "(I)I"⟩
abbrev cX4_take : ByteArray := prog_6_method_4_code
def yX4_take : MethodName := ⟨RX4, "take", "(I)Z"⟩
abbrev cX4_oldestWith : ByteArray := prog_6_method_5_code
def yX4_oldestWith : MethodName := ⟨RX4, "oldestWith", "(I)I"⟩
abbrev cX4_removeOldest : ByteArray := prog_6_method_6_code
def yX4_removeOldest : MethodName := ⟨RX4, "removeOldest", "(I)V"⟩
def RX5 : String := "TideTablePainters"
def TX5 : u_T := fun k => match k with
  | 0 => ("TideTablePainters", "piers", "[LTideTablePainters$Pier;", true)
  | 1 => ("TideTablePainters", "piersAdded", "I", false)
  | 2 => ("TideTablePainters", "trusts", "[I", true)
  | 3 => ("TideTablePainters", "orderedDays", "[I", true)
  | 4 => ("TideTablePainters", "blueTins", "LTideTablePainters$Tins;", true)
  | 5 => ("TideTablePainters", "redTins", "LTideTablePainters$Tins;", true)
  | 6 => ("TideTablePainters", "table", "LTideTablePainters$TideTable;", true)
  | 7 => ("TideTablePainters", "presentDay", "I", false)
  | 8 => ("TideTablePainters", "job", "I", false)
  | 9 => ("TideTablePainters", "used", "I", false)
  | _ => ("TideTablePainters", "dripped", "I", false)
def tyX5 : Nat → FieldType := fun k => match k with
  | 0 => .array (.object "TideTablePainters$Pier")
  | 1 => .int
  | 2 => .array .int
  | 3 => .array .int
  | 4 => .object "TideTablePainters$Tins"
  | 5 => .object "TideTablePainters$Tins"
  | 6 => .object "TideTablePainters$TideTable"
  | 7 => .int
  | 8 => .int
  | 9 => .int
  | _ => .int
abbrev wsX50 : List Cond := u_ws RX5 TX5 11
theorem nmX5 : ∀ a, a < 11 → ∀ b, b < 11 → a ≠ b → (TX5 a).2.1 ≠ (TX5 b).2.1 := by decide +kernel
theorem tyX5_ok : ∀ k, k < 11 → parseFieldDescriptor (TX5 k).2.2.1 = some (tyX5 k) := by decide +kernel
abbrev cX5_init : ByteArray := prog_1_method_1_code
def yX5_init : MethodName := ⟨RX5, "<init>", "()V"⟩
abbrev cX5_addPier : ByteArray := prog_1_method_2_code
def yX5_addPier : MethodName := ⟨RX5, "addPier", "(IIIII)I"⟩
abbrev cX5_pierCount : ByteArray := prog_1_method_3_code
def yX5_pierCount : MethodName := ⟨RX5, "pierCount", "()I"⟩
abbrev cX5_today : ByteArray := prog_1_method_4_code
def yX5_today : MethodName := ⟨RX5, "today", "()I"⟩
abbrev cX5_passDays : ByteArray := prog_1_method_5_code
def yX5_passDays : MethodName := ⟨RX5, "passDays", "(I)I"⟩
abbrev cX5_moonAge : ByteArray := prog_1_method_6_code
def yX5_moonAge : MethodName := ⟨RX5, "moonAge", "(I)I"⟩
abbrev cX5_rangeOf : ByteArray := prog_1_method_7_code
def yX5_rangeOf : MethodName := ⟨RX5, "rangeOf", "(II)I"⟩
abbrev cX5_waterCount : ByteArray := prog_1_method_8_code
def yX5_waterCount : MethodName := ⟨RX5, "waterCount", "(II)I"⟩
abbrev cX5_waterMinute : ByteArray := prog_1_method_9_code
def yX5_waterMinute : MethodName := ⟨RX5, "waterMinute", "(III)I"⟩
abbrev cX5_waterHeight : ByteArray := prog_1_method_10_code
def yX5_waterHeight : MethodName := ⟨RX5, "waterHeight", "(III)I"⟩
abbrev cX5_isHighWater : ByteArray := prog_1_method_11_code
def yX5_isHighWater : MethodName := ⟨RX5, "isHighWater", "(III)Z"⟩
abbrev cX5_minutesToHighWater : ByteArray := prog_1_method_12_code
def yX5_minutesToHighWater : MethodName := ⟨RX5, "minutesToHighWater", "(III)I"⟩
abbrev cX5_report : ByteArray := prog_1_method_13_code
def yX5_report : MethodName := ⟨RX5, "report", "(III)I"⟩
abbrev cX5_observe : ByteArray := prog_1_method_14_code
def yX5_observe : MethodName := ⟨RX5, "observe", "(II)I"⟩
abbrev cX5_correctionOf : ByteArray := prog_1_method_15_code
def yX5_correctionOf : MethodName := ⟨RX5, "correctionOf", "(I)I"⟩
abbrev cX5_trustOf : ByteArray := prog_1_method_16_code
def yX5_trustOf : MethodName := ⟨RX5, "trustOf", "(I)I"⟩
abbrev cX5_reportCount : ByteArray := prog_1_method_17_code
def yX5_reportCount : MethodName := ⟨RX5, "reportCount", "(I)I"⟩
abbrev cX5_reporterAt : ByteArray := prog_1_method_18_code
def yX5_reporterAt : MethodName := ⟨RX5, "reporterAt", "(II)I"⟩
abbrev cX5_reportedMinutes : ByteArray := prog_1_method_19_code
def yX5_reportedMinutes : MethodName := ⟨RX5, "reportedMinutes", "(II)I"⟩
abbrev cX5_reportAge : ByteArray := prog_1_method_20_code
def yX5_reportAge : MethodName := ⟨RX5, "reportAge", "(II)I"⟩
abbrev cX5_deliverTin : ByteArray := prog_1_method_21_code
def yX5_deliverTin : MethodName := ⟨RX5, "deliverTin", "(II)I"⟩
abbrev cX5_tinCount : ByteArray := prog_1_method_22_code
def yX5_tinCount : MethodName := ⟨RX5, "tinCount", "(I)I"⟩
abbrev cX5_paintLeft : ByteArray := prog_1_method_23_code
def yX5_paintLeft : MethodName := ⟨RX5, "paintLeft", "(I)I"⟩
abbrev cX5_oldestTin : ByteArray := prog_1_method_24_code
def yX5_oldestTin : MethodName := ⟨RX5, "oldestTin", "(I)I"⟩
abbrev cX5_paintUsed : ByteArray := prog_1_method_25_code
def yX5_paintUsed : MethodName := ⟨RX5, "paintUsed", "()I"⟩
abbrev cX5_paintDripped : ByteArray := prog_1_method_26_code
def yX5_paintDripped : MethodName := ⟨RX5, "paintDripped", "()I"⟩
abbrev cX5_paintPoured : ByteArray := prog_1_method_27_code
def yX5_paintPoured : MethodName := ⟨RX5, "paintPoured", "()I"⟩
abbrev cX5_order : ByteArray := prog_1_method_28_code
def yX5_order : MethodName := ⟨RX5, "order", "(II)I"⟩
abbrev cX5_cancelOrder : ByteArray := prog_1_method_29_code
def yX5_cancelOrder : MethodName := ⟨RX5, "cancelOrder", "(I)I"⟩
abbrev cX5_waitingOrders : ByteArray := prog_1_method_30_code
def yX5_waitingOrders : MethodName := ⟨RX5, "waitingOrders", "()I"⟩
abbrev cX5_waitingPier : ByteArray := prog_1_method_31_code
def yX5_waitingPier : MethodName := ⟨RX5, "waitingPier", "(I)I"⟩
abbrev cX5_jobPier : ByteArray := prog_1_method_32_code
def yX5_jobPier : MethodName := ⟨RX5, "jobPier", "()I"⟩
abbrev cX5_linesToPaint : ByteArray := prog_1_method_33_code
def yX5_linesToPaint : MethodName := ⟨RX5, "linesToPaint", "()I"⟩
abbrev cX5_paint : ByteArray := prog_1_method_34_code
def yX5_paint : MethodName := ⟨RX5, "paint", "(I)I"⟩
abbrev cX5_giveUpJob : ByteArray := prog_1_method_35_code
def yX5_giveUpJob : MethodName := ⟨RX5, "giveUpJob", "()I"⟩
abbrev cX5_touchUp : ByteArray := prog_1_method_36_code
def yX5_touchUp : MethodName := ⟨RX5, "touchUp", "(I)I"⟩
abbrev cX5_boardDay : ByteArray := prog_1_method_37_code
def yX5_boardDay : MethodName := ⟨RX5, "boardDay", "(I)I"⟩
abbrev cX5_lineCount : ByteArray := prog_1_method_38_code
def yX5_lineCount : MethodName := ⟨RX5, "lineCount", "(I)I"⟩
abbrev cX5_lineState : ByteArray := prog_1_method_39_code
def yX5_lineState : MethodName := ⟨RX5, "lineState", "(II)I"⟩
abbrev cX5_lineMinute : ByteArray := prog_1_method_40_code
def yX5_lineMinute : MethodName := ⟨RX5, "lineMinute", "(II)I"⟩
abbrev cX5_lineHeight : ByteArray := prog_1_method_41_code
def yX5_lineHeight : MethodName := ⟨RX5, "lineHeight", "(II)I"⟩
abbrev cX5_dripsOf : ByteArray := prog_1_method_42_code
def yX5_dripsOf : MethodName := ⟨RX5, "dripsOf", "(I)I"⟩
abbrev cX5_unreadableLines : ByteArray := prog_1_method_43_code
def yX5_unreadableLines : MethodName := ⟨RX5, "unreadableLines", "(I)I"⟩
abbrev cX5_isRight : ByteArray := prog_1_method_44_code
def yX5_isRight : MethodName := ⟨RX5, "isRight", "(I)Z"⟩
abbrev cX5_rightBoards : ByteArray := prog_1_method_45_code
def yX5_rightBoards : MethodName := ⟨RX5, "rightBoards", "()I"⟩
abbrev cX5_demandWithin : ByteArray := prog_1_method_46_code
def yX5_demandWithin : MethodName := ⟨RX5, "demandWithin", "(III)V"⟩
abbrev cX5_demandDay : ByteArray := prog_1_method_47_code
def yX5_demandDay : MethodName := ⟨RX5, "demandDay", "(I)V"⟩
abbrev cX5_demandMinutesLate : ByteArray := prog_1_method_48_code
def yX5_demandMinutesLate : MethodName := ⟨RX5, "demandMinutesLate", "(I)V"⟩
abbrev cX5_demandFisherman : ByteArray := prog_1_method_49_code
def yX5_demandFisherman : MethodName := ⟨RX5, "demandFisherman", "(I)V"⟩
abbrev cX5_demandPier : ByteArray := prog_1_method_50_code
def yX5_demandPier : MethodName := ⟨RX5, "demandPier", "(I)V"⟩
abbrev cX5_pierNumbered : ByteArray := prog_1_method_51_code
def yX5_pierNumbered : MethodName := ⟨RX5, "pierNumbered", "(I)LTideTablePainters$Pier;"⟩
abbrev cX5_reportsFor : ByteArray := prog_1_method_52_code
def yX5_reportsFor : MethodName := ⟨RX5, "reportsFor", "(II)LTideTablePainters$Reports;"⟩
abbrev cX5_placeOfReport : ByteArray := prog_1_method_53_code
def yX5_placeOfReport : MethodName := ⟨RX5, "placeOfReport", "(LTideTablePainters$Reports;I)I"⟩
abbrev cX5_tinsOf : ByteArray := prog_1_method_54_code
def yX5_tinsOf : MethodName := ⟨RX5, "tinsOf", "(I)LTideTablePainters$Tins;"⟩
abbrev cX5_boardWithLine : ByteArray := prog_1_method_55_code
def yX5_boardWithLine : MethodName := ⟨RX5, "boardWithLine", "(II)LTideTablePainters$Board;"⟩
abbrev cX5_boardWithPaintedLine : ByteArray := prog_1_method_56_code
def yX5_boardWithPaintedLine : MethodName := ⟨RX5, "boardWithPaintedLine", "(II)LTideTablePainters$Board;"⟩
abbrev cX5_moonAgeOn : ByteArray := prog_1_method_57_code
def yX5_moonAgeOn : MethodName := ⟨RX5, "moonAgeOn", "(I)I"⟩
abbrev cX5_fillTableWithWater : ByteArray := prog_1_method_58_code
def yX5_fillTableWithWater : MethodName := ⟨RX5, "fillTableWithWater", "(III)V"⟩
abbrev cX5_showsThisDay : ByteArray := prog_1_method_59_code
def yX5_showsThisDay : MethodName := ⟨RX5, "showsThisDay", "(LTideTablePainters$Pier;)Z"⟩
abbrev cX5_comesBefore : ByteArray := prog_1_method_60_code
def yX5_comesBefore : MethodName := ⟨RX5, "comesBefore", "(II)Z"⟩
abbrev cX5_ordersBefore : ByteArray := prog_1_method_61_code
def yX5_ordersBefore : MethodName := ⟨RX5, "ordersBefore", "(I)I"⟩
abbrev cX5_pierOfOrder : ByteArray := prog_1_method_62_code
def yX5_pierOfOrder : MethodName := ⟨RX5, "pierOfOrder", "(I)I"⟩
abbrev cX5_beginFirstOrder : ByteArray := prog_1_method_63_code
def yX5_beginFirstOrder : MethodName := ⟨RX5, "beginFirstOrder", "()V"⟩
abbrev cX5_paintNextLine : ByteArray := prog_1_method_64_code
def yX5_paintNextLine : MethodName := ⟨RX5, "paintNextLine", "()Z"⟩
abbrev cX5_tinsForLine : ByteArray := prog_1_method_65_code
def yX5_tinsForLine : MethodName := ⟨RX5, "tinsForLine", "(LTideTablePainters$Board;I)LTideTablePainters$Tins;"⟩
def RX6 : String := "TideTablePaintersModel"
def TX6 : u_T := fun k => match k with
  | 0 => ("TideTablePaintersModel", "thrown", "I", false)
  | 1 => ("TideTablePaintersModel", "piers", "I", false)
  | 2 => ("TideTablePaintersModel", "today", "I", false)
  | 3 => ("TideTablePaintersModel", "delay", "[I", true)
  | 4 => ("TideTablePaintersModel", "mean", "[I", true)
  | 5 => ("TideTablePaintersModel", "spring", "[I", true)
  | 6 => ("TideTablePaintersModel", "neap", "[I", true)
  | 7 => ("TideTablePaintersModel", "rungs", "[I", true)
  | 8 => ("TideTablePaintersModel", "trust", "[I", true)
  | 9 => ("TideTablePaintersModel", "reports", "[I", true)
  | 10 => ("TideTablePaintersModel", "reporter", "[I", true)
  | 11 => ("TideTablePaintersModel", "late", "[I", true)
  | 12 => ("TideTablePaintersModel", "age", "[I", true)
  | 13 => ("TideTablePaintersModel", "tins", "[I", true)
  | 14 => ("TideTablePaintersModel", "tin", "[I", true)
  | 15 => ("TideTablePaintersModel", "used", "I", false)
  | 16 => ("TideTablePaintersModel", "dripped", "I", false)
  | 17 => ("TideTablePaintersModel", "poured", "I", false)
  | 18 => ("TideTablePaintersModel", "ordered", "[I", true)
  | 19 => ("TideTablePaintersModel", "job", "I", false)
  | 20 => ("TideTablePaintersModel", "next", "I", false)
  | 21 => ("TideTablePaintersModel", "boardDay", "[I", true)
  | 22 => ("TideTablePaintersModel", "lines", "[I", true)
  | 23 => ("TideTablePaintersModel", "drips", "[I", true)
  | 24 => ("TideTablePaintersModel", "kind", "[I", true)
  | 25 => ("TideTablePaintersModel", "minute", "[I", true)
  | 26 => ("TideTablePaintersModel", "height", "[I", true)
  | 27 => ("TideTablePaintersModel", "state", "[I", true)
  | 28 => ("TideTablePaintersModel", "painted", "[I", true)
  | 29 => ("TideTablePaintersModel", "waters", "I", false)
  | 30 => ("TideTablePaintersModel", "tableMinute", "[I", true)
  | _ => ("TideTablePaintersModel", "tableKind", "[I", true)
def tyX6 : Nat → FieldType := fun k => match k with
  | 0 => .int
  | 1 => .int
  | 2 => .int
  | 3 => .array .int
  | 4 => .array .int
  | 5 => .array .int
  | 6 => .array .int
  | 7 => .array .int
  | 8 => .array .int
  | 9 => .array .int
  | 10 => .array .int
  | 11 => .array .int
  | 12 => .array .int
  | 13 => .array .int
  | 14 => .array .int
  | 15 => .int
  | 16 => .int
  | 17 => .int
  | 18 => .array .int
  | 19 => .int
  | 20 => .int
  | 21 => .array .int
  | 22 => .array .int
  | 23 => .array .int
  | 24 => .array .int
  | 25 => .array .int
  | 26 => .array .int
  | 27 => .array .int
  | 28 => .array .int
  | 29 => .int
  | 30 => .array .int
  | _ => .array .int
abbrev wsX60 : List Cond := u_ws RX6 TX6 32
theorem nmX6 : ∀ a, a < 32 → ∀ b, b < 32 → a ≠ b → (TX6 a).2.1 ≠ (TX6 b).2.1 := by decide +kernel
theorem tyX6_ok : ∀ k, k < 32 → parseFieldDescriptor (TX6 k).2.2.1 = some (tyX6 k) := by decide +kernel
abbrev cX6_init : ByteArray := prog_8_method_1_code
def yX6_init : MethodName := ⟨RX6, "<init>", "()V"⟩
abbrev cX6_thrown : ByteArray := prog_8_method_2_code
def yX6_thrown : MethodName := ⟨RX6, "thrown", "()I"⟩
abbrev cX6_fail : ByteArray := prog_8_method_3_code
def yX6_fail : MethodName := ⟨RX6, "fail", "(I)I"⟩
abbrev cX6_isWithin : ByteArray := prog_8_method_4_code
def yX6_isWithin : MethodName := ⟨RX6, "isWithin", "(III)Z"⟩
abbrev cX6_isGood : ByteArray := prog_8_method_5_code
def yX6_isGood : MethodName := ⟨RX6, "isGood", "(ZI)Z"⟩
abbrev cX6_isPier : ByteArray := prog_8_method_6_code
def yX6_isPier : MethodName := ⟨RX6, "isPier", "(I)Z"⟩
abbrev cX6_isDay : ByteArray := prog_8_method_7_code
def yX6_isDay : MethodName := ⟨RX6, "isDay", "(I)Z"⟩
abbrev cX6_addPier : ByteArray := prog_8_method_8_code
def yX6_addPier : MethodName := ⟨RX6, "addPier", "(IIIII)I"⟩
abbrev cX6_pierCount : ByteArray := prog_8_method_9_code
def yX6_pierCount : MethodName := ⟨RX6, "pierCount", "()I"⟩
abbrev cX6_today : ByteArray := prog_8_method_10_code
def yX6_today : MethodName := ⟨RX6, "today", "()I"⟩
abbrev cX6_passDay : ByteArray := prog_8_method_11_code
def yX6_passDay : MethodName := ⟨RX6, "passDay", "()V"⟩
abbrev cX6_passDays : ByteArray := prog_8_method_12_code
def yX6_passDays : MethodName := ⟨RX6, "passDays", "(I)I"⟩
abbrev cX6_moon : ByteArray := prog_8_method_13_code
def yX6_moon : MethodName := ⟨RX6, "moon", "(I)I"⟩
abbrev cX6_range : ByteArray := prog_8_method_14_code
def yX6_range : MethodName := ⟨RX6, "range", "(II)I"⟩
abbrev cX6_moonAge : ByteArray := prog_8_method_15_code
def yX6_moonAge : MethodName := ⟨RX6, "moonAge", "(I)I"⟩
abbrev cX6_rangeOf : ByteArray := prog_8_method_16_code
def yX6_rangeOf : MethodName := ⟨RX6, "rangeOf", "(II)I"⟩
abbrev cX6_behind : ByteArray := prog_8_method_17_code
def yX6_behind : MethodName := ⟨RX6, "behind", "(II)I"⟩
abbrev cX6_findTable : ByteArray := prog_8_method_18_code
def yX6_findTable : MethodName := ⟨RX6, "findTable", "(II)V"⟩
abbrev cX6_level : ByteArray := prog_8_method_19_code
def yX6_level : MethodName := ⟨RX6, "level", "(III)I"⟩
abbrev cX6_waterCount : ByteArray := prog_8_method_20_code
def yX6_waterCount : MethodName := ⟨RX6, "waterCount", "(II)I"⟩
abbrev cX6_isWater : ByteArray := prog_8_method_21_code
def yX6_isWater : MethodName := ⟨RX6, "isWater", "(III)Z"⟩
abbrev cX6_waterMinute : ByteArray := prog_8_method_22_code
def yX6_waterMinute : MethodName := ⟨RX6, "waterMinute", "(III)I"⟩
abbrev cX6_waterHeight : ByteArray := prog_8_method_23_code
def yX6_waterHeight : MethodName := ⟨RX6, "waterHeight", "(III)I"⟩
abbrev cX6_isHighWater : ByteArray := prog_8_method_24_code
def yX6_isHighWater : MethodName := ⟨RX6, "isHighWater", "(III)Z"⟩
abbrev cX6_minutesToHighWater : ByteArray := prog_8_method_25_code
def yX6_minutesToHighWater : MethodName := ⟨RX6, "minutesToHighWater", "(III)I"⟩
abbrev cX6_correction : ByteArray := prog_8_method_26_code
def yX6_correction : MethodName := ⟨RX6, "correction", "(I)I"⟩
abbrev cX6_placeOf : ByteArray := prog_8_method_27_code
def yX6_placeOf : MethodName := ⟨RX6, "placeOf", "(II)I"⟩
abbrev cX6_dropReport : ByteArray := prog_8_method_28_code
def yX6_dropReport : MethodName := ⟨RX6, "dropReport", "(II)V"⟩
abbrev cX6_isPair : ByteArray := prog_8_method_29_code
def yX6_isPair : MethodName := ⟨RX6, "isPair", "(II)Z"⟩
abbrev cX6_report : ByteArray := prog_8_method_30_code
def yX6_report : MethodName := ⟨RX6, "report", "(III)I"⟩
abbrev cX6_observe : ByteArray := prog_8_method_31_code
def yX6_observe : MethodName := ⟨RX6, "observe", "(II)I"⟩
abbrev cX6_correctionOf : ByteArray := prog_8_method_32_code
def yX6_correctionOf : MethodName := ⟨RX6, "correctionOf", "(I)I"⟩
abbrev cX6_trustOf : ByteArray := prog_8_method_33_code
def yX6_trustOf : MethodName := ⟨RX6, "trustOf", "(I)I"⟩
abbrev cX6_reportCount : ByteArray := prog_8_method_34_code
def yX6_reportCount : MethodName := ⟨RX6, "reportCount", "(I)I"⟩
abbrev cX6_reporterAt : ByteArray := prog_8_method_35_code
def yX6_reporterAt : MethodName := ⟨RX6, "reporterAt", "(II)I"⟩
abbrev cX6_ofReport : ByteArray := prog_8_method_36_code
def yX6_ofReport : MethodName := ⟨RX6, "ofReport", "([III)I"⟩
abbrev cX6_reportedMinutes : ByteArray := prog_8_method_37_code
def yX6_reportedMinutes : MethodName := ⟨RX6, "reportedMinutes", "(II)I"⟩
abbrev cX6_reportAge : ByteArray := prog_8_method_38_code
def yX6_reportAge : MethodName := ⟨RX6, "reportAge", "(II)I"⟩
abbrev cX6_isColour : ByteArray := prog_8_method_39_code
def yX6_isColour : MethodName := ⟨RX6, "isColour", "(I)Z"⟩
abbrev cX6_deliverTin : ByteArray := prog_8_method_40_code
def yX6_deliverTin : MethodName := ⟨RX6, "deliverTin", "(II)I"⟩
abbrev cX6_tinCount : ByteArray := prog_8_method_41_code
def yX6_tinCount : MethodName := ⟨RX6, "tinCount", "(I)I"⟩
abbrev cX6_paintLeft : ByteArray := prog_8_method_42_code
def yX6_paintLeft : MethodName := ⟨RX6, "paintLeft", "(I)I"⟩
abbrev cX6_oldestTin : ByteArray := prog_8_method_43_code
def yX6_oldestTin : MethodName := ⟨RX6, "oldestTin", "(I)I"⟩
abbrev cX6_dropOldest : ByteArray := prog_8_method_44_code
def yX6_dropOldest : MethodName := ⟨RX6, "dropOldest", "(I)V"⟩
abbrev cX6_take : ByteArray := prog_8_method_45_code
def yX6_take : MethodName := ⟨RX6, "take", "(II)Z"⟩
abbrev cX6_paintUsed : ByteArray := prog_8_method_46_code
def yX6_paintUsed : MethodName := ⟨RX6, "paintUsed", "()I"⟩
abbrev cX6_paintDripped : ByteArray := prog_8_method_47_code
def yX6_paintDripped : MethodName := ⟨RX6, "paintDripped", "()I"⟩
abbrev cX6_paintPoured : ByteArray := prog_8_method_48_code
def yX6_paintPoured : MethodName := ⟨RX6, "paintPoured", "()I"⟩
abbrev cX6_isAhead : ByteArray := prog_8_method_49_code
def yX6_isAhead : MethodName := ⟨RX6, "isAhead", "(II)Z"⟩
abbrev cX6_ahead : ByteArray := prog_8_method_50_code
def yX6_ahead : MethodName := ⟨RX6, "ahead", "(I)I"⟩
abbrev cX6_waitingAt : ByteArray := prog_8_method_51_code
def yX6_waitingAt : MethodName := ⟨RX6, "waitingAt", "(I)I"⟩
abbrev cX6_order : ByteArray := prog_8_method_52_code
def yX6_order : MethodName := ⟨RX6, "order", "(II)I"⟩
abbrev cX6_cancelOrder : ByteArray := prog_8_method_53_code
def yX6_cancelOrder : MethodName := ⟨RX6, "cancelOrder", "(I)I"⟩
abbrev cX6_waitingOrders : ByteArray := prog_8_method_54_code
def yX6_waitingOrders : MethodName := ⟨RX6, "waitingOrders", "()I"⟩
abbrev cX6_waitingPier : ByteArray := prog_8_method_55_code
def yX6_waitingPier : MethodName := ⟨RX6, "waitingPier", "(I)I"⟩
abbrev cX6_jobPier : ByteArray := prog_8_method_56_code
def yX6_jobPier : MethodName := ⟨RX6, "jobPier", "()I"⟩
abbrev cX6_linesToPaint : ByteArray := prog_8_method_57_code
def yX6_linesToPaint : MethodName := ⟨RX6, "linesToPaint", "()I"⟩
abbrev cX6_begin : ByteArray := prog_8_method_58_code
def yX6_begin : MethodName := ⟨RX6, "begin", "(I)V"⟩
abbrev cX6_drip : ByteArray := prog_8_method_59_code
def yX6_drip : MethodName := ⟨RX6, "drip", "(I)V"⟩
abbrev cX6_makeReadable : ByteArray := prog_8_method_60_code
def yX6_makeReadable : MethodName := ⟨RX6, "makeReadable", "(I)V"⟩
abbrev cX6_paintLine : ByteArray := prog_8_method_61_code
def yX6_paintLine : MethodName := ⟨RX6, "paintLine", "()Z"⟩
abbrev cX6_paint : ByteArray := prog_8_method_62_code
def yX6_paint : MethodName := ⟨RX6, "paint", "(I)I"⟩
abbrev cX6_giveUpJob : ByteArray := prog_8_method_63_code
def yX6_giveUpJob : MethodName := ⟨RX6, "giveUpJob", "()I"⟩
abbrev cX6_touchUp : ByteArray := prog_8_method_64_code
def yX6_touchUp : MethodName := ⟨RX6, "touchUp", "(I)I"⟩
abbrev cX6_boardDay : ByteArray := prog_8_method_65_code
def yX6_boardDay : MethodName := ⟨RX6, "boardDay", "(I)I"⟩
abbrev cX6_lineCount : ByteArray := prog_8_method_66_code
def yX6_lineCount : MethodName := ⟨RX6, "lineCount", "(I)I"⟩
abbrev cX6_isLine : ByteArray := prog_8_method_67_code
def yX6_isLine : MethodName := ⟨RX6, "isLine", "(II)Z"⟩
abbrev cX6_lineState : ByteArray := prog_8_method_68_code
def yX6_lineState : MethodName := ⟨RX6, "lineState", "(II)I"⟩
abbrev cX6_ofLine : ByteArray := prog_8_method_69_code
def yX6_ofLine : MethodName := ⟨RX6, "ofLine", "([III)I"⟩
abbrev cX6_lineMinute : ByteArray := prog_8_method_70_code
def yX6_lineMinute : MethodName := ⟨RX6, "lineMinute", "(II)I"⟩
abbrev cX6_lineHeight : ByteArray := prog_8_method_71_code
def yX6_lineHeight : MethodName := ⟨RX6, "lineHeight", "(II)I"⟩
abbrev cX6_dripsOf : ByteArray := prog_8_method_72_code
def yX6_dripsOf : MethodName := ⟨RX6, "dripsOf", "(I)I"⟩
abbrev cX6_unreadable : ByteArray := prog_8_method_73_code
def yX6_unreadable : MethodName := ⟨RX6, "unreadable", "(I)I"⟩
abbrev cX6_unreadableLines : ByteArray := prog_8_method_74_code
def yX6_unreadableLines : MethodName := ⟨RX6, "unreadableLines", "(I)I"⟩
abbrev cX6_right : ByteArray := prog_8_method_75_code
def yX6_right : MethodName := ⟨RX6, "right", "(I)Z"⟩
abbrev cX6_isRight : ByteArray := prog_8_method_76_code
def yX6_isRight : MethodName := ⟨RX6, "isRight", "(I)Z"⟩
abbrev cX6_rightBoards : ByteArray := prog_8_method_77_code
def yX6_rightBoards : MethodName := ⟨RX6, "rightBoards", "()I"⟩
def RJx145de : String := "java/io/Serializable"
def TJx145de : u_T := fun k => match k with
  | _ => ("", "", "", false)
def tyJx145de : Nat → FieldType := fun k => match k with
  | _ => .int
abbrev wsJx145de0 : List Cond := u_ws RJx145de TJx145de 0
def RJ9 : String := "java/lang/Math"
def TJ9 : u_T := fun k => match k with
  | _ => ("", "", "", false)
def tyJ9 : Nat → FieldType := fun k => match k with
  | _ => .int
abbrev wsJ90 : List Cond := u_ws RJ9 TJ9 0
abbrev cJ9_floorMod_7cf53 : ByteArray := prog_14_method_50_code
def yJ9_floorMod_7cf53 : MethodName := ⟨RJ9, "floorMod", "(II)I"⟩
abbrev cJ9_abs_0f7a4 : ByteArray := prog_14_method_59_code
def yJ9_abs_0f7a4 : MethodName := ⟨RJ9, "abs", "(I)I"⟩
abbrev cJ9_max_7cf53 : ByteArray := prog_14_method_65_code
def yJ9_max_7cf53 : MethodName := ⟨RJ9, "max", "(II)I"⟩
abbrev cJ9_min_7cf53 : ByteArray := prog_14_method_69_code
def yJ9_min_7cf53 : MethodName := ⟨RJ9, "min", "(II)I"⟩
def RJ0 : String := "java/lang/String"
def TJ0 : u_T := fun k => match k with
  | _ => ("", "", "", false)
def tyJ0 : Nat → FieldType := fun k => match k with
  | _ => .int
abbrev wsJ00 : List Cond := u_ws RJ0 TJ0 0
def RL : String := "TideTablePaintersLaw"
abbrev cL_addPier : ByteArray := method_3_code
def yL_addPier : MethodName := ⟨RL, "addPier", "(LTideTablePainters;IIIII[J)I"⟩
abbrev cL_passDays : ByteArray := method_4_code
def yL_passDays : MethodName := ⟨RL, "passDays", "(LTideTablePainters;I[J)I"⟩
abbrev cL_moonAge : ByteArray := method_5_code
def yL_moonAge : MethodName := ⟨RL, "moonAge", "(LTideTablePainters;I[J)I"⟩
abbrev cL_rangeOf : ByteArray := method_6_code
def yL_rangeOf : MethodName := ⟨RL, "rangeOf", "(LTideTablePainters;II[J)I"⟩
abbrev cL_waterCount : ByteArray := method_7_code
def yL_waterCount : MethodName := ⟨RL, "waterCount", "(LTideTablePainters;II[J)I"⟩
abbrev cL_waterMinute : ByteArray := method_8_code
def yL_waterMinute : MethodName := ⟨RL, "waterMinute", "(LTideTablePainters;III[J)I"⟩
abbrev cL_waterHeight : ByteArray := method_9_code
def yL_waterHeight : MethodName := ⟨RL, "waterHeight", "(LTideTablePainters;III[J)I"⟩
abbrev cL_isHighWater : ByteArray := method_10_code
def yL_isHighWater : MethodName := ⟨RL, "isHighWater", "(LTideTablePainters;III[J)I"⟩
abbrev cL_minutesToHighWater : ByteArray := method_11_code
def yL_minutesToHighWater : MethodName := ⟨RL, "minutesToHighWater", "(LTideTablePainters;III[J)I"⟩
abbrev cL_report : ByteArray := method_12_code
def yL_report : MethodName := ⟨RL, "report", "(LTideTablePainters;III[J)I"⟩
abbrev cL_observe : ByteArray := method_13_code
def yL_observe : MethodName := ⟨RL, "observe", "(LTideTablePainters;II[J)I"⟩
abbrev cL_correctionOf : ByteArray := method_14_code
def yL_correctionOf : MethodName := ⟨RL, "correctionOf", "(LTideTablePainters;I[J)I"⟩
abbrev cL_trustOf : ByteArray := method_15_code
def yL_trustOf : MethodName := ⟨RL, "trustOf", "(LTideTablePainters;I[J)I"⟩
abbrev cL_reportCount : ByteArray := method_16_code
def yL_reportCount : MethodName := ⟨RL, "reportCount", "(LTideTablePainters;I[J)I"⟩
abbrev cL_reporterAt : ByteArray := method_17_code
def yL_reporterAt : MethodName := ⟨RL, "reporterAt", "(LTideTablePainters;II[J)I"⟩
abbrev cL_reportedMinutes : ByteArray := method_18_code
def yL_reportedMinutes : MethodName := ⟨RL, "reportedMinutes", "(LTideTablePainters;II[J)I"⟩
abbrev cL_reportAge : ByteArray := method_19_code
def yL_reportAge : MethodName := ⟨RL, "reportAge", "(LTideTablePainters;II[J)I"⟩
abbrev cL_deliverTin : ByteArray := method_20_code
def yL_deliverTin : MethodName := ⟨RL, "deliverTin", "(LTideTablePainters;II[J)I"⟩
abbrev cL_tinCount : ByteArray := method_21_code
def yL_tinCount : MethodName := ⟨RL, "tinCount", "(LTideTablePainters;I[J)I"⟩
abbrev cL_paintLeft : ByteArray := method_22_code
def yL_paintLeft : MethodName := ⟨RL, "paintLeft", "(LTideTablePainters;I[J)I"⟩
abbrev cL_oldestTin : ByteArray := method_23_code
def yL_oldestTin : MethodName := ⟨RL, "oldestTin", "(LTideTablePainters;I[J)I"⟩
abbrev cL_order : ByteArray := method_24_code
def yL_order : MethodName := ⟨RL, "order", "(LTideTablePainters;II[J)I"⟩
abbrev cL_cancelOrder : ByteArray := method_25_code
def yL_cancelOrder : MethodName := ⟨RL, "cancelOrder", "(LTideTablePainters;I[J)I"⟩
abbrev cL_waitingPier : ByteArray := method_26_code
def yL_waitingPier : MethodName := ⟨RL, "waitingPier", "(LTideTablePainters;I[J)I"⟩
abbrev cL_paint : ByteArray := method_27_code
def yL_paint : MethodName := ⟨RL, "paint", "(LTideTablePainters;I[J)I"⟩
abbrev cL_giveUpJob : ByteArray := method_28_code
def yL_giveUpJob : MethodName := ⟨RL, "giveUpJob", "(LTideTablePainters;[J)I"⟩
abbrev cL_touchUp : ByteArray := method_29_code
def yL_touchUp : MethodName := ⟨RL, "touchUp", "(LTideTablePainters;I[J)I"⟩
abbrev cL_boardDay : ByteArray := method_30_code
def yL_boardDay : MethodName := ⟨RL, "boardDay", "(LTideTablePainters;I[J)I"⟩
abbrev cL_lineCount : ByteArray := method_31_code
def yL_lineCount : MethodName := ⟨RL, "lineCount", "(LTideTablePainters;I[J)I"⟩
abbrev cL_lineState : ByteArray := method_32_code
def yL_lineState : MethodName := ⟨RL, "lineState", "(LTideTablePainters;II[J)I"⟩
abbrev cL_lineMinute : ByteArray := method_33_code
def yL_lineMinute : MethodName := ⟨RL, "lineMinute", "(LTideTablePainters;II[J)I"⟩
abbrev cL_lineHeight : ByteArray := method_34_code
def yL_lineHeight : MethodName := ⟨RL, "lineHeight", "(LTideTablePainters;II[J)I"⟩
abbrev cL_dripsOf : ByteArray := method_35_code
def yL_dripsOf : MethodName := ⟨RL, "dripsOf", "(LTideTablePainters;I[J)I"⟩
abbrev cL_unreadableLines : ByteArray := method_36_code
def yL_unreadableLines : MethodName := ⟨RL, "unreadableLines", "(LTideTablePainters;I[J)I"⟩
abbrev cL_isRight : ByteArray := method_37_code
def yL_isRight : MethodName := ⟨RL, "isRight", "(LTideTablePainters;I[J)I"⟩
abbrev cL_law : ByteArray := code
def yL_law : MethodName := ⟨RL, "law", "([I)Z"⟩
abbrev vwCl : List vw_C := [(RX0, TX0, 5), (RX1, TX1, 7), (RX2, TX2, 5), (RX3, TX3, 4), (RX4, TX4, 3), (RX5, TX5, 11), (RX6, TX6, 32)]
end
section
/-! ===== J: walks over a typed memory. A cell is a place (k, i): its kind k says its shape, i which one of the kind; V holds the ints, Rf the references ===== -/
abbrev jV : Type := Nat → Nat → Nat → Int32
abbrev jR : Type := Nat → Nat → Nat → Option (Nat × Nat)
abbrev jLv : Type := Nat → Nat → Bool
abbrev jM : Type := Nat × jLv × jV × jR
abbrev jAd : Type := Nat → Nat → Nat
/-- the shape of a kind: (0, class), (1, length) an int array, (2, length) a boolean array, (3, length) an array of piers, (4, length) a long array -/
def shp : Nat → Nat × Nat := fun k => match k with
  | 0 => (0, 5) | 1 => (3, 6) | 2 => (1, 6) | 3 => (1, 6) | 4 => (0, 4) | 5 => (1, 12)
  | 6 => (0, 3) | 7 => (1, 4) | 8 => (1, 4) | 9 => (2, 4)
  | 10 => (0, 1) | 11 => (0, 2) | 12 => (1, 6) | 13 => (1, 6) | 14 => (1, 6) | 15 => (0, 0) | 16 => (1, 4) | 17 => (1, 4)
  | 20 => (0, 6)
  | 24 => (1, 6) | 25 => (1, 6) | 26 => (1, 6) | 27 => (1, 6) | 28 => (1, 6) | 29 => (1, 6) | 30 => (1, 6)
  | 31 => (1, 36) | 32 => (1, 36) | 33 => (1, 36) | 34 => (1, 2) | 35 => (1, 24) | 39 => (1, 6) | 42 => (1, 6) | 43 => (1, 6) | 44 => (1, 6)
  | 45 => (1, 24) | 46 => (1, 24) | 47 => (1, 24) | 48 => (1, 24) | 49 => (1, 24) | 51 => (1, 4) | 52 => (1, 4)
  | 60 => (4, 1)
  | _ => (1, 0)
/-- a class by its number: how many fields, which are references -/
def jN : Nat → Nat := fun c => match c with
  | 0 => 5 | 1 => 7 | 2 => 5 | 3 => 4 | 4 => 3 | 5 => 11 | _ => 32
def jT : Nat → u_T := fun c => match c with
  | 0 => TX0 | 1 => TX1 | 2 => TX2 | 3 => TX3 | 4 => TX4 | 5 => TX5 | _ => TX6
def jC : Nat → String := fun c => match c with
  | 0 => RX0 | 1 => RX1 | 2 => RX2 | 3 => RX3 | 4 => RX4 | 5 => RX5 | _ => RX6
def jTy : Nat → Nat → FieldType := fun c => match c with
  | 0 => tyX0 | 1 => tyX1 | 2 => tyX2 | 3 => tyX3 | 4 => tyX4 | 5 => tyX5 | _ => tyX6
def jIr : Nat → Nat → Bool := fun c j => match c, j with
  | 0, 0 => true | 0, 1 => true | 0, 2 => true
  | 1, 5 => true | 1, 6 => true
  | 2, 0 => true | 2, 1 => true | 2, 2 => true | 2, 4 => true
  | 3, 0 => true | 3, 1 => true | 3, 2 => true
  | 4, 0 => true
  | 5, 0 => true | 5, 2 => true | 5, 3 => true | 5, 4 => true | 5, 5 => true | 5, 6 => true
  | 6, j => (3 ≤ j && j ≤ 14) || j == 18 || (21 ≤ j && j ≤ 28) || j == 30 || j == 31
  | _, _ => false
def jrv (ad : jAd) (r : Option (Nat × Nat)) : Value := match r with
  | some q => .ref (ad q.1 q.2)
  | none => .null
/-- what the field j of the object at (k, i) holds -/
def jfv (ad : jAd) (M : jM) (c k i j : Nat) : Value := if jIr c j = true then jrv ad (M.2.2.2 k i j) else .int (M.2.2.1 k i j)
def jcell (ca : Nat → ClassId) (ad : jAd) (M : jM) (k i : Nat) : va_E := match (shp k).1 with
  | 0 => .inr ((shp k).2, (List.range (jN (shp k).2)).map (fun j => jfv ad M (shp k).2 k i j))
  | 1 => .inl (ca 0, (shp k).2, .inl (fun j => M.2.2.1 k i j))
  | 2 => .inl (ca 1, (shp k).2, .inl (fun j => M.2.2.1 k i j))
  | 3 => .inl (ca 3, (shp k).2, .inr (.inr (.inr (.inr (fun j => (M.2.2.2 k i j).map (fun q => ad q.1 q.2))))))
  | _ => .inl (ca 2, (shp k).2, .inr (.inl (fun j => (M.2.2.1 k i j).toInt64)))
abbrev jTys (ca : Nat → ClassId) : List (ClassId × FieldType) := [(ca 0, .int), (ca 1, .boolean), (ca 2, .long), (ca 3, .object RX1)]
/-- the memory M lies in the heap H, at the addresses ad, all of them new since the law's start -/
def jRep (D : va_G) (ca : Nat → ClassId) (q0 : Nat) (ad : jAd) (M : jM) (H : Heap) : Prop :=
  M.1 = H.size ∧ (∀ k i, M.2.1 k i = true → q0 ≤ ad k i ∧ va_at D vwCl (ad k i, jcell ca ad M k i) H) ∧
  ∀ k i k' i', M.2.1 k i = true → M.2.1 k' i' = true → ad k i = ad k' i' → k = k' ∧ i = i'
/-- the strings that are thrown with: entry, text -/
def jStr : List (Nat × String) := [(253, "a parameter is out of range"), (61, "there are 6 piers"), (262, "no such pier"), (273, "no such water"), (259, "no such fisherman"), (150, "no such place"), (267, "no such report"), (169, "there are 12 tins of this colour"), (177, "no tin"), (188, "an order for the pier is waiting"), (193, "no order for the pier is waiting"), (205, "there is no job"), (210, "no line is blotted or faded"), (220, "the paint cannot be taken"), (269, "no such line"), (271, "the line is blank")]
/-- what a method's start knows of the machine: classes, statics of Throwable, strings, links to nest mates -/
def jE (D : va_G) (ca : Nat → ClassId) (q0 : Nat) (sa : Nat → Nat) (U : State) (H : Heap) : Prop :=
  va_K D vwCl (jTys ca) U ∧ vx_Zq Bundle.tN "UNASSIGNED_STACK" Bundle.steD (fun q => q0 ≤ q) U H ∧ vx_Zq Bundle.tN "SUPPRESSED_SENTINEL" Bundle.listD (fun q => q0 ≤ q) U H ∧
  (∀ q ∈ jStr, vk_R RX5 q.1 q.2 (sa q.1) U) ∧ (∀ w ∈ OW, va_Nw w U) ∧ va_AO RX1 U
def jL (lsC : Array Slot) (nL : Nat) (ls : List (Option Value)) : Prop := lsC.size = nL ∧ lv_wf lsC ∧ ∀ (i : Nat) (v : Value), ls[i]? = some (some v) → lsC[i]? = some (Slot.val v) ∧ v.category = 1
/-- what stands fast in a method's body -/
def jK (p : Program) (l : Launch) (R : Room) (s : State) (m : MethodId) (args : Array Value) (meth : Method) (c : Code) (D : va_G) (ca : Nat → ClassId) (q0 : Nat) (sa : Nat → Nat) (own : String) (cc : ByteArray) (nL : Nat) (ret : Option FieldType) : Prop :=
  p.tables.exec = Jvm.exec ∧ c.code = cc ∧ c.maxLocals = nL ∧ s.vm.findClass own = some m.cls ∧ (∀ w ∈ WG, w.before args s = true) ∧ meth.locks = false ∧ jE D ca q0 sa s s.heap ∧ q0 ≤ s.heap.size ∧ meth.sig.returnType = ret ∧ l.stackTraces = false
def jW (p : Program) (l : Launch) (e : Env) (R : Room) (s : State) (m : MethodId) (args : Array Value) (below : List Frame) (meth : Method) (c : Code) (D : va_G) (ca : Nat → ClassId) (q0 : Nat) (ad : jAd) (nL : Nat) (Q : State → Prop) (kc ks : Nat) (pc : Nat) (ls : List (Option Value)) (st : List Value) (M : jM) : Prop :=
  ∀ (H : Heap) (locs : List Loc) (lsC : Array Slot) (cells slots : Nat), jL lsC nL ls → jRep D ca q0 ad M H → va_S (fun q => q0 ≤ q) s.heap H locs → cells + kc ≤ R.cells → slots + ks ≤ R.slots →
    W p l e R s m args below meth c H locs cells slots Q (F0 m pc lsC st)
/-- the same frame with an exception of class E thrown over it -/
def jWx (p : Program) (l : Launch) (e : Env) (R : Room) (s : State) (m : MethodId) (args : Array Value) (below : List Frame) (meth : Method) (c : Code) (D : va_G) (ca : Nat → ClassId) (q0 : Nat) (ad : jAd) (nL : Nat) (Q : State → Prop) (kc ks : Nat) (pc : Nat) (ls : List (Option Value)) (E : String) (M : jM) : Prop :=
  ∀ (H : Heap) (locs : List Loc) (lsC : Array Slot) (cells slots : Nat) (q : Addr) (ce : Cell) (rest : List Value), jL lsC nL ls → jRep D ca q0 ad M H → va_S (fun q => q0 ≤ q) s.heap H locs → cells + kc ≤ R.cells → slots + ks ≤ R.slots →
    H[q]? = some ce → ce.vm = .none → s.vm.findClass E = some ce.cls → vx_W p l e R s m args below meth c H locs cells slots Q (F0 m pc lsC rest) q
abbrev jO : Type := Option Value ⊕ String
def jQc (D : va_G) (ca : Nat → ClassId) (q0 : Nat) (ad : jAd) (Q : jO → jM → Prop) : Array Value → State → Outcome → State → Prop := fun _ st o t =>
  ∃ (v : Option Value) (M : jM), o = .returned v ∧ Q (.inl v) M ∧ jRep D ca q0 ad M t.heap ∧ va_F (fun q => q0 ≤ q) st t
def jXc (D : va_G) (ca : Nat → ClassId) (q0 : Nat) (ad : jAd) (Q : jO → jM → Prop) : String → State → State → Prop := fun E st t =>
  ∃ M : jM, Q (.inr E) M ∧ jRep D ca q0 ad M t.heap ∧ va_F (fun q => q0 ≤ q) st t
abbrev jRm (lvl mc ms : Nat) : Room := { frames := 6 + lvl, cells := mc, slots := ms, locals := 100 + 30 * lvl }
/-- a method's contract: from the memory M with these arguments it returns or throws so that Q holds -/
def jMet (l : Launch) (D : va_G) (ca : Nat → ClassId) (q0 : Nat) (sa : Nat → Nat) (ad : jAd) (y : MethodName) (bytes : ByteArray) (maxL : Nat) (ret : Option FieldType) (lvl mc ms : Nat) (av : List Value) (M : jM) (Q : jO → jM → Prop) : Prop :=
  l.stackTraces = false → vx_Met l y (Cond.code y bytes maxL ret :: WG) (jRm lvl mc ms) (va_Pc av (fun U => jE D ca q0 sa U U.heap ∧ q0 ≤ U.heap.size ∧ jRep D ca q0 ad M U.heap)) (jQc D ca q0 ad Q) (jXc D ca q0 ad Q) mc ms (fun q => q0 ≤ q)
/-- the end that a body owes -/
abbrev jZ (below : List Frame) (args : Array Value) (s : State) (D : va_G) (ca : Nat → ClassId) (q0 : Nat) (ad : jAd) (mc ms : Nat) (Q : jO → jM → Prop) : State → Prop := vx_MQ below (jQc D ca q0 ad Q) (jXc D ca q0 ad Q) args s mc ms (fun q => q0 ≤ q)
end
section
theorem jcls_get : ∀ ci, ci < 7 → vwCl[ci]? = some (jC ci, jT ci, jN ci) := by
  intro ci h
  match ci, h with
  | 0, _ => rfl
  | 1, _ => rfl
  | 2, _ => rfl
  | 3, _ => rfl
  | 4, _ => rfl
  | 5, _ => rfl
  | 6, _ => rfl
  | n + 7, h => exact absurd h (by omega)
def jl (ls : List (Option Value)) : List (Nat × Value) := ls.zipIdx.filterMap (fun q => q.1.map (fun v => (q.2, v)))
theorem jl_mem {ls : List (Option Value)} {i : Nat} {v : Value} : (i, v) ∈ jl ls ↔ ls[i]? = some (some v) := by
  unfold jl
  rw [List.mem_filterMap]
  constructor
  · rintro ⟨⟨o, k⟩, hq, he⟩
    rw [List.mem_zipIdx_iff_getElem?] at hq
    cases o with
    | none => simp at he
    | some w =>
      simp at he
      obtain ⟨rfl, rfl⟩ := he
      simpa using hq
  · intro h
    exact ⟨(some v, i), by rw [List.mem_zipIdx_iff_getElem?]; simpa using h, by simp⟩
theorem jL_has {lsC : Array Slot} {nL : Nat} {ls : List (Option Value)} (h : jL lsC nL ls) : lv_has lsC nL (jl ls) := ⟨h.1, h.2.1, fun q hq => (h.2.2 q.1 q.2 (jl_mem.mp hq)).1⟩
theorem jL_set {lsC lsC' : Array Slot} {nL i : Nat} {ls : List (Option Value)} {v : Value} (h : jL lsC nL ls) (hv : v.category = 1) (h' : lv_has lsC' nL ((i, v) :: (jl ls).filter (fun q => !(q.1 == i) && !(q.1 + 1 == i && q.2.category == 2)))) : jL lsC' nL (ls.set i (some v)) := by
  refine ⟨h'.1, h'.2.1, fun j w hj => ?_⟩
  rw [List.getElem?_set] at hj
  by_cases hij : i = j
  · rw [if_pos hij] at hj
    split at hj
    · cases hj
      subst hij
      exact ⟨h'.2.2 _ List.mem_cons_self, hv⟩
    · cases hj
  · rw [if_neg hij] at hj
    have h1 := h.2.2 j w hj
    refine ⟨h'.2.2 (j, w) (List.mem_cons_of_mem _ (List.mem_filter.mpr ⟨jl_mem.mpr hj, ?_⟩)), h1.2⟩
    have : ¬ j = i := fun e => hij e.symm
    simp [this, h1.2]
def up (V : jV) (k i j : Nat) (x : Int32) : jV := fun k' i' j' => if k' = k ∧ i' = i ∧ j' = j then x else V k' i' j'
def upR (V : jR) (k i j : Nat) (x : Option (Nat × Nat)) : jR := fun k' i' j' => if k' = k ∧ i' = i ∧ j' = j then x else V k' i' j'
def upL (V : jLv) (k i : Nat) : jLv := fun k' i' => if k' = k ∧ i' = i then true else V k' i'
theorem jcell_obj {ca : Nat → ClassId} {ad : jAd} {M : jM} {k i ci : Nat} (hs : shp k = (0, ci)) : jcell ca ad M k i = .inr (ci, (List.range (jN ci)).map (fun j => jfv ad M ci k i j)) := by
  unfold jcell; rw [hs]; rfl
theorem jcell_int {ca : Nat → ClassId} {ad : jAd} {M : jM} {k i n : Nat} (hs : shp k = (1, n)) : jcell ca ad M k i = .inl (ca 0, n, .inl (fun j => M.2.2.1 k i j)) := by
  unfold jcell; rw [hs]; rfl
theorem jcell_bool {ca : Nat → ClassId} {ad : jAd} {M : jM} {k i n : Nat} (hs : shp k = (2, n)) : jcell ca ad M k i = .inl (ca 1, n, .inl (fun j => M.2.2.1 k i j)) := by
  unfold jcell; rw [hs]; rfl
theorem jcell_ref {ca : Nat → ClassId} {ad : jAd} {M : jM} {k i n : Nat} (hs : shp k = (3, n)) : jcell ca ad M k i = .inl (ca 3, n, .inr (.inr (.inr (.inr (fun j => (M.2.2.2 k i j).map (fun q => ad q.1 q.2)))))) := by
  unfold jcell; rw [hs]; rfl
theorem jcell_long {ca : Nat → ClassId} {ad : jAd} {M : jM} {k i n : Nat} (hs : shp k = (4, n)) : jcell ca ad M k i = .inl (ca 2, n, .inr (.inl (fun j => (M.2.2.1 k i j).toInt64))) := by
  unfold jcell; rw [hs]; rfl
/-- a cell depends on what M holds there alone -/
theorem jcell_congr {ca : Nat → ClassId} {ad : jAd} {M M' : jM} {k i : Nat} (h1 : ∀ j, M'.2.2.1 k i j = M.2.2.1 k i j) (h2 : ∀ j, M'.2.2.2 k i j = M.2.2.2 k i j) : jcell ca ad M' k i = jcell ca ad M k i := by
  unfold jcell jfv
  simp only [h1, h2]
theorem jRep_put {D : va_G} {ca : Nat → ClassId} {q0 : Nat} {ad : jAd} {M M' : jM} {H H1 : Heap} {k i : Nat} (h : jRep D ca q0 ad M H) (hz : M'.1 = M.1) (hLv : M'.2.1 = M.2.1) (hl : M.2.1 k i = true) (e2 : H1.size = H.size) (e3 : ∀ q : Nat, q ≠ ad k i → H1[q]? = H[q]?)
    (hat : va_at D vwCl (ad k i, jcell ca ad M' k i) H1) (ho : ∀ k' i', ¬ (k' = k ∧ i' = i) → jcell ca ad M' k' i' = jcell ca ad M k' i') : jRep D ca q0 ad M' H1 := by
  obtain ⟨h1, h2, h3⟩ := h
  refine ⟨by rw [hz, e2]; exact h1, fun k' i' hl' => ?_, by rw [hLv]; exact h3⟩
  rw [hLv] at hl'
  by_cases e : k' = k ∧ i' = i
  · obtain ⟨rfl, rfl⟩ := e
    exact ⟨(h2 _ _ hl').1, hat⟩
  · obtain ⟨a1, a2⟩ := h2 k' i' hl'
    refine ⟨a1, ?_⟩
    rw [ho k' i' e]
    exact va_at.kept a2 (e3 _ fun q => e (h3 _ _ _ _ hl' hl q))
theorem jRep_lt {D : va_G} {ca : Nat → ClassId} {q0 : Nat} {ad : jAd} {M : jM} {H : Heap} (h : jRep D ca q0 ad M H) {k i : Nat} (hl : M.2.1 k i = true) : ad k i < H.size := va_at.lt (h.2.1 k i hl).2
theorem jRep_P {D : va_G} {ca : Nat → ClassId} {q0 : Nat} {ad : jAd} {M : jM} {H : Heap} (h : jRep D ca q0 ad M H) {k i : Nat} (hl : M.2.1 k i = true) : va_P D vwCl [(ad k i, jcell ca ad M k i)] H := by
  intro n q hq
  match n, hq with
  | 0, hq => cases hq; exact (h.2.1 k i hl).2
  | n + 1, hq => simp at hq
section J
variable {p : Program} {l : Launch} {e : Env} {R : Room} {s : State} {m : MethodId} {args : Array Value} {below : List Frame} {meth : Method} {c : Code} {D : va_G} {ca : Nat → ClassId} {q0 : Nat} {sa : Nat → Nat} {ad : jAd} {own : String} {cc : ByteArray} {nL : Nat} {ret : Option FieldType} {Q : State → Prop} {kc ks pc : Nat} {ls : List (Option Value)} {st : List Value} {M : jM}
theorem j_iload_n (K : jK p l R s m args meth c D ca q0 sa own cc nL ret) {k : Fin 4} {x : Int32} (i : Nat) (hd : decode cc pc = .ok (.iload_n k, 1)) (hi : (k : Nat) = i) (hl : ls[i]? = some (some (.int x))) (kk : jW p l e R s m args below meth c D ca q0 ad nL Q kc ks (pc + 1) ls (.int x :: st) M) : jW p l e R s m args below meth c D ca q0 ad nL Q kc ks pc ls st M :=
  fun H locs lsC cells slots h1 h2 h3 h4 h5 => lv_iload_n K.1 K.2.1 hd hi (h1.2.2 _ _ hl).1 (kk H locs lsC cells slots h1 h2 h3 h4 h5)
theorem j_iload (K : jK p l R s m args meth c D ca q0 sa own cc nL ret) {i : Nat} {x : Int32} (hd : decode cc pc = .ok (.iload i, 2)) (hl : ls[i]? = some (some (.int x))) (kk : jW p l e R s m args below meth c D ca q0 ad nL Q kc ks (pc + 2) ls (.int x :: st) M) : jW p l e R s m args below meth c D ca q0 ad nL Q kc ks pc ls st M :=
  fun H locs lsC cells slots h1 h2 h3 h4 h5 => lv_iload K.1 K.2.1 hd (h1.2.2 _ _ hl).1 (kk H locs lsC cells slots h1 h2 h3 h4 h5)
theorem j_aload_n (K : jK p l R s m args meth c D ca q0 sa own cc nL ret) {k : Fin 4} {x : Nat} (i : Nat) (hd : decode cc pc = .ok (.aload_n k, 1)) (hi : (k : Nat) = i) (hl : ls[i]? = some (some (.ref x))) (kk : jW p l e R s m args below meth c D ca q0 ad nL Q kc ks (pc + 1) ls (.ref x :: st) M) : jW p l e R s m args below meth c D ca q0 ad nL Q kc ks pc ls st M :=
  fun H locs lsC cells slots h1 h2 h3 h4 h5 => lv_aload_n K.1 K.2.1 hd hi (h1.2.2 _ _ hl).1 (kk H locs lsC cells slots h1 h2 h3 h4 h5)
theorem j_aload (K : jK p l R s m args meth c D ca q0 sa own cc nL ret) {i : Nat} {x : Nat} (hd : decode cc pc = .ok (.aload i, 2)) (hl : ls[i]? = some (some (.ref x))) (kk : jW p l e R s m args below meth c D ca q0 ad nL Q kc ks (pc + 2) ls (.ref x :: st) M) : jW p l e R s m args below meth c D ca q0 ad nL Q kc ks pc ls st M :=
  fun H locs lsC cells slots h1 h2 h3 h4 h5 => lv_aload K.1 K.2.1 hd (h1.2.2 _ _ hl).1 (kk H locs lsC cells slots h1 h2 h3 h4 h5)
theorem j_istore_n (K : jK p l R s m args meth c D ca q0 sa own cc nL ret) {k : Fin 4} {x : Int32} (i : Nat) (hd : decode cc pc = .ok (.istore_n k, 1)) (hi : (k : Nat) = i) (hn : i < nL) (kk : jW p l e R s m args below meth c D ca q0 ad nL Q kc ks (pc + 1) (ls.set i (some (.int x))) st M) : jW p l e R s m args below meth c D ca q0 ad nL Q kc ks pc ls (.int x :: st) M :=
  fun H locs lsC cells slots h1 h2 h3 h4 h5 => lv_istore_n K.1 K.2.1 hd hi (jL_has h1) hn rfl (fun lsC' h' => kk H locs lsC' cells slots (jL_set h1 rfl h') h2 h3 h4 h5)
theorem j_istore (K : jK p l R s m args meth c D ca q0 sa own cc nL ret) {i : Nat} {x : Int32} (hd : decode cc pc = .ok (.istore i, 2)) (hn : i < nL) (kk : jW p l e R s m args below meth c D ca q0 ad nL Q kc ks (pc + 2) (ls.set i (some (.int x))) st M) : jW p l e R s m args below meth c D ca q0 ad nL Q kc ks pc ls (.int x :: st) M :=
  fun H locs lsC cells slots h1 h2 h3 h4 h5 => lv_istore K.1 K.2.1 hd (jL_has h1) hn rfl (fun lsC' h' => kk H locs lsC' cells slots (jL_set h1 rfl h') h2 h3 h4 h5)
theorem j_astore_n (K : jK p l R s m args meth c D ca q0 sa own cc nL ret) {k : Fin 4} {x : Nat} (i : Nat) (hd : decode cc pc = .ok (.astore_n k, 1)) (hi : (k : Nat) = i) (hn : i < nL) (kk : jW p l e R s m args below meth c D ca q0 ad nL Q kc ks (pc + 1) (ls.set i (some (.ref x))) st M) : jW p l e R s m args below meth c D ca q0 ad nL Q kc ks pc ls (.ref x :: st) M :=
  fun H locs lsC cells slots h1 h2 h3 h4 h5 => lv_astore_n K.1 K.2.1 hd hi (jL_has h1) hn rfl (fun lsC' h' => kk H locs lsC' cells slots (jL_set h1 rfl h') h2 h3 h4 h5)
theorem j_astore (K : jK p l R s m args meth c D ca q0 sa own cc nL ret) {i : Nat} {x : Nat} (hd : decode cc pc = .ok (.astore i, 2)) (hn : i < nL) (kk : jW p l e R s m args below meth c D ca q0 ad nL Q kc ks (pc + 2) (ls.set i (some (.ref x))) st M) : jW p l e R s m args below meth c D ca q0 ad nL Q kc ks pc ls (.ref x :: st) M :=
  fun H locs lsC cells slots h1 h2 h3 h4 h5 => lv_astore K.1 K.2.1 hd (jL_has h1) hn rfl (fun lsC' h' => kk H locs lsC' cells slots (jL_set h1 rfl h') h2 h3 h4 h5)
theorem j_iinc (K : jK p l R s m args meth c D ca q0 sa own cc nL ret) {i : Nat} {n : Int} {x v : Int32} (hd : decode cc pc = .ok (.iinc i n, 3)) (hl : ls[i]? = some (some (.int x))) (hn : i < nL) (hv : x + Int32.ofInt n = v) (kk : jW p l e R s m args below meth c D ca q0 ad nL Q kc ks (pc + 3) (ls.set i (some (.int v))) st M) : jW p l e R s m args below meth c D ca q0 ad nL Q kc ks pc ls st M := by
  intro H locs lsC cells slots h1 h2 h3 h4 h5
  obtain ⟨k, hk⟩ := List.getElem?_of_mem (jl_mem.mpr hl)
  exact lv_iinc K.1 K.2.1 hd (jL_has h1) hk hv hn rfl (fun lsC' h' => kk H locs lsC' cells slots (jL_set h1 rfl h') h2 h3 h4 h5)
theorem j_iconst (K : jK p l R s m args meth c D ca q0 sa own cc nL ret) {n : Int} (v : Int32) (hd : decode cc pc = .ok (.iconst n, 1)) (hv : Int32.ofInt n = v) (kk : jW p l e R s m args below meth c D ca q0 ad nL Q kc ks (pc + 1) ls (.int v :: st) M) : jW p l e R s m args below meth c D ca q0 ad nL Q kc ks pc ls st M :=
  fun H locs lsC cells slots h1 h2 h3 h4 h5 => lv_iconst K.1 K.2.1 hd hv (kk H locs lsC cells slots h1 h2 h3 h4 h5)
theorem j_bipush (K : jK p l R s m args meth c D ca q0 sa own cc nL ret) {n : Int} (v : Int32) (hd : decode cc pc = .ok (.bipush n, 2)) (hv : (Int8.ofInt n).toInt32 = v) (kk : jW p l e R s m args below meth c D ca q0 ad nL Q kc ks (pc + 2) ls (.int v :: st) M) : jW p l e R s m args below meth c D ca q0 ad nL Q kc ks pc ls st M :=
  fun H locs lsC cells slots h1 h2 h3 h4 h5 => lv_bipush K.1 K.2.1 hd hv (kk H locs lsC cells slots h1 h2 h3 h4 h5)
theorem j_sipush (K : jK p l R s m args meth c D ca q0 sa own cc nL ret) {n : Int} (v : Int32) (hd : decode cc pc = .ok (.sipush n, 3)) (hv : (Int16.ofInt n).toInt32 = v) (kk : jW p l e R s m args below meth c D ca q0 ad nL Q kc ks (pc + 3) ls (.int v :: st) M) : jW p l e R s m args below meth c D ca q0 ad nL Q kc ks pc ls st M :=
  fun H locs lsC cells slots h1 h2 h3 h4 h5 => lv_sipush K.1 K.2.1 hd hv (kk H locs lsC cells slots h1 h2 h3 h4 h5)
theorem j_ldcw (K : jK p l R s m args meth c D ca q0 sa own cc nL ret) {index : Nat} (v : Int32) (hd : decode cc pc = .ok (.ldc_w index, 3)) (hw : Cond.constant own index v ∈ WG) (kk : jW p l e R s m args below meth c D ca q0 ad nL Q kc ks (pc + 3) ls (.int v :: st) M) : jW p l e R s m args below meth c D ca q0 ad nL Q kc ks pc ls st M :=
  fun H locs lsC cells slots h1 h2 h3 h4 h5 => lv_ldcw K.1 K.2.1 K.2.2.2.1 (K.2.2.2.2.1 _ hw) hd (kk H locs lsC cells slots h1 h2 h3 h4 h5)
theorem j_ldc (K : jK p l R s m args meth c D ca q0 sa own cc nL ret) {index : Nat} (v : Int32) (hd : decode cc pc = .ok (.ldc index, 2)) (hw : Cond.constant own index v ∈ WG) (kk : jW p l e R s m args below meth c D ca q0 ad nL Q kc ks (pc + 2) ls (.int v :: st) M) : jW p l e R s m args below meth c D ca q0 ad nL Q kc ks pc ls st M :=
  fun H locs lsC cells slots h1 h2 h3 h4 h5 => lv_ldc K.1 K.2.1 K.2.2.2.1 (K.2.2.2.2.1 _ hw) hd (kk H locs lsC cells slots h1 h2 h3 h4 h5)
theorem j_lconst (K : jK p l R s m args meth c D ca q0 sa own cc nL ret) {n : Fin 2} (v : Int64) (hd : decode cc pc = .ok (.lconst n, 1)) (hv : Int64.ofNat (n : Nat) = v) (kk : jW p l e R s m args below meth c D ca q0 ad nL Q kc ks (pc + 1) ls (.long v :: st) M) : jW p l e R s m args below meth c D ca q0 ad nL Q kc ks pc ls st M :=
  fun H locs lsC cells slots h1 h2 h3 h4 h5 => lv_lconst K.1 K.2.1 hd hv (kk H locs lsC cells slots h1 h2 h3 h4 h5)
theorem j_i2l (K : jK p l R s m args meth c D ca q0 sa own cc nL ret) {x : Int32} (hd : decode cc pc = .ok (.i2l, 1)) (kk : jW p l e R s m args below meth c D ca q0 ad nL Q kc ks (pc + 1) ls (.long x.toInt64 :: st) M) : jW p l e R s m args below meth c D ca q0 ad nL Q kc ks pc ls (.int x :: st) M :=
  fun H locs lsC cells slots h1 h2 h3 h4 h5 => lv_i2l K.1 K.2.1 hd rfl (kk H locs lsC cells slots h1 h2 h3 h4 h5)
theorem j_iadd (K : jK p l R s m args meth c D ca q0 sa own cc nL ret) {x y : Int32} (hd : decode cc pc = .ok (.iadd, 1)) (kk : jW p l e R s m args below meth c D ca q0 ad nL Q kc ks (pc + 1) ls (.int (x + y) :: st) M) : jW p l e R s m args below meth c D ca q0 ad nL Q kc ks pc ls (.int y :: .int x :: st) M :=
  fun H locs lsC cells slots h1 h2 h3 h4 h5 => lv_iadd K.1 K.2.1 hd (kk H locs lsC cells slots h1 h2 h3 h4 h5)
theorem j_isub (K : jK p l R s m args meth c D ca q0 sa own cc nL ret) {x y : Int32} (hd : decode cc pc = .ok (.isub, 1)) (kk : jW p l e R s m args below meth c D ca q0 ad nL Q kc ks (pc + 1) ls (.int (x - y) :: st) M) : jW p l e R s m args below meth c D ca q0 ad nL Q kc ks pc ls (.int y :: .int x :: st) M :=
  fun H locs lsC cells slots h1 h2 h3 h4 h5 => lv_isub K.1 K.2.1 hd (kk H locs lsC cells slots h1 h2 h3 h4 h5)
theorem j_imul (K : jK p l R s m args meth c D ca q0 sa own cc nL ret) {x y : Int32} (hd : decode cc pc = .ok (.imul, 1)) (kk : jW p l e R s m args below meth c D ca q0 ad nL Q kc ks (pc + 1) ls (.int (x * y) :: st) M) : jW p l e R s m args below meth c D ca q0 ad nL Q kc ks pc ls (.int y :: .int x :: st) M :=
  fun H locs lsC cells slots h1 h2 h3 h4 h5 => lv_imul K.1 K.2.1 hd (kk H locs lsC cells slots h1 h2 h3 h4 h5)
theorem j_idiv (K : jK p l R s m args meth c D ca q0 sa own cc nL ret) {x y : Int32} (hd : decode cc pc = .ok (.idiv, 1)) (hne : ¬ y = 0) (kk : jW p l e R s m args below meth c D ca q0 ad nL Q kc ks (pc + 1) ls (.int (x / y) :: st) M) : jW p l e R s m args below meth c D ca q0 ad nL Q kc ks pc ls (.int y :: .int x :: st) M :=
  fun H locs lsC cells slots h1 h2 h3 h4 h5 => lv_idiv K.1 K.2.1 hd hne (kk H locs lsC cells slots h1 h2 h3 h4 h5)
theorem j_irem (K : jK p l R s m args meth c D ca q0 sa own cc nL ret) {x y : Int32} (hd : decode cc pc = .ok (.irem, 1)) (hne : ¬ y = 0) (kk : jW p l e R s m args below meth c D ca q0 ad nL Q kc ks (pc + 1) ls (.int (x - x / y * y) :: st) M) : jW p l e R s m args below meth c D ca q0 ad nL Q kc ks pc ls (.int y :: .int x :: st) M :=
  fun H locs lsC cells slots h1 h2 h3 h4 h5 => lv_irem K.1 K.2.1 hd hne (kk H locs lsC cells slots h1 h2 h3 h4 h5)
theorem j_iand (K : jK p l R s m args meth c D ca q0 sa own cc nL ret) {x y : Int32} (hd : decode cc pc = .ok (.iand, 1)) (kk : jW p l e R s m args below meth c D ca q0 ad nL Q kc ks (pc + 1) ls (.int (x &&& y) :: st) M) : jW p l e R s m args below meth c D ca q0 ad nL Q kc ks pc ls (.int y :: .int x :: st) M :=
  fun H locs lsC cells slots h1 h2 h3 h4 h5 => lv_iand K.1 K.2.1 hd (kk H locs lsC cells slots h1 h2 h3 h4 h5)
theorem j_ior (K : jK p l R s m args meth c D ca q0 sa own cc nL ret) {x y : Int32} (hd : decode cc pc = .ok (.ior, 1)) (kk : jW p l e R s m args below meth c D ca q0 ad nL Q kc ks (pc + 1) ls (.int (x ||| y) :: st) M) : jW p l e R s m args below meth c D ca q0 ad nL Q kc ks pc ls (.int y :: .int x :: st) M :=
  fun H locs lsC cells slots h1 h2 h3 h4 h5 => lv_ior K.1 K.2.1 hd (kk H locs lsC cells slots h1 h2 h3 h4 h5)
theorem j_ixor (K : jK p l R s m args meth c D ca q0 sa own cc nL ret) {x y : Int32} (hd : decode cc pc = .ok (.ixor, 1)) (kk : jW p l e R s m args below meth c D ca q0 ad nL Q kc ks (pc + 1) ls (.int (x ^^^ y) :: st) M) : jW p l e R s m args below meth c D ca q0 ad nL Q kc ks pc ls (.int y :: .int x :: st) M :=
  fun H locs lsC cells slots h1 h2 h3 h4 h5 => lv_ixor K.1 K.2.1 hd (kk H locs lsC cells slots h1 h2 h3 h4 h5)
theorem j_ishl (K : jK p l R s m args meth c D ca q0 sa own cc nL ret) {x y : Int32} (hd : decode cc pc = .ok (.ishl, 1)) (kk : jW p l e R s m args below meth c D ca q0 ad nL Q kc ks (pc + 1) ls (.int (x <<< (y &&& 31)) :: st) M) : jW p l e R s m args below meth c D ca q0 ad nL Q kc ks pc ls (.int y :: .int x :: st) M :=
  fun H locs lsC cells slots h1 h2 h3 h4 h5 => lv_ishl K.1 K.2.1 hd (kk H locs lsC cells slots h1 h2 h3 h4 h5)
theorem j_dup (K : jK p l R s m args meth c D ca q0 sa own cc nL ret) {v : Value} (hd : decode cc pc = .ok (.dup, 1)) (hv : v.category = 1) (kk : jW p l e R s m args below meth c D ca q0 ad nL Q kc ks (pc + 1) ls (v :: v :: st) M) : jW p l e R s m args below meth c D ca q0 ad nL Q kc ks pc ls (v :: st) M :=
  fun H locs lsC cells slots h1 h2 h3 h4 h5 => lv_dup K.1 K.2.1 hd hv (kk H locs lsC cells slots h1 h2 h3 h4 h5)
theorem j_dup2 (K : jK p l R s m args meth c D ca q0 sa own cc nL ret) {v w : Value} (hd : decode cc pc = .ok (.dup2, 1)) (hv : v.category = 1) (hw : w.category = 1) (kk : jW p l e R s m args below meth c D ca q0 ad nL Q kc ks (pc + 1) ls (v :: w :: v :: w :: st) M) : jW p l e R s m args below meth c D ca q0 ad nL Q kc ks pc ls (v :: w :: st) M :=
  fun H locs lsC cells slots h1 h2 h3 h4 h5 => lv_dup2_11 K.1 K.2.1 hd hv hw (kk H locs lsC cells slots h1 h2 h3 h4 h5)
theorem j_goto (K : jK p l R s m args meth c D ca q0 sa own cc nL ret) {off : Int} (tgt : Nat) (hd : decode cc pc = .ok (.goto off, 3)) (ht : (pc : Int) + off = (tgt : Int)) (kk : jW p l e R s m args below meth c D ca q0 ad nL Q kc ks tgt ls st M) : jW p l e R s m args below meth c D ca q0 ad nL Q kc ks pc ls st M :=
  fun H locs lsC cells slots h1 h2 h3 h4 h5 => lv_goto K.1 K.2.1 hd ht (kk H locs lsC cells slots h1 h2 h3 h4 h5)
theorem j_icmp_eq (K : jK p l R s m args meth c D ca q0 sa own cc nL ret) {x y : Int32} {off : Int} (tgt : Nat) (hd : decode cc pc = .ok (.if_icmp .eq off, 3)) (ht : (pc : Int) + off = (tgt : Int)) (kt : x = y → jW p l e R s m args below meth c D ca q0 ad nL Q kc ks tgt ls st M) (kf : ¬ x = y → jW p l e R s m args below meth c D ca q0 ad nL Q kc ks (pc + 3) ls st M) : jW p l e R s m args below meth c D ca q0 ad nL Q kc ks pc ls (.int y :: .int x :: st) M :=
  fun H locs lsC cells slots h1 h2 h3 h4 h5 => lv_icmp_eq K.1 K.2.1 hd ht (fun h => kt h H locs lsC cells slots h1 h2 h3 h4 h5) (fun h => kf h H locs lsC cells slots h1 h2 h3 h4 h5)
theorem j_if_eq (K : jK p l R s m args meth c D ca q0 sa own cc nL ret) {x : Int32} {off : Int} (tgt : Nat) (hd : decode cc pc = .ok (.ifCond .eq off, 3)) (ht : (pc : Int) + off = (tgt : Int)) (kt : x = 0 → jW p l e R s m args below meth c D ca q0 ad nL Q kc ks tgt ls st M) (kf : ¬ x = 0 → jW p l e R s m args below meth c D ca q0 ad nL Q kc ks (pc + 3) ls st M) : jW p l e R s m args below meth c D ca q0 ad nL Q kc ks pc ls (.int x :: st) M :=
  fun H locs lsC cells slots h1 h2 h3 h4 h5 => lv_if_eq K.1 K.2.1 hd ht (fun h => kt h H locs lsC cells slots h1 h2 h3 h4 h5) (fun h => kf h H locs lsC cells slots h1 h2 h3 h4 h5)
theorem j_icmp_ne (K : jK p l R s m args meth c D ca q0 sa own cc nL ret) {x y : Int32} {off : Int} (tgt : Nat) (hd : decode cc pc = .ok (.if_icmp .ne off, 3)) (ht : (pc : Int) + off = (tgt : Int)) (kt : ¬ x = y → jW p l e R s m args below meth c D ca q0 ad nL Q kc ks tgt ls st M) (kf : x = y → jW p l e R s m args below meth c D ca q0 ad nL Q kc ks (pc + 3) ls st M) : jW p l e R s m args below meth c D ca q0 ad nL Q kc ks pc ls (.int y :: .int x :: st) M :=
  fun H locs lsC cells slots h1 h2 h3 h4 h5 => lv_icmp_ne K.1 K.2.1 hd ht (fun h => kt h H locs lsC cells slots h1 h2 h3 h4 h5) (fun h => kf h H locs lsC cells slots h1 h2 h3 h4 h5)
theorem j_if_ne (K : jK p l R s m args meth c D ca q0 sa own cc nL ret) {x : Int32} {off : Int} (tgt : Nat) (hd : decode cc pc = .ok (.ifCond .ne off, 3)) (ht : (pc : Int) + off = (tgt : Int)) (kt : ¬ x = 0 → jW p l e R s m args below meth c D ca q0 ad nL Q kc ks tgt ls st M) (kf : x = 0 → jW p l e R s m args below meth c D ca q0 ad nL Q kc ks (pc + 3) ls st M) : jW p l e R s m args below meth c D ca q0 ad nL Q kc ks pc ls (.int x :: st) M :=
  fun H locs lsC cells slots h1 h2 h3 h4 h5 => lv_if_ne K.1 K.2.1 hd ht (fun h => kt h H locs lsC cells slots h1 h2 h3 h4 h5) (fun h => kf h H locs lsC cells slots h1 h2 h3 h4 h5)
theorem j_icmp_lt (K : jK p l R s m args meth c D ca q0 sa own cc nL ret) {x y : Int32} {off : Int} (tgt : Nat) (hd : decode cc pc = .ok (.if_icmp .lt off, 3)) (ht : (pc : Int) + off = (tgt : Int)) (kt : x < y → jW p l e R s m args below meth c D ca q0 ad nL Q kc ks tgt ls st M) (kf : ¬ x < y → jW p l e R s m args below meth c D ca q0 ad nL Q kc ks (pc + 3) ls st M) : jW p l e R s m args below meth c D ca q0 ad nL Q kc ks pc ls (.int y :: .int x :: st) M :=
  fun H locs lsC cells slots h1 h2 h3 h4 h5 => lv_icmp_lt K.1 K.2.1 hd ht (fun h => kt h H locs lsC cells slots h1 h2 h3 h4 h5) (fun h => kf h H locs lsC cells slots h1 h2 h3 h4 h5)
theorem j_if_lt (K : jK p l R s m args meth c D ca q0 sa own cc nL ret) {x : Int32} {off : Int} (tgt : Nat) (hd : decode cc pc = .ok (.ifCond .lt off, 3)) (ht : (pc : Int) + off = (tgt : Int)) (kt : x < 0 → jW p l e R s m args below meth c D ca q0 ad nL Q kc ks tgt ls st M) (kf : ¬ x < 0 → jW p l e R s m args below meth c D ca q0 ad nL Q kc ks (pc + 3) ls st M) : jW p l e R s m args below meth c D ca q0 ad nL Q kc ks pc ls (.int x :: st) M :=
  fun H locs lsC cells slots h1 h2 h3 h4 h5 => lv_if_lt K.1 K.2.1 hd ht (fun h => kt h H locs lsC cells slots h1 h2 h3 h4 h5) (fun h => kf h H locs lsC cells slots h1 h2 h3 h4 h5)
theorem j_icmp_ge (K : jK p l R s m args meth c D ca q0 sa own cc nL ret) {x y : Int32} {off : Int} (tgt : Nat) (hd : decode cc pc = .ok (.if_icmp .ge off, 3)) (ht : (pc : Int) + off = (tgt : Int)) (kt : y ≤ x → jW p l e R s m args below meth c D ca q0 ad nL Q kc ks tgt ls st M) (kf : ¬ y ≤ x → jW p l e R s m args below meth c D ca q0 ad nL Q kc ks (pc + 3) ls st M) : jW p l e R s m args below meth c D ca q0 ad nL Q kc ks pc ls (.int y :: .int x :: st) M :=
  fun H locs lsC cells slots h1 h2 h3 h4 h5 => lv_icmp_ge K.1 K.2.1 hd ht (fun h => kt h H locs lsC cells slots h1 h2 h3 h4 h5) (fun h => kf h H locs lsC cells slots h1 h2 h3 h4 h5)
theorem j_if_ge (K : jK p l R s m args meth c D ca q0 sa own cc nL ret) {x : Int32} {off : Int} (tgt : Nat) (hd : decode cc pc = .ok (.ifCond .ge off, 3)) (ht : (pc : Int) + off = (tgt : Int)) (kt : 0 ≤ x → jW p l e R s m args below meth c D ca q0 ad nL Q kc ks tgt ls st M) (kf : ¬ 0 ≤ x → jW p l e R s m args below meth c D ca q0 ad nL Q kc ks (pc + 3) ls st M) : jW p l e R s m args below meth c D ca q0 ad nL Q kc ks pc ls (.int x :: st) M :=
  fun H locs lsC cells slots h1 h2 h3 h4 h5 => lv_if_ge K.1 K.2.1 hd ht (fun h => kt h H locs lsC cells slots h1 h2 h3 h4 h5) (fun h => kf h H locs lsC cells slots h1 h2 h3 h4 h5)
theorem j_icmp_gt (K : jK p l R s m args meth c D ca q0 sa own cc nL ret) {x y : Int32} {off : Int} (tgt : Nat) (hd : decode cc pc = .ok (.if_icmp .gt off, 3)) (ht : (pc : Int) + off = (tgt : Int)) (kt : y < x → jW p l e R s m args below meth c D ca q0 ad nL Q kc ks tgt ls st M) (kf : ¬ y < x → jW p l e R s m args below meth c D ca q0 ad nL Q kc ks (pc + 3) ls st M) : jW p l e R s m args below meth c D ca q0 ad nL Q kc ks pc ls (.int y :: .int x :: st) M :=
  fun H locs lsC cells slots h1 h2 h3 h4 h5 => lv_icmp_gt K.1 K.2.1 hd ht (fun h => kt h H locs lsC cells slots h1 h2 h3 h4 h5) (fun h => kf h H locs lsC cells slots h1 h2 h3 h4 h5)
theorem j_if_gt (K : jK p l R s m args meth c D ca q0 sa own cc nL ret) {x : Int32} {off : Int} (tgt : Nat) (hd : decode cc pc = .ok (.ifCond .gt off, 3)) (ht : (pc : Int) + off = (tgt : Int)) (kt : 0 < x → jW p l e R s m args below meth c D ca q0 ad nL Q kc ks tgt ls st M) (kf : ¬ 0 < x → jW p l e R s m args below meth c D ca q0 ad nL Q kc ks (pc + 3) ls st M) : jW p l e R s m args below meth c D ca q0 ad nL Q kc ks pc ls (.int x :: st) M :=
  fun H locs lsC cells slots h1 h2 h3 h4 h5 => lv_if_gt K.1 K.2.1 hd ht (fun h => kt h H locs lsC cells slots h1 h2 h3 h4 h5) (fun h => kf h H locs lsC cells slots h1 h2 h3 h4 h5)
theorem j_icmp_le (K : jK p l R s m args meth c D ca q0 sa own cc nL ret) {x y : Int32} {off : Int} (tgt : Nat) (hd : decode cc pc = .ok (.if_icmp .le off, 3)) (ht : (pc : Int) + off = (tgt : Int)) (kt : x ≤ y → jW p l e R s m args below meth c D ca q0 ad nL Q kc ks tgt ls st M) (kf : ¬ x ≤ y → jW p l e R s m args below meth c D ca q0 ad nL Q kc ks (pc + 3) ls st M) : jW p l e R s m args below meth c D ca q0 ad nL Q kc ks pc ls (.int y :: .int x :: st) M :=
  fun H locs lsC cells slots h1 h2 h3 h4 h5 => lv_icmp_le K.1 K.2.1 hd ht (fun h => kt h H locs lsC cells slots h1 h2 h3 h4 h5) (fun h => kf h H locs lsC cells slots h1 h2 h3 h4 h5)
theorem j_if_le (K : jK p l R s m args meth c D ca q0 sa own cc nL ret) {x : Int32} {off : Int} (tgt : Nat) (hd : decode cc pc = .ok (.ifCond .le off, 3)) (ht : (pc : Int) + off = (tgt : Int)) (kt : x ≤ 0 → jW p l e R s m args below meth c D ca q0 ad nL Q kc ks tgt ls st M) (kf : ¬ x ≤ 0 → jW p l e R s m args below meth c D ca q0 ad nL Q kc ks (pc + 3) ls st M) : jW p l e R s m args below meth c D ca q0 ad nL Q kc ks pc ls (.int x :: st) M :=
  fun H locs lsC cells slots h1 h2 h3 h4 h5 => lv_if_le K.1 K.2.1 hd ht (fun h => kt h H locs lsC cells slots h1 h2 h3 h4 h5) (fun h => kf h H locs lsC cells slots h1 h2 h3 h4 h5)
/-- more is known than is wanted -/
theorem jL_sub {lsC : Array Slot} {ls' : List (Option Value)} (h : jL lsC nL ls) (hs : ∀ (i : Nat) (v : Value), ls'[i]? = some (some v) → ls[i]? = some (some v)) : jL lsC nL ls' := ⟨h.1, h.2.1, fun i v hv => h.2.2 i v (hs i v hv)⟩
theorem j_locals {ls' : List (Option Value)} (hs : ∀ (i : Nat) (v : Value), ls'[i]? = some (some v) → ls[i]? = some (some v)) (kk : jW p l e R s m args below meth c D ca q0 ad nL Q kc ks pc ls' st M) : jW p l e R s m args below meth c D ca q0 ad nL Q kc ks pc ls st M :=
  fun H locs lsC cells slots h1 h2 h3 h4 h5 => kk H locs lsC cells slots (jL_sub h1 hs) h2 h3 h4 h5
theorem j_room {kc' ks' : Nat} (hc : kc' ≤ kc) (hs : ks' ≤ ks) (kk : jW p l e R s m args below meth c D ca q0 ad nL Q kc' ks' pc ls st M) : jW p l e R s m args below meth c D ca q0 ad nL Q kc ks pc ls st M :=
  fun H locs lsC cells slots h1 h2 h3 h4 h5 => kk H locs lsC cells slots h1 h2 h3 (by omega) (by omega)
end J
end
section
/-- an entry of own's pool is the field j of the class ci: by its own link, or as a nest mate's -/
def jFld (own : String) (idx ci j : Nat) : Prop := ((jT ci) j).1 = jC ci ∧ j < jN ci ∧ ci < 7 ∧ (Cond.fieldLink own idx (jC ci) ((jT ci) j).2.1 ((jT ci) j).2.2.1 ∈ WG ∨ ∃ host : String, Cond.fieldLinkNest own idx (jC ci) ((jT ci) j).2.1 ((jT ci) j).2.2.1 host ∈ OW)
def jFldO (own : String) (idx ci j : Nat) : Prop := ((jT ci) j).1 = jC ci ∧ j < jN ci ∧ ci < 7 ∧ Cond.fieldLink own idx (jC ci) ((jT ci) j).2.1 ((jT ci) j).2.2.1 ∈ WG
theorem jFldO.any {own : String} {idx ci j : Nat} (h : jFldO own idx ci j) : jFld own idx ci j := ⟨h.1, h.2.1, h.2.2.1, Or.inl h.2.2.2⟩
theorem jFld_of {own : String} {idx ci j : Nat} (h0 : ((jT ci) j).1 = jC ci) (h1 : j < jN ci) (h2 : ci < 7) (h : Cond.fieldLink own idx (jC ci) ((jT ci) j).2.1 ((jT ci) j).2.2.1 ∈ WG) : jFld own idx ci j := ⟨h0, h1, h2, Or.inl h⟩
theorem jFld_nest {own : String} {idx ci j : Nat} (host : String) (h0 : ((jT ci) j).1 = jC ci) (h1 : j < jN ci) (h2 : ci < 7) (h : Cond.fieldLinkNest own idx (jC ci) ((jT ci) j).2.1 ((jT ci) j).2.2.1 host ∈ OW) : jFld own idx ci j := ⟨h0, h1, h2, Or.inr ⟨host, h⟩⟩
/-! words of the classes, by their places in the tables -/
theorem inX0 : ∀ w ∈ u_ws RX0 TX0 5, w ∈ WG := fun w h => List.mem_filter.mpr ⟨(goodIn_r (big := lw_tbl) (u_ws RX0 TX0 5) [344, 346, 348, 350, 352] (by decide +kernel) (by decide +kernel) w h).1, by
  have h1 : (u_ws RX0 TX0 5).all goodWord = true := by decide +kernel
  exact List.all_eq_true.mp h1 w h⟩
theorem inX1 : ∀ w ∈ u_ws RX1 TX1 7, w ∈ WG := fun w h => List.mem_filter.mpr ⟨(goodIn_r (big := lw_tbl) (u_ws RX1 TX1 7) [392, 394, 396, 398, 400, 402, 404] (by decide +kernel) (by decide +kernel) w h).1, by
  have h1 : (u_ws RX1 TX1 7).all goodWord = true := by decide +kernel
  exact List.all_eq_true.mp h1 w h⟩
theorem inX2 : ∀ w ∈ u_ws RX2 TX2 5, w ∈ WG := fun w h => List.mem_filter.mpr ⟨(goodIn_r (big := lw_tbl) (u_ws RX2 TX2 5) [370, 372, 374, 376, 378] (by decide +kernel) (by decide +kernel) w h).1, by
  have h1 : (u_ws RX2 TX2 5).all goodWord = true := by decide +kernel
  exact List.all_eq_true.mp h1 w h⟩
theorem inX3 : ∀ w ∈ u_ws RX3 TX3 4, w ∈ WG := fun w h => List.mem_filter.mpr ⟨(goodIn_r (big := lw_tbl) (u_ws RX3 TX3 4) [104, 106, 108, 110] (by decide +kernel) (by decide +kernel) w h).1, by
  have h1 : (u_ws RX3 TX3 4).all goodWord = true := by decide +kernel
  exact List.all_eq_true.mp h1 w h⟩
theorem inX4 : ∀ w ∈ u_ws RX4 TX4 3, w ∈ WG := fun w h => List.mem_filter.mpr ⟨(goodIn_r (big := lw_tbl) (u_ws RX4 TX4 3) [81, 83, 85] (by decide +kernel) (by decide +kernel) w h).1, by
  have h1 : (u_ws RX4 TX4 3).all goodWord = true := by decide +kernel
  exact List.all_eq_true.mp h1 w h⟩
theorem inX5 : ∀ w ∈ u_ws RX5 TX5 11, w ∈ WG := fun w h => List.mem_filter.mpr ⟨(goodIn_r (big := lw_tbl) (u_ws RX5 TX5 11) [125, 127, 129, 131, 133, 135, 137, 139, 141, 143, 145] (by decide +kernel) (by decide +kernel) w h).1, by
  have h1 : (u_ws RX5 TX5 11).all goodWord = true := by decide +kernel
  exact List.all_eq_true.mp h1 w h⟩
theorem inX6 : ∀ w ∈ u_ws RX6 TX6 32, w ∈ WG := fun w h => List.mem_filter.mpr ⟨(goodIn_r (big := lw_tbl) (u_ws RX6 TX6 32) [876, 878, 880, 882, 884, 886, 888, 890, 892, 894, 896, 898, 900, 902, 904, 906, 908, 910, 912, 914, 916, 918, 920, 922, 924, 926, 928, 930, 932, 934, 936, 938] (by decide +kernel) (by decide +kernel) w h).1, by
  have h1 : (u_ws RX6 TX6 32).all goodWord = true := by decide +kernel
  exact List.all_eq_true.mp h1 w h⟩
theorem jws_in : ∀ ci, ci < 7 → ∀ w ∈ u_ws (jC ci) (jT ci) (jN ci), w ∈ WG := by
  intro ci h
  match ci, h with
  | 0, _ => exact inX0
  | 1, _ => exact inX1
  | 2, _ => exact inX2
  | 3, _ => exact inX3
  | 4, _ => exact inX4
  | 5, _ => exact inX5
  | 6, _ => exact inX6
  | n + 7, h => exact absurd h (by omega)
theorem jty_ok : ∀ ci, ci < 7 → ∀ k, k < jN ci → parseFieldDescriptor ((jT ci) k).2.2.1 = some (jTy ci k) := by
  intro ci h
  match ci, h with
  | 0, _ => exact tyX0_ok
  | 1, _ => exact tyX1_ok
  | 2, _ => exact tyX2_ok
  | 3, _ => exact tyX3_ok
  | 4, _ => exact tyX4_ok
  | 5, _ => exact tyX5_ok
  | 6, _ => exact tyX6_ok
  | n + 7, h => exact absurd h (by omega)
theorem jnm : ∀ ci, ci < 7 → ∀ a, a < jN ci → ∀ b, b < jN ci → a ≠ b → ((jT ci) a).2.1 ≠ ((jT ci) b).2.1 := by
  intro ci h
  match ci, h with
  | 0, _ => exact nmX0
  | 1, _ => exact nmX1
  | 2, _ => exact nmX2
  | 3, _ => exact nmX3
  | 4, _ => exact nmX4
  | 5, _ => exact nmX5
  | 6, _ => exact nmX6
  | n + 7, h => exact absurd h (by omega)
theorem jfs_get {ad : jAd} {M : jM} {ci k i j : Nat} (hj : j < jN ci) : ((List.range (jN ci)).map (fun j => jfv ad M ci k i j))[j]? = some (jfv ad M ci k i j) := by
  simp [hj]
theorem jfs_V {ad : jAd} {M : jM} {ci k i j : Nat} (hj : j < jN ci) : vp_V ((List.range (jN ci)).map (fun j => jfv ad M ci k i j)) j = jfv ad M ci k i j := by
  unfold vp_V
  rw [List.getD_eq_getElem?_getD, jfs_get hj]; rfl
section J
variable {p : Program} {l : Launch} {e : Env} {R : Room} {s : State} {m : MethodId} {args : Array Value} {below : List Frame} {meth : Method} {c : Code} {D : va_G} {ca : Nat → ClassId} {q0 : Nat} {sa : Nat → Nat} {ad : jAd} {own : String} {cc : ByteArray} {nL : Nat} {ret : Option FieldType} {Q : State → Prop} {kc ks pc : Nat} {ls : List (Option Value)} {st : List Value} {M : jM}
theorem jK_K (K : jK p l R s m args meth c D ca q0 sa own cc nL ret) : va_K D vwCl (jTys ca) s := K.2.2.2.2.2.2.1.1
theorem jK_ow (K : jK p l R s m args meth c D ca q0 sa own cc nL ret) {w : Cond} (h : w ∈ OW) : w.before args s = true := va_Nw.use (ow_tabs w h) (K.2.2.2.2.2.2.1.2.2.2.2.1 w h)
theorem j_get (K : jK p l R s m args meth c D ca q0 sa own cc nL ret) {k i ci j idx : Nat} {v : Value} (hd : decode cc pc = .ok (.getfield idx, 3)) (hf : jFld own idx ci j) (hs : shp k = (0, ci)) (hlv : M.2.1 k i = true) (hv : jfv ad M ci k i j = v)
    (kk : jW p l e R s m args below meth c D ca q0 ad nL Q kc ks (pc + 3) ls (v :: st) M) : jW p l e R s m args below meth c D ca q0 ad nL Q kc ks pc ls (.ref (ad k i) :: st) M := by
  intro H locs lsC cells slots h1 h2 h3 h4 h5
  obtain ⟨f0, hj, h7, hf⟩ := hf
  have hP := jRep_P h2 hlv
  rw [jcell_obj hs] at hP
  have hg := (jfs_get (ad := ad) (M := M) (ci := ci) (k := k) (i := i) hj)
  rw [hv] at hg
  have hk := kk H locs lsC cells slots h1 h2 h3 h4 h5
  rcases hf with hf | ⟨host, hf⟩
  · exact va_get K.1 K.2.1 K.2.2.2.2.1 (jws_in ci h7) K.2.2.2.1 (jK_K K) hP 0 rfl (jcls_get ci h7) j hj (K.2.2.2.2.1 _ hf) (fun x hx => by rw [f0] at hx; exact hx) hg hd hk
  · exact va_getN K.1 K.2.1 K.2.2.2.2.1 (jws_in ci h7) K.2.2.2.1 (jK_K K) hP 0 rfl (jcls_get ci h7) j hj (jK_ow K hf) (fun x hx => by rw [f0] at hx; exact hx) hg hd hk
/-- an int field -/
theorem j_gi (K : jK p l R s m args meth c D ca q0 sa own cc nL ret) {k i ci j idx : Nat} (hd : decode cc pc = .ok (.getfield idx, 3)) (hf : jFld own idx ci j) (hs : shp k = (0, ci)) (hlv : M.2.1 k i = true) (hv : jIr ci j = false)
    (kk : jW p l e R s m args below meth c D ca q0 ad nL Q kc ks (pc + 3) ls (.int (M.2.2.1 k i j) :: st) M) : jW p l e R s m args below meth c D ca q0 ad nL Q kc ks pc ls (.ref (ad k i) :: st) M :=
  j_get K hd hf hs hlv (by unfold jfv; rw [if_neg (by rw [hv]; decide)]) kk
/-- a field that is a reference -/
theorem j_gr (K : jK p l R s m args meth c D ca q0 sa own cc nL ret) {k i ci j idx : Nat} (k' i' : Nat) (hd : decode cc pc = .ok (.getfield idx, 3)) (hf : jFld own idx ci j) (hs : shp k = (0, ci)) (hlv : M.2.1 k i = true) (hv : jIr ci j = true) (hr : M.2.2.2 k i j = some (k', i'))
    (kk : jW p l e R s m args below meth c D ca q0 ad nL Q kc ks (pc + 3) ls (.ref (ad k' i') :: st) M) : jW p l e R s m args below meth c D ca q0 ad nL Q kc ks pc ls (.ref (ad k i) :: st) M :=
  j_get K hd hf hs hlv (by unfold jfv; rw [if_pos hv, hr]; rfl) kk
theorem up_other {V : jV} {k i j : Nat} {x : Int32} {k' i' : Nat} (h : ¬ (k' = k ∧ i' = i)) (j' : Nat) : up V k i j x k' i' j' = V k' i' j' := by
  unfold up
  rw [if_neg fun q => h ⟨q.1, q.2.1⟩]
theorem upR_other {V : jR} {k i j : Nat} {x : Option (Nat × Nat)} {k' i' : Nat} (h : ¬ (k' = k ∧ i' = i)) (j' : Nat) : upR V k i j x k' i' j' = V k' i' j' := by
  unfold upR
  rw [if_neg fun q => h ⟨q.1, q.2.1⟩]
/-- a store into a field, over the machine: the new cell, and all others as they were -/
theorem j_putW (K : jK p l R s m args meth c D ca q0 sa own cc nL ret) {H : Heap} {locs : List Loc} {lsC : Array Slot} {cells slots a idx ci j : Nat} {fs : List Value} {v : Value} (hd : decode cc pc = .ok (.putfield idx, 3)) (hf : jFldO own idx ci j) (hat : va_at D vwCl (a, .inr (ci, fs)) H) (hS : va_S (fun q => q0 ≤ q) s.heap H locs) (ha : q0 ≤ a)
    (hfin : ((jT ci) j).2.2.2 = false ∨ (meth.name = "<init>" ∧ jC ci = own)) (hn : narrow (jTy ci j) v = v) (hfit : fits (jTy ci j) v = true) (hl : j < fs.length)
    (kk : ∀ (H1 : Heap) (locs1 : List Loc), H1.size = H.size → (∀ q : Nat, q ≠ a → H1[q]? = H[q]?) → va_at D vwCl (a, .inr (ci, fs.set j v)) H1 → va_S (fun q => q0 ≤ q) s.heap H1 locs1 → W p l e R s m args below meth c H1 locs1 cells slots Q (F0 m (pc + 3) lsC st)) : W p l e R s m args below meth c H locs cells slots Q (F0 m pc lsC (v :: .ref a :: st)) := by
  obtain ⟨f0, hj, h7, hf⟩ := hf
  have hts := K.2.2.2.2.1
  have hin := jws_in ci h7
  have hK := jK_K K
  have hc := jcls_get ci h7
  have hap := va_apart (own := own) hts hin (jTy ci) (jty_ok ci h7) (jnm ci h7) hK hc
  obtain ⟨r, e1, cell, q1, q2, q3, q4⟩ := hat
  have hr : r = (jC ci, jT ci, jN ci) := Option.some.inj (e1.symm.trans hc)
  subst hr
  obtain ⟨hSl, hfc, kC, hkC, hkind⟩ := hK.1 ci _ hc
  obtain ⟨cf, kf, fi, f, hi, hsl⟩ := hSl j hj
  have hlay := hts _ (hin _ (u_in_lay hj))
  unfold u_lay at hlay
  have hst := (u_facts hfc hkC (u_lays hts hin hj) hi).1
  have hsame : s.fieldFound? (jC ci) ((jT ci) j).2.1 ((jT ci) j).2.2.1 = some (cf, kf, fi, f) := by rw [← f0]; exact hi
  have hdd := jty_ok ci h7 j hj
  have done : ∀ H' : Heap, H'[a]? = some (cell.setSlot f.slot v) → H'.size = H.size → (∀ q : Nat, q ≠ a → H'[q]? = H[q]?) → W p l e R s m args below meth c H' (locs ++ [⟨a, f.slot⟩]) cells slots Q (F0 m (pc + 3) lsC st) := by
    intro H' e1 e2 e3
    refine kk H' _ e2 e3 ?_ (hS.put e2 e3 ha)
    rw [hsl] at e1
    exact ⟨_, hc, t_OB.to (V := updV (vp_V fs) j v) ⟨_, e1, q2, q3, t_set q4 hap hj v⟩ (fun i _ => vp_updV_set hl v i)⟩
  by_cases hb : ((jT ci) j).2.2.2 = true
  · have hh : meth.name = "<init>" ∧ jC ci = own := by
      rcases hfin with h | h
      · rw [h] at hb; cases hb
      · exact h
    rw [if_pos hb] at hlay
    have hcf : m.cls = cf := by
      obtain ⟨_, _, c', _, _, _, -, -, hf', -, -, -, hown2, -⟩ := Cond.laysFinal_spec hlay
      have e1 : c' = cf := by have := hi.symm.trans hf'; simp at this; exact this.1.symm
      have hown3 : s.vm.findClass own = some c' := by rw [← hh.2, ← f0]; exact hown2
      rw [← e1]; exact Option.some.inj (K.2.2.2.1.symm.trans hown3)
    have h6 := u_fits hfc hkC hkind (Or.inr hlay) hi hdd hn hfit
    exact W.putFinK K.1 K.2.1 K.2.2.2.1 (hts _ hf) hsame hst hcf hh.1 (by rw [q2]; exact h6) q1 q3 (by rw [hsl]; exact k2_hasslot (q4 j hj)) rfl rfl hd done
  · rw [if_neg hb] at hlay
    have h6 := u_store hfc hkC hkind hlay hi hdd hn hfit
    exact W.putK K.1 K.2.1 (f := f) ⟨K.2.2.2.1, hts _ hf, ⟨_, _, _, hsame⟩, hst⟩ (by rw [q2]; exact h6) q1 q3 (by rw [hsl]; exact k2_hasslot (q4 j hj)) rfl rfl hd done
end J
end
section
theorem shp_small (k : Nat) : (shp k).2 < 2 ^ 31 := by
  unfold shp; split <;> decide
theorem shp_n {k a n : Nat} (h : shp k = (a, n)) : n < 2 ^ 31 := by
  have := shp_small k
  rw [h] at this; exact this
section J
variable {p : Program} {l : Launch} {e : Env} {R : Room} {s : State} {m : MethodId} {args : Array Value} {below : List Frame} {meth : Method} {c : Code} {D : va_G} {ca : Nat → ClassId} {q0 : Nat} {sa : Nat → Nat} {ad : jAd} {own : String} {cc : ByteArray} {nL : Nat} {ret : Option FieldType} {Q : State → Prop} {kc ks pc : Nat} {ls : List (Option Value)} {st : List Value} {M : jM}
theorem jfs_len {M : jM} {ci k i : Nat} : ((List.range (jN ci)).map (fun j => jfv ad M ci k i j)).length = jN ci := by simp
/-- a store of an int into a field -/
theorem j_pi (K : jK p l R s m args meth c D ca q0 sa own cc nL ret) {k i ci j idx : Nat} {x : Int32} (hd : decode cc pc = .ok (.putfield idx, 3)) (hf : jFldO own idx ci j) (hs : shp k = (0, ci)) (hlv : M.2.1 k i = true) (hv : jIr ci j = false) (hty : jTy ci j = .int) (hfin : ((jT ci) j).2.2.2 = false ∨ (meth.name = "<init>" ∧ jC ci = own))
    (kk : jW p l e R s m args below meth c D ca q0 ad nL Q kc ks (pc + 3) ls st (M.1, M.2.1, up M.2.2.1 k i j x, M.2.2.2)) : jW p l e R s m args below meth c D ca q0 ad nL Q kc ks pc ls (.int x :: .ref (ad k i) :: st) M := by
  intro H locs lsC cells slots h1 h2 h3 h4 h5
  have hj := hf.2.1
  have hat := (h2.2.1 k i hlv).2
  rw [jcell_obj hs] at hat
  refine j_putW K hd hf hat h3 (h2.2.1 k i hlv).1 hfin (by rw [hty]; rfl) (by rw [hty]; rfl) (by rw [jfs_len]; exact hj) (fun H1 locs1 e2 e3 hat1 hS1 => ?_)
  refine kk H1 locs1 lsC cells slots h1 (jRep_put h2 rfl rfl hlv e2 e3 ?_ (fun k' i' hn => jcell_congr (fun j' => up_other hn j') (fun _ => rfl))) hS1 h4 h5
  rw [jcell_obj hs]
  have he : ((List.range (jN ci)).map (fun j => jfv ad M ci k i j)).set j (.int x) = (List.range (jN ci)).map (fun j' => jfv ad (M.1, M.2.1, up M.2.2.1 k i j x, M.2.2.2) ci k i j') := by
    apply List.ext_getElem?
    intro n
    rw [List.getElem?_set]
    by_cases hn : j = n
    · subst hn
      simp [hj, jfv, hv, up]
    · simp [hn]
      by_cases hnj : n < jN ci
      · simp [hnj, jfv, up, show ¬ n = j from fun q => hn q.symm]
      · simp [hnj]
  rw [← he]
  exact hat1
/-- a store of a reference into a field -/
theorem j_pr (K : jK p l R s m args meth c D ca q0 sa own cc nL ret) {k i ci j idx k2 i2 : Nat} (hd : decode cc pc = .ok (.putfield idx, 3)) (hf : jFldO own idx ci j) (hs : shp k = (0, ci)) (hlv : M.2.1 k i = true) (hv : jIr ci j = true) (hn : ∀ a : Nat, narrow (jTy ci j) (.ref a) = .ref a) (hft : ∀ a : Nat, fits (jTy ci j) (.ref a) = true) (hfin : ((jT ci) j).2.2.2 = false ∨ (meth.name = "<init>" ∧ jC ci = own))
    (kk : jW p l e R s m args below meth c D ca q0 ad nL Q kc ks (pc + 3) ls st (M.1, M.2.1, M.2.2.1, upR M.2.2.2 k i j (some (k2, i2)))) : jW p l e R s m args below meth c D ca q0 ad nL Q kc ks pc ls (.ref (ad k2 i2) :: .ref (ad k i) :: st) M := by
  intro H locs lsC cells slots h1 h2 h3 h4 h5
  have hj := hf.2.1
  have hat := (h2.2.1 k i hlv).2
  rw [jcell_obj hs] at hat
  refine j_putW K hd hf hat h3 (h2.2.1 k i hlv).1 hfin (hn _) (hft _) (by rw [jfs_len]; exact hj) (fun H1 locs1 e2 e3 hat1 hS1 => ?_)
  refine kk H1 locs1 lsC cells slots h1 (jRep_put h2 rfl rfl hlv e2 e3 ?_ (fun k' i' hn => jcell_congr (fun _ => rfl) (fun j' => upR_other hn j'))) hS1 h4 h5
  rw [jcell_obj hs]
  have he : ((List.range (jN ci)).map (fun j => jfv ad M ci k i j)).set j (.ref (ad k2 i2)) = (List.range (jN ci)).map (fun j' => jfv ad (M.1, M.2.1, M.2.2.1, upR M.2.2.2 k i j (some (k2, i2))) ci k i j') := by
    apply List.ext_getElem?
    intro n
    rw [List.getElem?_set]
    by_cases hn : j = n
    · subst hn
      simp [hj, jfv, hv, upR, jrv]
    · simp [hn]
      by_cases hnj : n < jN ci
      · simp [hnj, jfv, upR, show ¬ n = j from fun q => hn q.symm]
      · simp [hnj]
  rw [← he]
  exact hat1
theorem jty_at (K : jK p l R s m args meth c D ca q0 sa own cc nL ret) (t0 : Nat) {q : ClassId × FieldType} (h : (jTys ca)[t0]? = some q) : ArrOfT s q.1 q.2 := ((jK_K K).2 t0 q h).1
theorem j_iald (K : jK p l R s m args meth c D ca q0 sa own cc nL ret) {k i n : Nat} {x : Int32} (j : Nat) (hd : decode cc pc = .ok (.iaload, 1)) (hs : shp k = (1, n)) (hlv : M.2.1 k i = true) (hx : x = nI j) (hj : j < n)
    (kk : jW p l e R s m args below meth c D ca q0 ad nL Q kc ks (pc + 1) ls (.int (M.2.2.1 k i j) :: st) M) : jW p l e R s m args below meth c D ca q0 ad nL Q kc ks pc ls (.int x :: .ref (ad k i) :: st) M := by
  intro H locs lsC cells slots h1 h2 h3 h4 h5
  subst hx
  have hP := jRep_P h2 hlv
  rw [jcell_int hs] at hP
  refine va_iald K.1 K.2.1 (jK_K K) hP 0 0 rfl rfl (vp_in_nI hj (shp_n hs)) hd ?_
  rw [nI_clamp (Nat.lt_trans hj (shp_n hs))]
  exact kk H locs lsC cells slots h1 h2 h3 h4 h5
theorem j_zald (K : jK p l R s m args meth c D ca q0 sa own cc nL ret) {k i n : Nat} {x : Int32} (j : Nat) (hd : decode cc pc = .ok (.baload, 1)) (hs : shp k = (2, n)) (hlv : M.2.1 k i = true) (hx : x = nI j) (hj : j < n)
    (kk : jW p l e R s m args below meth c D ca q0 ad nL Q kc ks (pc + 1) ls (.int (M.2.2.1 k i j) :: st) M) : jW p l e R s m args below meth c D ca q0 ad nL Q kc ks pc ls (.int x :: .ref (ad k i) :: st) M := by
  intro H locs lsC cells slots h1 h2 h3 h4 h5
  subst hx
  have hP := jRep_P h2 hlv
  rw [jcell_bool hs] at hP
  refine va_zald K.1 K.2.1 (jK_K K) hP 0 1 rfl rfl (vp_in_nI hj (shp_n hs)) hd ?_
  rw [nI_clamp (Nat.lt_trans hj (shp_n hs))]
  exact kk H locs lsC cells slots h1 h2 h3 h4 h5
theorem j_lald (K : jK p l R s m args meth c D ca q0 sa own cc nL ret) {k i n : Nat} {x : Int32} (j : Nat) (hd : decode cc pc = .ok (.laload, 1)) (hs : shp k = (4, n)) (hlv : M.2.1 k i = true) (hx : x = nI j) (hj : j < n)
    (kk : jW p l e R s m args below meth c D ca q0 ad nL Q kc ks (pc + 1) ls (.long (M.2.2.1 k i j).toInt64 :: st) M) : jW p l e R s m args below meth c D ca q0 ad nL Q kc ks pc ls (.int x :: .ref (ad k i) :: st) M := by
  intro H locs lsC cells slots h1 h2 h3 h4 h5
  subst hx
  have hP := jRep_P h2 hlv
  rw [jcell_long hs] at hP
  refine va_lald K.1 K.2.1 (jK_K K) hP 0 2 rfl rfl (vp_in_nI hj (shp_n hs)) hd ?_
  rw [nI_clamp (Nat.lt_trans hj (shp_n hs))]
  exact kk H locs lsC cells slots h1 h2 h3 h4 h5
theorem j_aald (K : jK p l R s m args meth c D ca q0 sa own cc nL ret) {k i n : Nat} {x : Int32} (j k' i' : Nat) (hd : decode cc pc = .ok (.aaload, 1)) (hs : shp k = (3, n)) (hlv : M.2.1 k i = true) (hx : x = nI j) (hj : j < n) (hr : M.2.2.2 k i j = some (k', i'))
    (kk : jW p l e R s m args below meth c D ca q0 ad nL Q kc ks (pc + 1) ls (.ref (ad k' i') :: st) M) : jW p l e R s m args below meth c D ca q0 ad nL Q kc ks pc ls (.int x :: .ref (ad k i) :: st) M := by
  intro H locs lsC cells slots h1 h2 h3 h4 h5
  subst hx
  have hP := jRep_P h2 hlv
  rw [jcell_ref hs] at hP
  refine va_aldq K.1 K.2.1 (jK_K K) hP 0 3 rfl rfl (vp_in_nI hj (shp_n hs)) hd ?_
  rw [nI_clamp (Nat.lt_trans hj (shp_n hs)), hr]
  exact kk H locs lsC cells slots h1 h2 h3 h4 h5
theorem up_row {V : jV} {k i j : Nat} {x : Int32} : (fun j' => up V k i j x k i j') = upd (fun j' => V k i j') j x := by
  funext j'
  by_cases h : j' = j <;> simp [up, upd, h]
theorem j_iast (K : jK p l R s m args meth c D ca q0 sa own cc nL ret) {k i n : Nat} {x y : Int32} (j : Nat) (hd : decode cc pc = .ok (.iastore, 1)) (hs : shp k = (1, n)) (hlv : M.2.1 k i = true) (hx : x = nI j) (hj : j < n)
    (kk : jW p l e R s m args below meth c D ca q0 ad nL Q kc ks (pc + 1) ls st (M.1, M.2.1, up M.2.2.1 k i j y, M.2.2.2)) : jW p l e R s m args below meth c D ca q0 ad nL Q kc ks pc ls (.int y :: .int x :: .ref (ad k i) :: st) M := by
  intro H locs lsC cells slots h1 h2 h3 h4 h5
  subst hx
  have hat := (h2.2.1 k i hlv).2
  rw [jcell_int hs] at hat
  have hcl := nI_clamp (Nat.lt_trans hj (shp_n hs))
  refine W.iast K.1 K.2.1 hat (jty_at K 0 rfl n (fun j => .int (M.2.2.1 k i j))) (fun q => by cases q) (by show ¬ (_ ∨ (arrV _ _ _).slots.size ≤ _); rw [arrV_size]; exact vp_in_nI hj (shp_n hs)) rfl rfl hd fun H1 e z oq => ?_
  refine kk H1 _ lsC cells slots h1 (jRep_put h2 rfl rfl hlv z oq ?_ (fun k' i' hn => jcell_congr (fun j' => up_other hn j') (fun _ => rfl))) (h3.put z oq (h2.2.1 k i hlv).1) h4 h5
  rw [jcell_int hs]
  show H1[ad k i]? = some (vp_cell _ _)
  rw [e, vp_cell_i, up_row, vp_cell_i, arrV_store, hcl]
  congr 2
  funext q
  by_cases hq : q = j
  · simp [updV, upd, hq]
  · simp [updV, upd, hq]
theorem j_zast (K : jK p l R s m args meth c D ca q0 sa own cc nL ret) {k i n : Nat} {x y : Int32} (j : Nat) (hd : decode cc pc = .ok (.bastore, 1)) (hs : shp k = (2, n)) (hlv : M.2.1 k i = true) (hx : x = nI j) (hj : j < n) (hy : y = 0 ∨ y = 1)
    (kk : jW p l e R s m args below meth c D ca q0 ad nL Q kc ks (pc + 1) ls st (M.1, M.2.1, up M.2.2.1 k i j y, M.2.2.2)) : jW p l e R s m args below meth c D ca q0 ad nL Q kc ks pc ls (.int y :: .int x :: .ref (ad k i) :: st) M := by
  intro H locs lsC cells slots h1 h2 h3 h4 h5
  subst hx
  have hat := (h2.2.1 k i hlv).2
  rw [jcell_bool hs] at hat
  have hcl := nI_clamp (Nat.lt_trans hj (shp_n hs))
  have hnar : narrow .boolean (.int y) = .int y := by rcases hy with rfl | rfl <;> rfl
  refine W.zast K.1 K.2.1 hat (jty_at K 1 rfl n (fun j => .int (M.2.2.1 k i j))) (fun q => by cases q) (by show ¬ (_ ∨ (arrV _ _ _).slots.size ≤ _); rw [arrV_size]; exact vp_in_nI hj (shp_n hs)) rfl rfl hd fun H1 e z oq => ?_
  refine kk H1 _ lsC cells slots h1 (jRep_put h2 rfl rfl hlv z oq ?_ (fun k' i' hn => jcell_congr (fun j' => up_other hn j') (fun _ => rfl))) (h3.put z oq (h2.2.1 k i hlv).1) h4 h5
  rw [jcell_bool hs]
  show H1[ad k i]? = some (vp_cell _ _)
  rw [e, vp_cell_i, up_row, vp_cell_i, arrV_store, hcl, hnar]
  congr 2
  funext q
  by_cases hq : q = j
  · simp [updV, upd, hq]
  · simp [updV, upd, hq]
theorem j_last (K : jK p l R s m args meth c D ca q0 sa own cc nL ret) {k i n : Nat} {x : Int32} {z : Int64} (j : Nat) (y : Int32) (hd : decode cc pc = .ok (.lastore, 1)) (hs : shp k = (4, n)) (hlv : M.2.1 k i = true) (hx : x = nI j) (hj : j < n) (hy : z = y.toInt64)
    (kk : jW p l e R s m args below meth c D ca q0 ad nL Q kc ks (pc + 1) ls st (M.1, M.2.1, up M.2.2.1 k i j y, M.2.2.2)) : jW p l e R s m args below meth c D ca q0 ad nL Q kc ks pc ls (.long z :: .int x :: .ref (ad k i) :: st) M := by
  intro H locs lsC cells slots h1 h2 h3 h4 h5
  subst hx
  subst hy
  have hat := (h2.2.1 k i hlv).2
  rw [jcell_long hs] at hat
  have hcl := nI_clamp (Nat.lt_trans hj (shp_n hs))
  refine W.last K.1 K.2.1 hat (jty_at K 2 rfl n (fun j => .long (M.2.2.1 k i j).toInt64)) (fun q => by cases q) (by show ¬ (_ ∨ (arrV _ _ _).slots.size ≤ _); rw [arrV_size]; exact vp_in_nI hj (shp_n hs)) rfl rfl hd fun H1 e z oq => ?_
  refine kk H1 _ lsC cells slots h1 (jRep_put h2 rfl rfl hlv z oq ?_ (fun k' i' hn => jcell_congr (fun j' => up_other hn j') (fun _ => rfl))) (h3.put z oq (h2.2.1 k i hlv).1) h4 h5
  rw [jcell_long hs]
  show H1[ad k i]? = some (vp_cell _ _)
  rw [e, vp_cell_l, vp_cell_l, arrV_store, hcl]
  congr 2
  funext q
  by_cases hq : q = j
  · simp [updV, up, hq]
  · simp [updV, up, hq]
theorem j_aast (K : jK p l R s m args meth c D ca q0 sa own cc nL ret) {k i n k2 i2 : Nat} {x : Int32} (j : Nat) (hd : decode cc pc = .ok (.aastore, 1)) (hs : shp k = (3, n)) (hlv : M.2.1 k i = true) (hx : x = nI j) (hj : j < n) (hs2 : shp k2 = (0, 1)) (hlv2 : M.2.1 k2 i2 = true)
    (kk : jW p l e R s m args below meth c D ca q0 ad nL Q kc ks (pc + 1) ls st (M.1, M.2.1, M.2.2.1, upR M.2.2.2 k i j (some (k2, i2)))) : jW p l e R s m args below meth c D ca q0 ad nL Q kc ks pc ls (.ref (ad k2 i2) :: .int x :: .ref (ad k i) :: st) M := by
  intro H locs lsC cells slots h1 h2 h3 h4 h5
  subst hx
  have hat := (h2.2.1 k i hlv).2
  rw [jcell_ref hs] at hat
  have hat2 := (h2.2.1 k2 i2 hlv2).2
  rw [jcell_obj hs2] at hat2
  have hcl := nI_clamp (Nat.lt_trans hj (shp_n hs))
  have hb := vp_in_nI hj (shp_n hs)
  obtain ⟨r', hr', cellV, g1, g2, g3, -⟩ := hat2
  have hK := jK_K K
  have hcls := (hK.1 1 _ rfl).2
  obtain ⟨kA, comp, k1, k2', k3, -⟩ := (hK.2 3 _ rfl).2
  have hcomp : comp = D.1 1 := Option.some.inj (k3.symm.trans hcls.1)
  subst hcomp
  obtain ⟨kC, hkC, -⟩ := hcls.2
  refine W.aast K.1 K.2.1 hat (fun q h => by cases h) (fun h => by cases h) k1 k2' rfl hkC ⟨fun q => hb (Or.inl q), by show _ < (arrV _ _ _).slots.size; rw [arrV_size]; exact Nat.not_le.mp fun q => hb (Or.inr q)⟩ g1 (fun q h => by rw [g3] at h; cases h) (by rw [g2]; exact hkC) (by rw [g2]; exact va_assign hcls) rfl rfl hd fun H1 e z oq => ?_
  refine kk H1 _ lsC cells slots h1 (jRep_put h2 rfl rfl hlv z oq ?_ (fun k' i' hn => jcell_congr (fun _ => rfl) (fun j' => upR_other hn j'))) (h3.put z oq (h2.2.1 k i hlv).1) h4 h5
  rw [jcell_ref hs]
  show H1[ad k i]? = some (vp_cell _ _)
  rw [e, vp_cell_q, vp_cell_q, arrV_store, hcl]
  congr 2
  funext q
  by_cases hq : q = j
  · simp [updV, upR, hq, va_rf]
  · simp [updV, upR, hq]
end J
end
section
theorem jblind {D : va_G} {ca : Nat → ClassId} {q0 : Nat} {sa : Nat → Nat} {ad : jAd} {av : List Value} {M : jM} : FrameBlind (va_Pc av (fun U => jE D ca q0 sa U U.heap ∧ q0 ≤ U.heap.size ∧ jRep D ca q0 ad M U.heap)) := by
  intro a U g mk h
  obtain ⟨h1, ⟨e1, e2, e3, e4, e5, e6⟩, h2, h3⟩ := h
  exact ⟨h1, ⟨va_K.moved (u := U) (U := U.calling g mk a) (Vm.Alike.refl U.vm) e1, vx_Zq.moved (u := U) (U := U.calling g mk a) (Vm.Alike.refl U.vm) e2, vx_Zq.moved (u := U) (U := U.calling g mk a) (Vm.Alike.refl U.vm) e3, fun q hq => vk_R.same (u := U) (U := U.calling g mk a) rfl (e4 q hq), fun w hw => va_Nw.same (u := U) (U := U.calling g mk a) (ow_tabs w hw) rfl (e5 w hw), va_AO.moved (u := U) (U := U.calling g mk a) (Vm.Alike.refl U.vm) e6⟩, h2, h3⟩
theorem jE_moved {D : va_G} {ca : Nat → ClassId} {q0 : Nat} {sa : Nat → Nat} {s U : State} {H : Heap} {locs : List Loc} (h : jE D ca q0 sa s s.heap) (hS : va_S (fun q => q0 ≤ q) s.heap H locs) (hU : U.heap = H) (hW : s.WarmedH U.vm) : jE D ca q0 sa U U.heap := by
  obtain ⟨e1, e2, e3, e4, e5, e6⟩ := h
  refine ⟨va_K.moved hW.alike e1, ?_, ?_, fun q hq => vk_R.warm hW (e4 q hq), ow_warm hW e5, va_AO.moved hW.alike e6⟩
  · rw [hU]; exact vx_Zq.moved hW.alike (vx_Zq.kept e2 hS.2.1)
  · rw [hU]; exact vx_Zq.moved hW.alike (vx_Zq.kept e3 hS.2.1)
theorem jlv_args {av : List Value} (hcat : ∀ v ∈ av, v.category = 1) : ∀ (n i : Nat) (v : Value), av[i]? = some v → (n + i, v) ∈ lv_args n av := by
  induction av with
  | nil => intro n i v h; simp at h
  | cons a t ih =>
    intro n i v h
    unfold lv_args
    have ha : ¬ a.category = 2 := by rw [hcat a List.mem_cons_self]; decide
    rw [if_neg ha]
    match i, h with
    | 0, h => simp at h; subst h; exact List.mem_cons_self
    | i + 1, h =>
      have h1 := ih (fun v hv => hcat v (List.mem_cons_of_mem _ hv)) (n + 1) i v (by simpa using h)
      rw [show n + 1 + i = n + (i + 1) by omega] at h1
      exact List.mem_cons_of_mem _ h1
theorem jsl_len {av : List Value} (hcat : ∀ v ∈ av, v.category = 1) : (lg_sl av).length = av.length := by
  induction av with
  | nil => rfl
  | cons a t ih =>
    have ha : ¬ a.category = 2 := by rw [hcat a List.mem_cons_self]; decide
    have := ih (fun v hv => hcat v (List.mem_cons_of_mem _ hv))
    unfold lg_sl at this ⊢
    simp [ha, this]
theorem jL_entry {av : List Value} {nL : Nat} (hcat : ∀ v ∈ av, v.category = 1) (hlen : av.length ≤ nL) : jL ((lg_sl av ++ List.replicate (nL - (lg_sl av).length) Slot.unset).toArray) nL (av.map some ++ List.replicate (nL - av.length) none) := by
  have h := lv_entry av (n := nL) (by rw [jsl_len hcat]; exact hlen)
  refine ⟨h.1, h.2.1, fun i v hv => ?_⟩
  have hi : av[i]? = some v := by
    by_cases hl : i < av.length
    · rw [List.getElem?_append_left (by simpa using hl), List.getElem?_map] at hv
      cases ha : av[i]? with
      | none => rw [ha] at hv; cases hv
      | some w => rw [ha] at hv; cases hv; rfl
    · rw [List.getElem?_append_right (by simp; omega)] at hv
      rw [List.getElem?_replicate] at hv
      split at hv <;> cases hv
  have h1 := h.2.2 _ (jlv_args hcat 0 i v hi)
  rw [Nat.zero_add] at h1
  exact ⟨h1, hcat v (List.mem_of_getElem? hi)⟩
theorem jRep_grow {D : va_G} {ca : Nat → ClassId} {q0 : Nat} {ad : jAd} {M : jM} {H H1 : Heap} (h : jRep D ca q0 ad M H) (hk : ∀ q : Nat, q < H.size → H1[q]? = H[q]?) : jRep D ca q0 ad (H1.size, M.2) H1 := by
  refine ⟨rfl, fun k i hl => ?_, h.2.2⟩
  obtain ⟨a1, a2⟩ := h.2.1 k i hl
  exact ⟨a1, va_at.kept a2 (hk _ (jRep_lt h hl))⟩
/-- a memory that shows the same -/
theorem jRep_congr {D : va_G} {ca : Nat → ClassId} {q0 : Nat} {ad : jAd} {M M' : jM} {H : Heap} (h : jRep D ca q0 ad M H) (hz : M'.1 = M.1) (hL : ∀ k i, M'.2.1 k i = M.2.1 k i) (hc : ∀ k i, M.2.1 k i = true → jcell ca ad M' k i = jcell ca ad M k i) : jRep D ca q0 ad M' H := by
  refine ⟨by rw [hz]; exact h.1, fun k i hl => ?_, fun k i k' i' hl hl' => h.2.2 k i k' i' (by rw [← hL]; exact hl) (by rw [← hL]; exact hl')⟩
  rw [hL] at hl
  rw [hc k i hl]
  exact h.2.1 k i hl
theorem j_enter {l : Launch} {D : va_G} {ca : Nat → ClassId} {q0 : Nat} {sa : Nat → Nat} {ad : jAd} {y : MethodName} {cc : ByteArray} {nL : Nat} {ret : Option FieldType} {lvl mc ms : Nat} {av : List Value} {M : jM} {Q0 : jO → jM → Prop} (own : String) (ls : List (Option Value)) (hown : y.cls = own) (hy : plainName y.cls = true) (hcat : ∀ v ∈ av, v.category = 1) (hlen : av.length ≤ nL) (hls : av.map some ++ List.replicate (nL - av.length) none = ls)
    (body : ∀ p e s m args below meth c, jK p l (jRm lvl mc ms) s m args meth c D ca q0 sa own cc nL ret → meth.name = y.name → (∀ x ∈ c.exceptionTable.toList, False) →
      jW p l e (jRm lvl mc ms) s m args below meth c D ca q0 ad nL (jZ below args s D ca q0 ad mc ms Q0) mc ms 0 ls [] M) : jMet l D ca q0 sa ad y cc nL ret lvl mc ms av M Q0 := by
  intro hl
  refine vx_ofW (cc := cc) (maxL := nL) (ret := ret) hy rfl ?_
  intro p e s m args below meth c s₁ B hml hX hv
  obtain ⟨rfl, hE, hq0, hR⟩ := hv
  subst hls
  have hts : ∀ w ∈ WG, w.before av.toArray s = true := fun w hw => atoms_spec (ws := Cond.code y cc nL ret :: WG) B.pre w (List.mem_cons_of_mem _ hw)
  have hown2 : s.vm.findClass own = some m.cls := by rw [← hown]; exact findClass_of_methodNamed B.named
  have K := body p e s m av.toArray below meth c ⟨B.exec, B.bytes, hml, hown2, hts, B.notSynchronized, hE, hq0, B.returns, hl⟩ (name_of_methodNamed B.named B.method).1 hX
  rw [lg_entry_eq]
  exact K s.heap [] _ 0 0 (jL_entry hcat hlen) hR va_S.rf (by simp) (by simp)
section J
variable {p : Program} {l : Launch} {e : Env} {R : Room} {s : State} {m : MethodId} {args : Array Value} {below : List Frame} {meth : Method} {c : Code} {D : va_G} {ca : Nat → ClassId} {q0 : Nat} {sa : Nat → Nat} {ad : jAd} {own : String} {cc : ByteArray} {nL : Nat} {ret : Option FieldType} {Q : State → Prop} {kc ks pc : Nat} {ls : List (Option Value)} {st : List Value} {M : jM}
variable {lvl mc ms : Nat} {Q0 : jO → jM → Prop}
theorem jK_ret (K : jK p l R s m args meth c D ca q0 sa own cc nL ret) : meth.sig.returnType = ret := K.2.2.2.2.2.2.2.2.1
theorem j_iret (K : jK p l (jRm lvl mc ms) s m args meth c D ca q0 sa own cc nL (some .int)) {x : Int32} (hd : decode cc pc = .ok (.ireturn, 1)) (hq : Q0 (.inl (some (.int x))) M) : jW p l e (jRm lvl mc ms) s m args below meth c D ca q0 ad nL (jZ below args s D ca q0 ad mc ms Q0) kc ks pc ls [.int x] M := by
  intro H locs lsC cells slots h1 h2 h3 h4 h5
  refine W.widen (k := mc) (n := ms) (by have : cells + kc ≤ mc := h4; omega) (by have : slots + ks ≤ ms := h5; omega) (vx_ret ?_)
  exact W.iret K.1 K.2.1 (jK_ret K) (fun t ht hW => ⟨some (.int x), M, rfl, hq, by rw [ht]; exact h2, h3.F ht⟩) h3.2.2 hd K.2.2.2.2.2.1
theorem j_zret (K : jK p l (jRm lvl mc ms) s m args meth c D ca q0 sa own cc nL (some .boolean)) {x : Int32} (hd : decode cc pc = .ok (.ireturn, 1)) (hx : x = 0 ∨ x = 1) (hq : Q0 (.inl (some (.int x))) M) : jW p l e (jRm lvl mc ms) s m args below meth c D ca q0 ad nL (jZ below args s D ca q0 ad mc ms Q0) kc ks pc ls [.int x] M := by
  intro H locs lsC cells slots h1 h2 h3 h4 h5
  refine W.widen (k := mc) (n := ms) (by have : cells + kc ≤ mc := h4; omega) (by have : slots + ks ≤ ms := h5; omega) (vx_ret ?_)
  exact W.zret K.1 K.2.1 (jK_ret K) (by rcases hx with rfl | rfl <;> rfl) (fun t ht hW => ⟨some (.int x), M, rfl, hq, by rw [ht]; exact h2, h3.F ht⟩) h3.2.2 hd K.2.2.2.2.2.1
theorem j_vret (K : jK p l (jRm lvl mc ms) s m args meth c D ca q0 sa own cc nL none) (hd : decode cc pc = .ok (.return_, 1)) (hq : Q0 (.inl none) M) : jW p l e (jRm lvl mc ms) s m args below meth c D ca q0 ad nL (jZ below args s D ca q0 ad mc ms Q0) kc ks pc ls [] M := by
  intro H locs lsC cells slots h1 h2 h3 h4 h5
  refine W.widen (k := mc) (n := ms) (by have : cells + kc ≤ mc := h4; omega) (by have : slots + ks ≤ ms := h5; omega) (vx_ret ?_)
  exact W.vret K.1 K.2.1 (jK_ret K) (fun t ht hW => ⟨none, M, rfl, hq, by rw [ht]; exact h2, h3.F ht⟩) h3.2.2 hd K.2.2.2.2.2.1
theorem j_aret {C : String} (K : jK p l (jRm lvl mc ms) s m args meth c D ca q0 sa own cc nL (some (.object C))) {x : Nat} (hd : decode cc pc = .ok (.areturn, 1)) (hq : Q0 (.inl (some (.ref x))) M) : jW p l e (jRm lvl mc ms) s m args below meth c D ca q0 ad nL (jZ below args s D ca q0 ad mc ms Q0) kc ks pc ls [.ref x] M := by
  intro H locs lsC cells slots h1 h2 h3 h4 h5
  refine W.widen (k := mc) (n := ms) (by have : cells + kc ≤ mc := h4; omega) (by have : slots + ks ≤ ms := h5; omega) (vx_ret ?_)
  exact W.aret K.1 K.2.1 (jK_ret K) (Or.inl ⟨C, rfl⟩) (Or.inr ⟨x, rfl⟩) (fun t ht hW => ⟨some (.ref x), M, rfl, hq, by rw [ht]; exact h2, h3.F ht⟩) h3.2.2 hd K.2.2.2.2.2.1
/-- an exception that leaves the method -/
theorem j_out (K : jK p l (jRm lvl mc ms) s m args meth c D ca q0 sa own cc nL ret) (hX : ∀ x ∈ c.exceptionTable.toList, False) {E : String} (hq : Q0 (.inr E) M) : jWx p l e (jRm lvl mc ms) s m args below meth c D ca q0 ad nL (jZ below args s D ca q0 ad mc ms Q0) kc ks pc ls E M := by
  intro H locs lsC cells slots q ce rest h1 h2 h3 h4 h5 hce hcv hcl
  exact vx_out (fun x hx => (hX x hx).elim) K.2.2.2.2.2.1 hce hcv hcl (fun t ht hA => ⟨M, hq, by rw [ht]; exact h2, h3.F ht⟩) h3.2.2 (by have : cells + kc ≤ mc := h4; omega) (by have : slots + ks ≤ ms := h5; omega)
/-- a method as its callers see it: its code, the number of its parameters -/
def jMeth (y : MethodName) (bytes : ByteArray) (maxL : Nat) (ret : Option FieldType) (n : Nat) : Prop := Cond.code y bytes maxL ret ∈ WG ∧ Cond.initialized y.cls ∈ WG ∧ y.cls ≠ "java/lang/invoke/MethodHandle" ∧ y.cls ≠ "java/lang/invoke/VarHandle" ∧ (parseMethodDescriptor y.desc).map (fun d => d.parameters.length) = some n
def jLnk (own : String) (idx : Nat) (y : MethodName) : Prop := Cond.methodLink own idx y ∈ WG
def jVirt (y : MethodName) : Prop := Cond.instanceMethod y ∈ WG ∧ Cond.selects y.cls y y ∈ WG
theorem jcallB {y : MethodName} {bytes : ByteArray} {maxL n idx lvl' mc' ms' : Nat} {ret' : Option FieldType} (K : jK p l R s m args meth c D ca q0 sa own cc nL ret) (hm : jMeth y bytes maxL ret' n) (hk : jLnk own idx y) (hR : 6 + lvl' + 1 ≤ R.frames ∧ 8 + (maxL + 11) + (100 + 30 * lvl') ≤ R.locals) :
    CallB R s args own idx y bytes maxL ret' (Cond.code y bytes maxL ret' :: WG) (jRm lvl' mc' ms') mc' ms' n :=
  callB_of n K.2.2.2.2.1 (wg_self hm.1) rfl rfl rfl (K.2.2.2.2.1 _ hm.2.1) (K.2.2.2.2.1 _ hk) hm.2.2 hR
theorem jCF (K : jK p l R s m args meth c D ca q0 sa own cc nL ret) : CallFix p m c cc nL s args WG own := ⟨K.1, K.2.1, K.2.2.1, K.2.2.2.1, K.2.2.2.2.1⟩
/-- behind a call -/
theorem j_back {y : MethodName} {lvl' mc' ms' : Nat} {st0 : List Value} {a : Array Value} {Q' : jO → jM → Prop}
    (hr : ∀ (H : Heap) (locs : List Loc) (lsC : Array Slot) (cells slots : Nat), jL lsC nL ls → jRep D ca q0 ad M H → va_S (fun q => q0 ≤ q) s.heap H locs → cells + mc' ≤ R.cells ∧ slots + ms' ≤ R.slots → vx_Run p l e R s m args below meth c H locs cells slots mc' ms' (F0 m pc lsC st0) st (jQc D ca q0 ad Q' a) (jXc D ca q0 ad Q') (fun q => q0 ≤ q))
    (hc : mc' ≤ kc) (hs : ms' ≤ ks)
    (kk : ∀ (v : Option Value) (M' : jM), Q' (.inl v) M' → jW p l e R s m args below meth c D ca q0 ad nL Q (kc - mc') (ks - ms') (pc + 3) ls (v.toList ++ st) M')
    (kx : ∀ (E : String) (M' : jM), Q' (.inr E) M' → jWx p l e R s m args below meth c D ca q0 ad nL Q (kc - mc') (ks - ms') pc ls E M') : jW p l e R s m args below meth c D ca q0 ad nL Q kc ks pc ls st0 M := by
  intro H locs lsC cells slots h1 h2 h3 h4 h5 T hT X
  rcases hr H locs lsC cells slots h1 h2 h3 ⟨by omega, by omega⟩ T hT X with ⟨v, st₀, t, T', L, h0, X', hL, e1, e2, ⟨v', M', hv, hq, hrep, hF⟩, stp⟩ | ⟨q, st₀, t, T', L, E, ce, h0, X', hL, e1, e2, ⟨M', hq, hrep, hF⟩, hce, hcv, hcl, stp⟩
  · cases hv
    obtain ⟨k1, k2, k3⟩ := vx_keep h0 e1 h3 (fun q _ h => h) (fun q h => h) hL hF
    obtain ⟨t2, a1, b1⟩ := kk v M' hq T'.heap (locs ++ L) lsC (cells + mc') (slots + ms') h1 (by rw [e1]; exact hrep) k3 (by omega) (by omega) T' rfl X'
    exact ⟨t2, stp t2 a1, b1⟩
  · obtain ⟨k1, k2, k3⟩ := vx_keep h0 e1 h3 (fun q _ h => h) (fun q h => h) hL hF
    obtain ⟨t2, a1, b1⟩ := kx E M' hq T'.heap (locs ++ L) lsC (cells + mc') (slots + ms') q ce st h1 (by rw [e1]; exact hrep) k3 (by omega) (by omega) (by rw [e1]; exact hce) hcv hcl T' rfl X'
    exact ⟨t2, stp.trans a1, b1⟩
theorem j_callV (K : jK p l R s m args meth c D ca q0 sa own cc nL ret) {y : MethodName} {bytes : ByteArray} {maxL n idx lvl' mc' ms' k i ci : Nat} {ret' : Option FieldType} {av st0 : List Value} {Q' : jO → jM → Prop} (hd : decode cc pc = .ok (.invokevirtual idx, 3)) (hm : jMeth y bytes maxL ret' n) (hv : jVirt y) (hk : jLnk own idx y)
    (hs : shp k = (0, ci)) (hci : ci < 7 ∧ y.cls = jC ci) (hlv : M.2.1 k i = true) (hM : jMet l D ca q0 sa ad y bytes maxL ret' lvl' mc' ms' (.ref (ad k i) :: av) M Q') (hst : st0 = av.reverse ++ .ref (ad k i) :: st) (hn : av.length = n) (hsum : (st.map fun v => v.category).sum ≤ 8) (hR : 6 + lvl' + 1 ≤ R.frames ∧ 8 + (maxL + 11) + (100 + 30 * lvl') ≤ R.locals) (hc : mc' ≤ kc) (hcs : ms' ≤ ks)
    (kk : ∀ (v : Option Value) (M' : jM), Q' (.inl v) M' → jW p l e R s m args below meth c D ca q0 ad nL Q (kc - mc') (ks - ms') (pc + 3) ls (v.toList ++ st) M')
    (kx : ∀ (E : String) (M' : jM), Q' (.inr E) M' → jWx p l e R s m args below meth c D ca q0 ad nL Q (kc - mc') (ks - ms') pc ls E M') : jW p l e R s m args below meth c D ca q0 ad nL Q kc ks pc ls st0 M := by
  refine j_back (y := y) (lvl' := lvl') (a := (Value.ref (ad k i) :: av).toArray) (fun H locs lsC cells slots h1 h2 h3 hf => ?_) hc hcs kk kx
  subst hst
  refine vx_runV (b := ad k i) (As := av) (rest := st) (C := jC ci) (jCF K) (hM K.2.2.2.2.2.2.2.2.2) ⟨jcallB K hm hk hR, K.2.2.2.2.1 _ hv.1, by rw [← hci.2]; exact K.2.2.2.2.1 _ hv.2⟩ ⟨jblind, ?_, fun U hU hW => ⟨rfl, jE_moved K.2.2.2.2.2.2.1 h3 hU hW, by rw [hU]; exact Nat.le_trans K.2.2.2.2.2.2.2.1 h3.1, by rw [hU]; exact h2⟩⟩ rfl hn h1.1 rfl (lv_room hsum) hd hf
  have hP := jRep_P h2 hlv
  rw [jcell_obj hs] at hP
  exact va_recv (jK_K K) hP (ci := ci) (q0 := 0) (jcls_get ci hci.1) rfl
theorem j_callS (K : jK p l R s m args meth c D ca q0 sa own cc nL ret) {y : MethodName} {bytes : ByteArray} {maxL n idx lvl' mc' ms' : Nat} {ret' : Option FieldType} {av st0 : List Value} {Q' : jO → jM → Prop} (hd : decode cc pc = .ok (.invokestatic idx, 3)) (hm : jMeth y bytes maxL ret' n) (hv : Cond.static y ∈ WG) (hk : jLnk own idx y)
    (hM : jMet l D ca q0 sa ad y bytes maxL ret' lvl' mc' ms' av M Q') (hst : st0 = av.reverse ++ st) (hn : av.length = n) (hsum : (st.map fun v => v.category).sum ≤ 8) (hR : 6 + lvl' + 1 ≤ R.frames ∧ 8 + (maxL + 11) + (100 + 30 * lvl') ≤ R.locals) (hc : mc' ≤ kc) (hcs : ms' ≤ ks)
    (kk : ∀ (v : Option Value) (M' : jM), Q' (.inl v) M' → jW p l e R s m args below meth c D ca q0 ad nL Q (kc - mc') (ks - ms') (pc + 3) ls (v.toList ++ st) M')
    (kx : ∀ (E : String) (M' : jM), Q' (.inr E) M' → jWx p l e R s m args below meth c D ca q0 ad nL Q (kc - mc') (ks - ms') pc ls E M') : jW p l e R s m args below meth c D ca q0 ad nL Q kc ks pc ls st0 M := by
  refine j_back (y := y) (lvl' := lvl') (a := av.toArray) (fun H locs lsC cells slots h1 h2 h3 hf => ?_) hc hcs kk kx
  subst hst
  exact vx_runS (As := av) (rest := st) (jCF K) (hM K.2.2.2.2.2.2.2.2.2) ⟨jcallB K hm hk hR, K.2.2.2.2.1 _ hv⟩ ⟨jblind, fun U hU hW => ⟨rfl, jE_moved K.2.2.2.2.2.2.1 h3 hU hW, by rw [hU]; exact Nat.le_trans K.2.2.2.2.2.2.2.1 h3.1, by rw [hU]; exact h2⟩⟩ rfl hn h1.1 rfl (lv_room hsum) hd hf
end J
end
section
abbrev jXn : List String := ["java/lang/RuntimeException", "java/lang/Exception"]
def jThr (ik ic : Nat) (cls : String) : Prop := Bundle.fit cls = true ∧ Cond.classLink RX5 ik cls ∈ WG ∧ Cond.initialized cls ∈ WG ∧ (∀ w ∈ (vx_atS RX5 ic cls jXn).filter goodWord, w ∈ WG) ∧ (∀ w ∈ (vx_atS RX5 ic cls jXn).filter (fun w => !goodWord w), w ∈ OW) ∧ (∀ w ∈ Cond.classLink RX5 ik cls :: Cond.initialized cls :: vx_atS RX5 ic cls jXn, vx_ot w = true)
theorem jXn_fit : ∀ n ∈ jXn, Bundle.fit n = true := by decide +kernel
section J
variable {p : Program} {l : Launch} {e : Env} {R : Room} {s : State} {m : MethodId} {args : Array Value} {below : List Frame} {meth : Method} {c : Code} {D : va_G} {ca : Nat → ClassId} {q0 : Nat} {sa : Nat → Nat} {ad : jAd} {cc : ByteArray} {nL : Nat} {ret : Option FieldType} {Q : State → Prop} {kc ks pc : Nat} {ls : List (Option Value)} {st : List Value} {M : jM}
variable {lvl mc ms : Nat} {Q0 : jO → jM → Prop}
theorem j_throw (K : jK p l (jRm lvl mc ms) s m args meth c D ca q0 sa RX5 cc nL ret) (hX : ∀ x ∈ c.exceptionTable.toList, False) {ik is ic : Nat} {cls text : String} (hw : jThr ik ic cls) (hstr : (is, text) ∈ jStr)
    (d0 : decode cc pc = .ok (.new ik, 3)) (d3 : decode cc (pc + 3) = .ok (.dup, 1)) (d4 : decode cc (pc + 4) = .ok (.ldc is, 2)) (d6 : decode cc (pc + 6) = .ok (.invokespecial ic, 3)) (d9 : decode cc (pc + 9) = .ok (.athrow, 1))
    (hc : 1 ≤ kc) (hs : 6 ≤ ks) (hsum : (st.map fun v => v.category).sum ≤ 8) (hq : ∀ z, Q0 (.inr cls) (z, M.2)) : jW p l e (jRm lvl mc ms) s m args below meth c D ca q0 ad nL (jZ below args s D ca q0 ad mc ms Q0) kc ks pc ls st M := by
  intro H locs lsC cells slots h1 h2 h3 h4 h5
  obtain ⟨hfit, w1, w2, w3, w4, w5⟩ := hw
  have hts := K.2.2.2.2.1
  have hE := K.2.2.2.2.2.2.1
  have h4' : cells + kc ≤ mc := h4
  have h5' : slots + ks ≤ ms := h5
  exact vx_throwS (A := fun q => q0 ≤ q) (sa := sa is) K.1 K.2.1 K.2.2.2.2.2.2.2.2.2 K.2.2.2.1 hfit jXn_fit (hts _ w1) (hts _ w2) (hE.2.2.2.1 _ hstr)
    (vx_hat (B := OW) (fun w hw => hts _ (w3 w hw)) w4 (fun w hw => jK_ow K hw)) w5 hE.2.1 hE.2.2.1 h3 (h1.1.trans K.2.2.1.symm) d0 d3 d4 d6 d9 (fun x hx => (hX x hx).elim)
    (by show 2 + 3 < 6 + lvl; omega) (by show _ + (13 * (2 + 1) + 43) ≤ 100 + 30 * lvl; omega) (by show cells + 1 ≤ mc; omega) (by show slots + 6 ≤ ms; omega) K.2.2.2.2.2.1
    (fun t hA hz hk => ⟨(t.heap.size, M.2), hq _, jRep_grow h2 hk, ⟨Nat.le_trans h3.1 hz, fun q h6 h7 => by rw [hk q (Nat.lt_of_lt_of_le h6 h3.1)]; exact h3.2.1 q h6 h7⟩⟩) h3.2.2 (by omega) (by omega)
theorem j_throwW (K : jK p l (jRm lvl mc ms) s m args meth c D ca q0 sa RX5 cc nL ret) (hX : ∀ x ∈ c.exceptionTable.toList, False) {ik is ic : Nat} {cls text : String} (hw : jThr ik ic cls) (hstr : (is, text) ∈ jStr)
    (d0 : decode cc pc = .ok (.new ik, 3)) (d3 : decode cc (pc + 3) = .ok (.dup, 1)) (d4 : decode cc (pc + 4) = .ok (.ldc_w is, 3)) (d7 : decode cc (pc + 7) = .ok (.invokespecial ic, 3)) (d10 : decode cc (pc + 10) = .ok (.athrow, 1))
    (hc : 1 ≤ kc) (hs : 6 ≤ ks) (hsum : (st.map fun v => v.category).sum ≤ 8) (hq : ∀ z, Q0 (.inr cls) (z, M.2)) : jW p l e (jRm lvl mc ms) s m args below meth c D ca q0 ad nL (jZ below args s D ca q0 ad mc ms Q0) kc ks pc ls st M := by
  intro H locs lsC cells slots h1 h2 h3 h4 h5
  obtain ⟨hfit, w1, w2, w3, w4, w5⟩ := hw
  have hts := K.2.2.2.2.1
  have hE := K.2.2.2.2.2.2.1
  have h4' : cells + kc ≤ mc := h4
  have h5' : slots + ks ≤ ms := h5
  exact vx_throwSW (A := fun q => q0 ≤ q) (sa := sa is) K.1 K.2.1 K.2.2.2.2.2.2.2.2.2 K.2.2.2.1 hfit jXn_fit (hts _ w1) (hts _ w2) (hE.2.2.2.1 _ hstr)
    (vx_hat (B := OW) (fun w hw => hts _ (w3 w hw)) w4 (fun w hw => jK_ow K hw)) w5 hE.2.1 hE.2.2.1 h3 (h1.1.trans K.2.2.1.symm) d0 d3 d4 d7 d10 (fun x hx => (hX x hx).elim)
    (by show 2 + 3 < 6 + lvl; omega) (by show _ + (13 * (2 + 1) + 43) ≤ 100 + 30 * lvl; omega) (by show cells + 1 ≤ mc; omega) (by show slots + 6 ≤ ms; omega) K.2.2.2.2.2.1
    (fun t hA hz hk => ⟨(t.heap.size, M.2), hq _, jRep_grow h2 hk, ⟨Nat.le_trans h3.1 hz, fun q h6 h7 => by rw [hk q (Nat.lt_of_lt_of_le h6 h3.1)]; exact h3.2.1 q h6 h7⟩⟩) h3.2.2 (by omega) (by omega)
end J
theorem thr_ISE : jThr 59 63 "java/lang/IllegalStateException" := by
  refine ⟨by decide +kernel, wg_of 306 (by decide +kernel) (by decide +kernel), wg_of 52 (by decide +kernel) (by decide +kernel), ?_, ?_, by decide +kernel⟩
  · have h : ∀ w ∈ (vx_atS RX5 63 "java/lang/IllegalStateException" jXn).filter goodWord, w ∈ lw_tbl := by decide +kernel
    exact fun w hw => List.mem_filter.mpr ⟨h w hw, (List.mem_filter.mp hw).2⟩
  · have h : ∀ w ∈ (vx_atS RX5 63 "java/lang/IllegalStateException" jXn).filter (fun w => !goodWord w), w ∈ lw_tbl ∧ jOw w = true := by decide +kernel
    exact fun w hw => List.mem_filter.mpr (h w hw)
theorem thr_IAE : jThr 251 255 "java/lang/IllegalArgumentException" := by
  refine ⟨by decide +kernel, wg_of 237 (by decide +kernel) (by decide +kernel), wg_of 51 (by decide +kernel) (by decide +kernel), ?_, ?_, by decide +kernel⟩
  · have h : ∀ w ∈ (vx_atS RX5 255 "java/lang/IllegalArgumentException" jXn).filter goodWord, w ∈ lw_tbl := by decide +kernel
    exact fun w hw => List.mem_filter.mpr ⟨h w hw, (List.mem_filter.mp hw).2⟩
  · have h : ∀ w ∈ (vx_atS RX5 255 "java/lang/IllegalArgumentException" jXn).filter (fun w => !goodWord w), w ∈ lw_tbl ∧ jOw w = true := by decide +kernel
    exact fun w hw => List.mem_filter.mpr (h w hw)
theorem thr_IOB : jThr 257 261 "java/lang/IndexOutOfBoundsException" := by
  refine ⟨by decide +kernel, wg_of 454 (by decide +kernel) (by decide +kernel), wg_of 56 (by decide +kernel) (by decide +kernel), ?_, ?_, by decide +kernel⟩
  · have h : ∀ w ∈ (vx_atS RX5 261 "java/lang/IndexOutOfBoundsException" jXn).filter goodWord, w ∈ lw_tbl := by decide +kernel
    exact fun w hw => List.mem_filter.mpr ⟨h w hw, (List.mem_filter.mp hw).2⟩
  · have h : ∀ w ∈ (vx_atS RX5 261 "java/lang/IndexOutOfBoundsException" jXn).filter (fun w => !goodWord w), w ∈ lw_tbl ∧ jOw w = true := by decide +kernel
    exact fun w hw => List.mem_filter.mpr (h w hw)
end
section
/-! NoSuchElementException(String) links its super constructor at entry 13, not at 7 as the kit's bundle of throws has it: the law of its 'throw new E("text")'.
Follows the proofs of Stand.ctorThrowS (JvmDerived/BundleOwnThrow.lean) and vx_throwS, with its own link. -/
def ns_C : String := "java/util/NoSuchElementException"
def ns_b : ByteArray := ⟨#[0x2a, 0x2b, 0xb7, 0x00, 0x0d, 0xb1]⟩
def jNsA (own : String) (ic : Nat) : List Cond :=
  Bundle.throwableAtoms ++ Bundle.throwableSAtoms ++ (Bundle.passSAtoms ns_C "java/lang/RuntimeException" 13 ns_b ++ Bundle.chainSAtoms "java/lang/RuntimeException" ["java/lang/Exception"]) ++
  [.methodLink own ic (Bundle.initS ns_C), .instantiable ns_C 6, .castable ns_C ns_C, .selects ns_C Bundle.tFill0 Bundle.tFill0, .selects ns_C Bundle.tFill Bundle.tFill,
   .lays ns_C Bundle.tN "cause" "Ljava/lang/Throwable;", .lays ns_C Bundle.tN "stackTrace" Bundle.steD, .lays ns_C Bundle.tN "suppressedExceptions" Bundle.listD, .lays ns_C Bundle.tN "detailMessage" "Ljava/lang/String;",
   .isRef (.static Bundle.tN "UNASSIGNED_STACK" Bundle.steD), .isRef (.static Bundle.tN "SUPPRESSED_SENTINEL" Bundle.listD),
   .fieldLink Bundle.tN 198 Bundle.tN "backtrace" "Ljava/lang/Object;", .lays Bundle.tN Bundle.tN "backtrace" "Ljava/lang/Object;", .lays ns_C Bundle.tN "backtrace" "Ljava/lang/Object;"]
theorem ns_chain {args : Array Value} {s : State} {pl : Platform} (hpl : pl.magicAccessors = ({} : Platform).magicAccessors) {top : MethodId} (htop : s.methodNamed? (Bundle.initS Bundle.tN) = some top)
    (h : ∀ c ∈ Bundle.passSAtoms ns_C "java/lang/RuntimeException" 13 ns_b ++ Bundle.chainSAtoms "java/lang/RuntimeException" ["java/lang/Exception"], c.before args s = true) :
    ∃ (P1 : PassC) (Ps : List PassC), Ps.length = 2 ∧ P1.LinksS pl s ∧ (∀ P, P ∈ Ps → P.LinksS pl s) ∧ s.methodNamed? (Bundle.initS ns_C) = some P1.m ∧
      P1.sup = firstOf top (Ps.map (·.toPassT)) ∧ PassesOn top (Ps.map (·.toPassT)) := by
  obtain ⟨P, L, hm, hs⟩ := PassC.ofS_atoms (args := args) (s := s) hpl (X := ns_C) (Y := "java/lang/RuntimeException") (by decide) (by decide) (by decide +kernel) (by decide +kernel) (by decide +kernel) (by decide +kernel) (fun c hc => h c (List.mem_append_left _ hc))
  obtain ⟨P', Ps, hlen, L', hL, hm', hsup, hpass⟩ := Bundle.chainS (args := args) hpl htop ["java/lang/Exception"] "java/lang/RuntimeException" (by decide) (by decide) (fun c hc => h c (List.mem_append_right _ hc))
  refine ⟨P, P' :: Ps, by simp [hlen], L, fun Q hQ => ?_, hm, Option.some.inj (hs.symm.trans hm'), hsup, hpass⟩
  rcases List.mem_cons.mp hQ with rfl | hQ
  · exact L'
  · exact hL Q hQ
section NS
variable {p : Program} {l : Launch} {e : Env} {R : Room} {s : State} {m₀ : MethodId} {args : Array Value} {below : List Frame} {meth : Method} {c : Code} {W : State} {locs : List Loc} {cells slots : Nat}
set_option maxHeartbeats 1000000 in
theorem ns_ctorThrow (X : Stand p l e R s m₀ args below meth c W locs cells slots) (hexec : p.tables.exec = Jvm.exec) (htr : e.platform.stackTraces = false) {own : String} {ic : Nat}
    (hown : s.vm.findClass own = some m₀.cls) 
    (h : ∀ a ∈ jNsA own ic, a.before args s = true)
    (hlocs : ∀ x ∈ locs, ∀ cell, s.heap[x.base]? = some cell → cell.vm.isStatics = false)
    {a : Addr} {cX : ClassId} {kX : Class} (hfoundX : s.vm.findClass ns_C = some cX) (hkX : s.vm.classes[cX]? = some kX) (hcell : W.heap[a]? = some (freshCell cX kX)) (hnew : s.heap.size ≤ a)
    {msg : Value} (hmsg : msg.isRef = true)
    {g : JFrame} (hg : g.method = m₀) (hsize : g.locals.size = c.maxLocals) (hlocked : g.locked = none) (hentered : g.entered = []) {rest : List Value} (hstack : g.stack = msg :: .ref a :: .ref a :: rest)
    (hd6 : decode c.code g.pc = .ok (.invokespecial ic, 3)) (hd9 : decode c.code (g.pc + 3) = .ok (.athrow, 1)) (hout : ∀ x ∈ c.exceptionTable.toList, covers x (g.pc + 3) = false)
    (hRframes : 2 + 3 < R.frames) (hRlocals : 2 * g.monitorRoom + ((Value.ref a :: rest).map fun v => v.category).sum + (13 * (2 + 1) + 42) ≤ R.locals) (hlocks : meth.locks = false := by first | assumption | exact BodyLoose.notSynchronized (by assumption) | exact Body.notSynchronized (by assumption)) :
    ∃ U : State, Steps p.tables e below (W.setTop g) U ∧ U.status = .running ∧ Ended U below (.threw a) ∧ s.WarmedH U.vm ∧ s.sameButNew ({ U with vm := s.vm } : State) locs cells slots ∧
      ∃ ce, U.heap[a]? = some ce ∧ s.vm.findClass ns_C = some ce.cls ∧ ce.vm = .none := by
  have howns : e.platform.frameOwnsMonitors = true := by rw [X.admits.platform]
  have hfin : e.platform.finalization = false := by rw [X.admits.platform]
  have hpl : e.platform.magicAccessors = ({} : Platform).magicAccessors := by rw [X.admits.platform]
  have a' : ∀ x, x ∈ jNsA own ic → x.holds args s none s [] = true := fun x hx => h x hx
  obtain ⟨T, Z0, L, -, Y⟩ := ThrowableC.of_atoms (args := args) howns hfin hpl (fun x hx => h x (by simp [jNsA, hx]))
  obtain ⟨Z, M, LZ, LM, hnZ⟩ := Init0T.ofS_atoms (args := args) hpl L Y (fun x hx => h x (by simp [jNsA, hx]))
  obtain ⟨P1, Ps, hlen, L1, hL, hP1m, hlink1, hlink⟩ := ns_chain (args := args) hpl hnZ (fun x hx => h x (by simp only [jNsA, List.mem_append] at hx ⊢; exact Or.inl (Or.inr hx)))
              
  have hfound : s.vm.findClass ns_C = some P1.m.cls := findClass_of_methodNamed hP1m
  cases Option.some.inj (hfoundX.symm.trans hfound)
  obtain ⟨c1, kX', hc1, hk, hord, -, -, hn6⟩ := Cond.instantiable_spec (a' (.instantiable ns_C 6) (by simp [jNsA]))
  cases Option.some.inj (hc1.symm.trans hfound)
  cases Option.some.inj (hkX.symm.trans hk)
  have hsel0 : selectMethod e.platform s.vm P1.m.cls T.fill0 = .method T.fill0 := by
    obtain ⟨c2, r2, m2, q1, q2, q3, q4, -⟩ := Cond.selects_spec (a' (.selects ns_C Bundle.tFill0 Bundle.tFill0) (by simp [jNsA]))
    cases Option.some.inj (q1.symm.trans hfound)
    cases Option.some.inj (q2.symm.trans (State.methodFound?_of_named Y.fill0 (by decide)))
    cases Option.some.inj (q3.symm.trans Y.fill0)
    rw [Launch.admits_selectMethod X.admits]; exact q4
  have hselF : selectMethod e.platform s.vm P1.m.cls T.fill = .method T.fill := by
    obtain ⟨c2, r2, m2, q1, q2, q3, q4, -⟩ := Cond.selects_spec (a' (.selects ns_C Bundle.tFill Bundle.tFill) (by simp [jNsA]))
    cases Option.some.inj (q1.symm.trans hfound)
    cases Option.some.inj (q2.symm.trans (State.methodFound?_of_named Y.fill (by decide)))
    cases Option.some.inj (q3.symm.trans Y.fill)
    rw [Launch.admits_selectMethod X.admits]; exact q4
  obtain ⟨cellS0, hcS0, hiss⟩ := Y.statics
  obtain ⟨u0, hu0⟩ := Cond.staticRefV Y.unassigned L.unassignedStatic L.statics hcS0 hiss (a' (.isRef (.static Bundle.tN "UNASSIGNED_STACK" Bundle.steD)) (by simp [jNsA]))
  obtain ⟨sen, hsen⟩ := Cond.staticRefV Y.sentinel L.sentinelStatic L.statics hcS0 hiss (a' (.isRef (.static Bundle.tN "SUPPRESSED_SENTINEL" Bundle.listD)) (by simp [jNsA]))
  obtain ⟨ci198, i198, fB, hk198, hg198, ha198, hsB, -, hnB, htB, hffB⟩ := Cond.ownField (t := .object "java/lang/Object") Y.found L.cls (by decide +kernel) (a' (.fieldLink Bundle.tN 198 Bundle.tN "backtrace" "Ljava/lang/Object;") (by simp [jNsA])) (a' (.lays Bundle.tN Bundle.tN "backtrace" "Ljava/lang/Object;") (by simp [jNsA])) e.platform hpl
  obtain ⟨cellS, hcS', heS, -, hkeep⟩ := X.same.2.2.2.2.2 T.aS cellS0 hcS0
  have hcellS : W.heap[T.aS]? = some cellS := hcS'
  have hout' : ∀ i, (⟨T.aS, i⟩ : Loc) ∉ locs := fun i hmem => by
    have := hlocs _ hmem cellS0 hcS0
    rw [hiss] at this; cases this
  have hknownS : cellS.vm ≠ .unknown := by
    rw [heS]; intro hu
    rw [show cellS0.vm = .unknown from hu] at hiss
    cases hiss
  have hneS : T.aS ≠ a := Nat.ne_of_lt (Nat.lt_of_lt_of_le (Array.getElem?_eq_some_iff.mp hcS0).1 hnew)
  obtain ⟨iM, hffM⟩ := Y.msg
  obtain ⟨tyC, dC, hdC, hdnC⟩ := Cond.laysAt hfound hk Y.cause (a' (.lays ns_C Bundle.tN "cause" "Ljava/lang/Throwable;") (by simp [jNsA]))
  obtain ⟨tyS, dS, hdS, hdnS⟩ := Cond.laysAt hfound hk Y.stack (a' (.lays ns_C Bundle.tN "stackTrace" Bundle.steD) (by simp [jNsA]))
  obtain ⟨tyP, dP, hdP, hdnP⟩ := Cond.laysAt hfound hk Y.supp (a' (.lays ns_C Bundle.tN "suppressedExceptions" Bundle.listD) (by simp [jNsA]))
  obtain ⟨tyM, dM, hdM, hdnM⟩ := Cond.laysAt hfound hk hffM (a' (.lays ns_C Bundle.tN "detailMessage" "Ljava/lang/String;") (by simp [jNsA]))
  obtain ⟨tyB, dB, hdB, hdnB⟩ := Cond.laysAt hfound hk hffB (a' (.lays ns_C Bundle.tN "backtrace" "Ljava/lang/Object;") (by simp [jNsA]))
  have bC := Cond.laysApart hdB hdC hdnB hdnC (by rw [hnB, Y.causeName]; decide)
  have bS := Cond.laysApart hdB hdS hdnB hdnS (by rw [hnB, Y.stackName]; decide)
  have bP := Cond.laysApart hdB hdP hdnB hdnP (by rw [hnB, Y.suppName]; decide)
  have hskip : SkipFacts T e.platform s (fun u => u) u0 ((preparedCellV T.toThrowableT (freshCell P1.m.cls kX) a u0 sen).withEntry W.cur) :=
    ⟨{ ci198 := ci198, i198 := i198, fBack := fB }, ⟨hk198, hg198, ha198, hsB⟩, by
      have := fresh_default (c := P1.m.cls) tyB
      rw [htB] at this
      simpa [preparedCellV, Cell.setSlot, Cell.withEntry, Array.getElem?_setIfInBounds, bC, bS, bP, bC.symm, bS.symm, bP.symm, defaultValue] using this, fun _ _ => rfl⟩
                                     
  obtain ⟨tm, methC, cdC, kC, vm₁, hnC, -, -, -, -, -, -, -, hW₁, st1⟩ := Steps.initColdS (tb := p.tables) (e := e) (below := below) (s := s) (U := W) X.here hexec X.warmed hpl hown (t := Bundle.initS ns_C) rfl rfl (by decide)
    (a' (.methodLink own ic (Bundle.initS ns_C)) (by simp [jNsA])) (h (.instanceMethod (Bundle.initS ns_C)) (by simp [jNsA, Bundle.passSAtoms])) (bytes := ns_b) (maxL := 2) (h (.code (Bundle.initS ns_C) ns_b 2 none) (by simp [jNsA, Bundle.passSAtoms]))
    (f := g) hg (a := a) (msg := msg) (rest := .ref a :: rest) hstack hd6
  cases Option.some.inj (hnC.symm.trans hP1m)
  have X₁ := X.noted hW₁
                                 
  obtain ⟨vm₂, X₂, st2⟩ := X₁.ctorMessageOffV hexec (g := { g with stack := .ref a :: rest }) hg hsize T L Z LZ M LM (P1 :: Ps)
    (fun P hP => by rcases List.mem_cons.mp hP with rfl | hP; exact L1; exact hL P hP) ⟨hlink1, hlink⟩ (u0 := u0) (sen := sen) (self := a) hmsg (cell := freshCell P1.m.cls kX) (cellS := cellS)
    hcell (fun _ => by simp) (by simp) rfl rfl hsel0 hselF hcellS hneS hknownS (by rw [hkeep _ (hout' _)]; exact hu0) (by rw [hkeep _ (hout' _)]; exact hsen)
    (Takes.of_laid hk hord tyC (by rw [Y.causeType]; rfl)) (Takes.of_laid hk hord tyS (by rw [Y.stackType]; exact fits_refV_array _ u0)) (Takes.of_laid hk hord tyP (by rw [Y.suppType]; exact fits_refV_object _ sen))
    (Takes.of_laid hk hord tyM (by rw [Y.msgType]; exact fits_refV_object _ ⟨msg, hmsg⟩)) Y.objLocals hskip htr [] hd6
    (by simp only [List.length_cons, hlen]; omega) (by simp only [List.length_cons, hlen]; exact hRlocals)
                                    
  obtain ⟨hwalk, hrun, hended, hWU, hsame⟩ := X₂.athrowLeaves hexec (g := { g with stack := .ref a :: rest, pc := g.pc + 3 }) hg hlocked hentered hout (a := a) (rest := rest) rfl hd9
  obtain ⟨c3, c4, hc3, hc4, hasg⟩ := Cond.castable_spec (a' (.castable ns_C ns_C) (by simp [jNsA]))
  cases Option.some.inj (hc3.symm.trans hfound)
  cases Option.some.inj (hc4.symm.trans hfound)
  have hlt : a < ((W.setVm vm₁).setVm vm₂).heap.size := (Array.getElem?_eq_some_iff.mp hcell).1
  have hU := heapAt_setCell_self (s := (W.setVm vm₁).setVm vm₂) (plainBareV T.toThrowableT (freshCell P1.m.cls kX) a u0 sen msg) hlt
  have hnM : T.fMsg.name = "detailMessage" := (State.fieldFound?_type hffM (t := .object "java/lang/String") (by decide +kernel)).1
  have nCS := Cond.laysApart hdC hdS hdnC hdnS (by rw [Y.causeName, Y.stackName]; decide)
  have nCP := Cond.laysApart hdC hdP hdnC hdnP (by rw [Y.causeName, Y.suppName]; decide)
  have nCM := Cond.laysApart hdC hdM hdnC hdnM (by rw [Y.causeName, hnM]; decide)
  have nSP := Cond.laysApart hdS hdP hdnS hdnP (by rw [Y.stackName, Y.suppName]; decide)
  have nSM := Cond.laysApart hdS hdM hdnS hdnM (by rw [Y.stackName, hnM]; decide)
  have nPM := Cond.laysApart hdP hdM hdnP hdnM (by rw [Y.suppName, hnM]; decide)
  have lC : T.fCause.slot < kX.instanceTypes.size := (Array.getElem?_eq_some_iff.mp tyC).1
  have lS : T.fStack.slot < kX.instanceTypes.size := (Array.getElem?_eq_some_iff.mp tyS).1
  have lP : T.fSupp.slot < kX.instanceTypes.size := (Array.getElem?_eq_some_iff.mp tyP).1
  have lM : T.fMsg.slot < kX.instanceTypes.size := (Array.getElem?_eq_some_iff.mp tyM).1
  have evU : ∀ o, (Term.static Bundle.tN "UNASSIGNED_STACK" Bundle.steD).eval args s o [] s = some u0.v := by
    intro o
    simp [Term.eval, State.fieldNamed?, Y.unassigned, L.unassignedStatic, L.statics, hcS0, hiss, hu0]
  have evS : ∀ o, (Term.static Bundle.tN "SUPPRESSED_SENTINEL" Bundle.listD).eval args s o [] s = some sen.v := by
    intro o
    simp [Term.eval, State.fieldNamed?, Y.sentinel, L.sentinelStatic, L.statics, hcS0, hiss, hsen]
  refine ⟨_, st1 _ (fun acts => ?_), hrun, hended, hWU, hsame.weaken (fun y hy hlt' => ?_) (Nat.le_refl _) (Nat.le_refl _), _, hU, ?_⟩
  · rw [doInvoke_state]
    exact st2 _ hwalk
  · rcases List.mem_append.mp hy with h1 | h1
    · exact h1
    · exfalso
      have hb : y.base = a := by
        simp only [List.mem_cons, List.not_mem_nil, or_false] at h1
        rcases h1 with rfl | rfl | rfl | rfl | rfl <;> rfl
      rw [hb] at hlt'
      exact Nat.not_lt.mpr hnew hlt'
  · exact ⟨hfound, rfl⟩

end NS
section NS2
variable {p : Program} {l : Launch} {e : Env} {R : Room} {s : State} {m : MethodId} {args : Array Value} {below : List Frame} {meth : Method} {c : Code} {H : Heap} {locs : List Loc} {cells slots : Nat} {Q : State → Prop}
variable {mc ms : Nat} {free : Addr → Prop} {A0 A1 : Nat → Prop} {H0 : Heap} {a : Array Value} {ls : Array Slot} {st0 rest : List Value}
variable {Qc : Array Value → State → Outcome → State → Prop} {XC : String → State → State → Prop}
theorem ns_throwS {cc : ByteArray} {pc : Nat} (hexec : p.tables.exec = Jvm.exec) (hb : c.code = cc) (hl : l.stackTraces = false) {own text : String} {ik is ic mc ms sa : Nat} {A : Nat → Prop}
    (hown : s.vm.findClass own = some m.cls) 
    (hk : (Cond.classLink own ik ns_C).before args s = true) (hini : (Cond.initialized ns_C).before args s = true) (hstr : vk_R own is text sa s) (hat : ∀ w ∈ (jNsA own ic).filter vx_no, w.before args s = true)
    (hgood : ∀ w ∈ Cond.classLink own ik ns_C :: Cond.initialized ns_C :: (jNsA own ic).filter vx_no, vx_ot w = true)
    (hU : vx_Zq Bundle.tN "UNASSIGNED_STACK" Bundle.steD A s s.heap) (hN : vx_Zq Bundle.tN "SUPPRESSED_SENTINEL" Bundle.listD A s s.heap) (hS : va_S A s.heap H locs) (hsize : ls.size = c.maxLocals)
    (d0 : decode cc pc = .ok (.new ik, 3)) (d3 : decode cc (pc + 3) = .ok (.dup, 1)) (d4 : decode cc (pc + 4) = .ok (.ldc is, 2)) (d6 : decode cc (pc + 6) = .ok (.invokespecial ic, 3)) (d9 : decode cc (pc + 9) = .ok (.athrow, 1))
    (hout : ∀ x ∈ c.exceptionTable.toList, covers x (pc + 9) = false)
    (hRframes : 2 + 3 < R.frames) (hRlocals : (rest.map fun v => v.category).sum + (13 * (2 + 1) + 43) ≤ R.locals) (hRcells : cells + 1 ≤ R.cells) (hRslots : slots + 6 ≤ R.slots) (hlocks : meth.locks = false)
    (hx : ∀ t : State, s.vm.Alike t.vm → H.size ≤ t.heap.size → (∀ q : Nat, q < H.size → t.heap[q]? = H[q]?) → XC ns_C s t)
    (hf : ∀ z ∈ locs, free z.base) (hc : cells + 1 ≤ mc) (hs : slots + 6 ≤ ms) :
    W p l e R s m args below meth c H locs cells slots (vx_MQ below Qc XC args s mc ms free) (F0 m pc ls rest) := by
  intro T hT X
  have htr : e.platform.stackTraces = false := (show e.platform.stackTraces = l.stackTraces by rw [X.admits.platform]).trans hl
  have Y := vx_rebase X (R' := { frames := R.frames, locals := R.locals, cells := 1, slots := 6 }) (Nat.le_refl _) (Nat.le_refl _) hRcells hRslots
  obtain ⟨s', hA⟩ : ∃ z, z = (T.setVm s.vm).setFrames (.invoking m args :: below) := ⟨_, rfl⟩
  rw [← hA] at Y
  have hvm : s'.vm = s.vm := by rw [hA]; rfl
  have hhp : s'.heap = H := by rw [hA]; exact hT
  have hW0 : s.WarmedH s'.vm := by rw [hvm]; exact State.WarmedH.refl s
  have hat' : ∀ w ∈ (jNsA own ic).filter vx_no, w.before args s' = true := fun w hw => vx_ot_at hW0 hvm.symm (hgood w (List.mem_cons_of_mem _ (List.mem_cons_of_mem _ hw))) (hat w hw)
  have hk' : (Cond.classLink own ik ns_C).before args s' = true := vx_ot_at hW0 hvm.symm (hgood _ List.mem_cons_self) hk
  have hini' : (Cond.initialized ns_C).before args s' = true := vx_ot_at hW0 hvm.symm (hgood _ (List.mem_cons_of_mem _ List.mem_cons_self)) hini
  have hU' : vx_Zq Bundle.tN "UNASSIGNED_STACK" Bundle.steD A s' s'.heap := by rw [hhp]; exact vx_Zq.moved hW0.alike (hU.kept hS.2.1)
  have hN' : vx_Zq Bundle.tN "SUPPRESSED_SENTINEL" Bundle.listD A s' s'.heap := by rw [hhp]; exact vx_Zq.moved hW0.alike (hN.kept hS.2.1)
  have h : ∀ w ∈ jNsA own ic, w.before args s' = true := vx_own hat' (vx_isRefq hU'.1) (vx_isRefq hN'.1) hU'.2.word hN'.2.word
  have hown' : s'.vm.findClass own = some m.cls := by rw [hvm]; exact hown
  have hins : (Cond.instantiable ns_C 6).before args s' = true := h _ (by simp [jNsA])
  obtain ⟨vm₁, cX, kX, hfX, hkX, -, -, X₁, st1⟩ := Y.newCold hexec (own := own) (C := ns_C) (index := ik) (n := 6) hown' hk' hins hini'
    (g := F0 m pc ls rest) rfl (by rw [hb]; exact d0) (Nat.le_refl _) (Nat.le_refl _)
  generalize hT1 : (T.setVm vm₁).pushCell { cls := cX, slots := kX.instanceTypes.map defaultValue, vm := .none } = T1 at X₁ st1
  have hcat : (Value.ref T.heap.size).category = 1 := rfl
  have hcellA : T1.heap[T.heap.size]? = some (freshCell cX kX) := by rw [← hT1]; exact State.heap_pushCell_size _ _
  have d3' : decode c.code (pc + 3) = .ok (.dup, 1) := by rw [hb]; exact d3
  have d4' : decode c.code (pc + 4) = .ok (.ldc is, 2) := by rw [hb]; exact d4
  have hstr' : vk_R own is text sa s' := vk_R.warm hW0 hstr
  obtain ⟨U, hsteps, hrun, hend, hW, hsame, ce, hce, hO, hO2⟩ := ns_ctorThrow X₁ hexec htr (own := own) (ic := ic) hown' h (fun x hx => nomatch hx) hfX hkX hcellA (by rw [hhp, hT]; exact Nat.le_refl _) (msg := .ref sa) rfl
    (g := { method := m, pc := pc + 6, locals := ls, stack := .ref sa :: .ref T.heap.size :: .ref T.heap.size :: rest, locked := none }) rfl hsize rfl rfl (rest := rest) rfl
    (by rw [hb]; exact d6) (by rw [hb]; exact d9) hout hRframes (by simp only [List.map_cons, List.sum_cons, hcat]; omega) hlocks
  obtain ⟨f1, f2⟩ := vx_frame hsame
  rw [hhp] at f1 f2
  have hWs : s.WarmedH U.vm := State.WarmedH.trans hW0 hW
  have hcl : s.vm.findClass ns_C = some ce.cls := by
    have h9 := hO
    rw [hvm] at h9
    exact h9
  have hall : s.sameButNew ({ U with vm := s.vm } : State) locs mc ms := by
    subst hA
    obtain ⟨e1, e2⟩ := hsame
    rw [State.setFrames_setFrames] at e1
    have h2 : (T.setVm s.vm).sameButNew ({ U with vm := s.vm } : State) [] (0 + 1) (0 + 6) := ⟨e1, e2⟩
    have h3 := X.same.trans h2
    rw [List.append_nil] at h3
    exact h3.mono hc hs
  refine ⟨U, ?_, .threw T.heap.size, hrun, hend, Or.inr ⟨T.heap.size, rfl, ns_C, ce, locs, hx U hWs.alike f1 (fun q hq => f2 q hq (fun z hz => nomatch hz)), hce, hO2, hcl, hWs, hall, hf⟩⟩
  refine st1 _ ?_
  show Steps p.tables e below (T1.setTop { method := m, pc := pc + 3, locals := ls, stack := .ref T.heap.size :: rest, locked := none }) _
  jvm_step X₁.here [X₁.here.top, hexec, d3', Value.category]
  exact X₁.ldcString hexec (own := own) (text := text) (index := is) (a := sa) hown' hstr'.1 hstr'.2
    (g := { method := m, pc := pc + 4, locals := ls, stack := .ref T.heap.size :: .ref T.heap.size :: rest, locked := none }) rfl d4' _ hsteps
theorem ns_throwSW {cc : ByteArray} {pc : Nat} (hexec : p.tables.exec = Jvm.exec) (hb : c.code = cc) (hl : l.stackTraces = false) {own text : String} {ik is ic mc ms sa : Nat} {A : Nat → Prop}
    (hown : s.vm.findClass own = some m.cls) 
    (hk : (Cond.classLink own ik ns_C).before args s = true) (hini : (Cond.initialized ns_C).before args s = true) (hstr : vk_R own is text sa s) (hat : ∀ w ∈ (jNsA own ic).filter vx_no, w.before args s = true)
    (hgood : ∀ w ∈ Cond.classLink own ik ns_C :: Cond.initialized ns_C :: (jNsA own ic).filter vx_no, vx_ot w = true)
    (hU : vx_Zq Bundle.tN "UNASSIGNED_STACK" Bundle.steD A s s.heap) (hN : vx_Zq Bundle.tN "SUPPRESSED_SENTINEL" Bundle.listD A s s.heap) (hS : va_S A s.heap H locs) (hsize : ls.size = c.maxLocals)
    (d0 : decode cc pc = .ok (.new ik, 3)) (d3 : decode cc (pc + 3) = .ok (.dup, 1)) (d4 : decode cc (pc + 4) = .ok (.ldc_w is, 3)) (d7 : decode cc (pc + 7) = .ok (.invokespecial ic, 3)) (d10 : decode cc (pc + 10) = .ok (.athrow, 1))
    (hout : ∀ x ∈ c.exceptionTable.toList, covers x (pc + 10) = false)
    (hRframes : 2 + 3 < R.frames) (hRlocals : (rest.map fun v => v.category).sum + (13 * (2 + 1) + 43) ≤ R.locals) (hRcells : cells + 1 ≤ R.cells) (hRslots : slots + 6 ≤ R.slots) (hlocks : meth.locks = false)
    (hx : ∀ t : State, s.vm.Alike t.vm → H.size ≤ t.heap.size → (∀ q : Nat, q < H.size → t.heap[q]? = H[q]?) → XC ns_C s t)
    (hf : ∀ z ∈ locs, free z.base) (hc : cells + 1 ≤ mc) (hs : slots + 6 ≤ ms) :
    W p l e R s m args below meth c H locs cells slots (vx_MQ below Qc XC args s mc ms free) (F0 m pc ls rest) := by
  intro T hT X
  have htr : e.platform.stackTraces = false := (show e.platform.stackTraces = l.stackTraces by rw [X.admits.platform]).trans hl
  have Y := vx_rebase X (R' := { frames := R.frames, locals := R.locals, cells := 1, slots := 6 }) (Nat.le_refl _) (Nat.le_refl _) hRcells hRslots
  obtain ⟨s', hA⟩ : ∃ z, z = (T.setVm s.vm).setFrames (.invoking m args :: below) := ⟨_, rfl⟩
  rw [← hA] at Y
  have hvm : s'.vm = s.vm := by rw [hA]; rfl
  have hhp : s'.heap = H := by rw [hA]; exact hT
  have hW0 : s.WarmedH s'.vm := by rw [hvm]; exact State.WarmedH.refl s
  have hat' : ∀ w ∈ (jNsA own ic).filter vx_no, w.before args s' = true := fun w hw => vx_ot_at hW0 hvm.symm (hgood w (List.mem_cons_of_mem _ (List.mem_cons_of_mem _ hw))) (hat w hw)
  have hk' : (Cond.classLink own ik ns_C).before args s' = true := vx_ot_at hW0 hvm.symm (hgood _ List.mem_cons_self) hk
  have hini' : (Cond.initialized ns_C).before args s' = true := vx_ot_at hW0 hvm.symm (hgood _ (List.mem_cons_of_mem _ List.mem_cons_self)) hini
  have hU' : vx_Zq Bundle.tN "UNASSIGNED_STACK" Bundle.steD A s' s'.heap := by rw [hhp]; exact vx_Zq.moved hW0.alike (hU.kept hS.2.1)
  have hN' : vx_Zq Bundle.tN "SUPPRESSED_SENTINEL" Bundle.listD A s' s'.heap := by rw [hhp]; exact vx_Zq.moved hW0.alike (hN.kept hS.2.1)
  have h : ∀ w ∈ jNsA own ic, w.before args s' = true := vx_own hat' (vx_isRefq hU'.1) (vx_isRefq hN'.1) hU'.2.word hN'.2.word
  have hown' : s'.vm.findClass own = some m.cls := by rw [hvm]; exact hown
  have hins : (Cond.instantiable ns_C 6).before args s' = true := h _ (by simp [jNsA])
  obtain ⟨vm₁, cX, kX, hfX, hkX, -, -, X₁, st1⟩ := Y.newCold hexec (own := own) (C := ns_C) (index := ik) (n := 6) hown' hk' hins hini'
    (g := F0 m pc ls rest) rfl (by rw [hb]; exact d0) (Nat.le_refl _) (Nat.le_refl _)
  generalize hT1 : (T.setVm vm₁).pushCell { cls := cX, slots := kX.instanceTypes.map defaultValue, vm := .none } = T1 at X₁ st1
  have hcat : (Value.ref T.heap.size).category = 1 := rfl
  have hcellA : T1.heap[T.heap.size]? = some (freshCell cX kX) := by rw [← hT1]; exact State.heap_pushCell_size _ _
  have d3' : decode c.code (pc + 3) = .ok (.dup, 1) := by rw [hb]; exact d3
  have d4' : decode c.code (pc + 4) = .ok (.ldc_w is, 3) := by rw [hb]; exact d4
  have hstr' : vk_R own is text sa s' := vk_R.warm hW0 hstr
  obtain ⟨U, hsteps, hrun, hend, hW, hsame, ce, hce, hO, hO2⟩ := ns_ctorThrow X₁ hexec htr (own := own) (ic := ic) hown' h (fun x hx => nomatch hx) hfX hkX hcellA (by rw [hhp, hT]; exact Nat.le_refl _) (msg := .ref sa) rfl
    (g := { method := m, pc := pc + 7, locals := ls, stack := .ref sa :: .ref T.heap.size :: .ref T.heap.size :: rest, locked := none }) rfl hsize rfl rfl (rest := rest) rfl
    (by rw [hb]; exact d7) (by rw [hb]; exact d10) hout hRframes (by simp only [List.map_cons, List.sum_cons, hcat]; omega) hlocks
  obtain ⟨f1, f2⟩ := vx_frame hsame
  rw [hhp] at f1 f2
  have hWs : s.WarmedH U.vm := State.WarmedH.trans hW0 hW
  have hcl : s.vm.findClass ns_C = some ce.cls := by
    have h9 := hO
    rw [hvm] at h9
    exact h9
  have hall : s.sameButNew ({ U with vm := s.vm } : State) locs mc ms := by
    subst hA
    obtain ⟨e1, e2⟩ := hsame
    rw [State.setFrames_setFrames] at e1
    have h2 : (T.setVm s.vm).sameButNew ({ U with vm := s.vm } : State) [] (0 + 1) (0 + 6) := ⟨e1, e2⟩
    have h3 := X.same.trans h2
    rw [List.append_nil] at h3
    exact h3.mono hc hs
  refine ⟨U, ?_, .threw T.heap.size, hrun, hend, Or.inr ⟨T.heap.size, rfl, ns_C, ce, locs, hx U hWs.alike f1 (fun q hq => f2 q hq (fun z hz => nomatch hz)), hce, hO2, hcl, hWs, hall, hf⟩⟩
  refine st1 _ ?_
  show Steps p.tables e below (T1.setTop { method := m, pc := pc + 3, locals := ls, stack := .ref T.heap.size :: rest, locked := none }) _
  jvm_step X₁.here [X₁.here.top, hexec, d3', Value.category]
  exact X₁.ldcStringW hexec (own := own) (text := text) (index := is) (a := sa) hown' hstr'.1 hstr'.2
    (g := { method := m, pc := pc + 4, locals := ls, stack := .ref T.heap.size :: .ref T.heap.size :: rest, locked := none }) rfl d4' _ hsteps
end NS2
def jThrN (ik ic : Nat) : Prop := Cond.classLink RX5 ik ns_C ∈ WG ∧ Cond.initialized ns_C ∈ WG ∧ (∀ w ∈ ((jNsA RX5 ic).filter vx_no).filter goodWord, w ∈ WG) ∧ (∀ w ∈ ((jNsA RX5 ic).filter vx_no).filter (fun w => !goodWord w), w ∈ OW) ∧ (∀ w ∈ Cond.classLink RX5 ik ns_C :: Cond.initialized ns_C :: (jNsA RX5 ic).filter vx_no, vx_ot w = true)
section J
variable {p : Program} {l : Launch} {e : Env} {R : Room} {s : State} {m : MethodId} {args : Array Value} {below : List Frame} {meth : Method} {c : Code} {D : va_G} {ca : Nat → ClassId} {q0 : Nat} {sa : Nat → Nat} {ad : jAd} {cc : ByteArray} {nL : Nat} {ret : Option FieldType} {Q : State → Prop} {kc ks pc : Nat} {ls : List (Option Value)} {st : List Value} {M : jM}
variable {lvl mc ms : Nat} {Q0 : jO → jM → Prop}
theorem j_throwN (K : jK p l (jRm lvl mc ms) s m args meth c D ca q0 sa RX5 cc nL ret) (hX : ∀ x ∈ c.exceptionTable.toList, False) {ik is ic : Nat} {text : String} (hw : jThrN ik ic) (hstr : (is, text) ∈ jStr)
    (d0 : decode cc pc = .ok (.new ik, 3)) (d3 : decode cc (pc + 3) = .ok (.dup, 1)) (d4 : decode cc (pc + 4) = .ok (.ldc is, 2)) (d6 : decode cc (pc + 6) = .ok (.invokespecial ic, 3)) (d9 : decode cc (pc + 9) = .ok (.athrow, 1))
    (hc : 1 ≤ kc) (hs : 6 ≤ ks) (hsum : (st.map fun v => v.category).sum ≤ 8) (hq : ∀ z, Q0 (.inr ns_C) (z, M.2)) : jW p l e (jRm lvl mc ms) s m args below meth c D ca q0 ad nL (jZ below args s D ca q0 ad mc ms Q0) kc ks pc ls st M := by
  intro H locs lsC cells slots h1 h2 h3 h4 h5
  obtain ⟨w1, w2, w3, w4, w5⟩ := hw
  have hts := K.2.2.2.2.1
  have hE := K.2.2.2.2.2.2.1
  have h4' : cells + kc ≤ mc := h4
  have h5' : slots + ks ≤ ms := h5
  exact ns_throwS (A := fun q => q0 ≤ q) (sa := sa is) K.1 K.2.1 K.2.2.2.2.2.2.2.2.2 K.2.2.2.1 (hts _ w1) (hts _ w2) (hE.2.2.2.1 _ hstr)
    (vx_hat (B := OW) (fun w hw => hts _ (w3 w hw)) w4 (fun w hw => jK_ow K hw)) w5 hE.2.1 hE.2.2.1 h3 (h1.1.trans K.2.2.1.symm) d0 d3 d4 d6 d9 (fun x hx => (hX x hx).elim)
    (by show 2 + 3 < 6 + lvl; omega) (by show _ + (13 * (2 + 1) + 43) ≤ 100 + 30 * lvl; omega) (by show cells + 1 ≤ mc; omega) (by show slots + 6 ≤ ms; omega) K.2.2.2.2.2.1
    (fun t hA hz hk => ⟨(t.heap.size, M.2), hq _, jRep_grow h2 hk, ⟨Nat.le_trans h3.1 hz, fun q h6 h7 => by rw [hk q (Nat.lt_of_lt_of_le h6 h3.1)]; exact h3.2.1 q h6 h7⟩⟩) h3.2.2 (by omega) (by omega)
theorem j_throwNW (K : jK p l (jRm lvl mc ms) s m args meth c D ca q0 sa RX5 cc nL ret) (hX : ∀ x ∈ c.exceptionTable.toList, False) {ik is ic : Nat} {text : String} (hw : jThrN ik ic) (hstr : (is, text) ∈ jStr)
    (d0 : decode cc pc = .ok (.new ik, 3)) (d3 : decode cc (pc + 3) = .ok (.dup, 1)) (d4 : decode cc (pc + 4) = .ok (.ldc_w is, 3)) (d7 : decode cc (pc + 7) = .ok (.invokespecial ic, 3)) (d10 : decode cc (pc + 10) = .ok (.athrow, 1))
    (hc : 1 ≤ kc) (hs : 6 ≤ ks) (hsum : (st.map fun v => v.category).sum ≤ 8) (hq : ∀ z, Q0 (.inr ns_C) (z, M.2)) : jW p l e (jRm lvl mc ms) s m args below meth c D ca q0 ad nL (jZ below args s D ca q0 ad mc ms Q0) kc ks pc ls st M := by
  intro H locs lsC cells slots h1 h2 h3 h4 h5
  obtain ⟨w1, w2, w3, w4, w5⟩ := hw
  have hts := K.2.2.2.2.1
  have hE := K.2.2.2.2.2.2.1
  have h4' : cells + kc ≤ mc := h4
  have h5' : slots + ks ≤ ms := h5
  exact ns_throwSW (A := fun q => q0 ≤ q) (sa := sa is) K.1 K.2.1 K.2.2.2.2.2.2.2.2.2 K.2.2.2.1 (hts _ w1) (hts _ w2) (hE.2.2.2.1 _ hstr)
    (vx_hat (B := OW) (fun w hw => hts _ (w3 w hw)) w4 (fun w hw => jK_ow K hw)) w5 hE.2.1 hE.2.2.1 h3 (h1.1.trans K.2.2.1.symm) d0 d3 d4 d7 d10 (fun x hx => (hX x hx).elim)
    (by show 2 + 3 < 6 + lvl; omega) (by show _ + (13 * (2 + 1) + 43) ≤ 100 + 30 * lvl; omega) (by show cells + 1 ≤ mc; omega) (by show slots + 6 ≤ ms; omega) K.2.2.2.2.2.1
    (fun t hA hz hk => ⟨(t.heap.size, M.2), hq _, jRep_grow h2 hk, ⟨Nat.le_trans h3.1 hz, fun q h6 h7 => by rw [hk q (Nat.lt_of_lt_of_le h6 h3.1)]; exact h3.2.1 q h6 h7⟩⟩) h3.2.2 (by omega) (by omega)
end J
theorem thr_NSE : jThrN 148 152 := by
  refine ⟨wg_of 590 (by decide +kernel) (by decide +kernel), wg_of 58 (by decide +kernel) (by decide +kernel), ?_, ?_, by decide +kernel⟩
  · have h : ∀ w ∈ ((jNsA RX5 152).filter vx_no).filter goodWord, w ∈ lw_tbl := by decide +kernel
    exact fun w hw => List.mem_filter.mpr ⟨h w hw, (List.mem_filter.mp hw).2⟩
  · have h : ∀ w ∈ ((jNsA RX5 152).filter vx_no).filter (fun w => !goodWord w), w ∈ lw_tbl ∧ jOw w = true := by decide +kernel
    exact fun w hw => List.mem_filter.mpr (h w hw)
end
section
theorem cl_X5_9 : Cond.classLink RX5 9 RX1 ∈ WG := wg_of 67 (by decide +kernel) (by decide +kernel)
theorem in_X1 : Cond.instantiable RX1 7 ∈ WG := wg_of 322 (by decide +kernel) (by decide +kernel)
theorem ii_X1 : Cond.initialized RX1 ∈ WG := wg_of 53 (by decide +kernel) (by decide +kernel)
theorem fo_X5_11 : jFldO RX5 11 5 0 := ⟨by decide +kernel, by decide, by decide, wg_of 114 (by decide +kernel) (by decide +kernel)⟩
theorem f_X5_11 : jFld RX5 11 5 0 := fo_X5_11.any
theorem fo_X5_15 : jFldO RX5 15 5 1 := ⟨by decide +kernel, by decide, by decide, wg_of 115 (by decide +kernel) (by decide +kernel)⟩
theorem f_X5_15 : jFld RX5 15 5 1 := fo_X5_15.any
theorem fo_X5_19 : jFldO RX5 19 5 2 := ⟨by decide +kernel, by decide, by decide, wg_of 116 (by decide +kernel) (by decide +kernel)⟩
theorem f_X5_19 : jFld RX5 19 5 2 := fo_X5_19.any
theorem fo_X5_23 : jFldO RX5 23 5 3 := ⟨by decide +kernel, by decide, by decide, wg_of 117 (by decide +kernel) (by decide +kernel)⟩
theorem f_X5_23 : jFld RX5 23 5 3 := fo_X5_23.any
theorem cl_X5_26 : Cond.classLink RX5 26 RX4 ∈ WG := wg_of 69 (by decide +kernel) (by decide +kernel)
theorem in_X4 : Cond.instantiable RX4 3 ∈ WG := wg_of 70 (by decide +kernel) (by decide +kernel)
theorem ii_X4 : Cond.initialized RX4 ∈ WG := wg_of 45 (by decide +kernel) (by decide +kernel)
theorem kn_X5_28 : Cond.methodLinkNest RX5 28 yX4_init "TideTablePainters" ∈ OW := ow_of 71 (by decide +kernel) (by decide +kernel)
theorem m_X4_init : jMeth yX4_init cX4_init 1 none 0 := ⟨wg_of 73 (by decide +kernel) (by decide +kernel), wg_of 45 (by decide +kernel) (by decide +kernel), by decide, by decide, by decide⟩
theorem i_X4_init : Cond.instanceMethod yX4_init ∈ WG := wg_of 72 (by decide +kernel) (by decide +kernel)
theorem fo_X5_29 : jFldO RX5 29 5 4 := ⟨by decide +kernel, by decide, by decide, wg_of 118 (by decide +kernel) (by decide +kernel)⟩
theorem f_X5_29 : jFld RX5 29 5 4 := fo_X5_29.any
theorem fo_X5_33 : jFldO RX5 33 5 5 := ⟨by decide +kernel, by decide, by decide, wg_of 119 (by decide +kernel) (by decide +kernel)⟩
theorem f_X5_33 : jFld RX5 33 5 5 := fo_X5_33.any
theorem cl_X5_36 : Cond.classLink RX5 36 RX3 ∈ WG := wg_of 89 (by decide +kernel) (by decide +kernel)
theorem in_X3 : Cond.instantiable RX3 4 ∈ WG := wg_of 90 (by decide +kernel) (by decide +kernel)
theorem ii_X3 : Cond.initialized RX3 ∈ WG := wg_of 46 (by decide +kernel) (by decide +kernel)
theorem kn_X5_38 : Cond.methodLinkNest RX5 38 yX3_init "TideTablePainters" ∈ OW := ow_of 91 (by decide +kernel) (by decide +kernel)
theorem m_X3_init : jMeth yX3_init cX3_init 1 none 0 := ⟨wg_of 93 (by decide +kernel) (by decide +kernel), wg_of 46 (by decide +kernel) (by decide +kernel), by decide, by decide, by decide⟩
theorem i_X3_init : Cond.instanceMethod yX3_init ∈ WG := wg_of 92 (by decide +kernel) (by decide +kernel)
theorem fo_X5_39 : jFldO RX5 39 5 6 := ⟨by decide +kernel, by decide, by decide, wg_of 120 (by decide +kernel) (by decide +kernel)⟩
theorem f_X5_39 : jFld RX5 39 5 6 := fo_X5_39.any
theorem fo_X5_43 : jFldO RX5 43 5 7 := ⟨by decide +kernel, by decide, by decide, wg_of 121 (by decide +kernel) (by decide +kernel)⟩
theorem f_X5_43 : jFld RX5 43 5 7 := fo_X5_43.any
theorem fo_X5_46 : jFldO RX5 46 5 8 := ⟨by decide +kernel, by decide, by decide, wg_of 122 (by decide +kernel) (by decide +kernel)⟩
theorem f_X5_46 : jFld RX5 46 5 8 := fo_X5_46.any
theorem fo_X5_49 : jFldO RX5 49 5 9 := ⟨by decide +kernel, by decide, by decide, wg_of 123 (by decide +kernel) (by decide +kernel)⟩
theorem f_X5_49 : jFld RX5 49 5 9 := fo_X5_49.any
theorem fo_X5_52 : jFldO RX5 52 5 10 := ⟨by decide +kernel, by decide, by decide, wg_of 124 (by decide +kernel) (by decide +kernel)⟩
theorem f_X5_52 : jFld RX5 52 5 10 := fo_X5_52.any
theorem k_X5_55 : jLnk RX5 55 yX5_demandWithin := wg_of 234 (by decide +kernel) (by decide +kernel)
theorem m_X5_demandWithin : jMeth yX5_demandWithin cX5_demandWithin 3 none 3 := ⟨wg_of 236 (by decide +kernel) (by decide +kernel), wg_of 44 (by decide +kernel) (by decide +kernel), by decide, by decide, by decide⟩
theorem s_X5_demandWithin : Cond.static yX5_demandWithin ∈ WG := wg_of 235 (by decide +kernel) (by decide +kernel)
theorem k_X5_66 : jLnk RX5 66 yX1_init := wg_of 323 (by decide +kernel) (by decide +kernel)
theorem m_X1_init : jMeth yX1_init cX1_init 7 none 6 := ⟨wg_of 325 (by decide +kernel) (by decide +kernel), wg_of 53 (by decide +kernel) (by decide +kernel), by decide, by decide, by decide⟩
theorem i_X1_init : Cond.instanceMethod yX1_init ∈ WG := wg_of 324 (by decide +kernel) (by decide +kernel)
theorem f_X5_69 : jFld RX5 69 1 5 := jFld_nest "TideTablePainters" (by decide +kernel) (by decide) (by decide) (ow_of 389 (by decide +kernel) (by decide +kernel))
theorem k_X5_73 : jLnk RX5 73 yX2_growOlder := wg_of 414 (by decide +kernel) (by decide +kernel)
theorem m_X2_growOlder : jMeth yX2_growOlder cX2_growOlder 3 none 1 := ⟨wg_of 417 (by decide +kernel) (by decide +kernel), wg_of 55 (by decide +kernel) (by decide +kernel), by decide, by decide, by decide⟩
theorem v_X2_growOlder : jVirt yX2_growOlder := ⟨wg_of 415 (by decide +kernel) (by decide +kernel), wg_of 416 (by decide +kernel) (by decide +kernel)⟩
theorem f_X5_79 : jFld RX5 79 1 6 := jFld_nest "TideTablePainters" (by decide +kernel) (by decide) (by decide) (ow_of 391 (by decide +kernel) (by decide +kernel))
theorem k_X5_83 : jLnk RX5 83 yX0_fadeOldLines := wg_of 422 (by decide +kernel) (by decide +kernel)
theorem m_X0_fadeOldLines : jMeth yX0_fadeOldLines cX0_fadeOldLines 3 none 1 := ⟨wg_of 425 (by decide +kernel) (by decide +kernel), wg_of 54 (by decide +kernel) (by decide +kernel), by decide, by decide, by decide⟩
theorem v_X0_fadeOldLines : jVirt yX0_fadeOldLines := ⟨wg_of 423 (by decide +kernel) (by decide +kernel), wg_of 424 (by decide +kernel) (by decide +kernel)⟩
theorem k_X5_88 : jLnk RX5 88 yX5_demandDay := wg_of 433 (by decide +kernel) (by decide +kernel)
theorem m_X5_demandDay : jMeth yX5_demandDay cX5_demandDay 1 none 1 := ⟨wg_of 435 (by decide +kernel) (by decide +kernel), wg_of 44 (by decide +kernel) (by decide +kernel), by decide, by decide, by decide⟩
theorem s_X5_demandDay : Cond.static yX5_demandDay ∈ WG := wg_of 434 (by decide +kernel) (by decide +kernel)
theorem k_X5_91 : jLnk RX5 91 yX5_moonAgeOn := wg_of 437 (by decide +kernel) (by decide +kernel)
theorem m_X5_moonAgeOn : jMeth yX5_moonAgeOn cX5_moonAgeOn 1 (some .int) 1 := ⟨wg_of 206 (by decide +kernel) (by decide +kernel), wg_of 44 (by decide +kernel) (by decide +kernel), by decide, by decide, by decide⟩
theorem s_X5_moonAgeOn : Cond.static yX5_moonAgeOn ∈ WG := wg_of 205 (by decide +kernel) (by decide +kernel)
theorem k_X5_95 : jLnk RX5 95 yX5_pierNumbered := wg_of 446 (by decide +kernel) (by decide +kernel)
theorem m_X5_pierNumbered : jMeth yX5_pierNumbered cX5_pierNumbered 2 (some (.object "TideTablePainters$Pier")) 1 := ⟨wg_of 449 (by decide +kernel) (by decide +kernel), wg_of 44 (by decide +kernel) (by decide +kernel), by decide, by decide, by decide⟩
theorem v_X5_pierNumbered : jVirt yX5_pierNumbered := ⟨wg_of 448 (by decide +kernel) (by decide +kernel), wg_of 2 (by decide +kernel) (by decide +kernel)⟩
theorem k_X5_99 : jLnk RX5 99 yX1_rangeOn := wg_of 470 (by decide +kernel) (by decide +kernel)
theorem m_X1_rangeOn : jMeth yX1_rangeOn cX1_rangeOn 4 (some .int) 1 := ⟨wg_of 203 (by decide +kernel) (by decide +kernel), wg_of 53 (by decide +kernel) (by decide +kernel), by decide, by decide, by decide⟩
theorem v_X1_rangeOn : jVirt yX1_rangeOn := ⟨wg_of 201 (by decide +kernel) (by decide +kernel), wg_of 202 (by decide +kernel) (by decide +kernel)⟩
theorem k_X5_102 : jLnk RX5 102 yX3_fill := wg_of 196 (by decide +kernel) (by decide +kernel)
theorem m_X3_fill : jMeth yX3_fill cX3_fill 6 none 2 := ⟨wg_of 199 (by decide +kernel) (by decide +kernel), wg_of 46 (by decide +kernel) (by decide +kernel), by decide, by decide, by decide⟩
theorem v_X3_fill : jVirt yX3_fill := ⟨wg_of 197 (by decide +kernel) (by decide +kernel), wg_of 198 (by decide +kernel) (by decide +kernel)⟩
theorem f_X5_106 : jFld RX5 106 3 3 := jFld_nest "TideTablePainters" (by decide +kernel) (by decide) (by decide) (ow_of 103 (by decide +kernel) (by decide +kernel))
theorem k_X5_109 : jLnk RX5 109 yX5_fillTableWithWater := wg_of 485 (by decide +kernel) (by decide +kernel)
theorem m_X5_fillTableWithWater : jMeth yX5_fillTableWithWater cX5_fillTableWithWater 4 none 3 := ⟨wg_of 488 (by decide +kernel) (by decide +kernel), wg_of 44 (by decide +kernel) (by decide +kernel), by decide, by decide, by decide⟩
theorem v_X5_fillTableWithWater : jVirt yX5_fillTableWithWater := ⟨wg_of 487 (by decide +kernel) (by decide +kernel), wg_of 4 (by decide +kernel) (by decide +kernel)⟩
theorem f_X5_112 : jFld RX5 112 3 0 := jFld_nest "TideTablePainters" (by decide +kernel) (by decide) (by decide) (ow_of 96 (by decide +kernel) (by decide +kernel))
theorem f_X5_115 : jFld RX5 115 3 1 := jFld_nest "TideTablePainters" (by decide +kernel) (by decide) (by decide) (ow_of 98 (by decide +kernel) (by decide +kernel))
theorem f_X5_118 : jFld RX5 118 3 2 := jFld_nest "TideTablePainters" (by decide +kernel) (by decide) (by decide) (ow_of 100 (by decide +kernel) (by decide +kernel))
theorem k_X5_122 : jLnk RX5 122 yX1_minutesToHigh := wg_of 511 (by decide +kernel) (by decide +kernel)
theorem m_X1_minutesToHigh : jMeth yX1_minutesToHigh cX1_minutesToHigh 4 (some .int) 2 := ⟨wg_of 213 (by decide +kernel) (by decide +kernel), wg_of 53 (by decide +kernel) (by decide +kernel), by decide, by decide, by decide⟩
theorem v_X1_minutesToHigh : jVirt yX1_minutesToHigh := ⟨wg_of 211 (by decide +kernel) (by decide +kernel), wg_of 212 (by decide +kernel) (by decide +kernel)⟩
theorem k_X5_126 : jLnk RX5 126 yX5_reportsFor := wg_of 519 (by decide +kernel) (by decide +kernel)
theorem m_X5_reportsFor : jMeth yX5_reportsFor cX5_reportsFor 3 (some (.object "TideTablePainters$Reports")) 2 := ⟨wg_of 522 (by decide +kernel) (by decide +kernel), wg_of 44 (by decide +kernel) (by decide +kernel), by decide, by decide, by decide⟩
theorem v_X5_reportsFor : jVirt yX5_reportsFor := ⟨wg_of 521 (by decide +kernel) (by decide +kernel), wg_of 5 (by decide +kernel) (by decide +kernel)⟩
theorem k_X5_130 : jLnk RX5 130 yX5_demandMinutesLate := wg_of 527 (by decide +kernel) (by decide +kernel)
theorem m_X5_demandMinutesLate : jMeth yX5_demandMinutesLate cX5_demandMinutesLate 1 none 1 := ⟨wg_of 529 (by decide +kernel) (by decide +kernel), wg_of 44 (by decide +kernel) (by decide +kernel), by decide, by decide, by decide⟩
theorem s_X5_demandMinutesLate : Cond.static yX5_demandMinutesLate ∈ WG := wg_of 528 (by decide +kernel) (by decide +kernel)
theorem k_X5_133 : jLnk RX5 133 yX2_put := wg_of 530 (by decide +kernel) (by decide +kernel)
theorem m_X2_put : jMeth yX2_put cX2_put 4 none 2 := ⟨wg_of 533 (by decide +kernel) (by decide +kernel), wg_of 55 (by decide +kernel) (by decide +kernel), by decide, by decide, by decide⟩
theorem v_X2_put : jVirt yX2_put := ⟨wg_of 531 (by decide +kernel) (by decide +kernel), wg_of 532 (by decide +kernel) (by decide +kernel)⟩
theorem k_X5_137 : jLnk RX5 137 yX2_correction := wg_of 538 (by decide +kernel) (by decide +kernel)
theorem m_X2_correction : jMeth yX2_correction cX2_correction 5 (some .int) 0 := ⟨wg_of 217 (by decide +kernel) (by decide +kernel), wg_of 55 (by decide +kernel) (by decide +kernel), by decide, by decide, by decide⟩
theorem v_X2_correction : jVirt yX2_correction := ⟨wg_of 215 (by decide +kernel) (by decide +kernel), wg_of 216 (by decide +kernel) (by decide +kernel)⟩
theorem k_X5_141 : jLnk RX5 141 yX2_compareWith := wg_of 546 (by decide +kernel) (by decide +kernel)
theorem m_X2_compareWith : jMeth yX2_compareWith cX2_compareWith 5 (some .int) 1 := ⟨wg_of 549 (by decide +kernel) (by decide +kernel), wg_of 55 (by decide +kernel) (by decide +kernel), by decide, by decide, by decide⟩
theorem v_X2_compareWith : jVirt yX2_compareWith := ⟨wg_of 547 (by decide +kernel) (by decide +kernel), wg_of 548 (by decide +kernel) (by decide +kernel)⟩
theorem k_X5_144 : jLnk RX5 144 yX5_demandFisherman := wg_of 523 (by decide +kernel) (by decide +kernel)
theorem m_X5_demandFisherman : jMeth yX5_demandFisherman cX5_demandFisherman 1 none 1 := ⟨wg_of 525 (by decide +kernel) (by decide +kernel), wg_of 44 (by decide +kernel) (by decide +kernel), by decide, by decide, by decide⟩
theorem s_X5_demandFisherman : Cond.static yX5_demandFisherman ∈ WG := wg_of 524 (by decide +kernel) (by decide +kernel)
theorem f_X5_147 : jFld RX5 147 2 3 := jFld_nest "TideTablePainters" (by decide +kernel) (by decide) (by decide) (ow_of 368 (by decide +kernel) (by decide +kernel))
theorem f_X5_153 : jFld RX5 153 2 0 := jFld_nest "TideTablePainters" (by decide +kernel) (by decide) (by decide) (ow_of 362 (by decide +kernel) (by decide +kernel))
theorem f_X5_156 : jFld RX5 156 2 1 := jFld_nest "TideTablePainters" (by decide +kernel) (by decide) (by decide) (ow_of 364 (by decide +kernel) (by decide +kernel))
theorem k_X5_157 : jLnk RX5 157 yX5_placeOfReport := wg_of 613 (by decide +kernel) (by decide +kernel)
theorem m_X5_placeOfReport : jMeth yX5_placeOfReport cX5_placeOfReport 3 (some .int) 2 := ⟨wg_of 615 (by decide +kernel) (by decide +kernel), wg_of 44 (by decide +kernel) (by decide +kernel), by decide, by decide, by decide⟩
theorem s_X5_placeOfReport : Cond.static yX5_placeOfReport ∈ WG := wg_of 614 (by decide +kernel) (by decide +kernel)
theorem f_X5_161 : jFld RX5 161 2 2 := jFld_nest "TideTablePainters" (by decide +kernel) (by decide) (by decide) (ow_of 366 (by decide +kernel) (by decide +kernel))
theorem k_X5_164 : jLnk RX5 164 yX5_tinsOf := wg_of 632 (by decide +kernel) (by decide +kernel)
theorem m_X5_tinsOf : jMeth yX5_tinsOf cX5_tinsOf 2 (some (.object "TideTablePainters$Tins")) 1 := ⟨wg_of 635 (by decide +kernel) (by decide +kernel), wg_of 44 (by decide +kernel) (by decide +kernel), by decide, by decide, by decide⟩
theorem v_X5_tinsOf : jVirt yX5_tinsOf := ⟨wg_of 634 (by decide +kernel) (by decide +kernel), wg_of 6 (by decide +kernel) (by decide +kernel)⟩
theorem f_X5_168 : jFld RX5 168 4 1 := jFld_nest "TideTablePainters" (by decide +kernel) (by decide) (by decide) (ow_of 78 (by decide +kernel) (by decide +kernel))
theorem k_X5_171 : jLnk RX5 171 yX4_add := wg_of 637 (by decide +kernel) (by decide +kernel)
theorem m_X4_add : jMeth yX4_add cX4_add 2 none 1 := ⟨wg_of 640 (by decide +kernel) (by decide +kernel), wg_of 45 (by decide +kernel) (by decide +kernel), by decide, by decide, by decide⟩
theorem v_X4_add : jVirt yX4_add := ⟨wg_of 638 (by decide +kernel) (by decide +kernel), wg_of 639 (by decide +kernel) (by decide +kernel)⟩
theorem k_X5_174 : jLnk RX5 174 yX4_inOldest := wg_of 655 (by decide +kernel) (by decide +kernel)
theorem m_X4_inOldest : jMeth yX4_inOldest cX4_inOldest 4 (some .int) 1 := ⟨wg_of 658 (by decide +kernel) (by decide +kernel), wg_of 45 (by decide +kernel) (by decide +kernel), by decide, by decide, by decide⟩
theorem v_X4_inOldest : jVirt yX4_inOldest := ⟨wg_of 656 (by decide +kernel) (by decide +kernel), wg_of 657 (by decide +kernel) (by decide +kernel)⟩
theorem f_X5_179 : jFld RX5 179 4 0 := jFld_nest "TideTablePainters" (by decide +kernel) (by decide) (by decide) (ow_of 76 (by decide +kernel) (by decide +kernel))
theorem f_X5_182 : jFld RX5 182 4 2 := jFld_nest "TideTablePainters" (by decide +kernel) (by decide) (by decide) (ow_of 80 (by decide +kernel) (by decide +kernel))
theorem k_X5_185 : jLnk RX5 185 yX5_demandPier := wg_of 450 (by decide +kernel) (by decide +kernel)
theorem m_X5_demandPier : jMeth yX5_demandPier cX5_demandPier 2 none 1 := ⟨wg_of 453 (by decide +kernel) (by decide +kernel), wg_of 44 (by decide +kernel) (by decide +kernel), by decide, by decide, by decide⟩
theorem v_X5_demandPier : jVirt yX5_demandPier := ⟨wg_of 452 (by decide +kernel) (by decide +kernel), wg_of 3 (by decide +kernel) (by decide +kernel)⟩
theorem k_X5_190 : jLnk RX5 190 yX5_ordersBefore := wg_of 675 (by decide +kernel) (by decide +kernel)
theorem m_X5_ordersBefore : jMeth yX5_ordersBefore cX5_ordersBefore 4 (some .int) 1 := ⟨wg_of 678 (by decide +kernel) (by decide +kernel), wg_of 44 (by decide +kernel) (by decide +kernel), by decide, by decide, by decide⟩
theorem v_X5_ordersBefore : jVirt yX5_ordersBefore := ⟨wg_of 677 (by decide +kernel) (by decide +kernel), wg_of 7 (by decide +kernel) (by decide +kernel)⟩
theorem k_X5_195 : jLnk RX5 195 yX5_pierOfOrder := wg_of 698 (by decide +kernel) (by decide +kernel)
theorem m_X5_pierOfOrder : jMeth yX5_pierOfOrder cX5_pierOfOrder 3 (some .int) 1 := ⟨wg_of 701 (by decide +kernel) (by decide +kernel), wg_of 44 (by decide +kernel) (by decide +kernel), by decide, by decide, by decide⟩
theorem v_X5_pierOfOrder : jVirt yX5_pierOfOrder := ⟨wg_of 700 (by decide +kernel) (by decide +kernel), wg_of 9 (by decide +kernel) (by decide +kernel)⟩
theorem k_X5_198 : jLnk RX5 198 yX0_blankLines := wg_of 180 (by decide +kernel) (by decide +kernel)
theorem m_X0_blankLines : jMeth yX0_blankLines cX0_blankLines 3 (some .int) 0 := ⟨wg_of 183 (by decide +kernel) (by decide +kernel), wg_of 54 (by decide +kernel) (by decide +kernel), by decide, by decide, by decide⟩
theorem v_X0_blankLines : jVirt yX0_blankLines := ⟨wg_of 181 (by decide +kernel) (by decide +kernel), wg_of 182 (by decide +kernel) (by decide +kernel)⟩
theorem k_X5_201 : jLnk RX5 201 yX5_paintNextLine := wg_of 709 (by decide +kernel) (by decide +kernel)
theorem m_X5_paintNextLine : jMeth yX5_paintNextLine cX5_paintNextLine 3 (some .boolean) 0 := ⟨wg_of 712 (by decide +kernel) (by decide +kernel), wg_of 44 (by decide +kernel) (by decide +kernel), by decide, by decide, by decide⟩
theorem v_X5_paintNextLine : jVirt yX5_paintNextLine := ⟨wg_of 711 (by decide +kernel) (by decide +kernel), wg_of 10 (by decide +kernel) (by decide +kernel)⟩
theorem k_X5_207 : jLnk RX5 207 yX0_firstSpoiltLine := wg_of 766 (by decide +kernel) (by decide +kernel)
theorem m_X0_firstSpoiltLine : jMeth yX0_firstSpoiltLine cX0_firstSpoiltLine 2 (some .int) 0 := ⟨wg_of 769 (by decide +kernel) (by decide +kernel), wg_of 54 (by decide +kernel) (by decide +kernel), by decide, by decide, by decide⟩
theorem v_X0_firstSpoiltLine : jVirt yX0_firstSpoiltLine := ⟨wg_of 767 (by decide +kernel) (by decide +kernel), wg_of 768 (by decide +kernel) (by decide +kernel)⟩
theorem k_X5_212 : jLnk RX5 212 yX5_tinsForLine := wg_of 722 (by decide +kernel) (by decide +kernel)
theorem m_X5_tinsForLine : jMeth yX5_tinsForLine cX5_tinsForLine 3 (some (.object "TideTablePainters$Tins")) 2 := ⟨wg_of 725 (by decide +kernel) (by decide +kernel), wg_of 44 (by decide +kernel) (by decide +kernel), by decide, by decide, by decide⟩
theorem v_X5_tinsForLine : jVirt yX5_tinsForLine := ⟨wg_of 724 (by decide +kernel) (by decide +kernel), wg_of 12 (by decide +kernel) (by decide +kernel)⟩
theorem k_X5_216 : jLnk RX5 216 yX4_take := wg_of 726 (by decide +kernel) (by decide +kernel)
theorem m_X4_take : jMeth yX4_take cX4_take 3 (some .boolean) 1 := ⟨wg_of 729 (by decide +kernel) (by decide +kernel), wg_of 45 (by decide +kernel) (by decide +kernel), by decide, by decide, by decide⟩
theorem v_X4_take : jVirt yX4_take := ⟨wg_of 727 (by decide +kernel) (by decide +kernel), wg_of 728 (by decide +kernel) (by decide +kernel)⟩
theorem k_X5_222 : jLnk RX5 222 yX0_makeReadable := wg_of 739 (by decide +kernel) (by decide +kernel)
theorem m_X0_makeReadable : jMeth yX0_makeReadable cX0_makeReadable 3 none 2 := ⟨wg_of 742 (by decide +kernel) (by decide +kernel), wg_of 54 (by decide +kernel) (by decide +kernel), by decide, by decide, by decide⟩
theorem v_X0_makeReadable : jVirt yX0_makeReadable := ⟨wg_of 740 (by decide +kernel) (by decide +kernel), wg_of 741 (by decide +kernel) (by decide +kernel)⟩
theorem f_X5_225 : jFld RX5 225 0 3 := jFld_nest "TideTablePainters" (by decide +kernel) (by decide) (by decide) (ow_of 341 (by decide +kernel) (by decide +kernel))
theorem f_X5_228 : jFld RX5 228 0 0 := jFld_nest "TideTablePainters" (by decide +kernel) (by decide) (by decide) (ow_of 336 (by decide +kernel) (by decide +kernel))
theorem k_X5_231 : jLnk RX5 231 yX5_boardWithLine := wg_of 793 (by decide +kernel) (by decide +kernel)
theorem m_X5_boardWithLine : jMeth yX5_boardWithLine cX5_boardWithLine 4 (some (.object "TideTablePainters$Board")) 2 := ⟨wg_of 796 (by decide +kernel) (by decide +kernel), wg_of 44 (by decide +kernel) (by decide +kernel), by decide, by decide, by decide⟩
theorem v_X5_boardWithLine : jVirt yX5_boardWithLine := ⟨wg_of 795 (by decide +kernel) (by decide +kernel), wg_of 13 (by decide +kernel) (by decide +kernel)⟩
theorem f_X5_235 : jFld RX5 235 0 1 := jFld_nest "TideTablePainters" (by decide +kernel) (by decide) (by decide) (ow_of 338 (by decide +kernel) (by decide +kernel))
theorem k_X5_238 : jLnk RX5 238 yX5_boardWithPaintedLine := wg_of 805 (by decide +kernel) (by decide +kernel)
theorem m_X5_boardWithPaintedLine : jMeth yX5_boardWithPaintedLine cX5_boardWithPaintedLine 4 (some (.object "TideTablePainters$Board")) 2 := ⟨wg_of 808 (by decide +kernel) (by decide +kernel), wg_of 44 (by decide +kernel) (by decide +kernel), by decide, by decide, by decide⟩
theorem v_X5_boardWithPaintedLine : jVirt yX5_boardWithPaintedLine := ⟨wg_of 807 (by decide +kernel) (by decide +kernel), wg_of 14 (by decide +kernel) (by decide +kernel)⟩
theorem f_X5_241 : jFld RX5 241 0 4 := jFld_nest "TideTablePainters" (by decide +kernel) (by decide) (by decide) (ow_of 343 (by decide +kernel) (by decide +kernel))
end
section
theorem k_X5_244 : jLnk RX5 244 yX0_unreadableMask := wg_of 192 (by decide +kernel) (by decide +kernel)
theorem m_X0_unreadableMask : jMeth yX0_unreadableMask cX0_unreadableMask 3 (some .int) 0 := ⟨wg_of 195 (by decide +kernel) (by decide +kernel), wg_of 54 (by decide +kernel) (by decide +kernel), by decide, by decide, by decide⟩
theorem v_X0_unreadableMask : jVirt yX0_unreadableMask := ⟨wg_of 193 (by decide +kernel) (by decide +kernel), wg_of 194 (by decide +kernel) (by decide +kernel)⟩
theorem k_X5_247 : jLnk RX5 247 yX5_showsThisDay := wg_of 188 (by decide +kernel) (by decide +kernel)
theorem m_X5_showsThisDay : jMeth yX5_showsThisDay cX5_showsThisDay 3 (some .boolean) 1 := ⟨wg_of 191 (by decide +kernel) (by decide +kernel), wg_of 44 (by decide +kernel) (by decide +kernel), by decide, by decide, by decide⟩
theorem v_X5_showsThisDay : jVirt yX5_showsThisDay := ⟨wg_of 190 (by decide +kernel) (by decide +kernel), wg_of 0 (by decide +kernel) (by decide +kernel)⟩
theorem k_X5_264 : jLnk RX5 264 yX2_placeOf := wg_of 616 (by decide +kernel) (by decide +kernel)
theorem m_X2_placeOf : jMeth yX2_placeOf cX2_placeOf 3 (some .int) 1 := ⟨wg_of 537 (by decide +kernel) (by decide +kernel), wg_of 55 (by decide +kernel) (by decide +kernel), by decide, by decide, by decide⟩
theorem v_X2_placeOf : jVirt yX2_placeOf := ⟨wg_of 535 (by decide +kernel) (by decide +kernel), wg_of 536 (by decide +kernel) (by decide +kernel)⟩
theorem k_X5_275 : jLnk RX5 275 yX3_matches := wg_of 221 (by decide +kernel) (by decide +kernel)
theorem m_X3_matches : jMeth yX3_matches cX3_matches 3 (some .boolean) 1 := ⟨wg_of 224 (by decide +kernel) (by decide +kernel), wg_of 46 (by decide +kernel) (by decide +kernel), by decide, by decide, by decide⟩
theorem v_X3_matches : jVirt yX3_matches := ⟨wg_of 222 (by decide +kernel) (by decide +kernel), wg_of 223 (by decide +kernel) (by decide +kernel)⟩
theorem f_X5_279 : jFld RX5 279 1 4 := jFld_nest "TideTablePainters" (by decide +kernel) (by decide) (by decide) (ow_of 387 (by decide +kernel) (by decide +kernel))
theorem k_X5_282 : jLnk RX5 282 yX5_comesBefore := wg_of 679 (by decide +kernel) (by decide +kernel)
theorem m_X5_comesBefore : jMeth yX5_comesBefore cX5_comesBefore 3 (some .boolean) 2 := ⟨wg_of 682 (by decide +kernel) (by decide +kernel), wg_of 44 (by decide +kernel) (by decide +kernel), by decide, by decide, by decide⟩
theorem v_X5_comesBefore : jVirt yX5_comesBefore := ⟨wg_of 681 (by decide +kernel) (by decide +kernel), wg_of 8 (by decide +kernel) (by decide +kernel)⟩
theorem k_X5_286 : jLnk RX5 286 yX0_begin := wg_of 717 (by decide +kernel) (by decide +kernel)
theorem m_X0_begin : jMeth yX0_begin cX0_begin 4 none 2 := ⟨wg_of 720 (by decide +kernel) (by decide +kernel), wg_of 54 (by decide +kernel) (by decide +kernel), by decide, by decide, by decide⟩
theorem v_X0_begin : jVirt yX0_begin := ⟨wg_of 718 (by decide +kernel) (by decide +kernel), wg_of 719 (by decide +kernel) (by decide +kernel)⟩
theorem k_X5_289 : jLnk RX5 289 yX5_beginFirstOrder := wg_of 713 (by decide +kernel) (by decide +kernel)
theorem m_X5_beginFirstOrder : jMeth yX5_beginFirstOrder cX5_beginFirstOrder 2 none 0 := ⟨wg_of 716 (by decide +kernel) (by decide +kernel), wg_of 44 (by decide +kernel) (by decide +kernel), by decide, by decide, by decide⟩
theorem v_X5_beginFirstOrder : jVirt yX5_beginFirstOrder := ⟨wg_of 715 (by decide +kernel) (by decide +kernel), wg_of 11 (by decide +kernel) (by decide +kernel)⟩
theorem k_X5_292 : jLnk RX5 292 yX0_drip := wg_of 743 (by decide +kernel) (by decide +kernel)
theorem m_X0_drip : jMeth yX0_drip cX0_drip 2 none 1 := ⟨wg_of 746 (by decide +kernel) (by decide +kernel), wg_of 54 (by decide +kernel) (by decide +kernel), by decide, by decide, by decide⟩
theorem v_X0_drip : jVirt yX0_drip := ⟨wg_of 744 (by decide +kernel) (by decide +kernel), wg_of 745 (by decide +kernel) (by decide +kernel)⟩
theorem fo_X6_7 : jFldO RX6 7 6 3 := ⟨by decide +kernel, by decide, by decide, wg_of 847 (by decide +kernel) (by decide +kernel)⟩
theorem f_X6_7 : jFld RX6 7 6 3 := fo_X6_7.any
theorem fo_X6_13 : jFldO RX6 13 6 4 := ⟨by decide +kernel, by decide, by decide, wg_of 848 (by decide +kernel) (by decide +kernel)⟩
theorem f_X6_13 : jFld RX6 13 6 4 := fo_X6_13.any
theorem fo_X6_16 : jFldO RX6 16 6 5 := ⟨by decide +kernel, by decide, by decide, wg_of 849 (by decide +kernel) (by decide +kernel)⟩
theorem f_X6_16 : jFld RX6 16 6 5 := fo_X6_16.any
theorem fo_X6_19 : jFldO RX6 19 6 6 := ⟨by decide +kernel, by decide, by decide, wg_of 850 (by decide +kernel) (by decide +kernel)⟩
theorem f_X6_19 : jFld RX6 19 6 6 := fo_X6_19.any
theorem fo_X6_22 : jFldO RX6 22 6 7 := ⟨by decide +kernel, by decide, by decide, wg_of 851 (by decide +kernel) (by decide +kernel)⟩
theorem f_X6_22 : jFld RX6 22 6 7 := fo_X6_22.any
theorem fo_X6_25 : jFldO RX6 25 6 8 := ⟨by decide +kernel, by decide, by decide, wg_of 852 (by decide +kernel) (by decide +kernel)⟩
theorem f_X6_25 : jFld RX6 25 6 8 := fo_X6_25.any
theorem fo_X6_28 : jFldO RX6 28 6 9 := ⟨by decide +kernel, by decide, by decide, wg_of 853 (by decide +kernel) (by decide +kernel)⟩
theorem f_X6_28 : jFld RX6 28 6 9 := fo_X6_28.any
theorem fo_X6_31 : jFldO RX6 31 6 10 := ⟨by decide +kernel, by decide, by decide, wg_of 854 (by decide +kernel) (by decide +kernel)⟩
theorem f_X6_31 : jFld RX6 31 6 10 := fo_X6_31.any
theorem fo_X6_34 : jFldO RX6 34 6 11 := ⟨by decide +kernel, by decide, by decide, wg_of 855 (by decide +kernel) (by decide +kernel)⟩
theorem f_X6_34 : jFld RX6 34 6 11 := fo_X6_34.any
theorem fo_X6_37 : jFldO RX6 37 6 12 := ⟨by decide +kernel, by decide, by decide, wg_of 856 (by decide +kernel) (by decide +kernel)⟩
theorem f_X6_37 : jFld RX6 37 6 12 := fo_X6_37.any
theorem fo_X6_40 : jFldO RX6 40 6 13 := ⟨by decide +kernel, by decide, by decide, wg_of 857 (by decide +kernel) (by decide +kernel)⟩
theorem f_X6_40 : jFld RX6 40 6 13 := fo_X6_40.any
theorem fo_X6_43 : jFldO RX6 43 6 14 := ⟨by decide +kernel, by decide, by decide, wg_of 858 (by decide +kernel) (by decide +kernel)⟩
theorem f_X6_43 : jFld RX6 43 6 14 := fo_X6_43.any
theorem fo_X6_46 : jFldO RX6 46 6 18 := ⟨by decide +kernel, by decide, by decide, wg_of 862 (by decide +kernel) (by decide +kernel)⟩
theorem f_X6_46 : jFld RX6 46 6 18 := fo_X6_46.any
theorem fo_X6_49 : jFldO RX6 49 6 19 := ⟨by decide +kernel, by decide, by decide, wg_of 863 (by decide +kernel) (by decide +kernel)⟩
theorem f_X6_49 : jFld RX6 49 6 19 := fo_X6_49.any
theorem fo_X6_53 : jFldO RX6 53 6 21 := ⟨by decide +kernel, by decide, by decide, wg_of 865 (by decide +kernel) (by decide +kernel)⟩
theorem f_X6_53 : jFld RX6 53 6 21 := fo_X6_53.any
theorem fo_X6_56 : jFldO RX6 56 6 22 := ⟨by decide +kernel, by decide, by decide, wg_of 866 (by decide +kernel) (by decide +kernel)⟩
theorem f_X6_56 : jFld RX6 56 6 22 := fo_X6_56.any
theorem fo_X6_59 : jFldO RX6 59 6 23 := ⟨by decide +kernel, by decide, by decide, wg_of 867 (by decide +kernel) (by decide +kernel)⟩
theorem f_X6_59 : jFld RX6 59 6 23 := fo_X6_59.any
theorem fo_X6_62 : jFldO RX6 62 6 24 := ⟨by decide +kernel, by decide, by decide, wg_of 868 (by decide +kernel) (by decide +kernel)⟩
theorem f_X6_62 : jFld RX6 62 6 24 := fo_X6_62.any
theorem fo_X6_65 : jFldO RX6 65 6 25 := ⟨by decide +kernel, by decide, by decide, wg_of 869 (by decide +kernel) (by decide +kernel)⟩
theorem f_X6_65 : jFld RX6 65 6 25 := fo_X6_65.any
theorem fo_X6_68 : jFldO RX6 68 6 26 := ⟨by decide +kernel, by decide, by decide, wg_of 870 (by decide +kernel) (by decide +kernel)⟩
theorem f_X6_68 : jFld RX6 68 6 26 := fo_X6_68.any
theorem fo_X6_71 : jFldO RX6 71 6 27 := ⟨by decide +kernel, by decide, by decide, wg_of 871 (by decide +kernel) (by decide +kernel)⟩
theorem f_X6_71 : jFld RX6 71 6 27 := fo_X6_71.any
theorem fo_X6_74 : jFldO RX6 74 6 28 := ⟨by decide +kernel, by decide, by decide, wg_of 872 (by decide +kernel) (by decide +kernel)⟩
theorem f_X6_74 : jFld RX6 74 6 28 := fo_X6_74.any
theorem fo_X6_77 : jFldO RX6 77 6 30 := ⟨by decide +kernel, by decide, by decide, wg_of 874 (by decide +kernel) (by decide +kernel)⟩
theorem f_X6_77 : jFld RX6 77 6 30 := fo_X6_77.any
theorem fo_X6_80 : jFldO RX6 80 6 31 := ⟨by decide +kernel, by decide, by decide, wg_of 875 (by decide +kernel) (by decide +kernel)⟩
theorem f_X6_80 : jFld RX6 80 6 31 := fo_X6_80.any
theorem fo_X6_83 : jFldO RX6 83 6 0 := ⟨by decide +kernel, by decide, by decide, wg_of 844 (by decide +kernel) (by decide +kernel)⟩
theorem f_X6_83 : jFld RX6 83 6 0 := fo_X6_83.any
theorem fo_X6_86 : jFldO RX6 86 6 1 := ⟨by decide +kernel, by decide, by decide, wg_of 845 (by decide +kernel) (by decide +kernel)⟩
theorem f_X6_86 : jFld RX6 86 6 1 := fo_X6_86.any
theorem k_X6_89 : jLnk RX6 89 yX6_isWithin := wg_of 949 (by decide +kernel) (by decide +kernel)
theorem m_X6_isWithin : jMeth yX6_isWithin cX6_isWithin 3 (some .boolean) 3 := ⟨wg_of 951 (by decide +kernel) (by decide +kernel), wg_of 47 (by decide +kernel) (by decide +kernel), by decide, by decide, by decide⟩
theorem s_X6_isWithin : Cond.static yX6_isWithin ∈ WG := wg_of 950 (by decide +kernel) (by decide +kernel)
theorem k_X6_93 : jLnk RX6 93 yX6_isGood := wg_of 952 (by decide +kernel) (by decide +kernel)
theorem m_X6_isGood : jMeth yX6_isGood cX6_isGood 3 (some .boolean) 2 := ⟨wg_of 955 (by decide +kernel) (by decide +kernel), wg_of 47 (by decide +kernel) (by decide +kernel), by decide, by decide, by decide⟩
theorem v_X6_isGood : jVirt yX6_isGood := ⟨wg_of 954 (by decide +kernel) (by decide +kernel), wg_of 15 (by decide +kernel) (by decide +kernel)⟩
theorem k_X6_98 : jLnk RX6 98 yX6_fail := wg_of 956 (by decide +kernel) (by decide +kernel)
theorem m_X6_fail : jMeth yX6_fail cX6_fail 2 (some .int) 1 := ⟨wg_of 959 (by decide +kernel) (by decide +kernel), wg_of 47 (by decide +kernel) (by decide +kernel), by decide, by decide, by decide⟩
theorem v_X6_fail : jVirt yX6_fail := ⟨wg_of 958 (by decide +kernel) (by decide +kernel), wg_of 16 (by decide +kernel) (by decide +kernel)⟩
theorem fo_X6_102 : jFldO RX6 102 6 2 := ⟨by decide +kernel, by decide, by decide, wg_of 846 (by decide +kernel) (by decide +kernel)⟩
theorem f_X6_102 : jFld RX6 102 6 2 := fo_X6_102.any
theorem k_X6_105 : jLnk RX6 105 yX6_dropReport := wg_of 976 (by decide +kernel) (by decide +kernel)
theorem m_X6_dropReport : jMeth yX6_dropReport cX6_dropReport 4 none 2 := ⟨wg_of 979 (by decide +kernel) (by decide +kernel), wg_of 47 (by decide +kernel) (by decide +kernel), by decide, by decide, by decide⟩
theorem v_X6_dropReport : jVirt yX6_dropReport := ⟨wg_of 978 (by decide +kernel) (by decide +kernel), wg_of 18 (by decide +kernel) (by decide +kernel)⟩
theorem k_X6_109 : jLnk RX6 109 yX6_passDay := wg_of 972 (by decide +kernel) (by decide +kernel)
theorem m_X6_passDay : jMeth yX6_passDay cX6_passDay 3 none 0 := ⟨wg_of 975 (by decide +kernel) (by decide +kernel), wg_of 47 (by decide +kernel) (by decide +kernel), by decide, by decide, by decide⟩
theorem v_X6_passDay : jVirt yX6_passDay := ⟨wg_of 974 (by decide +kernel) (by decide +kernel), wg_of 17 (by decide +kernel) (by decide +kernel)⟩
theorem k_X6_112 : jLnk RX6 112 yX6_moon := wg_of 988 (by decide +kernel) (by decide +kernel)
theorem m_X6_moon : jMeth yX6_moon cX6_moon 1 (some .int) 1 := ⟨wg_of 990 (by decide +kernel) (by decide +kernel), wg_of 47 (by decide +kernel) (by decide +kernel), by decide, by decide, by decide⟩
theorem s_X6_moon : Cond.static yX6_moon ∈ WG := wg_of 989 (by decide +kernel) (by decide +kernel)
theorem k_X6_115 : jLnk RX6 115 yJ9_min_7cf53 := wg_of 1003 (by decide +kernel) (by decide +kernel)
theorem m_J9_min : jMeth yJ9_min_7cf53 cJ9_min_7cf53 2 (some .int) 2 := ⟨wg_of 209 (by decide +kernel) (by decide +kernel), wg_of 57 (by decide +kernel) (by decide +kernel), by decide, by decide, by decide⟩
theorem s_J9_min : Cond.static yJ9_min_7cf53 ∈ WG := wg_of 208 (by decide +kernel) (by decide +kernel)
theorem k_X6_121 : jLnk RX6 121 yX6_isDay := wg_of 984 (by decide +kernel) (by decide +kernel)
theorem m_X6_isDay : jMeth yX6_isDay cX6_isDay 1 (some .boolean) 1 := ⟨wg_of 986 (by decide +kernel) (by decide +kernel), wg_of 47 (by decide +kernel) (by decide +kernel), by decide, by decide, by decide⟩
theorem s_X6_isDay : Cond.static yX6_isDay ∈ WG := wg_of 985 (by decide +kernel) (by decide +kernel)
theorem k_X6_125 : jLnk RX6 125 yX6_isPier := wg_of 995 (by decide +kernel) (by decide +kernel)
theorem m_X6_isPier : jMeth yX6_isPier cX6_isPier 2 (some .boolean) 1 := ⟨wg_of 998 (by decide +kernel) (by decide +kernel), wg_of 47 (by decide +kernel) (by decide +kernel), by decide, by decide, by decide⟩
theorem v_X6_isPier : jVirt yX6_isPier := ⟨wg_of 997 (by decide +kernel) (by decide +kernel), wg_of 19 (by decide +kernel) (by decide +kernel)⟩
theorem k_X6_128 : jLnk RX6 128 yX6_range := wg_of 999 (by decide +kernel) (by decide +kernel)
theorem m_X6_range : jMeth yX6_range cX6_range 5 (some .int) 2 := ⟨wg_of 1002 (by decide +kernel) (by decide +kernel), wg_of 47 (by decide +kernel) (by decide +kernel), by decide, by decide, by decide⟩
theorem v_X6_range : jVirt yX6_range := ⟨wg_of 1001 (by decide +kernel) (by decide +kernel), wg_of 20 (by decide +kernel) (by decide +kernel)⟩
theorem k_X6_131 : jLnk RX6 131 yX6_correction := wg_of 1016 (by decide +kernel) (by decide +kernel)
theorem m_X6_correction : jMeth yX6_correction cX6_correction 5 (some .int) 1 := ⟨wg_of 1019 (by decide +kernel) (by decide +kernel), wg_of 47 (by decide +kernel) (by decide +kernel), by decide, by decide, by decide⟩
theorem v_X6_correction : jVirt yX6_correction := ⟨wg_of 1018 (by decide +kernel) (by decide +kernel), wg_of 23 (by decide +kernel) (by decide +kernel)⟩
theorem fo_X6_134 : jFldO RX6 134 6 29 := ⟨by decide +kernel, by decide, by decide, wg_of 873 (by decide +kernel) (by decide +kernel)⟩
theorem f_X6_134 : jFld RX6 134 6 29 := fo_X6_134.any
theorem k_X6_137 : jLnk RX6 137 yX6_behind := wg_of 1012 (by decide +kernel) (by decide +kernel)
theorem m_X6_behind : jMeth yX6_behind cX6_behind 4 (some .int) 2 := ⟨wg_of 1015 (by decide +kernel) (by decide +kernel), wg_of 47 (by decide +kernel) (by decide +kernel), by decide, by decide, by decide⟩
theorem v_X6_behind : jVirt yX6_behind := ⟨wg_of 1014 (by decide +kernel) (by decide +kernel), wg_of 22 (by decide +kernel) (by decide +kernel)⟩
theorem k_X6_140 : jLnk RX6 140 yX6_findTable := wg_of 1008 (by decide +kernel) (by decide +kernel)
theorem m_X6_findTable : jMeth yX6_findTable cX6_findTable 5 none 2 := ⟨wg_of 1011 (by decide +kernel) (by decide +kernel), wg_of 47 (by decide +kernel) (by decide +kernel), by decide, by decide, by decide⟩
theorem v_X6_findTable : jVirt yX6_findTable := ⟨wg_of 1010 (by decide +kernel) (by decide +kernel), wg_of 21 (by decide +kernel) (by decide +kernel)⟩
theorem k_X6_143 : jLnk RX6 143 yX6_isWater := wg_of 1024 (by decide +kernel) (by decide +kernel)
theorem m_X6_isWater : jMeth yX6_isWater cX6_isWater 4 (some .boolean) 3 := ⟨wg_of 1027 (by decide +kernel) (by decide +kernel), wg_of 47 (by decide +kernel) (by decide +kernel), by decide, by decide, by decide⟩
theorem v_X6_isWater : jVirt yX6_isWater := ⟨wg_of 1026 (by decide +kernel) (by decide +kernel), wg_of 24 (by decide +kernel) (by decide +kernel)⟩
theorem k_X6_146 : jLnk RX6 146 yX6_level := wg_of 1032 (by decide +kernel) (by decide +kernel)
theorem m_X6_level : jMeth yX6_level cX6_level 5 (some .int) 3 := ⟨wg_of 1035 (by decide +kernel) (by decide +kernel), wg_of 47 (by decide +kernel) (by decide +kernel), by decide, by decide, by decide⟩
theorem v_X6_level : jVirt yX6_level := ⟨wg_of 1034 (by decide +kernel) (by decide +kernel), wg_of 25 (by decide +kernel) (by decide +kernel)⟩
theorem k_X6_150 : jLnk RX6 150 yX6_isPair := wg_of 1048 (by decide +kernel) (by decide +kernel)
theorem m_X6_isPair : jMeth yX6_isPair cX6_isPair 3 (some .boolean) 2 := ⟨wg_of 1051 (by decide +kernel) (by decide +kernel), wg_of 47 (by decide +kernel) (by decide +kernel), by decide, by decide, by decide⟩
theorem v_X6_isPair : jVirt yX6_isPair := ⟨wg_of 1050 (by decide +kernel) (by decide +kernel), wg_of 26 (by decide +kernel) (by decide +kernel)⟩
theorem k_X6_154 : jLnk RX6 154 yX6_placeOf := wg_of 1052 (by decide +kernel) (by decide +kernel)
theorem m_X6_placeOf : jMeth yX6_placeOf cX6_placeOf 4 (some .int) 2 := ⟨wg_of 1055 (by decide +kernel) (by decide +kernel), wg_of 47 (by decide +kernel) (by decide +kernel), by decide, by decide, by decide⟩
theorem v_X6_placeOf : jVirt yX6_placeOf := ⟨wg_of 1054 (by decide +kernel) (by decide +kernel), wg_of 27 (by decide +kernel) (by decide +kernel)⟩
theorem k_X6_157 : jLnk RX6 157 yJ9_abs_0f7a4 := wg_of 1060 (by decide +kernel) (by decide +kernel)
theorem m_J9_abs : jMeth yJ9_abs_0f7a4 cJ9_abs_0f7a4 1 (some .int) 1 := ⟨wg_of 552 (by decide +kernel) (by decide +kernel), wg_of 57 (by decide +kernel) (by decide +kernel), by decide, by decide, by decide⟩
theorem s_J9_abs : Cond.static yJ9_abs_0f7a4 ∈ WG := wg_of 551 (by decide +kernel) (by decide +kernel)
theorem k_X6_160 : jLnk RX6 160 yJ9_max_7cf53 := wg_of 1061 (by decide +kernel) (by decide +kernel)
theorem m_J9_max : jMeth yJ9_max_7cf53 cJ9_max_7cf53 2 (some .int) 2 := ⟨wg_of 560 (by decide +kernel) (by decide +kernel), wg_of 57 (by decide +kernel) (by decide +kernel), by decide, by decide, by decide⟩
theorem s_J9_max : Cond.static yJ9_max_7cf53 ∈ WG := wg_of 559 (by decide +kernel) (by decide +kernel)
theorem k_X6_163 : jLnk RX6 163 yX6_ofReport := wg_of 1082 (by decide +kernel) (by decide +kernel)
theorem m_X6_ofReport : jMeth yX6_ofReport cX6_ofReport 5 (some .int) 3 := ⟨wg_of 1085 (by decide +kernel) (by decide +kernel), wg_of 47 (by decide +kernel) (by decide +kernel), by decide, by decide, by decide⟩
theorem v_X6_ofReport : jVirt yX6_ofReport := ⟨wg_of 1084 (by decide +kernel) (by decide +kernel), wg_of 28 (by decide +kernel) (by decide +kernel)⟩
theorem k_X6_167 : jLnk RX6 167 yX6_isColour := wg_of 1098 (by decide +kernel) (by decide +kernel)
theorem m_X6_isColour : jMeth yX6_isColour cX6_isColour 2 (some .boolean) 1 := ⟨wg_of 1101 (by decide +kernel) (by decide +kernel), wg_of 47 (by decide +kernel) (by decide +kernel), by decide, by decide, by decide⟩
theorem v_X6_isColour : jVirt yX6_isColour := ⟨wg_of 1100 (by decide +kernel) (by decide +kernel), wg_of 29 (by decide +kernel) (by decide +kernel)⟩
theorem fo_X6_170 : jFldO RX6 170 6 17 := ⟨by decide +kernel, by decide, by decide, wg_of 861 (by decide +kernel) (by decide +kernel)⟩
theorem f_X6_170 : jFld RX6 170 6 17 := fo_X6_170.any
theorem k_X6_173 : jLnk RX6 173 yX6_dropOldest := wg_of 1174 (by decide +kernel) (by decide +kernel)
theorem m_X6_dropOldest : jMeth yX6_dropOldest cX6_dropOldest 3 none 1 := ⟨wg_of 1177 (by decide +kernel) (by decide +kernel), wg_of 47 (by decide +kernel) (by decide +kernel), by decide, by decide, by decide⟩
theorem v_X6_dropOldest : jVirt yX6_dropOldest := ⟨wg_of 1176 (by decide +kernel) (by decide +kernel), wg_of 36 (by decide +kernel) (by decide +kernel)⟩
theorem fo_X6_177 : jFldO RX6 177 6 15 := ⟨by decide +kernel, by decide, by decide, wg_of 859 (by decide +kernel) (by decide +kernel)⟩
end
section
theorem f_X6_177 : jFld RX6 177 6 15 := fo_X6_177.any
theorem fo_X6_180 : jFldO RX6 180 6 16 := ⟨by decide +kernel, by decide, by decide, wg_of 860 (by decide +kernel) (by decide +kernel)⟩
theorem f_X6_180 : jFld RX6 180 6 16 := fo_X6_180.any
theorem k_X6_183 : jLnk RX6 183 yX6_isAhead := wg_of 1130 (by decide +kernel) (by decide +kernel)
theorem m_X6_isAhead : jMeth yX6_isAhead cX6_isAhead 3 (some .boolean) 2 := ⟨wg_of 1133 (by decide +kernel) (by decide +kernel), wg_of 47 (by decide +kernel) (by decide +kernel), by decide, by decide, by decide⟩
theorem v_X6_isAhead : jVirt yX6_isAhead := ⟨wg_of 1132 (by decide +kernel) (by decide +kernel), wg_of 31 (by decide +kernel) (by decide +kernel)⟩
theorem k_X6_186 : jLnk RX6 186 yX6_ahead := wg_of 1126 (by decide +kernel) (by decide +kernel)
theorem m_X6_ahead : jMeth yX6_ahead cX6_ahead 4 (some .int) 1 := ⟨wg_of 1129 (by decide +kernel) (by decide +kernel), wg_of 47 (by decide +kernel) (by decide +kernel), by decide, by decide, by decide⟩
theorem v_X6_ahead : jVirt yX6_ahead := ⟨wg_of 1128 (by decide +kernel) (by decide +kernel), wg_of 30 (by decide +kernel) (by decide +kernel)⟩
theorem k_X6_189 : jLnk RX6 189 yX6_waitingAt := wg_of 1146 (by decide +kernel) (by decide +kernel)
theorem m_X6_waitingAt : jMeth yX6_waitingAt cX6_waitingAt 3 (some .int) 1 := ⟨wg_of 1149 (by decide +kernel) (by decide +kernel), wg_of 47 (by decide +kernel) (by decide +kernel), by decide, by decide, by decide⟩
theorem v_X6_waitingAt : jVirt yX6_waitingAt := ⟨wg_of 1148 (by decide +kernel) (by decide +kernel), wg_of 32 (by decide +kernel) (by decide +kernel)⟩
theorem fo_X6_192 : jFldO RX6 192 6 20 := ⟨by decide +kernel, by decide, by decide, wg_of 864 (by decide +kernel) (by decide +kernel)⟩
theorem f_X6_192 : jFld RX6 192 6 20 := fo_X6_192.any
theorem k_X6_195 : jLnk RX6 195 yX6_begin := wg_of 1166 (by decide +kernel) (by decide +kernel)
theorem m_X6_begin : jMeth yX6_begin cX6_begin 3 none 1 := ⟨wg_of 1169 (by decide +kernel) (by decide +kernel), wg_of 47 (by decide +kernel) (by decide +kernel), by decide, by decide, by decide⟩
theorem v_X6_begin : jVirt yX6_begin := ⟨wg_of 1168 (by decide +kernel) (by decide +kernel), wg_of 34 (by decide +kernel) (by decide +kernel)⟩
theorem k_X6_198 : jLnk RX6 198 yX6_take := wg_of 1170 (by decide +kernel) (by decide +kernel)
theorem m_X6_take : jMeth yX6_take cX6_take 5 (some .boolean) 2 := ⟨wg_of 1173 (by decide +kernel) (by decide +kernel), wg_of 47 (by decide +kernel) (by decide +kernel), by decide, by decide, by decide⟩
theorem v_X6_take : jVirt yX6_take := ⟨wg_of 1172 (by decide +kernel) (by decide +kernel), wg_of 35 (by decide +kernel) (by decide +kernel)⟩
theorem k_X6_201 : jLnk RX6 201 yX6_makeReadable := wg_of 1178 (by decide +kernel) (by decide +kernel)
theorem m_X6_makeReadable : jMeth yX6_makeReadable cX6_makeReadable 2 none 1 := ⟨wg_of 1181 (by decide +kernel) (by decide +kernel), wg_of 47 (by decide +kernel) (by decide +kernel), by decide, by decide, by decide⟩
theorem v_X6_makeReadable : jVirt yX6_makeReadable := ⟨wg_of 1180 (by decide +kernel) (by decide +kernel), wg_of 37 (by decide +kernel) (by decide +kernel)⟩
theorem k_X6_204 : jLnk RX6 204 yX6_drip := wg_of 1182 (by decide +kernel) (by decide +kernel)
theorem m_X6_drip : jMeth yX6_drip cX6_drip 3 none 1 := ⟨wg_of 1185 (by decide +kernel) (by decide +kernel), wg_of 47 (by decide +kernel) (by decide +kernel), by decide, by decide, by decide⟩
theorem v_X6_drip : jVirt yX6_drip := ⟨wg_of 1184 (by decide +kernel) (by decide +kernel), wg_of 38 (by decide +kernel) (by decide +kernel)⟩
theorem k_X6_207 : jLnk RX6 207 yX6_paintLine := wg_of 1162 (by decide +kernel) (by decide +kernel)
theorem m_X6_paintLine : jMeth yX6_paintLine cX6_paintLine 3 (some .boolean) 0 := ⟨wg_of 1165 (by decide +kernel) (by decide +kernel), wg_of 47 (by decide +kernel) (by decide +kernel), by decide, by decide, by decide⟩
theorem v_X6_paintLine : jVirt yX6_paintLine := ⟨wg_of 1164 (by decide +kernel) (by decide +kernel), wg_of 33 (by decide +kernel) (by decide +kernel)⟩
theorem k_X6_211 : jLnk RX6 211 yX6_isLine := wg_of 1206 (by decide +kernel) (by decide +kernel)
theorem m_X6_isLine : jMeth yX6_isLine cX6_isLine 3 (some .boolean) 2 := ⟨wg_of 1209 (by decide +kernel) (by decide +kernel), wg_of 47 (by decide +kernel) (by decide +kernel), by decide, by decide, by decide⟩
theorem v_X6_isLine : jVirt yX6_isLine := ⟨wg_of 1208 (by decide +kernel) (by decide +kernel), wg_of 39 (by decide +kernel) (by decide +kernel)⟩
theorem k_X6_214 : jLnk RX6 214 yX6_ofLine := wg_of 1214 (by decide +kernel) (by decide +kernel)
theorem m_X6_ofLine : jMeth yX6_ofLine cX6_ofLine 4 (some .int) 3 := ⟨wg_of 1217 (by decide +kernel) (by decide +kernel), wg_of 47 (by decide +kernel) (by decide +kernel), by decide, by decide, by decide⟩
theorem v_X6_ofLine : jVirt yX6_ofLine := ⟨wg_of 1216 (by decide +kernel) (by decide +kernel), wg_of 40 (by decide +kernel) (by decide +kernel)⟩
theorem k_X6_217 : jLnk RX6 217 yX6_unreadable := wg_of 1230 (by decide +kernel) (by decide +kernel)
theorem m_X6_unreadable : jMeth yX6_unreadable cX6_unreadable 4 (some .int) 1 := ⟨wg_of 1233 (by decide +kernel) (by decide +kernel), wg_of 47 (by decide +kernel) (by decide +kernel), by decide, by decide, by decide⟩
theorem v_X6_unreadable : jVirt yX6_unreadable := ⟨wg_of 1232 (by decide +kernel) (by decide +kernel), wg_of 41 (by decide +kernel) (by decide +kernel)⟩
theorem k_X6_220 : jLnk RX6 220 yX6_right := wg_of 1238 (by decide +kernel) (by decide +kernel)
theorem m_X6_right : jMeth yX6_right cX6_right 5 (some .boolean) 1 := ⟨wg_of 1241 (by decide +kernel) (by decide +kernel), wg_of 47 (by decide +kernel) (by decide +kernel), by decide, by decide, by decide⟩
theorem v_X6_right : jVirt yX6_right := ⟨wg_of 1240 (by decide +kernel) (by decide +kernel), wg_of 42 (by decide +kernel) (by decide +kernel)⟩
theorem cl_X0_9 : Cond.classLink RX0 9 RX3 ∈ WG := wg_of 333 (by decide +kernel) (by decide +kernel)
theorem kn_X0_11 : Cond.methodLinkNest RX0 11 yX3_init "TideTablePainters" ∈ OW := ow_of 334 (by decide +kernel) (by decide +kernel)
theorem fo_X0_12 : jFldO RX0 12 0 0 := ⟨by decide +kernel, by decide, by decide, wg_of 335 (by decide +kernel) (by decide +kernel)⟩
theorem f_X0_12 : jFld RX0 12 0 0 := fo_X0_12.any
theorem fo_X0_18 : jFldO RX0 18 0 1 := ⟨by decide +kernel, by decide, by decide, wg_of 337 (by decide +kernel) (by decide +kernel)⟩
theorem f_X0_18 : jFld RX0 18 0 1 := fo_X0_18.any
theorem fo_X0_22 : jFldO RX0 22 0 2 := ⟨by decide +kernel, by decide, by decide, wg_of 339 (by decide +kernel) (by decide +kernel)⟩
theorem f_X0_22 : jFld RX0 22 0 2 := fo_X0_22.any
theorem fo_X0_25 : jFldO RX0 25 0 3 := ⟨by decide +kernel, by decide, by decide, wg_of 340 (by decide +kernel) (by decide +kernel)⟩
theorem f_X0_25 : jFld RX0 25 0 3 := fo_X0_25.any
theorem fo_X0_29 : jFldO RX0 29 0 4 := ⟨by decide +kernel, by decide, by decide, wg_of 342 (by decide +kernel) (by decide +kernel)⟩
theorem f_X0_29 : jFld RX0 29 0 4 := fo_X0_29.any
theorem k_X0_32 : jLnk RX0 32 yX3_fill := wg_of 721 (by decide +kernel) (by decide +kernel)
theorem k_X0_36 : jLnk RX0 36 yX0_blotLastReadable := wg_of 747 (by decide +kernel) (by decide +kernel)
theorem m_X0_blotLastReadable : jMeth yX0_blotLastReadable cX0_blotLastReadable 2 none 0 := ⟨wg_of 750 (by decide +kernel) (by decide +kernel), wg_of 54 (by decide +kernel) (by decide +kernel), by decide, by decide, by decide⟩
theorem v_X0_blotLastReadable : jVirt yX0_blotLastReadable := ⟨wg_of 748 (by decide +kernel) (by decide +kernel), wg_of 749 (by decide +kernel) (by decide +kernel)⟩
theorem f_X0_39 : jFld RX0 39 3 3 := jFld_nest "TideTablePainters" (by decide +kernel) (by decide) (by decide) (ow_of 102 (by decide +kernel) (by decide +kernel))
theorem cl_X1_9 : Cond.classLink RX1 9 RX0 ∈ WG := wg_of 327 (by decide +kernel) (by decide +kernel)
theorem in_X0 : Cond.instantiable RX0 5 ∈ WG := wg_of 328 (by decide +kernel) (by decide +kernel)
theorem ii_X0 : Cond.initialized RX0 ∈ WG := wg_of 54 (by decide +kernel) (by decide +kernel)
theorem kn_X1_11 : Cond.methodLinkNest RX1 11 yX0_init "TideTablePainters" ∈ OW := ow_of 329 (by decide +kernel) (by decide +kernel)
theorem m_X0_init : jMeth yX0_init cX0_init 1 none 0 := ⟨wg_of 331 (by decide +kernel) (by decide +kernel), wg_of 54 (by decide +kernel) (by decide +kernel), by decide, by decide, by decide⟩
theorem i_X0_init : Cond.instanceMethod yX0_init ∈ WG := wg_of 330 (by decide +kernel) (by decide +kernel)
theorem fo_X1_12 : jFldO RX1 12 1 6 := ⟨by decide +kernel, by decide, by decide, wg_of 390 (by decide +kernel) (by decide +kernel)⟩
theorem f_X1_12 : jFld RX1 12 1 6 := fo_X1_12.any
theorem fo_X1_18 : jFldO RX1 18 1 0 := ⟨by decide +kernel, by decide, by decide, wg_of 381 (by decide +kernel) (by decide +kernel)⟩
theorem f_X1_18 : jFld RX1 18 1 0 := fo_X1_18.any
theorem fo_X1_22 : jFldO RX1 22 1 1 := ⟨by decide +kernel, by decide, by decide, wg_of 382 (by decide +kernel) (by decide +kernel)⟩
theorem f_X1_22 : jFld RX1 22 1 1 := fo_X1_22.any
theorem fo_X1_25 : jFldO RX1 25 1 2 := ⟨by decide +kernel, by decide, by decide, wg_of 384 (by decide +kernel) (by decide +kernel)⟩
theorem f_X1_25 : jFld RX1 25 1 2 := fo_X1_25.any
theorem fo_X1_28 : jFldO RX1 28 1 3 := ⟨by decide +kernel, by decide, by decide, wg_of 385 (by decide +kernel) (by decide +kernel)⟩
theorem f_X1_28 : jFld RX1 28 1 3 := fo_X1_28.any
theorem fo_X1_31 : jFldO RX1 31 1 4 := ⟨by decide +kernel, by decide, by decide, wg_of 386 (by decide +kernel) (by decide +kernel)⟩
theorem f_X1_31 : jFld RX1 31 1 4 := fo_X1_31.any
theorem cl_X1_34 : Cond.classLink RX1 34 RX2 ∈ WG := wg_of 355 (by decide +kernel) (by decide +kernel)
theorem in_X2 : Cond.instantiable RX2 5 ∈ WG := wg_of 356 (by decide +kernel) (by decide +kernel)
theorem ii_X2 : Cond.initialized RX2 ∈ WG := wg_of 55 (by decide +kernel) (by decide +kernel)
theorem k_X1_36 : jLnk RX1 36 yX2_init := wg_of 357 (by decide +kernel) (by decide +kernel)
theorem m_X2_init : jMeth yX2_init cX2_init 2 none 1 := ⟨wg_of 359 (by decide +kernel) (by decide +kernel), wg_of 55 (by decide +kernel) (by decide +kernel), by decide, by decide, by decide⟩
theorem i_X2_init : Cond.instanceMethod yX2_init ∈ WG := wg_of 358 (by decide +kernel) (by decide +kernel)
theorem fo_X1_39 : jFldO RX1 39 1 5 := ⟨by decide +kernel, by decide, by decide, wg_of 388 (by decide +kernel) (by decide +kernel)⟩
theorem f_X1_39 : jFld RX1 39 1 5 := fo_X1_39.any
theorem kn_X1_43 : Cond.methodLinkNest RX1 43 yX5_moonAgeOn "TideTablePainters" ∈ OW := ow_of 204 (by decide +kernel) (by decide +kernel)
theorem k_X1_47 : jLnk RX1 47 yJ9_min_7cf53 := wg_of 207 (by decide +kernel) (by decide +kernel)
theorem k_X1_53 : jLnk RX1 53 yX2_correction := wg_of 214 (by decide +kernel) (by decide +kernel)
theorem k_X1_57 : jLnk RX1 57 yJ9_floorMod_7cf53 := wg_of 218 (by decide +kernel) (by decide +kernel)
theorem m_J9_floorMod : jMeth yJ9_floorMod_7cf53 cJ9_floorMod_7cf53 3 (some .int) 2 := ⟨wg_of 220 (by decide +kernel) (by decide +kernel), wg_of 57 (by decide +kernel) (by decide +kernel), by decide, by decide, by decide⟩
theorem s_J9_floorMod : Cond.static yJ9_floorMod_7cf53 ∈ WG := wg_of 219 (by decide +kernel) (by decide +kernel)
theorem fo_X2_9 : jFldO RX2 9 2 0 := ⟨by decide +kernel, by decide, by decide, wg_of 361 (by decide +kernel) (by decide +kernel)⟩
theorem f_X2_9 : jFld RX2 9 2 0 := fo_X2_9.any
theorem fo_X2_15 : jFldO RX2 15 2 1 := ⟨by decide +kernel, by decide, by decide, wg_of 363 (by decide +kernel) (by decide +kernel)⟩
theorem f_X2_15 : jFld RX2 15 2 1 := fo_X2_15.any
theorem fo_X2_18 : jFldO RX2 18 2 2 := ⟨by decide +kernel, by decide, by decide, wg_of 365 (by decide +kernel) (by decide +kernel)⟩
theorem f_X2_18 : jFld RX2 18 2 2 := fo_X2_18.any
theorem fo_X2_21 : jFldO RX2 21 2 3 := ⟨by decide +kernel, by decide, by decide, wg_of 367 (by decide +kernel) (by decide +kernel)⟩
theorem f_X2_21 : jFld RX2 21 2 3 := fo_X2_21.any
theorem fo_X2_25 : jFldO RX2 25 2 4 := ⟨by decide +kernel, by decide, by decide, wg_of 369 (by decide +kernel) (by decide +kernel)⟩
theorem f_X2_25 : jFld RX2 25 2 4 := fo_X2_25.any
theorem k_X2_28 : jLnk RX2 28 yX2_placeOf := wg_of 534 (by decide +kernel) (by decide +kernel)
theorem k_X2_32 : jLnk RX2 32 yJ9_abs_0f7a4 := wg_of 550 (by decide +kernel) (by decide +kernel)
theorem k_X2_37 : jLnk RX2 37 yX2_judge := wg_of 553 (by decide +kernel) (by decide +kernel)
theorem m_X2_judge : jMeth yX2_judge cX2_judge 3 none 2 := ⟨wg_of 556 (by decide +kernel) (by decide +kernel), wg_of 55 (by decide +kernel) (by decide +kernel), by decide, by decide, by decide⟩
theorem v_X2_judge : jVirt yX2_judge := ⟨wg_of 554 (by decide +kernel) (by decide +kernel), wg_of 555 (by decide +kernel) (by decide +kernel)⟩
theorem k_X2_41 : jLnk RX2 41 yX2_removeAt := wg_of 418 (by decide +kernel) (by decide +kernel)
theorem m_X2_removeAt : jMeth yX2_removeAt cX2_removeAt 3 none 1 := ⟨wg_of 421 (by decide +kernel) (by decide +kernel), wg_of 55 (by decide +kernel) (by decide +kernel), by decide, by decide, by decide⟩
theorem v_X2_removeAt : jVirt yX2_removeAt := ⟨wg_of 419 (by decide +kernel) (by decide +kernel), wg_of 420 (by decide +kernel) (by decide +kernel)⟩
theorem k_X2_45 : jLnk RX2 45 yJ9_min_7cf53 := wg_of 557 (by decide +kernel) (by decide +kernel)
theorem k_X2_49 : jLnk RX2 49 yJ9_max_7cf53 := wg_of 558 (by decide +kernel) (by decide +kernel)
theorem fo_X3_9 : jFldO RX3 9 3 0 := ⟨by decide +kernel, by decide, by decide, wg_of 95 (by decide +kernel) (by decide +kernel)⟩
theorem f_X3_9 : jFld RX3 9 3 0 := fo_X3_9.any
theorem fo_X3_15 : jFldO RX3 15 3 1 := ⟨by decide +kernel, by decide, by decide, wg_of 97 (by decide +kernel) (by decide +kernel)⟩
theorem f_X3_15 : jFld RX3 15 3 1 := fo_X3_15.any
theorem fo_X3_18 : jFldO RX3 18 3 2 := ⟨by decide +kernel, by decide, by decide, wg_of 99 (by decide +kernel) (by decide +kernel)⟩
theorem f_X3_18 : jFld RX3 18 3 2 := fo_X3_18.any
theorem fo_X3_22 : jFldO RX3 22 3 3 := ⟨by decide +kernel, by decide, by decide, wg_of 101 (by decide +kernel) (by decide +kernel)⟩
theorem f_X3_22 : jFld RX3 22 3 3 := fo_X3_22.any
theorem k_X3_26 : jLnk RX3 26 yX1_rangeOn := wg_of 200 (by decide +kernel) (by decide +kernel)
theorem k_X3_32 : jLnk RX3 32 yX1_minutesToHigh := wg_of 210 (by decide +kernel) (by decide +kernel)
theorem f_X3_36 : jFld RX3 36 1 1 := jFld_nest "TideTablePainters" (by decide +kernel) (by decide) (by decide) (ow_of 383 (by decide +kernel) (by decide +kernel))
theorem fo_X4_9 : jFldO RX4 9 4 0 := ⟨by decide +kernel, by decide, by decide, wg_of 75 (by decide +kernel) (by decide +kernel)⟩
theorem f_X4_9 : jFld RX4 9 4 0 := fo_X4_9.any
theorem fo_X4_15 : jFldO RX4 15 4 1 := ⟨by decide +kernel, by decide, by decide, wg_of 77 (by decide +kernel) (by decide +kernel)⟩
theorem f_X4_15 : jFld RX4 15 4 1 := fo_X4_15.any
theorem fo_X4_19 : jFldO RX4 19 4 2 := ⟨by decide +kernel, by decide, by decide, wg_of 79 (by decide +kernel) (by decide +kernel)⟩
theorem f_X4_19 : jFld RX4 19 4 2 := fo_X4_19.any
theorem k_X4_22 : jLnk RX4 22 yX4_oldestWith := wg_of 730 (by decide +kernel) (by decide +kernel)
theorem m_X4_oldestWith : jMeth yX4_oldestWith cX4_oldestWith 3 (some .int) 1 := ⟨wg_of 733 (by decide +kernel) (by decide +kernel), wg_of 45 (by decide +kernel) (by decide +kernel), by decide, by decide, by decide⟩
theorem v_X4_oldestWith : jVirt yX4_oldestWith := ⟨wg_of 731 (by decide +kernel) (by decide +kernel), wg_of 732 (by decide +kernel) (by decide +kernel)⟩
theorem k_X4_26 : jLnk RX4 26 yX4_inOldest := wg_of 734 (by decide +kernel) (by decide +kernel)
theorem k_X4_29 : jLnk RX4 29 yX4_removeOldest := wg_of 735 (by decide +kernel) (by decide +kernel)
theorem m_X4_removeOldest : jMeth yX4_removeOldest cX4_removeOldest 3 none 1 := ⟨wg_of 738 (by decide +kernel) (by decide +kernel), wg_of 45 (by decide +kernel) (by decide +kernel), by decide, by decide, by decide⟩
theorem v_X4_removeOldest : jVirt yX4_removeOldest := ⟨wg_of 736 (by decide +kernel) (by decide +kernel), wg_of 737 (by decide +kernel) (by decide +kernel)⟩
theorem k_L_7 : jLnk RL 7 yX5_addPier := wg_of 230 (by decide +kernel) (by decide +kernel)
theorem m_X5_addPier : jMeth yX5_addPier cX5_addPier 7 (some .int) 5 := ⟨wg_of 233 (by decide +kernel) (by decide +kernel), wg_of 44 (by decide +kernel) (by decide +kernel), by decide, by decide, by decide⟩
theorem v_X5_addPier : jVirt yX5_addPier := ⟨wg_of 231 (by decide +kernel) (by decide +kernel), wg_of 232 (by decide +kernel) (by decide +kernel)⟩
theorem k_L_17 : jLnk RL 17 yX5_passDays := wg_of 410 (by decide +kernel) (by decide +kernel)
theorem m_X5_passDays : jMeth yX5_passDays cX5_passDays 3 (some .int) 1 := ⟨wg_of 413 (by decide +kernel) (by decide +kernel), wg_of 44 (by decide +kernel) (by decide +kernel), by decide, by decide, by decide⟩
theorem v_X5_passDays : jVirt yX5_passDays := ⟨wg_of 411 (by decide +kernel) (by decide +kernel), wg_of 412 (by decide +kernel) (by decide +kernel)⟩
theorem k_L_21 : jLnk RL 21 yX5_moonAge := wg_of 429 (by decide +kernel) (by decide +kernel)
theorem m_X5_moonAge : jMeth yX5_moonAge cX5_moonAge 2 (some .int) 1 := ⟨wg_of 432 (by decide +kernel) (by decide +kernel), wg_of 44 (by decide +kernel) (by decide +kernel), by decide, by decide, by decide⟩
theorem v_X5_moonAge : jVirt yX5_moonAge := ⟨wg_of 430 (by decide +kernel) (by decide +kernel), wg_of 431 (by decide +kernel) (by decide +kernel)⟩
theorem k_L_24 : jLnk RL 24 yX5_rangeOf := wg_of 442 (by decide +kernel) (by decide +kernel)
theorem m_X5_rangeOf : jMeth yX5_rangeOf cX5_rangeOf 4 (some .int) 2 := ⟨wg_of 445 (by decide +kernel) (by decide +kernel), wg_of 44 (by decide +kernel) (by decide +kernel), by decide, by decide, by decide⟩
theorem v_X5_rangeOf : jVirt yX5_rangeOf := ⟨wg_of 443 (by decide +kernel) (by decide +kernel), wg_of 444 (by decide +kernel) (by decide +kernel)⟩
theorem k_L_30 : jLnk RL 30 yX5_waterCount := wg_of 474 (by decide +kernel) (by decide +kernel)
theorem m_X5_waterCount : jMeth yX5_waterCount cX5_waterCount 4 (some .int) 2 := ⟨wg_of 477 (by decide +kernel) (by decide +kernel), wg_of 44 (by decide +kernel) (by decide +kernel), by decide, by decide, by decide⟩
theorem v_X5_waterCount : jVirt yX5_waterCount := ⟨wg_of 475 (by decide +kernel) (by decide +kernel), wg_of 476 (by decide +kernel) (by decide +kernel)⟩
theorem k_L_33 : jLnk RL 33 yX5_waterMinute := wg_of 481 (by decide +kernel) (by decide +kernel)
end
section
theorem m_X5_waterMinute : jMeth yX5_waterMinute cX5_waterMinute 4 (some .int) 3 := ⟨wg_of 484 (by decide +kernel) (by decide +kernel), wg_of 44 (by decide +kernel) (by decide +kernel), by decide, by decide, by decide⟩
theorem v_X5_waterMinute : jVirt yX5_waterMinute := ⟨wg_of 482 (by decide +kernel) (by decide +kernel), wg_of 483 (by decide +kernel) (by decide +kernel)⟩
theorem k_L_37 : jLnk RL 37 yX5_waterHeight := wg_of 493 (by decide +kernel) (by decide +kernel)
theorem m_X5_waterHeight : jMeth yX5_waterHeight cX5_waterHeight 4 (some .int) 3 := ⟨wg_of 496 (by decide +kernel) (by decide +kernel), wg_of 44 (by decide +kernel) (by decide +kernel), by decide, by decide, by decide⟩
theorem v_X5_waterHeight : jVirt yX5_waterHeight := ⟨wg_of 494 (by decide +kernel) (by decide +kernel), wg_of 495 (by decide +kernel) (by decide +kernel)⟩
theorem k_L_40 : jLnk RL 40 yX5_isHighWater := wg_of 500 (by decide +kernel) (by decide +kernel)
theorem m_X5_isHighWater : jMeth yX5_isHighWater cX5_isHighWater 4 (some .boolean) 3 := ⟨wg_of 503 (by decide +kernel) (by decide +kernel), wg_of 44 (by decide +kernel) (by decide +kernel), by decide, by decide, by decide⟩
theorem v_X5_isHighWater : jVirt yX5_isHighWater := ⟨wg_of 501 (by decide +kernel) (by decide +kernel), wg_of 502 (by decide +kernel) (by decide +kernel)⟩
theorem k_L_44 : jLnk RL 44 yX5_minutesToHighWater := wg_of 507 (by decide +kernel) (by decide +kernel)
theorem m_X5_minutesToHighWater : jMeth yX5_minutesToHighWater cX5_minutesToHighWater 5 (some .int) 3 := ⟨wg_of 510 (by decide +kernel) (by decide +kernel), wg_of 44 (by decide +kernel) (by decide +kernel), by decide, by decide, by decide⟩
theorem v_X5_minutesToHighWater : jVirt yX5_minutesToHighWater := ⟨wg_of 508 (by decide +kernel) (by decide +kernel), wg_of 509 (by decide +kernel) (by decide +kernel)⟩
theorem k_L_47 : jLnk RL 47 yX5_report := wg_of 515 (by decide +kernel) (by decide +kernel)
theorem m_X5_report : jMeth yX5_report cX5_report 5 (some .int) 3 := ⟨wg_of 518 (by decide +kernel) (by decide +kernel), wg_of 44 (by decide +kernel) (by decide +kernel), by decide, by decide, by decide⟩
theorem v_X5_report : jVirt yX5_report := ⟨wg_of 516 (by decide +kernel) (by decide +kernel), wg_of 517 (by decide +kernel) (by decide +kernel)⟩
theorem k_L_50 : jLnk RL 50 yX5_observe := wg_of 542 (by decide +kernel) (by decide +kernel)
theorem m_X5_observe : jMeth yX5_observe cX5_observe 4 (some .int) 2 := ⟨wg_of 545 (by decide +kernel) (by decide +kernel), wg_of 44 (by decide +kernel) (by decide +kernel), by decide, by decide, by decide⟩
theorem v_X5_observe : jVirt yX5_observe := ⟨wg_of 543 (by decide +kernel) (by decide +kernel), wg_of 544 (by decide +kernel) (by decide +kernel)⟩
theorem k_L_53 : jLnk RL 53 yX5_correctionOf := wg_of 564 (by decide +kernel) (by decide +kernel)
theorem m_X5_correctionOf : jMeth yX5_correctionOf cX5_correctionOf 2 (some .int) 1 := ⟨wg_of 567 (by decide +kernel) (by decide +kernel), wg_of 44 (by decide +kernel) (by decide +kernel), by decide, by decide, by decide⟩
theorem v_X5_correctionOf : jVirt yX5_correctionOf := ⟨wg_of 565 (by decide +kernel) (by decide +kernel), wg_of 566 (by decide +kernel) (by decide +kernel)⟩
theorem k_L_56 : jLnk RL 56 yX5_trustOf := wg_of 571 (by decide +kernel) (by decide +kernel)
theorem m_X5_trustOf : jMeth yX5_trustOf cX5_trustOf 2 (some .int) 1 := ⟨wg_of 574 (by decide +kernel) (by decide +kernel), wg_of 44 (by decide +kernel) (by decide +kernel), by decide, by decide, by decide⟩
theorem v_X5_trustOf : jVirt yX5_trustOf := ⟨wg_of 572 (by decide +kernel) (by decide +kernel), wg_of 573 (by decide +kernel) (by decide +kernel)⟩
theorem k_L_59 : jLnk RL 59 yX5_reportCount := wg_of 578 (by decide +kernel) (by decide +kernel)
theorem m_X5_reportCount : jMeth yX5_reportCount cX5_reportCount 2 (some .int) 1 := ⟨wg_of 581 (by decide +kernel) (by decide +kernel), wg_of 44 (by decide +kernel) (by decide +kernel), by decide, by decide, by decide⟩
theorem v_X5_reportCount : jVirt yX5_reportCount := ⟨wg_of 579 (by decide +kernel) (by decide +kernel), wg_of 580 (by decide +kernel) (by decide +kernel)⟩
theorem k_L_62 : jLnk RL 62 yX5_reporterAt := wg_of 586 (by decide +kernel) (by decide +kernel)
theorem m_X5_reporterAt : jMeth yX5_reporterAt cX5_reporterAt 4 (some .int) 2 := ⟨wg_of 589 (by decide +kernel) (by decide +kernel), wg_of 44 (by decide +kernel) (by decide +kernel), by decide, by decide, by decide⟩
theorem v_X5_reporterAt : jVirt yX5_reporterAt := ⟨wg_of 587 (by decide +kernel) (by decide +kernel), wg_of 588 (by decide +kernel) (by decide +kernel)⟩
theorem k_L_67 : jLnk RL 67 yX5_reportedMinutes := wg_of 609 (by decide +kernel) (by decide +kernel)
theorem m_X5_reportedMinutes : jMeth yX5_reportedMinutes cX5_reportedMinutes 4 (some .int) 2 := ⟨wg_of 612 (by decide +kernel) (by decide +kernel), wg_of 44 (by decide +kernel) (by decide +kernel), by decide, by decide, by decide⟩
theorem v_X5_reportedMinutes : jVirt yX5_reportedMinutes := ⟨wg_of 610 (by decide +kernel) (by decide +kernel), wg_of 611 (by decide +kernel) (by decide +kernel)⟩
theorem k_L_70 : jLnk RL 70 yX5_reportAge := wg_of 621 (by decide +kernel) (by decide +kernel)
theorem m_X5_reportAge : jMeth yX5_reportAge cX5_reportAge 4 (some .int) 2 := ⟨wg_of 624 (by decide +kernel) (by decide +kernel), wg_of 44 (by decide +kernel) (by decide +kernel), by decide, by decide, by decide⟩
theorem v_X5_reportAge : jVirt yX5_reportAge := ⟨wg_of 622 (by decide +kernel) (by decide +kernel), wg_of 623 (by decide +kernel) (by decide +kernel)⟩
theorem k_L_73 : jLnk RL 73 yX5_deliverTin := wg_of 628 (by decide +kernel) (by decide +kernel)
theorem m_X5_deliverTin : jMeth yX5_deliverTin cX5_deliverTin 4 (some .int) 2 := ⟨wg_of 631 (by decide +kernel) (by decide +kernel), wg_of 44 (by decide +kernel) (by decide +kernel), by decide, by decide, by decide⟩
theorem v_X5_deliverTin : jVirt yX5_deliverTin := ⟨wg_of 629 (by decide +kernel) (by decide +kernel), wg_of 630 (by decide +kernel) (by decide +kernel)⟩
theorem k_L_76 : jLnk RL 76 yX5_tinCount := wg_of 644 (by decide +kernel) (by decide +kernel)
theorem m_X5_tinCount : jMeth yX5_tinCount cX5_tinCount 2 (some .int) 1 := ⟨wg_of 647 (by decide +kernel) (by decide +kernel), wg_of 44 (by decide +kernel) (by decide +kernel), by decide, by decide, by decide⟩
theorem v_X5_tinCount : jVirt yX5_tinCount := ⟨wg_of 645 (by decide +kernel) (by decide +kernel), wg_of 646 (by decide +kernel) (by decide +kernel)⟩
theorem k_L_79 : jLnk RL 79 yX5_paintLeft := wg_of 651 (by decide +kernel) (by decide +kernel)
theorem m_X5_paintLeft : jMeth yX5_paintLeft cX5_paintLeft 3 (some .int) 1 := ⟨wg_of 654 (by decide +kernel) (by decide +kernel), wg_of 44 (by decide +kernel) (by decide +kernel), by decide, by decide, by decide⟩
theorem v_X5_paintLeft : jVirt yX5_paintLeft := ⟨wg_of 652 (by decide +kernel) (by decide +kernel), wg_of 653 (by decide +kernel) (by decide +kernel)⟩
theorem k_L_82 : jLnk RL 82 yX5_oldestTin := wg_of 662 (by decide +kernel) (by decide +kernel)
theorem m_X5_oldestTin : jMeth yX5_oldestTin cX5_oldestTin 3 (some .int) 1 := ⟨wg_of 665 (by decide +kernel) (by decide +kernel), wg_of 44 (by decide +kernel) (by decide +kernel), by decide, by decide, by decide⟩
theorem v_X5_oldestTin : jVirt yX5_oldestTin := ⟨wg_of 663 (by decide +kernel) (by decide +kernel), wg_of 664 (by decide +kernel) (by decide +kernel)⟩
theorem k_L_85 : jLnk RL 85 yX5_order := wg_of 670 (by decide +kernel) (by decide +kernel)
theorem m_X5_order : jMeth yX5_order cX5_order 3 (some .int) 2 := ⟨wg_of 673 (by decide +kernel) (by decide +kernel), wg_of 44 (by decide +kernel) (by decide +kernel), by decide, by decide, by decide⟩
theorem v_X5_order : jVirt yX5_order := ⟨wg_of 671 (by decide +kernel) (by decide +kernel), wg_of 672 (by decide +kernel) (by decide +kernel)⟩
theorem k_L_88 : jLnk RL 88 yX5_cancelOrder := wg_of 686 (by decide +kernel) (by decide +kernel)
theorem m_X5_cancelOrder : jMeth yX5_cancelOrder cX5_cancelOrder 3 (some .int) 1 := ⟨wg_of 689 (by decide +kernel) (by decide +kernel), wg_of 44 (by decide +kernel) (by decide +kernel), by decide, by decide, by decide⟩
theorem v_X5_cancelOrder : jVirt yX5_cancelOrder := ⟨wg_of 687 (by decide +kernel) (by decide +kernel), wg_of 688 (by decide +kernel) (by decide +kernel)⟩
theorem k_L_91 : jLnk RL 91 yX5_waitingPier := wg_of 694 (by decide +kernel) (by decide +kernel)
theorem m_X5_waitingPier : jMeth yX5_waitingPier cX5_waitingPier 3 (some .int) 1 := ⟨wg_of 697 (by decide +kernel) (by decide +kernel), wg_of 44 (by decide +kernel) (by decide +kernel), by decide, by decide, by decide⟩
theorem v_X5_waitingPier : jVirt yX5_waitingPier := ⟨wg_of 695 (by decide +kernel) (by decide +kernel), wg_of 696 (by decide +kernel) (by decide +kernel)⟩
theorem k_L_94 : jLnk RL 94 yX5_paint := wg_of 705 (by decide +kernel) (by decide +kernel)
theorem m_X5_paint : jMeth yX5_paint cX5_paint 3 (some .int) 1 := ⟨wg_of 708 (by decide +kernel) (by decide +kernel), wg_of 44 (by decide +kernel) (by decide +kernel), by decide, by decide, by decide⟩
theorem v_X5_paint : jVirt yX5_paint := ⟨wg_of 706 (by decide +kernel) (by decide +kernel), wg_of 707 (by decide +kernel) (by decide +kernel)⟩
theorem k_L_97 : jLnk RL 97 yX5_giveUpJob := wg_of 754 (by decide +kernel) (by decide +kernel)
theorem m_X5_giveUpJob : jMeth yX5_giveUpJob cX5_giveUpJob 2 (some .int) 0 := ⟨wg_of 757 (by decide +kernel) (by decide +kernel), wg_of 44 (by decide +kernel) (by decide +kernel), by decide, by decide, by decide⟩
theorem v_X5_giveUpJob : jVirt yX5_giveUpJob := ⟨wg_of 755 (by decide +kernel) (by decide +kernel), wg_of 756 (by decide +kernel) (by decide +kernel)⟩
theorem k_L_101 : jLnk RL 101 yX5_touchUp := wg_of 762 (by decide +kernel) (by decide +kernel)
theorem m_X5_touchUp : jMeth yX5_touchUp cX5_touchUp 4 (some .int) 1 := ⟨wg_of 765 (by decide +kernel) (by decide +kernel), wg_of 44 (by decide +kernel) (by decide +kernel), by decide, by decide, by decide⟩
theorem v_X5_touchUp : jVirt yX5_touchUp := ⟨wg_of 763 (by decide +kernel) (by decide +kernel), wg_of 764 (by decide +kernel) (by decide +kernel)⟩
theorem k_L_104 : jLnk RL 104 yX5_boardDay := wg_of 775 (by decide +kernel) (by decide +kernel)
theorem m_X5_boardDay : jMeth yX5_boardDay cX5_boardDay 2 (some .int) 1 := ⟨wg_of 778 (by decide +kernel) (by decide +kernel), wg_of 44 (by decide +kernel) (by decide +kernel), by decide, by decide, by decide⟩
theorem v_X5_boardDay : jVirt yX5_boardDay := ⟨wg_of 776 (by decide +kernel) (by decide +kernel), wg_of 777 (by decide +kernel) (by decide +kernel)⟩
theorem k_L_107 : jLnk RL 107 yX5_lineCount := wg_of 782 (by decide +kernel) (by decide +kernel)
theorem m_X5_lineCount : jMeth yX5_lineCount cX5_lineCount 2 (some .int) 1 := ⟨wg_of 785 (by decide +kernel) (by decide +kernel), wg_of 44 (by decide +kernel) (by decide +kernel), by decide, by decide, by decide⟩
theorem v_X5_lineCount : jVirt yX5_lineCount := ⟨wg_of 783 (by decide +kernel) (by decide +kernel), wg_of 784 (by decide +kernel) (by decide +kernel)⟩
theorem k_L_110 : jLnk RL 110 yX5_lineState := wg_of 789 (by decide +kernel) (by decide +kernel)
theorem m_X5_lineState : jMeth yX5_lineState cX5_lineState 3 (some .int) 2 := ⟨wg_of 792 (by decide +kernel) (by decide +kernel), wg_of 44 (by decide +kernel) (by decide +kernel), by decide, by decide, by decide⟩
theorem v_X5_lineState : jVirt yX5_lineState := ⟨wg_of 790 (by decide +kernel) (by decide +kernel), wg_of 791 (by decide +kernel) (by decide +kernel)⟩
theorem k_L_113 : jLnk RL 113 yX5_lineMinute := wg_of 801 (by decide +kernel) (by decide +kernel)
theorem m_X5_lineMinute : jMeth yX5_lineMinute cX5_lineMinute 3 (some .int) 2 := ⟨wg_of 804 (by decide +kernel) (by decide +kernel), wg_of 44 (by decide +kernel) (by decide +kernel), by decide, by decide, by decide⟩
theorem v_X5_lineMinute : jVirt yX5_lineMinute := ⟨wg_of 802 (by decide +kernel) (by decide +kernel), wg_of 803 (by decide +kernel) (by decide +kernel)⟩
theorem k_L_116 : jLnk RL 116 yX5_lineHeight := wg_of 813 (by decide +kernel) (by decide +kernel)
theorem m_X5_lineHeight : jMeth yX5_lineHeight cX5_lineHeight 3 (some .int) 2 := ⟨wg_of 816 (by decide +kernel) (by decide +kernel), wg_of 44 (by decide +kernel) (by decide +kernel), by decide, by decide, by decide⟩
theorem v_X5_lineHeight : jVirt yX5_lineHeight := ⟨wg_of 814 (by decide +kernel) (by decide +kernel), wg_of 815 (by decide +kernel) (by decide +kernel)⟩
theorem k_L_119 : jLnk RL 119 yX5_dripsOf := wg_of 820 (by decide +kernel) (by decide +kernel)
theorem m_X5_dripsOf : jMeth yX5_dripsOf cX5_dripsOf 2 (some .int) 1 := ⟨wg_of 823 (by decide +kernel) (by decide +kernel), wg_of 44 (by decide +kernel) (by decide +kernel), by decide, by decide, by decide⟩
theorem v_X5_dripsOf : jVirt yX5_dripsOf := ⟨wg_of 821 (by decide +kernel) (by decide +kernel), wg_of 822 (by decide +kernel) (by decide +kernel)⟩
theorem k_L_122 : jLnk RL 122 yX5_unreadableLines := wg_of 827 (by decide +kernel) (by decide +kernel)
theorem m_X5_unreadableLines : jMeth yX5_unreadableLines cX5_unreadableLines 2 (some .int) 1 := ⟨wg_of 830 (by decide +kernel) (by decide +kernel), wg_of 44 (by decide +kernel) (by decide +kernel), by decide, by decide, by decide⟩
theorem v_X5_unreadableLines : jVirt yX5_unreadableLines := ⟨wg_of 828 (by decide +kernel) (by decide +kernel), wg_of 829 (by decide +kernel) (by decide +kernel)⟩
theorem k_L_125 : jLnk RL 125 yX5_isRight := wg_of 834 (by decide +kernel) (by decide +kernel)
theorem m_X5_isRight : jMeth yX5_isRight cX5_isRight 2 (some .boolean) 1 := ⟨wg_of 837 (by decide +kernel) (by decide +kernel), wg_of 44 (by decide +kernel) (by decide +kernel), by decide, by decide, by decide⟩
theorem v_X5_isRight : jVirt yX5_isRight := ⟨wg_of 835 (by decide +kernel) (by decide +kernel), wg_of 836 (by decide +kernel) (by decide +kernel)⟩
theorem cl_L_8 : Cond.classLink RL 8 RX5 ∈ WG := wg_of 59 (by decide +kernel) (by decide +kernel)
theorem in_X5 : Cond.instantiable RX5 11 ∈ WG := wg_of 60 (by decide +kernel) (by decide +kernel)
theorem ii_X5 : Cond.initialized RX5 ∈ WG := wg_of 44 (by decide +kernel) (by decide +kernel)
theorem k_L_129 : jLnk RL 129 yX5_init := wg_of 61 (by decide +kernel) (by decide +kernel)
theorem m_X5_init : jMeth yX5_init cX5_init 2 none 0 := ⟨wg_of 63 (by decide +kernel) (by decide +kernel), wg_of 44 (by decide +kernel) (by decide +kernel), by decide, by decide, by decide⟩
theorem i_X5_init : Cond.instanceMethod yX5_init ∈ WG := wg_of 62 (by decide +kernel) (by decide +kernel)
theorem cl_L_130 : Cond.classLink RL 130 RX6 ∈ WG := wg_of 838 (by decide +kernel) (by decide +kernel)
theorem in_X6 : Cond.instantiable RX6 32 ∈ WG := wg_of 839 (by decide +kernel) (by decide +kernel)
theorem ii_X6 : Cond.initialized RX6 ∈ WG := wg_of 47 (by decide +kernel) (by decide +kernel)
theorem k_L_132 : jLnk RL 132 yX6_init := wg_of 840 (by decide +kernel) (by decide +kernel)
theorem m_X6_init : jMeth yX6_init cX6_init 1 none 0 := ⟨wg_of 842 (by decide +kernel) (by decide +kernel), wg_of 47 (by decide +kernel) (by decide +kernel), by decide, by decide, by decide⟩
theorem i_X6_init : Cond.instanceMethod yX6_init ∈ WG := wg_of 841 (by decide +kernel) (by decide +kernel)
theorem k_L_133 : jLnk RL 133 yL_addPier := wg_of 225 (by decide +kernel) (by decide +kernel)
theorem k_L_138 : jLnk RL 138 yX6_addPier := wg_of 945 (by decide +kernel) (by decide +kernel)
theorem m_X6_addPier : jMeth yX6_addPier cX6_addPier 8 (some .int) 5 := ⟨wg_of 948 (by decide +kernel) (by decide +kernel), wg_of 47 (by decide +kernel) (by decide +kernel), by decide, by decide, by decide⟩
theorem v_X6_addPier : jVirt yX6_addPier := ⟨wg_of 946 (by decide +kernel) (by decide +kernel), wg_of 947 (by decide +kernel) (by decide +kernel)⟩
theorem k_L_139 : jLnk RL 139 yX6_thrown := wg_of 941 (by decide +kernel) (by decide +kernel)
theorem m_X6_thrown : jMeth yX6_thrown cX6_thrown 1 (some .int) 0 := ⟨wg_of 944 (by decide +kernel) (by decide +kernel), wg_of 47 (by decide +kernel) (by decide +kernel), by decide, by decide, by decide⟩
theorem v_X6_thrown : jVirt yX6_thrown := ⟨wg_of 942 (by decide +kernel) (by decide +kernel), wg_of 943 (by decide +kernel) (by decide +kernel)⟩
theorem k_L_142 : jLnk RL 142 yX5_pierCount := wg_of 148 (by decide +kernel) (by decide +kernel)
theorem m_X5_pierCount : jMeth yX5_pierCount cX5_pierCount 1 (some .int) 0 := ⟨wg_of 151 (by decide +kernel) (by decide +kernel), wg_of 44 (by decide +kernel) (by decide +kernel), by decide, by decide, by decide⟩
theorem v_X5_pierCount : jVirt yX5_pierCount := ⟨wg_of 149 (by decide +kernel) (by decide +kernel), wg_of 150 (by decide +kernel) (by decide +kernel)⟩
theorem k_L_145 : jLnk RL 145 yX6_pierCount := wg_of 960 (by decide +kernel) (by decide +kernel)
theorem m_X6_pierCount : jMeth yX6_pierCount cX6_pierCount 1 (some .int) 0 := ⟨wg_of 963 (by decide +kernel) (by decide +kernel), wg_of 47 (by decide +kernel) (by decide +kernel), by decide, by decide, by decide⟩
theorem v_X6_pierCount : jVirt yX6_pierCount := ⟨wg_of 961 (by decide +kernel) (by decide +kernel), wg_of 962 (by decide +kernel) (by decide +kernel)⟩
theorem k_L_146 : jLnk RL 146 yX5_today := wg_of 152 (by decide +kernel) (by decide +kernel)
theorem m_X5_today : jMeth yX5_today cX5_today 1 (some .int) 0 := ⟨wg_of 155 (by decide +kernel) (by decide +kernel), wg_of 44 (by decide +kernel) (by decide +kernel), by decide, by decide, by decide⟩
theorem v_X5_today : jVirt yX5_today := ⟨wg_of 153 (by decide +kernel) (by decide +kernel), wg_of 154 (by decide +kernel) (by decide +kernel)⟩
theorem k_L_149 : jLnk RL 149 yX6_today := wg_of 964 (by decide +kernel) (by decide +kernel)
theorem m_X6_today : jMeth yX6_today cX6_today 1 (some .int) 0 := ⟨wg_of 967 (by decide +kernel) (by decide +kernel), wg_of 47 (by decide +kernel) (by decide +kernel), by decide, by decide, by decide⟩
theorem v_X6_today : jVirt yX6_today := ⟨wg_of 965 (by decide +kernel) (by decide +kernel), wg_of 966 (by decide +kernel) (by decide +kernel)⟩
theorem k_L_150 : jLnk RL 150 yL_passDays := wg_of 407 (by decide +kernel) (by decide +kernel)
theorem k_L_153 : jLnk RL 153 yX6_passDays := wg_of 968 (by decide +kernel) (by decide +kernel)
theorem m_X6_passDays : jMeth yX6_passDays cX6_passDays 3 (some .int) 1 := ⟨wg_of 971 (by decide +kernel) (by decide +kernel), wg_of 47 (by decide +kernel) (by decide +kernel), by decide, by decide, by decide⟩
theorem v_X6_passDays : jVirt yX6_passDays := ⟨wg_of 969 (by decide +kernel) (by decide +kernel), wg_of 970 (by decide +kernel) (by decide +kernel)⟩
theorem k_L_154 : jLnk RL 154 yL_moonAge := wg_of 426 (by decide +kernel) (by decide +kernel)
theorem k_L_156 : jLnk RL 156 yX6_moonAge := wg_of 980 (by decide +kernel) (by decide +kernel)
theorem m_X6_moonAge : jMeth yX6_moonAge cX6_moonAge 2 (some .int) 1 := ⟨wg_of 983 (by decide +kernel) (by decide +kernel), wg_of 47 (by decide +kernel) (by decide +kernel), by decide, by decide, by decide⟩
theorem v_X6_moonAge : jVirt yX6_moonAge := ⟨wg_of 981 (by decide +kernel) (by decide +kernel), wg_of 982 (by decide +kernel) (by decide +kernel)⟩
theorem k_L_157 : jLnk RL 157 yL_rangeOf := wg_of 438 (by decide +kernel) (by decide +kernel)
theorem k_L_160 : jLnk RL 160 yX6_rangeOf := wg_of 991 (by decide +kernel) (by decide +kernel)
theorem m_X6_rangeOf : jMeth yX6_rangeOf cX6_rangeOf 3 (some .int) 2 := ⟨wg_of 994 (by decide +kernel) (by decide +kernel), wg_of 47 (by decide +kernel) (by decide +kernel), by decide, by decide, by decide⟩
theorem v_X6_rangeOf : jVirt yX6_rangeOf := ⟨wg_of 992 (by decide +kernel) (by decide +kernel), wg_of 993 (by decide +kernel) (by decide +kernel)⟩
theorem k_L_161 : jLnk RL 161 yL_waterCount := wg_of 471 (by decide +kernel) (by decide +kernel)
theorem k_L_163 : jLnk RL 163 yX6_waterCount := wg_of 1004 (by decide +kernel) (by decide +kernel)
theorem m_X6_waterCount : jMeth yX6_waterCount cX6_waterCount 3 (some .int) 2 := ⟨wg_of 1007 (by decide +kernel) (by decide +kernel), wg_of 47 (by decide +kernel) (by decide +kernel), by decide, by decide, by decide⟩
theorem v_X6_waterCount : jVirt yX6_waterCount := ⟨wg_of 1005 (by decide +kernel) (by decide +kernel), wg_of 1006 (by decide +kernel) (by decide +kernel)⟩
theorem k_L_164 : jLnk RL 164 yL_waterMinute := wg_of 478 (by decide +kernel) (by decide +kernel)
theorem k_L_167 : jLnk RL 167 yX6_waterMinute := wg_of 1020 (by decide +kernel) (by decide +kernel)
theorem m_X6_waterMinute : jMeth yX6_waterMinute cX6_waterMinute 4 (some .int) 3 := ⟨wg_of 1023 (by decide +kernel) (by decide +kernel), wg_of 47 (by decide +kernel) (by decide +kernel), by decide, by decide, by decide⟩
theorem v_X6_waterMinute : jVirt yX6_waterMinute := ⟨wg_of 1021 (by decide +kernel) (by decide +kernel), wg_of 1022 (by decide +kernel) (by decide +kernel)⟩
theorem k_L_168 : jLnk RL 168 yL_waterHeight := wg_of 490 (by decide +kernel) (by decide +kernel)
theorem k_L_170 : jLnk RL 170 yX6_waterHeight := wg_of 1028 (by decide +kernel) (by decide +kernel)
theorem m_X6_waterHeight : jMeth yX6_waterHeight cX6_waterHeight 4 (some .int) 3 := ⟨wg_of 1031 (by decide +kernel) (by decide +kernel), wg_of 47 (by decide +kernel) (by decide +kernel), by decide, by decide, by decide⟩
theorem v_X6_waterHeight : jVirt yX6_waterHeight := ⟨wg_of 1029 (by decide +kernel) (by decide +kernel), wg_of 1030 (by decide +kernel) (by decide +kernel)⟩
theorem k_L_171 : jLnk RL 171 yL_isHighWater := wg_of 497 (by decide +kernel) (by decide +kernel)
theorem k_L_173 : jLnk RL 173 yX6_isHighWater := wg_of 1036 (by decide +kernel) (by decide +kernel)
theorem m_X6_isHighWater : jMeth yX6_isHighWater cX6_isHighWater 4 (some .boolean) 3 := ⟨wg_of 1039 (by decide +kernel) (by decide +kernel), wg_of 47 (by decide +kernel) (by decide +kernel), by decide, by decide, by decide⟩
theorem v_X6_isHighWater : jVirt yX6_isHighWater := ⟨wg_of 1037 (by decide +kernel) (by decide +kernel), wg_of 1038 (by decide +kernel) (by decide +kernel)⟩
theorem k_L_174 : jLnk RL 174 yL_minutesToHighWater := wg_of 504 (by decide +kernel) (by decide +kernel)
theorem k_L_176 : jLnk RL 176 yX6_minutesToHighWater := wg_of 1040 (by decide +kernel) (by decide +kernel)
end
section
theorem m_X6_minutesToHighWater : jMeth yX6_minutesToHighWater cX6_minutesToHighWater 5 (some .int) 3 := ⟨wg_of 1043 (by decide +kernel) (by decide +kernel), wg_of 47 (by decide +kernel) (by decide +kernel), by decide, by decide, by decide⟩
theorem v_X6_minutesToHighWater : jVirt yX6_minutesToHighWater := ⟨wg_of 1041 (by decide +kernel) (by decide +kernel), wg_of 1042 (by decide +kernel) (by decide +kernel)⟩
theorem k_L_177 : jLnk RL 177 yL_report := wg_of 512 (by decide +kernel) (by decide +kernel)
theorem k_L_179 : jLnk RL 179 yX6_report := wg_of 1044 (by decide +kernel) (by decide +kernel)
theorem m_X6_report : jMeth yX6_report cX6_report 5 (some .int) 3 := ⟨wg_of 1047 (by decide +kernel) (by decide +kernel), wg_of 47 (by decide +kernel) (by decide +kernel), by decide, by decide, by decide⟩
theorem v_X6_report : jVirt yX6_report := ⟨wg_of 1045 (by decide +kernel) (by decide +kernel), wg_of 1046 (by decide +kernel) (by decide +kernel)⟩
theorem k_L_180 : jLnk RL 180 yL_observe := wg_of 539 (by decide +kernel) (by decide +kernel)
theorem k_L_182 : jLnk RL 182 yX6_observe := wg_of 1056 (by decide +kernel) (by decide +kernel)
theorem m_X6_observe : jMeth yX6_observe cX6_observe 7 (some .int) 2 := ⟨wg_of 1059 (by decide +kernel) (by decide +kernel), wg_of 47 (by decide +kernel) (by decide +kernel), by decide, by decide, by decide⟩
theorem v_X6_observe : jVirt yX6_observe := ⟨wg_of 1057 (by decide +kernel) (by decide +kernel), wg_of 1058 (by decide +kernel) (by decide +kernel)⟩
theorem k_L_183 : jLnk RL 183 yL_correctionOf := wg_of 561 (by decide +kernel) (by decide +kernel)
theorem k_L_185 : jLnk RL 185 yX6_correctionOf := wg_of 1062 (by decide +kernel) (by decide +kernel)
theorem m_X6_correctionOf : jMeth yX6_correctionOf cX6_correctionOf 2 (some .int) 1 := ⟨wg_of 1065 (by decide +kernel) (by decide +kernel), wg_of 47 (by decide +kernel) (by decide +kernel), by decide, by decide, by decide⟩
theorem v_X6_correctionOf : jVirt yX6_correctionOf := ⟨wg_of 1063 (by decide +kernel) (by decide +kernel), wg_of 1064 (by decide +kernel) (by decide +kernel)⟩
theorem k_L_186 : jLnk RL 186 yL_trustOf := wg_of 568 (by decide +kernel) (by decide +kernel)
theorem k_L_188 : jLnk RL 188 yX6_trustOf := wg_of 1066 (by decide +kernel) (by decide +kernel)
theorem m_X6_trustOf : jMeth yX6_trustOf cX6_trustOf 2 (some .int) 1 := ⟨wg_of 1069 (by decide +kernel) (by decide +kernel), wg_of 47 (by decide +kernel) (by decide +kernel), by decide, by decide, by decide⟩
theorem v_X6_trustOf : jVirt yX6_trustOf := ⟨wg_of 1067 (by decide +kernel) (by decide +kernel), wg_of 1068 (by decide +kernel) (by decide +kernel)⟩
theorem k_L_189 : jLnk RL 189 yL_reportCount := wg_of 575 (by decide +kernel) (by decide +kernel)
theorem k_L_191 : jLnk RL 191 yX6_reportCount := wg_of 1070 (by decide +kernel) (by decide +kernel)
theorem m_X6_reportCount : jMeth yX6_reportCount cX6_reportCount 2 (some .int) 1 := ⟨wg_of 1073 (by decide +kernel) (by decide +kernel), wg_of 47 (by decide +kernel) (by decide +kernel), by decide, by decide, by decide⟩
theorem v_X6_reportCount : jVirt yX6_reportCount := ⟨wg_of 1071 (by decide +kernel) (by decide +kernel), wg_of 1072 (by decide +kernel) (by decide +kernel)⟩
theorem k_L_192 : jLnk RL 192 yL_reporterAt := wg_of 582 (by decide +kernel) (by decide +kernel)
theorem k_L_194 : jLnk RL 194 yX6_reporterAt := wg_of 1074 (by decide +kernel) (by decide +kernel)
theorem m_X6_reporterAt : jMeth yX6_reporterAt cX6_reporterAt 3 (some .int) 2 := ⟨wg_of 1077 (by decide +kernel) (by decide +kernel), wg_of 47 (by decide +kernel) (by decide +kernel), by decide, by decide, by decide⟩
theorem v_X6_reporterAt : jVirt yX6_reporterAt := ⟨wg_of 1075 (by decide +kernel) (by decide +kernel), wg_of 1076 (by decide +kernel) (by decide +kernel)⟩
theorem k_L_195 : jLnk RL 195 yL_reportedMinutes := wg_of 606 (by decide +kernel) (by decide +kernel)
theorem k_L_197 : jLnk RL 197 yX6_reportedMinutes := wg_of 1078 (by decide +kernel) (by decide +kernel)
theorem m_X6_reportedMinutes : jMeth yX6_reportedMinutes cX6_reportedMinutes 3 (some .int) 2 := ⟨wg_of 1081 (by decide +kernel) (by decide +kernel), wg_of 47 (by decide +kernel) (by decide +kernel), by decide, by decide, by decide⟩
theorem v_X6_reportedMinutes : jVirt yX6_reportedMinutes := ⟨wg_of 1079 (by decide +kernel) (by decide +kernel), wg_of 1080 (by decide +kernel) (by decide +kernel)⟩
theorem k_L_198 : jLnk RL 198 yL_reportAge := wg_of 618 (by decide +kernel) (by decide +kernel)
theorem k_L_200 : jLnk RL 200 yX6_reportAge := wg_of 1086 (by decide +kernel) (by decide +kernel)
theorem m_X6_reportAge : jMeth yX6_reportAge cX6_reportAge 3 (some .int) 2 := ⟨wg_of 1089 (by decide +kernel) (by decide +kernel), wg_of 47 (by decide +kernel) (by decide +kernel), by decide, by decide, by decide⟩
theorem v_X6_reportAge : jVirt yX6_reportAge := ⟨wg_of 1087 (by decide +kernel) (by decide +kernel), wg_of 1088 (by decide +kernel) (by decide +kernel)⟩
theorem k_L_201 : jLnk RL 201 yL_deliverTin := wg_of 625 (by decide +kernel) (by decide +kernel)
theorem k_L_203 : jLnk RL 203 yX6_deliverTin := wg_of 1090 (by decide +kernel) (by decide +kernel)
theorem m_X6_deliverTin : jMeth yX6_deliverTin cX6_deliverTin 3 (some .int) 2 := ⟨wg_of 1093 (by decide +kernel) (by decide +kernel), wg_of 47 (by decide +kernel) (by decide +kernel), by decide, by decide, by decide⟩
theorem v_X6_deliverTin : jVirt yX6_deliverTin := ⟨wg_of 1091 (by decide +kernel) (by decide +kernel), wg_of 1092 (by decide +kernel) (by decide +kernel)⟩
theorem k_L_204 : jLnk RL 204 yL_tinCount := wg_of 641 (by decide +kernel) (by decide +kernel)
theorem k_L_206 : jLnk RL 206 yX6_tinCount := wg_of 1094 (by decide +kernel) (by decide +kernel)
theorem m_X6_tinCount : jMeth yX6_tinCount cX6_tinCount 2 (some .int) 1 := ⟨wg_of 1097 (by decide +kernel) (by decide +kernel), wg_of 47 (by decide +kernel) (by decide +kernel), by decide, by decide, by decide⟩
theorem v_X6_tinCount : jVirt yX6_tinCount := ⟨wg_of 1095 (by decide +kernel) (by decide +kernel), wg_of 1096 (by decide +kernel) (by decide +kernel)⟩
theorem k_L_207 : jLnk RL 207 yL_paintLeft := wg_of 648 (by decide +kernel) (by decide +kernel)
theorem k_L_209 : jLnk RL 209 yX6_paintLeft := wg_of 1102 (by decide +kernel) (by decide +kernel)
theorem m_X6_paintLeft : jMeth yX6_paintLeft cX6_paintLeft 4 (some .int) 1 := ⟨wg_of 1105 (by decide +kernel) (by decide +kernel), wg_of 47 (by decide +kernel) (by decide +kernel), by decide, by decide, by decide⟩
theorem v_X6_paintLeft : jVirt yX6_paintLeft := ⟨wg_of 1103 (by decide +kernel) (by decide +kernel), wg_of 1104 (by decide +kernel) (by decide +kernel)⟩
theorem k_L_210 : jLnk RL 210 yL_oldestTin := wg_of 659 (by decide +kernel) (by decide +kernel)
theorem k_L_212 : jLnk RL 212 yX6_oldestTin := wg_of 1106 (by decide +kernel) (by decide +kernel)
theorem m_X6_oldestTin : jMeth yX6_oldestTin cX6_oldestTin 2 (some .int) 1 := ⟨wg_of 1109 (by decide +kernel) (by decide +kernel), wg_of 47 (by decide +kernel) (by decide +kernel), by decide, by decide, by decide⟩
theorem v_X6_oldestTin : jVirt yX6_oldestTin := ⟨wg_of 1107 (by decide +kernel) (by decide +kernel), wg_of 1108 (by decide +kernel) (by decide +kernel)⟩
theorem k_L_213 : jLnk RL 213 yX5_paintUsed := wg_of 156 (by decide +kernel) (by decide +kernel)
theorem m_X5_paintUsed : jMeth yX5_paintUsed cX5_paintUsed 1 (some .int) 0 := ⟨wg_of 159 (by decide +kernel) (by decide +kernel), wg_of 44 (by decide +kernel) (by decide +kernel), by decide, by decide, by decide⟩
theorem v_X5_paintUsed : jVirt yX5_paintUsed := ⟨wg_of 157 (by decide +kernel) (by decide +kernel), wg_of 158 (by decide +kernel) (by decide +kernel)⟩
theorem k_L_216 : jLnk RL 216 yX6_paintUsed := wg_of 1110 (by decide +kernel) (by decide +kernel)
theorem m_X6_paintUsed : jMeth yX6_paintUsed cX6_paintUsed 1 (some .int) 0 := ⟨wg_of 1113 (by decide +kernel) (by decide +kernel), wg_of 47 (by decide +kernel) (by decide +kernel), by decide, by decide, by decide⟩
theorem v_X6_paintUsed : jVirt yX6_paintUsed := ⟨wg_of 1111 (by decide +kernel) (by decide +kernel), wg_of 1112 (by decide +kernel) (by decide +kernel)⟩
theorem k_L_217 : jLnk RL 217 yX5_paintDripped := wg_of 160 (by decide +kernel) (by decide +kernel)
theorem m_X5_paintDripped : jMeth yX5_paintDripped cX5_paintDripped 1 (some .int) 0 := ⟨wg_of 163 (by decide +kernel) (by decide +kernel), wg_of 44 (by decide +kernel) (by decide +kernel), by decide, by decide, by decide⟩
theorem v_X5_paintDripped : jVirt yX5_paintDripped := ⟨wg_of 161 (by decide +kernel) (by decide +kernel), wg_of 162 (by decide +kernel) (by decide +kernel)⟩
theorem k_L_220 : jLnk RL 220 yX6_paintDripped := wg_of 1114 (by decide +kernel) (by decide +kernel)
theorem m_X6_paintDripped : jMeth yX6_paintDripped cX6_paintDripped 1 (some .int) 0 := ⟨wg_of 1117 (by decide +kernel) (by decide +kernel), wg_of 47 (by decide +kernel) (by decide +kernel), by decide, by decide, by decide⟩
theorem v_X6_paintDripped : jVirt yX6_paintDripped := ⟨wg_of 1115 (by decide +kernel) (by decide +kernel), wg_of 1116 (by decide +kernel) (by decide +kernel)⟩
theorem k_L_221 : jLnk RL 221 yX5_paintPoured := wg_of 164 (by decide +kernel) (by decide +kernel)
theorem m_X5_paintPoured : jMeth yX5_paintPoured cX5_paintPoured 1 (some .int) 0 := ⟨wg_of 167 (by decide +kernel) (by decide +kernel), wg_of 44 (by decide +kernel) (by decide +kernel), by decide, by decide, by decide⟩
theorem v_X5_paintPoured : jVirt yX5_paintPoured := ⟨wg_of 165 (by decide +kernel) (by decide +kernel), wg_of 166 (by decide +kernel) (by decide +kernel)⟩
theorem k_L_224 : jLnk RL 224 yX6_paintPoured := wg_of 1118 (by decide +kernel) (by decide +kernel)
theorem m_X6_paintPoured : jMeth yX6_paintPoured cX6_paintPoured 1 (some .int) 0 := ⟨wg_of 1121 (by decide +kernel) (by decide +kernel), wg_of 47 (by decide +kernel) (by decide +kernel), by decide, by decide, by decide⟩
theorem v_X6_paintPoured : jVirt yX6_paintPoured := ⟨wg_of 1119 (by decide +kernel) (by decide +kernel), wg_of 1120 (by decide +kernel) (by decide +kernel)⟩
theorem k_L_225 : jLnk RL 225 yL_order := wg_of 667 (by decide +kernel) (by decide +kernel)
theorem k_L_227 : jLnk RL 227 yX6_order := wg_of 1122 (by decide +kernel) (by decide +kernel)
theorem m_X6_order : jMeth yX6_order cX6_order 3 (some .int) 2 := ⟨wg_of 1125 (by decide +kernel) (by decide +kernel), wg_of 47 (by decide +kernel) (by decide +kernel), by decide, by decide, by decide⟩
theorem v_X6_order : jVirt yX6_order := ⟨wg_of 1123 (by decide +kernel) (by decide +kernel), wg_of 1124 (by decide +kernel) (by decide +kernel)⟩
theorem k_L_228 : jLnk RL 228 yL_cancelOrder := wg_of 683 (by decide +kernel) (by decide +kernel)
theorem k_L_230 : jLnk RL 230 yX6_cancelOrder := wg_of 1134 (by decide +kernel) (by decide +kernel)
theorem m_X6_cancelOrder : jMeth yX6_cancelOrder cX6_cancelOrder 3 (some .int) 1 := ⟨wg_of 1137 (by decide +kernel) (by decide +kernel), wg_of 47 (by decide +kernel) (by decide +kernel), by decide, by decide, by decide⟩
theorem v_X6_cancelOrder : jVirt yX6_cancelOrder := ⟨wg_of 1135 (by decide +kernel) (by decide +kernel), wg_of 1136 (by decide +kernel) (by decide +kernel)⟩
theorem k_L_231 : jLnk RL 231 yX5_waitingOrders := wg_of 168 (by decide +kernel) (by decide +kernel)
theorem m_X5_waitingOrders : jMeth yX5_waitingOrders cX5_waitingOrders 3 (some .int) 0 := ⟨wg_of 171 (by decide +kernel) (by decide +kernel), wg_of 44 (by decide +kernel) (by decide +kernel), by decide, by decide, by decide⟩
theorem v_X5_waitingOrders : jVirt yX5_waitingOrders := ⟨wg_of 169 (by decide +kernel) (by decide +kernel), wg_of 170 (by decide +kernel) (by decide +kernel)⟩
theorem k_L_234 : jLnk RL 234 yX6_waitingOrders := wg_of 1138 (by decide +kernel) (by decide +kernel)
theorem m_X6_waitingOrders : jMeth yX6_waitingOrders cX6_waitingOrders 3 (some .int) 0 := ⟨wg_of 1141 (by decide +kernel) (by decide +kernel), wg_of 47 (by decide +kernel) (by decide +kernel), by decide, by decide, by decide⟩
theorem v_X6_waitingOrders : jVirt yX6_waitingOrders := ⟨wg_of 1139 (by decide +kernel) (by decide +kernel), wg_of 1140 (by decide +kernel) (by decide +kernel)⟩
theorem k_L_235 : jLnk RL 235 yL_waitingPier := wg_of 691 (by decide +kernel) (by decide +kernel)
theorem k_L_237 : jLnk RL 237 yX6_waitingPier := wg_of 1142 (by decide +kernel) (by decide +kernel)
theorem m_X6_waitingPier : jMeth yX6_waitingPier cX6_waitingPier 3 (some .int) 1 := ⟨wg_of 1145 (by decide +kernel) (by decide +kernel), wg_of 47 (by decide +kernel) (by decide +kernel), by decide, by decide, by decide⟩
theorem v_X6_waitingPier : jVirt yX6_waitingPier := ⟨wg_of 1143 (by decide +kernel) (by decide +kernel), wg_of 1144 (by decide +kernel) (by decide +kernel)⟩
theorem k_L_238 : jLnk RL 238 yX5_jobPier := wg_of 172 (by decide +kernel) (by decide +kernel)
theorem m_X5_jobPier : jMeth yX5_jobPier cX5_jobPier 1 (some .int) 0 := ⟨wg_of 175 (by decide +kernel) (by decide +kernel), wg_of 44 (by decide +kernel) (by decide +kernel), by decide, by decide, by decide⟩
theorem v_X5_jobPier : jVirt yX5_jobPier := ⟨wg_of 173 (by decide +kernel) (by decide +kernel), wg_of 174 (by decide +kernel) (by decide +kernel)⟩
theorem k_L_241 : jLnk RL 241 yX6_jobPier := wg_of 1150 (by decide +kernel) (by decide +kernel)
theorem m_X6_jobPier : jMeth yX6_jobPier cX6_jobPier 1 (some .int) 0 := ⟨wg_of 1153 (by decide +kernel) (by decide +kernel), wg_of 47 (by decide +kernel) (by decide +kernel), by decide, by decide, by decide⟩
theorem v_X6_jobPier : jVirt yX6_jobPier := ⟨wg_of 1151 (by decide +kernel) (by decide +kernel), wg_of 1152 (by decide +kernel) (by decide +kernel)⟩
theorem k_L_242 : jLnk RL 242 yX5_linesToPaint := wg_of 176 (by decide +kernel) (by decide +kernel)
theorem m_X5_linesToPaint : jMeth yX5_linesToPaint cX5_linesToPaint 1 (some .int) 0 := ⟨wg_of 179 (by decide +kernel) (by decide +kernel), wg_of 44 (by decide +kernel) (by decide +kernel), by decide, by decide, by decide⟩
theorem v_X5_linesToPaint : jVirt yX5_linesToPaint := ⟨wg_of 177 (by decide +kernel) (by decide +kernel), wg_of 178 (by decide +kernel) (by decide +kernel)⟩
theorem k_L_245 : jLnk RL 245 yX6_linesToPaint := wg_of 1154 (by decide +kernel) (by decide +kernel)
theorem m_X6_linesToPaint : jMeth yX6_linesToPaint cX6_linesToPaint 1 (some .int) 0 := ⟨wg_of 1157 (by decide +kernel) (by decide +kernel), wg_of 47 (by decide +kernel) (by decide +kernel), by decide, by decide, by decide⟩
theorem v_X6_linesToPaint : jVirt yX6_linesToPaint := ⟨wg_of 1155 (by decide +kernel) (by decide +kernel), wg_of 1156 (by decide +kernel) (by decide +kernel)⟩
theorem k_L_246 : jLnk RL 246 yL_paint := wg_of 702 (by decide +kernel) (by decide +kernel)
theorem k_L_248 : jLnk RL 248 yX6_paint := wg_of 1158 (by decide +kernel) (by decide +kernel)
theorem m_X6_paint : jMeth yX6_paint cX6_paint 3 (some .int) 1 := ⟨wg_of 1161 (by decide +kernel) (by decide +kernel), wg_of 47 (by decide +kernel) (by decide +kernel), by decide, by decide, by decide⟩
theorem v_X6_paint : jVirt yX6_paint := ⟨wg_of 1159 (by decide +kernel) (by decide +kernel), wg_of 1160 (by decide +kernel) (by decide +kernel)⟩
theorem k_L_249 : jLnk RL 249 yL_giveUpJob := wg_of 751 (by decide +kernel) (by decide +kernel)
theorem k_L_252 : jLnk RL 252 yX6_giveUpJob := wg_of 1186 (by decide +kernel) (by decide +kernel)
theorem m_X6_giveUpJob : jMeth yX6_giveUpJob cX6_giveUpJob 1 (some .int) 0 := ⟨wg_of 1189 (by decide +kernel) (by decide +kernel), wg_of 47 (by decide +kernel) (by decide +kernel), by decide, by decide, by decide⟩
theorem v_X6_giveUpJob : jVirt yX6_giveUpJob := ⟨wg_of 1187 (by decide +kernel) (by decide +kernel), wg_of 1188 (by decide +kernel) (by decide +kernel)⟩
theorem k_L_253 : jLnk RL 253 yL_touchUp := wg_of 759 (by decide +kernel) (by decide +kernel)
theorem k_L_255 : jLnk RL 255 yX6_touchUp := wg_of 1190 (by decide +kernel) (by decide +kernel)
theorem m_X6_touchUp : jMeth yX6_touchUp cX6_touchUp 3 (some .int) 1 := ⟨wg_of 1193 (by decide +kernel) (by decide +kernel), wg_of 47 (by decide +kernel) (by decide +kernel), by decide, by decide, by decide⟩
theorem v_X6_touchUp : jVirt yX6_touchUp := ⟨wg_of 1191 (by decide +kernel) (by decide +kernel), wg_of 1192 (by decide +kernel) (by decide +kernel)⟩
theorem k_L_256 : jLnk RL 256 yL_boardDay := wg_of 772 (by decide +kernel) (by decide +kernel)
theorem k_L_258 : jLnk RL 258 yX6_boardDay := wg_of 1194 (by decide +kernel) (by decide +kernel)
theorem m_X6_boardDay : jMeth yX6_boardDay cX6_boardDay 2 (some .int) 1 := ⟨wg_of 1197 (by decide +kernel) (by decide +kernel), wg_of 47 (by decide +kernel) (by decide +kernel), by decide, by decide, by decide⟩
theorem v_X6_boardDay : jVirt yX6_boardDay := ⟨wg_of 1195 (by decide +kernel) (by decide +kernel), wg_of 1196 (by decide +kernel) (by decide +kernel)⟩
theorem k_L_259 : jLnk RL 259 yL_lineCount := wg_of 779 (by decide +kernel) (by decide +kernel)
theorem k_L_261 : jLnk RL 261 yX6_lineCount := wg_of 1198 (by decide +kernel) (by decide +kernel)
theorem m_X6_lineCount : jMeth yX6_lineCount cX6_lineCount 2 (some .int) 1 := ⟨wg_of 1201 (by decide +kernel) (by decide +kernel), wg_of 47 (by decide +kernel) (by decide +kernel), by decide, by decide, by decide⟩
theorem v_X6_lineCount : jVirt yX6_lineCount := ⟨wg_of 1199 (by decide +kernel) (by decide +kernel), wg_of 1200 (by decide +kernel) (by decide +kernel)⟩
theorem k_L_262 : jLnk RL 262 yL_lineState := wg_of 786 (by decide +kernel) (by decide +kernel)
theorem k_L_264 : jLnk RL 264 yX6_lineState := wg_of 1202 (by decide +kernel) (by decide +kernel)
theorem m_X6_lineState : jMeth yX6_lineState cX6_lineState 3 (some .int) 2 := ⟨wg_of 1205 (by decide +kernel) (by decide +kernel), wg_of 47 (by decide +kernel) (by decide +kernel), by decide, by decide, by decide⟩
theorem v_X6_lineState : jVirt yX6_lineState := ⟨wg_of 1203 (by decide +kernel) (by decide +kernel), wg_of 1204 (by decide +kernel) (by decide +kernel)⟩
theorem k_L_265 : jLnk RL 265 yL_lineMinute := wg_of 798 (by decide +kernel) (by decide +kernel)
theorem k_L_267 : jLnk RL 267 yX6_lineMinute := wg_of 1210 (by decide +kernel) (by decide +kernel)
theorem m_X6_lineMinute : jMeth yX6_lineMinute cX6_lineMinute 3 (some .int) 2 := ⟨wg_of 1213 (by decide +kernel) (by decide +kernel), wg_of 47 (by decide +kernel) (by decide +kernel), by decide, by decide, by decide⟩
theorem v_X6_lineMinute : jVirt yX6_lineMinute := ⟨wg_of 1211 (by decide +kernel) (by decide +kernel), wg_of 1212 (by decide +kernel) (by decide +kernel)⟩
theorem k_L_268 : jLnk RL 268 yL_lineHeight := wg_of 810 (by decide +kernel) (by decide +kernel)
theorem k_L_270 : jLnk RL 270 yX6_lineHeight := wg_of 1218 (by decide +kernel) (by decide +kernel)
theorem m_X6_lineHeight : jMeth yX6_lineHeight cX6_lineHeight 3 (some .int) 2 := ⟨wg_of 1221 (by decide +kernel) (by decide +kernel), wg_of 47 (by decide +kernel) (by decide +kernel), by decide, by decide, by decide⟩
theorem v_X6_lineHeight : jVirt yX6_lineHeight := ⟨wg_of 1219 (by decide +kernel) (by decide +kernel), wg_of 1220 (by decide +kernel) (by decide +kernel)⟩
theorem k_L_271 : jLnk RL 271 yL_dripsOf := wg_of 817 (by decide +kernel) (by decide +kernel)
theorem k_L_273 : jLnk RL 273 yX6_dripsOf := wg_of 1222 (by decide +kernel) (by decide +kernel)
theorem m_X6_dripsOf : jMeth yX6_dripsOf cX6_dripsOf 2 (some .int) 1 := ⟨wg_of 1225 (by decide +kernel) (by decide +kernel), wg_of 47 (by decide +kernel) (by decide +kernel), by decide, by decide, by decide⟩
theorem v_X6_dripsOf : jVirt yX6_dripsOf := ⟨wg_of 1223 (by decide +kernel) (by decide +kernel), wg_of 1224 (by decide +kernel) (by decide +kernel)⟩
theorem k_L_274 : jLnk RL 274 yL_unreadableLines := wg_of 824 (by decide +kernel) (by decide +kernel)
theorem k_L_276 : jLnk RL 276 yX6_unreadableLines := wg_of 1226 (by decide +kernel) (by decide +kernel)
theorem m_X6_unreadableLines : jMeth yX6_unreadableLines cX6_unreadableLines 2 (some .int) 1 := ⟨wg_of 1229 (by decide +kernel) (by decide +kernel), wg_of 47 (by decide +kernel) (by decide +kernel), by decide, by decide, by decide⟩
theorem v_X6_unreadableLines : jVirt yX6_unreadableLines := ⟨wg_of 1227 (by decide +kernel) (by decide +kernel), wg_of 1228 (by decide +kernel) (by decide +kernel)⟩
theorem k_L_277 : jLnk RL 277 yL_isRight := wg_of 831 (by decide +kernel) (by decide +kernel)
theorem k_L_279 : jLnk RL 279 yX6_isRight := wg_of 1234 (by decide +kernel) (by decide +kernel)
theorem m_X6_isRight : jMeth yX6_isRight cX6_isRight 2 (some .boolean) 1 := ⟨wg_of 1237 (by decide +kernel) (by decide +kernel), wg_of 47 (by decide +kernel) (by decide +kernel), by decide, by decide, by decide⟩
theorem v_X6_isRight : jVirt yX6_isRight := ⟨wg_of 1235 (by decide +kernel) (by decide +kernel), wg_of 1236 (by decide +kernel) (by decide +kernel)⟩
theorem k_L_280 : jLnk RL 280 yX5_rightBoards := wg_of 184 (by decide +kernel) (by decide +kernel)
theorem m_X5_rightBoards : jMeth yX5_rightBoards cX5_rightBoards 3 (some .int) 0 := ⟨wg_of 187 (by decide +kernel) (by decide +kernel), wg_of 44 (by decide +kernel) (by decide +kernel), by decide, by decide, by decide⟩
theorem v_X5_rightBoards : jVirt yX5_rightBoards := ⟨wg_of 185 (by decide +kernel) (by decide +kernel), wg_of 186 (by decide +kernel) (by decide +kernel)⟩
theorem k_L_283 : jLnk RL 283 yX6_rightBoards := wg_of 1242 (by decide +kernel) (by decide +kernel)
theorem m_X6_rightBoards : jMeth yX6_rightBoards cX6_rightBoards 3 (some .int) 0 := ⟨wg_of 1245 (by decide +kernel) (by decide +kernel), wg_of 47 (by decide +kernel) (by decide +kernel), by decide, by decide, by decide⟩
theorem v_X6_rightBoards : jVirt yX6_rightBoards := ⟨wg_of 1243 (by decide +kernel) (by decide +kernel), wg_of 1244 (by decide +kernel) (by decide +kernel)⟩
theorem ac_int : Cond.arrayClass .int ∈ WG := wg_of 88 (by decide +kernel) (by decide +kernel)
theorem ac_boolean : Cond.arrayClass .boolean ∈ WG := wg_of 113 (by decide +kernel) (by decide +kernel)
end
section
theorem ac_byte : Cond.arrayClass .byte ∈ WG := wg_of 305 (by decide +kernel) (by decide +kernel)
theorem kc_X5_256 : Cond.constant RX5 256 (99999) ∈ WG := wg_of 436 (by decide +kernel) (by decide +kernel)
theorem kc_X6_97 : Cond.constant RX6 97 (99999) ∈ WG := wg_of 987 (by decide +kernel) (by decide +kernel)
theorem ac_long : Cond.arrayClass .long ∈ WG := wg_of 1246 (by decide +kernel) (by decide +kernel)
theorem ko_X0 : Cond.methodLink RX0 3 objectInit ∈ WG := wg_of 332 (by decide +kernel) (by decide +kernel)
theorem ko_X1 : Cond.methodLink RX1 3 objectInit ∈ WG := wg_of 326 (by decide +kernel) (by decide +kernel)
theorem ko_X2 : Cond.methodLink RX2 3 objectInit ∈ WG := wg_of 360 (by decide +kernel) (by decide +kernel)
theorem ko_X3 : Cond.methodLink RX3 3 objectInit ∈ WG := wg_of 94 (by decide +kernel) (by decide +kernel)
theorem ko_X4 : Cond.methodLink RX4 3 objectInit ∈ WG := wg_of 74 (by decide +kernel) (by decide +kernel)
theorem ko_X5 : Cond.methodLink RX5 3 objectInit ∈ WG := wg_of 64 (by decide +kernel) (by decide +kernel)
theorem ko_X6 : Cond.methodLink RX6 1 objectInit ∈ WG := wg_of 843 (by decide +kernel) (by decide +kernel)
theorem oi_i : Cond.instanceMethod objectInit ∈ WG := wg_of 65 (by decide +kernel) (by decide +kernel)
theorem oi_c : Cond.code objectInit ⟨#[0xb1]⟩ 1 none ∈ WG := wg_of 66 (by decide +kernel) (by decide +kernel)
end
section
theorem dX0_init_0 : decode cX0_init 0 = .ok (.aload_n 0, 1) := by decide +kernel
theorem dX0_init_1 : decode cX0_init 1 = .ok (.invokespecial 3, 3) := by decide +kernel
theorem dX0_init_4 : decode cX0_init 4 = .ok (.aload_n 0, 1) := by decide +kernel
theorem dX0_init_5 : decode cX0_init 5 = .ok (.new 9, 3) := by decide +kernel
theorem dX0_init_8 : decode cX0_init 8 = .ok (.dup, 1) := by decide +kernel
theorem dX0_init_9 : decode cX0_init 9 = .ok (.invokespecial 11, 3) := by decide +kernel
theorem dX0_init_12 : decode cX0_init 12 = .ok (.putfield 12, 3) := by decide +kernel
theorem dX0_init_15 : decode cX0_init 15 = .ok (.aload_n 0, 1) := by decide +kernel
theorem dX0_init_16 : decode cX0_init 16 = .ok (.iconst 4, 1) := by decide +kernel
theorem dX0_init_17 : decode cX0_init 17 = .ok (.newarray .int, 2) := by decide +kernel
theorem dX0_init_19 : decode cX0_init 19 = .ok (.putfield 18, 3) := by decide +kernel
theorem dX0_init_22 : decode cX0_init 22 = .ok (.aload_n 0, 1) := by decide +kernel
theorem dX0_init_23 : decode cX0_init 23 = .ok (.iconst 4, 1) := by decide +kernel
theorem dX0_init_24 : decode cX0_init 24 = .ok (.newarray .int, 2) := by decide +kernel
theorem dX0_init_26 : decode cX0_init 26 = .ok (.putfield 22, 3) := by decide +kernel
theorem dX0_init_29 : decode cX0_init 29 = .ok (.aload_n 0, 1) := by decide +kernel
theorem dX0_init_30 : decode cX0_init 30 = .ok (.iconst (-1), 1) := by decide +kernel
theorem dX0_init_31 : decode cX0_init 31 = .ok (.putfield 25, 3) := by decide +kernel
theorem dX0_init_34 : decode cX0_init 34 = .ok (.aload_n 0, 1) := by decide +kernel
theorem dX0_init_35 : decode cX0_init 35 = .ok (.iconst 0, 1) := by decide +kernel
theorem dX0_init_36 : decode cX0_init 36 = .ok (.putfield 29, 3) := by decide +kernel
theorem dX0_init_39 : decode cX0_init 39 = .ok (.return_, 1) := by decide +kernel
theorem dX0_begin_0 : decode cX0_begin 0 = .ok (.aload_n 0, 1) := by decide +kernel
theorem dX0_begin_1 : decode cX0_begin 1 = .ok (.getfield 12, 3) := by decide +kernel
theorem dX0_begin_4 : decode cX0_begin 4 = .ok (.aload_n 1, 1) := by decide +kernel
theorem dX0_begin_5 : decode cX0_begin 5 = .ok (.iload_n 2, 1) := by decide +kernel
theorem dX0_begin_6 : decode cX0_begin 6 = .ok (.invokevirtual 32, 3) := by decide +kernel
theorem dX0_begin_9 : decode cX0_begin 9 = .ok (.iconst 0, 1) := by decide +kernel
theorem dX0_begin_10 : decode cX0_begin 10 = .ok (.istore_n 3, 1) := by decide +kernel
theorem dX0_begin_11 : decode cX0_begin 11 = .ok (.iload_n 3, 1) := by decide +kernel
theorem dX0_begin_12 : decode cX0_begin 12 = .ok (.iconst 4, 1) := by decide +kernel
theorem dX0_begin_13 : decode cX0_begin 13 = .ok (.if_icmp .ge 16, 3) := by decide +kernel
theorem dX0_begin_16 : decode cX0_begin 16 = .ok (.aload_n 0, 1) := by decide +kernel
theorem dX0_begin_17 : decode cX0_begin 17 = .ok (.getfield 18, 3) := by decide +kernel
theorem dX0_begin_20 : decode cX0_begin 20 = .ok (.iload_n 3, 1) := by decide +kernel
theorem dX0_begin_21 : decode cX0_begin 21 = .ok (.iconst 0, 1) := by decide +kernel
theorem dX0_begin_22 : decode cX0_begin 22 = .ok (.iastore, 1) := by decide +kernel
theorem dX0_begin_23 : decode cX0_begin 23 = .ok (.iinc 3 1, 3) := by decide +kernel
theorem dX0_begin_26 : decode cX0_begin 26 = .ok (.goto (-15), 3) := by decide +kernel
theorem dX0_begin_29 : decode cX0_begin 29 = .ok (.aload_n 0, 1) := by decide +kernel
theorem dX0_begin_30 : decode cX0_begin 30 = .ok (.iload_n 2, 1) := by decide +kernel
theorem dX0_begin_31 : decode cX0_begin 31 = .ok (.putfield 25, 3) := by decide +kernel
theorem dX0_begin_34 : decode cX0_begin 34 = .ok (.aload_n 0, 1) := by decide +kernel
theorem dX0_begin_35 : decode cX0_begin 35 = .ok (.iconst 0, 1) := by decide +kernel
theorem dX0_begin_36 : decode cX0_begin 36 = .ok (.putfield 29, 3) := by decide +kernel
theorem dX0_begin_39 : decode cX0_begin 39 = .ok (.return_, 1) := by decide +kernel
theorem dX0_makeReadable_0 : decode cX0_makeReadable 0 = .ok (.aload_n 0, 1) := by decide +kernel
theorem dX0_makeReadable_1 : decode cX0_makeReadable 1 = .ok (.getfield 18, 3) := by decide +kernel
theorem dX0_makeReadable_4 : decode cX0_makeReadable 4 = .ok (.iload_n 1, 1) := by decide +kernel
theorem dX0_makeReadable_5 : decode cX0_makeReadable 5 = .ok (.iconst 1, 1) := by decide +kernel
theorem dX0_makeReadable_6 : decode cX0_makeReadable 6 = .ok (.iastore, 1) := by decide +kernel
theorem dX0_makeReadable_7 : decode cX0_makeReadable 7 = .ok (.aload_n 0, 1) := by decide +kernel
theorem dX0_makeReadable_8 : decode cX0_makeReadable 8 = .ok (.getfield 22, 3) := by decide +kernel
theorem dX0_makeReadable_11 : decode cX0_makeReadable 11 = .ok (.iload_n 1, 1) := by decide +kernel
theorem dX0_makeReadable_12 : decode cX0_makeReadable 12 = .ok (.iload_n 2, 1) := by decide +kernel
theorem dX0_makeReadable_13 : decode cX0_makeReadable 13 = .ok (.iastore, 1) := by decide +kernel
theorem dX0_makeReadable_14 : decode cX0_makeReadable 14 = .ok (.return_, 1) := by decide +kernel
theorem dX0_drip_0 : decode cX0_drip 0 = .ok (.aload_n 0, 1) := by decide +kernel
theorem dX0_drip_1 : decode cX0_drip 1 = .ok (.dup, 1) := by decide +kernel
theorem dX0_drip_2 : decode cX0_drip 2 = .ok (.getfield 29, 3) := by decide +kernel
theorem dX0_drip_5 : decode cX0_drip 5 = .ok (.iload_n 1, 1) := by decide +kernel
theorem dX0_drip_6 : decode cX0_drip 6 = .ok (.iadd, 1) := by decide +kernel
theorem dX0_drip_7 : decode cX0_drip 7 = .ok (.putfield 29, 3) := by decide +kernel
theorem dX0_drip_10 : decode cX0_drip 10 = .ok (.aload_n 0, 1) := by decide +kernel
theorem dX0_drip_11 : decode cX0_drip 11 = .ok (.getfield 29, 3) := by decide +kernel
theorem dX0_drip_14 : decode cX0_drip 14 = .ok (.bipush 12, 2) := by decide +kernel
theorem dX0_drip_16 : decode cX0_drip 16 = .ok (.if_icmp .lt 18, 3) := by decide +kernel
theorem dX0_drip_19 : decode cX0_drip 19 = .ok (.aload_n 0, 1) := by decide +kernel
theorem dX0_drip_20 : decode cX0_drip 20 = .ok (.dup, 1) := by decide +kernel
theorem dX0_drip_21 : decode cX0_drip 21 = .ok (.getfield 29, 3) := by decide +kernel
theorem dX0_drip_24 : decode cX0_drip 24 = .ok (.bipush 12, 2) := by decide +kernel
theorem dX0_drip_26 : decode cX0_drip 26 = .ok (.isub, 1) := by decide +kernel
theorem dX0_drip_27 : decode cX0_drip 27 = .ok (.putfield 29, 3) := by decide +kernel
theorem dX0_drip_30 : decode cX0_drip 30 = .ok (.aload_n 0, 1) := by decide +kernel
theorem dX0_drip_31 : decode cX0_drip 31 = .ok (.invokevirtual 36, 3) := by decide +kernel
theorem dX0_drip_34 : decode cX0_drip 34 = .ok (.return_, 1) := by decide +kernel
theorem dX0_blotLastReadable_0 : decode cX0_blotLastReadable 0 = .ok (.aload_n 0, 1) := by decide +kernel
theorem dX0_blotLastReadable_1 : decode cX0_blotLastReadable 1 = .ok (.getfield 12, 3) := by decide +kernel
theorem dX0_blotLastReadable_4 : decode cX0_blotLastReadable 4 = .ok (.getfield 39, 3) := by decide +kernel
theorem dX0_blotLastReadable_7 : decode cX0_blotLastReadable 7 = .ok (.iconst 1, 1) := by decide +kernel
theorem dX0_blotLastReadable_8 : decode cX0_blotLastReadable 8 = .ok (.isub, 1) := by decide +kernel
theorem dX0_blotLastReadable_9 : decode cX0_blotLastReadable 9 = .ok (.istore_n 1, 1) := by decide +kernel
theorem dX0_blotLastReadable_10 : decode cX0_blotLastReadable 10 = .ok (.iload_n 1, 1) := by decide +kernel
theorem dX0_blotLastReadable_11 : decode cX0_blotLastReadable 11 = .ok (.ifCond .lt 27, 3) := by decide +kernel
theorem dX0_blotLastReadable_14 : decode cX0_blotLastReadable 14 = .ok (.aload_n 0, 1) := by decide +kernel
theorem dX0_blotLastReadable_15 : decode cX0_blotLastReadable 15 = .ok (.getfield 18, 3) := by decide +kernel
theorem dX0_blotLastReadable_18 : decode cX0_blotLastReadable 18 = .ok (.iload_n 1, 1) := by decide +kernel
theorem dX0_blotLastReadable_19 : decode cX0_blotLastReadable 19 = .ok (.iaload, 1) := by decide +kernel
theorem dX0_blotLastReadable_20 : decode cX0_blotLastReadable 20 = .ok (.iconst 1, 1) := by decide +kernel
theorem dX0_blotLastReadable_21 : decode cX0_blotLastReadable 21 = .ok (.if_icmp .ne 11, 3) := by decide +kernel
theorem dX0_blotLastReadable_24 : decode cX0_blotLastReadable 24 = .ok (.aload_n 0, 1) := by decide +kernel
theorem dX0_blotLastReadable_25 : decode cX0_blotLastReadable 25 = .ok (.getfield 18, 3) := by decide +kernel
theorem dX0_blotLastReadable_28 : decode cX0_blotLastReadable 28 = .ok (.iload_n 1, 1) := by decide +kernel
theorem dX0_blotLastReadable_29 : decode cX0_blotLastReadable 29 = .ok (.iconst 2, 1) := by decide +kernel
theorem dX0_blotLastReadable_30 : decode cX0_blotLastReadable 30 = .ok (.iastore, 1) := by decide +kernel
theorem dX0_blotLastReadable_31 : decode cX0_blotLastReadable 31 = .ok (.return_, 1) := by decide +kernel
theorem dX0_blotLastReadable_32 : decode cX0_blotLastReadable 32 = .ok (.iinc 1 (-1), 3) := by decide +kernel
theorem dX0_blotLastReadable_35 : decode cX0_blotLastReadable 35 = .ok (.goto (-25), 3) := by decide +kernel
theorem dX0_blotLastReadable_38 : decode cX0_blotLastReadable 38 = .ok (.return_, 1) := by decide +kernel
theorem dX0_fadeOldLines_0 : decode cX0_fadeOldLines 0 = .ok (.iconst 0, 1) := by decide +kernel
theorem dX0_fadeOldLines_1 : decode cX0_fadeOldLines 1 = .ok (.istore_n 2, 1) := by decide +kernel
theorem dX0_fadeOldLines_2 : decode cX0_fadeOldLines 2 = .ok (.iload_n 2, 1) := by decide +kernel
theorem dX0_fadeOldLines_3 : decode cX0_fadeOldLines 3 = .ok (.aload_n 0, 1) := by decide +kernel
theorem dX0_fadeOldLines_4 : decode cX0_fadeOldLines 4 = .ok (.getfield 12, 3) := by decide +kernel
theorem dX0_fadeOldLines_7 : decode cX0_fadeOldLines 7 = .ok (.getfield 39, 3) := by decide +kernel
theorem dX0_fadeOldLines_10 : decode cX0_fadeOldLines 10 = .ok (.if_icmp .ge 39, 3) := by decide +kernel
theorem dX0_fadeOldLines_13 : decode cX0_fadeOldLines 13 = .ok (.aload_n 0, 1) := by decide +kernel
theorem dX0_fadeOldLines_14 : decode cX0_fadeOldLines 14 = .ok (.getfield 18, 3) := by decide +kernel
theorem dX0_fadeOldLines_17 : decode cX0_fadeOldLines 17 = .ok (.iload_n 2, 1) := by decide +kernel
theorem dX0_fadeOldLines_18 : decode cX0_fadeOldLines 18 = .ok (.iaload, 1) := by decide +kernel
theorem dX0_fadeOldLines_19 : decode cX0_fadeOldLines 19 = .ok (.iconst 1, 1) := by decide +kernel
theorem dX0_fadeOldLines_20 : decode cX0_fadeOldLines 20 = .ok (.if_icmp .ne 23, 3) := by decide +kernel
theorem dX0_fadeOldLines_23 : decode cX0_fadeOldLines 23 = .ok (.iload_n 1, 1) := by decide +kernel
theorem dX0_fadeOldLines_24 : decode cX0_fadeOldLines 24 = .ok (.aload_n 0, 1) := by decide +kernel
theorem dX0_fadeOldLines_25 : decode cX0_fadeOldLines 25 = .ok (.getfield 22, 3) := by decide +kernel
theorem dX0_fadeOldLines_28 : decode cX0_fadeOldLines 28 = .ok (.iload_n 2, 1) := by decide +kernel
theorem dX0_fadeOldLines_29 : decode cX0_fadeOldLines 29 = .ok (.iaload, 1) := by decide +kernel
theorem dX0_fadeOldLines_30 : decode cX0_fadeOldLines 30 = .ok (.isub, 1) := by decide +kernel
theorem dX0_fadeOldLines_31 : decode cX0_fadeOldLines 31 = .ok (.bipush 7, 2) := by decide +kernel
theorem dX0_fadeOldLines_33 : decode cX0_fadeOldLines 33 = .ok (.if_icmp .lt 10, 3) := by decide +kernel
theorem dX0_fadeOldLines_36 : decode cX0_fadeOldLines 36 = .ok (.aload_n 0, 1) := by decide +kernel
theorem dX0_fadeOldLines_37 : decode cX0_fadeOldLines 37 = .ok (.getfield 18, 3) := by decide +kernel
theorem dX0_fadeOldLines_40 : decode cX0_fadeOldLines 40 = .ok (.iload_n 2, 1) := by decide +kernel
theorem dX0_fadeOldLines_41 : decode cX0_fadeOldLines 41 = .ok (.iconst 3, 1) := by decide +kernel
theorem dX0_fadeOldLines_42 : decode cX0_fadeOldLines 42 = .ok (.iastore, 1) := by decide +kernel
theorem dX0_fadeOldLines_43 : decode cX0_fadeOldLines 43 = .ok (.iinc 2 1, 3) := by decide +kernel
theorem dX0_fadeOldLines_46 : decode cX0_fadeOldLines 46 = .ok (.goto (-44), 3) := by decide +kernel
theorem dX0_fadeOldLines_49 : decode cX0_fadeOldLines 49 = .ok (.return_, 1) := by decide +kernel
theorem dX0_blankLines_0 : decode cX0_blankLines 0 = .ok (.iconst 0, 1) := by decide +kernel
theorem dX0_blankLines_1 : decode cX0_blankLines 1 = .ok (.istore_n 1, 1) := by decide +kernel
theorem dX0_blankLines_2 : decode cX0_blankLines 2 = .ok (.iconst 0, 1) := by decide +kernel
theorem dX0_blankLines_3 : decode cX0_blankLines 3 = .ok (.istore_n 2, 1) := by decide +kernel
theorem dX0_blankLines_4 : decode cX0_blankLines 4 = .ok (.iload_n 2, 1) := by decide +kernel
theorem dX0_blankLines_5 : decode cX0_blankLines 5 = .ok (.aload_n 0, 1) := by decide +kernel
theorem dX0_blankLines_6 : decode cX0_blankLines 6 = .ok (.getfield 12, 3) := by decide +kernel
theorem dX0_blankLines_9 : decode cX0_blankLines 9 = .ok (.getfield 39, 3) := by decide +kernel
theorem dX0_blankLines_12 : decode cX0_blankLines 12 = .ok (.if_icmp .ge 21, 3) := by decide +kernel
theorem dX0_blankLines_15 : decode cX0_blankLines 15 = .ok (.aload_n 0, 1) := by decide +kernel
theorem dX0_blankLines_16 : decode cX0_blankLines 16 = .ok (.getfield 18, 3) := by decide +kernel
theorem dX0_blankLines_19 : decode cX0_blankLines 19 = .ok (.iload_n 2, 1) := by decide +kernel
theorem dX0_blankLines_20 : decode cX0_blankLines 20 = .ok (.iaload, 1) := by decide +kernel
theorem dX0_blankLines_21 : decode cX0_blankLines 21 = .ok (.ifCond .ne 6, 3) := by decide +kernel
theorem dX0_blankLines_24 : decode cX0_blankLines 24 = .ok (.iinc 1 1, 3) := by decide +kernel
theorem dX0_blankLines_27 : decode cX0_blankLines 27 = .ok (.iinc 2 1, 3) := by decide +kernel
theorem dX0_blankLines_30 : decode cX0_blankLines 30 = .ok (.goto (-26), 3) := by decide +kernel
theorem dX0_blankLines_33 : decode cX0_blankLines 33 = .ok (.iload_n 1, 1) := by decide +kernel
theorem dX0_blankLines_34 : decode cX0_blankLines 34 = .ok (.ireturn, 1) := by decide +kernel
theorem dX0_firstSpoiltLine_0 : decode cX0_firstSpoiltLine 0 = .ok (.iconst 0, 1) := by decide +kernel
theorem dX0_firstSpoiltLine_1 : decode cX0_firstSpoiltLine 1 = .ok (.istore_n 1, 1) := by decide +kernel
theorem dX0_firstSpoiltLine_2 : decode cX0_firstSpoiltLine 2 = .ok (.iload_n 1, 1) := by decide +kernel
theorem dX0_firstSpoiltLine_3 : decode cX0_firstSpoiltLine 3 = .ok (.aload_n 0, 1) := by decide +kernel
theorem dX0_firstSpoiltLine_4 : decode cX0_firstSpoiltLine 4 = .ok (.getfield 12, 3) := by decide +kernel
theorem dX0_firstSpoiltLine_7 : decode cX0_firstSpoiltLine 7 = .ok (.getfield 39, 3) := by decide +kernel
theorem dX0_firstSpoiltLine_10 : decode cX0_firstSpoiltLine 10 = .ok (.if_icmp .ge 31, 3) := by decide +kernel
theorem dX0_firstSpoiltLine_13 : decode cX0_firstSpoiltLine 13 = .ok (.aload_n 0, 1) := by decide +kernel
theorem dX0_firstSpoiltLine_14 : decode cX0_firstSpoiltLine 14 = .ok (.getfield 18, 3) := by decide +kernel
theorem dX0_firstSpoiltLine_17 : decode cX0_firstSpoiltLine 17 = .ok (.iload_n 1, 1) := by decide +kernel
theorem dX0_firstSpoiltLine_18 : decode cX0_firstSpoiltLine 18 = .ok (.iaload, 1) := by decide +kernel
theorem dX0_firstSpoiltLine_19 : decode cX0_firstSpoiltLine 19 = .ok (.iconst 2, 1) := by decide +kernel
theorem dX0_firstSpoiltLine_20 : decode cX0_firstSpoiltLine 20 = .ok (.if_icmp .eq 13, 3) := by decide +kernel
theorem dX0_firstSpoiltLine_23 : decode cX0_firstSpoiltLine 23 = .ok (.aload_n 0, 1) := by decide +kernel
theorem dX0_firstSpoiltLine_24 : decode cX0_firstSpoiltLine 24 = .ok (.getfield 18, 3) := by decide +kernel
theorem dX0_firstSpoiltLine_27 : decode cX0_firstSpoiltLine 27 = .ok (.iload_n 1, 1) := by decide +kernel
theorem dX0_firstSpoiltLine_28 : decode cX0_firstSpoiltLine 28 = .ok (.iaload, 1) := by decide +kernel
theorem dX0_firstSpoiltLine_29 : decode cX0_firstSpoiltLine 29 = .ok (.iconst 3, 1) := by decide +kernel
theorem dX0_firstSpoiltLine_30 : decode cX0_firstSpoiltLine 30 = .ok (.if_icmp .ne 5, 3) := by decide +kernel
theorem dX0_firstSpoiltLine_33 : decode cX0_firstSpoiltLine 33 = .ok (.iload_n 1, 1) := by decide +kernel
theorem dX0_firstSpoiltLine_34 : decode cX0_firstSpoiltLine 34 = .ok (.ireturn, 1) := by decide +kernel
theorem dX0_firstSpoiltLine_35 : decode cX0_firstSpoiltLine 35 = .ok (.iinc 1 1, 3) := by decide +kernel
theorem dX0_firstSpoiltLine_38 : decode cX0_firstSpoiltLine 38 = .ok (.goto (-36), 3) := by decide +kernel
theorem dX0_firstSpoiltLine_41 : decode cX0_firstSpoiltLine 41 = .ok (.iconst (-1), 1) := by decide +kernel
theorem dX0_firstSpoiltLine_42 : decode cX0_firstSpoiltLine 42 = .ok (.ireturn, 1) := by decide +kernel
theorem dX0_unreadableMask_0 : decode cX0_unreadableMask 0 = .ok (.iconst 0, 1) := by decide +kernel
theorem dX0_unreadableMask_1 : decode cX0_unreadableMask 1 = .ok (.istore_n 1, 1) := by decide +kernel
theorem dX0_unreadableMask_2 : decode cX0_unreadableMask 2 = .ok (.iconst 0, 1) := by decide +kernel
theorem dX0_unreadableMask_3 : decode cX0_unreadableMask 3 = .ok (.istore_n 2, 1) := by decide +kernel
theorem dX0_unreadableMask_4 : decode cX0_unreadableMask 4 = .ok (.iload_n 2, 1) := by decide +kernel
theorem dX0_unreadableMask_5 : decode cX0_unreadableMask 5 = .ok (.aload_n 0, 1) := by decide +kernel
theorem dX0_unreadableMask_6 : decode cX0_unreadableMask 6 = .ok (.getfield 12, 3) := by decide +kernel
theorem dX0_unreadableMask_9 : decode cX0_unreadableMask 9 = .ok (.getfield 39, 3) := by decide +kernel
theorem dX0_unreadableMask_12 : decode cX0_unreadableMask 12 = .ok (.if_icmp .ge 25, 3) := by decide +kernel
theorem dX0_unreadableMask_15 : decode cX0_unreadableMask 15 = .ok (.aload_n 0, 1) := by decide +kernel
theorem dX0_unreadableMask_16 : decode cX0_unreadableMask 16 = .ok (.getfield 18, 3) := by decide +kernel
theorem dX0_unreadableMask_19 : decode cX0_unreadableMask 19 = .ok (.iload_n 2, 1) := by decide +kernel
theorem dX0_unreadableMask_20 : decode cX0_unreadableMask 20 = .ok (.iaload, 1) := by decide +kernel
theorem dX0_unreadableMask_21 : decode cX0_unreadableMask 21 = .ok (.iconst 1, 1) := by decide +kernel
theorem dX0_unreadableMask_22 : decode cX0_unreadableMask 22 = .ok (.if_icmp .eq 9, 3) := by decide +kernel
theorem dX0_unreadableMask_25 : decode cX0_unreadableMask 25 = .ok (.iload_n 1, 1) := by decide +kernel
theorem dX0_unreadableMask_26 : decode cX0_unreadableMask 26 = .ok (.iconst 1, 1) := by decide +kernel
theorem dX0_unreadableMask_27 : decode cX0_unreadableMask 27 = .ok (.iload_n 2, 1) := by decide +kernel
theorem dX0_unreadableMask_28 : decode cX0_unreadableMask 28 = .ok (.ishl, 1) := by decide +kernel
theorem dX0_unreadableMask_29 : decode cX0_unreadableMask 29 = .ok (.ior, 1) := by decide +kernel
theorem dX0_unreadableMask_30 : decode cX0_unreadableMask 30 = .ok (.istore_n 1, 1) := by decide +kernel
theorem dX0_unreadableMask_31 : decode cX0_unreadableMask 31 = .ok (.iinc 2 1, 3) := by decide +kernel
theorem dX0_unreadableMask_34 : decode cX0_unreadableMask 34 = .ok (.goto (-30), 3) := by decide +kernel
theorem dX0_unreadableMask_37 : decode cX0_unreadableMask 37 = .ok (.iload_n 1, 1) := by decide +kernel
theorem dX0_unreadableMask_38 : decode cX0_unreadableMask 38 = .ok (.ireturn, 1) := by decide +kernel
theorem dX1_init_0 : decode cX1_init 0 = .ok (.aload_n 0, 1) := by decide +kernel
theorem dX1_init_1 : decode cX1_init 1 = .ok (.invokespecial 3, 3) := by decide +kernel
theorem dX1_init_4 : decode cX1_init 4 = .ok (.aload_n 0, 1) := by decide +kernel
theorem dX1_init_5 : decode cX1_init 5 = .ok (.new 9, 3) := by decide +kernel
theorem dX1_init_8 : decode cX1_init 8 = .ok (.dup, 1) := by decide +kernel
theorem dX1_init_9 : decode cX1_init 9 = .ok (.invokespecial 11, 3) := by decide +kernel
theorem dX1_init_12 : decode cX1_init 12 = .ok (.putfield 12, 3) := by decide +kernel
theorem dX1_init_15 : decode cX1_init 15 = .ok (.aload_n 0, 1) := by decide +kernel
theorem dX1_init_16 : decode cX1_init 16 = .ok (.iload_n 1, 1) := by decide +kernel
theorem dX1_init_17 : decode cX1_init 17 = .ok (.putfield 18, 3) := by decide +kernel
theorem dX1_init_20 : decode cX1_init 20 = .ok (.aload_n 0, 1) := by decide +kernel
theorem dX1_init_21 : decode cX1_init 21 = .ok (.iload_n 2, 1) := by decide +kernel
theorem dX1_init_22 : decode cX1_init 22 = .ok (.putfield 22, 3) := by decide +kernel
theorem dX1_init_25 : decode cX1_init 25 = .ok (.aload_n 0, 1) := by decide +kernel
theorem dX1_init_26 : decode cX1_init 26 = .ok (.iload_n 3, 1) := by decide +kernel
theorem dX1_init_27 : decode cX1_init 27 = .ok (.putfield 25, 3) := by decide +kernel
theorem dX1_init_30 : decode cX1_init 30 = .ok (.aload_n 0, 1) := by decide +kernel
theorem dX1_init_31 : decode cX1_init 31 = .ok (.iload 4, 2) := by decide +kernel
theorem dX1_init_33 : decode cX1_init 33 = .ok (.putfield 28, 3) := by decide +kernel
theorem dX1_init_36 : decode cX1_init 36 = .ok (.aload_n 0, 1) := by decide +kernel
theorem dX1_init_37 : decode cX1_init 37 = .ok (.iload 5, 2) := by decide +kernel
theorem dX1_init_39 : decode cX1_init 39 = .ok (.putfield 31, 3) := by decide +kernel
theorem dX1_init_42 : decode cX1_init 42 = .ok (.aload_n 0, 1) := by decide +kernel
theorem dX1_init_43 : decode cX1_init 43 = .ok (.new 34, 3) := by decide +kernel
theorem dX1_init_46 : decode cX1_init 46 = .ok (.dup, 1) := by decide +kernel
theorem dX1_init_47 : decode cX1_init 47 = .ok (.aload 6, 2) := by decide +kernel
theorem dX1_init_49 : decode cX1_init 49 = .ok (.invokespecial 36, 3) := by decide +kernel
theorem dX1_init_52 : decode cX1_init 52 = .ok (.putfield 39, 3) := by decide +kernel
theorem dX1_init_55 : decode cX1_init 55 = .ok (.return_, 1) := by decide +kernel
theorem dX1_rangeOn_0 : decode cX1_rangeOn 0 = .ok (.iload_n 1, 1) := by decide +kernel
theorem dX1_rangeOn_1 : decode cX1_rangeOn 1 = .ok (.invokestatic 43, 3) := by decide +kernel
theorem dX1_rangeOn_4 : decode cX1_rangeOn 4 = .ok (.bipush 59, 2) := by decide +kernel
theorem dX1_rangeOn_6 : decode cX1_rangeOn 6 = .ok (.irem, 1) := by decide +kernel
theorem dX1_rangeOn_7 : decode cX1_rangeOn 7 = .ok (.istore_n 2, 1) := by decide +kernel
theorem dX1_rangeOn_8 : decode cX1_rangeOn 8 = .ok (.iload_n 2, 1) := by decide +kernel
theorem dX1_rangeOn_9 : decode cX1_rangeOn 9 = .ok (.bipush 59, 2) := by decide +kernel
theorem dX1_rangeOn_11 : decode cX1_rangeOn 11 = .ok (.iload_n 2, 1) := by decide +kernel
theorem dX1_rangeOn_12 : decode cX1_rangeOn 12 = .ok (.isub, 1) := by decide +kernel
theorem dX1_rangeOn_13 : decode cX1_rangeOn 13 = .ok (.invokestatic 47, 3) := by decide +kernel
theorem dX1_rangeOn_16 : decode cX1_rangeOn 16 = .ok (.istore_n 3, 1) := by decide +kernel
theorem dX1_rangeOn_17 : decode cX1_rangeOn 17 = .ok (.aload_n 0, 1) := by decide +kernel
theorem dX1_rangeOn_18 : decode cX1_rangeOn 18 = .ok (.getfield 25, 3) := by decide +kernel
theorem dX1_rangeOn_21 : decode cX1_rangeOn 21 = .ok (.aload_n 0, 1) := by decide +kernel
theorem dX1_rangeOn_22 : decode cX1_rangeOn 22 = .ok (.getfield 25, 3) := by decide +kernel
theorem dX1_rangeOn_25 : decode cX1_rangeOn 25 = .ok (.aload_n 0, 1) := by decide +kernel
theorem dX1_rangeOn_26 : decode cX1_rangeOn 26 = .ok (.getfield 28, 3) := by decide +kernel
theorem dX1_rangeOn_29 : decode cX1_rangeOn 29 = .ok (.isub, 1) := by decide +kernel
theorem dX1_rangeOn_30 : decode cX1_rangeOn 30 = .ok (.iload_n 3, 1) := by decide +kernel
theorem dX1_rangeOn_31 : decode cX1_rangeOn 31 = .ok (.imul, 1) := by decide +kernel
theorem dX1_rangeOn_32 : decode cX1_rangeOn 32 = .ok (.bipush 29, 2) := by decide +kernel
theorem dX1_rangeOn_34 : decode cX1_rangeOn 34 = .ok (.idiv, 1) := by decide +kernel
theorem dX1_rangeOn_35 : decode cX1_rangeOn 35 = .ok (.isub, 1) := by decide +kernel
theorem dX1_rangeOn_36 : decode cX1_rangeOn 36 = .ok (.ireturn, 1) := by decide +kernel
theorem dX1_minutesToHigh_0 : decode cX1_minutesToHigh 0 = .ok (.sipush 1440, 3) := by decide +kernel
theorem dX1_minutesToHigh_3 : decode cX1_minutesToHigh 3 = .ok (.iload_n 1, 1) := by decide +kernel
theorem dX1_minutesToHigh_4 : decode cX1_minutesToHigh 4 = .ok (.imul, 1) := by decide +kernel
theorem dX1_minutesToHigh_5 : decode cX1_minutesToHigh 5 = .ok (.iload_n 2, 1) := by decide +kernel
theorem dX1_minutesToHigh_6 : decode cX1_minutesToHigh 6 = .ok (.iadd, 1) := by decide +kernel
theorem dX1_minutesToHigh_7 : decode cX1_minutesToHigh 7 = .ok (.istore_n 3, 1) := by decide +kernel
theorem dX1_minutesToHigh_8 : decode cX1_minutesToHigh 8 = .ok (.aload_n 0, 1) := by decide +kernel
theorem dX1_minutesToHigh_9 : decode cX1_minutesToHigh 9 = .ok (.getfield 18, 3) := by decide +kernel
theorem dX1_minutesToHigh_12 : decode cX1_minutesToHigh 12 = .ok (.aload_n 0, 1) := by decide +kernel
theorem dX1_minutesToHigh_13 : decode cX1_minutesToHigh 13 = .ok (.getfield 39, 3) := by decide +kernel
theorem dX1_minutesToHigh_16 : decode cX1_minutesToHigh 16 = .ok (.invokevirtual 53, 3) := by decide +kernel
theorem dX1_minutesToHigh_19 : decode cX1_minutesToHigh 19 = .ok (.iadd, 1) := by decide +kernel
theorem dX1_minutesToHigh_20 : decode cX1_minutesToHigh 20 = .ok (.iload_n 3, 1) := by decide +kernel
theorem dX1_minutesToHigh_21 : decode cX1_minutesToHigh 21 = .ok (.isub, 1) := by decide +kernel
theorem dX1_minutesToHigh_22 : decode cX1_minutesToHigh 22 = .ok (.sipush 745, 3) := by decide +kernel
theorem dX1_minutesToHigh_25 : decode cX1_minutesToHigh 25 = .ok (.invokestatic 57, 3) := by decide +kernel
theorem dX1_minutesToHigh_28 : decode cX1_minutesToHigh 28 = .ok (.ireturn, 1) := by decide +kernel
theorem dX2_init_0 : decode cX2_init 0 = .ok (.aload_n 0, 1) := by decide +kernel
theorem dX2_init_1 : decode cX2_init 1 = .ok (.invokespecial 3, 3) := by decide +kernel
theorem dX2_init_4 : decode cX2_init 4 = .ok (.aload_n 0, 1) := by decide +kernel
theorem dX2_init_5 : decode cX2_init 5 = .ok (.bipush 6, 2) := by decide +kernel
theorem dX2_init_7 : decode cX2_init 7 = .ok (.newarray .int, 2) := by decide +kernel
theorem dX2_init_9 : decode cX2_init 9 = .ok (.putfield 9, 3) := by decide +kernel
theorem dX2_init_12 : decode cX2_init 12 = .ok (.aload_n 0, 1) := by decide +kernel
theorem dX2_init_13 : decode cX2_init 13 = .ok (.bipush 6, 2) := by decide +kernel
theorem dX2_init_15 : decode cX2_init 15 = .ok (.newarray .int, 2) := by decide +kernel
theorem dX2_init_17 : decode cX2_init 17 = .ok (.putfield 15, 3) := by decide +kernel
theorem dX2_init_20 : decode cX2_init 20 = .ok (.aload_n 0, 1) := by decide +kernel
theorem dX2_init_21 : decode cX2_init 21 = .ok (.bipush 6, 2) := by decide +kernel
theorem dX2_init_23 : decode cX2_init 23 = .ok (.newarray .int, 2) := by decide +kernel
theorem dX2_init_25 : decode cX2_init 25 = .ok (.putfield 18, 3) := by decide +kernel
theorem dX2_init_28 : decode cX2_init 28 = .ok (.aload_n 0, 1) := by decide +kernel
theorem dX2_init_29 : decode cX2_init 29 = .ok (.iconst 0, 1) := by decide +kernel
theorem dX2_init_30 : decode cX2_init 30 = .ok (.putfield 21, 3) := by decide +kernel
theorem dX2_init_33 : decode cX2_init 33 = .ok (.aload_n 0, 1) := by decide +kernel
theorem dX2_init_34 : decode cX2_init 34 = .ok (.aload_n 1, 1) := by decide +kernel
theorem dX2_init_35 : decode cX2_init 35 = .ok (.putfield 25, 3) := by decide +kernel
theorem dX2_init_38 : decode cX2_init 38 = .ok (.return_, 1) := by decide +kernel
theorem dX2_placeOf_0 : decode cX2_placeOf 0 = .ok (.iconst 0, 1) := by decide +kernel
theorem dX2_placeOf_1 : decode cX2_placeOf 1 = .ok (.istore_n 2, 1) := by decide +kernel
theorem dX2_placeOf_2 : decode cX2_placeOf 2 = .ok (.iload_n 2, 1) := by decide +kernel
theorem dX2_placeOf_3 : decode cX2_placeOf 3 = .ok (.aload_n 0, 1) := by decide +kernel
theorem dX2_placeOf_4 : decode cX2_placeOf 4 = .ok (.getfield 21, 3) := by decide +kernel
theorem dX2_placeOf_7 : decode cX2_placeOf 7 = .ok (.if_icmp .ge 21, 3) := by decide +kernel
theorem dX2_placeOf_10 : decode cX2_placeOf 10 = .ok (.aload_n 0, 1) := by decide +kernel
theorem dX2_placeOf_11 : decode cX2_placeOf 11 = .ok (.getfield 9, 3) := by decide +kernel
theorem dX2_placeOf_14 : decode cX2_placeOf 14 = .ok (.iload_n 2, 1) := by decide +kernel
theorem dX2_placeOf_15 : decode cX2_placeOf 15 = .ok (.iaload, 1) := by decide +kernel
theorem dX2_placeOf_16 : decode cX2_placeOf 16 = .ok (.iload_n 1, 1) := by decide +kernel
theorem dX2_placeOf_17 : decode cX2_placeOf 17 = .ok (.if_icmp .ne 5, 3) := by decide +kernel
theorem dX2_placeOf_20 : decode cX2_placeOf 20 = .ok (.iload_n 2, 1) := by decide +kernel
theorem dX2_placeOf_21 : decode cX2_placeOf 21 = .ok (.ireturn, 1) := by decide +kernel
theorem dX2_placeOf_22 : decode cX2_placeOf 22 = .ok (.iinc 2 1, 3) := by decide +kernel
theorem dX2_placeOf_25 : decode cX2_placeOf 25 = .ok (.goto (-23), 3) := by decide +kernel
theorem dX2_placeOf_28 : decode cX2_placeOf 28 = .ok (.iconst (-1), 1) := by decide +kernel
theorem dX2_placeOf_29 : decode cX2_placeOf 29 = .ok (.ireturn, 1) := by decide +kernel
theorem dX2_put_0 : decode cX2_put 0 = .ok (.aload_n 0, 1) := by decide +kernel
theorem dX2_put_1 : decode cX2_put 1 = .ok (.iload_n 1, 1) := by decide +kernel
theorem dX2_put_2 : decode cX2_put 2 = .ok (.invokevirtual 28, 3) := by decide +kernel
theorem dX2_put_5 : decode cX2_put 5 = .ok (.istore_n 3, 1) := by decide +kernel
theorem dX2_put_6 : decode cX2_put 6 = .ok (.iload_n 3, 1) := by decide +kernel
theorem dX2_put_7 : decode cX2_put 7 = .ok (.iconst (-1), 1) := by decide +kernel
theorem dX2_put_8 : decode cX2_put 8 = .ok (.if_icmp .ne 27, 3) := by decide +kernel
theorem dX2_put_11 : decode cX2_put 11 = .ok (.aload_n 0, 1) := by decide +kernel
theorem dX2_put_12 : decode cX2_put 12 = .ok (.getfield 21, 3) := by decide +kernel
theorem dX2_put_15 : decode cX2_put 15 = .ok (.bipush 6, 2) := by decide +kernel
theorem dX2_put_17 : decode cX2_put 17 = .ok (.if_icmp .ge 18, 3) := by decide +kernel
theorem dX2_put_20 : decode cX2_put 20 = .ok (.aload_n 0, 1) := by decide +kernel
theorem dX2_put_21 : decode cX2_put 21 = .ok (.getfield 21, 3) := by decide +kernel
theorem dX2_put_24 : decode cX2_put 24 = .ok (.istore_n 3, 1) := by decide +kernel
theorem dX2_put_25 : decode cX2_put 25 = .ok (.aload_n 0, 1) := by decide +kernel
theorem dX2_put_26 : decode cX2_put 26 = .ok (.dup, 1) := by decide +kernel
theorem dX2_put_27 : decode cX2_put 27 = .ok (.getfield 21, 3) := by decide +kernel
theorem dX2_put_30 : decode cX2_put 30 = .ok (.iconst 1, 1) := by decide +kernel
theorem dX2_put_31 : decode cX2_put 31 = .ok (.iadd, 1) := by decide +kernel
theorem dX2_put_32 : decode cX2_put 32 = .ok (.putfield 21, 3) := by decide +kernel
theorem dX2_put_35 : decode cX2_put 35 = .ok (.iload_n 3, 1) := by decide +kernel
theorem dX2_put_36 : decode cX2_put 36 = .ok (.iconst (-1), 1) := by decide +kernel
theorem dX2_put_37 : decode cX2_put 37 = .ok (.if_icmp .eq 24, 3) := by decide +kernel
theorem dX2_put_40 : decode cX2_put 40 = .ok (.aload_n 0, 1) := by decide +kernel
theorem dX2_put_41 : decode cX2_put 41 = .ok (.getfield 9, 3) := by decide +kernel
theorem dX2_put_44 : decode cX2_put 44 = .ok (.iload_n 3, 1) := by decide +kernel
theorem dX2_put_45 : decode cX2_put 45 = .ok (.iload_n 1, 1) := by decide +kernel
theorem dX2_put_46 : decode cX2_put 46 = .ok (.iastore, 1) := by decide +kernel
theorem dX2_put_47 : decode cX2_put 47 = .ok (.aload_n 0, 1) := by decide +kernel
theorem dX2_put_48 : decode cX2_put 48 = .ok (.getfield 15, 3) := by decide +kernel
theorem dX2_put_51 : decode cX2_put 51 = .ok (.iload_n 3, 1) := by decide +kernel
theorem dX2_put_52 : decode cX2_put 52 = .ok (.iload_n 2, 1) := by decide +kernel
theorem dX2_put_53 : decode cX2_put 53 = .ok (.iastore, 1) := by decide +kernel
theorem dX2_put_54 : decode cX2_put 54 = .ok (.aload_n 0, 1) := by decide +kernel
theorem dX2_put_55 : decode cX2_put 55 = .ok (.getfield 18, 3) := by decide +kernel
theorem dX2_put_58 : decode cX2_put 58 = .ok (.iload_n 3, 1) := by decide +kernel
theorem dX2_put_59 : decode cX2_put 59 = .ok (.iconst 0, 1) := by decide +kernel
theorem dX2_put_60 : decode cX2_put 60 = .ok (.iastore, 1) := by decide +kernel
theorem dX2_put_61 : decode cX2_put 61 = .ok (.return_, 1) := by decide +kernel
theorem dX2_removeAt_0 : decode cX2_removeAt 0 = .ok (.iload_n 1, 1) := by decide +kernel
theorem dX2_removeAt_1 : decode cX2_removeAt 1 = .ok (.istore_n 2, 1) := by decide +kernel
theorem dX2_removeAt_2 : decode cX2_removeAt 2 = .ok (.iload_n 2, 1) := by decide +kernel
theorem dX2_removeAt_3 : decode cX2_removeAt 3 = .ok (.aload_n 0, 1) := by decide +kernel
theorem dX2_removeAt_4 : decode cX2_removeAt 4 = .ok (.getfield 21, 3) := by decide +kernel
theorem dX2_removeAt_7 : decode cX2_removeAt 7 = .ok (.iconst 1, 1) := by decide +kernel
theorem dX2_removeAt_8 : decode cX2_removeAt 8 = .ok (.isub, 1) := by decide +kernel
theorem dX2_removeAt_9 : decode cX2_removeAt 9 = .ok (.if_icmp .ge 51, 3) := by decide +kernel
theorem dX2_removeAt_12 : decode cX2_removeAt 12 = .ok (.aload_n 0, 1) := by decide +kernel
theorem dX2_removeAt_13 : decode cX2_removeAt 13 = .ok (.getfield 9, 3) := by decide +kernel
theorem dX2_removeAt_16 : decode cX2_removeAt 16 = .ok (.iload_n 2, 1) := by decide +kernel
theorem dX2_removeAt_17 : decode cX2_removeAt 17 = .ok (.aload_n 0, 1) := by decide +kernel
theorem dX2_removeAt_18 : decode cX2_removeAt 18 = .ok (.getfield 9, 3) := by decide +kernel
theorem dX2_removeAt_21 : decode cX2_removeAt 21 = .ok (.iload_n 2, 1) := by decide +kernel
theorem dX2_removeAt_22 : decode cX2_removeAt 22 = .ok (.iconst 1, 1) := by decide +kernel
theorem dX2_removeAt_23 : decode cX2_removeAt 23 = .ok (.iadd, 1) := by decide +kernel
theorem dX2_removeAt_24 : decode cX2_removeAt 24 = .ok (.iaload, 1) := by decide +kernel
theorem dX2_removeAt_25 : decode cX2_removeAt 25 = .ok (.iastore, 1) := by decide +kernel
theorem dX2_removeAt_26 : decode cX2_removeAt 26 = .ok (.aload_n 0, 1) := by decide +kernel
theorem dX2_removeAt_27 : decode cX2_removeAt 27 = .ok (.getfield 15, 3) := by decide +kernel
theorem dX2_removeAt_30 : decode cX2_removeAt 30 = .ok (.iload_n 2, 1) := by decide +kernel
theorem dX2_removeAt_31 : decode cX2_removeAt 31 = .ok (.aload_n 0, 1) := by decide +kernel
theorem dX2_removeAt_32 : decode cX2_removeAt 32 = .ok (.getfield 15, 3) := by decide +kernel
theorem dX2_removeAt_35 : decode cX2_removeAt 35 = .ok (.iload_n 2, 1) := by decide +kernel
theorem dX2_removeAt_36 : decode cX2_removeAt 36 = .ok (.iconst 1, 1) := by decide +kernel
theorem dX2_removeAt_37 : decode cX2_removeAt 37 = .ok (.iadd, 1) := by decide +kernel
theorem dX2_removeAt_38 : decode cX2_removeAt 38 = .ok (.iaload, 1) := by decide +kernel
theorem dX2_removeAt_39 : decode cX2_removeAt 39 = .ok (.iastore, 1) := by decide +kernel
theorem dX2_removeAt_40 : decode cX2_removeAt 40 = .ok (.aload_n 0, 1) := by decide +kernel
theorem dX2_removeAt_41 : decode cX2_removeAt 41 = .ok (.getfield 18, 3) := by decide +kernel
theorem dX2_removeAt_44 : decode cX2_removeAt 44 = .ok (.iload_n 2, 1) := by decide +kernel
theorem dX2_removeAt_45 : decode cX2_removeAt 45 = .ok (.aload_n 0, 1) := by decide +kernel
theorem dX2_removeAt_46 : decode cX2_removeAt 46 = .ok (.getfield 18, 3) := by decide +kernel
theorem dX2_removeAt_49 : decode cX2_removeAt 49 = .ok (.iload_n 2, 1) := by decide +kernel
theorem dX2_removeAt_50 : decode cX2_removeAt 50 = .ok (.iconst 1, 1) := by decide +kernel
theorem dX2_removeAt_51 : decode cX2_removeAt 51 = .ok (.iadd, 1) := by decide +kernel
theorem dX2_removeAt_52 : decode cX2_removeAt 52 = .ok (.iaload, 1) := by decide +kernel
theorem dX2_removeAt_53 : decode cX2_removeAt 53 = .ok (.iastore, 1) := by decide +kernel
theorem dX2_removeAt_54 : decode cX2_removeAt 54 = .ok (.iinc 2 1, 3) := by decide +kernel
theorem dX2_removeAt_57 : decode cX2_removeAt 57 = .ok (.goto (-55), 3) := by decide +kernel
theorem dX2_removeAt_60 : decode cX2_removeAt 60 = .ok (.aload_n 0, 1) := by decide +kernel
theorem dX2_removeAt_61 : decode cX2_removeAt 61 = .ok (.dup, 1) := by decide +kernel
theorem dX2_removeAt_62 : decode cX2_removeAt 62 = .ok (.getfield 21, 3) := by decide +kernel
theorem dX2_removeAt_65 : decode cX2_removeAt 65 = .ok (.iconst 1, 1) := by decide +kernel
theorem dX2_removeAt_66 : decode cX2_removeAt 66 = .ok (.isub, 1) := by decide +kernel
theorem dX2_removeAt_67 : decode cX2_removeAt 67 = .ok (.putfield 21, 3) := by decide +kernel
theorem dX2_removeAt_70 : decode cX2_removeAt 70 = .ok (.return_, 1) := by decide +kernel
theorem dX2_correction_0 : decode cX2_correction 0 = .ok (.iconst 0, 1) := by decide +kernel
theorem dX2_correction_1 : decode cX2_correction 1 = .ok (.istore_n 1, 1) := by decide +kernel
theorem dX2_correction_2 : decode cX2_correction 2 = .ok (.iconst 0, 1) := by decide +kernel
theorem dX2_correction_3 : decode cX2_correction 3 = .ok (.istore_n 2, 1) := by decide +kernel
theorem dX2_correction_4 : decode cX2_correction 4 = .ok (.iconst 0, 1) := by decide +kernel
theorem dX2_correction_5 : decode cX2_correction 5 = .ok (.istore_n 3, 1) := by decide +kernel
theorem dX2_correction_6 : decode cX2_correction 6 = .ok (.iload_n 3, 1) := by decide +kernel
theorem dX2_correction_7 : decode cX2_correction 7 = .ok (.aload_n 0, 1) := by decide +kernel
theorem dX2_correction_8 : decode cX2_correction 8 = .ok (.getfield 21, 3) := by decide +kernel
theorem dX2_correction_11 : decode cX2_correction 11 = .ok (.if_icmp .ge 39, 3) := by decide +kernel
theorem dX2_correction_14 : decode cX2_correction 14 = .ok (.aload_n 0, 1) := by decide +kernel
theorem dX2_correction_15 : decode cX2_correction 15 = .ok (.getfield 25, 3) := by decide +kernel
theorem dX2_correction_18 : decode cX2_correction 18 = .ok (.aload_n 0, 1) := by decide +kernel
theorem dX2_correction_19 : decode cX2_correction 19 = .ok (.getfield 9, 3) := by decide +kernel
theorem dX2_correction_22 : decode cX2_correction 22 = .ok (.iload_n 3, 1) := by decide +kernel
theorem dX2_correction_23 : decode cX2_correction 23 = .ok (.iaload, 1) := by decide +kernel
theorem dX2_correction_24 : decode cX2_correction 24 = .ok (.iaload, 1) := by decide +kernel
theorem dX2_correction_25 : decode cX2_correction 25 = .ok (.istore 4, 2) := by decide +kernel
theorem dX2_correction_27 : decode cX2_correction 27 = .ok (.iload_n 1, 1) := by decide +kernel
theorem dX2_correction_28 : decode cX2_correction 28 = .ok (.aload_n 0, 1) := by decide +kernel
theorem dX2_correction_29 : decode cX2_correction 29 = .ok (.getfield 15, 3) := by decide +kernel
theorem dX2_correction_32 : decode cX2_correction 32 = .ok (.iload_n 3, 1) := by decide +kernel
theorem dX2_correction_33 : decode cX2_correction 33 = .ok (.iaload, 1) := by decide +kernel
theorem dX2_correction_34 : decode cX2_correction 34 = .ok (.iload 4, 2) := by decide +kernel
theorem dX2_correction_36 : decode cX2_correction 36 = .ok (.imul, 1) := by decide +kernel
theorem dX2_correction_37 : decode cX2_correction 37 = .ok (.iadd, 1) := by decide +kernel
theorem dX2_correction_38 : decode cX2_correction 38 = .ok (.istore_n 1, 1) := by decide +kernel
theorem dX2_correction_39 : decode cX2_correction 39 = .ok (.iload_n 2, 1) := by decide +kernel
theorem dX2_correction_40 : decode cX2_correction 40 = .ok (.iload 4, 2) := by decide +kernel
theorem dX2_correction_42 : decode cX2_correction 42 = .ok (.iadd, 1) := by decide +kernel
theorem dX2_correction_43 : decode cX2_correction 43 = .ok (.istore_n 2, 1) := by decide +kernel
theorem dX2_correction_44 : decode cX2_correction 44 = .ok (.iinc 3 1, 3) := by decide +kernel
theorem dX2_correction_47 : decode cX2_correction 47 = .ok (.goto (-41), 3) := by decide +kernel
theorem dX2_correction_50 : decode cX2_correction 50 = .ok (.iload_n 2, 1) := by decide +kernel
theorem dX2_correction_51 : decode cX2_correction 51 = .ok (.ifCond .ne 7, 3) := by decide +kernel
theorem dX2_correction_54 : decode cX2_correction 54 = .ok (.iconst 0, 1) := by decide +kernel
theorem dX2_correction_55 : decode cX2_correction 55 = .ok (.goto 6, 3) := by decide +kernel
theorem dX2_correction_58 : decode cX2_correction 58 = .ok (.iload_n 1, 1) := by decide +kernel
theorem dX2_correction_59 : decode cX2_correction 59 = .ok (.iload_n 2, 1) := by decide +kernel
theorem dX2_correction_60 : decode cX2_correction 60 = .ok (.idiv, 1) := by decide +kernel
theorem dX2_correction_61 : decode cX2_correction 61 = .ok (.ireturn, 1) := by decide +kernel
theorem dX2_compareWith_0 : decode cX2_compareWith 0 = .ok (.iconst 0, 1) := by decide +kernel
theorem dX2_compareWith_1 : decode cX2_compareWith 1 = .ok (.istore_n 2, 1) := by decide +kernel
theorem dX2_compareWith_2 : decode cX2_compareWith 2 = .ok (.aload_n 0, 1) := by decide +kernel
theorem dX2_compareWith_3 : decode cX2_compareWith 3 = .ok (.getfield 21, 3) := by decide +kernel
theorem dX2_compareWith_6 : decode cX2_compareWith 6 = .ok (.iconst 1, 1) := by decide +kernel
theorem dX2_compareWith_7 : decode cX2_compareWith 7 = .ok (.isub, 1) := by decide +kernel
theorem dX2_compareWith_8 : decode cX2_compareWith 8 = .ok (.istore_n 3, 1) := by decide +kernel
theorem dX2_compareWith_9 : decode cX2_compareWith 9 = .ok (.iload_n 3, 1) := by decide +kernel
theorem dX2_compareWith_10 : decode cX2_compareWith 10 = .ok (.ifCond .lt 49, 3) := by decide +kernel
theorem dX2_compareWith_13 : decode cX2_compareWith 13 = .ok (.aload_n 0, 1) := by decide +kernel
theorem dX2_compareWith_14 : decode cX2_compareWith 14 = .ok (.getfield 15, 3) := by decide +kernel
theorem dX2_compareWith_17 : decode cX2_compareWith 17 = .ok (.iload_n 3, 1) := by decide +kernel
theorem dX2_compareWith_18 : decode cX2_compareWith 18 = .ok (.iaload, 1) := by decide +kernel
theorem dX2_compareWith_19 : decode cX2_compareWith 19 = .ok (.iload_n 1, 1) := by decide +kernel
theorem dX2_compareWith_20 : decode cX2_compareWith 20 = .ok (.isub, 1) := by decide +kernel
theorem dX2_compareWith_21 : decode cX2_compareWith 21 = .ok (.invokestatic 32, 3) := by decide +kernel
theorem dX2_compareWith_24 : decode cX2_compareWith 24 = .ok (.istore 4, 2) := by decide +kernel
theorem dX2_compareWith_26 : decode cX2_compareWith 26 = .ok (.aload_n 0, 1) := by decide +kernel
theorem dX2_compareWith_27 : decode cX2_compareWith 27 = .ok (.aload_n 0, 1) := by decide +kernel
theorem dX2_compareWith_28 : decode cX2_compareWith 28 = .ok (.getfield 9, 3) := by decide +kernel
theorem dX2_compareWith_31 : decode cX2_compareWith 31 = .ok (.iload_n 3, 1) := by decide +kernel
theorem dX2_compareWith_32 : decode cX2_compareWith 32 = .ok (.iaload, 1) := by decide +kernel
theorem dX2_compareWith_33 : decode cX2_compareWith 33 = .ok (.iload 4, 2) := by decide +kernel
theorem dX2_compareWith_35 : decode cX2_compareWith 35 = .ok (.invokevirtual 37, 3) := by decide +kernel
theorem dX2_compareWith_38 : decode cX2_compareWith 38 = .ok (.iload 4, 2) := by decide +kernel
theorem dX2_compareWith_40 : decode cX2_compareWith 40 = .ok (.bipush 30, 2) := by decide +kernel
theorem dX2_compareWith_42 : decode cX2_compareWith 42 = .ok (.if_icmp .le 11, 3) := by decide +kernel
theorem dX2_compareWith_45 : decode cX2_compareWith 45 = .ok (.aload_n 0, 1) := by decide +kernel
theorem dX2_compareWith_46 : decode cX2_compareWith 46 = .ok (.iload_n 3, 1) := by decide +kernel
theorem dX2_compareWith_47 : decode cX2_compareWith 47 = .ok (.invokevirtual 41, 3) := by decide +kernel
theorem dX2_compareWith_50 : decode cX2_compareWith 50 = .ok (.iinc 2 1, 3) := by decide +kernel
theorem dX2_compareWith_53 : decode cX2_compareWith 53 = .ok (.iinc 3 (-1), 3) := by decide +kernel
theorem dX2_compareWith_56 : decode cX2_compareWith 56 = .ok (.goto (-47), 3) := by decide +kernel
theorem dX2_compareWith_59 : decode cX2_compareWith 59 = .ok (.iload_n 2, 1) := by decide +kernel
theorem dX2_compareWith_60 : decode cX2_compareWith 60 = .ok (.ireturn, 1) := by decide +kernel
theorem dX2_judge_0 : decode cX2_judge 0 = .ok (.iload_n 2, 1) := by decide +kernel
theorem dX2_judge_1 : decode cX2_judge 1 = .ok (.iconst 5, 1) := by decide +kernel
theorem dX2_judge_2 : decode cX2_judge 2 = .ok (.if_icmp .gt 25, 3) := by decide +kernel
theorem dX2_judge_5 : decode cX2_judge 5 = .ok (.aload_n 0, 1) := by decide +kernel
theorem dX2_judge_6 : decode cX2_judge 6 = .ok (.getfield 25, 3) := by decide +kernel
theorem dX2_judge_9 : decode cX2_judge 9 = .ok (.iload_n 1, 1) := by decide +kernel
theorem dX2_judge_10 : decode cX2_judge 10 = .ok (.aload_n 0, 1) := by decide +kernel
theorem dX2_judge_11 : decode cX2_judge 11 = .ok (.getfield 25, 3) := by decide +kernel
theorem dX2_judge_14 : decode cX2_judge 14 = .ok (.iload_n 1, 1) := by decide +kernel
theorem dX2_judge_15 : decode cX2_judge 15 = .ok (.iaload, 1) := by decide +kernel
theorem dX2_judge_16 : decode cX2_judge 16 = .ok (.iconst 1, 1) := by decide +kernel
theorem dX2_judge_17 : decode cX2_judge 17 = .ok (.iadd, 1) := by decide +kernel
theorem dX2_judge_18 : decode cX2_judge 18 = .ok (.bipush 9, 2) := by decide +kernel
theorem dX2_judge_20 : decode cX2_judge 20 = .ok (.invokestatic 45, 3) := by decide +kernel
theorem dX2_judge_23 : decode cX2_judge 23 = .ok (.iastore, 1) := by decide +kernel
theorem dX2_judge_24 : decode cX2_judge 24 = .ok (.goto 21, 3) := by decide +kernel
theorem dX2_judge_27 : decode cX2_judge 27 = .ok (.aload_n 0, 1) := by decide +kernel
theorem dX2_judge_28 : decode cX2_judge 28 = .ok (.getfield 25, 3) := by decide +kernel
theorem dX2_judge_31 : decode cX2_judge 31 = .ok (.iload_n 1, 1) := by decide +kernel
theorem dX2_judge_32 : decode cX2_judge 32 = .ok (.aload_n 0, 1) := by decide +kernel
theorem dX2_judge_33 : decode cX2_judge 33 = .ok (.getfield 25, 3) := by decide +kernel
theorem dX2_judge_36 : decode cX2_judge 36 = .ok (.iload_n 1, 1) := by decide +kernel
theorem dX2_judge_37 : decode cX2_judge 37 = .ok (.iaload, 1) := by decide +kernel
theorem dX2_judge_38 : decode cX2_judge 38 = .ok (.iconst 1, 1) := by decide +kernel
theorem dX2_judge_39 : decode cX2_judge 39 = .ok (.isub, 1) := by decide +kernel
theorem dX2_judge_40 : decode cX2_judge 40 = .ok (.iconst 1, 1) := by decide +kernel
theorem dX2_judge_41 : decode cX2_judge 41 = .ok (.invokestatic 49, 3) := by decide +kernel
theorem dX2_judge_44 : decode cX2_judge 44 = .ok (.iastore, 1) := by decide +kernel
theorem dX2_judge_45 : decode cX2_judge 45 = .ok (.return_, 1) := by decide +kernel
theorem dX2_growOlder_0 : decode cX2_growOlder 0 = .ok (.aload_n 0, 1) := by decide +kernel
theorem dX2_growOlder_1 : decode cX2_growOlder 1 = .ok (.getfield 21, 3) := by decide +kernel
theorem dX2_growOlder_4 : decode cX2_growOlder 4 = .ok (.iconst 1, 1) := by decide +kernel
theorem dX2_growOlder_5 : decode cX2_growOlder 5 = .ok (.isub, 1) := by decide +kernel
theorem dX2_growOlder_6 : decode cX2_growOlder 6 = .ok (.istore_n 2, 1) := by decide +kernel
theorem dX2_growOlder_7 : decode cX2_growOlder 7 = .ok (.iload_n 2, 1) := by decide +kernel
theorem dX2_growOlder_8 : decode cX2_growOlder 8 = .ok (.ifCond .lt 35, 3) := by decide +kernel
theorem dX2_growOlder_11 : decode cX2_growOlder 11 = .ok (.aload_n 0, 1) := by decide +kernel
theorem dX2_growOlder_12 : decode cX2_growOlder 12 = .ok (.getfield 18, 3) := by decide +kernel
theorem dX2_growOlder_15 : decode cX2_growOlder 15 = .ok (.iload_n 2, 1) := by decide +kernel
theorem dX2_growOlder_16 : decode cX2_growOlder 16 = .ok (.dup2, 1) := by decide +kernel
theorem dX2_growOlder_17 : decode cX2_growOlder 17 = .ok (.iaload, 1) := by decide +kernel
theorem dX2_growOlder_18 : decode cX2_growOlder 18 = .ok (.iload_n 1, 1) := by decide +kernel
theorem dX2_growOlder_19 : decode cX2_growOlder 19 = .ok (.iadd, 1) := by decide +kernel
theorem dX2_growOlder_20 : decode cX2_growOlder 20 = .ok (.iastore, 1) := by decide +kernel
theorem dX2_growOlder_21 : decode cX2_growOlder 21 = .ok (.aload_n 0, 1) := by decide +kernel
theorem dX2_growOlder_22 : decode cX2_growOlder 22 = .ok (.getfield 18, 3) := by decide +kernel
theorem dX2_growOlder_25 : decode cX2_growOlder 25 = .ok (.iload_n 2, 1) := by decide +kernel
theorem dX2_growOlder_26 : decode cX2_growOlder 26 = .ok (.iaload, 1) := by decide +kernel
theorem dX2_growOlder_27 : decode cX2_growOlder 27 = .ok (.bipush 10, 2) := by decide +kernel
theorem dX2_growOlder_29 : decode cX2_growOlder 29 = .ok (.if_icmp .lt 8, 3) := by decide +kernel
theorem dX2_growOlder_32 : decode cX2_growOlder 32 = .ok (.aload_n 0, 1) := by decide +kernel
theorem dX2_growOlder_33 : decode cX2_growOlder 33 = .ok (.iload_n 2, 1) := by decide +kernel
theorem dX2_growOlder_34 : decode cX2_growOlder 34 = .ok (.invokevirtual 41, 3) := by decide +kernel
theorem dX2_growOlder_37 : decode cX2_growOlder 37 = .ok (.iinc 2 (-1), 3) := by decide +kernel
theorem dX2_growOlder_40 : decode cX2_growOlder 40 = .ok (.goto (-33), 3) := by decide +kernel
theorem dX2_growOlder_43 : decode cX2_growOlder 43 = .ok (.return_, 1) := by decide +kernel
theorem dX3_init_0 : decode cX3_init 0 = .ok (.aload_n 0, 1) := by decide +kernel
theorem dX3_init_1 : decode cX3_init 1 = .ok (.invokespecial 3, 3) := by decide +kernel
theorem dX3_init_4 : decode cX3_init 4 = .ok (.aload_n 0, 1) := by decide +kernel
theorem dX3_init_5 : decode cX3_init 5 = .ok (.iconst 4, 1) := by decide +kernel
theorem dX3_init_6 : decode cX3_init 6 = .ok (.newarray .int, 2) := by decide +kernel
theorem dX3_init_8 : decode cX3_init 8 = .ok (.putfield 9, 3) := by decide +kernel
theorem dX3_init_11 : decode cX3_init 11 = .ok (.aload_n 0, 1) := by decide +kernel
theorem dX3_init_12 : decode cX3_init 12 = .ok (.iconst 4, 1) := by decide +kernel
theorem dX3_init_13 : decode cX3_init 13 = .ok (.newarray .int, 2) := by decide +kernel
theorem dX3_init_15 : decode cX3_init 15 = .ok (.putfield 15, 3) := by decide +kernel
theorem dX3_init_18 : decode cX3_init 18 = .ok (.aload_n 0, 1) := by decide +kernel
theorem dX3_init_19 : decode cX3_init 19 = .ok (.iconst 4, 1) := by decide +kernel
theorem dX3_init_20 : decode cX3_init 20 = .ok (.newarray .boolean, 2) := by decide +kernel
theorem dX3_init_22 : decode cX3_init 22 = .ok (.putfield 18, 3) := by decide +kernel
theorem dX3_init_25 : decode cX3_init 25 = .ok (.aload_n 0, 1) := by decide +kernel
theorem dX3_init_26 : decode cX3_init 26 = .ok (.iconst 0, 1) := by decide +kernel
theorem dX3_init_27 : decode cX3_init 27 = .ok (.putfield 22, 3) := by decide +kernel
theorem dX3_init_30 : decode cX3_init 30 = .ok (.return_, 1) := by decide +kernel
theorem dX3_fill_0 : decode cX3_fill 0 = .ok (.aload_n 1, 1) := by decide +kernel
theorem dX3_fill_1 : decode cX3_fill 1 = .ok (.iload_n 2, 1) := by decide +kernel
theorem dX3_fill_2 : decode cX3_fill 2 = .ok (.invokevirtual 26, 3) := by decide +kernel
theorem dX3_fill_5 : decode cX3_fill 5 = .ok (.iconst 2, 1) := by decide +kernel
theorem dX3_fill_6 : decode cX3_fill 6 = .ok (.idiv, 1) := by decide +kernel
theorem dX3_fill_7 : decode cX3_fill 7 = .ok (.istore_n 3, 1) := by decide +kernel
theorem dX3_fill_8 : decode cX3_fill 8 = .ok (.aload_n 1, 1) := by decide +kernel
theorem dX3_fill_9 : decode cX3_fill 9 = .ok (.iload_n 2, 1) := by decide +kernel
theorem dX3_fill_10 : decode cX3_fill 10 = .ok (.iconst 0, 1) := by decide +kernel
theorem dX3_fill_11 : decode cX3_fill 11 = .ok (.invokevirtual 32, 3) := by decide +kernel
theorem dX3_fill_14 : decode cX3_fill 14 = .ok (.istore 4, 2) := by decide +kernel
theorem dX3_fill_16 : decode cX3_fill 16 = .ok (.iconst 1, 1) := by decide +kernel
theorem dX3_fill_17 : decode cX3_fill 17 = .ok (.istore 5, 2) := by decide +kernel
theorem dX3_fill_19 : decode cX3_fill 19 = .ok (.iload 4, 2) := by decide +kernel
theorem dX3_fill_21 : decode cX3_fill 21 = .ok (.sipush 373, 3) := by decide +kernel
theorem dX3_fill_24 : decode cX3_fill 24 = .ok (.if_icmp .lt 12, 3) := by decide +kernel
theorem dX3_fill_27 : decode cX3_fill 27 = .ok (.iinc 4 (-373), 6) := by decide +kernel
theorem dX3_fill_33 : decode cX3_fill 33 = .ok (.iconst 0, 1) := by decide +kernel
theorem dX3_fill_34 : decode cX3_fill 34 = .ok (.istore 5, 2) := by decide +kernel
theorem dX3_fill_36 : decode cX3_fill 36 = .ok (.aload_n 0, 1) := by decide +kernel
theorem dX3_fill_37 : decode cX3_fill 37 = .ok (.iconst 0, 1) := by decide +kernel
theorem dX3_fill_38 : decode cX3_fill 38 = .ok (.putfield 22, 3) := by decide +kernel
theorem dX3_fill_41 : decode cX3_fill 41 = .ok (.aload_n 0, 1) := by decide +kernel
theorem dX3_fill_42 : decode cX3_fill 42 = .ok (.getfield 22, 3) := by decide +kernel
theorem dX3_fill_45 : decode cX3_fill 45 = .ok (.iconst 4, 1) := by decide +kernel
theorem dX3_fill_46 : decode cX3_fill 46 = .ok (.if_icmp .ge 106, 3) := by decide +kernel
theorem dX3_fill_49 : decode cX3_fill 49 = .ok (.iload 4, 2) := by decide +kernel
theorem dX3_fill_51 : decode cX3_fill 51 = .ok (.sipush 1440, 3) := by decide +kernel
theorem dX3_fill_54 : decode cX3_fill 54 = .ok (.if_icmp .ge 98, 3) := by decide +kernel
theorem dX3_fill_57 : decode cX3_fill 57 = .ok (.aload_n 0, 1) := by decide +kernel
theorem dX3_fill_58 : decode cX3_fill 58 = .ok (.getfield 9, 3) := by decide +kernel
theorem dX3_fill_61 : decode cX3_fill 61 = .ok (.aload_n 0, 1) := by decide +kernel
theorem dX3_fill_62 : decode cX3_fill 62 = .ok (.getfield 22, 3) := by decide +kernel
theorem dX3_fill_65 : decode cX3_fill 65 = .ok (.iload 4, 2) := by decide +kernel
theorem dX3_fill_67 : decode cX3_fill 67 = .ok (.iastore, 1) := by decide +kernel
theorem dX3_fill_68 : decode cX3_fill 68 = .ok (.aload_n 0, 1) := by decide +kernel
theorem dX3_fill_69 : decode cX3_fill 69 = .ok (.getfield 15, 3) := by decide +kernel
theorem dX3_fill_72 : decode cX3_fill 72 = .ok (.aload_n 0, 1) := by decide +kernel
theorem dX3_fill_73 : decode cX3_fill 73 = .ok (.getfield 22, 3) := by decide +kernel
theorem dX3_fill_76 : decode cX3_fill 76 = .ok (.iload 5, 2) := by decide +kernel
theorem dX3_fill_78 : decode cX3_fill 78 = .ok (.ifCond .eq 12, 3) := by decide +kernel
theorem dX3_fill_81 : decode cX3_fill 81 = .ok (.aload_n 1, 1) := by decide +kernel
theorem dX3_fill_82 : decode cX3_fill 82 = .ok (.getfield 36, 3) := by decide +kernel
theorem dX3_fill_85 : decode cX3_fill 85 = .ok (.iload_n 3, 1) := by decide +kernel
theorem dX3_fill_86 : decode cX3_fill 86 = .ok (.iadd, 1) := by decide +kernel
theorem dX3_fill_87 : decode cX3_fill 87 = .ok (.goto 9, 3) := by decide +kernel
theorem dX3_fill_90 : decode cX3_fill 90 = .ok (.aload_n 1, 1) := by decide +kernel
theorem dX3_fill_91 : decode cX3_fill 91 = .ok (.getfield 36, 3) := by decide +kernel
theorem dX3_fill_94 : decode cX3_fill 94 = .ok (.iload_n 3, 1) := by decide +kernel
theorem dX3_fill_95 : decode cX3_fill 95 = .ok (.isub, 1) := by decide +kernel
theorem dX3_fill_96 : decode cX3_fill 96 = .ok (.iastore, 1) := by decide +kernel
theorem dX3_fill_97 : decode cX3_fill 97 = .ok (.aload_n 0, 1) := by decide +kernel
theorem dX3_fill_98 : decode cX3_fill 98 = .ok (.getfield 18, 3) := by decide +kernel
theorem dX3_fill_101 : decode cX3_fill 101 = .ok (.aload_n 0, 1) := by decide +kernel
theorem dX3_fill_102 : decode cX3_fill 102 = .ok (.getfield 22, 3) := by decide +kernel
theorem dX3_fill_105 : decode cX3_fill 105 = .ok (.iload 5, 2) := by decide +kernel
theorem dX3_fill_107 : decode cX3_fill 107 = .ok (.bastore, 1) := by decide +kernel
theorem dX3_fill_108 : decode cX3_fill 108 = .ok (.aload_n 0, 1) := by decide +kernel
theorem dX3_fill_109 : decode cX3_fill 109 = .ok (.dup, 1) := by decide +kernel
theorem dX3_fill_110 : decode cX3_fill 110 = .ok (.getfield 22, 3) := by decide +kernel
theorem dX3_fill_113 : decode cX3_fill 113 = .ok (.iconst 1, 1) := by decide +kernel
theorem dX3_fill_114 : decode cX3_fill 114 = .ok (.iadd, 1) := by decide +kernel
theorem dX3_fill_115 : decode cX3_fill 115 = .ok (.putfield 22, 3) := by decide +kernel
theorem dX3_fill_118 : decode cX3_fill 118 = .ok (.iload 4, 2) := by decide +kernel
theorem dX3_fill_120 : decode cX3_fill 120 = .ok (.iload 5, 2) := by decide +kernel
theorem dX3_fill_122 : decode cX3_fill 122 = .ok (.ifCond .eq 9, 3) := by decide +kernel
theorem dX3_fill_125 : decode cX3_fill 125 = .ok (.sipush 372, 3) := by decide +kernel
theorem dX3_fill_128 : decode cX3_fill 128 = .ok (.goto 6, 3) := by decide +kernel
theorem dX3_fill_131 : decode cX3_fill 131 = .ok (.sipush 373, 3) := by decide +kernel
theorem dX3_fill_134 : decode cX3_fill 134 = .ok (.iadd, 1) := by decide +kernel
theorem dX3_fill_135 : decode cX3_fill 135 = .ok (.istore 4, 2) := by decide +kernel
theorem dX3_fill_137 : decode cX3_fill 137 = .ok (.iload 5, 2) := by decide +kernel
theorem dX3_fill_139 : decode cX3_fill 139 = .ok (.ifCond .ne 7, 3) := by decide +kernel
theorem dX3_fill_142 : decode cX3_fill 142 = .ok (.iconst 1, 1) := by decide +kernel
theorem dX3_fill_143 : decode cX3_fill 143 = .ok (.goto 4, 3) := by decide +kernel
theorem dX3_fill_146 : decode cX3_fill 146 = .ok (.iconst 0, 1) := by decide +kernel
theorem dX3_fill_147 : decode cX3_fill 147 = .ok (.istore 5, 2) := by decide +kernel
theorem dX3_fill_149 : decode cX3_fill 149 = .ok (.goto (-108), 3) := by decide +kernel
theorem dX3_fill_152 : decode cX3_fill 152 = .ok (.return_, 1) := by decide +kernel
theorem dX3_matches_0 : decode cX3_matches 0 = .ok (.aload_n 0, 1) := by decide +kernel
theorem dX3_matches_1 : decode cX3_matches 1 = .ok (.getfield 22, 3) := by decide +kernel
theorem dX3_matches_4 : decode cX3_matches 4 = .ok (.aload_n 1, 1) := by decide +kernel
theorem dX3_matches_5 : decode cX3_matches 5 = .ok (.getfield 22, 3) := by decide +kernel
theorem dX3_matches_8 : decode cX3_matches 8 = .ok (.if_icmp .eq 5, 3) := by decide +kernel
theorem dX3_matches_11 : decode cX3_matches 11 = .ok (.iconst 0, 1) := by decide +kernel
theorem dX3_matches_12 : decode cX3_matches 12 = .ok (.ireturn, 1) := by decide +kernel
theorem dX3_matches_13 : decode cX3_matches 13 = .ok (.iconst 0, 1) := by decide +kernel
theorem dX3_matches_14 : decode cX3_matches 14 = .ok (.istore_n 2, 1) := by decide +kernel
theorem dX3_matches_15 : decode cX3_matches 15 = .ok (.iload_n 2, 1) := by decide +kernel
theorem dX3_matches_16 : decode cX3_matches 16 = .ok (.aload_n 0, 1) := by decide +kernel
theorem dX3_matches_17 : decode cX3_matches 17 = .ok (.getfield 22, 3) := by decide +kernel
theorem dX3_matches_20 : decode cX3_matches 20 = .ok (.if_icmp .ge 56, 3) := by decide +kernel
theorem dX3_matches_23 : decode cX3_matches 23 = .ok (.aload_n 0, 1) := by decide +kernel
theorem dX3_matches_24 : decode cX3_matches 24 = .ok (.getfield 9, 3) := by decide +kernel
theorem dX3_matches_27 : decode cX3_matches 27 = .ok (.iload_n 2, 1) := by decide +kernel
theorem dX3_matches_28 : decode cX3_matches 28 = .ok (.iaload, 1) := by decide +kernel
theorem dX3_matches_29 : decode cX3_matches 29 = .ok (.aload_n 1, 1) := by decide +kernel
theorem dX3_matches_30 : decode cX3_matches 30 = .ok (.getfield 9, 3) := by decide +kernel
theorem dX3_matches_33 : decode cX3_matches 33 = .ok (.iload_n 2, 1) := by decide +kernel
theorem dX3_matches_34 : decode cX3_matches 34 = .ok (.iaload, 1) := by decide +kernel
theorem dX3_matches_35 : decode cX3_matches 35 = .ok (.if_icmp .ne 33, 3) := by decide +kernel
theorem dX3_matches_38 : decode cX3_matches 38 = .ok (.aload_n 0, 1) := by decide +kernel
theorem dX3_matches_39 : decode cX3_matches 39 = .ok (.getfield 15, 3) := by decide +kernel
theorem dX3_matches_42 : decode cX3_matches 42 = .ok (.iload_n 2, 1) := by decide +kernel
theorem dX3_matches_43 : decode cX3_matches 43 = .ok (.iaload, 1) := by decide +kernel
theorem dX3_matches_44 : decode cX3_matches 44 = .ok (.aload_n 1, 1) := by decide +kernel
theorem dX3_matches_45 : decode cX3_matches 45 = .ok (.getfield 15, 3) := by decide +kernel
theorem dX3_matches_48 : decode cX3_matches 48 = .ok (.iload_n 2, 1) := by decide +kernel
theorem dX3_matches_49 : decode cX3_matches 49 = .ok (.iaload, 1) := by decide +kernel
theorem dX3_matches_50 : decode cX3_matches 50 = .ok (.if_icmp .ne 18, 3) := by decide +kernel
theorem dX3_matches_53 : decode cX3_matches 53 = .ok (.aload_n 0, 1) := by decide +kernel
theorem dX3_matches_54 : decode cX3_matches 54 = .ok (.getfield 18, 3) := by decide +kernel
theorem dX3_matches_57 : decode cX3_matches 57 = .ok (.iload_n 2, 1) := by decide +kernel
theorem dX3_matches_58 : decode cX3_matches 58 = .ok (.baload, 1) := by decide +kernel
theorem dX3_matches_59 : decode cX3_matches 59 = .ok (.aload_n 1, 1) := by decide +kernel
theorem dX3_matches_60 : decode cX3_matches 60 = .ok (.getfield 18, 3) := by decide +kernel
theorem dX3_matches_63 : decode cX3_matches 63 = .ok (.iload_n 2, 1) := by decide +kernel
theorem dX3_matches_64 : decode cX3_matches 64 = .ok (.baload, 1) := by decide +kernel
theorem dX3_matches_65 : decode cX3_matches 65 = .ok (.if_icmp .eq 5, 3) := by decide +kernel
theorem dX3_matches_68 : decode cX3_matches 68 = .ok (.iconst 0, 1) := by decide +kernel
theorem dX3_matches_69 : decode cX3_matches 69 = .ok (.ireturn, 1) := by decide +kernel
theorem dX3_matches_70 : decode cX3_matches 70 = .ok (.iinc 2 1, 3) := by decide +kernel
theorem dX3_matches_73 : decode cX3_matches 73 = .ok (.goto (-58), 3) := by decide +kernel
theorem dX3_matches_76 : decode cX3_matches 76 = .ok (.iconst 1, 1) := by decide +kernel
theorem dX3_matches_77 : decode cX3_matches 77 = .ok (.ireturn, 1) := by decide +kernel
theorem dX4_init_0 : decode cX4_init 0 = .ok (.aload_n 0, 1) := by decide +kernel
theorem dX4_init_1 : decode cX4_init 1 = .ok (.invokespecial 3, 3) := by decide +kernel
theorem dX4_init_4 : decode cX4_init 4 = .ok (.aload_n 0, 1) := by decide +kernel
theorem dX4_init_5 : decode cX4_init 5 = .ok (.bipush 12, 2) := by decide +kernel
theorem dX4_init_7 : decode cX4_init 7 = .ok (.newarray .int, 2) := by decide +kernel
theorem dX4_init_9 : decode cX4_init 9 = .ok (.putfield 9, 3) := by decide +kernel
theorem dX4_init_12 : decode cX4_init 12 = .ok (.aload_n 0, 1) := by decide +kernel
theorem dX4_init_13 : decode cX4_init 13 = .ok (.iconst 0, 1) := by decide +kernel
theorem dX4_init_14 : decode cX4_init 14 = .ok (.putfield 15, 3) := by decide +kernel
theorem dX4_init_17 : decode cX4_init 17 = .ok (.aload_n 0, 1) := by decide +kernel
theorem dX4_init_18 : decode cX4_init 18 = .ok (.iconst 0, 1) := by decide +kernel
theorem dX4_init_19 : decode cX4_init 19 = .ok (.putfield 19, 3) := by decide +kernel
theorem dX4_init_22 : decode cX4_init 22 = .ok (.return_, 1) := by decide +kernel
theorem dX4_add_0 : decode cX4_add 0 = .ok (.aload_n 0, 1) := by decide +kernel
theorem dX4_add_1 : decode cX4_add 1 = .ok (.getfield 15, 3) := by decide +kernel
theorem dX4_add_4 : decode cX4_add 4 = .ok (.bipush 12, 2) := by decide +kernel
theorem dX4_add_6 : decode cX4_add 6 = .ok (.if_icmp .ge 23, 3) := by decide +kernel
theorem dX4_add_9 : decode cX4_add 9 = .ok (.aload_n 0, 1) := by decide +kernel
theorem dX4_add_10 : decode cX4_add 10 = .ok (.getfield 9, 3) := by decide +kernel
theorem dX4_add_13 : decode cX4_add 13 = .ok (.aload_n 0, 1) := by decide +kernel
theorem dX4_add_14 : decode cX4_add 14 = .ok (.getfield 15, 3) := by decide +kernel
theorem dX4_add_17 : decode cX4_add 17 = .ok (.iload_n 1, 1) := by decide +kernel
theorem dX4_add_18 : decode cX4_add 18 = .ok (.iastore, 1) := by decide +kernel
theorem dX4_add_19 : decode cX4_add 19 = .ok (.aload_n 0, 1) := by decide +kernel
theorem dX4_add_20 : decode cX4_add 20 = .ok (.dup, 1) := by decide +kernel
theorem dX4_add_21 : decode cX4_add 21 = .ok (.getfield 15, 3) := by decide +kernel
theorem dX4_add_24 : decode cX4_add 24 = .ok (.iconst 1, 1) := by decide +kernel
theorem dX4_add_25 : decode cX4_add 25 = .ok (.iadd, 1) := by decide +kernel
theorem dX4_add_26 : decode cX4_add 26 = .ok (.putfield 15, 3) := by decide +kernel
theorem dX4_add_29 : decode cX4_add 29 = .ok (.return_, 1) := by decide +kernel
theorem dX4_inOldest_0 : decode cX4_inOldest 0 = .ok (.iconst 0, 1) := by decide +kernel
theorem dX4_inOldest_1 : decode cX4_inOldest 1 = .ok (.istore_n 2, 1) := by decide +kernel
theorem dX4_inOldest_2 : decode cX4_inOldest 2 = .ok (.iconst 0, 1) := by decide +kernel
end
section
theorem dX4_inOldest_3 : decode cX4_inOldest 3 = .ok (.istore_n 3, 1) := by decide +kernel
theorem dX4_inOldest_4 : decode cX4_inOldest 4 = .ok (.iload_n 3, 1) := by decide +kernel
theorem dX4_inOldest_5 : decode cX4_inOldest 5 = .ok (.iload_n 1, 1) := by decide +kernel
theorem dX4_inOldest_6 : decode cX4_inOldest 6 = .ok (.if_icmp .ge 18, 3) := by decide +kernel
theorem dX4_inOldest_9 : decode cX4_inOldest 9 = .ok (.iload_n 2, 1) := by decide +kernel
theorem dX4_inOldest_10 : decode cX4_inOldest 10 = .ok (.aload_n 0, 1) := by decide +kernel
theorem dX4_inOldest_11 : decode cX4_inOldest 11 = .ok (.getfield 9, 3) := by decide +kernel
theorem dX4_inOldest_14 : decode cX4_inOldest 14 = .ok (.iload_n 3, 1) := by decide +kernel
theorem dX4_inOldest_15 : decode cX4_inOldest 15 = .ok (.iaload, 1) := by decide +kernel
theorem dX4_inOldest_16 : decode cX4_inOldest 16 = .ok (.iadd, 1) := by decide +kernel
theorem dX4_inOldest_17 : decode cX4_inOldest 17 = .ok (.istore_n 2, 1) := by decide +kernel
theorem dX4_inOldest_18 : decode cX4_inOldest 18 = .ok (.iinc 3 1, 3) := by decide +kernel
theorem dX4_inOldest_21 : decode cX4_inOldest 21 = .ok (.goto (-17), 3) := by decide +kernel
theorem dX4_inOldest_24 : decode cX4_inOldest 24 = .ok (.iload_n 2, 1) := by decide +kernel
theorem dX4_inOldest_25 : decode cX4_inOldest 25 = .ok (.ireturn, 1) := by decide +kernel
theorem dX4_take_0 : decode cX4_take 0 = .ok (.aload_n 0, 1) := by decide +kernel
theorem dX4_take_1 : decode cX4_take 1 = .ok (.iload_n 1, 1) := by decide +kernel
theorem dX4_take_2 : decode cX4_take 2 = .ok (.invokevirtual 22, 3) := by decide +kernel
theorem dX4_take_5 : decode cX4_take 5 = .ok (.istore_n 2, 1) := by decide +kernel
theorem dX4_take_6 : decode cX4_take 6 = .ok (.iload_n 2, 1) := by decide +kernel
theorem dX4_take_7 : decode cX4_take 7 = .ok (.iconst (-1), 1) := by decide +kernel
theorem dX4_take_8 : decode cX4_take 8 = .ok (.if_icmp .ne 5, 3) := by decide +kernel
theorem dX4_take_11 : decode cX4_take 11 = .ok (.iconst 0, 1) := by decide +kernel
theorem dX4_take_12 : decode cX4_take 12 = .ok (.ireturn, 1) := by decide +kernel
theorem dX4_take_13 : decode cX4_take 13 = .ok (.aload_n 0, 1) := by decide +kernel
theorem dX4_take_14 : decode cX4_take 14 = .ok (.dup, 1) := by decide +kernel
theorem dX4_take_15 : decode cX4_take 15 = .ok (.getfield 19, 3) := by decide +kernel
theorem dX4_take_18 : decode cX4_take 18 = .ok (.aload_n 0, 1) := by decide +kernel
theorem dX4_take_19 : decode cX4_take 19 = .ok (.iload_n 2, 1) := by decide +kernel
theorem dX4_take_20 : decode cX4_take 20 = .ok (.invokevirtual 26, 3) := by decide +kernel
theorem dX4_take_23 : decode cX4_take 23 = .ok (.iadd, 1) := by decide +kernel
theorem dX4_take_24 : decode cX4_take 24 = .ok (.putfield 19, 3) := by decide +kernel
theorem dX4_take_27 : decode cX4_take 27 = .ok (.aload_n 0, 1) := by decide +kernel
theorem dX4_take_28 : decode cX4_take 28 = .ok (.getfield 9, 3) := by decide +kernel
theorem dX4_take_31 : decode cX4_take 31 = .ok (.iload_n 2, 1) := by decide +kernel
theorem dX4_take_32 : decode cX4_take 32 = .ok (.dup2, 1) := by decide +kernel
theorem dX4_take_33 : decode cX4_take 33 = .ok (.iaload, 1) := by decide +kernel
theorem dX4_take_34 : decode cX4_take 34 = .ok (.iload_n 1, 1) := by decide +kernel
theorem dX4_take_35 : decode cX4_take 35 = .ok (.isub, 1) := by decide +kernel
theorem dX4_take_36 : decode cX4_take 36 = .ok (.iastore, 1) := by decide +kernel
theorem dX4_take_37 : decode cX4_take 37 = .ok (.aload_n 0, 1) := by decide +kernel
theorem dX4_take_38 : decode cX4_take 38 = .ok (.aload_n 0, 1) := by decide +kernel
theorem dX4_take_39 : decode cX4_take 39 = .ok (.getfield 9, 3) := by decide +kernel
theorem dX4_take_42 : decode cX4_take 42 = .ok (.iload_n 2, 1) := by decide +kernel
theorem dX4_take_43 : decode cX4_take 43 = .ok (.iaload, 1) := by decide +kernel
theorem dX4_take_44 : decode cX4_take 44 = .ok (.ifCond .ne 9, 3) := by decide +kernel
theorem dX4_take_47 : decode cX4_take 47 = .ok (.iload_n 2, 1) := by decide +kernel
theorem dX4_take_48 : decode cX4_take 48 = .ok (.iconst 1, 1) := by decide +kernel
theorem dX4_take_49 : decode cX4_take 49 = .ok (.iadd, 1) := by decide +kernel
theorem dX4_take_50 : decode cX4_take 50 = .ok (.goto 4, 3) := by decide +kernel
theorem dX4_take_53 : decode cX4_take 53 = .ok (.iload_n 2, 1) := by decide +kernel
theorem dX4_take_54 : decode cX4_take 54 = .ok (.invokevirtual 29, 3) := by decide +kernel
theorem dX4_take_57 : decode cX4_take 57 = .ok (.iconst 1, 1) := by decide +kernel
theorem dX4_take_58 : decode cX4_take 58 = .ok (.ireturn, 1) := by decide +kernel
theorem dX4_oldestWith_0 : decode cX4_oldestWith 0 = .ok (.iconst 0, 1) := by decide +kernel
theorem dX4_oldestWith_1 : decode cX4_oldestWith 1 = .ok (.istore_n 2, 1) := by decide +kernel
theorem dX4_oldestWith_2 : decode cX4_oldestWith 2 = .ok (.iload_n 2, 1) := by decide +kernel
theorem dX4_oldestWith_3 : decode cX4_oldestWith 3 = .ok (.aload_n 0, 1) := by decide +kernel
theorem dX4_oldestWith_4 : decode cX4_oldestWith 4 = .ok (.getfield 15, 3) := by decide +kernel
theorem dX4_oldestWith_7 : decode cX4_oldestWith 7 = .ok (.if_icmp .ge 21, 3) := by decide +kernel
theorem dX4_oldestWith_10 : decode cX4_oldestWith 10 = .ok (.aload_n 0, 1) := by decide +kernel
theorem dX4_oldestWith_11 : decode cX4_oldestWith 11 = .ok (.getfield 9, 3) := by decide +kernel
theorem dX4_oldestWith_14 : decode cX4_oldestWith 14 = .ok (.iload_n 2, 1) := by decide +kernel
theorem dX4_oldestWith_15 : decode cX4_oldestWith 15 = .ok (.iaload, 1) := by decide +kernel
theorem dX4_oldestWith_16 : decode cX4_oldestWith 16 = .ok (.iload_n 1, 1) := by decide +kernel
theorem dX4_oldestWith_17 : decode cX4_oldestWith 17 = .ok (.if_icmp .lt 5, 3) := by decide +kernel
theorem dX4_oldestWith_20 : decode cX4_oldestWith 20 = .ok (.iload_n 2, 1) := by decide +kernel
theorem dX4_oldestWith_21 : decode cX4_oldestWith 21 = .ok (.ireturn, 1) := by decide +kernel
theorem dX4_oldestWith_22 : decode cX4_oldestWith 22 = .ok (.iinc 2 1, 3) := by decide +kernel
theorem dX4_oldestWith_25 : decode cX4_oldestWith 25 = .ok (.goto (-23), 3) := by decide +kernel
theorem dX4_oldestWith_28 : decode cX4_oldestWith 28 = .ok (.iconst (-1), 1) := by decide +kernel
theorem dX4_oldestWith_29 : decode cX4_oldestWith 29 = .ok (.ireturn, 1) := by decide +kernel
theorem dX4_removeOldest_0 : decode cX4_removeOldest 0 = .ok (.iload_n 1, 1) := by decide +kernel
theorem dX4_removeOldest_1 : decode cX4_removeOldest 1 = .ok (.istore_n 2, 1) := by decide +kernel
theorem dX4_removeOldest_2 : decode cX4_removeOldest 2 = .ok (.iload_n 2, 1) := by decide +kernel
theorem dX4_removeOldest_3 : decode cX4_removeOldest 3 = .ok (.aload_n 0, 1) := by decide +kernel
theorem dX4_removeOldest_4 : decode cX4_removeOldest 4 = .ok (.getfield 15, 3) := by decide +kernel
theorem dX4_removeOldest_7 : decode cX4_removeOldest 7 = .ok (.if_icmp .ge 23, 3) := by decide +kernel
theorem dX4_removeOldest_10 : decode cX4_removeOldest 10 = .ok (.aload_n 0, 1) := by decide +kernel
theorem dX4_removeOldest_11 : decode cX4_removeOldest 11 = .ok (.getfield 9, 3) := by decide +kernel
theorem dX4_removeOldest_14 : decode cX4_removeOldest 14 = .ok (.iload_n 2, 1) := by decide +kernel
theorem dX4_removeOldest_15 : decode cX4_removeOldest 15 = .ok (.iload_n 1, 1) := by decide +kernel
theorem dX4_removeOldest_16 : decode cX4_removeOldest 16 = .ok (.isub, 1) := by decide +kernel
theorem dX4_removeOldest_17 : decode cX4_removeOldest 17 = .ok (.aload_n 0, 1) := by decide +kernel
theorem dX4_removeOldest_18 : decode cX4_removeOldest 18 = .ok (.getfield 9, 3) := by decide +kernel
theorem dX4_removeOldest_21 : decode cX4_removeOldest 21 = .ok (.iload_n 2, 1) := by decide +kernel
theorem dX4_removeOldest_22 : decode cX4_removeOldest 22 = .ok (.iaload, 1) := by decide +kernel
theorem dX4_removeOldest_23 : decode cX4_removeOldest 23 = .ok (.iastore, 1) := by decide +kernel
theorem dX4_removeOldest_24 : decode cX4_removeOldest 24 = .ok (.iinc 2 1, 3) := by decide +kernel
theorem dX4_removeOldest_27 : decode cX4_removeOldest 27 = .ok (.goto (-25), 3) := by decide +kernel
theorem dX4_removeOldest_30 : decode cX4_removeOldest 30 = .ok (.aload_n 0, 1) := by decide +kernel
theorem dX4_removeOldest_31 : decode cX4_removeOldest 31 = .ok (.dup, 1) := by decide +kernel
theorem dX4_removeOldest_32 : decode cX4_removeOldest 32 = .ok (.getfield 15, 3) := by decide +kernel
theorem dX4_removeOldest_35 : decode cX4_removeOldest 35 = .ok (.iload_n 1, 1) := by decide +kernel
theorem dX4_removeOldest_36 : decode cX4_removeOldest 36 = .ok (.isub, 1) := by decide +kernel
theorem dX4_removeOldest_37 : decode cX4_removeOldest 37 = .ok (.putfield 15, 3) := by decide +kernel
theorem dX4_removeOldest_40 : decode cX4_removeOldest 40 = .ok (.return_, 1) := by decide +kernel
theorem dX5_init_0 : decode cX5_init 0 = .ok (.aload_n 0, 1) := by decide +kernel
theorem dX5_init_1 : decode cX5_init 1 = .ok (.invokespecial 3, 3) := by decide +kernel
theorem dX5_init_4 : decode cX5_init 4 = .ok (.aload_n 0, 1) := by decide +kernel
theorem dX5_init_5 : decode cX5_init 5 = .ok (.bipush 6, 2) := by decide +kernel
theorem dX5_init_7 : decode cX5_init 7 = .ok (.anewarray 9, 3) := by decide +kernel
theorem dX5_init_10 : decode cX5_init 10 = .ok (.putfield 11, 3) := by decide +kernel
theorem dX5_init_13 : decode cX5_init 13 = .ok (.aload_n 0, 1) := by decide +kernel
theorem dX5_init_14 : decode cX5_init 14 = .ok (.iconst 0, 1) := by decide +kernel
theorem dX5_init_15 : decode cX5_init 15 = .ok (.putfield 15, 3) := by decide +kernel
theorem dX5_init_18 : decode cX5_init 18 = .ok (.aload_n 0, 1) := by decide +kernel
theorem dX5_init_19 : decode cX5_init 19 = .ok (.bipush 6, 2) := by decide +kernel
theorem dX5_init_21 : decode cX5_init 21 = .ok (.newarray .int, 2) := by decide +kernel
theorem dX5_init_23 : decode cX5_init 23 = .ok (.putfield 19, 3) := by decide +kernel
theorem dX5_init_26 : decode cX5_init 26 = .ok (.aload_n 0, 1) := by decide +kernel
theorem dX5_init_27 : decode cX5_init 27 = .ok (.bipush 6, 2) := by decide +kernel
theorem dX5_init_29 : decode cX5_init 29 = .ok (.newarray .int, 2) := by decide +kernel
theorem dX5_init_31 : decode cX5_init 31 = .ok (.putfield 23, 3) := by decide +kernel
theorem dX5_init_34 : decode cX5_init 34 = .ok (.aload_n 0, 1) := by decide +kernel
theorem dX5_init_35 : decode cX5_init 35 = .ok (.new 26, 3) := by decide +kernel
theorem dX5_init_38 : decode cX5_init 38 = .ok (.dup, 1) := by decide +kernel
theorem dX5_init_39 : decode cX5_init 39 = .ok (.invokespecial 28, 3) := by decide +kernel
theorem dX5_init_42 : decode cX5_init 42 = .ok (.putfield 29, 3) := by decide +kernel
theorem dX5_init_45 : decode cX5_init 45 = .ok (.aload_n 0, 1) := by decide +kernel
theorem dX5_init_46 : decode cX5_init 46 = .ok (.new 26, 3) := by decide +kernel
theorem dX5_init_49 : decode cX5_init 49 = .ok (.dup, 1) := by decide +kernel
theorem dX5_init_50 : decode cX5_init 50 = .ok (.invokespecial 28, 3) := by decide +kernel
theorem dX5_init_53 : decode cX5_init 53 = .ok (.putfield 33, 3) := by decide +kernel
theorem dX5_init_56 : decode cX5_init 56 = .ok (.aload_n 0, 1) := by decide +kernel
theorem dX5_init_57 : decode cX5_init 57 = .ok (.new 36, 3) := by decide +kernel
theorem dX5_init_60 : decode cX5_init 60 = .ok (.dup, 1) := by decide +kernel
theorem dX5_init_61 : decode cX5_init 61 = .ok (.invokespecial 38, 3) := by decide +kernel
theorem dX5_init_64 : decode cX5_init 64 = .ok (.putfield 39, 3) := by decide +kernel
theorem dX5_init_67 : decode cX5_init 67 = .ok (.aload_n 0, 1) := by decide +kernel
theorem dX5_init_68 : decode cX5_init 68 = .ok (.iconst 0, 1) := by decide +kernel
theorem dX5_init_69 : decode cX5_init 69 = .ok (.putfield 43, 3) := by decide +kernel
theorem dX5_init_72 : decode cX5_init 72 = .ok (.aload_n 0, 1) := by decide +kernel
theorem dX5_init_73 : decode cX5_init 73 = .ok (.iconst (-1), 1) := by decide +kernel
theorem dX5_init_74 : decode cX5_init 74 = .ok (.putfield 46, 3) := by decide +kernel
theorem dX5_init_77 : decode cX5_init 77 = .ok (.aload_n 0, 1) := by decide +kernel
theorem dX5_init_78 : decode cX5_init 78 = .ok (.iconst 0, 1) := by decide +kernel
theorem dX5_init_79 : decode cX5_init 79 = .ok (.putfield 49, 3) := by decide +kernel
theorem dX5_init_82 : decode cX5_init 82 = .ok (.aload_n 0, 1) := by decide +kernel
theorem dX5_init_83 : decode cX5_init 83 = .ok (.iconst 0, 1) := by decide +kernel
theorem dX5_init_84 : decode cX5_init 84 = .ok (.putfield 52, 3) := by decide +kernel
theorem dX5_init_87 : decode cX5_init 87 = .ok (.iconst 0, 1) := by decide +kernel
theorem dX5_init_88 : decode cX5_init 88 = .ok (.istore_n 1, 1) := by decide +kernel
theorem dX5_init_89 : decode cX5_init 89 = .ok (.iload_n 1, 1) := by decide +kernel
theorem dX5_init_90 : decode cX5_init 90 = .ok (.bipush 6, 2) := by decide +kernel
theorem dX5_init_92 : decode cX5_init 92 = .ok (.if_icmp .ge 16, 3) := by decide +kernel
theorem dX5_init_95 : decode cX5_init 95 = .ok (.aload_n 0, 1) := by decide +kernel
theorem dX5_init_96 : decode cX5_init 96 = .ok (.getfield 19, 3) := by decide +kernel
theorem dX5_init_99 : decode cX5_init 99 = .ok (.iload_n 1, 1) := by decide +kernel
theorem dX5_init_100 : decode cX5_init 100 = .ok (.iconst 5, 1) := by decide +kernel
theorem dX5_init_101 : decode cX5_init 101 = .ok (.iastore, 1) := by decide +kernel
theorem dX5_init_102 : decode cX5_init 102 = .ok (.iinc 1 1, 3) := by decide +kernel
theorem dX5_init_105 : decode cX5_init 105 = .ok (.goto (-16), 3) := by decide +kernel
theorem dX5_init_108 : decode cX5_init 108 = .ok (.iconst 0, 1) := by decide +kernel
theorem dX5_init_109 : decode cX5_init 109 = .ok (.istore_n 1, 1) := by decide +kernel
theorem dX5_init_110 : decode cX5_init 110 = .ok (.iload_n 1, 1) := by decide +kernel
theorem dX5_init_111 : decode cX5_init 111 = .ok (.bipush 6, 2) := by decide +kernel
theorem dX5_init_113 : decode cX5_init 113 = .ok (.if_icmp .ge 16, 3) := by decide +kernel
theorem dX5_init_116 : decode cX5_init 116 = .ok (.aload_n 0, 1) := by decide +kernel
theorem dX5_init_117 : decode cX5_init 117 = .ok (.getfield 23, 3) := by decide +kernel
theorem dX5_init_120 : decode cX5_init 120 = .ok (.iload_n 1, 1) := by decide +kernel
theorem dX5_init_121 : decode cX5_init 121 = .ok (.iconst (-1), 1) := by decide +kernel
theorem dX5_init_122 : decode cX5_init 122 = .ok (.iastore, 1) := by decide +kernel
theorem dX5_init_123 : decode cX5_init 123 = .ok (.iinc 1 1, 3) := by decide +kernel
theorem dX5_init_126 : decode cX5_init 126 = .ok (.goto (-16), 3) := by decide +kernel
theorem dX5_init_129 : decode cX5_init 129 = .ok (.return_, 1) := by decide +kernel
theorem dX5_addPier_0 : decode cX5_addPier 0 = .ok (.iload_n 1, 1) := by decide +kernel
theorem dX5_addPier_1 : decode cX5_addPier 1 = .ok (.iconst 0, 1) := by decide +kernel
theorem dX5_addPier_2 : decode cX5_addPier 2 = .ok (.sipush 744, 3) := by decide +kernel
theorem dX5_addPier_5 : decode cX5_addPier 5 = .ok (.invokestatic 55, 3) := by decide +kernel
theorem dX5_addPier_8 : decode cX5_addPier 8 = .ok (.iload_n 2, 1) := by decide +kernel
theorem dX5_addPier_9 : decode cX5_addPier 9 = .ok (.iconst 0, 1) := by decide +kernel
theorem dX5_addPier_10 : decode cX5_addPier 10 = .ok (.sipush 999, 3) := by decide +kernel
theorem dX5_addPier_13 : decode cX5_addPier 13 = .ok (.invokestatic 55, 3) := by decide +kernel
theorem dX5_addPier_16 : decode cX5_addPier 16 = .ok (.iload_n 3, 1) := by decide +kernel
theorem dX5_addPier_17 : decode cX5_addPier 17 = .ok (.iconst 0, 1) := by decide +kernel
theorem dX5_addPier_18 : decode cX5_addPier 18 = .ok (.sipush 999, 3) := by decide +kernel
theorem dX5_addPier_21 : decode cX5_addPier 21 = .ok (.invokestatic 55, 3) := by decide +kernel
theorem dX5_addPier_24 : decode cX5_addPier 24 = .ok (.iload 4, 2) := by decide +kernel
theorem dX5_addPier_26 : decode cX5_addPier 26 = .ok (.iconst 0, 1) := by decide +kernel
theorem dX5_addPier_27 : decode cX5_addPier 27 = .ok (.iload_n 3, 1) := by decide +kernel
theorem dX5_addPier_28 : decode cX5_addPier 28 = .ok (.invokestatic 55, 3) := by decide +kernel
theorem dX5_addPier_31 : decode cX5_addPier 31 = .ok (.iload 5, 2) := by decide +kernel
theorem dX5_addPier_33 : decode cX5_addPier 33 = .ok (.iconst 0, 1) := by decide +kernel
theorem dX5_addPier_34 : decode cX5_addPier 34 = .ok (.bipush 9, 2) := by decide +kernel
theorem dX5_addPier_36 : decode cX5_addPier 36 = .ok (.invokestatic 55, 3) := by decide +kernel
theorem dX5_addPier_39 : decode cX5_addPier 39 = .ok (.aload_n 0, 1) := by decide +kernel
theorem dX5_addPier_40 : decode cX5_addPier 40 = .ok (.getfield 15, 3) := by decide +kernel
theorem dX5_addPier_43 : decode cX5_addPier 43 = .ok (.bipush 6, 2) := by decide +kernel
theorem dX5_addPier_45 : decode cX5_addPier 45 = .ok (.if_icmp .lt 13, 3) := by decide +kernel
theorem dX5_addPier_48 : decode cX5_addPier 48 = .ok (.new 59, 3) := by decide +kernel
theorem dX5_addPier_51 : decode cX5_addPier 51 = .ok (.dup, 1) := by decide +kernel
theorem dX5_addPier_52 : decode cX5_addPier 52 = .ok (.ldc 61, 2) := by decide +kernel
theorem dX5_addPier_54 : decode cX5_addPier 54 = .ok (.invokespecial 63, 3) := by decide +kernel
theorem dX5_addPier_57 : decode cX5_addPier 57 = .ok (.athrow, 1) := by decide +kernel
theorem dX5_addPier_58 : decode cX5_addPier 58 = .ok (.aload_n 0, 1) := by decide +kernel
theorem dX5_addPier_59 : decode cX5_addPier 59 = .ok (.getfield 15, 3) := by decide +kernel
theorem dX5_addPier_62 : decode cX5_addPier 62 = .ok (.istore 6, 2) := by decide +kernel
theorem dX5_addPier_64 : decode cX5_addPier 64 = .ok (.aload_n 0, 1) := by decide +kernel
theorem dX5_addPier_65 : decode cX5_addPier 65 = .ok (.getfield 11, 3) := by decide +kernel
theorem dX5_addPier_68 : decode cX5_addPier 68 = .ok (.iload 6, 2) := by decide +kernel
theorem dX5_addPier_70 : decode cX5_addPier 70 = .ok (.new 9, 3) := by decide +kernel
theorem dX5_addPier_73 : decode cX5_addPier 73 = .ok (.dup, 1) := by decide +kernel
theorem dX5_addPier_74 : decode cX5_addPier 74 = .ok (.iload_n 1, 1) := by decide +kernel
theorem dX5_addPier_75 : decode cX5_addPier 75 = .ok (.iload_n 2, 1) := by decide +kernel
theorem dX5_addPier_76 : decode cX5_addPier 76 = .ok (.iload_n 3, 1) := by decide +kernel
theorem dX5_addPier_77 : decode cX5_addPier 77 = .ok (.iload 4, 2) := by decide +kernel
theorem dX5_addPier_79 : decode cX5_addPier 79 = .ok (.iload 5, 2) := by decide +kernel
theorem dX5_addPier_81 : decode cX5_addPier 81 = .ok (.aload_n 0, 1) := by decide +kernel
theorem dX5_addPier_82 : decode cX5_addPier 82 = .ok (.getfield 19, 3) := by decide +kernel
theorem dX5_addPier_85 : decode cX5_addPier 85 = .ok (.invokespecial 66, 3) := by decide +kernel
theorem dX5_addPier_88 : decode cX5_addPier 88 = .ok (.aastore, 1) := by decide +kernel
theorem dX5_addPier_89 : decode cX5_addPier 89 = .ok (.aload_n 0, 1) := by decide +kernel
theorem dX5_addPier_90 : decode cX5_addPier 90 = .ok (.dup, 1) := by decide +kernel
theorem dX5_addPier_91 : decode cX5_addPier 91 = .ok (.getfield 15, 3) := by decide +kernel
theorem dX5_addPier_94 : decode cX5_addPier 94 = .ok (.iconst 1, 1) := by decide +kernel
theorem dX5_addPier_95 : decode cX5_addPier 95 = .ok (.iadd, 1) := by decide +kernel
theorem dX5_addPier_96 : decode cX5_addPier 96 = .ok (.putfield 15, 3) := by decide +kernel
theorem dX5_addPier_99 : decode cX5_addPier 99 = .ok (.iload 6, 2) := by decide +kernel
theorem dX5_addPier_101 : decode cX5_addPier 101 = .ok (.ireturn, 1) := by decide +kernel
theorem dX5_pierCount_0 : decode cX5_pierCount 0 = .ok (.aload_n 0, 1) := by decide +kernel
theorem dX5_pierCount_1 : decode cX5_pierCount 1 = .ok (.getfield 15, 3) := by decide +kernel
theorem dX5_pierCount_4 : decode cX5_pierCount 4 = .ok (.ireturn, 1) := by decide +kernel
theorem dX5_today_0 : decode cX5_today 0 = .ok (.aload_n 0, 1) := by decide +kernel
theorem dX5_today_1 : decode cX5_today 1 = .ok (.getfield 43, 3) := by decide +kernel
theorem dX5_today_4 : decode cX5_today 4 = .ok (.ireturn, 1) := by decide +kernel
theorem dX5_passDays_0 : decode cX5_passDays 0 = .ok (.iload_n 1, 1) := by decide +kernel
theorem dX5_passDays_1 : decode cX5_passDays 1 = .ok (.iconst 1, 1) := by decide +kernel
theorem dX5_passDays_2 : decode cX5_passDays 2 = .ok (.bipush 60, 2) := by decide +kernel
theorem dX5_passDays_4 : decode cX5_passDays 4 = .ok (.invokestatic 55, 3) := by decide +kernel
theorem dX5_passDays_7 : decode cX5_passDays 7 = .ok (.aload_n 0, 1) := by decide +kernel
theorem dX5_passDays_8 : decode cX5_passDays 8 = .ok (.dup, 1) := by decide +kernel
theorem dX5_passDays_9 : decode cX5_passDays 9 = .ok (.getfield 43, 3) := by decide +kernel
theorem dX5_passDays_12 : decode cX5_passDays 12 = .ok (.iload_n 1, 1) := by decide +kernel
theorem dX5_passDays_13 : decode cX5_passDays 13 = .ok (.iadd, 1) := by decide +kernel
theorem dX5_passDays_14 : decode cX5_passDays 14 = .ok (.putfield 43, 3) := by decide +kernel
theorem dX5_passDays_17 : decode cX5_passDays 17 = .ok (.iconst 0, 1) := by decide +kernel
theorem dX5_passDays_18 : decode cX5_passDays 18 = .ok (.istore_n 2, 1) := by decide +kernel
theorem dX5_passDays_19 : decode cX5_passDays 19 = .ok (.iload_n 2, 1) := by decide +kernel
theorem dX5_passDays_20 : decode cX5_passDays 20 = .ok (.aload_n 0, 1) := by decide +kernel
theorem dX5_passDays_21 : decode cX5_passDays 21 = .ok (.getfield 15, 3) := by decide +kernel
theorem dX5_passDays_24 : decode cX5_passDays 24 = .ok (.if_icmp .ge 38, 3) := by decide +kernel
theorem dX5_passDays_27 : decode cX5_passDays 27 = .ok (.aload_n 0, 1) := by decide +kernel
theorem dX5_passDays_28 : decode cX5_passDays 28 = .ok (.getfield 11, 3) := by decide +kernel
theorem dX5_passDays_31 : decode cX5_passDays 31 = .ok (.iload_n 2, 1) := by decide +kernel
theorem dX5_passDays_32 : decode cX5_passDays 32 = .ok (.aaload, 1) := by decide +kernel
theorem dX5_passDays_33 : decode cX5_passDays 33 = .ok (.getfield 69, 3) := by decide +kernel
theorem dX5_passDays_36 : decode cX5_passDays 36 = .ok (.iload_n 1, 1) := by decide +kernel
theorem dX5_passDays_37 : decode cX5_passDays 37 = .ok (.invokevirtual 73, 3) := by decide +kernel
theorem dX5_passDays_40 : decode cX5_passDays 40 = .ok (.aload_n 0, 1) := by decide +kernel
theorem dX5_passDays_41 : decode cX5_passDays 41 = .ok (.getfield 11, 3) := by decide +kernel
theorem dX5_passDays_44 : decode cX5_passDays 44 = .ok (.iload_n 2, 1) := by decide +kernel
theorem dX5_passDays_45 : decode cX5_passDays 45 = .ok (.aaload, 1) := by decide +kernel
theorem dX5_passDays_46 : decode cX5_passDays 46 = .ok (.getfield 79, 3) := by decide +kernel
theorem dX5_passDays_49 : decode cX5_passDays 49 = .ok (.aload_n 0, 1) := by decide +kernel
theorem dX5_passDays_50 : decode cX5_passDays 50 = .ok (.getfield 43, 3) := by decide +kernel
theorem dX5_passDays_53 : decode cX5_passDays 53 = .ok (.invokevirtual 83, 3) := by decide +kernel
theorem dX5_passDays_56 : decode cX5_passDays 56 = .ok (.iinc 2 1, 3) := by decide +kernel
theorem dX5_passDays_59 : decode cX5_passDays 59 = .ok (.goto (-40), 3) := by decide +kernel
theorem dX5_passDays_62 : decode cX5_passDays 62 = .ok (.aload_n 0, 1) := by decide +kernel
theorem dX5_passDays_63 : decode cX5_passDays 63 = .ok (.getfield 43, 3) := by decide +kernel
theorem dX5_passDays_66 : decode cX5_passDays 66 = .ok (.ireturn, 1) := by decide +kernel
theorem dX5_moonAge_0 : decode cX5_moonAge 0 = .ok (.iload_n 1, 1) := by decide +kernel
theorem dX5_moonAge_1 : decode cX5_moonAge 1 = .ok (.invokestatic 88, 3) := by decide +kernel
theorem dX5_moonAge_4 : decode cX5_moonAge 4 = .ok (.iload_n 1, 1) := by decide +kernel
theorem dX5_moonAge_5 : decode cX5_moonAge 5 = .ok (.invokestatic 91, 3) := by decide +kernel
theorem dX5_moonAge_8 : decode cX5_moonAge 8 = .ok (.ireturn, 1) := by decide +kernel
theorem dX5_rangeOf_0 : decode cX5_rangeOf 0 = .ok (.aload_n 0, 1) := by decide +kernel
theorem dX5_rangeOf_1 : decode cX5_rangeOf 1 = .ok (.iload_n 1, 1) := by decide +kernel
theorem dX5_rangeOf_2 : decode cX5_rangeOf 2 = .ok (.invokevirtual 95, 3) := by decide +kernel
theorem dX5_rangeOf_5 : decode cX5_rangeOf 5 = .ok (.astore_n 3, 1) := by decide +kernel
theorem dX5_rangeOf_6 : decode cX5_rangeOf 6 = .ok (.iload_n 2, 1) := by decide +kernel
theorem dX5_rangeOf_7 : decode cX5_rangeOf 7 = .ok (.invokestatic 88, 3) := by decide +kernel
theorem dX5_rangeOf_10 : decode cX5_rangeOf 10 = .ok (.aload_n 3, 1) := by decide +kernel
theorem dX5_rangeOf_11 : decode cX5_rangeOf 11 = .ok (.iload_n 2, 1) := by decide +kernel
theorem dX5_rangeOf_12 : decode cX5_rangeOf 12 = .ok (.invokevirtual 99, 3) := by decide +kernel
theorem dX5_rangeOf_15 : decode cX5_rangeOf 15 = .ok (.ireturn, 1) := by decide +kernel
theorem dX5_waterCount_0 : decode cX5_waterCount 0 = .ok (.aload_n 0, 1) := by decide +kernel
theorem dX5_waterCount_1 : decode cX5_waterCount 1 = .ok (.iload_n 1, 1) := by decide +kernel
theorem dX5_waterCount_2 : decode cX5_waterCount 2 = .ok (.invokevirtual 95, 3) := by decide +kernel
theorem dX5_waterCount_5 : decode cX5_waterCount 5 = .ok (.astore_n 3, 1) := by decide +kernel
theorem dX5_waterCount_6 : decode cX5_waterCount 6 = .ok (.iload_n 2, 1) := by decide +kernel
theorem dX5_waterCount_7 : decode cX5_waterCount 7 = .ok (.invokestatic 88, 3) := by decide +kernel
theorem dX5_waterCount_10 : decode cX5_waterCount 10 = .ok (.aload_n 0, 1) := by decide +kernel
theorem dX5_waterCount_11 : decode cX5_waterCount 11 = .ok (.getfield 39, 3) := by decide +kernel
theorem dX5_waterCount_14 : decode cX5_waterCount 14 = .ok (.aload_n 3, 1) := by decide +kernel
theorem dX5_waterCount_15 : decode cX5_waterCount 15 = .ok (.iload_n 2, 1) := by decide +kernel
theorem dX5_waterCount_16 : decode cX5_waterCount 16 = .ok (.invokevirtual 102, 3) := by decide +kernel
theorem dX5_waterCount_19 : decode cX5_waterCount 19 = .ok (.aload_n 0, 1) := by decide +kernel
theorem dX5_waterCount_20 : decode cX5_waterCount 20 = .ok (.getfield 39, 3) := by decide +kernel
theorem dX5_waterCount_23 : decode cX5_waterCount 23 = .ok (.getfield 106, 3) := by decide +kernel
theorem dX5_waterCount_26 : decode cX5_waterCount 26 = .ok (.ireturn, 1) := by decide +kernel
theorem dX5_waterMinute_0 : decode cX5_waterMinute 0 = .ok (.aload_n 0, 1) := by decide +kernel
theorem dX5_waterMinute_1 : decode cX5_waterMinute 1 = .ok (.iload_n 1, 1) := by decide +kernel
theorem dX5_waterMinute_2 : decode cX5_waterMinute 2 = .ok (.iload_n 2, 1) := by decide +kernel
theorem dX5_waterMinute_3 : decode cX5_waterMinute 3 = .ok (.iload_n 3, 1) := by decide +kernel
theorem dX5_waterMinute_4 : decode cX5_waterMinute 4 = .ok (.invokevirtual 109, 3) := by decide +kernel
theorem dX5_waterMinute_7 : decode cX5_waterMinute 7 = .ok (.aload_n 0, 1) := by decide +kernel
theorem dX5_waterMinute_8 : decode cX5_waterMinute 8 = .ok (.getfield 39, 3) := by decide +kernel
theorem dX5_waterMinute_11 : decode cX5_waterMinute 11 = .ok (.getfield 112, 3) := by decide +kernel
theorem dX5_waterMinute_14 : decode cX5_waterMinute 14 = .ok (.iload_n 3, 1) := by decide +kernel
theorem dX5_waterMinute_15 : decode cX5_waterMinute 15 = .ok (.iaload, 1) := by decide +kernel
theorem dX5_waterMinute_16 : decode cX5_waterMinute 16 = .ok (.ireturn, 1) := by decide +kernel
theorem dX5_waterHeight_0 : decode cX5_waterHeight 0 = .ok (.aload_n 0, 1) := by decide +kernel
theorem dX5_waterHeight_1 : decode cX5_waterHeight 1 = .ok (.iload_n 1, 1) := by decide +kernel
theorem dX5_waterHeight_2 : decode cX5_waterHeight 2 = .ok (.iload_n 2, 1) := by decide +kernel
theorem dX5_waterHeight_3 : decode cX5_waterHeight 3 = .ok (.iload_n 3, 1) := by decide +kernel
theorem dX5_waterHeight_4 : decode cX5_waterHeight 4 = .ok (.invokevirtual 109, 3) := by decide +kernel
theorem dX5_waterHeight_7 : decode cX5_waterHeight 7 = .ok (.aload_n 0, 1) := by decide +kernel
theorem dX5_waterHeight_8 : decode cX5_waterHeight 8 = .ok (.getfield 39, 3) := by decide +kernel
theorem dX5_waterHeight_11 : decode cX5_waterHeight 11 = .ok (.getfield 115, 3) := by decide +kernel
theorem dX5_waterHeight_14 : decode cX5_waterHeight 14 = .ok (.iload_n 3, 1) := by decide +kernel
theorem dX5_waterHeight_15 : decode cX5_waterHeight 15 = .ok (.iaload, 1) := by decide +kernel
theorem dX5_waterHeight_16 : decode cX5_waterHeight 16 = .ok (.ireturn, 1) := by decide +kernel
theorem dX5_isHighWater_0 : decode cX5_isHighWater 0 = .ok (.aload_n 0, 1) := by decide +kernel
theorem dX5_isHighWater_1 : decode cX5_isHighWater 1 = .ok (.iload_n 1, 1) := by decide +kernel
theorem dX5_isHighWater_2 : decode cX5_isHighWater 2 = .ok (.iload_n 2, 1) := by decide +kernel
theorem dX5_isHighWater_3 : decode cX5_isHighWater 3 = .ok (.iload_n 3, 1) := by decide +kernel
theorem dX5_isHighWater_4 : decode cX5_isHighWater 4 = .ok (.invokevirtual 109, 3) := by decide +kernel
theorem dX5_isHighWater_7 : decode cX5_isHighWater 7 = .ok (.aload_n 0, 1) := by decide +kernel
theorem dX5_isHighWater_8 : decode cX5_isHighWater 8 = .ok (.getfield 39, 3) := by decide +kernel
theorem dX5_isHighWater_11 : decode cX5_isHighWater 11 = .ok (.getfield 118, 3) := by decide +kernel
theorem dX5_isHighWater_14 : decode cX5_isHighWater 14 = .ok (.iload_n 3, 1) := by decide +kernel
theorem dX5_isHighWater_15 : decode cX5_isHighWater 15 = .ok (.baload, 1) := by decide +kernel
theorem dX5_isHighWater_16 : decode cX5_isHighWater 16 = .ok (.ireturn, 1) := by decide +kernel
theorem dX5_minutesToHighWater_0 : decode cX5_minutesToHighWater 0 = .ok (.aload_n 0, 1) := by decide +kernel
theorem dX5_minutesToHighWater_1 : decode cX5_minutesToHighWater 1 = .ok (.iload_n 1, 1) := by decide +kernel
theorem dX5_minutesToHighWater_2 : decode cX5_minutesToHighWater 2 = .ok (.invokevirtual 95, 3) := by decide +kernel
theorem dX5_minutesToHighWater_5 : decode cX5_minutesToHighWater 5 = .ok (.astore 4, 2) := by decide +kernel
theorem dX5_minutesToHighWater_7 : decode cX5_minutesToHighWater 7 = .ok (.iload_n 2, 1) := by decide +kernel
theorem dX5_minutesToHighWater_8 : decode cX5_minutesToHighWater 8 = .ok (.invokestatic 88, 3) := by decide +kernel
theorem dX5_minutesToHighWater_11 : decode cX5_minutesToHighWater 11 = .ok (.iload_n 3, 1) := by decide +kernel
theorem dX5_minutesToHighWater_12 : decode cX5_minutesToHighWater 12 = .ok (.iconst 0, 1) := by decide +kernel
theorem dX5_minutesToHighWater_13 : decode cX5_minutesToHighWater 13 = .ok (.sipush 1439, 3) := by decide +kernel
theorem dX5_minutesToHighWater_16 : decode cX5_minutesToHighWater 16 = .ok (.invokestatic 55, 3) := by decide +kernel
theorem dX5_minutesToHighWater_19 : decode cX5_minutesToHighWater 19 = .ok (.aload 4, 2) := by decide +kernel
theorem dX5_minutesToHighWater_21 : decode cX5_minutesToHighWater 21 = .ok (.iload_n 2, 1) := by decide +kernel
theorem dX5_minutesToHighWater_22 : decode cX5_minutesToHighWater 22 = .ok (.iload_n 3, 1) := by decide +kernel
theorem dX5_minutesToHighWater_23 : decode cX5_minutesToHighWater 23 = .ok (.invokevirtual 122, 3) := by decide +kernel
theorem dX5_minutesToHighWater_26 : decode cX5_minutesToHighWater 26 = .ok (.ireturn, 1) := by decide +kernel
theorem dX5_report_0 : decode cX5_report 0 = .ok (.aload_n 0, 1) := by decide +kernel
theorem dX5_report_1 : decode cX5_report 1 = .ok (.iload_n 1, 1) := by decide +kernel
theorem dX5_report_2 : decode cX5_report 2 = .ok (.iload_n 2, 1) := by decide +kernel
theorem dX5_report_3 : decode cX5_report 3 = .ok (.invokevirtual 126, 3) := by decide +kernel
theorem dX5_report_6 : decode cX5_report 6 = .ok (.astore 4, 2) := by decide +kernel
theorem dX5_report_8 : decode cX5_report 8 = .ok (.iload_n 3, 1) := by decide +kernel
theorem dX5_report_9 : decode cX5_report 9 = .ok (.invokestatic 130, 3) := by decide +kernel
theorem dX5_report_12 : decode cX5_report 12 = .ok (.aload 4, 2) := by decide +kernel
theorem dX5_report_14 : decode cX5_report 14 = .ok (.iload_n 1, 1) := by decide +kernel
theorem dX5_report_15 : decode cX5_report 15 = .ok (.iload_n 3, 1) := by decide +kernel
theorem dX5_report_16 : decode cX5_report 16 = .ok (.invokevirtual 133, 3) := by decide +kernel
theorem dX5_report_19 : decode cX5_report 19 = .ok (.aload 4, 2) := by decide +kernel
theorem dX5_report_21 : decode cX5_report 21 = .ok (.invokevirtual 137, 3) := by decide +kernel
theorem dX5_report_24 : decode cX5_report 24 = .ok (.ireturn, 1) := by decide +kernel
theorem dX5_observe_0 : decode cX5_observe 0 = .ok (.aload_n 0, 1) := by decide +kernel
theorem dX5_observe_1 : decode cX5_observe 1 = .ok (.iload_n 1, 1) := by decide +kernel
theorem dX5_observe_2 : decode cX5_observe 2 = .ok (.invokevirtual 95, 3) := by decide +kernel
theorem dX5_observe_5 : decode cX5_observe 5 = .ok (.astore_n 3, 1) := by decide +kernel
theorem dX5_observe_6 : decode cX5_observe 6 = .ok (.iload_n 2, 1) := by decide +kernel
theorem dX5_observe_7 : decode cX5_observe 7 = .ok (.invokestatic 130, 3) := by decide +kernel
theorem dX5_observe_10 : decode cX5_observe 10 = .ok (.aload_n 3, 1) := by decide +kernel
theorem dX5_observe_11 : decode cX5_observe 11 = .ok (.getfield 69, 3) := by decide +kernel
theorem dX5_observe_14 : decode cX5_observe 14 = .ok (.iload_n 2, 1) := by decide +kernel
theorem dX5_observe_15 : decode cX5_observe 15 = .ok (.invokevirtual 141, 3) := by decide +kernel
theorem dX5_observe_18 : decode cX5_observe 18 = .ok (.ireturn, 1) := by decide +kernel
theorem dX5_correctionOf_0 : decode cX5_correctionOf 0 = .ok (.aload_n 0, 1) := by decide +kernel
theorem dX5_correctionOf_1 : decode cX5_correctionOf 1 = .ok (.iload_n 1, 1) := by decide +kernel
theorem dX5_correctionOf_2 : decode cX5_correctionOf 2 = .ok (.invokevirtual 95, 3) := by decide +kernel
theorem dX5_correctionOf_5 : decode cX5_correctionOf 5 = .ok (.getfield 69, 3) := by decide +kernel
theorem dX5_correctionOf_8 : decode cX5_correctionOf 8 = .ok (.invokevirtual 137, 3) := by decide +kernel
theorem dX5_correctionOf_11 : decode cX5_correctionOf 11 = .ok (.ireturn, 1) := by decide +kernel
theorem dX5_trustOf_0 : decode cX5_trustOf 0 = .ok (.iload_n 1, 1) := by decide +kernel
theorem dX5_trustOf_1 : decode cX5_trustOf 1 = .ok (.invokestatic 144, 3) := by decide +kernel
theorem dX5_trustOf_4 : decode cX5_trustOf 4 = .ok (.aload_n 0, 1) := by decide +kernel
theorem dX5_trustOf_5 : decode cX5_trustOf 5 = .ok (.getfield 19, 3) := by decide +kernel
theorem dX5_trustOf_8 : decode cX5_trustOf 8 = .ok (.iload_n 1, 1) := by decide +kernel
theorem dX5_trustOf_9 : decode cX5_trustOf 9 = .ok (.iaload, 1) := by decide +kernel
theorem dX5_trustOf_10 : decode cX5_trustOf 10 = .ok (.ireturn, 1) := by decide +kernel
theorem dX5_reportCount_0 : decode cX5_reportCount 0 = .ok (.aload_n 0, 1) := by decide +kernel
theorem dX5_reportCount_1 : decode cX5_reportCount 1 = .ok (.iload_n 1, 1) := by decide +kernel
theorem dX5_reportCount_2 : decode cX5_reportCount 2 = .ok (.invokevirtual 95, 3) := by decide +kernel
theorem dX5_reportCount_5 : decode cX5_reportCount 5 = .ok (.getfield 69, 3) := by decide +kernel
theorem dX5_reportCount_8 : decode cX5_reportCount 8 = .ok (.getfield 147, 3) := by decide +kernel
theorem dX5_reportCount_11 : decode cX5_reportCount 11 = .ok (.ireturn, 1) := by decide +kernel
theorem dX5_reporterAt_0 : decode cX5_reporterAt 0 = .ok (.aload_n 0, 1) := by decide +kernel
theorem dX5_reporterAt_1 : decode cX5_reporterAt 1 = .ok (.iload_n 1, 1) := by decide +kernel
theorem dX5_reporterAt_2 : decode cX5_reporterAt 2 = .ok (.invokevirtual 95, 3) := by decide +kernel
theorem dX5_reporterAt_5 : decode cX5_reporterAt 5 = .ok (.getfield 69, 3) := by decide +kernel
theorem dX5_reporterAt_8 : decode cX5_reporterAt 8 = .ok (.astore_n 3, 1) := by decide +kernel
theorem dX5_reporterAt_9 : decode cX5_reporterAt 9 = .ok (.iload_n 2, 1) := by decide +kernel
theorem dX5_reporterAt_10 : decode cX5_reporterAt 10 = .ok (.ifCond .lt 11, 3) := by decide +kernel
theorem dX5_reporterAt_13 : decode cX5_reporterAt 13 = .ok (.iload_n 2, 1) := by decide +kernel
theorem dX5_reporterAt_14 : decode cX5_reporterAt 14 = .ok (.aload_n 3, 1) := by decide +kernel
theorem dX5_reporterAt_15 : decode cX5_reporterAt 15 = .ok (.getfield 147, 3) := by decide +kernel
theorem dX5_reporterAt_18 : decode cX5_reporterAt 18 = .ok (.if_icmp .lt 13, 3) := by decide +kernel
theorem dX5_reporterAt_21 : decode cX5_reporterAt 21 = .ok (.new 148, 3) := by decide +kernel
theorem dX5_reporterAt_24 : decode cX5_reporterAt 24 = .ok (.dup, 1) := by decide +kernel
theorem dX5_reporterAt_25 : decode cX5_reporterAt 25 = .ok (.ldc 150, 2) := by decide +kernel
theorem dX5_reporterAt_27 : decode cX5_reporterAt 27 = .ok (.invokespecial 152, 3) := by decide +kernel
theorem dX5_reporterAt_30 : decode cX5_reporterAt 30 = .ok (.athrow, 1) := by decide +kernel
theorem dX5_reporterAt_31 : decode cX5_reporterAt 31 = .ok (.aload_n 3, 1) := by decide +kernel
theorem dX5_reporterAt_32 : decode cX5_reporterAt 32 = .ok (.getfield 153, 3) := by decide +kernel
theorem dX5_reporterAt_35 : decode cX5_reporterAt 35 = .ok (.iload_n 2, 1) := by decide +kernel
theorem dX5_reporterAt_36 : decode cX5_reporterAt 36 = .ok (.iaload, 1) := by decide +kernel
theorem dX5_reporterAt_37 : decode cX5_reporterAt 37 = .ok (.ireturn, 1) := by decide +kernel
theorem dX5_reportedMinutes_0 : decode cX5_reportedMinutes 0 = .ok (.aload_n 0, 1) := by decide +kernel
theorem dX5_reportedMinutes_1 : decode cX5_reportedMinutes 1 = .ok (.iload_n 1, 1) := by decide +kernel
theorem dX5_reportedMinutes_2 : decode cX5_reportedMinutes 2 = .ok (.iload_n 2, 1) := by decide +kernel
theorem dX5_reportedMinutes_3 : decode cX5_reportedMinutes 3 = .ok (.invokevirtual 126, 3) := by decide +kernel
theorem dX5_reportedMinutes_6 : decode cX5_reportedMinutes 6 = .ok (.astore_n 3, 1) := by decide +kernel
theorem dX5_reportedMinutes_7 : decode cX5_reportedMinutes 7 = .ok (.aload_n 3, 1) := by decide +kernel
theorem dX5_reportedMinutes_8 : decode cX5_reportedMinutes 8 = .ok (.getfield 156, 3) := by decide +kernel
theorem dX5_reportedMinutes_11 : decode cX5_reportedMinutes 11 = .ok (.aload_n 3, 1) := by decide +kernel
theorem dX5_reportedMinutes_12 : decode cX5_reportedMinutes 12 = .ok (.iload_n 1, 1) := by decide +kernel
theorem dX5_reportedMinutes_13 : decode cX5_reportedMinutes 13 = .ok (.invokestatic 157, 3) := by decide +kernel
theorem dX5_reportedMinutes_16 : decode cX5_reportedMinutes 16 = .ok (.iaload, 1) := by decide +kernel
theorem dX5_reportedMinutes_17 : decode cX5_reportedMinutes 17 = .ok (.ireturn, 1) := by decide +kernel
theorem dX5_reportAge_0 : decode cX5_reportAge 0 = .ok (.aload_n 0, 1) := by decide +kernel
theorem dX5_reportAge_1 : decode cX5_reportAge 1 = .ok (.iload_n 1, 1) := by decide +kernel
theorem dX5_reportAge_2 : decode cX5_reportAge 2 = .ok (.iload_n 2, 1) := by decide +kernel
theorem dX5_reportAge_3 : decode cX5_reportAge 3 = .ok (.invokevirtual 126, 3) := by decide +kernel
theorem dX5_reportAge_6 : decode cX5_reportAge 6 = .ok (.astore_n 3, 1) := by decide +kernel
theorem dX5_reportAge_7 : decode cX5_reportAge 7 = .ok (.aload_n 3, 1) := by decide +kernel
theorem dX5_reportAge_8 : decode cX5_reportAge 8 = .ok (.getfield 161, 3) := by decide +kernel
theorem dX5_reportAge_11 : decode cX5_reportAge 11 = .ok (.aload_n 3, 1) := by decide +kernel
theorem dX5_reportAge_12 : decode cX5_reportAge 12 = .ok (.iload_n 1, 1) := by decide +kernel
theorem dX5_reportAge_13 : decode cX5_reportAge 13 = .ok (.invokestatic 157, 3) := by decide +kernel
theorem dX5_reportAge_16 : decode cX5_reportAge 16 = .ok (.iaload, 1) := by decide +kernel
theorem dX5_reportAge_17 : decode cX5_reportAge 17 = .ok (.ireturn, 1) := by decide +kernel
theorem dX5_deliverTin_0 : decode cX5_deliverTin 0 = .ok (.aload_n 0, 1) := by decide +kernel
theorem dX5_deliverTin_1 : decode cX5_deliverTin 1 = .ok (.iload_n 1, 1) := by decide +kernel
theorem dX5_deliverTin_2 : decode cX5_deliverTin 2 = .ok (.invokevirtual 164, 3) := by decide +kernel
theorem dX5_deliverTin_5 : decode cX5_deliverTin 5 = .ok (.astore_n 3, 1) := by decide +kernel
theorem dX5_deliverTin_6 : decode cX5_deliverTin 6 = .ok (.iload_n 2, 1) := by decide +kernel
theorem dX5_deliverTin_7 : decode cX5_deliverTin 7 = .ok (.iconst 1, 1) := by decide +kernel
theorem dX5_deliverTin_8 : decode cX5_deliverTin 8 = .ok (.sipush 999, 3) := by decide +kernel
theorem dX5_deliverTin_11 : decode cX5_deliverTin 11 = .ok (.invokestatic 55, 3) := by decide +kernel
theorem dX5_deliverTin_14 : decode cX5_deliverTin 14 = .ok (.aload_n 3, 1) := by decide +kernel
theorem dX5_deliverTin_15 : decode cX5_deliverTin 15 = .ok (.getfield 168, 3) := by decide +kernel
theorem dX5_deliverTin_18 : decode cX5_deliverTin 18 = .ok (.bipush 12, 2) := by decide +kernel
theorem dX5_deliverTin_20 : decode cX5_deliverTin 20 = .ok (.if_icmp .lt 13, 3) := by decide +kernel
theorem dX5_deliverTin_23 : decode cX5_deliverTin 23 = .ok (.new 59, 3) := by decide +kernel
theorem dX5_deliverTin_26 : decode cX5_deliverTin 26 = .ok (.dup, 1) := by decide +kernel
theorem dX5_deliverTin_27 : decode cX5_deliverTin 27 = .ok (.ldc 169, 2) := by decide +kernel
theorem dX5_deliverTin_29 : decode cX5_deliverTin 29 = .ok (.invokespecial 63, 3) := by decide +kernel
theorem dX5_deliverTin_32 : decode cX5_deliverTin 32 = .ok (.athrow, 1) := by decide +kernel
theorem dX5_deliverTin_33 : decode cX5_deliverTin 33 = .ok (.aload_n 3, 1) := by decide +kernel
theorem dX5_deliverTin_34 : decode cX5_deliverTin 34 = .ok (.iload_n 2, 1) := by decide +kernel
theorem dX5_deliverTin_35 : decode cX5_deliverTin 35 = .ok (.invokevirtual 171, 3) := by decide +kernel
theorem dX5_deliverTin_38 : decode cX5_deliverTin 38 = .ok (.aload_n 3, 1) := by decide +kernel
theorem dX5_deliverTin_39 : decode cX5_deliverTin 39 = .ok (.getfield 168, 3) := by decide +kernel
theorem dX5_deliverTin_42 : decode cX5_deliverTin 42 = .ok (.ireturn, 1) := by decide +kernel
theorem dX5_tinCount_0 : decode cX5_tinCount 0 = .ok (.aload_n 0, 1) := by decide +kernel
theorem dX5_tinCount_1 : decode cX5_tinCount 1 = .ok (.iload_n 1, 1) := by decide +kernel
theorem dX5_tinCount_2 : decode cX5_tinCount 2 = .ok (.invokevirtual 164, 3) := by decide +kernel
theorem dX5_tinCount_5 : decode cX5_tinCount 5 = .ok (.getfield 168, 3) := by decide +kernel
theorem dX5_tinCount_8 : decode cX5_tinCount 8 = .ok (.ireturn, 1) := by decide +kernel
theorem dX5_paintLeft_0 : decode cX5_paintLeft 0 = .ok (.aload_n 0, 1) := by decide +kernel
theorem dX5_paintLeft_1 : decode cX5_paintLeft 1 = .ok (.iload_n 1, 1) := by decide +kernel
theorem dX5_paintLeft_2 : decode cX5_paintLeft 2 = .ok (.invokevirtual 164, 3) := by decide +kernel
theorem dX5_paintLeft_5 : decode cX5_paintLeft 5 = .ok (.astore_n 2, 1) := by decide +kernel
theorem dX5_paintLeft_6 : decode cX5_paintLeft 6 = .ok (.aload_n 2, 1) := by decide +kernel
theorem dX5_paintLeft_7 : decode cX5_paintLeft 7 = .ok (.aload_n 2, 1) := by decide +kernel
theorem dX5_paintLeft_8 : decode cX5_paintLeft 8 = .ok (.getfield 168, 3) := by decide +kernel
theorem dX5_paintLeft_11 : decode cX5_paintLeft 11 = .ok (.invokevirtual 174, 3) := by decide +kernel
theorem dX5_paintLeft_14 : decode cX5_paintLeft 14 = .ok (.ireturn, 1) := by decide +kernel
theorem dX5_oldestTin_0 : decode cX5_oldestTin 0 = .ok (.aload_n 0, 1) := by decide +kernel
theorem dX5_oldestTin_1 : decode cX5_oldestTin 1 = .ok (.iload_n 1, 1) := by decide +kernel
theorem dX5_oldestTin_2 : decode cX5_oldestTin 2 = .ok (.invokevirtual 164, 3) := by decide +kernel
theorem dX5_oldestTin_5 : decode cX5_oldestTin 5 = .ok (.astore_n 2, 1) := by decide +kernel
theorem dX5_oldestTin_6 : decode cX5_oldestTin 6 = .ok (.aload_n 2, 1) := by decide +kernel
theorem dX5_oldestTin_7 : decode cX5_oldestTin 7 = .ok (.getfield 168, 3) := by decide +kernel
theorem dX5_oldestTin_10 : decode cX5_oldestTin 10 = .ok (.ifCond .ne 13, 3) := by decide +kernel
theorem dX5_oldestTin_13 : decode cX5_oldestTin 13 = .ok (.new 148, 3) := by decide +kernel
theorem dX5_oldestTin_16 : decode cX5_oldestTin 16 = .ok (.dup, 1) := by decide +kernel
theorem dX5_oldestTin_17 : decode cX5_oldestTin 17 = .ok (.ldc 177, 2) := by decide +kernel
theorem dX5_oldestTin_19 : decode cX5_oldestTin 19 = .ok (.invokespecial 152, 3) := by decide +kernel
theorem dX5_oldestTin_22 : decode cX5_oldestTin 22 = .ok (.athrow, 1) := by decide +kernel
theorem dX5_oldestTin_23 : decode cX5_oldestTin 23 = .ok (.aload_n 2, 1) := by decide +kernel
theorem dX5_oldestTin_24 : decode cX5_oldestTin 24 = .ok (.getfield 179, 3) := by decide +kernel
theorem dX5_oldestTin_27 : decode cX5_oldestTin 27 = .ok (.iconst 0, 1) := by decide +kernel
theorem dX5_oldestTin_28 : decode cX5_oldestTin 28 = .ok (.iaload, 1) := by decide +kernel
theorem dX5_oldestTin_29 : decode cX5_oldestTin 29 = .ok (.ireturn, 1) := by decide +kernel
theorem dX5_paintUsed_0 : decode cX5_paintUsed 0 = .ok (.aload_n 0, 1) := by decide +kernel
theorem dX5_paintUsed_1 : decode cX5_paintUsed 1 = .ok (.getfield 49, 3) := by decide +kernel
theorem dX5_paintUsed_4 : decode cX5_paintUsed 4 = .ok (.ireturn, 1) := by decide +kernel
theorem dX5_paintDripped_0 : decode cX5_paintDripped 0 = .ok (.aload_n 0, 1) := by decide +kernel
theorem dX5_paintDripped_1 : decode cX5_paintDripped 1 = .ok (.getfield 52, 3) := by decide +kernel
theorem dX5_paintDripped_4 : decode cX5_paintDripped 4 = .ok (.ireturn, 1) := by decide +kernel
theorem dX5_paintPoured_0 : decode cX5_paintPoured 0 = .ok (.aload_n 0, 1) := by decide +kernel
theorem dX5_paintPoured_1 : decode cX5_paintPoured 1 = .ok (.getfield 29, 3) := by decide +kernel
theorem dX5_paintPoured_4 : decode cX5_paintPoured 4 = .ok (.getfield 182, 3) := by decide +kernel
theorem dX5_paintPoured_7 : decode cX5_paintPoured 7 = .ok (.aload_n 0, 1) := by decide +kernel
theorem dX5_paintPoured_8 : decode cX5_paintPoured 8 = .ok (.getfield 33, 3) := by decide +kernel
theorem dX5_paintPoured_11 : decode cX5_paintPoured 11 = .ok (.getfield 182, 3) := by decide +kernel
theorem dX5_paintPoured_14 : decode cX5_paintPoured 14 = .ok (.iadd, 1) := by decide +kernel
theorem dX5_paintPoured_15 : decode cX5_paintPoured 15 = .ok (.ireturn, 1) := by decide +kernel
theorem dX5_order_0 : decode cX5_order 0 = .ok (.aload_n 0, 1) := by decide +kernel
theorem dX5_order_1 : decode cX5_order 1 = .ok (.iload_n 1, 1) := by decide +kernel
theorem dX5_order_2 : decode cX5_order 2 = .ok (.invokevirtual 185, 3) := by decide +kernel
theorem dX5_order_5 : decode cX5_order 5 = .ok (.iload_n 2, 1) := by decide +kernel
theorem dX5_order_6 : decode cX5_order 6 = .ok (.invokestatic 88, 3) := by decide +kernel
theorem dX5_order_9 : decode cX5_order 9 = .ok (.aload_n 0, 1) := by decide +kernel
theorem dX5_order_10 : decode cX5_order 10 = .ok (.getfield 23, 3) := by decide +kernel
theorem dX5_order_13 : decode cX5_order 13 = .ok (.iload_n 1, 1) := by decide +kernel
theorem dX5_order_14 : decode cX5_order 14 = .ok (.iaload, 1) := by decide +kernel
theorem dX5_order_15 : decode cX5_order 15 = .ok (.iconst (-1), 1) := by decide +kernel
theorem dX5_order_16 : decode cX5_order 16 = .ok (.if_icmp .eq 13, 3) := by decide +kernel
theorem dX5_order_19 : decode cX5_order 19 = .ok (.new 59, 3) := by decide +kernel
theorem dX5_order_22 : decode cX5_order 22 = .ok (.dup, 1) := by decide +kernel
theorem dX5_order_23 : decode cX5_order 23 = .ok (.ldc 188, 2) := by decide +kernel
theorem dX5_order_25 : decode cX5_order 25 = .ok (.invokespecial 63, 3) := by decide +kernel
theorem dX5_order_28 : decode cX5_order 28 = .ok (.athrow, 1) := by decide +kernel
theorem dX5_order_29 : decode cX5_order 29 = .ok (.aload_n 0, 1) := by decide +kernel
theorem dX5_order_30 : decode cX5_order 30 = .ok (.getfield 23, 3) := by decide +kernel
theorem dX5_order_33 : decode cX5_order 33 = .ok (.iload_n 1, 1) := by decide +kernel
theorem dX5_order_34 : decode cX5_order 34 = .ok (.iload_n 2, 1) := by decide +kernel
theorem dX5_order_35 : decode cX5_order 35 = .ok (.iastore, 1) := by decide +kernel
theorem dX5_order_36 : decode cX5_order 36 = .ok (.aload_n 0, 1) := by decide +kernel
theorem dX5_order_37 : decode cX5_order 37 = .ok (.iload_n 1, 1) := by decide +kernel
theorem dX5_order_38 : decode cX5_order 38 = .ok (.invokevirtual 190, 3) := by decide +kernel
theorem dX5_order_41 : decode cX5_order 41 = .ok (.ireturn, 1) := by decide +kernel
theorem dX5_cancelOrder_0 : decode cX5_cancelOrder 0 = .ok (.aload_n 0, 1) := by decide +kernel
theorem dX5_cancelOrder_1 : decode cX5_cancelOrder 1 = .ok (.iload_n 1, 1) := by decide +kernel
theorem dX5_cancelOrder_2 : decode cX5_cancelOrder 2 = .ok (.invokevirtual 185, 3) := by decide +kernel
theorem dX5_cancelOrder_5 : decode cX5_cancelOrder 5 = .ok (.aload_n 0, 1) := by decide +kernel
theorem dX5_cancelOrder_6 : decode cX5_cancelOrder 6 = .ok (.getfield 23, 3) := by decide +kernel
theorem dX5_cancelOrder_9 : decode cX5_cancelOrder 9 = .ok (.iload_n 1, 1) := by decide +kernel
theorem dX5_cancelOrder_10 : decode cX5_cancelOrder 10 = .ok (.iaload, 1) := by decide +kernel
theorem dX5_cancelOrder_11 : decode cX5_cancelOrder 11 = .ok (.istore_n 2, 1) := by decide +kernel
theorem dX5_cancelOrder_12 : decode cX5_cancelOrder 12 = .ok (.iload_n 2, 1) := by decide +kernel
theorem dX5_cancelOrder_13 : decode cX5_cancelOrder 13 = .ok (.iconst (-1), 1) := by decide +kernel
theorem dX5_cancelOrder_14 : decode cX5_cancelOrder 14 = .ok (.if_icmp .ne 13, 3) := by decide +kernel
theorem dX5_cancelOrder_17 : decode cX5_cancelOrder 17 = .ok (.new 148, 3) := by decide +kernel
theorem dX5_cancelOrder_20 : decode cX5_cancelOrder 20 = .ok (.dup, 1) := by decide +kernel
theorem dX5_cancelOrder_21 : decode cX5_cancelOrder 21 = .ok (.ldc 193, 2) := by decide +kernel
theorem dX5_cancelOrder_23 : decode cX5_cancelOrder 23 = .ok (.invokespecial 152, 3) := by decide +kernel
theorem dX5_cancelOrder_26 : decode cX5_cancelOrder 26 = .ok (.athrow, 1) := by decide +kernel
theorem dX5_cancelOrder_27 : decode cX5_cancelOrder 27 = .ok (.aload_n 0, 1) := by decide +kernel
theorem dX5_cancelOrder_28 : decode cX5_cancelOrder 28 = .ok (.getfield 23, 3) := by decide +kernel
theorem dX5_cancelOrder_31 : decode cX5_cancelOrder 31 = .ok (.iload_n 1, 1) := by decide +kernel
theorem dX5_cancelOrder_32 : decode cX5_cancelOrder 32 = .ok (.iconst (-1), 1) := by decide +kernel
theorem dX5_cancelOrder_33 : decode cX5_cancelOrder 33 = .ok (.iastore, 1) := by decide +kernel
theorem dX5_cancelOrder_34 : decode cX5_cancelOrder 34 = .ok (.iload_n 2, 1) := by decide +kernel
theorem dX5_cancelOrder_35 : decode cX5_cancelOrder 35 = .ok (.ireturn, 1) := by decide +kernel
theorem dX5_waitingOrders_0 : decode cX5_waitingOrders 0 = .ok (.iconst 0, 1) := by decide +kernel
theorem dX5_waitingOrders_1 : decode cX5_waitingOrders 1 = .ok (.istore_n 1, 1) := by decide +kernel
theorem dX5_waitingOrders_2 : decode cX5_waitingOrders 2 = .ok (.iconst 0, 1) := by decide +kernel
theorem dX5_waitingOrders_3 : decode cX5_waitingOrders 3 = .ok (.istore_n 2, 1) := by decide +kernel
theorem dX5_waitingOrders_4 : decode cX5_waitingOrders 4 = .ok (.iload_n 2, 1) := by decide +kernel
theorem dX5_waitingOrders_5 : decode cX5_waitingOrders 5 = .ok (.aload_n 0, 1) := by decide +kernel
theorem dX5_waitingOrders_6 : decode cX5_waitingOrders 6 = .ok (.getfield 15, 3) := by decide +kernel
theorem dX5_waitingOrders_9 : decode cX5_waitingOrders 9 = .ok (.if_icmp .ge 22, 3) := by decide +kernel
theorem dX5_waitingOrders_12 : decode cX5_waitingOrders 12 = .ok (.aload_n 0, 1) := by decide +kernel
theorem dX5_waitingOrders_13 : decode cX5_waitingOrders 13 = .ok (.getfield 23, 3) := by decide +kernel
theorem dX5_waitingOrders_16 : decode cX5_waitingOrders 16 = .ok (.iload_n 2, 1) := by decide +kernel
theorem dX5_waitingOrders_17 : decode cX5_waitingOrders 17 = .ok (.iaload, 1) := by decide +kernel
theorem dX5_waitingOrders_18 : decode cX5_waitingOrders 18 = .ok (.iconst (-1), 1) := by decide +kernel
theorem dX5_waitingOrders_19 : decode cX5_waitingOrders 19 = .ok (.if_icmp .eq 6, 3) := by decide +kernel
theorem dX5_waitingOrders_22 : decode cX5_waitingOrders 22 = .ok (.iinc 1 1, 3) := by decide +kernel
theorem dX5_waitingOrders_25 : decode cX5_waitingOrders 25 = .ok (.iinc 2 1, 3) := by decide +kernel
theorem dX5_waitingOrders_28 : decode cX5_waitingOrders 28 = .ok (.goto (-24), 3) := by decide +kernel
theorem dX5_waitingOrders_31 : decode cX5_waitingOrders 31 = .ok (.iload_n 1, 1) := by decide +kernel
theorem dX5_waitingOrders_32 : decode cX5_waitingOrders 32 = .ok (.ireturn, 1) := by decide +kernel
theorem dX5_waitingPier_0 : decode cX5_waitingPier 0 = .ok (.aload_n 0, 1) := by decide +kernel
theorem dX5_waitingPier_1 : decode cX5_waitingPier 1 = .ok (.iload_n 1, 1) := by decide +kernel
theorem dX5_waitingPier_2 : decode cX5_waitingPier 2 = .ok (.invokevirtual 195, 3) := by decide +kernel
theorem dX5_waitingPier_5 : decode cX5_waitingPier 5 = .ok (.istore_n 2, 1) := by decide +kernel
theorem dX5_waitingPier_6 : decode cX5_waitingPier 6 = .ok (.iload_n 2, 1) := by decide +kernel
theorem dX5_waitingPier_7 : decode cX5_waitingPier 7 = .ok (.iconst (-1), 1) := by decide +kernel
theorem dX5_waitingPier_8 : decode cX5_waitingPier 8 = .ok (.if_icmp .ne 13, 3) := by decide +kernel
theorem dX5_waitingPier_11 : decode cX5_waitingPier 11 = .ok (.new 148, 3) := by decide +kernel
theorem dX5_waitingPier_14 : decode cX5_waitingPier 14 = .ok (.dup, 1) := by decide +kernel
theorem dX5_waitingPier_15 : decode cX5_waitingPier 15 = .ok (.ldc 150, 2) := by decide +kernel
theorem dX5_waitingPier_17 : decode cX5_waitingPier 17 = .ok (.invokespecial 152, 3) := by decide +kernel
theorem dX5_waitingPier_20 : decode cX5_waitingPier 20 = .ok (.athrow, 1) := by decide +kernel
theorem dX5_waitingPier_21 : decode cX5_waitingPier 21 = .ok (.iload_n 2, 1) := by decide +kernel
theorem dX5_waitingPier_22 : decode cX5_waitingPier 22 = .ok (.ireturn, 1) := by decide +kernel
theorem dX5_jobPier_0 : decode cX5_jobPier 0 = .ok (.aload_n 0, 1) := by decide +kernel
theorem dX5_jobPier_1 : decode cX5_jobPier 1 = .ok (.getfield 46, 3) := by decide +kernel
theorem dX5_jobPier_4 : decode cX5_jobPier 4 = .ok (.ireturn, 1) := by decide +kernel
theorem dX5_linesToPaint_0 : decode cX5_linesToPaint 0 = .ok (.aload_n 0, 1) := by decide +kernel
theorem dX5_linesToPaint_1 : decode cX5_linesToPaint 1 = .ok (.getfield 46, 3) := by decide +kernel
theorem dX5_linesToPaint_4 : decode cX5_linesToPaint 4 = .ok (.iconst (-1), 1) := by decide +kernel
theorem dX5_linesToPaint_5 : decode cX5_linesToPaint 5 = .ok (.if_icmp .ne 7, 3) := by decide +kernel
theorem dX5_linesToPaint_8 : decode cX5_linesToPaint 8 = .ok (.iconst 0, 1) := by decide +kernel
theorem dX5_linesToPaint_9 : decode cX5_linesToPaint 9 = .ok (.goto 18, 3) := by decide +kernel
theorem dX5_linesToPaint_12 : decode cX5_linesToPaint 12 = .ok (.aload_n 0, 1) := by decide +kernel
theorem dX5_linesToPaint_13 : decode cX5_linesToPaint 13 = .ok (.getfield 11, 3) := by decide +kernel
theorem dX5_linesToPaint_16 : decode cX5_linesToPaint 16 = .ok (.aload_n 0, 1) := by decide +kernel
theorem dX5_linesToPaint_17 : decode cX5_linesToPaint 17 = .ok (.getfield 46, 3) := by decide +kernel
theorem dX5_linesToPaint_20 : decode cX5_linesToPaint 20 = .ok (.aaload, 1) := by decide +kernel
theorem dX5_linesToPaint_21 : decode cX5_linesToPaint 21 = .ok (.getfield 79, 3) := by decide +kernel
theorem dX5_linesToPaint_24 : decode cX5_linesToPaint 24 = .ok (.invokevirtual 198, 3) := by decide +kernel
theorem dX5_linesToPaint_27 : decode cX5_linesToPaint 27 = .ok (.ireturn, 1) := by decide +kernel
theorem dX5_paint_0 : decode cX5_paint 0 = .ok (.iload_n 1, 1) := by decide +kernel
theorem dX5_paint_1 : decode cX5_paint 1 = .ok (.iconst 1, 1) := by decide +kernel
theorem dX5_paint_2 : decode cX5_paint 2 = .ok (.bipush 50, 2) := by decide +kernel
theorem dX5_paint_4 : decode cX5_paint 4 = .ok (.invokestatic 55, 3) := by decide +kernel
theorem dX5_paint_7 : decode cX5_paint 7 = .ok (.iconst 0, 1) := by decide +kernel
theorem dX5_paint_8 : decode cX5_paint 8 = .ok (.istore_n 2, 1) := by decide +kernel
theorem dX5_paint_9 : decode cX5_paint 9 = .ok (.iload_n 2, 1) := by decide +kernel
theorem dX5_paint_10 : decode cX5_paint 10 = .ok (.iload_n 1, 1) := by decide +kernel
theorem dX5_paint_11 : decode cX5_paint 11 = .ok (.if_icmp .ge 16, 3) := by decide +kernel
theorem dX5_paint_14 : decode cX5_paint 14 = .ok (.aload_n 0, 1) := by decide +kernel
theorem dX5_paint_15 : decode cX5_paint 15 = .ok (.invokevirtual 201, 3) := by decide +kernel
theorem dX5_paint_18 : decode cX5_paint 18 = .ok (.ifCond .eq 9, 3) := by decide +kernel
theorem dX5_paint_21 : decode cX5_paint 21 = .ok (.iinc 2 1, 3) := by decide +kernel
theorem dX5_paint_24 : decode cX5_paint 24 = .ok (.goto (-15), 3) := by decide +kernel
theorem dX5_paint_27 : decode cX5_paint 27 = .ok (.iload_n 2, 1) := by decide +kernel
theorem dX5_paint_28 : decode cX5_paint 28 = .ok (.ireturn, 1) := by decide +kernel
theorem dX5_giveUpJob_0 : decode cX5_giveUpJob 0 = .ok (.aload_n 0, 1) := by decide +kernel
theorem dX5_giveUpJob_1 : decode cX5_giveUpJob 1 = .ok (.getfield 46, 3) := by decide +kernel
theorem dX5_giveUpJob_4 : decode cX5_giveUpJob 4 = .ok (.iconst (-1), 1) := by decide +kernel
theorem dX5_giveUpJob_5 : decode cX5_giveUpJob 5 = .ok (.if_icmp .ne 13, 3) := by decide +kernel
theorem dX5_giveUpJob_8 : decode cX5_giveUpJob 8 = .ok (.new 59, 3) := by decide +kernel
theorem dX5_giveUpJob_11 : decode cX5_giveUpJob 11 = .ok (.dup, 1) := by decide +kernel
theorem dX5_giveUpJob_12 : decode cX5_giveUpJob 12 = .ok (.ldc 205, 2) := by decide +kernel
theorem dX5_giveUpJob_14 : decode cX5_giveUpJob 14 = .ok (.invokespecial 63, 3) := by decide +kernel
theorem dX5_giveUpJob_17 : decode cX5_giveUpJob 17 = .ok (.athrow, 1) := by decide +kernel
theorem dX5_giveUpJob_18 : decode cX5_giveUpJob 18 = .ok (.aload_n 0, 1) := by decide +kernel
theorem dX5_giveUpJob_19 : decode cX5_giveUpJob 19 = .ok (.getfield 11, 3) := by decide +kernel
theorem dX5_giveUpJob_22 : decode cX5_giveUpJob 22 = .ok (.aload_n 0, 1) := by decide +kernel
theorem dX5_giveUpJob_23 : decode cX5_giveUpJob 23 = .ok (.getfield 46, 3) := by decide +kernel
theorem dX5_giveUpJob_26 : decode cX5_giveUpJob 26 = .ok (.aaload, 1) := by decide +kernel
theorem dX5_giveUpJob_27 : decode cX5_giveUpJob 27 = .ok (.getfield 79, 3) := by decide +kernel
theorem dX5_giveUpJob_30 : decode cX5_giveUpJob 30 = .ok (.invokevirtual 198, 3) := by decide +kernel
theorem dX5_giveUpJob_33 : decode cX5_giveUpJob 33 = .ok (.istore_n 1, 1) := by decide +kernel
theorem dX5_giveUpJob_34 : decode cX5_giveUpJob 34 = .ok (.aload_n 0, 1) := by decide +kernel
theorem dX5_giveUpJob_35 : decode cX5_giveUpJob 35 = .ok (.iconst (-1), 1) := by decide +kernel
theorem dX5_giveUpJob_36 : decode cX5_giveUpJob 36 = .ok (.putfield 46, 3) := by decide +kernel
theorem dX5_giveUpJob_39 : decode cX5_giveUpJob 39 = .ok (.iload_n 1, 1) := by decide +kernel
theorem dX5_giveUpJob_40 : decode cX5_giveUpJob 40 = .ok (.ireturn, 1) := by decide +kernel
theorem dX5_touchUp_0 : decode cX5_touchUp 0 = .ok (.aload_n 0, 1) := by decide +kernel
theorem dX5_touchUp_1 : decode cX5_touchUp 1 = .ok (.iload_n 1, 1) := by decide +kernel
theorem dX5_touchUp_2 : decode cX5_touchUp 2 = .ok (.invokevirtual 95, 3) := by decide +kernel
theorem dX5_touchUp_5 : decode cX5_touchUp 5 = .ok (.getfield 79, 3) := by decide +kernel
theorem dX5_touchUp_8 : decode cX5_touchUp 8 = .ok (.astore_n 2, 1) := by decide +kernel
theorem dX5_touchUp_9 : decode cX5_touchUp 9 = .ok (.aload_n 2, 1) := by decide +kernel
theorem dX5_touchUp_10 : decode cX5_touchUp 10 = .ok (.invokevirtual 207, 3) := by decide +kernel
theorem dX5_touchUp_13 : decode cX5_touchUp 13 = .ok (.istore_n 3, 1) := by decide +kernel
theorem dX5_touchUp_14 : decode cX5_touchUp 14 = .ok (.iload_n 3, 1) := by decide +kernel
theorem dX5_touchUp_15 : decode cX5_touchUp 15 = .ok (.iconst (-1), 1) := by decide +kernel
theorem dX5_touchUp_16 : decode cX5_touchUp 16 = .ok (.if_icmp .ne 13, 3) := by decide +kernel
theorem dX5_touchUp_19 : decode cX5_touchUp 19 = .ok (.new 148, 3) := by decide +kernel
theorem dX5_touchUp_22 : decode cX5_touchUp 22 = .ok (.dup, 1) := by decide +kernel
theorem dX5_touchUp_23 : decode cX5_touchUp 23 = .ok (.ldc 210, 2) := by decide +kernel
theorem dX5_touchUp_25 : decode cX5_touchUp 25 = .ok (.invokespecial 152, 3) := by decide +kernel
theorem dX5_touchUp_28 : decode cX5_touchUp 28 = .ok (.athrow, 1) := by decide +kernel
theorem dX5_touchUp_29 : decode cX5_touchUp 29 = .ok (.aload_n 0, 1) := by decide +kernel
theorem dX5_touchUp_30 : decode cX5_touchUp 30 = .ok (.aload_n 2, 1) := by decide +kernel
theorem dX5_touchUp_31 : decode cX5_touchUp 31 = .ok (.iload_n 3, 1) := by decide +kernel
theorem dX5_touchUp_32 : decode cX5_touchUp 32 = .ok (.invokevirtual 212, 3) := by decide +kernel
theorem dX5_touchUp_35 : decode cX5_touchUp 35 = .ok (.iconst 5, 1) := by decide +kernel
theorem dX5_touchUp_36 : decode cX5_touchUp 36 = .ok (.invokevirtual 216, 3) := by decide +kernel
theorem dX5_touchUp_39 : decode cX5_touchUp 39 = .ok (.ifCond .ne 13, 3) := by decide +kernel
theorem dX5_touchUp_42 : decode cX5_touchUp 42 = .ok (.new 59, 3) := by decide +kernel
theorem dX5_touchUp_45 : decode cX5_touchUp 45 = .ok (.dup, 1) := by decide +kernel
theorem dX5_touchUp_46 : decode cX5_touchUp 46 = .ok (.ldc 220, 2) := by decide +kernel
theorem dX5_touchUp_48 : decode cX5_touchUp 48 = .ok (.invokespecial 63, 3) := by decide +kernel
theorem dX5_touchUp_51 : decode cX5_touchUp 51 = .ok (.athrow, 1) := by decide +kernel
theorem dX5_touchUp_52 : decode cX5_touchUp 52 = .ok (.aload_n 0, 1) := by decide +kernel
theorem dX5_touchUp_53 : decode cX5_touchUp 53 = .ok (.dup, 1) := by decide +kernel
theorem dX5_touchUp_54 : decode cX5_touchUp 54 = .ok (.getfield 49, 3) := by decide +kernel
theorem dX5_touchUp_57 : decode cX5_touchUp 57 = .ok (.iconst 5, 1) := by decide +kernel
theorem dX5_touchUp_58 : decode cX5_touchUp 58 = .ok (.iadd, 1) := by decide +kernel
theorem dX5_touchUp_59 : decode cX5_touchUp 59 = .ok (.putfield 49, 3) := by decide +kernel
theorem dX5_touchUp_62 : decode cX5_touchUp 62 = .ok (.aload_n 2, 1) := by decide +kernel
theorem dX5_touchUp_63 : decode cX5_touchUp 63 = .ok (.iload_n 3, 1) := by decide +kernel
theorem dX5_touchUp_64 : decode cX5_touchUp 64 = .ok (.aload_n 0, 1) := by decide +kernel
theorem dX5_touchUp_65 : decode cX5_touchUp 65 = .ok (.getfield 43, 3) := by decide +kernel
theorem dX5_touchUp_68 : decode cX5_touchUp 68 = .ok (.invokevirtual 222, 3) := by decide +kernel
theorem dX5_touchUp_71 : decode cX5_touchUp 71 = .ok (.iload_n 3, 1) := by decide +kernel
theorem dX5_touchUp_72 : decode cX5_touchUp 72 = .ok (.ireturn, 1) := by decide +kernel
theorem dX5_boardDay_0 : decode cX5_boardDay 0 = .ok (.aload_n 0, 1) := by decide +kernel
theorem dX5_boardDay_1 : decode cX5_boardDay 1 = .ok (.iload_n 1, 1) := by decide +kernel
theorem dX5_boardDay_2 : decode cX5_boardDay 2 = .ok (.invokevirtual 95, 3) := by decide +kernel
theorem dX5_boardDay_5 : decode cX5_boardDay 5 = .ok (.getfield 79, 3) := by decide +kernel
theorem dX5_boardDay_8 : decode cX5_boardDay 8 = .ok (.getfield 225, 3) := by decide +kernel
theorem dX5_boardDay_11 : decode cX5_boardDay 11 = .ok (.ireturn, 1) := by decide +kernel
theorem dX5_lineCount_0 : decode cX5_lineCount 0 = .ok (.aload_n 0, 1) := by decide +kernel
theorem dX5_lineCount_1 : decode cX5_lineCount 1 = .ok (.iload_n 1, 1) := by decide +kernel
theorem dX5_lineCount_2 : decode cX5_lineCount 2 = .ok (.invokevirtual 95, 3) := by decide +kernel
theorem dX5_lineCount_5 : decode cX5_lineCount 5 = .ok (.getfield 79, 3) := by decide +kernel
theorem dX5_lineCount_8 : decode cX5_lineCount 8 = .ok (.getfield 228, 3) := by decide +kernel
theorem dX5_lineCount_11 : decode cX5_lineCount 11 = .ok (.getfield 106, 3) := by decide +kernel
theorem dX5_lineCount_14 : decode cX5_lineCount 14 = .ok (.ireturn, 1) := by decide +kernel
theorem dX5_lineState_0 : decode cX5_lineState 0 = .ok (.aload_n 0, 1) := by decide +kernel
theorem dX5_lineState_1 : decode cX5_lineState 1 = .ok (.iload_n 1, 1) := by decide +kernel
theorem dX5_lineState_2 : decode cX5_lineState 2 = .ok (.iload_n 2, 1) := by decide +kernel
theorem dX5_lineState_3 : decode cX5_lineState 3 = .ok (.invokevirtual 231, 3) := by decide +kernel
theorem dX5_lineState_6 : decode cX5_lineState 6 = .ok (.getfield 235, 3) := by decide +kernel
theorem dX5_lineState_9 : decode cX5_lineState 9 = .ok (.iload_n 2, 1) := by decide +kernel
theorem dX5_lineState_10 : decode cX5_lineState 10 = .ok (.iaload, 1) := by decide +kernel
theorem dX5_lineState_11 : decode cX5_lineState 11 = .ok (.ireturn, 1) := by decide +kernel
theorem dX5_lineMinute_0 : decode cX5_lineMinute 0 = .ok (.aload_n 0, 1) := by decide +kernel
theorem dX5_lineMinute_1 : decode cX5_lineMinute 1 = .ok (.iload_n 1, 1) := by decide +kernel
theorem dX5_lineMinute_2 : decode cX5_lineMinute 2 = .ok (.iload_n 2, 1) := by decide +kernel
theorem dX5_lineMinute_3 : decode cX5_lineMinute 3 = .ok (.invokevirtual 238, 3) := by decide +kernel
theorem dX5_lineMinute_6 : decode cX5_lineMinute 6 = .ok (.getfield 228, 3) := by decide +kernel
end
section
theorem dX5_lineMinute_9 : decode cX5_lineMinute 9 = .ok (.getfield 112, 3) := by decide +kernel
theorem dX5_lineMinute_12 : decode cX5_lineMinute 12 = .ok (.iload_n 2, 1) := by decide +kernel
theorem dX5_lineMinute_13 : decode cX5_lineMinute 13 = .ok (.iaload, 1) := by decide +kernel
theorem dX5_lineMinute_14 : decode cX5_lineMinute 14 = .ok (.ireturn, 1) := by decide +kernel
theorem dX5_lineHeight_0 : decode cX5_lineHeight 0 = .ok (.aload_n 0, 1) := by decide +kernel
theorem dX5_lineHeight_1 : decode cX5_lineHeight 1 = .ok (.iload_n 1, 1) := by decide +kernel
theorem dX5_lineHeight_2 : decode cX5_lineHeight 2 = .ok (.iload_n 2, 1) := by decide +kernel
theorem dX5_lineHeight_3 : decode cX5_lineHeight 3 = .ok (.invokevirtual 238, 3) := by decide +kernel
theorem dX5_lineHeight_6 : decode cX5_lineHeight 6 = .ok (.getfield 228, 3) := by decide +kernel
theorem dX5_lineHeight_9 : decode cX5_lineHeight 9 = .ok (.getfield 115, 3) := by decide +kernel
theorem dX5_lineHeight_12 : decode cX5_lineHeight 12 = .ok (.iload_n 2, 1) := by decide +kernel
theorem dX5_lineHeight_13 : decode cX5_lineHeight 13 = .ok (.iaload, 1) := by decide +kernel
theorem dX5_lineHeight_14 : decode cX5_lineHeight 14 = .ok (.ireturn, 1) := by decide +kernel
theorem dX5_dripsOf_0 : decode cX5_dripsOf 0 = .ok (.aload_n 0, 1) := by decide +kernel
theorem dX5_dripsOf_1 : decode cX5_dripsOf 1 = .ok (.iload_n 1, 1) := by decide +kernel
theorem dX5_dripsOf_2 : decode cX5_dripsOf 2 = .ok (.invokevirtual 95, 3) := by decide +kernel
theorem dX5_dripsOf_5 : decode cX5_dripsOf 5 = .ok (.getfield 79, 3) := by decide +kernel
theorem dX5_dripsOf_8 : decode cX5_dripsOf 8 = .ok (.getfield 241, 3) := by decide +kernel
theorem dX5_dripsOf_11 : decode cX5_dripsOf 11 = .ok (.ireturn, 1) := by decide +kernel
theorem dX5_unreadableLines_0 : decode cX5_unreadableLines 0 = .ok (.aload_n 0, 1) := by decide +kernel
theorem dX5_unreadableLines_1 : decode cX5_unreadableLines 1 = .ok (.iload_n 1, 1) := by decide +kernel
theorem dX5_unreadableLines_2 : decode cX5_unreadableLines 2 = .ok (.invokevirtual 95, 3) := by decide +kernel
theorem dX5_unreadableLines_5 : decode cX5_unreadableLines 5 = .ok (.getfield 79, 3) := by decide +kernel
theorem dX5_unreadableLines_8 : decode cX5_unreadableLines 8 = .ok (.invokevirtual 244, 3) := by decide +kernel
theorem dX5_unreadableLines_11 : decode cX5_unreadableLines 11 = .ok (.ireturn, 1) := by decide +kernel
theorem dX5_isRight_0 : decode cX5_isRight 0 = .ok (.aload_n 0, 1) := by decide +kernel
theorem dX5_isRight_1 : decode cX5_isRight 1 = .ok (.aload_n 0, 1) := by decide +kernel
theorem dX5_isRight_2 : decode cX5_isRight 2 = .ok (.iload_n 1, 1) := by decide +kernel
theorem dX5_isRight_3 : decode cX5_isRight 3 = .ok (.invokevirtual 95, 3) := by decide +kernel
theorem dX5_isRight_6 : decode cX5_isRight 6 = .ok (.invokevirtual 247, 3) := by decide +kernel
theorem dX5_isRight_9 : decode cX5_isRight 9 = .ok (.ireturn, 1) := by decide +kernel
theorem dX5_rightBoards_0 : decode cX5_rightBoards 0 = .ok (.iconst 0, 1) := by decide +kernel
theorem dX5_rightBoards_1 : decode cX5_rightBoards 1 = .ok (.istore_n 1, 1) := by decide +kernel
theorem dX5_rightBoards_2 : decode cX5_rightBoards 2 = .ok (.iconst 0, 1) := by decide +kernel
theorem dX5_rightBoards_3 : decode cX5_rightBoards 3 = .ok (.istore_n 2, 1) := by decide +kernel
theorem dX5_rightBoards_4 : decode cX5_rightBoards 4 = .ok (.iload_n 2, 1) := by decide +kernel
theorem dX5_rightBoards_5 : decode cX5_rightBoards 5 = .ok (.aload_n 0, 1) := by decide +kernel
theorem dX5_rightBoards_6 : decode cX5_rightBoards 6 = .ok (.getfield 15, 3) := by decide +kernel
theorem dX5_rightBoards_9 : decode cX5_rightBoards 9 = .ok (.if_icmp .ge 28, 3) := by decide +kernel
theorem dX5_rightBoards_12 : decode cX5_rightBoards 12 = .ok (.aload_n 0, 1) := by decide +kernel
theorem dX5_rightBoards_13 : decode cX5_rightBoards 13 = .ok (.aload_n 0, 1) := by decide +kernel
theorem dX5_rightBoards_14 : decode cX5_rightBoards 14 = .ok (.getfield 11, 3) := by decide +kernel
theorem dX5_rightBoards_17 : decode cX5_rightBoards 17 = .ok (.iload_n 2, 1) := by decide +kernel
theorem dX5_rightBoards_18 : decode cX5_rightBoards 18 = .ok (.aaload, 1) := by decide +kernel
theorem dX5_rightBoards_19 : decode cX5_rightBoards 19 = .ok (.invokevirtual 247, 3) := by decide +kernel
theorem dX5_rightBoards_22 : decode cX5_rightBoards 22 = .ok (.ifCond .eq 9, 3) := by decide +kernel
theorem dX5_rightBoards_25 : decode cX5_rightBoards 25 = .ok (.iload_n 1, 1) := by decide +kernel
theorem dX5_rightBoards_26 : decode cX5_rightBoards 26 = .ok (.iconst 1, 1) := by decide +kernel
theorem dX5_rightBoards_27 : decode cX5_rightBoards 27 = .ok (.iload_n 2, 1) := by decide +kernel
theorem dX5_rightBoards_28 : decode cX5_rightBoards 28 = .ok (.ishl, 1) := by decide +kernel
theorem dX5_rightBoards_29 : decode cX5_rightBoards 29 = .ok (.ior, 1) := by decide +kernel
theorem dX5_rightBoards_30 : decode cX5_rightBoards 30 = .ok (.istore_n 1, 1) := by decide +kernel
theorem dX5_rightBoards_31 : decode cX5_rightBoards 31 = .ok (.iinc 2 1, 3) := by decide +kernel
theorem dX5_rightBoards_34 : decode cX5_rightBoards 34 = .ok (.goto (-30), 3) := by decide +kernel
theorem dX5_rightBoards_37 : decode cX5_rightBoards 37 = .ok (.iload_n 1, 1) := by decide +kernel
theorem dX5_rightBoards_38 : decode cX5_rightBoards 38 = .ok (.ireturn, 1) := by decide +kernel
theorem dX5_demandWithin_0 : decode cX5_demandWithin 0 = .ok (.iload_n 0, 1) := by decide +kernel
theorem dX5_demandWithin_1 : decode cX5_demandWithin 1 = .ok (.iload_n 1, 1) := by decide +kernel
theorem dX5_demandWithin_2 : decode cX5_demandWithin 2 = .ok (.if_icmp .lt 8, 3) := by decide +kernel
theorem dX5_demandWithin_5 : decode cX5_demandWithin 5 = .ok (.iload_n 0, 1) := by decide +kernel
theorem dX5_demandWithin_6 : decode cX5_demandWithin 6 = .ok (.iload_n 2, 1) := by decide +kernel
theorem dX5_demandWithin_7 : decode cX5_demandWithin 7 = .ok (.if_icmp .le 13, 3) := by decide +kernel
theorem dX5_demandWithin_10 : decode cX5_demandWithin 10 = .ok (.new 251, 3) := by decide +kernel
theorem dX5_demandWithin_13 : decode cX5_demandWithin 13 = .ok (.dup, 1) := by decide +kernel
theorem dX5_demandWithin_14 : decode cX5_demandWithin 14 = .ok (.ldc 253, 2) := by decide +kernel
theorem dX5_demandWithin_16 : decode cX5_demandWithin 16 = .ok (.invokespecial 255, 3) := by decide +kernel
theorem dX5_demandWithin_19 : decode cX5_demandWithin 19 = .ok (.athrow, 1) := by decide +kernel
theorem dX5_demandWithin_20 : decode cX5_demandWithin 20 = .ok (.return_, 1) := by decide +kernel
theorem dX5_demandDay_0 : decode cX5_demandDay 0 = .ok (.iload_n 0, 1) := by decide +kernel
theorem dX5_demandDay_1 : decode cX5_demandDay 1 = .ok (.iconst 0, 1) := by decide +kernel
theorem dX5_demandDay_2 : decode cX5_demandDay 2 = .ok (.ldc_w 256, 3) := by decide +kernel
theorem dX5_demandDay_5 : decode cX5_demandDay 5 = .ok (.invokestatic 55, 3) := by decide +kernel
theorem dX5_demandDay_8 : decode cX5_demandDay 8 = .ok (.return_, 1) := by decide +kernel
theorem dX5_demandMinutesLate_0 : decode cX5_demandMinutesLate 0 = .ok (.iload_n 0, 1) := by decide +kernel
theorem dX5_demandMinutesLate_1 : decode cX5_demandMinutesLate 1 = .ok (.bipush (-60), 2) := by decide +kernel
theorem dX5_demandMinutesLate_3 : decode cX5_demandMinutesLate 3 = .ok (.bipush 60, 2) := by decide +kernel
theorem dX5_demandMinutesLate_5 : decode cX5_demandMinutesLate 5 = .ok (.invokestatic 55, 3) := by decide +kernel
theorem dX5_demandMinutesLate_8 : decode cX5_demandMinutesLate 8 = .ok (.return_, 1) := by decide +kernel
theorem dX5_demandFisherman_0 : decode cX5_demandFisherman 0 = .ok (.iload_n 0, 1) := by decide +kernel
theorem dX5_demandFisherman_1 : decode cX5_demandFisherman 1 = .ok (.ifCond .lt 9, 3) := by decide +kernel
theorem dX5_demandFisherman_4 : decode cX5_demandFisherman 4 = .ok (.iload_n 0, 1) := by decide +kernel
theorem dX5_demandFisherman_5 : decode cX5_demandFisherman 5 = .ok (.bipush 6, 2) := by decide +kernel
theorem dX5_demandFisherman_7 : decode cX5_demandFisherman 7 = .ok (.if_icmp .lt 14, 3) := by decide +kernel
theorem dX5_demandFisherman_10 : decode cX5_demandFisherman 10 = .ok (.new 257, 3) := by decide +kernel
theorem dX5_demandFisherman_13 : decode cX5_demandFisherman 13 = .ok (.dup, 1) := by decide +kernel
theorem dX5_demandFisherman_14 : decode cX5_demandFisherman 14 = .ok (.ldc_w 259, 3) := by decide +kernel
theorem dX5_demandFisherman_17 : decode cX5_demandFisherman 17 = .ok (.invokespecial 261, 3) := by decide +kernel
theorem dX5_demandFisherman_20 : decode cX5_demandFisherman 20 = .ok (.athrow, 1) := by decide +kernel
theorem dX5_demandFisherman_21 : decode cX5_demandFisherman 21 = .ok (.return_, 1) := by decide +kernel
theorem dX5_demandPier_0 : decode cX5_demandPier 0 = .ok (.iload_n 1, 1) := by decide +kernel
theorem dX5_demandPier_1 : decode cX5_demandPier 1 = .ok (.ifCond .lt 11, 3) := by decide +kernel
theorem dX5_demandPier_4 : decode cX5_demandPier 4 = .ok (.iload_n 1, 1) := by decide +kernel
theorem dX5_demandPier_5 : decode cX5_demandPier 5 = .ok (.aload_n 0, 1) := by decide +kernel
theorem dX5_demandPier_6 : decode cX5_demandPier 6 = .ok (.getfield 15, 3) := by decide +kernel
theorem dX5_demandPier_9 : decode cX5_demandPier 9 = .ok (.if_icmp .lt 14, 3) := by decide +kernel
theorem dX5_demandPier_12 : decode cX5_demandPier 12 = .ok (.new 257, 3) := by decide +kernel
theorem dX5_demandPier_15 : decode cX5_demandPier 15 = .ok (.dup, 1) := by decide +kernel
theorem dX5_demandPier_16 : decode cX5_demandPier 16 = .ok (.ldc_w 262, 3) := by decide +kernel
theorem dX5_demandPier_19 : decode cX5_demandPier 19 = .ok (.invokespecial 261, 3) := by decide +kernel
theorem dX5_demandPier_22 : decode cX5_demandPier 22 = .ok (.athrow, 1) := by decide +kernel
theorem dX5_demandPier_23 : decode cX5_demandPier 23 = .ok (.return_, 1) := by decide +kernel
theorem dX5_pierNumbered_0 : decode cX5_pierNumbered 0 = .ok (.aload_n 0, 1) := by decide +kernel
theorem dX5_pierNumbered_1 : decode cX5_pierNumbered 1 = .ok (.iload_n 1, 1) := by decide +kernel
theorem dX5_pierNumbered_2 : decode cX5_pierNumbered 2 = .ok (.invokevirtual 185, 3) := by decide +kernel
theorem dX5_pierNumbered_5 : decode cX5_pierNumbered 5 = .ok (.aload_n 0, 1) := by decide +kernel
theorem dX5_pierNumbered_6 : decode cX5_pierNumbered 6 = .ok (.getfield 11, 3) := by decide +kernel
theorem dX5_pierNumbered_9 : decode cX5_pierNumbered 9 = .ok (.iload_n 1, 1) := by decide +kernel
theorem dX5_pierNumbered_10 : decode cX5_pierNumbered 10 = .ok (.aaload, 1) := by decide +kernel
theorem dX5_pierNumbered_11 : decode cX5_pierNumbered 11 = .ok (.areturn, 1) := by decide +kernel
theorem dX5_reportsFor_0 : decode cX5_reportsFor 0 = .ok (.iload_n 1, 1) := by decide +kernel
theorem dX5_reportsFor_1 : decode cX5_reportsFor 1 = .ok (.invokestatic 144, 3) := by decide +kernel
theorem dX5_reportsFor_4 : decode cX5_reportsFor 4 = .ok (.aload_n 0, 1) := by decide +kernel
theorem dX5_reportsFor_5 : decode cX5_reportsFor 5 = .ok (.iload_n 2, 1) := by decide +kernel
theorem dX5_reportsFor_6 : decode cX5_reportsFor 6 = .ok (.invokevirtual 95, 3) := by decide +kernel
theorem dX5_reportsFor_9 : decode cX5_reportsFor 9 = .ok (.getfield 69, 3) := by decide +kernel
theorem dX5_reportsFor_12 : decode cX5_reportsFor 12 = .ok (.areturn, 1) := by decide +kernel
theorem dX5_placeOfReport_0 : decode cX5_placeOfReport 0 = .ok (.aload_n 0, 1) := by decide +kernel
theorem dX5_placeOfReport_1 : decode cX5_placeOfReport 1 = .ok (.iload_n 1, 1) := by decide +kernel
theorem dX5_placeOfReport_2 : decode cX5_placeOfReport 2 = .ok (.invokevirtual 264, 3) := by decide +kernel
theorem dX5_placeOfReport_5 : decode cX5_placeOfReport 5 = .ok (.istore_n 2, 1) := by decide +kernel
theorem dX5_placeOfReport_6 : decode cX5_placeOfReport 6 = .ok (.iload_n 2, 1) := by decide +kernel
theorem dX5_placeOfReport_7 : decode cX5_placeOfReport 7 = .ok (.iconst (-1), 1) := by decide +kernel
theorem dX5_placeOfReport_8 : decode cX5_placeOfReport 8 = .ok (.if_icmp .ne 14, 3) := by decide +kernel
theorem dX5_placeOfReport_11 : decode cX5_placeOfReport 11 = .ok (.new 148, 3) := by decide +kernel
theorem dX5_placeOfReport_14 : decode cX5_placeOfReport 14 = .ok (.dup, 1) := by decide +kernel
theorem dX5_placeOfReport_15 : decode cX5_placeOfReport 15 = .ok (.ldc_w 267, 3) := by decide +kernel
theorem dX5_placeOfReport_18 : decode cX5_placeOfReport 18 = .ok (.invokespecial 152, 3) := by decide +kernel
theorem dX5_placeOfReport_21 : decode cX5_placeOfReport 21 = .ok (.athrow, 1) := by decide +kernel
theorem dX5_placeOfReport_22 : decode cX5_placeOfReport 22 = .ok (.iload_n 2, 1) := by decide +kernel
theorem dX5_placeOfReport_23 : decode cX5_placeOfReport 23 = .ok (.ireturn, 1) := by decide +kernel
theorem dX5_tinsOf_0 : decode cX5_tinsOf 0 = .ok (.iload_n 1, 1) := by decide +kernel
theorem dX5_tinsOf_1 : decode cX5_tinsOf 1 = .ok (.iconst 0, 1) := by decide +kernel
theorem dX5_tinsOf_2 : decode cX5_tinsOf 2 = .ok (.iconst 1, 1) := by decide +kernel
theorem dX5_tinsOf_3 : decode cX5_tinsOf 3 = .ok (.invokestatic 55, 3) := by decide +kernel
theorem dX5_tinsOf_6 : decode cX5_tinsOf 6 = .ok (.iload_n 1, 1) := by decide +kernel
theorem dX5_tinsOf_7 : decode cX5_tinsOf 7 = .ok (.ifCond .ne 10, 3) := by decide +kernel
theorem dX5_tinsOf_10 : decode cX5_tinsOf 10 = .ok (.aload_n 0, 1) := by decide +kernel
theorem dX5_tinsOf_11 : decode cX5_tinsOf 11 = .ok (.getfield 29, 3) := by decide +kernel
theorem dX5_tinsOf_14 : decode cX5_tinsOf 14 = .ok (.goto 7, 3) := by decide +kernel
theorem dX5_tinsOf_17 : decode cX5_tinsOf 17 = .ok (.aload_n 0, 1) := by decide +kernel
theorem dX5_tinsOf_18 : decode cX5_tinsOf 18 = .ok (.getfield 33, 3) := by decide +kernel
theorem dX5_tinsOf_21 : decode cX5_tinsOf 21 = .ok (.areturn, 1) := by decide +kernel
theorem dX5_boardWithLine_0 : decode cX5_boardWithLine 0 = .ok (.aload_n 0, 1) := by decide +kernel
theorem dX5_boardWithLine_1 : decode cX5_boardWithLine 1 = .ok (.iload_n 1, 1) := by decide +kernel
theorem dX5_boardWithLine_2 : decode cX5_boardWithLine 2 = .ok (.invokevirtual 95, 3) := by decide +kernel
theorem dX5_boardWithLine_5 : decode cX5_boardWithLine 5 = .ok (.getfield 79, 3) := by decide +kernel
theorem dX5_boardWithLine_8 : decode cX5_boardWithLine 8 = .ok (.astore_n 3, 1) := by decide +kernel
theorem dX5_boardWithLine_9 : decode cX5_boardWithLine 9 = .ok (.iload_n 2, 1) := by decide +kernel
theorem dX5_boardWithLine_10 : decode cX5_boardWithLine 10 = .ok (.ifCond .lt 14, 3) := by decide +kernel
theorem dX5_boardWithLine_13 : decode cX5_boardWithLine 13 = .ok (.iload_n 2, 1) := by decide +kernel
theorem dX5_boardWithLine_14 : decode cX5_boardWithLine 14 = .ok (.aload_n 3, 1) := by decide +kernel
theorem dX5_boardWithLine_15 : decode cX5_boardWithLine 15 = .ok (.getfield 228, 3) := by decide +kernel
theorem dX5_boardWithLine_18 : decode cX5_boardWithLine 18 = .ok (.getfield 106, 3) := by decide +kernel
theorem dX5_boardWithLine_21 : decode cX5_boardWithLine 21 = .ok (.if_icmp .lt 14, 3) := by decide +kernel
theorem dX5_boardWithLine_24 : decode cX5_boardWithLine 24 = .ok (.new 257, 3) := by decide +kernel
theorem dX5_boardWithLine_27 : decode cX5_boardWithLine 27 = .ok (.dup, 1) := by decide +kernel
theorem dX5_boardWithLine_28 : decode cX5_boardWithLine 28 = .ok (.ldc_w 269, 3) := by decide +kernel
theorem dX5_boardWithLine_31 : decode cX5_boardWithLine 31 = .ok (.invokespecial 261, 3) := by decide +kernel
theorem dX5_boardWithLine_34 : decode cX5_boardWithLine 34 = .ok (.athrow, 1) := by decide +kernel
theorem dX5_boardWithLine_35 : decode cX5_boardWithLine 35 = .ok (.aload_n 3, 1) := by decide +kernel
theorem dX5_boardWithLine_36 : decode cX5_boardWithLine 36 = .ok (.areturn, 1) := by decide +kernel
theorem dX5_boardWithPaintedLine_0 : decode cX5_boardWithPaintedLine 0 = .ok (.aload_n 0, 1) := by decide +kernel
theorem dX5_boardWithPaintedLine_1 : decode cX5_boardWithPaintedLine 1 = .ok (.iload_n 1, 1) := by decide +kernel
theorem dX5_boardWithPaintedLine_2 : decode cX5_boardWithPaintedLine 2 = .ok (.iload_n 2, 1) := by decide +kernel
theorem dX5_boardWithPaintedLine_3 : decode cX5_boardWithPaintedLine 3 = .ok (.invokevirtual 231, 3) := by decide +kernel
theorem dX5_boardWithPaintedLine_6 : decode cX5_boardWithPaintedLine 6 = .ok (.astore_n 3, 1) := by decide +kernel
theorem dX5_boardWithPaintedLine_7 : decode cX5_boardWithPaintedLine 7 = .ok (.aload_n 3, 1) := by decide +kernel
theorem dX5_boardWithPaintedLine_8 : decode cX5_boardWithPaintedLine 8 = .ok (.getfield 235, 3) := by decide +kernel
theorem dX5_boardWithPaintedLine_11 : decode cX5_boardWithPaintedLine 11 = .ok (.iload_n 2, 1) := by decide +kernel
theorem dX5_boardWithPaintedLine_12 : decode cX5_boardWithPaintedLine 12 = .ok (.iaload, 1) := by decide +kernel
theorem dX5_boardWithPaintedLine_13 : decode cX5_boardWithPaintedLine 13 = .ok (.ifCond .ne 14, 3) := by decide +kernel
theorem dX5_boardWithPaintedLine_16 : decode cX5_boardWithPaintedLine 16 = .ok (.new 148, 3) := by decide +kernel
theorem dX5_boardWithPaintedLine_19 : decode cX5_boardWithPaintedLine 19 = .ok (.dup, 1) := by decide +kernel
theorem dX5_boardWithPaintedLine_20 : decode cX5_boardWithPaintedLine 20 = .ok (.ldc_w 271, 3) := by decide +kernel
theorem dX5_boardWithPaintedLine_23 : decode cX5_boardWithPaintedLine 23 = .ok (.invokespecial 152, 3) := by decide +kernel
theorem dX5_boardWithPaintedLine_26 : decode cX5_boardWithPaintedLine 26 = .ok (.athrow, 1) := by decide +kernel
theorem dX5_boardWithPaintedLine_27 : decode cX5_boardWithPaintedLine 27 = .ok (.aload_n 3, 1) := by decide +kernel
theorem dX5_boardWithPaintedLine_28 : decode cX5_boardWithPaintedLine 28 = .ok (.areturn, 1) := by decide +kernel
theorem dX5_moonAgeOn_0 : decode cX5_moonAgeOn 0 = .ok (.iconst 4, 1) := by decide +kernel
theorem dX5_moonAgeOn_1 : decode cX5_moonAgeOn 1 = .ok (.iload_n 0, 1) := by decide +kernel
theorem dX5_moonAgeOn_2 : decode cX5_moonAgeOn 2 = .ok (.imul, 1) := by decide +kernel
theorem dX5_moonAgeOn_3 : decode cX5_moonAgeOn 3 = .ok (.bipush 118, 2) := by decide +kernel
theorem dX5_moonAgeOn_5 : decode cX5_moonAgeOn 5 = .ok (.irem, 1) := by decide +kernel
theorem dX5_moonAgeOn_6 : decode cX5_moonAgeOn 6 = .ok (.ireturn, 1) := by decide +kernel
theorem dX5_fillTableWithWater_0 : decode cX5_fillTableWithWater 0 = .ok (.iload_n 2, 1) := by decide +kernel
theorem dX5_fillTableWithWater_1 : decode cX5_fillTableWithWater 1 = .ok (.invokestatic 88, 3) := by decide +kernel
theorem dX5_fillTableWithWater_4 : decode cX5_fillTableWithWater 4 = .ok (.aload_n 0, 1) := by decide +kernel
theorem dX5_fillTableWithWater_5 : decode cX5_fillTableWithWater 5 = .ok (.getfield 39, 3) := by decide +kernel
theorem dX5_fillTableWithWater_8 : decode cX5_fillTableWithWater 8 = .ok (.aload_n 0, 1) := by decide +kernel
theorem dX5_fillTableWithWater_9 : decode cX5_fillTableWithWater 9 = .ok (.iload_n 1, 1) := by decide +kernel
theorem dX5_fillTableWithWater_10 : decode cX5_fillTableWithWater 10 = .ok (.invokevirtual 95, 3) := by decide +kernel
theorem dX5_fillTableWithWater_13 : decode cX5_fillTableWithWater 13 = .ok (.iload_n 2, 1) := by decide +kernel
theorem dX5_fillTableWithWater_14 : decode cX5_fillTableWithWater 14 = .ok (.invokevirtual 102, 3) := by decide +kernel
theorem dX5_fillTableWithWater_17 : decode cX5_fillTableWithWater 17 = .ok (.iload_n 3, 1) := by decide +kernel
theorem dX5_fillTableWithWater_18 : decode cX5_fillTableWithWater 18 = .ok (.ifCond .lt 14, 3) := by decide +kernel
theorem dX5_fillTableWithWater_21 : decode cX5_fillTableWithWater 21 = .ok (.iload_n 3, 1) := by decide +kernel
theorem dX5_fillTableWithWater_22 : decode cX5_fillTableWithWater 22 = .ok (.aload_n 0, 1) := by decide +kernel
theorem dX5_fillTableWithWater_23 : decode cX5_fillTableWithWater 23 = .ok (.getfield 39, 3) := by decide +kernel
theorem dX5_fillTableWithWater_26 : decode cX5_fillTableWithWater 26 = .ok (.getfield 106, 3) := by decide +kernel
theorem dX5_fillTableWithWater_29 : decode cX5_fillTableWithWater 29 = .ok (.if_icmp .lt 14, 3) := by decide +kernel
theorem dX5_fillTableWithWater_32 : decode cX5_fillTableWithWater 32 = .ok (.new 257, 3) := by decide +kernel
theorem dX5_fillTableWithWater_35 : decode cX5_fillTableWithWater 35 = .ok (.dup, 1) := by decide +kernel
theorem dX5_fillTableWithWater_36 : decode cX5_fillTableWithWater 36 = .ok (.ldc_w 273, 3) := by decide +kernel
theorem dX5_fillTableWithWater_39 : decode cX5_fillTableWithWater 39 = .ok (.invokespecial 261, 3) := by decide +kernel
theorem dX5_fillTableWithWater_42 : decode cX5_fillTableWithWater 42 = .ok (.athrow, 1) := by decide +kernel
theorem dX5_fillTableWithWater_43 : decode cX5_fillTableWithWater 43 = .ok (.return_, 1) := by decide +kernel
theorem dX5_showsThisDay_0 : decode cX5_showsThisDay 0 = .ok (.aload_n 1, 1) := by decide +kernel
theorem dX5_showsThisDay_1 : decode cX5_showsThisDay 1 = .ok (.getfield 79, 3) := by decide +kernel
theorem dX5_showsThisDay_4 : decode cX5_showsThisDay 4 = .ok (.astore_n 2, 1) := by decide +kernel
theorem dX5_showsThisDay_5 : decode cX5_showsThisDay 5 = .ok (.aload_n 2, 1) := by decide +kernel
theorem dX5_showsThisDay_6 : decode cX5_showsThisDay 6 = .ok (.getfield 225, 3) := by decide +kernel
theorem dX5_showsThisDay_9 : decode cX5_showsThisDay 9 = .ok (.aload_n 0, 1) := by decide +kernel
theorem dX5_showsThisDay_10 : decode cX5_showsThisDay 10 = .ok (.getfield 43, 3) := by decide +kernel
theorem dX5_showsThisDay_13 : decode cX5_showsThisDay 13 = .ok (.if_icmp .ne 10, 3) := by decide +kernel
theorem dX5_showsThisDay_16 : decode cX5_showsThisDay 16 = .ok (.aload_n 2, 1) := by decide +kernel
theorem dX5_showsThisDay_17 : decode cX5_showsThisDay 17 = .ok (.invokevirtual 244, 3) := by decide +kernel
theorem dX5_showsThisDay_20 : decode cX5_showsThisDay 20 = .ok (.ifCond .eq 5, 3) := by decide +kernel
theorem dX5_showsThisDay_23 : decode cX5_showsThisDay 23 = .ok (.iconst 0, 1) := by decide +kernel
theorem dX5_showsThisDay_24 : decode cX5_showsThisDay 24 = .ok (.ireturn, 1) := by decide +kernel
theorem dX5_showsThisDay_25 : decode cX5_showsThisDay 25 = .ok (.aload_n 0, 1) := by decide +kernel
theorem dX5_showsThisDay_26 : decode cX5_showsThisDay 26 = .ok (.getfield 39, 3) := by decide +kernel
theorem dX5_showsThisDay_29 : decode cX5_showsThisDay 29 = .ok (.aload_n 1, 1) := by decide +kernel
theorem dX5_showsThisDay_30 : decode cX5_showsThisDay 30 = .ok (.aload_n 0, 1) := by decide +kernel
theorem dX5_showsThisDay_31 : decode cX5_showsThisDay 31 = .ok (.getfield 43, 3) := by decide +kernel
theorem dX5_showsThisDay_34 : decode cX5_showsThisDay 34 = .ok (.invokevirtual 102, 3) := by decide +kernel
theorem dX5_showsThisDay_37 : decode cX5_showsThisDay 37 = .ok (.aload_n 2, 1) := by decide +kernel
theorem dX5_showsThisDay_38 : decode cX5_showsThisDay 38 = .ok (.getfield 228, 3) := by decide +kernel
theorem dX5_showsThisDay_41 : decode cX5_showsThisDay 41 = .ok (.aload_n 0, 1) := by decide +kernel
theorem dX5_showsThisDay_42 : decode cX5_showsThisDay 42 = .ok (.getfield 39, 3) := by decide +kernel
theorem dX5_showsThisDay_45 : decode cX5_showsThisDay 45 = .ok (.invokevirtual 275, 3) := by decide +kernel
theorem dX5_showsThisDay_48 : decode cX5_showsThisDay 48 = .ok (.ireturn, 1) := by decide +kernel
theorem dX5_comesBefore_0 : decode cX5_comesBefore 0 = .ok (.aload_n 0, 1) := by decide +kernel
theorem dX5_comesBefore_1 : decode cX5_comesBefore 1 = .ok (.getfield 23, 3) := by decide +kernel
theorem dX5_comesBefore_4 : decode cX5_comesBefore 4 = .ok (.iload_n 1, 1) := by decide +kernel
theorem dX5_comesBefore_5 : decode cX5_comesBefore 5 = .ok (.iaload, 1) := by decide +kernel
theorem dX5_comesBefore_6 : decode cX5_comesBefore 6 = .ok (.aload_n 0, 1) := by decide +kernel
theorem dX5_comesBefore_7 : decode cX5_comesBefore 7 = .ok (.getfield 23, 3) := by decide +kernel
theorem dX5_comesBefore_10 : decode cX5_comesBefore 10 = .ok (.iload_n 2, 1) := by decide +kernel
theorem dX5_comesBefore_11 : decode cX5_comesBefore 11 = .ok (.iaload, 1) := by decide +kernel
theorem dX5_comesBefore_12 : decode cX5_comesBefore 12 = .ok (.if_icmp .eq 24, 3) := by decide +kernel
theorem dX5_comesBefore_15 : decode cX5_comesBefore 15 = .ok (.aload_n 0, 1) := by decide +kernel
theorem dX5_comesBefore_16 : decode cX5_comesBefore 16 = .ok (.getfield 23, 3) := by decide +kernel
theorem dX5_comesBefore_19 : decode cX5_comesBefore 19 = .ok (.iload_n 1, 1) := by decide +kernel
theorem dX5_comesBefore_20 : decode cX5_comesBefore 20 = .ok (.iaload, 1) := by decide +kernel
theorem dX5_comesBefore_21 : decode cX5_comesBefore 21 = .ok (.aload_n 0, 1) := by decide +kernel
theorem dX5_comesBefore_22 : decode cX5_comesBefore 22 = .ok (.getfield 23, 3) := by decide +kernel
theorem dX5_comesBefore_25 : decode cX5_comesBefore 25 = .ok (.iload_n 2, 1) := by decide +kernel
theorem dX5_comesBefore_26 : decode cX5_comesBefore 26 = .ok (.iaload, 1) := by decide +kernel
theorem dX5_comesBefore_27 : decode cX5_comesBefore 27 = .ok (.if_icmp .ge 7, 3) := by decide +kernel
theorem dX5_comesBefore_30 : decode cX5_comesBefore 30 = .ok (.iconst 1, 1) := by decide +kernel
theorem dX5_comesBefore_31 : decode cX5_comesBefore 31 = .ok (.goto 4, 3) := by decide +kernel
theorem dX5_comesBefore_34 : decode cX5_comesBefore 34 = .ok (.iconst 0, 1) := by decide +kernel
theorem dX5_comesBefore_35 : decode cX5_comesBefore 35 = .ok (.ireturn, 1) := by decide +kernel
theorem dX5_comesBefore_36 : decode cX5_comesBefore 36 = .ok (.aload_n 0, 1) := by decide +kernel
theorem dX5_comesBefore_37 : decode cX5_comesBefore 37 = .ok (.getfield 11, 3) := by decide +kernel
theorem dX5_comesBefore_40 : decode cX5_comesBefore 40 = .ok (.iload_n 1, 1) := by decide +kernel
theorem dX5_comesBefore_41 : decode cX5_comesBefore 41 = .ok (.aaload, 1) := by decide +kernel
theorem dX5_comesBefore_42 : decode cX5_comesBefore 42 = .ok (.getfield 279, 3) := by decide +kernel
theorem dX5_comesBefore_45 : decode cX5_comesBefore 45 = .ok (.aload_n 0, 1) := by decide +kernel
theorem dX5_comesBefore_46 : decode cX5_comesBefore 46 = .ok (.getfield 11, 3) := by decide +kernel
theorem dX5_comesBefore_49 : decode cX5_comesBefore 49 = .ok (.iload_n 2, 1) := by decide +kernel
theorem dX5_comesBefore_50 : decode cX5_comesBefore 50 = .ok (.aaload, 1) := by decide +kernel
theorem dX5_comesBefore_51 : decode cX5_comesBefore 51 = .ok (.getfield 279, 3) := by decide +kernel
theorem dX5_comesBefore_54 : decode cX5_comesBefore 54 = .ok (.if_icmp .eq 30, 3) := by decide +kernel
theorem dX5_comesBefore_57 : decode cX5_comesBefore 57 = .ok (.aload_n 0, 1) := by decide +kernel
theorem dX5_comesBefore_58 : decode cX5_comesBefore 58 = .ok (.getfield 11, 3) := by decide +kernel
theorem dX5_comesBefore_61 : decode cX5_comesBefore 61 = .ok (.iload_n 1, 1) := by decide +kernel
theorem dX5_comesBefore_62 : decode cX5_comesBefore 62 = .ok (.aaload, 1) := by decide +kernel
theorem dX5_comesBefore_63 : decode cX5_comesBefore 63 = .ok (.getfield 279, 3) := by decide +kernel
theorem dX5_comesBefore_66 : decode cX5_comesBefore 66 = .ok (.aload_n 0, 1) := by decide +kernel
theorem dX5_comesBefore_67 : decode cX5_comesBefore 67 = .ok (.getfield 11, 3) := by decide +kernel
theorem dX5_comesBefore_70 : decode cX5_comesBefore 70 = .ok (.iload_n 2, 1) := by decide +kernel
theorem dX5_comesBefore_71 : decode cX5_comesBefore 71 = .ok (.aaload, 1) := by decide +kernel
theorem dX5_comesBefore_72 : decode cX5_comesBefore 72 = .ok (.getfield 279, 3) := by decide +kernel
theorem dX5_comesBefore_75 : decode cX5_comesBefore 75 = .ok (.if_icmp .le 7, 3) := by decide +kernel
theorem dX5_comesBefore_78 : decode cX5_comesBefore 78 = .ok (.iconst 1, 1) := by decide +kernel
theorem dX5_comesBefore_79 : decode cX5_comesBefore 79 = .ok (.goto 4, 3) := by decide +kernel
theorem dX5_comesBefore_82 : decode cX5_comesBefore 82 = .ok (.iconst 0, 1) := by decide +kernel
theorem dX5_comesBefore_83 : decode cX5_comesBefore 83 = .ok (.ireturn, 1) := by decide +kernel
theorem dX5_comesBefore_84 : decode cX5_comesBefore 84 = .ok (.iload_n 1, 1) := by decide +kernel
theorem dX5_comesBefore_85 : decode cX5_comesBefore 85 = .ok (.iload_n 2, 1) := by decide +kernel
theorem dX5_comesBefore_86 : decode cX5_comesBefore 86 = .ok (.if_icmp .ge 7, 3) := by decide +kernel
theorem dX5_comesBefore_89 : decode cX5_comesBefore 89 = .ok (.iconst 1, 1) := by decide +kernel
theorem dX5_comesBefore_90 : decode cX5_comesBefore 90 = .ok (.goto 4, 3) := by decide +kernel
theorem dX5_comesBefore_93 : decode cX5_comesBefore 93 = .ok (.iconst 0, 1) := by decide +kernel
theorem dX5_comesBefore_94 : decode cX5_comesBefore 94 = .ok (.ireturn, 1) := by decide +kernel
theorem dX5_ordersBefore_0 : decode cX5_ordersBefore 0 = .ok (.iconst 0, 1) := by decide +kernel
theorem dX5_ordersBefore_1 : decode cX5_ordersBefore 1 = .ok (.istore_n 2, 1) := by decide +kernel
theorem dX5_ordersBefore_2 : decode cX5_ordersBefore 2 = .ok (.iconst 0, 1) := by decide +kernel
theorem dX5_ordersBefore_3 : decode cX5_ordersBefore 3 = .ok (.istore_n 3, 1) := by decide +kernel
theorem dX5_ordersBefore_4 : decode cX5_ordersBefore 4 = .ok (.iload_n 3, 1) := by decide +kernel
theorem dX5_ordersBefore_5 : decode cX5_ordersBefore 5 = .ok (.aload_n 0, 1) := by decide +kernel
theorem dX5_ordersBefore_6 : decode cX5_ordersBefore 6 = .ok (.getfield 15, 3) := by decide +kernel
theorem dX5_ordersBefore_9 : decode cX5_ordersBefore 9 = .ok (.if_icmp .ge 31, 3) := by decide +kernel
theorem dX5_ordersBefore_12 : decode cX5_ordersBefore 12 = .ok (.aload_n 0, 1) := by decide +kernel
theorem dX5_ordersBefore_13 : decode cX5_ordersBefore 13 = .ok (.getfield 23, 3) := by decide +kernel
theorem dX5_ordersBefore_16 : decode cX5_ordersBefore 16 = .ok (.iload_n 3, 1) := by decide +kernel
theorem dX5_ordersBefore_17 : decode cX5_ordersBefore 17 = .ok (.iaload, 1) := by decide +kernel
theorem dX5_ordersBefore_18 : decode cX5_ordersBefore 18 = .ok (.iconst (-1), 1) := by decide +kernel
theorem dX5_ordersBefore_19 : decode cX5_ordersBefore 19 = .ok (.if_icmp .eq 15, 3) := by decide +kernel
theorem dX5_ordersBefore_22 : decode cX5_ordersBefore 22 = .ok (.aload_n 0, 1) := by decide +kernel
theorem dX5_ordersBefore_23 : decode cX5_ordersBefore 23 = .ok (.iload_n 3, 1) := by decide +kernel
theorem dX5_ordersBefore_24 : decode cX5_ordersBefore 24 = .ok (.iload_n 1, 1) := by decide +kernel
theorem dX5_ordersBefore_25 : decode cX5_ordersBefore 25 = .ok (.invokevirtual 282, 3) := by decide +kernel
theorem dX5_ordersBefore_28 : decode cX5_ordersBefore 28 = .ok (.ifCond .eq 6, 3) := by decide +kernel
theorem dX5_ordersBefore_31 : decode cX5_ordersBefore 31 = .ok (.iinc 2 1, 3) := by decide +kernel
theorem dX5_ordersBefore_34 : decode cX5_ordersBefore 34 = .ok (.iinc 3 1, 3) := by decide +kernel
theorem dX5_ordersBefore_37 : decode cX5_ordersBefore 37 = .ok (.goto (-33), 3) := by decide +kernel
theorem dX5_ordersBefore_40 : decode cX5_ordersBefore 40 = .ok (.iload_n 2, 1) := by decide +kernel
theorem dX5_ordersBefore_41 : decode cX5_ordersBefore 41 = .ok (.ireturn, 1) := by decide +kernel
theorem dX5_pierOfOrder_0 : decode cX5_pierOfOrder 0 = .ok (.iconst 0, 1) := by decide +kernel
theorem dX5_pierOfOrder_1 : decode cX5_pierOfOrder 1 = .ok (.istore_n 2, 1) := by decide +kernel
theorem dX5_pierOfOrder_2 : decode cX5_pierOfOrder 2 = .ok (.iload_n 2, 1) := by decide +kernel
theorem dX5_pierOfOrder_3 : decode cX5_pierOfOrder 3 = .ok (.aload_n 0, 1) := by decide +kernel
theorem dX5_pierOfOrder_4 : decode cX5_pierOfOrder 4 = .ok (.getfield 15, 3) := by decide +kernel
theorem dX5_pierOfOrder_7 : decode cX5_pierOfOrder 7 = .ok (.if_icmp .ge 30, 3) := by decide +kernel
theorem dX5_pierOfOrder_10 : decode cX5_pierOfOrder 10 = .ok (.aload_n 0, 1) := by decide +kernel
theorem dX5_pierOfOrder_11 : decode cX5_pierOfOrder 11 = .ok (.getfield 23, 3) := by decide +kernel
theorem dX5_pierOfOrder_14 : decode cX5_pierOfOrder 14 = .ok (.iload_n 2, 1) := by decide +kernel
theorem dX5_pierOfOrder_15 : decode cX5_pierOfOrder 15 = .ok (.iaload, 1) := by decide +kernel
theorem dX5_pierOfOrder_16 : decode cX5_pierOfOrder 16 = .ok (.iconst (-1), 1) := by decide +kernel
theorem dX5_pierOfOrder_17 : decode cX5_pierOfOrder 17 = .ok (.if_icmp .eq 14, 3) := by decide +kernel
theorem dX5_pierOfOrder_20 : decode cX5_pierOfOrder 20 = .ok (.aload_n 0, 1) := by decide +kernel
theorem dX5_pierOfOrder_21 : decode cX5_pierOfOrder 21 = .ok (.iload_n 2, 1) := by decide +kernel
theorem dX5_pierOfOrder_22 : decode cX5_pierOfOrder 22 = .ok (.invokevirtual 190, 3) := by decide +kernel
theorem dX5_pierOfOrder_25 : decode cX5_pierOfOrder 25 = .ok (.iload_n 1, 1) := by decide +kernel
theorem dX5_pierOfOrder_26 : decode cX5_pierOfOrder 26 = .ok (.if_icmp .ne 5, 3) := by decide +kernel
theorem dX5_pierOfOrder_29 : decode cX5_pierOfOrder 29 = .ok (.iload_n 2, 1) := by decide +kernel
theorem dX5_pierOfOrder_30 : decode cX5_pierOfOrder 30 = .ok (.ireturn, 1) := by decide +kernel
theorem dX5_pierOfOrder_31 : decode cX5_pierOfOrder 31 = .ok (.iinc 2 1, 3) := by decide +kernel
theorem dX5_pierOfOrder_34 : decode cX5_pierOfOrder 34 = .ok (.goto (-32), 3) := by decide +kernel
theorem dX5_pierOfOrder_37 : decode cX5_pierOfOrder 37 = .ok (.iconst (-1), 1) := by decide +kernel
theorem dX5_pierOfOrder_38 : decode cX5_pierOfOrder 38 = .ok (.ireturn, 1) := by decide +kernel
theorem dX5_beginFirstOrder_0 : decode cX5_beginFirstOrder 0 = .ok (.aload_n 0, 1) := by decide +kernel
theorem dX5_beginFirstOrder_1 : decode cX5_beginFirstOrder 1 = .ok (.iconst 0, 1) := by decide +kernel
theorem dX5_beginFirstOrder_2 : decode cX5_beginFirstOrder 2 = .ok (.invokevirtual 195, 3) := by decide +kernel
theorem dX5_beginFirstOrder_5 : decode cX5_beginFirstOrder 5 = .ok (.istore_n 1, 1) := by decide +kernel
theorem dX5_beginFirstOrder_6 : decode cX5_beginFirstOrder 6 = .ok (.iload_n 1, 1) := by decide +kernel
theorem dX5_beginFirstOrder_7 : decode cX5_beginFirstOrder 7 = .ok (.iconst (-1), 1) := by decide +kernel
theorem dX5_beginFirstOrder_8 : decode cX5_beginFirstOrder 8 = .ok (.if_icmp .eq 39, 3) := by decide +kernel
theorem dX5_beginFirstOrder_11 : decode cX5_beginFirstOrder 11 = .ok (.aload_n 0, 1) := by decide +kernel
theorem dX5_beginFirstOrder_12 : decode cX5_beginFirstOrder 12 = .ok (.getfield 11, 3) := by decide +kernel
theorem dX5_beginFirstOrder_15 : decode cX5_beginFirstOrder 15 = .ok (.iload_n 1, 1) := by decide +kernel
theorem dX5_beginFirstOrder_16 : decode cX5_beginFirstOrder 16 = .ok (.aaload, 1) := by decide +kernel
theorem dX5_beginFirstOrder_17 : decode cX5_beginFirstOrder 17 = .ok (.getfield 79, 3) := by decide +kernel
theorem dX5_beginFirstOrder_20 : decode cX5_beginFirstOrder 20 = .ok (.aload_n 0, 1) := by decide +kernel
theorem dX5_beginFirstOrder_21 : decode cX5_beginFirstOrder 21 = .ok (.getfield 11, 3) := by decide +kernel
theorem dX5_beginFirstOrder_24 : decode cX5_beginFirstOrder 24 = .ok (.iload_n 1, 1) := by decide +kernel
theorem dX5_beginFirstOrder_25 : decode cX5_beginFirstOrder 25 = .ok (.aaload, 1) := by decide +kernel
theorem dX5_beginFirstOrder_26 : decode cX5_beginFirstOrder 26 = .ok (.aload_n 0, 1) := by decide +kernel
theorem dX5_beginFirstOrder_27 : decode cX5_beginFirstOrder 27 = .ok (.getfield 23, 3) := by decide +kernel
theorem dX5_beginFirstOrder_30 : decode cX5_beginFirstOrder 30 = .ok (.iload_n 1, 1) := by decide +kernel
theorem dX5_beginFirstOrder_31 : decode cX5_beginFirstOrder 31 = .ok (.iaload, 1) := by decide +kernel
theorem dX5_beginFirstOrder_32 : decode cX5_beginFirstOrder 32 = .ok (.invokevirtual 286, 3) := by decide +kernel
theorem dX5_beginFirstOrder_35 : decode cX5_beginFirstOrder 35 = .ok (.aload_n 0, 1) := by decide +kernel
theorem dX5_beginFirstOrder_36 : decode cX5_beginFirstOrder 36 = .ok (.getfield 23, 3) := by decide +kernel
theorem dX5_beginFirstOrder_39 : decode cX5_beginFirstOrder 39 = .ok (.iload_n 1, 1) := by decide +kernel
theorem dX5_beginFirstOrder_40 : decode cX5_beginFirstOrder 40 = .ok (.iconst (-1), 1) := by decide +kernel
theorem dX5_beginFirstOrder_41 : decode cX5_beginFirstOrder 41 = .ok (.iastore, 1) := by decide +kernel
theorem dX5_beginFirstOrder_42 : decode cX5_beginFirstOrder 42 = .ok (.aload_n 0, 1) := by decide +kernel
theorem dX5_beginFirstOrder_43 : decode cX5_beginFirstOrder 43 = .ok (.iload_n 1, 1) := by decide +kernel
theorem dX5_beginFirstOrder_44 : decode cX5_beginFirstOrder 44 = .ok (.putfield 46, 3) := by decide +kernel
theorem dX5_beginFirstOrder_47 : decode cX5_beginFirstOrder 47 = .ok (.return_, 1) := by decide +kernel
theorem dX5_paintNextLine_0 : decode cX5_paintNextLine 0 = .ok (.aload_n 0, 1) := by decide +kernel
theorem dX5_paintNextLine_1 : decode cX5_paintNextLine 1 = .ok (.getfield 46, 3) := by decide +kernel
theorem dX5_paintNextLine_4 : decode cX5_paintNextLine 4 = .ok (.iconst (-1), 1) := by decide +kernel
theorem dX5_paintNextLine_5 : decode cX5_paintNextLine 5 = .ok (.if_icmp .ne 7, 3) := by decide +kernel
theorem dX5_paintNextLine_8 : decode cX5_paintNextLine 8 = .ok (.aload_n 0, 1) := by decide +kernel
theorem dX5_paintNextLine_9 : decode cX5_paintNextLine 9 = .ok (.invokevirtual 289, 3) := by decide +kernel
theorem dX5_paintNextLine_12 : decode cX5_paintNextLine 12 = .ok (.aload_n 0, 1) := by decide +kernel
theorem dX5_paintNextLine_13 : decode cX5_paintNextLine 13 = .ok (.getfield 46, 3) := by decide +kernel
theorem dX5_paintNextLine_16 : decode cX5_paintNextLine 16 = .ok (.iconst (-1), 1) := by decide +kernel
theorem dX5_paintNextLine_17 : decode cX5_paintNextLine 17 = .ok (.if_icmp .ne 5, 3) := by decide +kernel
theorem dX5_paintNextLine_20 : decode cX5_paintNextLine 20 = .ok (.iconst 0, 1) := by decide +kernel
theorem dX5_paintNextLine_21 : decode cX5_paintNextLine 21 = .ok (.ireturn, 1) := by decide +kernel
theorem dX5_paintNextLine_22 : decode cX5_paintNextLine 22 = .ok (.aload_n 0, 1) := by decide +kernel
theorem dX5_paintNextLine_23 : decode cX5_paintNextLine 23 = .ok (.getfield 11, 3) := by decide +kernel
theorem dX5_paintNextLine_26 : decode cX5_paintNextLine 26 = .ok (.aload_n 0, 1) := by decide +kernel
theorem dX5_paintNextLine_27 : decode cX5_paintNextLine 27 = .ok (.getfield 46, 3) := by decide +kernel
theorem dX5_paintNextLine_30 : decode cX5_paintNextLine 30 = .ok (.aaload, 1) := by decide +kernel
theorem dX5_paintNextLine_31 : decode cX5_paintNextLine 31 = .ok (.astore_n 1, 1) := by decide +kernel
theorem dX5_paintNextLine_32 : decode cX5_paintNextLine 32 = .ok (.aload_n 1, 1) := by decide +kernel
theorem dX5_paintNextLine_33 : decode cX5_paintNextLine 33 = .ok (.getfield 79, 3) := by decide +kernel
theorem dX5_paintNextLine_36 : decode cX5_paintNextLine 36 = .ok (.invokevirtual 198, 3) := by decide +kernel
theorem dX5_paintNextLine_39 : decode cX5_paintNextLine 39 = .ok (.iconst 1, 1) := by decide +kernel
theorem dX5_paintNextLine_40 : decode cX5_paintNextLine 40 = .ok (.isub, 1) := by decide +kernel
theorem dX5_paintNextLine_41 : decode cX5_paintNextLine 41 = .ok (.istore_n 2, 1) := by decide +kernel
theorem dX5_paintNextLine_42 : decode cX5_paintNextLine 42 = .ok (.iload_n 2, 1) := by decide +kernel
theorem dX5_paintNextLine_43 : decode cX5_paintNextLine 43 = .ok (.ifCond .lt 24, 3) := by decide +kernel
theorem dX5_paintNextLine_46 : decode cX5_paintNextLine 46 = .ok (.aload_n 0, 1) := by decide +kernel
theorem dX5_paintNextLine_47 : decode cX5_paintNextLine 47 = .ok (.aload_n 1, 1) := by decide +kernel
theorem dX5_paintNextLine_48 : decode cX5_paintNextLine 48 = .ok (.getfield 79, 3) := by decide +kernel
theorem dX5_paintNextLine_51 : decode cX5_paintNextLine 51 = .ok (.iload_n 2, 1) := by decide +kernel
theorem dX5_paintNextLine_52 : decode cX5_paintNextLine 52 = .ok (.invokevirtual 212, 3) := by decide +kernel
theorem dX5_paintNextLine_55 : decode cX5_paintNextLine 55 = .ok (.iconst 5, 1) := by decide +kernel
theorem dX5_paintNextLine_56 : decode cX5_paintNextLine 56 = .ok (.aload_n 1, 1) := by decide +kernel
theorem dX5_paintNextLine_57 : decode cX5_paintNextLine 57 = .ok (.getfield 279, 3) := by decide +kernel
theorem dX5_paintNextLine_60 : decode cX5_paintNextLine 60 = .ok (.iadd, 1) := by decide +kernel
theorem dX5_paintNextLine_61 : decode cX5_paintNextLine 61 = .ok (.invokevirtual 216, 3) := by decide +kernel
theorem dX5_paintNextLine_64 : decode cX5_paintNextLine 64 = .ok (.ifCond .ne 5, 3) := by decide +kernel
theorem dX5_paintNextLine_67 : decode cX5_paintNextLine 67 = .ok (.iconst 0, 1) := by decide +kernel
theorem dX5_paintNextLine_68 : decode cX5_paintNextLine 68 = .ok (.ireturn, 1) := by decide +kernel
theorem dX5_paintNextLine_69 : decode cX5_paintNextLine 69 = .ok (.aload_n 0, 1) := by decide +kernel
theorem dX5_paintNextLine_70 : decode cX5_paintNextLine 70 = .ok (.dup, 1) := by decide +kernel
theorem dX5_paintNextLine_71 : decode cX5_paintNextLine 71 = .ok (.getfield 49, 3) := by decide +kernel
theorem dX5_paintNextLine_74 : decode cX5_paintNextLine 74 = .ok (.iconst 5, 1) := by decide +kernel
theorem dX5_paintNextLine_75 : decode cX5_paintNextLine 75 = .ok (.iadd, 1) := by decide +kernel
theorem dX5_paintNextLine_76 : decode cX5_paintNextLine 76 = .ok (.putfield 49, 3) := by decide +kernel
theorem dX5_paintNextLine_79 : decode cX5_paintNextLine 79 = .ok (.aload_n 0, 1) := by decide +kernel
theorem dX5_paintNextLine_80 : decode cX5_paintNextLine 80 = .ok (.dup, 1) := by decide +kernel
theorem dX5_paintNextLine_81 : decode cX5_paintNextLine 81 = .ok (.getfield 52, 3) := by decide +kernel
theorem dX5_paintNextLine_84 : decode cX5_paintNextLine 84 = .ok (.aload_n 1, 1) := by decide +kernel
theorem dX5_paintNextLine_85 : decode cX5_paintNextLine 85 = .ok (.getfield 279, 3) := by decide +kernel
theorem dX5_paintNextLine_88 : decode cX5_paintNextLine 88 = .ok (.iadd, 1) := by decide +kernel
theorem dX5_paintNextLine_89 : decode cX5_paintNextLine 89 = .ok (.putfield 52, 3) := by decide +kernel
theorem dX5_paintNextLine_92 : decode cX5_paintNextLine 92 = .ok (.aload_n 1, 1) := by decide +kernel
theorem dX5_paintNextLine_93 : decode cX5_paintNextLine 93 = .ok (.getfield 79, 3) := by decide +kernel
theorem dX5_paintNextLine_96 : decode cX5_paintNextLine 96 = .ok (.iload_n 2, 1) := by decide +kernel
theorem dX5_paintNextLine_97 : decode cX5_paintNextLine 97 = .ok (.aload_n 0, 1) := by decide +kernel
theorem dX5_paintNextLine_98 : decode cX5_paintNextLine 98 = .ok (.getfield 43, 3) := by decide +kernel
theorem dX5_paintNextLine_101 : decode cX5_paintNextLine 101 = .ok (.invokevirtual 222, 3) := by decide +kernel
theorem dX5_paintNextLine_104 : decode cX5_paintNextLine 104 = .ok (.aload_n 1, 1) := by decide +kernel
theorem dX5_paintNextLine_105 : decode cX5_paintNextLine 105 = .ok (.getfield 79, 3) := by decide +kernel
theorem dX5_paintNextLine_108 : decode cX5_paintNextLine 108 = .ok (.aload_n 1, 1) := by decide +kernel
theorem dX5_paintNextLine_109 : decode cX5_paintNextLine 109 = .ok (.getfield 279, 3) := by decide +kernel
theorem dX5_paintNextLine_112 : decode cX5_paintNextLine 112 = .ok (.invokevirtual 292, 3) := by decide +kernel
theorem dX5_paintNextLine_115 : decode cX5_paintNextLine 115 = .ok (.iload_n 2, 1) := by decide +kernel
theorem dX5_paintNextLine_116 : decode cX5_paintNextLine 116 = .ok (.ifCond .ne 8, 3) := by decide +kernel
theorem dX5_paintNextLine_119 : decode cX5_paintNextLine 119 = .ok (.aload_n 0, 1) := by decide +kernel
theorem dX5_paintNextLine_120 : decode cX5_paintNextLine 120 = .ok (.iconst (-1), 1) := by decide +kernel
theorem dX5_paintNextLine_121 : decode cX5_paintNextLine 121 = .ok (.putfield 46, 3) := by decide +kernel
theorem dX5_paintNextLine_124 : decode cX5_paintNextLine 124 = .ok (.iconst 1, 1) := by decide +kernel
theorem dX5_paintNextLine_125 : decode cX5_paintNextLine 125 = .ok (.ireturn, 1) := by decide +kernel
theorem dX5_tinsForLine_0 : decode cX5_tinsForLine 0 = .ok (.aload_n 1, 1) := by decide +kernel
theorem dX5_tinsForLine_1 : decode cX5_tinsForLine 1 = .ok (.getfield 228, 3) := by decide +kernel
theorem dX5_tinsForLine_4 : decode cX5_tinsForLine 4 = .ok (.getfield 118, 3) := by decide +kernel
theorem dX5_tinsForLine_7 : decode cX5_tinsForLine 7 = .ok (.iload_n 2, 1) := by decide +kernel
theorem dX5_tinsForLine_8 : decode cX5_tinsForLine 8 = .ok (.baload, 1) := by decide +kernel
theorem dX5_tinsForLine_9 : decode cX5_tinsForLine 9 = .ok (.ifCond .eq 10, 3) := by decide +kernel
theorem dX5_tinsForLine_12 : decode cX5_tinsForLine 12 = .ok (.aload_n 0, 1) := by decide +kernel
theorem dX5_tinsForLine_13 : decode cX5_tinsForLine 13 = .ok (.getfield 29, 3) := by decide +kernel
theorem dX5_tinsForLine_16 : decode cX5_tinsForLine 16 = .ok (.goto 7, 3) := by decide +kernel
theorem dX5_tinsForLine_19 : decode cX5_tinsForLine 19 = .ok (.aload_n 0, 1) := by decide +kernel
theorem dX5_tinsForLine_20 : decode cX5_tinsForLine 20 = .ok (.getfield 33, 3) := by decide +kernel
theorem dX5_tinsForLine_23 : decode cX5_tinsForLine 23 = .ok (.areturn, 1) := by decide +kernel
theorem dX6_init_0 : decode cX6_init 0 = .ok (.aload_n 0, 1) := by decide +kernel
theorem dX6_init_1 : decode cX6_init 1 = .ok (.invokespecial 1, 3) := by decide +kernel
theorem dX6_init_4 : decode cX6_init 4 = .ok (.aload_n 0, 1) := by decide +kernel
theorem dX6_init_5 : decode cX6_init 5 = .ok (.bipush 6, 2) := by decide +kernel
theorem dX6_init_7 : decode cX6_init 7 = .ok (.newarray .int, 2) := by decide +kernel
theorem dX6_init_9 : decode cX6_init 9 = .ok (.putfield 7, 3) := by decide +kernel
theorem dX6_init_12 : decode cX6_init 12 = .ok (.aload_n 0, 1) := by decide +kernel
theorem dX6_init_13 : decode cX6_init 13 = .ok (.bipush 6, 2) := by decide +kernel
theorem dX6_init_15 : decode cX6_init 15 = .ok (.newarray .int, 2) := by decide +kernel
theorem dX6_init_17 : decode cX6_init 17 = .ok (.putfield 13, 3) := by decide +kernel
theorem dX6_init_20 : decode cX6_init 20 = .ok (.aload_n 0, 1) := by decide +kernel
theorem dX6_init_21 : decode cX6_init 21 = .ok (.bipush 6, 2) := by decide +kernel
theorem dX6_init_23 : decode cX6_init 23 = .ok (.newarray .int, 2) := by decide +kernel
theorem dX6_init_25 : decode cX6_init 25 = .ok (.putfield 16, 3) := by decide +kernel
theorem dX6_init_28 : decode cX6_init 28 = .ok (.aload_n 0, 1) := by decide +kernel
theorem dX6_init_29 : decode cX6_init 29 = .ok (.bipush 6, 2) := by decide +kernel
theorem dX6_init_31 : decode cX6_init 31 = .ok (.newarray .int, 2) := by decide +kernel
theorem dX6_init_33 : decode cX6_init 33 = .ok (.putfield 19, 3) := by decide +kernel
theorem dX6_init_36 : decode cX6_init 36 = .ok (.aload_n 0, 1) := by decide +kernel
theorem dX6_init_37 : decode cX6_init 37 = .ok (.bipush 6, 2) := by decide +kernel
theorem dX6_init_39 : decode cX6_init 39 = .ok (.newarray .int, 2) := by decide +kernel
theorem dX6_init_41 : decode cX6_init 41 = .ok (.putfield 22, 3) := by decide +kernel
theorem dX6_init_44 : decode cX6_init 44 = .ok (.aload_n 0, 1) := by decide +kernel
theorem dX6_init_45 : decode cX6_init 45 = .ok (.bipush 6, 2) := by decide +kernel
theorem dX6_init_47 : decode cX6_init 47 = .ok (.newarray .int, 2) := by decide +kernel
theorem dX6_init_49 : decode cX6_init 49 = .ok (.dup, 1) := by decide +kernel
theorem dX6_init_50 : decode cX6_init 50 = .ok (.iconst 0, 1) := by decide +kernel
theorem dX6_init_51 : decode cX6_init 51 = .ok (.iconst 5, 1) := by decide +kernel
theorem dX6_init_52 : decode cX6_init 52 = .ok (.iastore, 1) := by decide +kernel
theorem dX6_init_53 : decode cX6_init 53 = .ok (.dup, 1) := by decide +kernel
theorem dX6_init_54 : decode cX6_init 54 = .ok (.iconst 1, 1) := by decide +kernel
theorem dX6_init_55 : decode cX6_init 55 = .ok (.iconst 5, 1) := by decide +kernel
theorem dX6_init_56 : decode cX6_init 56 = .ok (.iastore, 1) := by decide +kernel
theorem dX6_init_57 : decode cX6_init 57 = .ok (.dup, 1) := by decide +kernel
theorem dX6_init_58 : decode cX6_init 58 = .ok (.iconst 2, 1) := by decide +kernel
theorem dX6_init_59 : decode cX6_init 59 = .ok (.iconst 5, 1) := by decide +kernel
theorem dX6_init_60 : decode cX6_init 60 = .ok (.iastore, 1) := by decide +kernel
theorem dX6_init_61 : decode cX6_init 61 = .ok (.dup, 1) := by decide +kernel
theorem dX6_init_62 : decode cX6_init 62 = .ok (.iconst 3, 1) := by decide +kernel
theorem dX6_init_63 : decode cX6_init 63 = .ok (.iconst 5, 1) := by decide +kernel
theorem dX6_init_64 : decode cX6_init 64 = .ok (.iastore, 1) := by decide +kernel
theorem dX6_init_65 : decode cX6_init 65 = .ok (.dup, 1) := by decide +kernel
theorem dX6_init_66 : decode cX6_init 66 = .ok (.iconst 4, 1) := by decide +kernel
theorem dX6_init_67 : decode cX6_init 67 = .ok (.iconst 5, 1) := by decide +kernel
theorem dX6_init_68 : decode cX6_init 68 = .ok (.iastore, 1) := by decide +kernel
theorem dX6_init_69 : decode cX6_init 69 = .ok (.dup, 1) := by decide +kernel
theorem dX6_init_70 : decode cX6_init 70 = .ok (.iconst 5, 1) := by decide +kernel
theorem dX6_init_71 : decode cX6_init 71 = .ok (.iconst 5, 1) := by decide +kernel
theorem dX6_init_72 : decode cX6_init 72 = .ok (.iastore, 1) := by decide +kernel
theorem dX6_init_73 : decode cX6_init 73 = .ok (.putfield 25, 3) := by decide +kernel
theorem dX6_init_76 : decode cX6_init 76 = .ok (.aload_n 0, 1) := by decide +kernel
theorem dX6_init_77 : decode cX6_init 77 = .ok (.bipush 6, 2) := by decide +kernel
theorem dX6_init_79 : decode cX6_init 79 = .ok (.newarray .int, 2) := by decide +kernel
theorem dX6_init_81 : decode cX6_init 81 = .ok (.putfield 28, 3) := by decide +kernel
theorem dX6_init_84 : decode cX6_init 84 = .ok (.aload_n 0, 1) := by decide +kernel
theorem dX6_init_85 : decode cX6_init 85 = .ok (.bipush 36, 2) := by decide +kernel
theorem dX6_init_87 : decode cX6_init 87 = .ok (.newarray .int, 2) := by decide +kernel
theorem dX6_init_89 : decode cX6_init 89 = .ok (.putfield 31, 3) := by decide +kernel
theorem dX6_init_92 : decode cX6_init 92 = .ok (.aload_n 0, 1) := by decide +kernel
theorem dX6_init_93 : decode cX6_init 93 = .ok (.bipush 36, 2) := by decide +kernel
theorem dX6_init_95 : decode cX6_init 95 = .ok (.newarray .int, 2) := by decide +kernel
theorem dX6_init_97 : decode cX6_init 97 = .ok (.putfield 34, 3) := by decide +kernel
theorem dX6_init_100 : decode cX6_init 100 = .ok (.aload_n 0, 1) := by decide +kernel
theorem dX6_init_101 : decode cX6_init 101 = .ok (.bipush 36, 2) := by decide +kernel
theorem dX6_init_103 : decode cX6_init 103 = .ok (.newarray .int, 2) := by decide +kernel
theorem dX6_init_105 : decode cX6_init 105 = .ok (.putfield 37, 3) := by decide +kernel
theorem dX6_init_108 : decode cX6_init 108 = .ok (.aload_n 0, 1) := by decide +kernel
theorem dX6_init_109 : decode cX6_init 109 = .ok (.iconst 2, 1) := by decide +kernel
theorem dX6_init_110 : decode cX6_init 110 = .ok (.newarray .int, 2) := by decide +kernel
theorem dX6_init_112 : decode cX6_init 112 = .ok (.putfield 40, 3) := by decide +kernel
theorem dX6_init_115 : decode cX6_init 115 = .ok (.aload_n 0, 1) := by decide +kernel
theorem dX6_init_116 : decode cX6_init 116 = .ok (.bipush 24, 2) := by decide +kernel
theorem dX6_init_118 : decode cX6_init 118 = .ok (.newarray .int, 2) := by decide +kernel
theorem dX6_init_120 : decode cX6_init 120 = .ok (.putfield 43, 3) := by decide +kernel
theorem dX6_init_123 : decode cX6_init 123 = .ok (.aload_n 0, 1) := by decide +kernel
theorem dX6_init_124 : decode cX6_init 124 = .ok (.bipush 6, 2) := by decide +kernel
theorem dX6_init_126 : decode cX6_init 126 = .ok (.newarray .int, 2) := by decide +kernel
theorem dX6_init_128 : decode cX6_init 128 = .ok (.dup, 1) := by decide +kernel
theorem dX6_init_129 : decode cX6_init 129 = .ok (.iconst 0, 1) := by decide +kernel
theorem dX6_init_130 : decode cX6_init 130 = .ok (.iconst (-1), 1) := by decide +kernel
theorem dX6_init_131 : decode cX6_init 131 = .ok (.iastore, 1) := by decide +kernel
theorem dX6_init_132 : decode cX6_init 132 = .ok (.dup, 1) := by decide +kernel
theorem dX6_init_133 : decode cX6_init 133 = .ok (.iconst 1, 1) := by decide +kernel
theorem dX6_init_134 : decode cX6_init 134 = .ok (.iconst (-1), 1) := by decide +kernel
theorem dX6_init_135 : decode cX6_init 135 = .ok (.iastore, 1) := by decide +kernel
theorem dX6_init_136 : decode cX6_init 136 = .ok (.dup, 1) := by decide +kernel
theorem dX6_init_137 : decode cX6_init 137 = .ok (.iconst 2, 1) := by decide +kernel
theorem dX6_init_138 : decode cX6_init 138 = .ok (.iconst (-1), 1) := by decide +kernel
theorem dX6_init_139 : decode cX6_init 139 = .ok (.iastore, 1) := by decide +kernel
theorem dX6_init_140 : decode cX6_init 140 = .ok (.dup, 1) := by decide +kernel
theorem dX6_init_141 : decode cX6_init 141 = .ok (.iconst 3, 1) := by decide +kernel
theorem dX6_init_142 : decode cX6_init 142 = .ok (.iconst (-1), 1) := by decide +kernel
theorem dX6_init_143 : decode cX6_init 143 = .ok (.iastore, 1) := by decide +kernel
theorem dX6_init_144 : decode cX6_init 144 = .ok (.dup, 1) := by decide +kernel
theorem dX6_init_145 : decode cX6_init 145 = .ok (.iconst 4, 1) := by decide +kernel
theorem dX6_init_146 : decode cX6_init 146 = .ok (.iconst (-1), 1) := by decide +kernel
theorem dX6_init_147 : decode cX6_init 147 = .ok (.iastore, 1) := by decide +kernel
theorem dX6_init_148 : decode cX6_init 148 = .ok (.dup, 1) := by decide +kernel
theorem dX6_init_149 : decode cX6_init 149 = .ok (.iconst 5, 1) := by decide +kernel
theorem dX6_init_150 : decode cX6_init 150 = .ok (.iconst (-1), 1) := by decide +kernel
theorem dX6_init_151 : decode cX6_init 151 = .ok (.iastore, 1) := by decide +kernel
theorem dX6_init_152 : decode cX6_init 152 = .ok (.putfield 46, 3) := by decide +kernel
theorem dX6_init_155 : decode cX6_init 155 = .ok (.aload_n 0, 1) := by decide +kernel
theorem dX6_init_156 : decode cX6_init 156 = .ok (.iconst (-1), 1) := by decide +kernel
theorem dX6_init_157 : decode cX6_init 157 = .ok (.putfield 49, 3) := by decide +kernel
theorem dX6_init_160 : decode cX6_init 160 = .ok (.aload_n 0, 1) := by decide +kernel
theorem dX6_init_161 : decode cX6_init 161 = .ok (.bipush 6, 2) := by decide +kernel
theorem dX6_init_163 : decode cX6_init 163 = .ok (.newarray .int, 2) := by decide +kernel
theorem dX6_init_165 : decode cX6_init 165 = .ok (.dup, 1) := by decide +kernel
theorem dX6_init_166 : decode cX6_init 166 = .ok (.iconst 0, 1) := by decide +kernel
theorem dX6_init_167 : decode cX6_init 167 = .ok (.iconst (-1), 1) := by decide +kernel
theorem dX6_init_168 : decode cX6_init 168 = .ok (.iastore, 1) := by decide +kernel
theorem dX6_init_169 : decode cX6_init 169 = .ok (.dup, 1) := by decide +kernel
theorem dX6_init_170 : decode cX6_init 170 = .ok (.iconst 1, 1) := by decide +kernel
theorem dX6_init_171 : decode cX6_init 171 = .ok (.iconst (-1), 1) := by decide +kernel
theorem dX6_init_172 : decode cX6_init 172 = .ok (.iastore, 1) := by decide +kernel
theorem dX6_init_173 : decode cX6_init 173 = .ok (.dup, 1) := by decide +kernel
theorem dX6_init_174 : decode cX6_init 174 = .ok (.iconst 2, 1) := by decide +kernel
theorem dX6_init_175 : decode cX6_init 175 = .ok (.iconst (-1), 1) := by decide +kernel
theorem dX6_init_176 : decode cX6_init 176 = .ok (.iastore, 1) := by decide +kernel
theorem dX6_init_177 : decode cX6_init 177 = .ok (.dup, 1) := by decide +kernel
theorem dX6_init_178 : decode cX6_init 178 = .ok (.iconst 3, 1) := by decide +kernel
theorem dX6_init_179 : decode cX6_init 179 = .ok (.iconst (-1), 1) := by decide +kernel
theorem dX6_init_180 : decode cX6_init 180 = .ok (.iastore, 1) := by decide +kernel
theorem dX6_init_181 : decode cX6_init 181 = .ok (.dup, 1) := by decide +kernel
theorem dX6_init_182 : decode cX6_init 182 = .ok (.iconst 4, 1) := by decide +kernel
theorem dX6_init_183 : decode cX6_init 183 = .ok (.iconst (-1), 1) := by decide +kernel
theorem dX6_init_184 : decode cX6_init 184 = .ok (.iastore, 1) := by decide +kernel
theorem dX6_init_185 : decode cX6_init 185 = .ok (.dup, 1) := by decide +kernel
theorem dX6_init_186 : decode cX6_init 186 = .ok (.iconst 5, 1) := by decide +kernel
theorem dX6_init_187 : decode cX6_init 187 = .ok (.iconst (-1), 1) := by decide +kernel
theorem dX6_init_188 : decode cX6_init 188 = .ok (.iastore, 1) := by decide +kernel
theorem dX6_init_189 : decode cX6_init 189 = .ok (.putfield 53, 3) := by decide +kernel
theorem dX6_init_192 : decode cX6_init 192 = .ok (.aload_n 0, 1) := by decide +kernel
theorem dX6_init_193 : decode cX6_init 193 = .ok (.bipush 6, 2) := by decide +kernel
theorem dX6_init_195 : decode cX6_init 195 = .ok (.newarray .int, 2) := by decide +kernel
theorem dX6_init_197 : decode cX6_init 197 = .ok (.putfield 56, 3) := by decide +kernel
theorem dX6_init_200 : decode cX6_init 200 = .ok (.aload_n 0, 1) := by decide +kernel
theorem dX6_init_201 : decode cX6_init 201 = .ok (.bipush 6, 2) := by decide +kernel
theorem dX6_init_203 : decode cX6_init 203 = .ok (.newarray .int, 2) := by decide +kernel
theorem dX6_init_205 : decode cX6_init 205 = .ok (.putfield 59, 3) := by decide +kernel
theorem dX6_init_208 : decode cX6_init 208 = .ok (.aload_n 0, 1) := by decide +kernel
theorem dX6_init_209 : decode cX6_init 209 = .ok (.bipush 24, 2) := by decide +kernel
theorem dX6_init_211 : decode cX6_init 211 = .ok (.newarray .int, 2) := by decide +kernel
theorem dX6_init_213 : decode cX6_init 213 = .ok (.putfield 62, 3) := by decide +kernel
theorem dX6_init_216 : decode cX6_init 216 = .ok (.aload_n 0, 1) := by decide +kernel
theorem dX6_init_217 : decode cX6_init 217 = .ok (.bipush 24, 2) := by decide +kernel
theorem dX6_init_219 : decode cX6_init 219 = .ok (.newarray .int, 2) := by decide +kernel
theorem dX6_init_221 : decode cX6_init 221 = .ok (.putfield 65, 3) := by decide +kernel
theorem dX6_init_224 : decode cX6_init 224 = .ok (.aload_n 0, 1) := by decide +kernel
theorem dX6_init_225 : decode cX6_init 225 = .ok (.bipush 24, 2) := by decide +kernel
theorem dX6_init_227 : decode cX6_init 227 = .ok (.newarray .int, 2) := by decide +kernel
theorem dX6_init_229 : decode cX6_init 229 = .ok (.putfield 68, 3) := by decide +kernel
theorem dX6_init_232 : decode cX6_init 232 = .ok (.aload_n 0, 1) := by decide +kernel
theorem dX6_init_233 : decode cX6_init 233 = .ok (.bipush 24, 2) := by decide +kernel
theorem dX6_init_235 : decode cX6_init 235 = .ok (.newarray .int, 2) := by decide +kernel
theorem dX6_init_237 : decode cX6_init 237 = .ok (.putfield 71, 3) := by decide +kernel
theorem dX6_init_240 : decode cX6_init 240 = .ok (.aload_n 0, 1) := by decide +kernel
theorem dX6_init_241 : decode cX6_init 241 = .ok (.bipush 24, 2) := by decide +kernel
theorem dX6_init_243 : decode cX6_init 243 = .ok (.newarray .int, 2) := by decide +kernel
theorem dX6_init_245 : decode cX6_init 245 = .ok (.putfield 74, 3) := by decide +kernel
theorem dX6_init_248 : decode cX6_init 248 = .ok (.aload_n 0, 1) := by decide +kernel
theorem dX6_init_249 : decode cX6_init 249 = .ok (.iconst 4, 1) := by decide +kernel
theorem dX6_init_250 : decode cX6_init 250 = .ok (.newarray .int, 2) := by decide +kernel
theorem dX6_init_252 : decode cX6_init 252 = .ok (.putfield 77, 3) := by decide +kernel
theorem dX6_init_255 : decode cX6_init 255 = .ok (.aload_n 0, 1) := by decide +kernel
theorem dX6_init_256 : decode cX6_init 256 = .ok (.iconst 4, 1) := by decide +kernel
theorem dX6_init_257 : decode cX6_init 257 = .ok (.newarray .int, 2) := by decide +kernel
theorem dX6_init_259 : decode cX6_init 259 = .ok (.putfield 80, 3) := by decide +kernel
theorem dX6_init_262 : decode cX6_init 262 = .ok (.return_, 1) := by decide +kernel
theorem dX6_thrown_0 : decode cX6_thrown 0 = .ok (.aload_n 0, 1) := by decide +kernel
theorem dX6_thrown_1 : decode cX6_thrown 1 = .ok (.getfield 83, 3) := by decide +kernel
theorem dX6_thrown_4 : decode cX6_thrown 4 = .ok (.ireturn, 1) := by decide +kernel
theorem dX6_fail_0 : decode cX6_fail 0 = .ok (.aload_n 0, 1) := by decide +kernel
theorem dX6_fail_1 : decode cX6_fail 1 = .ok (.iload_n 1, 1) := by decide +kernel
theorem dX6_fail_2 : decode cX6_fail 2 = .ok (.putfield 83, 3) := by decide +kernel
theorem dX6_fail_5 : decode cX6_fail 5 = .ok (.iconst 0, 1) := by decide +kernel
theorem dX6_fail_6 : decode cX6_fail 6 = .ok (.ireturn, 1) := by decide +kernel
theorem dX6_isWithin_0 : decode cX6_isWithin 0 = .ok (.iload_n 0, 1) := by decide +kernel
theorem dX6_isWithin_1 : decode cX6_isWithin 1 = .ok (.iload_n 1, 1) := by decide +kernel
theorem dX6_isWithin_2 : decode cX6_isWithin 2 = .ok (.if_icmp .lt 12, 3) := by decide +kernel
theorem dX6_isWithin_5 : decode cX6_isWithin 5 = .ok (.iload_n 0, 1) := by decide +kernel
theorem dX6_isWithin_6 : decode cX6_isWithin 6 = .ok (.iload_n 2, 1) := by decide +kernel
theorem dX6_isWithin_7 : decode cX6_isWithin 7 = .ok (.if_icmp .gt 7, 3) := by decide +kernel
theorem dX6_isWithin_10 : decode cX6_isWithin 10 = .ok (.iconst 1, 1) := by decide +kernel
theorem dX6_isWithin_11 : decode cX6_isWithin 11 = .ok (.goto 4, 3) := by decide +kernel
theorem dX6_isWithin_14 : decode cX6_isWithin 14 = .ok (.iconst 0, 1) := by decide +kernel
theorem dX6_isWithin_15 : decode cX6_isWithin 15 = .ok (.ireturn, 1) := by decide +kernel
theorem dX6_isGood_0 : decode cX6_isGood 0 = .ok (.aload_n 0, 1) := by decide +kernel
theorem dX6_isGood_1 : decode cX6_isGood 1 = .ok (.iload_n 1, 1) := by decide +kernel
theorem dX6_isGood_2 : decode cX6_isGood 2 = .ok (.ifCond .eq 7, 3) := by decide +kernel
theorem dX6_isGood_5 : decode cX6_isGood 5 = .ok (.iconst 0, 1) := by decide +kernel
theorem dX6_isGood_6 : decode cX6_isGood 6 = .ok (.goto 4, 3) := by decide +kernel
theorem dX6_isGood_9 : decode cX6_isGood 9 = .ok (.iload_n 2, 1) := by decide +kernel
theorem dX6_isGood_10 : decode cX6_isGood 10 = .ok (.putfield 83, 3) := by decide +kernel
theorem dX6_isGood_13 : decode cX6_isGood 13 = .ok (.iload_n 1, 1) := by decide +kernel
theorem dX6_isGood_14 : decode cX6_isGood 14 = .ok (.ireturn, 1) := by decide +kernel
theorem dX6_isPier_0 : decode cX6_isPier 0 = .ok (.aload_n 0, 1) := by decide +kernel
theorem dX6_isPier_1 : decode cX6_isPier 1 = .ok (.iload_n 1, 1) := by decide +kernel
theorem dX6_isPier_2 : decode cX6_isPier 2 = .ok (.iconst 0, 1) := by decide +kernel
theorem dX6_isPier_3 : decode cX6_isPier 3 = .ok (.aload_n 0, 1) := by decide +kernel
theorem dX6_isPier_4 : decode cX6_isPier 4 = .ok (.getfield 86, 3) := by decide +kernel
theorem dX6_isPier_7 : decode cX6_isPier 7 = .ok (.iconst 1, 1) := by decide +kernel
theorem dX6_isPier_8 : decode cX6_isPier 8 = .ok (.isub, 1) := by decide +kernel
theorem dX6_isPier_9 : decode cX6_isPier 9 = .ok (.invokestatic 89, 3) := by decide +kernel
theorem dX6_isPier_12 : decode cX6_isPier 12 = .ok (.iconst 1, 1) := by decide +kernel
theorem dX6_isPier_13 : decode cX6_isPier 13 = .ok (.invokevirtual 93, 3) := by decide +kernel
theorem dX6_isPier_16 : decode cX6_isPier 16 = .ok (.ireturn, 1) := by decide +kernel
theorem dX6_isDay_0 : decode cX6_isDay 0 = .ok (.iload_n 0, 1) := by decide +kernel
theorem dX6_isDay_1 : decode cX6_isDay 1 = .ok (.iconst 0, 1) := by decide +kernel
theorem dX6_isDay_2 : decode cX6_isDay 2 = .ok (.ldc 97, 2) := by decide +kernel
theorem dX6_isDay_4 : decode cX6_isDay 4 = .ok (.invokestatic 89, 3) := by decide +kernel
theorem dX6_isDay_7 : decode cX6_isDay 7 = .ok (.ireturn, 1) := by decide +kernel
theorem dX6_addPier_0 : decode cX6_addPier 0 = .ok (.iload_n 1, 1) := by decide +kernel
theorem dX6_addPier_1 : decode cX6_addPier 1 = .ok (.iconst 0, 1) := by decide +kernel
theorem dX6_addPier_2 : decode cX6_addPier 2 = .ok (.sipush 744, 3) := by decide +kernel
theorem dX6_addPier_5 : decode cX6_addPier 5 = .ok (.invokestatic 89, 3) := by decide +kernel
theorem dX6_addPier_8 : decode cX6_addPier 8 = .ok (.ifCond .eq 18, 3) := by decide +kernel
theorem dX6_addPier_11 : decode cX6_addPier 11 = .ok (.iload 5, 2) := by decide +kernel
theorem dX6_addPier_13 : decode cX6_addPier 13 = .ok (.iconst 0, 1) := by decide +kernel
theorem dX6_addPier_14 : decode cX6_addPier 14 = .ok (.bipush 9, 2) := by decide +kernel
theorem dX6_addPier_16 : decode cX6_addPier 16 = .ok (.invokestatic 89, 3) := by decide +kernel
theorem dX6_addPier_19 : decode cX6_addPier 19 = .ok (.ifCond .eq 7, 3) := by decide +kernel
theorem dX6_addPier_22 : decode cX6_addPier 22 = .ok (.iconst 1, 1) := by decide +kernel
theorem dX6_addPier_23 : decode cX6_addPier 23 = .ok (.goto 4, 3) := by decide +kernel
theorem dX6_addPier_26 : decode cX6_addPier 26 = .ok (.iconst 0, 1) := by decide +kernel
theorem dX6_addPier_27 : decode cX6_addPier 27 = .ok (.istore 6, 2) := by decide +kernel
theorem dX6_addPier_29 : decode cX6_addPier 29 = .ok (.iload_n 2, 1) := by decide +kernel
theorem dX6_addPier_30 : decode cX6_addPier 30 = .ok (.iconst 0, 1) := by decide +kernel
theorem dX6_addPier_31 : decode cX6_addPier 31 = .ok (.sipush 999, 3) := by decide +kernel
theorem dX6_addPier_34 : decode cX6_addPier 34 = .ok (.invokestatic 89, 3) := by decide +kernel
theorem dX6_addPier_37 : decode cX6_addPier 37 = .ok (.ifCond .eq 28, 3) := by decide +kernel
theorem dX6_addPier_40 : decode cX6_addPier 40 = .ok (.iload_n 3, 1) := by decide +kernel
theorem dX6_addPier_41 : decode cX6_addPier 41 = .ok (.iconst 0, 1) := by decide +kernel
theorem dX6_addPier_42 : decode cX6_addPier 42 = .ok (.sipush 999, 3) := by decide +kernel
theorem dX6_addPier_45 : decode cX6_addPier 45 = .ok (.invokestatic 89, 3) := by decide +kernel
theorem dX6_addPier_48 : decode cX6_addPier 48 = .ok (.ifCond .eq 17, 3) := by decide +kernel
theorem dX6_addPier_51 : decode cX6_addPier 51 = .ok (.iload 4, 2) := by decide +kernel
theorem dX6_addPier_53 : decode cX6_addPier 53 = .ok (.iconst 0, 1) := by decide +kernel
theorem dX6_addPier_54 : decode cX6_addPier 54 = .ok (.iload_n 3, 1) := by decide +kernel
theorem dX6_addPier_55 : decode cX6_addPier 55 = .ok (.invokestatic 89, 3) := by decide +kernel
theorem dX6_addPier_58 : decode cX6_addPier 58 = .ok (.ifCond .eq 7, 3) := by decide +kernel
theorem dX6_addPier_61 : decode cX6_addPier 61 = .ok (.iconst 1, 1) := by decide +kernel
theorem dX6_addPier_62 : decode cX6_addPier 62 = .ok (.goto 4, 3) := by decide +kernel
theorem dX6_addPier_65 : decode cX6_addPier 65 = .ok (.iconst 0, 1) := by decide +kernel
theorem dX6_addPier_66 : decode cX6_addPier 66 = .ok (.istore 7, 2) := by decide +kernel
theorem dX6_addPier_68 : decode cX6_addPier 68 = .ok (.aload_n 0, 1) := by decide +kernel
theorem dX6_addPier_69 : decode cX6_addPier 69 = .ok (.iload 6, 2) := by decide +kernel
theorem dX6_addPier_71 : decode cX6_addPier 71 = .ok (.ifCond .eq 12, 3) := by decide +kernel
theorem dX6_addPier_74 : decode cX6_addPier 74 = .ok (.iload 7, 2) := by decide +kernel
theorem dX6_addPier_76 : decode cX6_addPier 76 = .ok (.ifCond .eq 7, 3) := by decide +kernel
theorem dX6_addPier_79 : decode cX6_addPier 79 = .ok (.iconst 1, 1) := by decide +kernel
theorem dX6_addPier_80 : decode cX6_addPier 80 = .ok (.goto 4, 3) := by decide +kernel
theorem dX6_addPier_83 : decode cX6_addPier 83 = .ok (.iconst 0, 1) := by decide +kernel
theorem dX6_addPier_84 : decode cX6_addPier 84 = .ok (.iconst 1, 1) := by decide +kernel
end
section
theorem dX6_addPier_85 : decode cX6_addPier 85 = .ok (.invokevirtual 93, 3) := by decide +kernel
theorem dX6_addPier_88 : decode cX6_addPier 88 = .ok (.ifCond .ne 5, 3) := by decide +kernel
theorem dX6_addPier_91 : decode cX6_addPier 91 = .ok (.iconst 0, 1) := by decide +kernel
theorem dX6_addPier_92 : decode cX6_addPier 92 = .ok (.ireturn, 1) := by decide +kernel
theorem dX6_addPier_93 : decode cX6_addPier 93 = .ok (.aload_n 0, 1) := by decide +kernel
theorem dX6_addPier_94 : decode cX6_addPier 94 = .ok (.getfield 86, 3) := by decide +kernel
theorem dX6_addPier_97 : decode cX6_addPier 97 = .ok (.bipush 6, 2) := by decide +kernel
theorem dX6_addPier_99 : decode cX6_addPier 99 = .ok (.if_icmp .ne 9, 3) := by decide +kernel
theorem dX6_addPier_102 : decode cX6_addPier 102 = .ok (.aload_n 0, 1) := by decide +kernel
theorem dX6_addPier_103 : decode cX6_addPier 103 = .ok (.iconst 2, 1) := by decide +kernel
theorem dX6_addPier_104 : decode cX6_addPier 104 = .ok (.invokevirtual 98, 3) := by decide +kernel
theorem dX6_addPier_107 : decode cX6_addPier 107 = .ok (.ireturn, 1) := by decide +kernel
theorem dX6_addPier_108 : decode cX6_addPier 108 = .ok (.aload_n 0, 1) := by decide +kernel
theorem dX6_addPier_109 : decode cX6_addPier 109 = .ok (.getfield 7, 3) := by decide +kernel
theorem dX6_addPier_112 : decode cX6_addPier 112 = .ok (.aload_n 0, 1) := by decide +kernel
theorem dX6_addPier_113 : decode cX6_addPier 113 = .ok (.getfield 86, 3) := by decide +kernel
theorem dX6_addPier_116 : decode cX6_addPier 116 = .ok (.iload_n 1, 1) := by decide +kernel
theorem dX6_addPier_117 : decode cX6_addPier 117 = .ok (.iastore, 1) := by decide +kernel
theorem dX6_addPier_118 : decode cX6_addPier 118 = .ok (.aload_n 0, 1) := by decide +kernel
theorem dX6_addPier_119 : decode cX6_addPier 119 = .ok (.getfield 13, 3) := by decide +kernel
theorem dX6_addPier_122 : decode cX6_addPier 122 = .ok (.aload_n 0, 1) := by decide +kernel
theorem dX6_addPier_123 : decode cX6_addPier 123 = .ok (.getfield 86, 3) := by decide +kernel
theorem dX6_addPier_126 : decode cX6_addPier 126 = .ok (.iload_n 2, 1) := by decide +kernel
theorem dX6_addPier_127 : decode cX6_addPier 127 = .ok (.iastore, 1) := by decide +kernel
theorem dX6_addPier_128 : decode cX6_addPier 128 = .ok (.aload_n 0, 1) := by decide +kernel
theorem dX6_addPier_129 : decode cX6_addPier 129 = .ok (.getfield 16, 3) := by decide +kernel
theorem dX6_addPier_132 : decode cX6_addPier 132 = .ok (.aload_n 0, 1) := by decide +kernel
theorem dX6_addPier_133 : decode cX6_addPier 133 = .ok (.getfield 86, 3) := by decide +kernel
theorem dX6_addPier_136 : decode cX6_addPier 136 = .ok (.iload_n 3, 1) := by decide +kernel
theorem dX6_addPier_137 : decode cX6_addPier 137 = .ok (.iastore, 1) := by decide +kernel
theorem dX6_addPier_138 : decode cX6_addPier 138 = .ok (.aload_n 0, 1) := by decide +kernel
theorem dX6_addPier_139 : decode cX6_addPier 139 = .ok (.getfield 19, 3) := by decide +kernel
theorem dX6_addPier_142 : decode cX6_addPier 142 = .ok (.aload_n 0, 1) := by decide +kernel
theorem dX6_addPier_143 : decode cX6_addPier 143 = .ok (.getfield 86, 3) := by decide +kernel
theorem dX6_addPier_146 : decode cX6_addPier 146 = .ok (.iload 4, 2) := by decide +kernel
theorem dX6_addPier_148 : decode cX6_addPier 148 = .ok (.iastore, 1) := by decide +kernel
theorem dX6_addPier_149 : decode cX6_addPier 149 = .ok (.aload_n 0, 1) := by decide +kernel
theorem dX6_addPier_150 : decode cX6_addPier 150 = .ok (.getfield 22, 3) := by decide +kernel
theorem dX6_addPier_153 : decode cX6_addPier 153 = .ok (.aload_n 0, 1) := by decide +kernel
theorem dX6_addPier_154 : decode cX6_addPier 154 = .ok (.getfield 86, 3) := by decide +kernel
theorem dX6_addPier_157 : decode cX6_addPier 157 = .ok (.iload 5, 2) := by decide +kernel
theorem dX6_addPier_159 : decode cX6_addPier 159 = .ok (.iastore, 1) := by decide +kernel
theorem dX6_addPier_160 : decode cX6_addPier 160 = .ok (.aload_n 0, 1) := by decide +kernel
theorem dX6_addPier_161 : decode cX6_addPier 161 = .ok (.dup, 1) := by decide +kernel
theorem dX6_addPier_162 : decode cX6_addPier 162 = .ok (.getfield 86, 3) := by decide +kernel
theorem dX6_addPier_165 : decode cX6_addPier 165 = .ok (.iconst 1, 1) := by decide +kernel
theorem dX6_addPier_166 : decode cX6_addPier 166 = .ok (.iadd, 1) := by decide +kernel
theorem dX6_addPier_167 : decode cX6_addPier 167 = .ok (.putfield 86, 3) := by decide +kernel
theorem dX6_addPier_170 : decode cX6_addPier 170 = .ok (.aload_n 0, 1) := by decide +kernel
theorem dX6_addPier_171 : decode cX6_addPier 171 = .ok (.getfield 86, 3) := by decide +kernel
theorem dX6_addPier_174 : decode cX6_addPier 174 = .ok (.iconst 1, 1) := by decide +kernel
theorem dX6_addPier_175 : decode cX6_addPier 175 = .ok (.isub, 1) := by decide +kernel
theorem dX6_addPier_176 : decode cX6_addPier 176 = .ok (.ireturn, 1) := by decide +kernel
theorem dX6_pierCount_0 : decode cX6_pierCount 0 = .ok (.aload_n 0, 1) := by decide +kernel
theorem dX6_pierCount_1 : decode cX6_pierCount 1 = .ok (.iconst 0, 1) := by decide +kernel
theorem dX6_pierCount_2 : decode cX6_pierCount 2 = .ok (.putfield 83, 3) := by decide +kernel
theorem dX6_pierCount_5 : decode cX6_pierCount 5 = .ok (.aload_n 0, 1) := by decide +kernel
theorem dX6_pierCount_6 : decode cX6_pierCount 6 = .ok (.getfield 86, 3) := by decide +kernel
theorem dX6_pierCount_9 : decode cX6_pierCount 9 = .ok (.ireturn, 1) := by decide +kernel
theorem dX6_today_0 : decode cX6_today 0 = .ok (.aload_n 0, 1) := by decide +kernel
theorem dX6_today_1 : decode cX6_today 1 = .ok (.iconst 0, 1) := by decide +kernel
theorem dX6_today_2 : decode cX6_today 2 = .ok (.putfield 83, 3) := by decide +kernel
theorem dX6_today_5 : decode cX6_today 5 = .ok (.aload_n 0, 1) := by decide +kernel
theorem dX6_today_6 : decode cX6_today 6 = .ok (.getfield 102, 3) := by decide +kernel
theorem dX6_today_9 : decode cX6_today 9 = .ok (.ireturn, 1) := by decide +kernel
theorem dX6_passDay_0 : decode cX6_passDay 0 = .ok (.aload_n 0, 1) := by decide +kernel
theorem dX6_passDay_1 : decode cX6_passDay 1 = .ok (.dup, 1) := by decide +kernel
theorem dX6_passDay_2 : decode cX6_passDay 2 = .ok (.getfield 102, 3) := by decide +kernel
theorem dX6_passDay_5 : decode cX6_passDay 5 = .ok (.iconst 1, 1) := by decide +kernel
theorem dX6_passDay_6 : decode cX6_passDay 6 = .ok (.iadd, 1) := by decide +kernel
theorem dX6_passDay_7 : decode cX6_passDay 7 = .ok (.putfield 102, 3) := by decide +kernel
theorem dX6_passDay_10 : decode cX6_passDay 10 = .ok (.iconst 0, 1) := by decide +kernel
theorem dX6_passDay_11 : decode cX6_passDay 11 = .ok (.istore_n 1, 1) := by decide +kernel
theorem dX6_passDay_12 : decode cX6_passDay 12 = .ok (.iload_n 1, 1) := by decide +kernel
theorem dX6_passDay_13 : decode cX6_passDay 13 = .ok (.aload_n 0, 1) := by decide +kernel
theorem dX6_passDay_14 : decode cX6_passDay 14 = .ok (.getfield 86, 3) := by decide +kernel
theorem dX6_passDay_17 : decode cX6_passDay 17 = .ok (.if_icmp .ge 122, 3) := by decide +kernel
theorem dX6_passDay_20 : decode cX6_passDay 20 = .ok (.aload_n 0, 1) := by decide +kernel
theorem dX6_passDay_21 : decode cX6_passDay 21 = .ok (.getfield 28, 3) := by decide +kernel
theorem dX6_passDay_24 : decode cX6_passDay 24 = .ok (.iload_n 1, 1) := by decide +kernel
theorem dX6_passDay_25 : decode cX6_passDay 25 = .ok (.iaload, 1) := by decide +kernel
theorem dX6_passDay_26 : decode cX6_passDay 26 = .ok (.iconst 1, 1) := by decide +kernel
theorem dX6_passDay_27 : decode cX6_passDay 27 = .ok (.isub, 1) := by decide +kernel
theorem dX6_passDay_28 : decode cX6_passDay 28 = .ok (.istore_n 2, 1) := by decide +kernel
theorem dX6_passDay_29 : decode cX6_passDay 29 = .ok (.iload_n 2, 1) := by decide +kernel
theorem dX6_passDay_30 : decode cX6_passDay 30 = .ok (.ifCond .lt 46, 3) := by decide +kernel
theorem dX6_passDay_33 : decode cX6_passDay 33 = .ok (.aload_n 0, 1) := by decide +kernel
theorem dX6_passDay_34 : decode cX6_passDay 34 = .ok (.getfield 37, 3) := by decide +kernel
theorem dX6_passDay_37 : decode cX6_passDay 37 = .ok (.bipush 6, 2) := by decide +kernel
theorem dX6_passDay_39 : decode cX6_passDay 39 = .ok (.iload_n 1, 1) := by decide +kernel
theorem dX6_passDay_40 : decode cX6_passDay 40 = .ok (.imul, 1) := by decide +kernel
theorem dX6_passDay_41 : decode cX6_passDay 41 = .ok (.iload_n 2, 1) := by decide +kernel
theorem dX6_passDay_42 : decode cX6_passDay 42 = .ok (.iadd, 1) := by decide +kernel
theorem dX6_passDay_43 : decode cX6_passDay 43 = .ok (.dup2, 1) := by decide +kernel
theorem dX6_passDay_44 : decode cX6_passDay 44 = .ok (.iaload, 1) := by decide +kernel
theorem dX6_passDay_45 : decode cX6_passDay 45 = .ok (.iconst 1, 1) := by decide +kernel
theorem dX6_passDay_46 : decode cX6_passDay 46 = .ok (.iadd, 1) := by decide +kernel
theorem dX6_passDay_47 : decode cX6_passDay 47 = .ok (.iastore, 1) := by decide +kernel
theorem dX6_passDay_48 : decode cX6_passDay 48 = .ok (.aload_n 0, 1) := by decide +kernel
theorem dX6_passDay_49 : decode cX6_passDay 49 = .ok (.getfield 37, 3) := by decide +kernel
theorem dX6_passDay_52 : decode cX6_passDay 52 = .ok (.bipush 6, 2) := by decide +kernel
theorem dX6_passDay_54 : decode cX6_passDay 54 = .ok (.iload_n 1, 1) := by decide +kernel
theorem dX6_passDay_55 : decode cX6_passDay 55 = .ok (.imul, 1) := by decide +kernel
theorem dX6_passDay_56 : decode cX6_passDay 56 = .ok (.iload_n 2, 1) := by decide +kernel
theorem dX6_passDay_57 : decode cX6_passDay 57 = .ok (.iadd, 1) := by decide +kernel
theorem dX6_passDay_58 : decode cX6_passDay 58 = .ok (.iaload, 1) := by decide +kernel
theorem dX6_passDay_59 : decode cX6_passDay 59 = .ok (.bipush 10, 2) := by decide +kernel
theorem dX6_passDay_61 : decode cX6_passDay 61 = .ok (.if_icmp .ne 9, 3) := by decide +kernel
theorem dX6_passDay_64 : decode cX6_passDay 64 = .ok (.aload_n 0, 1) := by decide +kernel
theorem dX6_passDay_65 : decode cX6_passDay 65 = .ok (.iload_n 1, 1) := by decide +kernel
theorem dX6_passDay_66 : decode cX6_passDay 66 = .ok (.iload_n 2, 1) := by decide +kernel
theorem dX6_passDay_67 : decode cX6_passDay 67 = .ok (.invokevirtual 105, 3) := by decide +kernel
theorem dX6_passDay_70 : decode cX6_passDay 70 = .ok (.iinc 2 (-1), 3) := by decide +kernel
theorem dX6_passDay_73 : decode cX6_passDay 73 = .ok (.goto (-44), 3) := by decide +kernel
theorem dX6_passDay_76 : decode cX6_passDay 76 = .ok (.iconst 4, 1) := by decide +kernel
theorem dX6_passDay_77 : decode cX6_passDay 77 = .ok (.iload_n 1, 1) := by decide +kernel
theorem dX6_passDay_78 : decode cX6_passDay 78 = .ok (.imul, 1) := by decide +kernel
theorem dX6_passDay_79 : decode cX6_passDay 79 = .ok (.istore_n 2, 1) := by decide +kernel
theorem dX6_passDay_80 : decode cX6_passDay 80 = .ok (.iload_n 2, 1) := by decide +kernel
theorem dX6_passDay_81 : decode cX6_passDay 81 = .ok (.iconst 4, 1) := by decide +kernel
theorem dX6_passDay_82 : decode cX6_passDay 82 = .ok (.iload_n 1, 1) := by decide +kernel
theorem dX6_passDay_83 : decode cX6_passDay 83 = .ok (.imul, 1) := by decide +kernel
theorem dX6_passDay_84 : decode cX6_passDay 84 = .ok (.aload_n 0, 1) := by decide +kernel
theorem dX6_passDay_85 : decode cX6_passDay 85 = .ok (.getfield 56, 3) := by decide +kernel
theorem dX6_passDay_88 : decode cX6_passDay 88 = .ok (.iload_n 1, 1) := by decide +kernel
theorem dX6_passDay_89 : decode cX6_passDay 89 = .ok (.iaload, 1) := by decide +kernel
theorem dX6_passDay_90 : decode cX6_passDay 90 = .ok (.iadd, 1) := by decide +kernel
theorem dX6_passDay_91 : decode cX6_passDay 91 = .ok (.if_icmp .ge 42, 3) := by decide +kernel
theorem dX6_passDay_94 : decode cX6_passDay 94 = .ok (.aload_n 0, 1) := by decide +kernel
theorem dX6_passDay_95 : decode cX6_passDay 95 = .ok (.getfield 71, 3) := by decide +kernel
theorem dX6_passDay_98 : decode cX6_passDay 98 = .ok (.iload_n 2, 1) := by decide +kernel
theorem dX6_passDay_99 : decode cX6_passDay 99 = .ok (.iaload, 1) := by decide +kernel
theorem dX6_passDay_100 : decode cX6_passDay 100 = .ok (.iconst 1, 1) := by decide +kernel
theorem dX6_passDay_101 : decode cX6_passDay 101 = .ok (.if_icmp .ne 26, 3) := by decide +kernel
theorem dX6_passDay_104 : decode cX6_passDay 104 = .ok (.aload_n 0, 1) := by decide +kernel
theorem dX6_passDay_105 : decode cX6_passDay 105 = .ok (.getfield 74, 3) := by decide +kernel
theorem dX6_passDay_108 : decode cX6_passDay 108 = .ok (.iload_n 2, 1) := by decide +kernel
theorem dX6_passDay_109 : decode cX6_passDay 109 = .ok (.iaload, 1) := by decide +kernel
theorem dX6_passDay_110 : decode cX6_passDay 110 = .ok (.bipush 7, 2) := by decide +kernel
theorem dX6_passDay_112 : decode cX6_passDay 112 = .ok (.iadd, 1) := by decide +kernel
theorem dX6_passDay_113 : decode cX6_passDay 113 = .ok (.aload_n 0, 1) := by decide +kernel
theorem dX6_passDay_114 : decode cX6_passDay 114 = .ok (.getfield 102, 3) := by decide +kernel
theorem dX6_passDay_117 : decode cX6_passDay 117 = .ok (.if_icmp .ne 10, 3) := by decide +kernel
theorem dX6_passDay_120 : decode cX6_passDay 120 = .ok (.aload_n 0, 1) := by decide +kernel
theorem dX6_passDay_121 : decode cX6_passDay 121 = .ok (.getfield 71, 3) := by decide +kernel
theorem dX6_passDay_124 : decode cX6_passDay 124 = .ok (.iload_n 2, 1) := by decide +kernel
theorem dX6_passDay_125 : decode cX6_passDay 125 = .ok (.iconst 3, 1) := by decide +kernel
theorem dX6_passDay_126 : decode cX6_passDay 126 = .ok (.iastore, 1) := by decide +kernel
theorem dX6_passDay_127 : decode cX6_passDay 127 = .ok (.iinc 2 1, 3) := by decide +kernel
theorem dX6_passDay_130 : decode cX6_passDay 130 = .ok (.goto (-50), 3) := by decide +kernel
theorem dX6_passDay_133 : decode cX6_passDay 133 = .ok (.iinc 1 1, 3) := by decide +kernel
theorem dX6_passDay_136 : decode cX6_passDay 136 = .ok (.goto (-124), 3) := by decide +kernel
theorem dX6_passDay_139 : decode cX6_passDay 139 = .ok (.return_, 1) := by decide +kernel
theorem dX6_passDays_0 : decode cX6_passDays 0 = .ok (.aload_n 0, 1) := by decide +kernel
theorem dX6_passDays_1 : decode cX6_passDays 1 = .ok (.iload_n 1, 1) := by decide +kernel
theorem dX6_passDays_2 : decode cX6_passDays 2 = .ok (.iconst 1, 1) := by decide +kernel
theorem dX6_passDays_3 : decode cX6_passDays 3 = .ok (.bipush 60, 2) := by decide +kernel
theorem dX6_passDays_5 : decode cX6_passDays 5 = .ok (.invokestatic 89, 3) := by decide +kernel
theorem dX6_passDays_8 : decode cX6_passDays 8 = .ok (.iconst 1, 1) := by decide +kernel
theorem dX6_passDays_9 : decode cX6_passDays 9 = .ok (.invokevirtual 93, 3) := by decide +kernel
theorem dX6_passDays_12 : decode cX6_passDays 12 = .ok (.ifCond .ne 5, 3) := by decide +kernel
theorem dX6_passDays_15 : decode cX6_passDays 15 = .ok (.iconst 0, 1) := by decide +kernel
theorem dX6_passDays_16 : decode cX6_passDays 16 = .ok (.ireturn, 1) := by decide +kernel
theorem dX6_passDays_17 : decode cX6_passDays 17 = .ok (.iconst 0, 1) := by decide +kernel
theorem dX6_passDays_18 : decode cX6_passDays 18 = .ok (.istore_n 2, 1) := by decide +kernel
theorem dX6_passDays_19 : decode cX6_passDays 19 = .ok (.iload_n 2, 1) := by decide +kernel
theorem dX6_passDays_20 : decode cX6_passDays 20 = .ok (.iload_n 1, 1) := by decide +kernel
theorem dX6_passDays_21 : decode cX6_passDays 21 = .ok (.if_icmp .ge 13, 3) := by decide +kernel
theorem dX6_passDays_24 : decode cX6_passDays 24 = .ok (.aload_n 0, 1) := by decide +kernel
theorem dX6_passDays_25 : decode cX6_passDays 25 = .ok (.invokevirtual 109, 3) := by decide +kernel
theorem dX6_passDays_28 : decode cX6_passDays 28 = .ok (.iinc 2 1, 3) := by decide +kernel
theorem dX6_passDays_31 : decode cX6_passDays 31 = .ok (.goto (-12), 3) := by decide +kernel
theorem dX6_passDays_34 : decode cX6_passDays 34 = .ok (.aload_n 0, 1) := by decide +kernel
theorem dX6_passDays_35 : decode cX6_passDays 35 = .ok (.getfield 102, 3) := by decide +kernel
theorem dX6_passDays_38 : decode cX6_passDays 38 = .ok (.ireturn, 1) := by decide +kernel
theorem dX6_moon_0 : decode cX6_moon 0 = .ok (.iconst 4, 1) := by decide +kernel
theorem dX6_moon_1 : decode cX6_moon 1 = .ok (.iload_n 0, 1) := by decide +kernel
theorem dX6_moon_2 : decode cX6_moon 2 = .ok (.imul, 1) := by decide +kernel
theorem dX6_moon_3 : decode cX6_moon 3 = .ok (.bipush 118, 2) := by decide +kernel
theorem dX6_moon_5 : decode cX6_moon 5 = .ok (.irem, 1) := by decide +kernel
theorem dX6_moon_6 : decode cX6_moon 6 = .ok (.ireturn, 1) := by decide +kernel
theorem dX6_range_0 : decode cX6_range 0 = .ok (.iload_n 2, 1) := by decide +kernel
theorem dX6_range_1 : decode cX6_range 1 = .ok (.invokestatic 112, 3) := by decide +kernel
theorem dX6_range_4 : decode cX6_range 4 = .ok (.bipush 59, 2) := by decide +kernel
theorem dX6_range_6 : decode cX6_range 6 = .ok (.irem, 1) := by decide +kernel
theorem dX6_range_7 : decode cX6_range 7 = .ok (.istore_n 3, 1) := by decide +kernel
theorem dX6_range_8 : decode cX6_range 8 = .ok (.iload_n 3, 1) := by decide +kernel
theorem dX6_range_9 : decode cX6_range 9 = .ok (.ifCond .ne 7, 3) := by decide +kernel
theorem dX6_range_12 : decode cX6_range 12 = .ok (.iconst 0, 1) := by decide +kernel
theorem dX6_range_13 : decode cX6_range 13 = .ok (.goto 11, 3) := by decide +kernel
theorem dX6_range_16 : decode cX6_range 16 = .ok (.iload_n 3, 1) := by decide +kernel
theorem dX6_range_17 : decode cX6_range 17 = .ok (.bipush 59, 2) := by decide +kernel
theorem dX6_range_19 : decode cX6_range 19 = .ok (.iload_n 3, 1) := by decide +kernel
theorem dX6_range_20 : decode cX6_range 20 = .ok (.isub, 1) := by decide +kernel
theorem dX6_range_21 : decode cX6_range 21 = .ok (.invokestatic 115, 3) := by decide +kernel
theorem dX6_range_24 : decode cX6_range 24 = .ok (.istore 4, 2) := by decide +kernel
theorem dX6_range_26 : decode cX6_range 26 = .ok (.aload_n 0, 1) := by decide +kernel
theorem dX6_range_27 : decode cX6_range 27 = .ok (.getfield 16, 3) := by decide +kernel
theorem dX6_range_30 : decode cX6_range 30 = .ok (.iload_n 1, 1) := by decide +kernel
theorem dX6_range_31 : decode cX6_range 31 = .ok (.iaload, 1) := by decide +kernel
theorem dX6_range_32 : decode cX6_range 32 = .ok (.aload_n 0, 1) := by decide +kernel
theorem dX6_range_33 : decode cX6_range 33 = .ok (.getfield 16, 3) := by decide +kernel
theorem dX6_range_36 : decode cX6_range 36 = .ok (.iload_n 1, 1) := by decide +kernel
theorem dX6_range_37 : decode cX6_range 37 = .ok (.iaload, 1) := by decide +kernel
theorem dX6_range_38 : decode cX6_range 38 = .ok (.aload_n 0, 1) := by decide +kernel
theorem dX6_range_39 : decode cX6_range 39 = .ok (.getfield 19, 3) := by decide +kernel
theorem dX6_range_42 : decode cX6_range 42 = .ok (.iload_n 1, 1) := by decide +kernel
theorem dX6_range_43 : decode cX6_range 43 = .ok (.iaload, 1) := by decide +kernel
theorem dX6_range_44 : decode cX6_range 44 = .ok (.isub, 1) := by decide +kernel
theorem dX6_range_45 : decode cX6_range 45 = .ok (.iload 4, 2) := by decide +kernel
theorem dX6_range_47 : decode cX6_range 47 = .ok (.imul, 1) := by decide +kernel
theorem dX6_range_48 : decode cX6_range 48 = .ok (.bipush 29, 2) := by decide +kernel
theorem dX6_range_50 : decode cX6_range 50 = .ok (.idiv, 1) := by decide +kernel
theorem dX6_range_51 : decode cX6_range 51 = .ok (.isub, 1) := by decide +kernel
theorem dX6_range_52 : decode cX6_range 52 = .ok (.ireturn, 1) := by decide +kernel
theorem dX6_moonAge_0 : decode cX6_moonAge 0 = .ok (.aload_n 0, 1) := by decide +kernel
theorem dX6_moonAge_1 : decode cX6_moonAge 1 = .ok (.iload_n 1, 1) := by decide +kernel
theorem dX6_moonAge_2 : decode cX6_moonAge 2 = .ok (.invokestatic 121, 3) := by decide +kernel
theorem dX6_moonAge_5 : decode cX6_moonAge 5 = .ok (.iconst 1, 1) := by decide +kernel
theorem dX6_moonAge_6 : decode cX6_moonAge 6 = .ok (.invokevirtual 93, 3) := by decide +kernel
theorem dX6_moonAge_9 : decode cX6_moonAge 9 = .ok (.ifCond .eq 10, 3) := by decide +kernel
theorem dX6_moonAge_12 : decode cX6_moonAge 12 = .ok (.iload_n 1, 1) := by decide +kernel
theorem dX6_moonAge_13 : decode cX6_moonAge 13 = .ok (.invokestatic 112, 3) := by decide +kernel
theorem dX6_moonAge_16 : decode cX6_moonAge 16 = .ok (.goto 4, 3) := by decide +kernel
theorem dX6_moonAge_19 : decode cX6_moonAge 19 = .ok (.iconst 0, 1) := by decide +kernel
theorem dX6_moonAge_20 : decode cX6_moonAge 20 = .ok (.ireturn, 1) := by decide +kernel
theorem dX6_rangeOf_0 : decode cX6_rangeOf 0 = .ok (.aload_n 0, 1) := by decide +kernel
theorem dX6_rangeOf_1 : decode cX6_rangeOf 1 = .ok (.iload_n 1, 1) := by decide +kernel
theorem dX6_rangeOf_2 : decode cX6_rangeOf 2 = .ok (.invokevirtual 125, 3) := by decide +kernel
theorem dX6_rangeOf_5 : decode cX6_rangeOf 5 = .ok (.ifCond .ne 5, 3) := by decide +kernel
theorem dX6_rangeOf_8 : decode cX6_rangeOf 8 = .ok (.iconst 0, 1) := by decide +kernel
theorem dX6_rangeOf_9 : decode cX6_rangeOf 9 = .ok (.ireturn, 1) := by decide +kernel
theorem dX6_rangeOf_10 : decode cX6_rangeOf 10 = .ok (.iload_n 2, 1) := by decide +kernel
theorem dX6_rangeOf_11 : decode cX6_rangeOf 11 = .ok (.invokestatic 121, 3) := by decide +kernel
theorem dX6_rangeOf_14 : decode cX6_rangeOf 14 = .ok (.ifCond .eq 12, 3) := by decide +kernel
theorem dX6_rangeOf_17 : decode cX6_rangeOf 17 = .ok (.aload_n 0, 1) := by decide +kernel
theorem dX6_rangeOf_18 : decode cX6_rangeOf 18 = .ok (.iload_n 1, 1) := by decide +kernel
theorem dX6_rangeOf_19 : decode cX6_rangeOf 19 = .ok (.iload_n 2, 1) := by decide +kernel
theorem dX6_rangeOf_20 : decode cX6_rangeOf 20 = .ok (.invokevirtual 128, 3) := by decide +kernel
theorem dX6_rangeOf_23 : decode cX6_rangeOf 23 = .ok (.goto 8, 3) := by decide +kernel
theorem dX6_rangeOf_26 : decode cX6_rangeOf 26 = .ok (.aload_n 0, 1) := by decide +kernel
theorem dX6_rangeOf_27 : decode cX6_rangeOf 27 = .ok (.iconst 2, 1) := by decide +kernel
theorem dX6_rangeOf_28 : decode cX6_rangeOf 28 = .ok (.invokevirtual 98, 3) := by decide +kernel
theorem dX6_rangeOf_31 : decode cX6_rangeOf 31 = .ok (.ireturn, 1) := by decide +kernel
theorem dX6_behind_0 : decode cX6_behind 0 = .ok (.iload_n 2, 1) := by decide +kernel
theorem dX6_behind_1 : decode cX6_behind 1 = .ok (.aload_n 0, 1) := by decide +kernel
theorem dX6_behind_2 : decode cX6_behind 2 = .ok (.getfield 7, 3) := by decide +kernel
theorem dX6_behind_5 : decode cX6_behind 5 = .ok (.iload_n 1, 1) := by decide +kernel
theorem dX6_behind_6 : decode cX6_behind 6 = .ok (.iaload, 1) := by decide +kernel
theorem dX6_behind_7 : decode cX6_behind 7 = .ok (.isub, 1) := by decide +kernel
theorem dX6_behind_8 : decode cX6_behind 8 = .ok (.aload_n 0, 1) := by decide +kernel
theorem dX6_behind_9 : decode cX6_behind 9 = .ok (.iload_n 1, 1) := by decide +kernel
theorem dX6_behind_10 : decode cX6_behind 10 = .ok (.invokevirtual 131, 3) := by decide +kernel
theorem dX6_behind_13 : decode cX6_behind 13 = .ok (.isub, 1) := by decide +kernel
theorem dX6_behind_14 : decode cX6_behind 14 = .ok (.sipush 745, 3) := by decide +kernel
theorem dX6_behind_17 : decode cX6_behind 17 = .ok (.irem, 1) := by decide +kernel
theorem dX6_behind_18 : decode cX6_behind 18 = .ok (.istore_n 3, 1) := by decide +kernel
theorem dX6_behind_19 : decode cX6_behind 19 = .ok (.iload_n 3, 1) := by decide +kernel
theorem dX6_behind_20 : decode cX6_behind 20 = .ok (.ifCond .ge 11, 3) := by decide +kernel
theorem dX6_behind_23 : decode cX6_behind 23 = .ok (.iload_n 3, 1) := by decide +kernel
theorem dX6_behind_24 : decode cX6_behind 24 = .ok (.sipush 745, 3) := by decide +kernel
theorem dX6_behind_27 : decode cX6_behind 27 = .ok (.iadd, 1) := by decide +kernel
theorem dX6_behind_28 : decode cX6_behind 28 = .ok (.goto 4, 3) := by decide +kernel
theorem dX6_behind_31 : decode cX6_behind 31 = .ok (.iload_n 3, 1) := by decide +kernel
theorem dX6_behind_32 : decode cX6_behind 32 = .ok (.ireturn, 1) := by decide +kernel
theorem dX6_findTable_0 : decode cX6_findTable 0 = .ok (.aload_n 0, 1) := by decide +kernel
theorem dX6_findTable_1 : decode cX6_findTable 1 = .ok (.iconst 0, 1) := by decide +kernel
theorem dX6_findTable_2 : decode cX6_findTable 2 = .ok (.putfield 134, 3) := by decide +kernel
theorem dX6_findTable_5 : decode cX6_findTable 5 = .ok (.aload_n 0, 1) := by decide +kernel
theorem dX6_findTable_6 : decode cX6_findTable 6 = .ok (.iload_n 1, 1) := by decide +kernel
theorem dX6_findTable_7 : decode cX6_findTable 7 = .ok (.sipush 1440, 3) := by decide +kernel
theorem dX6_findTable_10 : decode cX6_findTable 10 = .ok (.iload_n 2, 1) := by decide +kernel
theorem dX6_findTable_11 : decode cX6_findTable 11 = .ok (.imul, 1) := by decide +kernel
theorem dX6_findTable_12 : decode cX6_findTable 12 = .ok (.invokevirtual 137, 3) := by decide +kernel
theorem dX6_findTable_15 : decode cX6_findTable 15 = .ok (.istore_n 3, 1) := by decide +kernel
theorem dX6_findTable_16 : decode cX6_findTable 16 = .ok (.iconst 0, 1) := by decide +kernel
theorem dX6_findTable_17 : decode cX6_findTable 17 = .ok (.istore 4, 2) := by decide +kernel
theorem dX6_findTable_19 : decode cX6_findTable 19 = .ok (.iload 4, 2) := by decide +kernel
theorem dX6_findTable_21 : decode cX6_findTable 21 = .ok (.sipush 1440, 3) := by decide +kernel
theorem dX6_findTable_24 : decode cX6_findTable 24 = .ok (.if_icmp .ge 74, 3) := by decide +kernel
theorem dX6_findTable_27 : decode cX6_findTable 27 = .ok (.iload_n 3, 1) := by decide +kernel
theorem dX6_findTable_28 : decode cX6_findTable 28 = .ok (.ifCond .eq 10, 3) := by decide +kernel
theorem dX6_findTable_31 : decode cX6_findTable 31 = .ok (.iload_n 3, 1) := by decide +kernel
theorem dX6_findTable_32 : decode cX6_findTable 32 = .ok (.sipush 372, 3) := by decide +kernel
theorem dX6_findTable_35 : decode cX6_findTable 35 = .ok (.if_icmp .ne 42, 3) := by decide +kernel
theorem dX6_findTable_38 : decode cX6_findTable 38 = .ok (.aload_n 0, 1) := by decide +kernel
theorem dX6_findTable_39 : decode cX6_findTable 39 = .ok (.getfield 77, 3) := by decide +kernel
theorem dX6_findTable_42 : decode cX6_findTable 42 = .ok (.aload_n 0, 1) := by decide +kernel
theorem dX6_findTable_43 : decode cX6_findTable 43 = .ok (.getfield 134, 3) := by decide +kernel
theorem dX6_findTable_46 : decode cX6_findTable 46 = .ok (.iload 4, 2) := by decide +kernel
theorem dX6_findTable_48 : decode cX6_findTable 48 = .ok (.iastore, 1) := by decide +kernel
theorem dX6_findTable_49 : decode cX6_findTable 49 = .ok (.aload_n 0, 1) := by decide +kernel
theorem dX6_findTable_50 : decode cX6_findTable 50 = .ok (.getfield 80, 3) := by decide +kernel
theorem dX6_findTable_53 : decode cX6_findTable 53 = .ok (.aload_n 0, 1) := by decide +kernel
theorem dX6_findTable_54 : decode cX6_findTable 54 = .ok (.getfield 134, 3) := by decide +kernel
theorem dX6_findTable_57 : decode cX6_findTable 57 = .ok (.iload_n 3, 1) := by decide +kernel
theorem dX6_findTable_58 : decode cX6_findTable 58 = .ok (.ifCond .ne 7, 3) := by decide +kernel
theorem dX6_findTable_61 : decode cX6_findTable 61 = .ok (.iconst 0, 1) := by decide +kernel
theorem dX6_findTable_62 : decode cX6_findTable 62 = .ok (.goto 4, 3) := by decide +kernel
theorem dX6_findTable_65 : decode cX6_findTable 65 = .ok (.iconst 1, 1) := by decide +kernel
theorem dX6_findTable_66 : decode cX6_findTable 66 = .ok (.iastore, 1) := by decide +kernel
theorem dX6_findTable_67 : decode cX6_findTable 67 = .ok (.aload_n 0, 1) := by decide +kernel
theorem dX6_findTable_68 : decode cX6_findTable 68 = .ok (.dup, 1) := by decide +kernel
theorem dX6_findTable_69 : decode cX6_findTable 69 = .ok (.getfield 134, 3) := by decide +kernel
theorem dX6_findTable_72 : decode cX6_findTable 72 = .ok (.iconst 1, 1) := by decide +kernel
theorem dX6_findTable_73 : decode cX6_findTable 73 = .ok (.iadd, 1) := by decide +kernel
theorem dX6_findTable_74 : decode cX6_findTable 74 = .ok (.putfield 134, 3) := by decide +kernel
theorem dX6_findTable_77 : decode cX6_findTable 77 = .ok (.iload_n 3, 1) := by decide +kernel
theorem dX6_findTable_78 : decode cX6_findTable 78 = .ok (.sipush 744, 3) := by decide +kernel
theorem dX6_findTable_81 : decode cX6_findTable 81 = .ok (.if_icmp .ne 7, 3) := by decide +kernel
theorem dX6_findTable_84 : decode cX6_findTable 84 = .ok (.iconst 0, 1) := by decide +kernel
theorem dX6_findTable_85 : decode cX6_findTable 85 = .ok (.goto 6, 3) := by decide +kernel
theorem dX6_findTable_88 : decode cX6_findTable 88 = .ok (.iload_n 3, 1) := by decide +kernel
theorem dX6_findTable_89 : decode cX6_findTable 89 = .ok (.iconst 1, 1) := by decide +kernel
theorem dX6_findTable_90 : decode cX6_findTable 90 = .ok (.iadd, 1) := by decide +kernel
theorem dX6_findTable_91 : decode cX6_findTable 91 = .ok (.istore_n 3, 1) := by decide +kernel
theorem dX6_findTable_92 : decode cX6_findTable 92 = .ok (.iinc 4 1, 3) := by decide +kernel
theorem dX6_findTable_95 : decode cX6_findTable 95 = .ok (.goto (-76), 3) := by decide +kernel
theorem dX6_findTable_98 : decode cX6_findTable 98 = .ok (.return_, 1) := by decide +kernel
theorem dX6_level_0 : decode cX6_level 0 = .ok (.aload_n 0, 1) := by decide +kernel
theorem dX6_level_1 : decode cX6_level 1 = .ok (.iload_n 1, 1) := by decide +kernel
theorem dX6_level_2 : decode cX6_level 2 = .ok (.iload_n 2, 1) := by decide +kernel
theorem dX6_level_3 : decode cX6_level 3 = .ok (.invokevirtual 128, 3) := by decide +kernel
theorem dX6_level_6 : decode cX6_level 6 = .ok (.iconst 2, 1) := by decide +kernel
theorem dX6_level_7 : decode cX6_level 7 = .ok (.idiv, 1) := by decide +kernel
theorem dX6_level_8 : decode cX6_level 8 = .ok (.istore 4, 2) := by decide +kernel
theorem dX6_level_10 : decode cX6_level 10 = .ok (.iload_n 3, 1) := by decide +kernel
theorem dX6_level_11 : decode cX6_level 11 = .ok (.ifCond .ne 15, 3) := by decide +kernel
theorem dX6_level_14 : decode cX6_level 14 = .ok (.aload_n 0, 1) := by decide +kernel
theorem dX6_level_15 : decode cX6_level 15 = .ok (.getfield 13, 3) := by decide +kernel
theorem dX6_level_18 : decode cX6_level 18 = .ok (.iload_n 1, 1) := by decide +kernel
theorem dX6_level_19 : decode cX6_level 19 = .ok (.iaload, 1) := by decide +kernel
theorem dX6_level_20 : decode cX6_level 20 = .ok (.iload 4, 2) := by decide +kernel
theorem dX6_level_22 : decode cX6_level 22 = .ok (.iadd, 1) := by decide +kernel
theorem dX6_level_23 : decode cX6_level 23 = .ok (.goto 12, 3) := by decide +kernel
theorem dX6_level_26 : decode cX6_level 26 = .ok (.aload_n 0, 1) := by decide +kernel
theorem dX6_level_27 : decode cX6_level 27 = .ok (.getfield 13, 3) := by decide +kernel
theorem dX6_level_30 : decode cX6_level 30 = .ok (.iload_n 1, 1) := by decide +kernel
theorem dX6_level_31 : decode cX6_level 31 = .ok (.iaload, 1) := by decide +kernel
theorem dX6_level_32 : decode cX6_level 32 = .ok (.iload 4, 2) := by decide +kernel
theorem dX6_level_34 : decode cX6_level 34 = .ok (.isub, 1) := by decide +kernel
theorem dX6_level_35 : decode cX6_level 35 = .ok (.ireturn, 1) := by decide +kernel
theorem dX6_waterCount_0 : decode cX6_waterCount 0 = .ok (.aload_n 0, 1) := by decide +kernel
theorem dX6_waterCount_1 : decode cX6_waterCount 1 = .ok (.iload_n 1, 1) := by decide +kernel
theorem dX6_waterCount_2 : decode cX6_waterCount 2 = .ok (.invokevirtual 125, 3) := by decide +kernel
theorem dX6_waterCount_5 : decode cX6_waterCount 5 = .ok (.ifCond .ne 5, 3) := by decide +kernel
theorem dX6_waterCount_8 : decode cX6_waterCount 8 = .ok (.iconst 0, 1) := by decide +kernel
theorem dX6_waterCount_9 : decode cX6_waterCount 9 = .ok (.ireturn, 1) := by decide +kernel
theorem dX6_waterCount_10 : decode cX6_waterCount 10 = .ok (.iload_n 2, 1) := by decide +kernel
theorem dX6_waterCount_11 : decode cX6_waterCount 11 = .ok (.invokestatic 121, 3) := by decide +kernel
theorem dX6_waterCount_14 : decode cX6_waterCount 14 = .ok (.ifCond .ne 9, 3) := by decide +kernel
theorem dX6_waterCount_17 : decode cX6_waterCount 17 = .ok (.aload_n 0, 1) := by decide +kernel
theorem dX6_waterCount_18 : decode cX6_waterCount 18 = .ok (.iconst 2, 1) := by decide +kernel
theorem dX6_waterCount_19 : decode cX6_waterCount 19 = .ok (.invokevirtual 98, 3) := by decide +kernel
theorem dX6_waterCount_22 : decode cX6_waterCount 22 = .ok (.ireturn, 1) := by decide +kernel
theorem dX6_waterCount_23 : decode cX6_waterCount 23 = .ok (.aload_n 0, 1) := by decide +kernel
theorem dX6_waterCount_24 : decode cX6_waterCount 24 = .ok (.iload_n 1, 1) := by decide +kernel
theorem dX6_waterCount_25 : decode cX6_waterCount 25 = .ok (.iload_n 2, 1) := by decide +kernel
theorem dX6_waterCount_26 : decode cX6_waterCount 26 = .ok (.invokevirtual 140, 3) := by decide +kernel
theorem dX6_waterCount_29 : decode cX6_waterCount 29 = .ok (.aload_n 0, 1) := by decide +kernel
theorem dX6_waterCount_30 : decode cX6_waterCount 30 = .ok (.getfield 134, 3) := by decide +kernel
theorem dX6_waterCount_33 : decode cX6_waterCount 33 = .ok (.ireturn, 1) := by decide +kernel
theorem dX6_isWater_0 : decode cX6_isWater 0 = .ok (.aload_n 0, 1) := by decide +kernel
theorem dX6_isWater_1 : decode cX6_isWater 1 = .ok (.iload_n 2, 1) := by decide +kernel
theorem dX6_isWater_2 : decode cX6_isWater 2 = .ok (.invokestatic 121, 3) := by decide +kernel
theorem dX6_isWater_5 : decode cX6_isWater 5 = .ok (.iconst 1, 1) := by decide +kernel
theorem dX6_isWater_6 : decode cX6_isWater 6 = .ok (.invokevirtual 93, 3) := by decide +kernel
theorem dX6_isWater_9 : decode cX6_isWater 9 = .ok (.ifCond .eq 22, 3) := by decide +kernel
theorem dX6_isWater_12 : decode cX6_isWater 12 = .ok (.aload_n 0, 1) := by decide +kernel
theorem dX6_isWater_13 : decode cX6_isWater 13 = .ok (.iload_n 1, 1) := by decide +kernel
theorem dX6_isWater_14 : decode cX6_isWater 14 = .ok (.iconst 0, 1) := by decide +kernel
theorem dX6_isWater_15 : decode cX6_isWater 15 = .ok (.aload_n 0, 1) := by decide +kernel
theorem dX6_isWater_16 : decode cX6_isWater 16 = .ok (.getfield 86, 3) := by decide +kernel
theorem dX6_isWater_19 : decode cX6_isWater 19 = .ok (.iconst 1, 1) := by decide +kernel
theorem dX6_isWater_20 : decode cX6_isWater 20 = .ok (.isub, 1) := by decide +kernel
theorem dX6_isWater_21 : decode cX6_isWater 21 = .ok (.invokestatic 89, 3) := by decide +kernel
theorem dX6_isWater_24 : decode cX6_isWater 24 = .ok (.iconst 2, 1) := by decide +kernel
theorem dX6_isWater_25 : decode cX6_isWater 25 = .ok (.invokevirtual 93, 3) := by decide +kernel
theorem dX6_isWater_28 : decode cX6_isWater 28 = .ok (.ifCond .ne 5, 3) := by decide +kernel
theorem dX6_isWater_31 : decode cX6_isWater 31 = .ok (.iconst 0, 1) := by decide +kernel
theorem dX6_isWater_32 : decode cX6_isWater 32 = .ok (.ireturn, 1) := by decide +kernel
theorem dX6_isWater_33 : decode cX6_isWater 33 = .ok (.aload_n 0, 1) := by decide +kernel
theorem dX6_isWater_34 : decode cX6_isWater 34 = .ok (.iload_n 1, 1) := by decide +kernel
theorem dX6_isWater_35 : decode cX6_isWater 35 = .ok (.iload_n 2, 1) := by decide +kernel
theorem dX6_isWater_36 : decode cX6_isWater 36 = .ok (.invokevirtual 140, 3) := by decide +kernel
theorem dX6_isWater_39 : decode cX6_isWater 39 = .ok (.aload_n 0, 1) := by decide +kernel
theorem dX6_isWater_40 : decode cX6_isWater 40 = .ok (.iload_n 3, 1) := by decide +kernel
theorem dX6_isWater_41 : decode cX6_isWater 41 = .ok (.iconst 0, 1) := by decide +kernel
theorem dX6_isWater_42 : decode cX6_isWater 42 = .ok (.aload_n 0, 1) := by decide +kernel
theorem dX6_isWater_43 : decode cX6_isWater 43 = .ok (.getfield 134, 3) := by decide +kernel
theorem dX6_isWater_46 : decode cX6_isWater 46 = .ok (.iconst 1, 1) := by decide +kernel
theorem dX6_isWater_47 : decode cX6_isWater 47 = .ok (.isub, 1) := by decide +kernel
theorem dX6_isWater_48 : decode cX6_isWater 48 = .ok (.invokestatic 89, 3) := by decide +kernel
theorem dX6_isWater_51 : decode cX6_isWater 51 = .ok (.iconst 2, 1) := by decide +kernel
theorem dX6_isWater_52 : decode cX6_isWater 52 = .ok (.invokevirtual 93, 3) := by decide +kernel
theorem dX6_isWater_55 : decode cX6_isWater 55 = .ok (.ireturn, 1) := by decide +kernel
theorem dX6_waterMinute_0 : decode cX6_waterMinute 0 = .ok (.aload_n 0, 1) := by decide +kernel
theorem dX6_waterMinute_1 : decode cX6_waterMinute 1 = .ok (.iload_n 1, 1) := by decide +kernel
theorem dX6_waterMinute_2 : decode cX6_waterMinute 2 = .ok (.iload_n 2, 1) := by decide +kernel
theorem dX6_waterMinute_3 : decode cX6_waterMinute 3 = .ok (.iload_n 3, 1) := by decide +kernel
theorem dX6_waterMinute_4 : decode cX6_waterMinute 4 = .ok (.invokevirtual 143, 3) := by decide +kernel
theorem dX6_waterMinute_7 : decode cX6_waterMinute 7 = .ok (.ifCond .eq 12, 3) := by decide +kernel
theorem dX6_waterMinute_10 : decode cX6_waterMinute 10 = .ok (.aload_n 0, 1) := by decide +kernel
theorem dX6_waterMinute_11 : decode cX6_waterMinute 11 = .ok (.getfield 77, 3) := by decide +kernel
theorem dX6_waterMinute_14 : decode cX6_waterMinute 14 = .ok (.iload_n 3, 1) := by decide +kernel
theorem dX6_waterMinute_15 : decode cX6_waterMinute 15 = .ok (.iaload, 1) := by decide +kernel
theorem dX6_waterMinute_16 : decode cX6_waterMinute 16 = .ok (.goto 4, 3) := by decide +kernel
theorem dX6_waterMinute_19 : decode cX6_waterMinute 19 = .ok (.iconst 0, 1) := by decide +kernel
theorem dX6_waterMinute_20 : decode cX6_waterMinute 20 = .ok (.ireturn, 1) := by decide +kernel
theorem dX6_waterHeight_0 : decode cX6_waterHeight 0 = .ok (.aload_n 0, 1) := by decide +kernel
theorem dX6_waterHeight_1 : decode cX6_waterHeight 1 = .ok (.iload_n 1, 1) := by decide +kernel
theorem dX6_waterHeight_2 : decode cX6_waterHeight 2 = .ok (.iload_n 2, 1) := by decide +kernel
theorem dX6_waterHeight_3 : decode cX6_waterHeight 3 = .ok (.iload_n 3, 1) := by decide +kernel
theorem dX6_waterHeight_4 : decode cX6_waterHeight 4 = .ok (.invokevirtual 143, 3) := by decide +kernel
theorem dX6_waterHeight_7 : decode cX6_waterHeight 7 = .ok (.ifCond .eq 18, 3) := by decide +kernel
theorem dX6_waterHeight_10 : decode cX6_waterHeight 10 = .ok (.aload_n 0, 1) := by decide +kernel
theorem dX6_waterHeight_11 : decode cX6_waterHeight 11 = .ok (.iload_n 1, 1) := by decide +kernel
theorem dX6_waterHeight_12 : decode cX6_waterHeight 12 = .ok (.iload_n 2, 1) := by decide +kernel
theorem dX6_waterHeight_13 : decode cX6_waterHeight 13 = .ok (.aload_n 0, 1) := by decide +kernel
theorem dX6_waterHeight_14 : decode cX6_waterHeight 14 = .ok (.getfield 80, 3) := by decide +kernel
theorem dX6_waterHeight_17 : decode cX6_waterHeight 17 = .ok (.iload_n 3, 1) := by decide +kernel
theorem dX6_waterHeight_18 : decode cX6_waterHeight 18 = .ok (.iaload, 1) := by decide +kernel
theorem dX6_waterHeight_19 : decode cX6_waterHeight 19 = .ok (.invokevirtual 146, 3) := by decide +kernel
theorem dX6_waterHeight_22 : decode cX6_waterHeight 22 = .ok (.goto 4, 3) := by decide +kernel
theorem dX6_waterHeight_25 : decode cX6_waterHeight 25 = .ok (.iconst 0, 1) := by decide +kernel
theorem dX6_waterHeight_26 : decode cX6_waterHeight 26 = .ok (.ireturn, 1) := by decide +kernel
theorem dX6_isHighWater_0 : decode cX6_isHighWater 0 = .ok (.aload_n 0, 1) := by decide +kernel
theorem dX6_isHighWater_1 : decode cX6_isHighWater 1 = .ok (.iload_n 1, 1) := by decide +kernel
theorem dX6_isHighWater_2 : decode cX6_isHighWater 2 = .ok (.iload_n 2, 1) := by decide +kernel
theorem dX6_isHighWater_3 : decode cX6_isHighWater 3 = .ok (.iload_n 3, 1) := by decide +kernel
theorem dX6_isHighWater_4 : decode cX6_isHighWater 4 = .ok (.invokevirtual 143, 3) := by decide +kernel
theorem dX6_isHighWater_7 : decode cX6_isHighWater 7 = .ok (.ifCond .eq 16, 3) := by decide +kernel
theorem dX6_isHighWater_10 : decode cX6_isHighWater 10 = .ok (.aload_n 0, 1) := by decide +kernel
theorem dX6_isHighWater_11 : decode cX6_isHighWater 11 = .ok (.getfield 80, 3) := by decide +kernel
theorem dX6_isHighWater_14 : decode cX6_isHighWater 14 = .ok (.iload_n 3, 1) := by decide +kernel
theorem dX6_isHighWater_15 : decode cX6_isHighWater 15 = .ok (.iaload, 1) := by decide +kernel
theorem dX6_isHighWater_16 : decode cX6_isHighWater 16 = .ok (.ifCond .ne 7, 3) := by decide +kernel
theorem dX6_isHighWater_19 : decode cX6_isHighWater 19 = .ok (.iconst 1, 1) := by decide +kernel
theorem dX6_isHighWater_20 : decode cX6_isHighWater 20 = .ok (.goto 4, 3) := by decide +kernel
theorem dX6_isHighWater_23 : decode cX6_isHighWater 23 = .ok (.iconst 0, 1) := by decide +kernel
theorem dX6_isHighWater_24 : decode cX6_isHighWater 24 = .ok (.ireturn, 1) := by decide +kernel
theorem dX6_minutesToHighWater_0 : decode cX6_minutesToHighWater 0 = .ok (.aload_n 0, 1) := by decide +kernel
theorem dX6_minutesToHighWater_1 : decode cX6_minutesToHighWater 1 = .ok (.iload_n 1, 1) := by decide +kernel
theorem dX6_minutesToHighWater_2 : decode cX6_minutesToHighWater 2 = .ok (.invokevirtual 125, 3) := by decide +kernel
theorem dX6_minutesToHighWater_5 : decode cX6_minutesToHighWater 5 = .ok (.ifCond .ne 5, 3) := by decide +kernel
theorem dX6_minutesToHighWater_8 : decode cX6_minutesToHighWater 8 = .ok (.iconst 0, 1) := by decide +kernel
theorem dX6_minutesToHighWater_9 : decode cX6_minutesToHighWater 9 = .ok (.ireturn, 1) := by decide +kernel
theorem dX6_minutesToHighWater_10 : decode cX6_minutesToHighWater 10 = .ok (.iload_n 2, 1) := by decide +kernel
theorem dX6_minutesToHighWater_11 : decode cX6_minutesToHighWater 11 = .ok (.invokestatic 121, 3) := by decide +kernel
theorem dX6_minutesToHighWater_14 : decode cX6_minutesToHighWater 14 = .ok (.ifCond .eq 14, 3) := by decide +kernel
theorem dX6_minutesToHighWater_17 : decode cX6_minutesToHighWater 17 = .ok (.iload_n 3, 1) := by decide +kernel
theorem dX6_minutesToHighWater_18 : decode cX6_minutesToHighWater 18 = .ok (.iconst 0, 1) := by decide +kernel
theorem dX6_minutesToHighWater_19 : decode cX6_minutesToHighWater 19 = .ok (.sipush 1439, 3) := by decide +kernel
theorem dX6_minutesToHighWater_22 : decode cX6_minutesToHighWater 22 = .ok (.invokestatic 89, 3) := by decide +kernel
theorem dX6_minutesToHighWater_25 : decode cX6_minutesToHighWater 25 = .ok (.ifCond .ne 9, 3) := by decide +kernel
theorem dX6_minutesToHighWater_28 : decode cX6_minutesToHighWater 28 = .ok (.aload_n 0, 1) := by decide +kernel
theorem dX6_minutesToHighWater_29 : decode cX6_minutesToHighWater 29 = .ok (.iconst 2, 1) := by decide +kernel
theorem dX6_minutesToHighWater_30 : decode cX6_minutesToHighWater 30 = .ok (.invokevirtual 98, 3) := by decide +kernel
theorem dX6_minutesToHighWater_33 : decode cX6_minutesToHighWater 33 = .ok (.ireturn, 1) := by decide +kernel
theorem dX6_minutesToHighWater_34 : decode cX6_minutesToHighWater 34 = .ok (.iconst 0, 1) := by decide +kernel
theorem dX6_minutesToHighWater_35 : decode cX6_minutesToHighWater 35 = .ok (.istore 4, 2) := by decide +kernel
theorem dX6_minutesToHighWater_37 : decode cX6_minutesToHighWater 37 = .ok (.aload_n 0, 1) := by decide +kernel
theorem dX6_minutesToHighWater_38 : decode cX6_minutesToHighWater 38 = .ok (.iload_n 1, 1) := by decide +kernel
theorem dX6_minutesToHighWater_39 : decode cX6_minutesToHighWater 39 = .ok (.sipush 1440, 3) := by decide +kernel
theorem dX6_minutesToHighWater_42 : decode cX6_minutesToHighWater 42 = .ok (.iload_n 2, 1) := by decide +kernel
theorem dX6_minutesToHighWater_43 : decode cX6_minutesToHighWater 43 = .ok (.imul, 1) := by decide +kernel
theorem dX6_minutesToHighWater_44 : decode cX6_minutesToHighWater 44 = .ok (.iload_n 3, 1) := by decide +kernel
theorem dX6_minutesToHighWater_45 : decode cX6_minutesToHighWater 45 = .ok (.iadd, 1) := by decide +kernel
theorem dX6_minutesToHighWater_46 : decode cX6_minutesToHighWater 46 = .ok (.iload 4, 2) := by decide +kernel
theorem dX6_minutesToHighWater_48 : decode cX6_minutesToHighWater 48 = .ok (.iadd, 1) := by decide +kernel
theorem dX6_minutesToHighWater_49 : decode cX6_minutesToHighWater 49 = .ok (.invokevirtual 137, 3) := by decide +kernel
theorem dX6_minutesToHighWater_52 : decode cX6_minutesToHighWater 52 = .ok (.ifCond .eq 9, 3) := by decide +kernel
theorem dX6_minutesToHighWater_55 : decode cX6_minutesToHighWater 55 = .ok (.iinc 4 1, 3) := by decide +kernel
theorem dX6_minutesToHighWater_58 : decode cX6_minutesToHighWater 58 = .ok (.goto (-21), 3) := by decide +kernel
theorem dX6_minutesToHighWater_61 : decode cX6_minutesToHighWater 61 = .ok (.iload 4, 2) := by decide +kernel
theorem dX6_minutesToHighWater_63 : decode cX6_minutesToHighWater 63 = .ok (.ireturn, 1) := by decide +kernel
theorem dX6_correction_0 : decode cX6_correction 0 = .ok (.iconst 0, 1) := by decide +kernel
theorem dX6_correction_1 : decode cX6_correction 1 = .ok (.istore_n 2, 1) := by decide +kernel
theorem dX6_correction_2 : decode cX6_correction 2 = .ok (.iconst 0, 1) := by decide +kernel
theorem dX6_correction_3 : decode cX6_correction 3 = .ok (.istore_n 3, 1) := by decide +kernel
theorem dX6_correction_4 : decode cX6_correction 4 = .ok (.bipush 6, 2) := by decide +kernel
theorem dX6_correction_6 : decode cX6_correction 6 = .ok (.iload_n 1, 1) := by decide +kernel
theorem dX6_correction_7 : decode cX6_correction 7 = .ok (.imul, 1) := by decide +kernel
theorem dX6_correction_8 : decode cX6_correction 8 = .ok (.istore 4, 2) := by decide +kernel
theorem dX6_correction_10 : decode cX6_correction 10 = .ok (.iload 4, 2) := by decide +kernel
theorem dX6_correction_12 : decode cX6_correction 12 = .ok (.bipush 6, 2) := by decide +kernel
theorem dX6_correction_14 : decode cX6_correction 14 = .ok (.iload_n 1, 1) := by decide +kernel
theorem dX6_correction_15 : decode cX6_correction 15 = .ok (.imul, 1) := by decide +kernel
theorem dX6_correction_16 : decode cX6_correction 16 = .ok (.aload_n 0, 1) := by decide +kernel
theorem dX6_correction_17 : decode cX6_correction 17 = .ok (.getfield 28, 3) := by decide +kernel
theorem dX6_correction_20 : decode cX6_correction 20 = .ok (.iload_n 1, 1) := by decide +kernel
theorem dX6_correction_21 : decode cX6_correction 21 = .ok (.iaload, 1) := by decide +kernel
theorem dX6_correction_22 : decode cX6_correction 22 = .ok (.iadd, 1) := by decide +kernel
theorem dX6_correction_23 : decode cX6_correction 23 = .ok (.if_icmp .ge 47, 3) := by decide +kernel
theorem dX6_correction_26 : decode cX6_correction 26 = .ok (.iload_n 2, 1) := by decide +kernel
theorem dX6_correction_27 : decode cX6_correction 27 = .ok (.aload_n 0, 1) := by decide +kernel
theorem dX6_correction_28 : decode cX6_correction 28 = .ok (.getfield 34, 3) := by decide +kernel
theorem dX6_correction_31 : decode cX6_correction 31 = .ok (.iload 4, 2) := by decide +kernel
theorem dX6_correction_33 : decode cX6_correction 33 = .ok (.iaload, 1) := by decide +kernel
theorem dX6_correction_34 : decode cX6_correction 34 = .ok (.aload_n 0, 1) := by decide +kernel
theorem dX6_correction_35 : decode cX6_correction 35 = .ok (.getfield 25, 3) := by decide +kernel
theorem dX6_correction_38 : decode cX6_correction 38 = .ok (.aload_n 0, 1) := by decide +kernel
theorem dX6_correction_39 : decode cX6_correction 39 = .ok (.getfield 31, 3) := by decide +kernel
theorem dX6_correction_42 : decode cX6_correction 42 = .ok (.iload 4, 2) := by decide +kernel
theorem dX6_correction_44 : decode cX6_correction 44 = .ok (.iaload, 1) := by decide +kernel
theorem dX6_correction_45 : decode cX6_correction 45 = .ok (.iaload, 1) := by decide +kernel
theorem dX6_correction_46 : decode cX6_correction 46 = .ok (.imul, 1) := by decide +kernel
theorem dX6_correction_47 : decode cX6_correction 47 = .ok (.iadd, 1) := by decide +kernel
theorem dX6_correction_48 : decode cX6_correction 48 = .ok (.istore_n 2, 1) := by decide +kernel
theorem dX6_correction_49 : decode cX6_correction 49 = .ok (.iload_n 3, 1) := by decide +kernel
theorem dX6_correction_50 : decode cX6_correction 50 = .ok (.aload_n 0, 1) := by decide +kernel
theorem dX6_correction_51 : decode cX6_correction 51 = .ok (.getfield 25, 3) := by decide +kernel
theorem dX6_correction_54 : decode cX6_correction 54 = .ok (.aload_n 0, 1) := by decide +kernel
theorem dX6_correction_55 : decode cX6_correction 55 = .ok (.getfield 31, 3) := by decide +kernel
theorem dX6_correction_58 : decode cX6_correction 58 = .ok (.iload 4, 2) := by decide +kernel
theorem dX6_correction_60 : decode cX6_correction 60 = .ok (.iaload, 1) := by decide +kernel
theorem dX6_correction_61 : decode cX6_correction 61 = .ok (.iaload, 1) := by decide +kernel
theorem dX6_correction_62 : decode cX6_correction 62 = .ok (.iadd, 1) := by decide +kernel
theorem dX6_correction_63 : decode cX6_correction 63 = .ok (.istore_n 3, 1) := by decide +kernel
theorem dX6_correction_64 : decode cX6_correction 64 = .ok (.iinc 4 1, 3) := by decide +kernel
theorem dX6_correction_67 : decode cX6_correction 67 = .ok (.goto (-57), 3) := by decide +kernel
theorem dX6_correction_70 : decode cX6_correction 70 = .ok (.iload_n 3, 1) := by decide +kernel
theorem dX6_correction_71 : decode cX6_correction 71 = .ok (.ifCond .ne 7, 3) := by decide +kernel
theorem dX6_correction_74 : decode cX6_correction 74 = .ok (.iconst 0, 1) := by decide +kernel
theorem dX6_correction_75 : decode cX6_correction 75 = .ok (.goto 6, 3) := by decide +kernel
theorem dX6_correction_78 : decode cX6_correction 78 = .ok (.iload_n 2, 1) := by decide +kernel
theorem dX6_correction_79 : decode cX6_correction 79 = .ok (.iload_n 3, 1) := by decide +kernel
theorem dX6_correction_80 : decode cX6_correction 80 = .ok (.idiv, 1) := by decide +kernel
theorem dX6_correction_81 : decode cX6_correction 81 = .ok (.ireturn, 1) := by decide +kernel
theorem dX6_placeOf_0 : decode cX6_placeOf 0 = .ok (.iconst 0, 1) := by decide +kernel
theorem dX6_placeOf_1 : decode cX6_placeOf 1 = .ok (.istore_n 3, 1) := by decide +kernel
theorem dX6_placeOf_2 : decode cX6_placeOf 2 = .ok (.iload_n 3, 1) := by decide +kernel
theorem dX6_placeOf_3 : decode cX6_placeOf 3 = .ok (.aload_n 0, 1) := by decide +kernel
theorem dX6_placeOf_4 : decode cX6_placeOf 4 = .ok (.getfield 28, 3) := by decide +kernel
theorem dX6_placeOf_7 : decode cX6_placeOf 7 = .ok (.iload_n 2, 1) := by decide +kernel
theorem dX6_placeOf_8 : decode cX6_placeOf 8 = .ok (.iaload, 1) := by decide +kernel
theorem dX6_placeOf_9 : decode cX6_placeOf 9 = .ok (.if_icmp .ge 26, 3) := by decide +kernel
theorem dX6_placeOf_12 : decode cX6_placeOf 12 = .ok (.aload_n 0, 1) := by decide +kernel
theorem dX6_placeOf_13 : decode cX6_placeOf 13 = .ok (.getfield 31, 3) := by decide +kernel
theorem dX6_placeOf_16 : decode cX6_placeOf 16 = .ok (.bipush 6, 2) := by decide +kernel
theorem dX6_placeOf_18 : decode cX6_placeOf 18 = .ok (.iload_n 2, 1) := by decide +kernel
theorem dX6_placeOf_19 : decode cX6_placeOf 19 = .ok (.imul, 1) := by decide +kernel
theorem dX6_placeOf_20 : decode cX6_placeOf 20 = .ok (.iload_n 3, 1) := by decide +kernel
theorem dX6_placeOf_21 : decode cX6_placeOf 21 = .ok (.iadd, 1) := by decide +kernel
theorem dX6_placeOf_22 : decode cX6_placeOf 22 = .ok (.iaload, 1) := by decide +kernel
theorem dX6_placeOf_23 : decode cX6_placeOf 23 = .ok (.iload_n 1, 1) := by decide +kernel
theorem dX6_placeOf_24 : decode cX6_placeOf 24 = .ok (.if_icmp .ne 5, 3) := by decide +kernel
theorem dX6_placeOf_27 : decode cX6_placeOf 27 = .ok (.iload_n 3, 1) := by decide +kernel
theorem dX6_placeOf_28 : decode cX6_placeOf 28 = .ok (.ireturn, 1) := by decide +kernel
theorem dX6_placeOf_29 : decode cX6_placeOf 29 = .ok (.iinc 3 1, 3) := by decide +kernel
theorem dX6_placeOf_32 : decode cX6_placeOf 32 = .ok (.goto (-30), 3) := by decide +kernel
theorem dX6_placeOf_35 : decode cX6_placeOf 35 = .ok (.iconst (-1), 1) := by decide +kernel
theorem dX6_placeOf_36 : decode cX6_placeOf 36 = .ok (.ireturn, 1) := by decide +kernel
theorem dX6_dropReport_0 : decode cX6_dropReport 0 = .ok (.aload_n 0, 1) := by decide +kernel
theorem dX6_dropReport_1 : decode cX6_dropReport 1 = .ok (.getfield 28, 3) := by decide +kernel
theorem dX6_dropReport_4 : decode cX6_dropReport 4 = .ok (.iload_n 1, 1) := by decide +kernel
theorem dX6_dropReport_5 : decode cX6_dropReport 5 = .ok (.dup2, 1) := by decide +kernel
theorem dX6_dropReport_6 : decode cX6_dropReport 6 = .ok (.iaload, 1) := by decide +kernel
theorem dX6_dropReport_7 : decode cX6_dropReport 7 = .ok (.iconst 1, 1) := by decide +kernel
theorem dX6_dropReport_8 : decode cX6_dropReport 8 = .ok (.isub, 1) := by decide +kernel
theorem dX6_dropReport_9 : decode cX6_dropReport 9 = .ok (.iastore, 1) := by decide +kernel
theorem dX6_dropReport_10 : decode cX6_dropReport 10 = .ok (.bipush 6, 2) := by decide +kernel
theorem dX6_dropReport_12 : decode cX6_dropReport 12 = .ok (.iload_n 1, 1) := by decide +kernel
theorem dX6_dropReport_13 : decode cX6_dropReport 13 = .ok (.imul, 1) := by decide +kernel
theorem dX6_dropReport_14 : decode cX6_dropReport 14 = .ok (.iload_n 2, 1) := by decide +kernel
theorem dX6_dropReport_15 : decode cX6_dropReport 15 = .ok (.iadd, 1) := by decide +kernel
theorem dX6_dropReport_16 : decode cX6_dropReport 16 = .ok (.istore_n 3, 1) := by decide +kernel
theorem dX6_dropReport_17 : decode cX6_dropReport 17 = .ok (.iload_n 3, 1) := by decide +kernel
theorem dX6_dropReport_18 : decode cX6_dropReport 18 = .ok (.bipush 6, 2) := by decide +kernel
theorem dX6_dropReport_20 : decode cX6_dropReport 20 = .ok (.iload_n 1, 1) := by decide +kernel
theorem dX6_dropReport_21 : decode cX6_dropReport 21 = .ok (.imul, 1) := by decide +kernel
theorem dX6_dropReport_22 : decode cX6_dropReport 22 = .ok (.aload_n 0, 1) := by decide +kernel
theorem dX6_dropReport_23 : decode cX6_dropReport 23 = .ok (.getfield 28, 3) := by decide +kernel
theorem dX6_dropReport_26 : decode cX6_dropReport 26 = .ok (.iload_n 1, 1) := by decide +kernel
theorem dX6_dropReport_27 : decode cX6_dropReport 27 = .ok (.iaload, 1) := by decide +kernel
theorem dX6_dropReport_28 : decode cX6_dropReport 28 = .ok (.iadd, 1) := by decide +kernel
theorem dX6_dropReport_29 : decode cX6_dropReport 29 = .ok (.if_icmp .ge 51, 3) := by decide +kernel
theorem dX6_dropReport_32 : decode cX6_dropReport 32 = .ok (.aload_n 0, 1) := by decide +kernel
theorem dX6_dropReport_33 : decode cX6_dropReport 33 = .ok (.getfield 31, 3) := by decide +kernel
theorem dX6_dropReport_36 : decode cX6_dropReport 36 = .ok (.iload_n 3, 1) := by decide +kernel
theorem dX6_dropReport_37 : decode cX6_dropReport 37 = .ok (.aload_n 0, 1) := by decide +kernel
theorem dX6_dropReport_38 : decode cX6_dropReport 38 = .ok (.getfield 31, 3) := by decide +kernel
theorem dX6_dropReport_41 : decode cX6_dropReport 41 = .ok (.iload_n 3, 1) := by decide +kernel
theorem dX6_dropReport_42 : decode cX6_dropReport 42 = .ok (.iconst 1, 1) := by decide +kernel
theorem dX6_dropReport_43 : decode cX6_dropReport 43 = .ok (.iadd, 1) := by decide +kernel
theorem dX6_dropReport_44 : decode cX6_dropReport 44 = .ok (.iaload, 1) := by decide +kernel
theorem dX6_dropReport_45 : decode cX6_dropReport 45 = .ok (.iastore, 1) := by decide +kernel
theorem dX6_dropReport_46 : decode cX6_dropReport 46 = .ok (.aload_n 0, 1) := by decide +kernel
theorem dX6_dropReport_47 : decode cX6_dropReport 47 = .ok (.getfield 34, 3) := by decide +kernel
theorem dX6_dropReport_50 : decode cX6_dropReport 50 = .ok (.iload_n 3, 1) := by decide +kernel
theorem dX6_dropReport_51 : decode cX6_dropReport 51 = .ok (.aload_n 0, 1) := by decide +kernel
theorem dX6_dropReport_52 : decode cX6_dropReport 52 = .ok (.getfield 34, 3) := by decide +kernel
theorem dX6_dropReport_55 : decode cX6_dropReport 55 = .ok (.iload_n 3, 1) := by decide +kernel
theorem dX6_dropReport_56 : decode cX6_dropReport 56 = .ok (.iconst 1, 1) := by decide +kernel
theorem dX6_dropReport_57 : decode cX6_dropReport 57 = .ok (.iadd, 1) := by decide +kernel
theorem dX6_dropReport_58 : decode cX6_dropReport 58 = .ok (.iaload, 1) := by decide +kernel
theorem dX6_dropReport_59 : decode cX6_dropReport 59 = .ok (.iastore, 1) := by decide +kernel
theorem dX6_dropReport_60 : decode cX6_dropReport 60 = .ok (.aload_n 0, 1) := by decide +kernel
theorem dX6_dropReport_61 : decode cX6_dropReport 61 = .ok (.getfield 37, 3) := by decide +kernel
theorem dX6_dropReport_64 : decode cX6_dropReport 64 = .ok (.iload_n 3, 1) := by decide +kernel
theorem dX6_dropReport_65 : decode cX6_dropReport 65 = .ok (.aload_n 0, 1) := by decide +kernel
theorem dX6_dropReport_66 : decode cX6_dropReport 66 = .ok (.getfield 37, 3) := by decide +kernel
theorem dX6_dropReport_69 : decode cX6_dropReport 69 = .ok (.iload_n 3, 1) := by decide +kernel
theorem dX6_dropReport_70 : decode cX6_dropReport 70 = .ok (.iconst 1, 1) := by decide +kernel
theorem dX6_dropReport_71 : decode cX6_dropReport 71 = .ok (.iadd, 1) := by decide +kernel
theorem dX6_dropReport_72 : decode cX6_dropReport 72 = .ok (.iaload, 1) := by decide +kernel
theorem dX6_dropReport_73 : decode cX6_dropReport 73 = .ok (.iastore, 1) := by decide +kernel
theorem dX6_dropReport_74 : decode cX6_dropReport 74 = .ok (.iinc 3 1, 3) := by decide +kernel
theorem dX6_dropReport_77 : decode cX6_dropReport 77 = .ok (.goto (-60), 3) := by decide +kernel
theorem dX6_dropReport_80 : decode cX6_dropReport 80 = .ok (.return_, 1) := by decide +kernel
theorem dX6_isPair_0 : decode cX6_isPair 0 = .ok (.aload_n 0, 1) := by decide +kernel
theorem dX6_isPair_1 : decode cX6_isPair 1 = .ok (.iload_n 1, 1) := by decide +kernel
theorem dX6_isPair_2 : decode cX6_isPair 2 = .ok (.iconst 0, 1) := by decide +kernel
theorem dX6_isPair_3 : decode cX6_isPair 3 = .ok (.iconst 5, 1) := by decide +kernel
theorem dX6_isPair_4 : decode cX6_isPair 4 = .ok (.invokestatic 89, 3) := by decide +kernel
theorem dX6_isPair_7 : decode cX6_isPair 7 = .ok (.ifCond .eq 21, 3) := by decide +kernel
theorem dX6_isPair_10 : decode cX6_isPair 10 = .ok (.iload_n 2, 1) := by decide +kernel
theorem dX6_isPair_11 : decode cX6_isPair 11 = .ok (.iconst 0, 1) := by decide +kernel
theorem dX6_isPair_12 : decode cX6_isPair 12 = .ok (.aload_n 0, 1) := by decide +kernel
theorem dX6_isPair_13 : decode cX6_isPair 13 = .ok (.getfield 86, 3) := by decide +kernel
theorem dX6_isPair_16 : decode cX6_isPair 16 = .ok (.iconst 1, 1) := by decide +kernel
theorem dX6_isPair_17 : decode cX6_isPair 17 = .ok (.isub, 1) := by decide +kernel
theorem dX6_isPair_18 : decode cX6_isPair 18 = .ok (.invokestatic 89, 3) := by decide +kernel
theorem dX6_isPair_21 : decode cX6_isPair 21 = .ok (.ifCond .eq 7, 3) := by decide +kernel
theorem dX6_isPair_24 : decode cX6_isPair 24 = .ok (.iconst 1, 1) := by decide +kernel
theorem dX6_isPair_25 : decode cX6_isPair 25 = .ok (.goto 4, 3) := by decide +kernel
theorem dX6_isPair_28 : decode cX6_isPair 28 = .ok (.iconst 0, 1) := by decide +kernel
theorem dX6_isPair_29 : decode cX6_isPair 29 = .ok (.iconst 1, 1) := by decide +kernel
theorem dX6_isPair_30 : decode cX6_isPair 30 = .ok (.invokevirtual 93, 3) := by decide +kernel
theorem dX6_isPair_33 : decode cX6_isPair 33 = .ok (.ireturn, 1) := by decide +kernel
theorem dX6_report_0 : decode cX6_report 0 = .ok (.aload_n 0, 1) := by decide +kernel
theorem dX6_report_1 : decode cX6_report 1 = .ok (.iload_n 1, 1) := by decide +kernel
theorem dX6_report_2 : decode cX6_report 2 = .ok (.iload_n 2, 1) := by decide +kernel
theorem dX6_report_3 : decode cX6_report 3 = .ok (.invokevirtual 150, 3) := by decide +kernel
theorem dX6_report_6 : decode cX6_report 6 = .ok (.ifCond .ne 5, 3) := by decide +kernel
theorem dX6_report_9 : decode cX6_report 9 = .ok (.iconst 0, 1) := by decide +kernel
theorem dX6_report_10 : decode cX6_report 10 = .ok (.ireturn, 1) := by decide +kernel
theorem dX6_report_11 : decode cX6_report 11 = .ok (.iload_n 3, 1) := by decide +kernel
theorem dX6_report_12 : decode cX6_report 12 = .ok (.bipush (-60), 2) := by decide +kernel
theorem dX6_report_14 : decode cX6_report 14 = .ok (.bipush 60, 2) := by decide +kernel
theorem dX6_report_16 : decode cX6_report 16 = .ok (.invokestatic 89, 3) := by decide +kernel
theorem dX6_report_19 : decode cX6_report 19 = .ok (.ifCond .ne 9, 3) := by decide +kernel
theorem dX6_report_22 : decode cX6_report 22 = .ok (.aload_n 0, 1) := by decide +kernel
theorem dX6_report_23 : decode cX6_report 23 = .ok (.iconst 2, 1) := by decide +kernel
theorem dX6_report_24 : decode cX6_report 24 = .ok (.invokevirtual 98, 3) := by decide +kernel
theorem dX6_report_27 : decode cX6_report 27 = .ok (.ireturn, 1) := by decide +kernel
theorem dX6_report_28 : decode cX6_report 28 = .ok (.aload_n 0, 1) := by decide +kernel
theorem dX6_report_29 : decode cX6_report 29 = .ok (.iload_n 1, 1) := by decide +kernel
theorem dX6_report_30 : decode cX6_report 30 = .ok (.iload_n 2, 1) := by decide +kernel
theorem dX6_report_31 : decode cX6_report 31 = .ok (.invokevirtual 154, 3) := by decide +kernel
theorem dX6_report_34 : decode cX6_report 34 = .ok (.istore 4, 2) := by decide +kernel
theorem dX6_report_36 : decode cX6_report 36 = .ok (.iload 4, 2) := by decide +kernel
theorem dX6_report_38 : decode cX6_report 38 = .ok (.iconst (-1), 1) := by decide +kernel
theorem dX6_report_39 : decode cX6_report 39 = .ok (.if_icmp .ne 21, 3) := by decide +kernel
theorem dX6_report_42 : decode cX6_report 42 = .ok (.aload_n 0, 1) := by decide +kernel
theorem dX6_report_43 : decode cX6_report 43 = .ok (.getfield 28, 3) := by decide +kernel
theorem dX6_report_46 : decode cX6_report 46 = .ok (.iload_n 2, 1) := by decide +kernel
theorem dX6_report_47 : decode cX6_report 47 = .ok (.iaload, 1) := by decide +kernel
theorem dX6_report_48 : decode cX6_report 48 = .ok (.istore 4, 2) := by decide +kernel
theorem dX6_report_50 : decode cX6_report 50 = .ok (.aload_n 0, 1) := by decide +kernel
theorem dX6_report_51 : decode cX6_report 51 = .ok (.getfield 28, 3) := by decide +kernel
theorem dX6_report_54 : decode cX6_report 54 = .ok (.iload_n 2, 1) := by decide +kernel
theorem dX6_report_55 : decode cX6_report 55 = .ok (.dup2, 1) := by decide +kernel
theorem dX6_report_56 : decode cX6_report 56 = .ok (.iaload, 1) := by decide +kernel
theorem dX6_report_57 : decode cX6_report 57 = .ok (.iconst 1, 1) := by decide +kernel
theorem dX6_report_58 : decode cX6_report 58 = .ok (.iadd, 1) := by decide +kernel
theorem dX6_report_59 : decode cX6_report 59 = .ok (.iastore, 1) := by decide +kernel
theorem dX6_report_60 : decode cX6_report 60 = .ok (.aload_n 0, 1) := by decide +kernel
theorem dX6_report_61 : decode cX6_report 61 = .ok (.getfield 31, 3) := by decide +kernel
theorem dX6_report_64 : decode cX6_report 64 = .ok (.bipush 6, 2) := by decide +kernel
theorem dX6_report_66 : decode cX6_report 66 = .ok (.iload_n 2, 1) := by decide +kernel
theorem dX6_report_67 : decode cX6_report 67 = .ok (.imul, 1) := by decide +kernel
theorem dX6_report_68 : decode cX6_report 68 = .ok (.iload 4, 2) := by decide +kernel
theorem dX6_report_70 : decode cX6_report 70 = .ok (.iadd, 1) := by decide +kernel
theorem dX6_report_71 : decode cX6_report 71 = .ok (.iload_n 1, 1) := by decide +kernel
theorem dX6_report_72 : decode cX6_report 72 = .ok (.iastore, 1) := by decide +kernel
theorem dX6_report_73 : decode cX6_report 73 = .ok (.aload_n 0, 1) := by decide +kernel
theorem dX6_report_74 : decode cX6_report 74 = .ok (.getfield 34, 3) := by decide +kernel
theorem dX6_report_77 : decode cX6_report 77 = .ok (.bipush 6, 2) := by decide +kernel
theorem dX6_report_79 : decode cX6_report 79 = .ok (.iload_n 2, 1) := by decide +kernel
theorem dX6_report_80 : decode cX6_report 80 = .ok (.imul, 1) := by decide +kernel
theorem dX6_report_81 : decode cX6_report 81 = .ok (.iload 4, 2) := by decide +kernel
theorem dX6_report_83 : decode cX6_report 83 = .ok (.iadd, 1) := by decide +kernel
theorem dX6_report_84 : decode cX6_report 84 = .ok (.iload_n 3, 1) := by decide +kernel
theorem dX6_report_85 : decode cX6_report 85 = .ok (.iastore, 1) := by decide +kernel
theorem dX6_report_86 : decode cX6_report 86 = .ok (.aload_n 0, 1) := by decide +kernel
theorem dX6_report_87 : decode cX6_report 87 = .ok (.getfield 37, 3) := by decide +kernel
theorem dX6_report_90 : decode cX6_report 90 = .ok (.bipush 6, 2) := by decide +kernel
theorem dX6_report_92 : decode cX6_report 92 = .ok (.iload_n 2, 1) := by decide +kernel
theorem dX6_report_93 : decode cX6_report 93 = .ok (.imul, 1) := by decide +kernel
theorem dX6_report_94 : decode cX6_report 94 = .ok (.iload 4, 2) := by decide +kernel
theorem dX6_report_96 : decode cX6_report 96 = .ok (.iadd, 1) := by decide +kernel
theorem dX6_report_97 : decode cX6_report 97 = .ok (.iconst 0, 1) := by decide +kernel
theorem dX6_report_98 : decode cX6_report 98 = .ok (.iastore, 1) := by decide +kernel
theorem dX6_report_99 : decode cX6_report 99 = .ok (.aload_n 0, 1) := by decide +kernel
theorem dX6_report_100 : decode cX6_report 100 = .ok (.iload_n 2, 1) := by decide +kernel
theorem dX6_report_101 : decode cX6_report 101 = .ok (.invokevirtual 131, 3) := by decide +kernel
theorem dX6_report_104 : decode cX6_report 104 = .ok (.ireturn, 1) := by decide +kernel
theorem dX6_observe_0 : decode cX6_observe 0 = .ok (.aload_n 0, 1) := by decide +kernel
theorem dX6_observe_1 : decode cX6_observe 1 = .ok (.iload_n 1, 1) := by decide +kernel
end
section
theorem dX6_observe_2 : decode cX6_observe 2 = .ok (.invokevirtual 125, 3) := by decide +kernel
theorem dX6_observe_5 : decode cX6_observe 5 = .ok (.ifCond .ne 5, 3) := by decide +kernel
theorem dX6_observe_8 : decode cX6_observe 8 = .ok (.iconst 0, 1) := by decide +kernel
theorem dX6_observe_9 : decode cX6_observe 9 = .ok (.ireturn, 1) := by decide +kernel
theorem dX6_observe_10 : decode cX6_observe 10 = .ok (.iload_n 2, 1) := by decide +kernel
theorem dX6_observe_11 : decode cX6_observe 11 = .ok (.bipush (-60), 2) := by decide +kernel
theorem dX6_observe_13 : decode cX6_observe 13 = .ok (.bipush 60, 2) := by decide +kernel
theorem dX6_observe_15 : decode cX6_observe 15 = .ok (.invokestatic 89, 3) := by decide +kernel
theorem dX6_observe_18 : decode cX6_observe 18 = .ok (.ifCond .ne 9, 3) := by decide +kernel
theorem dX6_observe_21 : decode cX6_observe 21 = .ok (.aload_n 0, 1) := by decide +kernel
theorem dX6_observe_22 : decode cX6_observe 22 = .ok (.iconst 2, 1) := by decide +kernel
theorem dX6_observe_23 : decode cX6_observe 23 = .ok (.invokevirtual 98, 3) := by decide +kernel
theorem dX6_observe_26 : decode cX6_observe 26 = .ok (.ireturn, 1) := by decide +kernel
theorem dX6_observe_27 : decode cX6_observe 27 = .ok (.iconst 0, 1) := by decide +kernel
theorem dX6_observe_28 : decode cX6_observe 28 = .ok (.istore_n 3, 1) := by decide +kernel
theorem dX6_observe_29 : decode cX6_observe 29 = .ok (.aload_n 0, 1) := by decide +kernel
theorem dX6_observe_30 : decode cX6_observe 30 = .ok (.getfield 28, 3) := by decide +kernel
theorem dX6_observe_33 : decode cX6_observe 33 = .ok (.iload_n 1, 1) := by decide +kernel
theorem dX6_observe_34 : decode cX6_observe 34 = .ok (.iaload, 1) := by decide +kernel
theorem dX6_observe_35 : decode cX6_observe 35 = .ok (.iconst 1, 1) := by decide +kernel
theorem dX6_observe_36 : decode cX6_observe 36 = .ok (.isub, 1) := by decide +kernel
theorem dX6_observe_37 : decode cX6_observe 37 = .ok (.istore 4, 2) := by decide +kernel
theorem dX6_observe_39 : decode cX6_observe 39 = .ok (.iload 4, 2) := by decide +kernel
theorem dX6_observe_41 : decode cX6_observe 41 = .ok (.ifCond .lt 102, 3) := by decide +kernel
theorem dX6_observe_44 : decode cX6_observe 44 = .ok (.aload_n 0, 1) := by decide +kernel
theorem dX6_observe_45 : decode cX6_observe 45 = .ok (.getfield 34, 3) := by decide +kernel
theorem dX6_observe_48 : decode cX6_observe 48 = .ok (.bipush 6, 2) := by decide +kernel
theorem dX6_observe_50 : decode cX6_observe 50 = .ok (.iload_n 1, 1) := by decide +kernel
theorem dX6_observe_51 : decode cX6_observe 51 = .ok (.imul, 1) := by decide +kernel
theorem dX6_observe_52 : decode cX6_observe 52 = .ok (.iload 4, 2) := by decide +kernel
theorem dX6_observe_54 : decode cX6_observe 54 = .ok (.iadd, 1) := by decide +kernel
theorem dX6_observe_55 : decode cX6_observe 55 = .ok (.iaload, 1) := by decide +kernel
theorem dX6_observe_56 : decode cX6_observe 56 = .ok (.iload_n 2, 1) := by decide +kernel
theorem dX6_observe_57 : decode cX6_observe 57 = .ok (.isub, 1) := by decide +kernel
theorem dX6_observe_58 : decode cX6_observe 58 = .ok (.invokestatic 157, 3) := by decide +kernel
theorem dX6_observe_61 : decode cX6_observe 61 = .ok (.istore 5, 2) := by decide +kernel
theorem dX6_observe_63 : decode cX6_observe 63 = .ok (.aload_n 0, 1) := by decide +kernel
theorem dX6_observe_64 : decode cX6_observe 64 = .ok (.getfield 31, 3) := by decide +kernel
theorem dX6_observe_67 : decode cX6_observe 67 = .ok (.bipush 6, 2) := by decide +kernel
theorem dX6_observe_69 : decode cX6_observe 69 = .ok (.iload_n 1, 1) := by decide +kernel
theorem dX6_observe_70 : decode cX6_observe 70 = .ok (.imul, 1) := by decide +kernel
theorem dX6_observe_71 : decode cX6_observe 71 = .ok (.iload 4, 2) := by decide +kernel
theorem dX6_observe_73 : decode cX6_observe 73 = .ok (.iadd, 1) := by decide +kernel
theorem dX6_observe_74 : decode cX6_observe 74 = .ok (.iaload, 1) := by decide +kernel
theorem dX6_observe_75 : decode cX6_observe 75 = .ok (.istore 6, 2) := by decide +kernel
theorem dX6_observe_77 : decode cX6_observe 77 = .ok (.aload_n 0, 1) := by decide +kernel
theorem dX6_observe_78 : decode cX6_observe 78 = .ok (.getfield 25, 3) := by decide +kernel
theorem dX6_observe_81 : decode cX6_observe 81 = .ok (.iload 6, 2) := by decide +kernel
theorem dX6_observe_83 : decode cX6_observe 83 = .ok (.iload 5, 2) := by decide +kernel
theorem dX6_observe_85 : decode cX6_observe 85 = .ok (.iconst 5, 1) := by decide +kernel
theorem dX6_observe_86 : decode cX6_observe 86 = .ok (.if_icmp .gt 20, 3) := by decide +kernel
theorem dX6_observe_89 : decode cX6_observe 89 = .ok (.bipush 9, 2) := by decide +kernel
theorem dX6_observe_91 : decode cX6_observe 91 = .ok (.aload_n 0, 1) := by decide +kernel
theorem dX6_observe_92 : decode cX6_observe 92 = .ok (.getfield 25, 3) := by decide +kernel
theorem dX6_observe_95 : decode cX6_observe 95 = .ok (.iload 6, 2) := by decide +kernel
theorem dX6_observe_97 : decode cX6_observe 97 = .ok (.iaload, 1) := by decide +kernel
theorem dX6_observe_98 : decode cX6_observe 98 = .ok (.iconst 1, 1) := by decide +kernel
theorem dX6_observe_99 : decode cX6_observe 99 = .ok (.iadd, 1) := by decide +kernel
theorem dX6_observe_100 : decode cX6_observe 100 = .ok (.invokestatic 115, 3) := by decide +kernel
theorem dX6_observe_103 : decode cX6_observe 103 = .ok (.goto 16, 3) := by decide +kernel
theorem dX6_observe_106 : decode cX6_observe 106 = .ok (.iconst 1, 1) := by decide +kernel
theorem dX6_observe_107 : decode cX6_observe 107 = .ok (.aload_n 0, 1) := by decide +kernel
theorem dX6_observe_108 : decode cX6_observe 108 = .ok (.getfield 25, 3) := by decide +kernel
theorem dX6_observe_111 : decode cX6_observe 111 = .ok (.iload 6, 2) := by decide +kernel
theorem dX6_observe_113 : decode cX6_observe 113 = .ok (.iaload, 1) := by decide +kernel
theorem dX6_observe_114 : decode cX6_observe 114 = .ok (.iconst 1, 1) := by decide +kernel
theorem dX6_observe_115 : decode cX6_observe 115 = .ok (.isub, 1) := by decide +kernel
theorem dX6_observe_116 : decode cX6_observe 116 = .ok (.invokestatic 160, 3) := by decide +kernel
theorem dX6_observe_119 : decode cX6_observe 119 = .ok (.iastore, 1) := by decide +kernel
theorem dX6_observe_120 : decode cX6_observe 120 = .ok (.iload 5, 2) := by decide +kernel
theorem dX6_observe_122 : decode cX6_observe 122 = .ok (.bipush 30, 2) := by decide +kernel
theorem dX6_observe_124 : decode cX6_observe 124 = .ok (.if_icmp .le 13, 3) := by decide +kernel
theorem dX6_observe_127 : decode cX6_observe 127 = .ok (.aload_n 0, 1) := by decide +kernel
theorem dX6_observe_128 : decode cX6_observe 128 = .ok (.iload_n 1, 1) := by decide +kernel
theorem dX6_observe_129 : decode cX6_observe 129 = .ok (.iload 4, 2) := by decide +kernel
theorem dX6_observe_131 : decode cX6_observe 131 = .ok (.invokevirtual 105, 3) := by decide +kernel
theorem dX6_observe_134 : decode cX6_observe 134 = .ok (.iinc 3 1, 3) := by decide +kernel
theorem dX6_observe_137 : decode cX6_observe 137 = .ok (.iinc 4 (-1), 3) := by decide +kernel
theorem dX6_observe_140 : decode cX6_observe 140 = .ok (.goto (-101), 3) := by decide +kernel
theorem dX6_observe_143 : decode cX6_observe 143 = .ok (.iload_n 3, 1) := by decide +kernel
theorem dX6_observe_144 : decode cX6_observe 144 = .ok (.ireturn, 1) := by decide +kernel
theorem dX6_correctionOf_0 : decode cX6_correctionOf 0 = .ok (.aload_n 0, 1) := by decide +kernel
theorem dX6_correctionOf_1 : decode cX6_correctionOf 1 = .ok (.iload_n 1, 1) := by decide +kernel
theorem dX6_correctionOf_2 : decode cX6_correctionOf 2 = .ok (.invokevirtual 125, 3) := by decide +kernel
theorem dX6_correctionOf_5 : decode cX6_correctionOf 5 = .ok (.ifCond .eq 11, 3) := by decide +kernel
theorem dX6_correctionOf_8 : decode cX6_correctionOf 8 = .ok (.aload_n 0, 1) := by decide +kernel
theorem dX6_correctionOf_9 : decode cX6_correctionOf 9 = .ok (.iload_n 1, 1) := by decide +kernel
theorem dX6_correctionOf_10 : decode cX6_correctionOf 10 = .ok (.invokevirtual 131, 3) := by decide +kernel
theorem dX6_correctionOf_13 : decode cX6_correctionOf 13 = .ok (.goto 4, 3) := by decide +kernel
theorem dX6_correctionOf_16 : decode cX6_correctionOf 16 = .ok (.iconst 0, 1) := by decide +kernel
theorem dX6_correctionOf_17 : decode cX6_correctionOf 17 = .ok (.ireturn, 1) := by decide +kernel
theorem dX6_trustOf_0 : decode cX6_trustOf 0 = .ok (.aload_n 0, 1) := by decide +kernel
theorem dX6_trustOf_1 : decode cX6_trustOf 1 = .ok (.iload_n 1, 1) := by decide +kernel
theorem dX6_trustOf_2 : decode cX6_trustOf 2 = .ok (.iconst 0, 1) := by decide +kernel
theorem dX6_trustOf_3 : decode cX6_trustOf 3 = .ok (.iconst 5, 1) := by decide +kernel
theorem dX6_trustOf_4 : decode cX6_trustOf 4 = .ok (.invokestatic 89, 3) := by decide +kernel
theorem dX6_trustOf_7 : decode cX6_trustOf 7 = .ok (.iconst 1, 1) := by decide +kernel
theorem dX6_trustOf_8 : decode cX6_trustOf 8 = .ok (.invokevirtual 93, 3) := by decide +kernel
theorem dX6_trustOf_11 : decode cX6_trustOf 11 = .ok (.ifCond .eq 12, 3) := by decide +kernel
theorem dX6_trustOf_14 : decode cX6_trustOf 14 = .ok (.aload_n 0, 1) := by decide +kernel
theorem dX6_trustOf_15 : decode cX6_trustOf 15 = .ok (.getfield 25, 3) := by decide +kernel
theorem dX6_trustOf_18 : decode cX6_trustOf 18 = .ok (.iload_n 1, 1) := by decide +kernel
theorem dX6_trustOf_19 : decode cX6_trustOf 19 = .ok (.iaload, 1) := by decide +kernel
theorem dX6_trustOf_20 : decode cX6_trustOf 20 = .ok (.goto 4, 3) := by decide +kernel
theorem dX6_trustOf_23 : decode cX6_trustOf 23 = .ok (.iconst 0, 1) := by decide +kernel
theorem dX6_trustOf_24 : decode cX6_trustOf 24 = .ok (.ireturn, 1) := by decide +kernel
theorem dX6_reportCount_0 : decode cX6_reportCount 0 = .ok (.aload_n 0, 1) := by decide +kernel
theorem dX6_reportCount_1 : decode cX6_reportCount 1 = .ok (.iload_n 1, 1) := by decide +kernel
theorem dX6_reportCount_2 : decode cX6_reportCount 2 = .ok (.invokevirtual 125, 3) := by decide +kernel
theorem dX6_reportCount_5 : decode cX6_reportCount 5 = .ok (.ifCond .eq 12, 3) := by decide +kernel
theorem dX6_reportCount_8 : decode cX6_reportCount 8 = .ok (.aload_n 0, 1) := by decide +kernel
theorem dX6_reportCount_9 : decode cX6_reportCount 9 = .ok (.getfield 28, 3) := by decide +kernel
theorem dX6_reportCount_12 : decode cX6_reportCount 12 = .ok (.iload_n 1, 1) := by decide +kernel
theorem dX6_reportCount_13 : decode cX6_reportCount 13 = .ok (.iaload, 1) := by decide +kernel
theorem dX6_reportCount_14 : decode cX6_reportCount 14 = .ok (.goto 4, 3) := by decide +kernel
theorem dX6_reportCount_17 : decode cX6_reportCount 17 = .ok (.iconst 0, 1) := by decide +kernel
theorem dX6_reportCount_18 : decode cX6_reportCount 18 = .ok (.ireturn, 1) := by decide +kernel
theorem dX6_reporterAt_0 : decode cX6_reporterAt 0 = .ok (.aload_n 0, 1) := by decide +kernel
theorem dX6_reporterAt_1 : decode cX6_reporterAt 1 = .ok (.iload_n 1, 1) := by decide +kernel
theorem dX6_reporterAt_2 : decode cX6_reporterAt 2 = .ok (.invokevirtual 125, 3) := by decide +kernel
theorem dX6_reporterAt_5 : decode cX6_reporterAt 5 = .ok (.ifCond .ne 5, 3) := by decide +kernel
theorem dX6_reporterAt_8 : decode cX6_reporterAt 8 = .ok (.iconst 0, 1) := by decide +kernel
theorem dX6_reporterAt_9 : decode cX6_reporterAt 9 = .ok (.ireturn, 1) := by decide +kernel
theorem dX6_reporterAt_10 : decode cX6_reporterAt 10 = .ok (.iload_n 2, 1) := by decide +kernel
theorem dX6_reporterAt_11 : decode cX6_reporterAt 11 = .ok (.iconst 0, 1) := by decide +kernel
theorem dX6_reporterAt_12 : decode cX6_reporterAt 12 = .ok (.aload_n 0, 1) := by decide +kernel
theorem dX6_reporterAt_13 : decode cX6_reporterAt 13 = .ok (.getfield 28, 3) := by decide +kernel
theorem dX6_reporterAt_16 : decode cX6_reporterAt 16 = .ok (.iload_n 1, 1) := by decide +kernel
theorem dX6_reporterAt_17 : decode cX6_reporterAt 17 = .ok (.iaload, 1) := by decide +kernel
theorem dX6_reporterAt_18 : decode cX6_reporterAt 18 = .ok (.iconst 1, 1) := by decide +kernel
theorem dX6_reporterAt_19 : decode cX6_reporterAt 19 = .ok (.isub, 1) := by decide +kernel
theorem dX6_reporterAt_20 : decode cX6_reporterAt 20 = .ok (.invokestatic 89, 3) := by decide +kernel
theorem dX6_reporterAt_23 : decode cX6_reporterAt 23 = .ok (.ifCond .eq 17, 3) := by decide +kernel
theorem dX6_reporterAt_26 : decode cX6_reporterAt 26 = .ok (.aload_n 0, 1) := by decide +kernel
theorem dX6_reporterAt_27 : decode cX6_reporterAt 27 = .ok (.getfield 31, 3) := by decide +kernel
theorem dX6_reporterAt_30 : decode cX6_reporterAt 30 = .ok (.bipush 6, 2) := by decide +kernel
theorem dX6_reporterAt_32 : decode cX6_reporterAt 32 = .ok (.iload_n 1, 1) := by decide +kernel
theorem dX6_reporterAt_33 : decode cX6_reporterAt 33 = .ok (.imul, 1) := by decide +kernel
theorem dX6_reporterAt_34 : decode cX6_reporterAt 34 = .ok (.iload_n 2, 1) := by decide +kernel
theorem dX6_reporterAt_35 : decode cX6_reporterAt 35 = .ok (.iadd, 1) := by decide +kernel
theorem dX6_reporterAt_36 : decode cX6_reporterAt 36 = .ok (.iaload, 1) := by decide +kernel
theorem dX6_reporterAt_37 : decode cX6_reporterAt 37 = .ok (.goto 8, 3) := by decide +kernel
theorem dX6_reporterAt_40 : decode cX6_reporterAt 40 = .ok (.aload_n 0, 1) := by decide +kernel
theorem dX6_reporterAt_41 : decode cX6_reporterAt 41 = .ok (.iconst 2, 1) := by decide +kernel
theorem dX6_reporterAt_42 : decode cX6_reporterAt 42 = .ok (.invokevirtual 98, 3) := by decide +kernel
theorem dX6_reporterAt_45 : decode cX6_reporterAt 45 = .ok (.ireturn, 1) := by decide +kernel
theorem dX6_ofReport_0 : decode cX6_ofReport 0 = .ok (.aload_n 0, 1) := by decide +kernel
theorem dX6_ofReport_1 : decode cX6_ofReport 1 = .ok (.iload_n 2, 1) := by decide +kernel
theorem dX6_ofReport_2 : decode cX6_ofReport 2 = .ok (.iload_n 3, 1) := by decide +kernel
theorem dX6_ofReport_3 : decode cX6_ofReport 3 = .ok (.invokevirtual 150, 3) := by decide +kernel
theorem dX6_ofReport_6 : decode cX6_ofReport 6 = .ok (.ifCond .ne 5, 3) := by decide +kernel
theorem dX6_ofReport_9 : decode cX6_ofReport 9 = .ok (.iconst 0, 1) := by decide +kernel
theorem dX6_ofReport_10 : decode cX6_ofReport 10 = .ok (.ireturn, 1) := by decide +kernel
theorem dX6_ofReport_11 : decode cX6_ofReport 11 = .ok (.aload_n 0, 1) := by decide +kernel
theorem dX6_ofReport_12 : decode cX6_ofReport 12 = .ok (.iload_n 2, 1) := by decide +kernel
theorem dX6_ofReport_13 : decode cX6_ofReport 13 = .ok (.iload_n 3, 1) := by decide +kernel
theorem dX6_ofReport_14 : decode cX6_ofReport 14 = .ok (.invokevirtual 154, 3) := by decide +kernel
theorem dX6_ofReport_17 : decode cX6_ofReport 17 = .ok (.istore 4, 2) := by decide +kernel
theorem dX6_ofReport_19 : decode cX6_ofReport 19 = .ok (.iload 4, 2) := by decide +kernel
theorem dX6_ofReport_21 : decode cX6_ofReport 21 = .ok (.iconst (-1), 1) := by decide +kernel
theorem dX6_ofReport_22 : decode cX6_ofReport 22 = .ok (.if_icmp .ne 11, 3) := by decide +kernel
theorem dX6_ofReport_25 : decode cX6_ofReport 25 = .ok (.aload_n 0, 1) := by decide +kernel
theorem dX6_ofReport_26 : decode cX6_ofReport 26 = .ok (.iconst 2, 1) := by decide +kernel
theorem dX6_ofReport_27 : decode cX6_ofReport 27 = .ok (.invokevirtual 98, 3) := by decide +kernel
theorem dX6_ofReport_30 : decode cX6_ofReport 30 = .ok (.goto 12, 3) := by decide +kernel
theorem dX6_ofReport_33 : decode cX6_ofReport 33 = .ok (.aload_n 1, 1) := by decide +kernel
theorem dX6_ofReport_34 : decode cX6_ofReport 34 = .ok (.bipush 6, 2) := by decide +kernel
theorem dX6_ofReport_36 : decode cX6_ofReport 36 = .ok (.iload_n 3, 1) := by decide +kernel
theorem dX6_ofReport_37 : decode cX6_ofReport 37 = .ok (.imul, 1) := by decide +kernel
theorem dX6_ofReport_38 : decode cX6_ofReport 38 = .ok (.iload 4, 2) := by decide +kernel
theorem dX6_ofReport_40 : decode cX6_ofReport 40 = .ok (.iadd, 1) := by decide +kernel
theorem dX6_ofReport_41 : decode cX6_ofReport 41 = .ok (.iaload, 1) := by decide +kernel
theorem dX6_ofReport_42 : decode cX6_ofReport 42 = .ok (.ireturn, 1) := by decide +kernel
theorem dX6_reportedMinutes_0 : decode cX6_reportedMinutes 0 = .ok (.aload_n 0, 1) := by decide +kernel
theorem dX6_reportedMinutes_1 : decode cX6_reportedMinutes 1 = .ok (.aload_n 0, 1) := by decide +kernel
theorem dX6_reportedMinutes_2 : decode cX6_reportedMinutes 2 = .ok (.getfield 34, 3) := by decide +kernel
theorem dX6_reportedMinutes_5 : decode cX6_reportedMinutes 5 = .ok (.iload_n 1, 1) := by decide +kernel
theorem dX6_reportedMinutes_6 : decode cX6_reportedMinutes 6 = .ok (.iload_n 2, 1) := by decide +kernel
theorem dX6_reportedMinutes_7 : decode cX6_reportedMinutes 7 = .ok (.invokevirtual 163, 3) := by decide +kernel
theorem dX6_reportedMinutes_10 : decode cX6_reportedMinutes 10 = .ok (.ireturn, 1) := by decide +kernel
theorem dX6_reportAge_0 : decode cX6_reportAge 0 = .ok (.aload_n 0, 1) := by decide +kernel
theorem dX6_reportAge_1 : decode cX6_reportAge 1 = .ok (.aload_n 0, 1) := by decide +kernel
theorem dX6_reportAge_2 : decode cX6_reportAge 2 = .ok (.getfield 37, 3) := by decide +kernel
theorem dX6_reportAge_5 : decode cX6_reportAge 5 = .ok (.iload_n 1, 1) := by decide +kernel
theorem dX6_reportAge_6 : decode cX6_reportAge 6 = .ok (.iload_n 2, 1) := by decide +kernel
theorem dX6_reportAge_7 : decode cX6_reportAge 7 = .ok (.invokevirtual 163, 3) := by decide +kernel
theorem dX6_reportAge_10 : decode cX6_reportAge 10 = .ok (.ireturn, 1) := by decide +kernel
theorem dX6_isColour_0 : decode cX6_isColour 0 = .ok (.aload_n 0, 1) := by decide +kernel
theorem dX6_isColour_1 : decode cX6_isColour 1 = .ok (.iload_n 1, 1) := by decide +kernel
theorem dX6_isColour_2 : decode cX6_isColour 2 = .ok (.ifCond .eq 8, 3) := by decide +kernel
theorem dX6_isColour_5 : decode cX6_isColour 5 = .ok (.iload_n 1, 1) := by decide +kernel
theorem dX6_isColour_6 : decode cX6_isColour 6 = .ok (.iconst 1, 1) := by decide +kernel
theorem dX6_isColour_7 : decode cX6_isColour 7 = .ok (.if_icmp .ne 7, 3) := by decide +kernel
theorem dX6_isColour_10 : decode cX6_isColour 10 = .ok (.iconst 1, 1) := by decide +kernel
theorem dX6_isColour_11 : decode cX6_isColour 11 = .ok (.goto 4, 3) := by decide +kernel
theorem dX6_isColour_14 : decode cX6_isColour 14 = .ok (.iconst 0, 1) := by decide +kernel
theorem dX6_isColour_15 : decode cX6_isColour 15 = .ok (.iconst 1, 1) := by decide +kernel
theorem dX6_isColour_16 : decode cX6_isColour 16 = .ok (.invokevirtual 93, 3) := by decide +kernel
theorem dX6_isColour_19 : decode cX6_isColour 19 = .ok (.ireturn, 1) := by decide +kernel
theorem dX6_deliverTin_0 : decode cX6_deliverTin 0 = .ok (.aload_n 0, 1) := by decide +kernel
theorem dX6_deliverTin_1 : decode cX6_deliverTin 1 = .ok (.iload_n 1, 1) := by decide +kernel
theorem dX6_deliverTin_2 : decode cX6_deliverTin 2 = .ok (.ifCond .eq 8, 3) := by decide +kernel
theorem dX6_deliverTin_5 : decode cX6_deliverTin 5 = .ok (.iload_n 1, 1) := by decide +kernel
theorem dX6_deliverTin_6 : decode cX6_deliverTin 6 = .ok (.iconst 1, 1) := by decide +kernel
theorem dX6_deliverTin_7 : decode cX6_deliverTin 7 = .ok (.if_icmp .ne 18, 3) := by decide +kernel
theorem dX6_deliverTin_10 : decode cX6_deliverTin 10 = .ok (.iload_n 2, 1) := by decide +kernel
theorem dX6_deliverTin_11 : decode cX6_deliverTin 11 = .ok (.iconst 1, 1) := by decide +kernel
theorem dX6_deliverTin_12 : decode cX6_deliverTin 12 = .ok (.sipush 999, 3) := by decide +kernel
theorem dX6_deliverTin_15 : decode cX6_deliverTin 15 = .ok (.invokestatic 89, 3) := by decide +kernel
theorem dX6_deliverTin_18 : decode cX6_deliverTin 18 = .ok (.ifCond .eq 7, 3) := by decide +kernel
theorem dX6_deliverTin_21 : decode cX6_deliverTin 21 = .ok (.iconst 1, 1) := by decide +kernel
theorem dX6_deliverTin_22 : decode cX6_deliverTin 22 = .ok (.goto 4, 3) := by decide +kernel
theorem dX6_deliverTin_25 : decode cX6_deliverTin 25 = .ok (.iconst 0, 1) := by decide +kernel
theorem dX6_deliverTin_26 : decode cX6_deliverTin 26 = .ok (.iconst 1, 1) := by decide +kernel
theorem dX6_deliverTin_27 : decode cX6_deliverTin 27 = .ok (.invokevirtual 93, 3) := by decide +kernel
theorem dX6_deliverTin_30 : decode cX6_deliverTin 30 = .ok (.ifCond .ne 5, 3) := by decide +kernel
theorem dX6_deliverTin_33 : decode cX6_deliverTin 33 = .ok (.iconst 0, 1) := by decide +kernel
theorem dX6_deliverTin_34 : decode cX6_deliverTin 34 = .ok (.ireturn, 1) := by decide +kernel
theorem dX6_deliverTin_35 : decode cX6_deliverTin 35 = .ok (.aload_n 0, 1) := by decide +kernel
theorem dX6_deliverTin_36 : decode cX6_deliverTin 36 = .ok (.getfield 40, 3) := by decide +kernel
theorem dX6_deliverTin_39 : decode cX6_deliverTin 39 = .ok (.iload_n 1, 1) := by decide +kernel
theorem dX6_deliverTin_40 : decode cX6_deliverTin 40 = .ok (.iaload, 1) := by decide +kernel
theorem dX6_deliverTin_41 : decode cX6_deliverTin 41 = .ok (.bipush 12, 2) := by decide +kernel
theorem dX6_deliverTin_43 : decode cX6_deliverTin 43 = .ok (.if_icmp .ne 9, 3) := by decide +kernel
theorem dX6_deliverTin_46 : decode cX6_deliverTin 46 = .ok (.aload_n 0, 1) := by decide +kernel
theorem dX6_deliverTin_47 : decode cX6_deliverTin 47 = .ok (.iconst 2, 1) := by decide +kernel
theorem dX6_deliverTin_48 : decode cX6_deliverTin 48 = .ok (.invokevirtual 98, 3) := by decide +kernel
theorem dX6_deliverTin_51 : decode cX6_deliverTin 51 = .ok (.ireturn, 1) := by decide +kernel
theorem dX6_deliverTin_52 : decode cX6_deliverTin 52 = .ok (.aload_n 0, 1) := by decide +kernel
theorem dX6_deliverTin_53 : decode cX6_deliverTin 53 = .ok (.getfield 43, 3) := by decide +kernel
theorem dX6_deliverTin_56 : decode cX6_deliverTin 56 = .ok (.bipush 12, 2) := by decide +kernel
theorem dX6_deliverTin_58 : decode cX6_deliverTin 58 = .ok (.iload_n 1, 1) := by decide +kernel
theorem dX6_deliverTin_59 : decode cX6_deliverTin 59 = .ok (.imul, 1) := by decide +kernel
theorem dX6_deliverTin_60 : decode cX6_deliverTin 60 = .ok (.aload_n 0, 1) := by decide +kernel
theorem dX6_deliverTin_61 : decode cX6_deliverTin 61 = .ok (.getfield 40, 3) := by decide +kernel
theorem dX6_deliverTin_64 : decode cX6_deliverTin 64 = .ok (.iload_n 1, 1) := by decide +kernel
theorem dX6_deliverTin_65 : decode cX6_deliverTin 65 = .ok (.iaload, 1) := by decide +kernel
theorem dX6_deliverTin_66 : decode cX6_deliverTin 66 = .ok (.iadd, 1) := by decide +kernel
theorem dX6_deliverTin_67 : decode cX6_deliverTin 67 = .ok (.iload_n 2, 1) := by decide +kernel
theorem dX6_deliverTin_68 : decode cX6_deliverTin 68 = .ok (.iastore, 1) := by decide +kernel
theorem dX6_deliverTin_69 : decode cX6_deliverTin 69 = .ok (.aload_n 0, 1) := by decide +kernel
theorem dX6_deliverTin_70 : decode cX6_deliverTin 70 = .ok (.getfield 40, 3) := by decide +kernel
theorem dX6_deliverTin_73 : decode cX6_deliverTin 73 = .ok (.iload_n 1, 1) := by decide +kernel
theorem dX6_deliverTin_74 : decode cX6_deliverTin 74 = .ok (.dup2, 1) := by decide +kernel
theorem dX6_deliverTin_75 : decode cX6_deliverTin 75 = .ok (.iaload, 1) := by decide +kernel
theorem dX6_deliverTin_76 : decode cX6_deliverTin 76 = .ok (.iconst 1, 1) := by decide +kernel
theorem dX6_deliverTin_77 : decode cX6_deliverTin 77 = .ok (.iadd, 1) := by decide +kernel
theorem dX6_deliverTin_78 : decode cX6_deliverTin 78 = .ok (.iastore, 1) := by decide +kernel
theorem dX6_deliverTin_79 : decode cX6_deliverTin 79 = .ok (.aload_n 0, 1) := by decide +kernel
theorem dX6_deliverTin_80 : decode cX6_deliverTin 80 = .ok (.getfield 40, 3) := by decide +kernel
theorem dX6_deliverTin_83 : decode cX6_deliverTin 83 = .ok (.iload_n 1, 1) := by decide +kernel
theorem dX6_deliverTin_84 : decode cX6_deliverTin 84 = .ok (.iaload, 1) := by decide +kernel
theorem dX6_deliverTin_85 : decode cX6_deliverTin 85 = .ok (.ireturn, 1) := by decide +kernel
theorem dX6_tinCount_0 : decode cX6_tinCount 0 = .ok (.aload_n 0, 1) := by decide +kernel
theorem dX6_tinCount_1 : decode cX6_tinCount 1 = .ok (.iload_n 1, 1) := by decide +kernel
theorem dX6_tinCount_2 : decode cX6_tinCount 2 = .ok (.invokevirtual 167, 3) := by decide +kernel
theorem dX6_tinCount_5 : decode cX6_tinCount 5 = .ok (.ifCond .eq 12, 3) := by decide +kernel
theorem dX6_tinCount_8 : decode cX6_tinCount 8 = .ok (.aload_n 0, 1) := by decide +kernel
theorem dX6_tinCount_9 : decode cX6_tinCount 9 = .ok (.getfield 40, 3) := by decide +kernel
theorem dX6_tinCount_12 : decode cX6_tinCount 12 = .ok (.iload_n 1, 1) := by decide +kernel
theorem dX6_tinCount_13 : decode cX6_tinCount 13 = .ok (.iaload, 1) := by decide +kernel
theorem dX6_tinCount_14 : decode cX6_tinCount 14 = .ok (.goto 4, 3) := by decide +kernel
theorem dX6_tinCount_17 : decode cX6_tinCount 17 = .ok (.iconst 0, 1) := by decide +kernel
theorem dX6_tinCount_18 : decode cX6_tinCount 18 = .ok (.ireturn, 1) := by decide +kernel
theorem dX6_paintLeft_0 : decode cX6_paintLeft 0 = .ok (.aload_n 0, 1) := by decide +kernel
theorem dX6_paintLeft_1 : decode cX6_paintLeft 1 = .ok (.iload_n 1, 1) := by decide +kernel
theorem dX6_paintLeft_2 : decode cX6_paintLeft 2 = .ok (.invokevirtual 167, 3) := by decide +kernel
theorem dX6_paintLeft_5 : decode cX6_paintLeft 5 = .ok (.ifCond .ne 5, 3) := by decide +kernel
theorem dX6_paintLeft_8 : decode cX6_paintLeft 8 = .ok (.iconst 0, 1) := by decide +kernel
theorem dX6_paintLeft_9 : decode cX6_paintLeft 9 = .ok (.ireturn, 1) := by decide +kernel
theorem dX6_paintLeft_10 : decode cX6_paintLeft 10 = .ok (.iconst 0, 1) := by decide +kernel
theorem dX6_paintLeft_11 : decode cX6_paintLeft 11 = .ok (.istore_n 2, 1) := by decide +kernel
theorem dX6_paintLeft_12 : decode cX6_paintLeft 12 = .ok (.iconst 0, 1) := by decide +kernel
theorem dX6_paintLeft_13 : decode cX6_paintLeft 13 = .ok (.istore_n 3, 1) := by decide +kernel
theorem dX6_paintLeft_14 : decode cX6_paintLeft 14 = .ok (.iload_n 3, 1) := by decide +kernel
theorem dX6_paintLeft_15 : decode cX6_paintLeft 15 = .ok (.aload_n 0, 1) := by decide +kernel
theorem dX6_paintLeft_16 : decode cX6_paintLeft 16 = .ok (.getfield 40, 3) := by decide +kernel
theorem dX6_paintLeft_19 : decode cX6_paintLeft 19 = .ok (.iload_n 1, 1) := by decide +kernel
theorem dX6_paintLeft_20 : decode cX6_paintLeft 20 = .ok (.iaload, 1) := by decide +kernel
theorem dX6_paintLeft_21 : decode cX6_paintLeft 21 = .ok (.if_icmp .ge 23, 3) := by decide +kernel
theorem dX6_paintLeft_24 : decode cX6_paintLeft 24 = .ok (.iload_n 2, 1) := by decide +kernel
theorem dX6_paintLeft_25 : decode cX6_paintLeft 25 = .ok (.aload_n 0, 1) := by decide +kernel
theorem dX6_paintLeft_26 : decode cX6_paintLeft 26 = .ok (.getfield 43, 3) := by decide +kernel
theorem dX6_paintLeft_29 : decode cX6_paintLeft 29 = .ok (.bipush 12, 2) := by decide +kernel
theorem dX6_paintLeft_31 : decode cX6_paintLeft 31 = .ok (.iload_n 1, 1) := by decide +kernel
theorem dX6_paintLeft_32 : decode cX6_paintLeft 32 = .ok (.imul, 1) := by decide +kernel
theorem dX6_paintLeft_33 : decode cX6_paintLeft 33 = .ok (.iload_n 3, 1) := by decide +kernel
theorem dX6_paintLeft_34 : decode cX6_paintLeft 34 = .ok (.iadd, 1) := by decide +kernel
theorem dX6_paintLeft_35 : decode cX6_paintLeft 35 = .ok (.iaload, 1) := by decide +kernel
theorem dX6_paintLeft_36 : decode cX6_paintLeft 36 = .ok (.iadd, 1) := by decide +kernel
theorem dX6_paintLeft_37 : decode cX6_paintLeft 37 = .ok (.istore_n 2, 1) := by decide +kernel
theorem dX6_paintLeft_38 : decode cX6_paintLeft 38 = .ok (.iinc 3 1, 3) := by decide +kernel
theorem dX6_paintLeft_41 : decode cX6_paintLeft 41 = .ok (.goto (-27), 3) := by decide +kernel
theorem dX6_paintLeft_44 : decode cX6_paintLeft 44 = .ok (.iload_n 2, 1) := by decide +kernel
theorem dX6_paintLeft_45 : decode cX6_paintLeft 45 = .ok (.ireturn, 1) := by decide +kernel
theorem dX6_oldestTin_0 : decode cX6_oldestTin 0 = .ok (.aload_n 0, 1) := by decide +kernel
theorem dX6_oldestTin_1 : decode cX6_oldestTin 1 = .ok (.iload_n 1, 1) := by decide +kernel
theorem dX6_oldestTin_2 : decode cX6_oldestTin 2 = .ok (.invokevirtual 167, 3) := by decide +kernel
theorem dX6_oldestTin_5 : decode cX6_oldestTin 5 = .ok (.ifCond .ne 5, 3) := by decide +kernel
theorem dX6_oldestTin_8 : decode cX6_oldestTin 8 = .ok (.iconst 0, 1) := by decide +kernel
theorem dX6_oldestTin_9 : decode cX6_oldestTin 9 = .ok (.ireturn, 1) := by decide +kernel
theorem dX6_oldestTin_10 : decode cX6_oldestTin 10 = .ok (.aload_n 0, 1) := by decide +kernel
theorem dX6_oldestTin_11 : decode cX6_oldestTin 11 = .ok (.getfield 40, 3) := by decide +kernel
theorem dX6_oldestTin_14 : decode cX6_oldestTin 14 = .ok (.iload_n 1, 1) := by decide +kernel
theorem dX6_oldestTin_15 : decode cX6_oldestTin 15 = .ok (.iaload, 1) := by decide +kernel
theorem dX6_oldestTin_16 : decode cX6_oldestTin 16 = .ok (.ifCond .ne 11, 3) := by decide +kernel
theorem dX6_oldestTin_19 : decode cX6_oldestTin 19 = .ok (.aload_n 0, 1) := by decide +kernel
theorem dX6_oldestTin_20 : decode cX6_oldestTin 20 = .ok (.iconst 2, 1) := by decide +kernel
theorem dX6_oldestTin_21 : decode cX6_oldestTin 21 = .ok (.invokevirtual 98, 3) := by decide +kernel
theorem dX6_oldestTin_24 : decode cX6_oldestTin 24 = .ok (.goto 12, 3) := by decide +kernel
theorem dX6_oldestTin_27 : decode cX6_oldestTin 27 = .ok (.aload_n 0, 1) := by decide +kernel
theorem dX6_oldestTin_28 : decode cX6_oldestTin 28 = .ok (.getfield 43, 3) := by decide +kernel
theorem dX6_oldestTin_31 : decode cX6_oldestTin 31 = .ok (.bipush 12, 2) := by decide +kernel
theorem dX6_oldestTin_33 : decode cX6_oldestTin 33 = .ok (.iload_n 1, 1) := by decide +kernel
theorem dX6_oldestTin_34 : decode cX6_oldestTin 34 = .ok (.imul, 1) := by decide +kernel
theorem dX6_oldestTin_35 : decode cX6_oldestTin 35 = .ok (.iaload, 1) := by decide +kernel
theorem dX6_oldestTin_36 : decode cX6_oldestTin 36 = .ok (.ireturn, 1) := by decide +kernel
theorem dX6_dropOldest_0 : decode cX6_dropOldest 0 = .ok (.aload_n 0, 1) := by decide +kernel
theorem dX6_dropOldest_1 : decode cX6_dropOldest 1 = .ok (.getfield 40, 3) := by decide +kernel
theorem dX6_dropOldest_4 : decode cX6_dropOldest 4 = .ok (.iload_n 1, 1) := by decide +kernel
theorem dX6_dropOldest_5 : decode cX6_dropOldest 5 = .ok (.dup2, 1) := by decide +kernel
theorem dX6_dropOldest_6 : decode cX6_dropOldest 6 = .ok (.iaload, 1) := by decide +kernel
theorem dX6_dropOldest_7 : decode cX6_dropOldest 7 = .ok (.iconst 1, 1) := by decide +kernel
theorem dX6_dropOldest_8 : decode cX6_dropOldest 8 = .ok (.isub, 1) := by decide +kernel
theorem dX6_dropOldest_9 : decode cX6_dropOldest 9 = .ok (.iastore, 1) := by decide +kernel
theorem dX6_dropOldest_10 : decode cX6_dropOldest 10 = .ok (.bipush 12, 2) := by decide +kernel
theorem dX6_dropOldest_12 : decode cX6_dropOldest 12 = .ok (.iload_n 1, 1) := by decide +kernel
theorem dX6_dropOldest_13 : decode cX6_dropOldest 13 = .ok (.imul, 1) := by decide +kernel
theorem dX6_dropOldest_14 : decode cX6_dropOldest 14 = .ok (.istore_n 2, 1) := by decide +kernel
theorem dX6_dropOldest_15 : decode cX6_dropOldest 15 = .ok (.iload_n 2, 1) := by decide +kernel
theorem dX6_dropOldest_16 : decode cX6_dropOldest 16 = .ok (.bipush 12, 2) := by decide +kernel
theorem dX6_dropOldest_18 : decode cX6_dropOldest 18 = .ok (.iload_n 1, 1) := by decide +kernel
theorem dX6_dropOldest_19 : decode cX6_dropOldest 19 = .ok (.imul, 1) := by decide +kernel
theorem dX6_dropOldest_20 : decode cX6_dropOldest 20 = .ok (.aload_n 0, 1) := by decide +kernel
theorem dX6_dropOldest_21 : decode cX6_dropOldest 21 = .ok (.getfield 40, 3) := by decide +kernel
theorem dX6_dropOldest_24 : decode cX6_dropOldest 24 = .ok (.iload_n 1, 1) := by decide +kernel
theorem dX6_dropOldest_25 : decode cX6_dropOldest 25 = .ok (.iaload, 1) := by decide +kernel
theorem dX6_dropOldest_26 : decode cX6_dropOldest 26 = .ok (.iadd, 1) := by decide +kernel
theorem dX6_dropOldest_27 : decode cX6_dropOldest 27 = .ok (.if_icmp .ge 23, 3) := by decide +kernel
theorem dX6_dropOldest_30 : decode cX6_dropOldest 30 = .ok (.aload_n 0, 1) := by decide +kernel
theorem dX6_dropOldest_31 : decode cX6_dropOldest 31 = .ok (.getfield 43, 3) := by decide +kernel
theorem dX6_dropOldest_34 : decode cX6_dropOldest 34 = .ok (.iload_n 2, 1) := by decide +kernel
theorem dX6_dropOldest_35 : decode cX6_dropOldest 35 = .ok (.aload_n 0, 1) := by decide +kernel
theorem dX6_dropOldest_36 : decode cX6_dropOldest 36 = .ok (.getfield 43, 3) := by decide +kernel
theorem dX6_dropOldest_39 : decode cX6_dropOldest 39 = .ok (.iload_n 2, 1) := by decide +kernel
theorem dX6_dropOldest_40 : decode cX6_dropOldest 40 = .ok (.iconst 1, 1) := by decide +kernel
theorem dX6_dropOldest_41 : decode cX6_dropOldest 41 = .ok (.iadd, 1) := by decide +kernel
theorem dX6_dropOldest_42 : decode cX6_dropOldest 42 = .ok (.iaload, 1) := by decide +kernel
theorem dX6_dropOldest_43 : decode cX6_dropOldest 43 = .ok (.iastore, 1) := by decide +kernel
theorem dX6_dropOldest_44 : decode cX6_dropOldest 44 = .ok (.iinc 2 1, 3) := by decide +kernel
theorem dX6_dropOldest_47 : decode cX6_dropOldest 47 = .ok (.goto (-32), 3) := by decide +kernel
theorem dX6_dropOldest_50 : decode cX6_dropOldest 50 = .ok (.return_, 1) := by decide +kernel
theorem dX6_take_0 : decode cX6_take 0 = .ok (.iconst 0, 1) := by decide +kernel
theorem dX6_take_1 : decode cX6_take 1 = .ok (.istore_n 3, 1) := by decide +kernel
theorem dX6_take_2 : decode cX6_take 2 = .ok (.iload_n 3, 1) := by decide +kernel
theorem dX6_take_3 : decode cX6_take 3 = .ok (.aload_n 0, 1) := by decide +kernel
theorem dX6_take_4 : decode cX6_take 4 = .ok (.getfield 40, 3) := by decide +kernel
theorem dX6_take_7 : decode cX6_take 7 = .ok (.iload_n 1, 1) := by decide +kernel
theorem dX6_take_8 : decode cX6_take 8 = .ok (.iaload, 1) := by decide +kernel
theorem dX6_take_9 : decode cX6_take 9 = .ok (.if_icmp .ge 24, 3) := by decide +kernel
theorem dX6_take_12 : decode cX6_take 12 = .ok (.aload_n 0, 1) := by decide +kernel
theorem dX6_take_13 : decode cX6_take 13 = .ok (.getfield 43, 3) := by decide +kernel
theorem dX6_take_16 : decode cX6_take 16 = .ok (.bipush 12, 2) := by decide +kernel
theorem dX6_take_18 : decode cX6_take 18 = .ok (.iload_n 1, 1) := by decide +kernel
theorem dX6_take_19 : decode cX6_take 19 = .ok (.imul, 1) := by decide +kernel
theorem dX6_take_20 : decode cX6_take 20 = .ok (.iload_n 3, 1) := by decide +kernel
theorem dX6_take_21 : decode cX6_take 21 = .ok (.iadd, 1) := by decide +kernel
theorem dX6_take_22 : decode cX6_take 22 = .ok (.iaload, 1) := by decide +kernel
theorem dX6_take_23 : decode cX6_take 23 = .ok (.iload_n 2, 1) := by decide +kernel
theorem dX6_take_24 : decode cX6_take 24 = .ok (.if_icmp .ge 9, 3) := by decide +kernel
theorem dX6_take_27 : decode cX6_take 27 = .ok (.iinc 3 1, 3) := by decide +kernel
theorem dX6_take_30 : decode cX6_take 30 = .ok (.goto (-28), 3) := by decide +kernel
theorem dX6_take_33 : decode cX6_take 33 = .ok (.iload_n 3, 1) := by decide +kernel
theorem dX6_take_34 : decode cX6_take 34 = .ok (.aload_n 0, 1) := by decide +kernel
theorem dX6_take_35 : decode cX6_take 35 = .ok (.getfield 40, 3) := by decide +kernel
theorem dX6_take_38 : decode cX6_take 38 = .ok (.iload_n 1, 1) := by decide +kernel
theorem dX6_take_39 : decode cX6_take 39 = .ok (.iaload, 1) := by decide +kernel
theorem dX6_take_40 : decode cX6_take 40 = .ok (.if_icmp .ne 5, 3) := by decide +kernel
theorem dX6_take_43 : decode cX6_take 43 = .ok (.iconst 0, 1) := by decide +kernel
theorem dX6_take_44 : decode cX6_take 44 = .ok (.ireturn, 1) := by decide +kernel
theorem dX6_take_45 : decode cX6_take 45 = .ok (.iconst 0, 1) := by decide +kernel
theorem dX6_take_46 : decode cX6_take 46 = .ok (.istore 4, 2) := by decide +kernel
theorem dX6_take_48 : decode cX6_take 48 = .ok (.iload 4, 2) := by decide +kernel
theorem dX6_take_50 : decode cX6_take 50 = .ok (.iload_n 3, 1) := by decide +kernel
theorem dX6_take_51 : decode cX6_take 51 = .ok (.if_icmp .ge 32, 3) := by decide +kernel
theorem dX6_take_54 : decode cX6_take 54 = .ok (.aload_n 0, 1) := by decide +kernel
theorem dX6_take_55 : decode cX6_take 55 = .ok (.dup, 1) := by decide +kernel
theorem dX6_take_56 : decode cX6_take 56 = .ok (.getfield 170, 3) := by decide +kernel
theorem dX6_take_59 : decode cX6_take 59 = .ok (.aload_n 0, 1) := by decide +kernel
theorem dX6_take_60 : decode cX6_take 60 = .ok (.getfield 43, 3) := by decide +kernel
theorem dX6_take_63 : decode cX6_take 63 = .ok (.bipush 12, 2) := by decide +kernel
theorem dX6_take_65 : decode cX6_take 65 = .ok (.iload_n 1, 1) := by decide +kernel
theorem dX6_take_66 : decode cX6_take 66 = .ok (.imul, 1) := by decide +kernel
theorem dX6_take_67 : decode cX6_take 67 = .ok (.iaload, 1) := by decide +kernel
theorem dX6_take_68 : decode cX6_take 68 = .ok (.iadd, 1) := by decide +kernel
theorem dX6_take_69 : decode cX6_take 69 = .ok (.putfield 170, 3) := by decide +kernel
theorem dX6_take_72 : decode cX6_take 72 = .ok (.aload_n 0, 1) := by decide +kernel
theorem dX6_take_73 : decode cX6_take 73 = .ok (.iload_n 1, 1) := by decide +kernel
theorem dX6_take_74 : decode cX6_take 74 = .ok (.invokevirtual 173, 3) := by decide +kernel
theorem dX6_take_77 : decode cX6_take 77 = .ok (.iinc 4 1, 3) := by decide +kernel
theorem dX6_take_80 : decode cX6_take 80 = .ok (.goto (-32), 3) := by decide +kernel
theorem dX6_take_83 : decode cX6_take 83 = .ok (.aload_n 0, 1) := by decide +kernel
theorem dX6_take_84 : decode cX6_take 84 = .ok (.getfield 43, 3) := by decide +kernel
theorem dX6_take_87 : decode cX6_take 87 = .ok (.bipush 12, 2) := by decide +kernel
theorem dX6_take_89 : decode cX6_take 89 = .ok (.iload_n 1, 1) := by decide +kernel
theorem dX6_take_90 : decode cX6_take 90 = .ok (.imul, 1) := by decide +kernel
theorem dX6_take_91 : decode cX6_take 91 = .ok (.dup2, 1) := by decide +kernel
theorem dX6_take_92 : decode cX6_take 92 = .ok (.iaload, 1) := by decide +kernel
theorem dX6_take_93 : decode cX6_take 93 = .ok (.iload_n 2, 1) := by decide +kernel
theorem dX6_take_94 : decode cX6_take 94 = .ok (.isub, 1) := by decide +kernel
theorem dX6_take_95 : decode cX6_take 95 = .ok (.iastore, 1) := by decide +kernel
theorem dX6_take_96 : decode cX6_take 96 = .ok (.aload_n 0, 1) := by decide +kernel
theorem dX6_take_97 : decode cX6_take 97 = .ok (.getfield 43, 3) := by decide +kernel
theorem dX6_take_100 : decode cX6_take 100 = .ok (.bipush 12, 2) := by decide +kernel
theorem dX6_take_102 : decode cX6_take 102 = .ok (.iload_n 1, 1) := by decide +kernel
theorem dX6_take_103 : decode cX6_take 103 = .ok (.imul, 1) := by decide +kernel
theorem dX6_take_104 : decode cX6_take 104 = .ok (.iaload, 1) := by decide +kernel
theorem dX6_take_105 : decode cX6_take 105 = .ok (.ifCond .ne 8, 3) := by decide +kernel
theorem dX6_take_108 : decode cX6_take 108 = .ok (.aload_n 0, 1) := by decide +kernel
theorem dX6_take_109 : decode cX6_take 109 = .ok (.iload_n 1, 1) := by decide +kernel
theorem dX6_take_110 : decode cX6_take 110 = .ok (.invokevirtual 173, 3) := by decide +kernel
theorem dX6_take_113 : decode cX6_take 113 = .ok (.iconst 1, 1) := by decide +kernel
theorem dX6_take_114 : decode cX6_take 114 = .ok (.ireturn, 1) := by decide +kernel
theorem dX6_paintUsed_0 : decode cX6_paintUsed 0 = .ok (.aload_n 0, 1) := by decide +kernel
theorem dX6_paintUsed_1 : decode cX6_paintUsed 1 = .ok (.iconst 0, 1) := by decide +kernel
theorem dX6_paintUsed_2 : decode cX6_paintUsed 2 = .ok (.putfield 83, 3) := by decide +kernel
theorem dX6_paintUsed_5 : decode cX6_paintUsed 5 = .ok (.aload_n 0, 1) := by decide +kernel
theorem dX6_paintUsed_6 : decode cX6_paintUsed 6 = .ok (.getfield 177, 3) := by decide +kernel
theorem dX6_paintUsed_9 : decode cX6_paintUsed 9 = .ok (.ireturn, 1) := by decide +kernel
theorem dX6_paintDripped_0 : decode cX6_paintDripped 0 = .ok (.aload_n 0, 1) := by decide +kernel
theorem dX6_paintDripped_1 : decode cX6_paintDripped 1 = .ok (.iconst 0, 1) := by decide +kernel
theorem dX6_paintDripped_2 : decode cX6_paintDripped 2 = .ok (.putfield 83, 3) := by decide +kernel
theorem dX6_paintDripped_5 : decode cX6_paintDripped 5 = .ok (.aload_n 0, 1) := by decide +kernel
theorem dX6_paintDripped_6 : decode cX6_paintDripped 6 = .ok (.getfield 180, 3) := by decide +kernel
theorem dX6_paintDripped_9 : decode cX6_paintDripped 9 = .ok (.ireturn, 1) := by decide +kernel
theorem dX6_paintPoured_0 : decode cX6_paintPoured 0 = .ok (.aload_n 0, 1) := by decide +kernel
theorem dX6_paintPoured_1 : decode cX6_paintPoured 1 = .ok (.iconst 0, 1) := by decide +kernel
theorem dX6_paintPoured_2 : decode cX6_paintPoured 2 = .ok (.putfield 83, 3) := by decide +kernel
theorem dX6_paintPoured_5 : decode cX6_paintPoured 5 = .ok (.aload_n 0, 1) := by decide +kernel
theorem dX6_paintPoured_6 : decode cX6_paintPoured 6 = .ok (.getfield 170, 3) := by decide +kernel
theorem dX6_paintPoured_9 : decode cX6_paintPoured 9 = .ok (.ireturn, 1) := by decide +kernel
theorem dX6_isAhead_0 : decode cX6_isAhead 0 = .ok (.aload_n 0, 1) := by decide +kernel
theorem dX6_isAhead_1 : decode cX6_isAhead 1 = .ok (.getfield 46, 3) := by decide +kernel
theorem dX6_isAhead_4 : decode cX6_isAhead 4 = .ok (.iload_n 1, 1) := by decide +kernel
theorem dX6_isAhead_5 : decode cX6_isAhead 5 = .ok (.iaload, 1) := by decide +kernel
theorem dX6_isAhead_6 : decode cX6_isAhead 6 = .ok (.aload_n 0, 1) := by decide +kernel
theorem dX6_isAhead_7 : decode cX6_isAhead 7 = .ok (.getfield 46, 3) := by decide +kernel
theorem dX6_isAhead_10 : decode cX6_isAhead 10 = .ok (.iload_n 2, 1) := by decide +kernel
theorem dX6_isAhead_11 : decode cX6_isAhead 11 = .ok (.iaload, 1) := by decide +kernel
theorem dX6_isAhead_12 : decode cX6_isAhead 12 = .ok (.if_icmp .eq 24, 3) := by decide +kernel
theorem dX6_isAhead_15 : decode cX6_isAhead 15 = .ok (.aload_n 0, 1) := by decide +kernel
theorem dX6_isAhead_16 : decode cX6_isAhead 16 = .ok (.getfield 46, 3) := by decide +kernel
theorem dX6_isAhead_19 : decode cX6_isAhead 19 = .ok (.iload_n 1, 1) := by decide +kernel
theorem dX6_isAhead_20 : decode cX6_isAhead 20 = .ok (.iaload, 1) := by decide +kernel
theorem dX6_isAhead_21 : decode cX6_isAhead 21 = .ok (.aload_n 0, 1) := by decide +kernel
theorem dX6_isAhead_22 : decode cX6_isAhead 22 = .ok (.getfield 46, 3) := by decide +kernel
theorem dX6_isAhead_25 : decode cX6_isAhead 25 = .ok (.iload_n 2, 1) := by decide +kernel
theorem dX6_isAhead_26 : decode cX6_isAhead 26 = .ok (.iaload, 1) := by decide +kernel
theorem dX6_isAhead_27 : decode cX6_isAhead 27 = .ok (.if_icmp .ge 7, 3) := by decide +kernel
theorem dX6_isAhead_30 : decode cX6_isAhead 30 = .ok (.iconst 1, 1) := by decide +kernel
theorem dX6_isAhead_31 : decode cX6_isAhead 31 = .ok (.goto 4, 3) := by decide +kernel
theorem dX6_isAhead_34 : decode cX6_isAhead 34 = .ok (.iconst 0, 1) := by decide +kernel
theorem dX6_isAhead_35 : decode cX6_isAhead 35 = .ok (.ireturn, 1) := by decide +kernel
theorem dX6_isAhead_36 : decode cX6_isAhead 36 = .ok (.aload_n 0, 1) := by decide +kernel
theorem dX6_isAhead_37 : decode cX6_isAhead 37 = .ok (.getfield 22, 3) := by decide +kernel
theorem dX6_isAhead_40 : decode cX6_isAhead 40 = .ok (.iload_n 1, 1) := by decide +kernel
theorem dX6_isAhead_41 : decode cX6_isAhead 41 = .ok (.iaload, 1) := by decide +kernel
theorem dX6_isAhead_42 : decode cX6_isAhead 42 = .ok (.aload_n 0, 1) := by decide +kernel
theorem dX6_isAhead_43 : decode cX6_isAhead 43 = .ok (.getfield 22, 3) := by decide +kernel
theorem dX6_isAhead_46 : decode cX6_isAhead 46 = .ok (.iload_n 2, 1) := by decide +kernel
theorem dX6_isAhead_47 : decode cX6_isAhead 47 = .ok (.iaload, 1) := by decide +kernel
theorem dX6_isAhead_48 : decode cX6_isAhead 48 = .ok (.if_icmp .eq 26, 3) := by decide +kernel
theorem dX6_isAhead_51 : decode cX6_isAhead 51 = .ok (.aload_n 0, 1) := by decide +kernel
theorem dX6_isAhead_52 : decode cX6_isAhead 52 = .ok (.getfield 22, 3) := by decide +kernel
theorem dX6_isAhead_55 : decode cX6_isAhead 55 = .ok (.iload_n 1, 1) := by decide +kernel
theorem dX6_isAhead_56 : decode cX6_isAhead 56 = .ok (.iaload, 1) := by decide +kernel
theorem dX6_isAhead_57 : decode cX6_isAhead 57 = .ok (.aload_n 0, 1) := by decide +kernel
theorem dX6_isAhead_58 : decode cX6_isAhead 58 = .ok (.getfield 22, 3) := by decide +kernel
theorem dX6_isAhead_61 : decode cX6_isAhead 61 = .ok (.iload_n 2, 1) := by decide +kernel
theorem dX6_isAhead_62 : decode cX6_isAhead 62 = .ok (.iaload, 1) := by decide +kernel
theorem dX6_isAhead_63 : decode cX6_isAhead 63 = .ok (.if_icmp .le 7, 3) := by decide +kernel
theorem dX6_isAhead_66 : decode cX6_isAhead 66 = .ok (.iconst 1, 1) := by decide +kernel
theorem dX6_isAhead_67 : decode cX6_isAhead 67 = .ok (.goto 17, 3) := by decide +kernel
theorem dX6_isAhead_70 : decode cX6_isAhead 70 = .ok (.iconst 0, 1) := by decide +kernel
theorem dX6_isAhead_71 : decode cX6_isAhead 71 = .ok (.goto 13, 3) := by decide +kernel
theorem dX6_isAhead_74 : decode cX6_isAhead 74 = .ok (.iload_n 1, 1) := by decide +kernel
theorem dX6_isAhead_75 : decode cX6_isAhead 75 = .ok (.iload_n 2, 1) := by decide +kernel
theorem dX6_isAhead_76 : decode cX6_isAhead 76 = .ok (.if_icmp .ge 7, 3) := by decide +kernel
theorem dX6_isAhead_79 : decode cX6_isAhead 79 = .ok (.iconst 1, 1) := by decide +kernel
theorem dX6_isAhead_80 : decode cX6_isAhead 80 = .ok (.goto 4, 3) := by decide +kernel
theorem dX6_isAhead_83 : decode cX6_isAhead 83 = .ok (.iconst 0, 1) := by decide +kernel
theorem dX6_isAhead_84 : decode cX6_isAhead 84 = .ok (.ireturn, 1) := by decide +kernel
theorem dX6_ahead_0 : decode cX6_ahead 0 = .ok (.iconst 0, 1) := by decide +kernel
theorem dX6_ahead_1 : decode cX6_ahead 1 = .ok (.istore_n 2, 1) := by decide +kernel
theorem dX6_ahead_2 : decode cX6_ahead 2 = .ok (.iconst 0, 1) := by decide +kernel
theorem dX6_ahead_3 : decode cX6_ahead 3 = .ok (.istore_n 3, 1) := by decide +kernel
theorem dX6_ahead_4 : decode cX6_ahead 4 = .ok (.iload_n 3, 1) := by decide +kernel
theorem dX6_ahead_5 : decode cX6_ahead 5 = .ok (.aload_n 0, 1) := by decide +kernel
theorem dX6_ahead_6 : decode cX6_ahead 6 = .ok (.getfield 86, 3) := by decide +kernel
theorem dX6_ahead_9 : decode cX6_ahead 9 = .ok (.if_icmp .ge 41, 3) := by decide +kernel
theorem dX6_ahead_12 : decode cX6_ahead 12 = .ok (.iload_n 2, 1) := by decide +kernel
theorem dX6_ahead_13 : decode cX6_ahead 13 = .ok (.iload_n 3, 1) := by decide +kernel
theorem dX6_ahead_14 : decode cX6_ahead 14 = .ok (.iload_n 1, 1) := by decide +kernel
theorem dX6_ahead_15 : decode cX6_ahead 15 = .ok (.if_icmp .eq 26, 3) := by decide +kernel
theorem dX6_ahead_18 : decode cX6_ahead 18 = .ok (.aload_n 0, 1) := by decide +kernel
theorem dX6_ahead_19 : decode cX6_ahead 19 = .ok (.getfield 46, 3) := by decide +kernel
theorem dX6_ahead_22 : decode cX6_ahead 22 = .ok (.iload_n 3, 1) := by decide +kernel
theorem dX6_ahead_23 : decode cX6_ahead 23 = .ok (.iaload, 1) := by decide +kernel
theorem dX6_ahead_24 : decode cX6_ahead 24 = .ok (.iconst (-1), 1) := by decide +kernel
theorem dX6_ahead_25 : decode cX6_ahead 25 = .ok (.if_icmp .eq 16, 3) := by decide +kernel
theorem dX6_ahead_28 : decode cX6_ahead 28 = .ok (.aload_n 0, 1) := by decide +kernel
theorem dX6_ahead_29 : decode cX6_ahead 29 = .ok (.iload_n 3, 1) := by decide +kernel
theorem dX6_ahead_30 : decode cX6_ahead 30 = .ok (.iload_n 1, 1) := by decide +kernel
theorem dX6_ahead_31 : decode cX6_ahead 31 = .ok (.invokevirtual 183, 3) := by decide +kernel
theorem dX6_ahead_34 : decode cX6_ahead 34 = .ok (.ifCond .eq 7, 3) := by decide +kernel
theorem dX6_ahead_37 : decode cX6_ahead 37 = .ok (.iconst 1, 1) := by decide +kernel
theorem dX6_ahead_38 : decode cX6_ahead 38 = .ok (.goto 4, 3) := by decide +kernel
theorem dX6_ahead_41 : decode cX6_ahead 41 = .ok (.iconst 0, 1) := by decide +kernel
theorem dX6_ahead_42 : decode cX6_ahead 42 = .ok (.iadd, 1) := by decide +kernel
theorem dX6_ahead_43 : decode cX6_ahead 43 = .ok (.istore_n 2, 1) := by decide +kernel
theorem dX6_ahead_44 : decode cX6_ahead 44 = .ok (.iinc 3 1, 3) := by decide +kernel
theorem dX6_ahead_47 : decode cX6_ahead 47 = .ok (.goto (-43), 3) := by decide +kernel
theorem dX6_ahead_50 : decode cX6_ahead 50 = .ok (.iload_n 2, 1) := by decide +kernel
theorem dX6_ahead_51 : decode cX6_ahead 51 = .ok (.ireturn, 1) := by decide +kernel
theorem dX6_waitingAt_0 : decode cX6_waitingAt 0 = .ok (.iconst 0, 1) := by decide +kernel
theorem dX6_waitingAt_1 : decode cX6_waitingAt 1 = .ok (.istore_n 2, 1) := by decide +kernel
theorem dX6_waitingAt_2 : decode cX6_waitingAt 2 = .ok (.iload_n 2, 1) := by decide +kernel
theorem dX6_waitingAt_3 : decode cX6_waitingAt 3 = .ok (.aload_n 0, 1) := by decide +kernel
theorem dX6_waitingAt_4 : decode cX6_waitingAt 4 = .ok (.getfield 86, 3) := by decide +kernel
theorem dX6_waitingAt_7 : decode cX6_waitingAt 7 = .ok (.if_icmp .ge 30, 3) := by decide +kernel
theorem dX6_waitingAt_10 : decode cX6_waitingAt 10 = .ok (.aload_n 0, 1) := by decide +kernel
theorem dX6_waitingAt_11 : decode cX6_waitingAt 11 = .ok (.getfield 46, 3) := by decide +kernel
theorem dX6_waitingAt_14 : decode cX6_waitingAt 14 = .ok (.iload_n 2, 1) := by decide +kernel
theorem dX6_waitingAt_15 : decode cX6_waitingAt 15 = .ok (.iaload, 1) := by decide +kernel
theorem dX6_waitingAt_16 : decode cX6_waitingAt 16 = .ok (.iconst (-1), 1) := by decide +kernel
theorem dX6_waitingAt_17 : decode cX6_waitingAt 17 = .ok (.if_icmp .eq 14, 3) := by decide +kernel
theorem dX6_waitingAt_20 : decode cX6_waitingAt 20 = .ok (.aload_n 0, 1) := by decide +kernel
theorem dX6_waitingAt_21 : decode cX6_waitingAt 21 = .ok (.iload_n 2, 1) := by decide +kernel
theorem dX6_waitingAt_22 : decode cX6_waitingAt 22 = .ok (.invokevirtual 186, 3) := by decide +kernel
theorem dX6_waitingAt_25 : decode cX6_waitingAt 25 = .ok (.iload_n 1, 1) := by decide +kernel
theorem dX6_waitingAt_26 : decode cX6_waitingAt 26 = .ok (.if_icmp .ne 5, 3) := by decide +kernel
theorem dX6_waitingAt_29 : decode cX6_waitingAt 29 = .ok (.iload_n 2, 1) := by decide +kernel
theorem dX6_waitingAt_30 : decode cX6_waitingAt 30 = .ok (.ireturn, 1) := by decide +kernel
theorem dX6_waitingAt_31 : decode cX6_waitingAt 31 = .ok (.iinc 2 1, 3) := by decide +kernel
theorem dX6_waitingAt_34 : decode cX6_waitingAt 34 = .ok (.goto (-32), 3) := by decide +kernel
theorem dX6_waitingAt_37 : decode cX6_waitingAt 37 = .ok (.iconst (-1), 1) := by decide +kernel
theorem dX6_waitingAt_38 : decode cX6_waitingAt 38 = .ok (.ireturn, 1) := by decide +kernel
theorem dX6_order_0 : decode cX6_order 0 = .ok (.aload_n 0, 1) := by decide +kernel
theorem dX6_order_1 : decode cX6_order 1 = .ok (.iload_n 1, 1) := by decide +kernel
theorem dX6_order_2 : decode cX6_order 2 = .ok (.invokevirtual 125, 3) := by decide +kernel
theorem dX6_order_5 : decode cX6_order 5 = .ok (.ifCond .ne 5, 3) := by decide +kernel
theorem dX6_order_8 : decode cX6_order 8 = .ok (.iconst 0, 1) := by decide +kernel
theorem dX6_order_9 : decode cX6_order 9 = .ok (.ireturn, 1) := by decide +kernel
theorem dX6_order_10 : decode cX6_order 10 = .ok (.iload_n 2, 1) := by decide +kernel
theorem dX6_order_11 : decode cX6_order 11 = .ok (.invokestatic 121, 3) := by decide +kernel
theorem dX6_order_14 : decode cX6_order 14 = .ok (.ifCond .ne 9, 3) := by decide +kernel
theorem dX6_order_17 : decode cX6_order 17 = .ok (.aload_n 0, 1) := by decide +kernel
theorem dX6_order_18 : decode cX6_order 18 = .ok (.iconst 2, 1) := by decide +kernel
theorem dX6_order_19 : decode cX6_order 19 = .ok (.invokevirtual 98, 3) := by decide +kernel
theorem dX6_order_22 : decode cX6_order 22 = .ok (.ireturn, 1) := by decide +kernel
theorem dX6_order_23 : decode cX6_order 23 = .ok (.aload_n 0, 1) := by decide +kernel
theorem dX6_order_24 : decode cX6_order 24 = .ok (.getfield 46, 3) := by decide +kernel
theorem dX6_order_27 : decode cX6_order 27 = .ok (.iload_n 1, 1) := by decide +kernel
theorem dX6_order_28 : decode cX6_order 28 = .ok (.iaload, 1) := by decide +kernel
theorem dX6_order_29 : decode cX6_order 29 = .ok (.iconst (-1), 1) := by decide +kernel
theorem dX6_order_30 : decode cX6_order 30 = .ok (.if_icmp .eq 9, 3) := by decide +kernel
theorem dX6_order_33 : decode cX6_order 33 = .ok (.aload_n 0, 1) := by decide +kernel
theorem dX6_order_34 : decode cX6_order 34 = .ok (.iconst 3, 1) := by decide +kernel
theorem dX6_order_35 : decode cX6_order 35 = .ok (.invokevirtual 98, 3) := by decide +kernel
theorem dX6_order_38 : decode cX6_order 38 = .ok (.ireturn, 1) := by decide +kernel
theorem dX6_order_39 : decode cX6_order 39 = .ok (.aload_n 0, 1) := by decide +kernel
theorem dX6_order_40 : decode cX6_order 40 = .ok (.getfield 46, 3) := by decide +kernel
theorem dX6_order_43 : decode cX6_order 43 = .ok (.iload_n 1, 1) := by decide +kernel
theorem dX6_order_44 : decode cX6_order 44 = .ok (.iload_n 2, 1) := by decide +kernel
theorem dX6_order_45 : decode cX6_order 45 = .ok (.iastore, 1) := by decide +kernel
theorem dX6_order_46 : decode cX6_order 46 = .ok (.aload_n 0, 1) := by decide +kernel
theorem dX6_order_47 : decode cX6_order 47 = .ok (.iload_n 1, 1) := by decide +kernel
theorem dX6_order_48 : decode cX6_order 48 = .ok (.invokevirtual 186, 3) := by decide +kernel
theorem dX6_order_51 : decode cX6_order 51 = .ok (.ireturn, 1) := by decide +kernel
theorem dX6_cancelOrder_0 : decode cX6_cancelOrder 0 = .ok (.aload_n 0, 1) := by decide +kernel
theorem dX6_cancelOrder_1 : decode cX6_cancelOrder 1 = .ok (.iload_n 1, 1) := by decide +kernel
theorem dX6_cancelOrder_2 : decode cX6_cancelOrder 2 = .ok (.invokevirtual 125, 3) := by decide +kernel
theorem dX6_cancelOrder_5 : decode cX6_cancelOrder 5 = .ok (.ifCond .ne 5, 3) := by decide +kernel
theorem dX6_cancelOrder_8 : decode cX6_cancelOrder 8 = .ok (.iconst 0, 1) := by decide +kernel
theorem dX6_cancelOrder_9 : decode cX6_cancelOrder 9 = .ok (.ireturn, 1) := by decide +kernel
theorem dX6_cancelOrder_10 : decode cX6_cancelOrder 10 = .ok (.aload_n 0, 1) := by decide +kernel
theorem dX6_cancelOrder_11 : decode cX6_cancelOrder 11 = .ok (.getfield 46, 3) := by decide +kernel
theorem dX6_cancelOrder_14 : decode cX6_cancelOrder 14 = .ok (.iload_n 1, 1) := by decide +kernel
theorem dX6_cancelOrder_15 : decode cX6_cancelOrder 15 = .ok (.iaload, 1) := by decide +kernel
theorem dX6_cancelOrder_16 : decode cX6_cancelOrder 16 = .ok (.iconst (-1), 1) := by decide +kernel
theorem dX6_cancelOrder_17 : decode cX6_cancelOrder 17 = .ok (.if_icmp .ne 9, 3) := by decide +kernel
theorem dX6_cancelOrder_20 : decode cX6_cancelOrder 20 = .ok (.aload_n 0, 1) := by decide +kernel
theorem dX6_cancelOrder_21 : decode cX6_cancelOrder 21 = .ok (.iconst 2, 1) := by decide +kernel
theorem dX6_cancelOrder_22 : decode cX6_cancelOrder 22 = .ok (.invokevirtual 98, 3) := by decide +kernel
theorem dX6_cancelOrder_25 : decode cX6_cancelOrder 25 = .ok (.ireturn, 1) := by decide +kernel
theorem dX6_cancelOrder_26 : decode cX6_cancelOrder 26 = .ok (.aload_n 0, 1) := by decide +kernel
theorem dX6_cancelOrder_27 : decode cX6_cancelOrder 27 = .ok (.getfield 46, 3) := by decide +kernel
theorem dX6_cancelOrder_30 : decode cX6_cancelOrder 30 = .ok (.iload_n 1, 1) := by decide +kernel
theorem dX6_cancelOrder_31 : decode cX6_cancelOrder 31 = .ok (.iaload, 1) := by decide +kernel
theorem dX6_cancelOrder_32 : decode cX6_cancelOrder 32 = .ok (.istore_n 2, 1) := by decide +kernel
theorem dX6_cancelOrder_33 : decode cX6_cancelOrder 33 = .ok (.aload_n 0, 1) := by decide +kernel
theorem dX6_cancelOrder_34 : decode cX6_cancelOrder 34 = .ok (.getfield 46, 3) := by decide +kernel
theorem dX6_cancelOrder_37 : decode cX6_cancelOrder 37 = .ok (.iload_n 1, 1) := by decide +kernel
theorem dX6_cancelOrder_38 : decode cX6_cancelOrder 38 = .ok (.iconst (-1), 1) := by decide +kernel
theorem dX6_cancelOrder_39 : decode cX6_cancelOrder 39 = .ok (.iastore, 1) := by decide +kernel
theorem dX6_cancelOrder_40 : decode cX6_cancelOrder 40 = .ok (.iload_n 2, 1) := by decide +kernel
theorem dX6_cancelOrder_41 : decode cX6_cancelOrder 41 = .ok (.ireturn, 1) := by decide +kernel
theorem dX6_waitingOrders_0 : decode cX6_waitingOrders 0 = .ok (.aload_n 0, 1) := by decide +kernel
theorem dX6_waitingOrders_1 : decode cX6_waitingOrders 1 = .ok (.iconst 0, 1) := by decide +kernel
theorem dX6_waitingOrders_2 : decode cX6_waitingOrders 2 = .ok (.putfield 83, 3) := by decide +kernel
theorem dX6_waitingOrders_5 : decode cX6_waitingOrders 5 = .ok (.iconst 0, 1) := by decide +kernel
theorem dX6_waitingOrders_6 : decode cX6_waitingOrders 6 = .ok (.istore_n 1, 1) := by decide +kernel
theorem dX6_waitingOrders_7 : decode cX6_waitingOrders 7 = .ok (.iconst 0, 1) := by decide +kernel
theorem dX6_waitingOrders_8 : decode cX6_waitingOrders 8 = .ok (.istore_n 2, 1) := by decide +kernel
theorem dX6_waitingOrders_9 : decode cX6_waitingOrders 9 = .ok (.iload_n 2, 1) := by decide +kernel
theorem dX6_waitingOrders_10 : decode cX6_waitingOrders 10 = .ok (.aload_n 0, 1) := by decide +kernel
theorem dX6_waitingOrders_11 : decode cX6_waitingOrders 11 = .ok (.getfield 86, 3) := by decide +kernel
theorem dX6_waitingOrders_14 : decode cX6_waitingOrders 14 = .ok (.if_icmp .ge 27, 3) := by decide +kernel
theorem dX6_waitingOrders_17 : decode cX6_waitingOrders 17 = .ok (.iload_n 1, 1) := by decide +kernel
theorem dX6_waitingOrders_18 : decode cX6_waitingOrders 18 = .ok (.aload_n 0, 1) := by decide +kernel
theorem dX6_waitingOrders_19 : decode cX6_waitingOrders 19 = .ok (.getfield 46, 3) := by decide +kernel
theorem dX6_waitingOrders_22 : decode cX6_waitingOrders 22 = .ok (.iload_n 2, 1) := by decide +kernel
theorem dX6_waitingOrders_23 : decode cX6_waitingOrders 23 = .ok (.iaload, 1) := by decide +kernel
theorem dX6_waitingOrders_24 : decode cX6_waitingOrders 24 = .ok (.iconst (-1), 1) := by decide +kernel
theorem dX6_waitingOrders_25 : decode cX6_waitingOrders 25 = .ok (.if_icmp .ne 7, 3) := by decide +kernel
theorem dX6_waitingOrders_28 : decode cX6_waitingOrders 28 = .ok (.iconst 0, 1) := by decide +kernel
theorem dX6_waitingOrders_29 : decode cX6_waitingOrders 29 = .ok (.goto 4, 3) := by decide +kernel
theorem dX6_waitingOrders_32 : decode cX6_waitingOrders 32 = .ok (.iconst 1, 1) := by decide +kernel
theorem dX6_waitingOrders_33 : decode cX6_waitingOrders 33 = .ok (.iadd, 1) := by decide +kernel
theorem dX6_waitingOrders_34 : decode cX6_waitingOrders 34 = .ok (.istore_n 1, 1) := by decide +kernel
theorem dX6_waitingOrders_35 : decode cX6_waitingOrders 35 = .ok (.iinc 2 1, 3) := by decide +kernel
theorem dX6_waitingOrders_38 : decode cX6_waitingOrders 38 = .ok (.goto (-29), 3) := by decide +kernel
theorem dX6_waitingOrders_41 : decode cX6_waitingOrders 41 = .ok (.iload_n 1, 1) := by decide +kernel
theorem dX6_waitingOrders_42 : decode cX6_waitingOrders 42 = .ok (.ireturn, 1) := by decide +kernel
theorem dX6_waitingPier_0 : decode cX6_waitingPier 0 = .ok (.aload_n 0, 1) := by decide +kernel
theorem dX6_waitingPier_1 : decode cX6_waitingPier 1 = .ok (.iload_n 1, 1) := by decide +kernel
theorem dX6_waitingPier_2 : decode cX6_waitingPier 2 = .ok (.invokevirtual 189, 3) := by decide +kernel
theorem dX6_waitingPier_5 : decode cX6_waitingPier 5 = .ok (.istore_n 2, 1) := by decide +kernel
theorem dX6_waitingPier_6 : decode cX6_waitingPier 6 = .ok (.aload_n 0, 1) := by decide +kernel
theorem dX6_waitingPier_7 : decode cX6_waitingPier 7 = .ok (.iload_n 2, 1) := by decide +kernel
theorem dX6_waitingPier_8 : decode cX6_waitingPier 8 = .ok (.iconst (-1), 1) := by decide +kernel
theorem dX6_waitingPier_9 : decode cX6_waitingPier 9 = .ok (.if_icmp .eq 7, 3) := by decide +kernel
theorem dX6_waitingPier_12 : decode cX6_waitingPier 12 = .ok (.iconst 1, 1) := by decide +kernel
theorem dX6_waitingPier_13 : decode cX6_waitingPier 13 = .ok (.goto 4, 3) := by decide +kernel
theorem dX6_waitingPier_16 : decode cX6_waitingPier 16 = .ok (.iconst 0, 1) := by decide +kernel
theorem dX6_waitingPier_17 : decode cX6_waitingPier 17 = .ok (.iconst 1, 1) := by decide +kernel
theorem dX6_waitingPier_18 : decode cX6_waitingPier 18 = .ok (.invokevirtual 93, 3) := by decide +kernel
theorem dX6_waitingPier_21 : decode cX6_waitingPier 21 = .ok (.ifCond .eq 7, 3) := by decide +kernel
theorem dX6_waitingPier_24 : decode cX6_waitingPier 24 = .ok (.iload_n 2, 1) := by decide +kernel
theorem dX6_waitingPier_25 : decode cX6_waitingPier 25 = .ok (.goto 4, 3) := by decide +kernel
theorem dX6_waitingPier_28 : decode cX6_waitingPier 28 = .ok (.iconst 0, 1) := by decide +kernel
theorem dX6_waitingPier_29 : decode cX6_waitingPier 29 = .ok (.ireturn, 1) := by decide +kernel
theorem dX6_jobPier_0 : decode cX6_jobPier 0 = .ok (.aload_n 0, 1) := by decide +kernel
theorem dX6_jobPier_1 : decode cX6_jobPier 1 = .ok (.iconst 0, 1) := by decide +kernel
theorem dX6_jobPier_2 : decode cX6_jobPier 2 = .ok (.putfield 83, 3) := by decide +kernel
theorem dX6_jobPier_5 : decode cX6_jobPier 5 = .ok (.aload_n 0, 1) := by decide +kernel
theorem dX6_jobPier_6 : decode cX6_jobPier 6 = .ok (.getfield 49, 3) := by decide +kernel
theorem dX6_jobPier_9 : decode cX6_jobPier 9 = .ok (.ireturn, 1) := by decide +kernel
theorem dX6_linesToPaint_0 : decode cX6_linesToPaint 0 = .ok (.aload_n 0, 1) := by decide +kernel
theorem dX6_linesToPaint_1 : decode cX6_linesToPaint 1 = .ok (.iconst 0, 1) := by decide +kernel
theorem dX6_linesToPaint_2 : decode cX6_linesToPaint 2 = .ok (.putfield 83, 3) := by decide +kernel
theorem dX6_linesToPaint_5 : decode cX6_linesToPaint 5 = .ok (.aload_n 0, 1) := by decide +kernel
theorem dX6_linesToPaint_6 : decode cX6_linesToPaint 6 = .ok (.getfield 49, 3) := by decide +kernel
theorem dX6_linesToPaint_9 : decode cX6_linesToPaint 9 = .ok (.iconst (-1), 1) := by decide +kernel
theorem dX6_linesToPaint_10 : decode cX6_linesToPaint 10 = .ok (.if_icmp .ne 7, 3) := by decide +kernel
theorem dX6_linesToPaint_13 : decode cX6_linesToPaint 13 = .ok (.iconst 0, 1) := by decide +kernel
theorem dX6_linesToPaint_14 : decode cX6_linesToPaint 14 = .ok (.goto 9, 3) := by decide +kernel
theorem dX6_linesToPaint_17 : decode cX6_linesToPaint 17 = .ok (.aload_n 0, 1) := by decide +kernel
theorem dX6_linesToPaint_18 : decode cX6_linesToPaint 18 = .ok (.getfield 192, 3) := by decide +kernel
theorem dX6_linesToPaint_21 : decode cX6_linesToPaint 21 = .ok (.iconst 1, 1) := by decide +kernel
theorem dX6_linesToPaint_22 : decode cX6_linesToPaint 22 = .ok (.iadd, 1) := by decide +kernel
theorem dX6_linesToPaint_23 : decode cX6_linesToPaint 23 = .ok (.ireturn, 1) := by decide +kernel
theorem dX6_begin_0 : decode cX6_begin 0 = .ok (.aload_n 0, 1) := by decide +kernel
theorem dX6_begin_1 : decode cX6_begin 1 = .ok (.iload_n 1, 1) := by decide +kernel
theorem dX6_begin_2 : decode cX6_begin 2 = .ok (.aload_n 0, 1) := by decide +kernel
theorem dX6_begin_3 : decode cX6_begin 3 = .ok (.getfield 46, 3) := by decide +kernel
theorem dX6_begin_6 : decode cX6_begin 6 = .ok (.iload_n 1, 1) := by decide +kernel
theorem dX6_begin_7 : decode cX6_begin 7 = .ok (.iaload, 1) := by decide +kernel
theorem dX6_begin_8 : decode cX6_begin 8 = .ok (.invokevirtual 140, 3) := by decide +kernel
theorem dX6_begin_11 : decode cX6_begin 11 = .ok (.aload_n 0, 1) := by decide +kernel
theorem dX6_begin_12 : decode cX6_begin 12 = .ok (.getfield 53, 3) := by decide +kernel
theorem dX6_begin_15 : decode cX6_begin 15 = .ok (.iload_n 1, 1) := by decide +kernel
theorem dX6_begin_16 : decode cX6_begin 16 = .ok (.aload_n 0, 1) := by decide +kernel
theorem dX6_begin_17 : decode cX6_begin 17 = .ok (.getfield 46, 3) := by decide +kernel
theorem dX6_begin_20 : decode cX6_begin 20 = .ok (.iload_n 1, 1) := by decide +kernel
theorem dX6_begin_21 : decode cX6_begin 21 = .ok (.iaload, 1) := by decide +kernel
theorem dX6_begin_22 : decode cX6_begin 22 = .ok (.iastore, 1) := by decide +kernel
theorem dX6_begin_23 : decode cX6_begin 23 = .ok (.aload_n 0, 1) := by decide +kernel
theorem dX6_begin_24 : decode cX6_begin 24 = .ok (.getfield 46, 3) := by decide +kernel
theorem dX6_begin_27 : decode cX6_begin 27 = .ok (.iload_n 1, 1) := by decide +kernel
theorem dX6_begin_28 : decode cX6_begin 28 = .ok (.iconst (-1), 1) := by decide +kernel
theorem dX6_begin_29 : decode cX6_begin 29 = .ok (.iastore, 1) := by decide +kernel
theorem dX6_begin_30 : decode cX6_begin 30 = .ok (.aload_n 0, 1) := by decide +kernel
theorem dX6_begin_31 : decode cX6_begin 31 = .ok (.getfield 56, 3) := by decide +kernel
theorem dX6_begin_34 : decode cX6_begin 34 = .ok (.iload_n 1, 1) := by decide +kernel
theorem dX6_begin_35 : decode cX6_begin 35 = .ok (.aload_n 0, 1) := by decide +kernel
theorem dX6_begin_36 : decode cX6_begin 36 = .ok (.getfield 134, 3) := by decide +kernel
theorem dX6_begin_39 : decode cX6_begin 39 = .ok (.iastore, 1) := by decide +kernel
theorem dX6_begin_40 : decode cX6_begin 40 = .ok (.aload_n 0, 1) := by decide +kernel
theorem dX6_begin_41 : decode cX6_begin 41 = .ok (.getfield 59, 3) := by decide +kernel
end
section
theorem dX6_begin_44 : decode cX6_begin 44 = .ok (.iload_n 1, 1) := by decide +kernel
theorem dX6_begin_45 : decode cX6_begin 45 = .ok (.iconst 0, 1) := by decide +kernel
theorem dX6_begin_46 : decode cX6_begin 46 = .ok (.iastore, 1) := by decide +kernel
theorem dX6_begin_47 : decode cX6_begin 47 = .ok (.iconst 0, 1) := by decide +kernel
theorem dX6_begin_48 : decode cX6_begin 48 = .ok (.istore_n 2, 1) := by decide +kernel
theorem dX6_begin_49 : decode cX6_begin 49 = .ok (.iload_n 2, 1) := by decide +kernel
theorem dX6_begin_50 : decode cX6_begin 50 = .ok (.aload_n 0, 1) := by decide +kernel
theorem dX6_begin_51 : decode cX6_begin 51 = .ok (.getfield 134, 3) := by decide +kernel
theorem dX6_begin_54 : decode cX6_begin 54 = .ok (.if_icmp .ge 79, 3) := by decide +kernel
theorem dX6_begin_57 : decode cX6_begin 57 = .ok (.aload_n 0, 1) := by decide +kernel
theorem dX6_begin_58 : decode cX6_begin 58 = .ok (.getfield 62, 3) := by decide +kernel
theorem dX6_begin_61 : decode cX6_begin 61 = .ok (.iconst 4, 1) := by decide +kernel
theorem dX6_begin_62 : decode cX6_begin 62 = .ok (.iload_n 1, 1) := by decide +kernel
theorem dX6_begin_63 : decode cX6_begin 63 = .ok (.imul, 1) := by decide +kernel
theorem dX6_begin_64 : decode cX6_begin 64 = .ok (.iload_n 2, 1) := by decide +kernel
theorem dX6_begin_65 : decode cX6_begin 65 = .ok (.iadd, 1) := by decide +kernel
theorem dX6_begin_66 : decode cX6_begin 66 = .ok (.aload_n 0, 1) := by decide +kernel
theorem dX6_begin_67 : decode cX6_begin 67 = .ok (.getfield 80, 3) := by decide +kernel
theorem dX6_begin_70 : decode cX6_begin 70 = .ok (.iload_n 2, 1) := by decide +kernel
theorem dX6_begin_71 : decode cX6_begin 71 = .ok (.iaload, 1) := by decide +kernel
theorem dX6_begin_72 : decode cX6_begin 72 = .ok (.iastore, 1) := by decide +kernel
theorem dX6_begin_73 : decode cX6_begin 73 = .ok (.aload_n 0, 1) := by decide +kernel
theorem dX6_begin_74 : decode cX6_begin 74 = .ok (.getfield 65, 3) := by decide +kernel
theorem dX6_begin_77 : decode cX6_begin 77 = .ok (.iconst 4, 1) := by decide +kernel
theorem dX6_begin_78 : decode cX6_begin 78 = .ok (.iload_n 1, 1) := by decide +kernel
theorem dX6_begin_79 : decode cX6_begin 79 = .ok (.imul, 1) := by decide +kernel
theorem dX6_begin_80 : decode cX6_begin 80 = .ok (.iload_n 2, 1) := by decide +kernel
theorem dX6_begin_81 : decode cX6_begin 81 = .ok (.iadd, 1) := by decide +kernel
theorem dX6_begin_82 : decode cX6_begin 82 = .ok (.aload_n 0, 1) := by decide +kernel
theorem dX6_begin_83 : decode cX6_begin 83 = .ok (.getfield 77, 3) := by decide +kernel
theorem dX6_begin_86 : decode cX6_begin 86 = .ok (.iload_n 2, 1) := by decide +kernel
theorem dX6_begin_87 : decode cX6_begin 87 = .ok (.iaload, 1) := by decide +kernel
theorem dX6_begin_88 : decode cX6_begin 88 = .ok (.iastore, 1) := by decide +kernel
theorem dX6_begin_89 : decode cX6_begin 89 = .ok (.aload_n 0, 1) := by decide +kernel
theorem dX6_begin_90 : decode cX6_begin 90 = .ok (.getfield 68, 3) := by decide +kernel
theorem dX6_begin_93 : decode cX6_begin 93 = .ok (.iconst 4, 1) := by decide +kernel
theorem dX6_begin_94 : decode cX6_begin 94 = .ok (.iload_n 1, 1) := by decide +kernel
theorem dX6_begin_95 : decode cX6_begin 95 = .ok (.imul, 1) := by decide +kernel
theorem dX6_begin_96 : decode cX6_begin 96 = .ok (.iload_n 2, 1) := by decide +kernel
theorem dX6_begin_97 : decode cX6_begin 97 = .ok (.iadd, 1) := by decide +kernel
theorem dX6_begin_98 : decode cX6_begin 98 = .ok (.aload_n 0, 1) := by decide +kernel
theorem dX6_begin_99 : decode cX6_begin 99 = .ok (.iload_n 1, 1) := by decide +kernel
theorem dX6_begin_100 : decode cX6_begin 100 = .ok (.aload_n 0, 1) := by decide +kernel
theorem dX6_begin_101 : decode cX6_begin 101 = .ok (.getfield 53, 3) := by decide +kernel
theorem dX6_begin_104 : decode cX6_begin 104 = .ok (.iload_n 1, 1) := by decide +kernel
theorem dX6_begin_105 : decode cX6_begin 105 = .ok (.iaload, 1) := by decide +kernel
theorem dX6_begin_106 : decode cX6_begin 106 = .ok (.aload_n 0, 1) := by decide +kernel
theorem dX6_begin_107 : decode cX6_begin 107 = .ok (.getfield 80, 3) := by decide +kernel
theorem dX6_begin_110 : decode cX6_begin 110 = .ok (.iload_n 2, 1) := by decide +kernel
theorem dX6_begin_111 : decode cX6_begin 111 = .ok (.iaload, 1) := by decide +kernel
theorem dX6_begin_112 : decode cX6_begin 112 = .ok (.invokevirtual 146, 3) := by decide +kernel
theorem dX6_begin_115 : decode cX6_begin 115 = .ok (.iastore, 1) := by decide +kernel
theorem dX6_begin_116 : decode cX6_begin 116 = .ok (.aload_n 0, 1) := by decide +kernel
theorem dX6_begin_117 : decode cX6_begin 117 = .ok (.getfield 71, 3) := by decide +kernel
theorem dX6_begin_120 : decode cX6_begin 120 = .ok (.iconst 4, 1) := by decide +kernel
theorem dX6_begin_121 : decode cX6_begin 121 = .ok (.iload_n 1, 1) := by decide +kernel
theorem dX6_begin_122 : decode cX6_begin 122 = .ok (.imul, 1) := by decide +kernel
theorem dX6_begin_123 : decode cX6_begin 123 = .ok (.iload_n 2, 1) := by decide +kernel
theorem dX6_begin_124 : decode cX6_begin 124 = .ok (.iadd, 1) := by decide +kernel
theorem dX6_begin_125 : decode cX6_begin 125 = .ok (.iconst 0, 1) := by decide +kernel
theorem dX6_begin_126 : decode cX6_begin 126 = .ok (.iastore, 1) := by decide +kernel
theorem dX6_begin_127 : decode cX6_begin 127 = .ok (.iinc 2 1, 3) := by decide +kernel
theorem dX6_begin_130 : decode cX6_begin 130 = .ok (.goto (-81), 3) := by decide +kernel
theorem dX6_begin_133 : decode cX6_begin 133 = .ok (.aload_n 0, 1) := by decide +kernel
theorem dX6_begin_134 : decode cX6_begin 134 = .ok (.iload_n 1, 1) := by decide +kernel
theorem dX6_begin_135 : decode cX6_begin 135 = .ok (.putfield 49, 3) := by decide +kernel
theorem dX6_begin_138 : decode cX6_begin 138 = .ok (.aload_n 0, 1) := by decide +kernel
theorem dX6_begin_139 : decode cX6_begin 139 = .ok (.aload_n 0, 1) := by decide +kernel
theorem dX6_begin_140 : decode cX6_begin 140 = .ok (.getfield 134, 3) := by decide +kernel
theorem dX6_begin_143 : decode cX6_begin 143 = .ok (.iconst 1, 1) := by decide +kernel
theorem dX6_begin_144 : decode cX6_begin 144 = .ok (.isub, 1) := by decide +kernel
theorem dX6_begin_145 : decode cX6_begin 145 = .ok (.putfield 192, 3) := by decide +kernel
theorem dX6_begin_148 : decode cX6_begin 148 = .ok (.return_, 1) := by decide +kernel
theorem dX6_drip_0 : decode cX6_drip 0 = .ok (.aload_n 0, 1) := by decide +kernel
theorem dX6_drip_1 : decode cX6_drip 1 = .ok (.dup, 1) := by decide +kernel
theorem dX6_drip_2 : decode cX6_drip 2 = .ok (.getfield 180, 3) := by decide +kernel
theorem dX6_drip_5 : decode cX6_drip 5 = .ok (.aload_n 0, 1) := by decide +kernel
theorem dX6_drip_6 : decode cX6_drip 6 = .ok (.getfield 22, 3) := by decide +kernel
theorem dX6_drip_9 : decode cX6_drip 9 = .ok (.iload_n 1, 1) := by decide +kernel
theorem dX6_drip_10 : decode cX6_drip 10 = .ok (.iaload, 1) := by decide +kernel
theorem dX6_drip_11 : decode cX6_drip 11 = .ok (.iadd, 1) := by decide +kernel
theorem dX6_drip_12 : decode cX6_drip 12 = .ok (.putfield 180, 3) := by decide +kernel
theorem dX6_drip_15 : decode cX6_drip 15 = .ok (.aload_n 0, 1) := by decide +kernel
theorem dX6_drip_16 : decode cX6_drip 16 = .ok (.getfield 59, 3) := by decide +kernel
theorem dX6_drip_19 : decode cX6_drip 19 = .ok (.iload_n 1, 1) := by decide +kernel
theorem dX6_drip_20 : decode cX6_drip 20 = .ok (.dup2, 1) := by decide +kernel
theorem dX6_drip_21 : decode cX6_drip 21 = .ok (.iaload, 1) := by decide +kernel
theorem dX6_drip_22 : decode cX6_drip 22 = .ok (.aload_n 0, 1) := by decide +kernel
theorem dX6_drip_23 : decode cX6_drip 23 = .ok (.getfield 22, 3) := by decide +kernel
theorem dX6_drip_26 : decode cX6_drip 26 = .ok (.iload_n 1, 1) := by decide +kernel
theorem dX6_drip_27 : decode cX6_drip 27 = .ok (.iaload, 1) := by decide +kernel
theorem dX6_drip_28 : decode cX6_drip 28 = .ok (.iadd, 1) := by decide +kernel
theorem dX6_drip_29 : decode cX6_drip 29 = .ok (.iastore, 1) := by decide +kernel
theorem dX6_drip_30 : decode cX6_drip 30 = .ok (.aload_n 0, 1) := by decide +kernel
theorem dX6_drip_31 : decode cX6_drip 31 = .ok (.getfield 59, 3) := by decide +kernel
theorem dX6_drip_34 : decode cX6_drip 34 = .ok (.iload_n 1, 1) := by decide +kernel
theorem dX6_drip_35 : decode cX6_drip 35 = .ok (.iaload, 1) := by decide +kernel
theorem dX6_drip_36 : decode cX6_drip 36 = .ok (.bipush 12, 2) := by decide +kernel
theorem dX6_drip_38 : decode cX6_drip 38 = .ok (.if_icmp .ge 4, 3) := by decide +kernel
theorem dX6_drip_41 : decode cX6_drip 41 = .ok (.return_, 1) := by decide +kernel
theorem dX6_drip_42 : decode cX6_drip 42 = .ok (.aload_n 0, 1) := by decide +kernel
theorem dX6_drip_43 : decode cX6_drip 43 = .ok (.getfield 59, 3) := by decide +kernel
theorem dX6_drip_46 : decode cX6_drip 46 = .ok (.iload_n 1, 1) := by decide +kernel
theorem dX6_drip_47 : decode cX6_drip 47 = .ok (.dup2, 1) := by decide +kernel
theorem dX6_drip_48 : decode cX6_drip 48 = .ok (.iaload, 1) := by decide +kernel
theorem dX6_drip_49 : decode cX6_drip 49 = .ok (.bipush 12, 2) := by decide +kernel
theorem dX6_drip_51 : decode cX6_drip 51 = .ok (.isub, 1) := by decide +kernel
theorem dX6_drip_52 : decode cX6_drip 52 = .ok (.iastore, 1) := by decide +kernel
theorem dX6_drip_53 : decode cX6_drip 53 = .ok (.iconst 4, 1) := by decide +kernel
theorem dX6_drip_54 : decode cX6_drip 54 = .ok (.iload_n 1, 1) := by decide +kernel
theorem dX6_drip_55 : decode cX6_drip 55 = .ok (.imul, 1) := by decide +kernel
theorem dX6_drip_56 : decode cX6_drip 56 = .ok (.aload_n 0, 1) := by decide +kernel
theorem dX6_drip_57 : decode cX6_drip 57 = .ok (.getfield 56, 3) := by decide +kernel
theorem dX6_drip_60 : decode cX6_drip 60 = .ok (.iload_n 1, 1) := by decide +kernel
theorem dX6_drip_61 : decode cX6_drip 61 = .ok (.iaload, 1) := by decide +kernel
theorem dX6_drip_62 : decode cX6_drip 62 = .ok (.iadd, 1) := by decide +kernel
theorem dX6_drip_63 : decode cX6_drip 63 = .ok (.iconst 1, 1) := by decide +kernel
theorem dX6_drip_64 : decode cX6_drip 64 = .ok (.isub, 1) := by decide +kernel
theorem dX6_drip_65 : decode cX6_drip 65 = .ok (.istore_n 2, 1) := by decide +kernel
theorem dX6_drip_66 : decode cX6_drip 66 = .ok (.aload_n 0, 1) := by decide +kernel
theorem dX6_drip_67 : decode cX6_drip 67 = .ok (.getfield 71, 3) := by decide +kernel
theorem dX6_drip_70 : decode cX6_drip 70 = .ok (.iload_n 2, 1) := by decide +kernel
theorem dX6_drip_71 : decode cX6_drip 71 = .ok (.iaload, 1) := by decide +kernel
theorem dX6_drip_72 : decode cX6_drip 72 = .ok (.iconst 1, 1) := by decide +kernel
theorem dX6_drip_73 : decode cX6_drip 73 = .ok (.if_icmp .eq 9, 3) := by decide +kernel
theorem dX6_drip_76 : decode cX6_drip 76 = .ok (.iinc 2 (-1), 3) := by decide +kernel
theorem dX6_drip_79 : decode cX6_drip 79 = .ok (.goto (-13), 3) := by decide +kernel
theorem dX6_drip_82 : decode cX6_drip 82 = .ok (.aload_n 0, 1) := by decide +kernel
theorem dX6_drip_83 : decode cX6_drip 83 = .ok (.getfield 71, 3) := by decide +kernel
theorem dX6_drip_86 : decode cX6_drip 86 = .ok (.iload_n 2, 1) := by decide +kernel
theorem dX6_drip_87 : decode cX6_drip 87 = .ok (.iconst 2, 1) := by decide +kernel
theorem dX6_drip_88 : decode cX6_drip 88 = .ok (.iastore, 1) := by decide +kernel
theorem dX6_drip_89 : decode cX6_drip 89 = .ok (.return_, 1) := by decide +kernel
theorem dX6_makeReadable_0 : decode cX6_makeReadable 0 = .ok (.aload_n 0, 1) := by decide +kernel
theorem dX6_makeReadable_1 : decode cX6_makeReadable 1 = .ok (.dup, 1) := by decide +kernel
theorem dX6_makeReadable_2 : decode cX6_makeReadable 2 = .ok (.getfield 177, 3) := by decide +kernel
theorem dX6_makeReadable_5 : decode cX6_makeReadable 5 = .ok (.iconst 5, 1) := by decide +kernel
theorem dX6_makeReadable_6 : decode cX6_makeReadable 6 = .ok (.iadd, 1) := by decide +kernel
theorem dX6_makeReadable_7 : decode cX6_makeReadable 7 = .ok (.putfield 177, 3) := by decide +kernel
theorem dX6_makeReadable_10 : decode cX6_makeReadable 10 = .ok (.aload_n 0, 1) := by decide +kernel
theorem dX6_makeReadable_11 : decode cX6_makeReadable 11 = .ok (.getfield 71, 3) := by decide +kernel
theorem dX6_makeReadable_14 : decode cX6_makeReadable 14 = .ok (.iload_n 1, 1) := by decide +kernel
theorem dX6_makeReadable_15 : decode cX6_makeReadable 15 = .ok (.iconst 1, 1) := by decide +kernel
theorem dX6_makeReadable_16 : decode cX6_makeReadable 16 = .ok (.iastore, 1) := by decide +kernel
theorem dX6_makeReadable_17 : decode cX6_makeReadable 17 = .ok (.aload_n 0, 1) := by decide +kernel
theorem dX6_makeReadable_18 : decode cX6_makeReadable 18 = .ok (.getfield 74, 3) := by decide +kernel
theorem dX6_makeReadable_21 : decode cX6_makeReadable 21 = .ok (.iload_n 1, 1) := by decide +kernel
theorem dX6_makeReadable_22 : decode cX6_makeReadable 22 = .ok (.aload_n 0, 1) := by decide +kernel
theorem dX6_makeReadable_23 : decode cX6_makeReadable 23 = .ok (.getfield 102, 3) := by decide +kernel
theorem dX6_makeReadable_26 : decode cX6_makeReadable 26 = .ok (.iastore, 1) := by decide +kernel
theorem dX6_makeReadable_27 : decode cX6_makeReadable 27 = .ok (.return_, 1) := by decide +kernel
theorem dX6_paintLine_0 : decode cX6_paintLine 0 = .ok (.aload_n 0, 1) := by decide +kernel
theorem dX6_paintLine_1 : decode cX6_paintLine 1 = .ok (.getfield 49, 3) := by decide +kernel
theorem dX6_paintLine_4 : decode cX6_paintLine 4 = .ok (.iconst (-1), 1) := by decide +kernel
theorem dX6_paintLine_5 : decode cX6_paintLine 5 = .ok (.if_icmp .ne 21, 3) := by decide +kernel
theorem dX6_paintLine_8 : decode cX6_paintLine 8 = .ok (.aload_n 0, 1) := by decide +kernel
theorem dX6_paintLine_9 : decode cX6_paintLine 9 = .ok (.iconst 0, 1) := by decide +kernel
theorem dX6_paintLine_10 : decode cX6_paintLine 10 = .ok (.invokevirtual 189, 3) := by decide +kernel
theorem dX6_paintLine_13 : decode cX6_paintLine 13 = .ok (.istore_n 1, 1) := by decide +kernel
theorem dX6_paintLine_14 : decode cX6_paintLine 14 = .ok (.iload_n 1, 1) := by decide +kernel
theorem dX6_paintLine_15 : decode cX6_paintLine 15 = .ok (.iconst (-1), 1) := by decide +kernel
theorem dX6_paintLine_16 : decode cX6_paintLine 16 = .ok (.if_icmp .ne 5, 3) := by decide +kernel
theorem dX6_paintLine_19 : decode cX6_paintLine 19 = .ok (.iconst 0, 1) := by decide +kernel
theorem dX6_paintLine_20 : decode cX6_paintLine 20 = .ok (.ireturn, 1) := by decide +kernel
theorem dX6_paintLine_21 : decode cX6_paintLine 21 = .ok (.aload_n 0, 1) := by decide +kernel
theorem dX6_paintLine_22 : decode cX6_paintLine 22 = .ok (.iload_n 1, 1) := by decide +kernel
theorem dX6_paintLine_23 : decode cX6_paintLine 23 = .ok (.invokevirtual 195, 3) := by decide +kernel
theorem dX6_paintLine_26 : decode cX6_paintLine 26 = .ok (.aload_n 0, 1) := by decide +kernel
theorem dX6_paintLine_27 : decode cX6_paintLine 27 = .ok (.getfield 49, 3) := by decide +kernel
theorem dX6_paintLine_30 : decode cX6_paintLine 30 = .ok (.istore_n 1, 1) := by decide +kernel
theorem dX6_paintLine_31 : decode cX6_paintLine 31 = .ok (.iconst 4, 1) := by decide +kernel
theorem dX6_paintLine_32 : decode cX6_paintLine 32 = .ok (.iload_n 1, 1) := by decide +kernel
theorem dX6_paintLine_33 : decode cX6_paintLine 33 = .ok (.imul, 1) := by decide +kernel
theorem dX6_paintLine_34 : decode cX6_paintLine 34 = .ok (.aload_n 0, 1) := by decide +kernel
theorem dX6_paintLine_35 : decode cX6_paintLine 35 = .ok (.getfield 192, 3) := by decide +kernel
theorem dX6_paintLine_38 : decode cX6_paintLine 38 = .ok (.iadd, 1) := by decide +kernel
theorem dX6_paintLine_39 : decode cX6_paintLine 39 = .ok (.istore_n 2, 1) := by decide +kernel
theorem dX6_paintLine_40 : decode cX6_paintLine 40 = .ok (.aload_n 0, 1) := by decide +kernel
theorem dX6_paintLine_41 : decode cX6_paintLine 41 = .ok (.aload_n 0, 1) := by decide +kernel
theorem dX6_paintLine_42 : decode cX6_paintLine 42 = .ok (.getfield 62, 3) := by decide +kernel
theorem dX6_paintLine_45 : decode cX6_paintLine 45 = .ok (.iload_n 2, 1) := by decide +kernel
theorem dX6_paintLine_46 : decode cX6_paintLine 46 = .ok (.iaload, 1) := by decide +kernel
theorem dX6_paintLine_47 : decode cX6_paintLine 47 = .ok (.iconst 5, 1) := by decide +kernel
theorem dX6_paintLine_48 : decode cX6_paintLine 48 = .ok (.aload_n 0, 1) := by decide +kernel
theorem dX6_paintLine_49 : decode cX6_paintLine 49 = .ok (.getfield 22, 3) := by decide +kernel
theorem dX6_paintLine_52 : decode cX6_paintLine 52 = .ok (.iload_n 1, 1) := by decide +kernel
theorem dX6_paintLine_53 : decode cX6_paintLine 53 = .ok (.iaload, 1) := by decide +kernel
theorem dX6_paintLine_54 : decode cX6_paintLine 54 = .ok (.iadd, 1) := by decide +kernel
theorem dX6_paintLine_55 : decode cX6_paintLine 55 = .ok (.invokevirtual 198, 3) := by decide +kernel
theorem dX6_paintLine_58 : decode cX6_paintLine 58 = .ok (.ifCond .ne 5, 3) := by decide +kernel
theorem dX6_paintLine_61 : decode cX6_paintLine 61 = .ok (.iconst 0, 1) := by decide +kernel
theorem dX6_paintLine_62 : decode cX6_paintLine 62 = .ok (.ireturn, 1) := by decide +kernel
theorem dX6_paintLine_63 : decode cX6_paintLine 63 = .ok (.aload_n 0, 1) := by decide +kernel
theorem dX6_paintLine_64 : decode cX6_paintLine 64 = .ok (.iload_n 2, 1) := by decide +kernel
theorem dX6_paintLine_65 : decode cX6_paintLine 65 = .ok (.invokevirtual 201, 3) := by decide +kernel
theorem dX6_paintLine_68 : decode cX6_paintLine 68 = .ok (.aload_n 0, 1) := by decide +kernel
theorem dX6_paintLine_69 : decode cX6_paintLine 69 = .ok (.iload_n 1, 1) := by decide +kernel
theorem dX6_paintLine_70 : decode cX6_paintLine 70 = .ok (.invokevirtual 204, 3) := by decide +kernel
theorem dX6_paintLine_73 : decode cX6_paintLine 73 = .ok (.aload_n 0, 1) := by decide +kernel
theorem dX6_paintLine_74 : decode cX6_paintLine 74 = .ok (.aload_n 0, 1) := by decide +kernel
theorem dX6_paintLine_75 : decode cX6_paintLine 75 = .ok (.getfield 192, 3) := by decide +kernel
theorem dX6_paintLine_78 : decode cX6_paintLine 78 = .ok (.ifCond .ne 7, 3) := by decide +kernel
theorem dX6_paintLine_81 : decode cX6_paintLine 81 = .ok (.iconst (-1), 1) := by decide +kernel
theorem dX6_paintLine_82 : decode cX6_paintLine 82 = .ok (.goto 4, 3) := by decide +kernel
theorem dX6_paintLine_85 : decode cX6_paintLine 85 = .ok (.iload_n 1, 1) := by decide +kernel
theorem dX6_paintLine_86 : decode cX6_paintLine 86 = .ok (.putfield 49, 3) := by decide +kernel
theorem dX6_paintLine_89 : decode cX6_paintLine 89 = .ok (.aload_n 0, 1) := by decide +kernel
theorem dX6_paintLine_90 : decode cX6_paintLine 90 = .ok (.dup, 1) := by decide +kernel
theorem dX6_paintLine_91 : decode cX6_paintLine 91 = .ok (.getfield 192, 3) := by decide +kernel
theorem dX6_paintLine_94 : decode cX6_paintLine 94 = .ok (.iconst 1, 1) := by decide +kernel
theorem dX6_paintLine_95 : decode cX6_paintLine 95 = .ok (.isub, 1) := by decide +kernel
theorem dX6_paintLine_96 : decode cX6_paintLine 96 = .ok (.putfield 192, 3) := by decide +kernel
theorem dX6_paintLine_99 : decode cX6_paintLine 99 = .ok (.iconst 1, 1) := by decide +kernel
theorem dX6_paintLine_100 : decode cX6_paintLine 100 = .ok (.ireturn, 1) := by decide +kernel
theorem dX6_paint_0 : decode cX6_paint 0 = .ok (.aload_n 0, 1) := by decide +kernel
theorem dX6_paint_1 : decode cX6_paint 1 = .ok (.iload_n 1, 1) := by decide +kernel
theorem dX6_paint_2 : decode cX6_paint 2 = .ok (.iconst 1, 1) := by decide +kernel
theorem dX6_paint_3 : decode cX6_paint 3 = .ok (.bipush 50, 2) := by decide +kernel
theorem dX6_paint_5 : decode cX6_paint 5 = .ok (.invokestatic 89, 3) := by decide +kernel
theorem dX6_paint_8 : decode cX6_paint 8 = .ok (.iconst 1, 1) := by decide +kernel
theorem dX6_paint_9 : decode cX6_paint 9 = .ok (.invokevirtual 93, 3) := by decide +kernel
theorem dX6_paint_12 : decode cX6_paint 12 = .ok (.ifCond .ne 5, 3) := by decide +kernel
theorem dX6_paint_15 : decode cX6_paint 15 = .ok (.iconst 0, 1) := by decide +kernel
theorem dX6_paint_16 : decode cX6_paint 16 = .ok (.ireturn, 1) := by decide +kernel
theorem dX6_paint_17 : decode cX6_paint 17 = .ok (.iconst 0, 1) := by decide +kernel
theorem dX6_paint_18 : decode cX6_paint 18 = .ok (.istore_n 2, 1) := by decide +kernel
theorem dX6_paint_19 : decode cX6_paint 19 = .ok (.iload_n 2, 1) := by decide +kernel
theorem dX6_paint_20 : decode cX6_paint 20 = .ok (.iload_n 1, 1) := by decide +kernel
theorem dX6_paint_21 : decode cX6_paint 21 = .ok (.if_icmp .ge 16, 3) := by decide +kernel
theorem dX6_paint_24 : decode cX6_paint 24 = .ok (.aload_n 0, 1) := by decide +kernel
theorem dX6_paint_25 : decode cX6_paint 25 = .ok (.invokevirtual 207, 3) := by decide +kernel
theorem dX6_paint_28 : decode cX6_paint 28 = .ok (.ifCond .eq 9, 3) := by decide +kernel
theorem dX6_paint_31 : decode cX6_paint 31 = .ok (.iinc 2 1, 3) := by decide +kernel
theorem dX6_paint_34 : decode cX6_paint 34 = .ok (.goto (-15), 3) := by decide +kernel
theorem dX6_paint_37 : decode cX6_paint 37 = .ok (.iload_n 2, 1) := by decide +kernel
theorem dX6_paint_38 : decode cX6_paint 38 = .ok (.ireturn, 1) := by decide +kernel
theorem dX6_giveUpJob_0 : decode cX6_giveUpJob 0 = .ok (.aload_n 0, 1) := by decide +kernel
theorem dX6_giveUpJob_1 : decode cX6_giveUpJob 1 = .ok (.aload_n 0, 1) := by decide +kernel
theorem dX6_giveUpJob_2 : decode cX6_giveUpJob 2 = .ok (.getfield 49, 3) := by decide +kernel
theorem dX6_giveUpJob_5 : decode cX6_giveUpJob 5 = .ok (.iconst (-1), 1) := by decide +kernel
theorem dX6_giveUpJob_6 : decode cX6_giveUpJob 6 = .ok (.if_icmp .eq 7, 3) := by decide +kernel
theorem dX6_giveUpJob_9 : decode cX6_giveUpJob 9 = .ok (.iconst 1, 1) := by decide +kernel
theorem dX6_giveUpJob_10 : decode cX6_giveUpJob 10 = .ok (.goto 4, 3) := by decide +kernel
theorem dX6_giveUpJob_13 : decode cX6_giveUpJob 13 = .ok (.iconst 0, 1) := by decide +kernel
theorem dX6_giveUpJob_14 : decode cX6_giveUpJob 14 = .ok (.iconst 1, 1) := by decide +kernel
theorem dX6_giveUpJob_15 : decode cX6_giveUpJob 15 = .ok (.invokevirtual 93, 3) := by decide +kernel
theorem dX6_giveUpJob_18 : decode cX6_giveUpJob 18 = .ok (.ifCond .ne 5, 3) := by decide +kernel
theorem dX6_giveUpJob_21 : decode cX6_giveUpJob 21 = .ok (.iconst 0, 1) := by decide +kernel
theorem dX6_giveUpJob_22 : decode cX6_giveUpJob 22 = .ok (.ireturn, 1) := by decide +kernel
theorem dX6_giveUpJob_23 : decode cX6_giveUpJob 23 = .ok (.aload_n 0, 1) := by decide +kernel
theorem dX6_giveUpJob_24 : decode cX6_giveUpJob 24 = .ok (.iconst (-1), 1) := by decide +kernel
theorem dX6_giveUpJob_25 : decode cX6_giveUpJob 25 = .ok (.putfield 49, 3) := by decide +kernel
theorem dX6_giveUpJob_28 : decode cX6_giveUpJob 28 = .ok (.aload_n 0, 1) := by decide +kernel
theorem dX6_giveUpJob_29 : decode cX6_giveUpJob 29 = .ok (.getfield 192, 3) := by decide +kernel
theorem dX6_giveUpJob_32 : decode cX6_giveUpJob 32 = .ok (.iconst 1, 1) := by decide +kernel
theorem dX6_giveUpJob_33 : decode cX6_giveUpJob 33 = .ok (.iadd, 1) := by decide +kernel
theorem dX6_giveUpJob_34 : decode cX6_giveUpJob 34 = .ok (.ireturn, 1) := by decide +kernel
theorem dX6_touchUp_0 : decode cX6_touchUp 0 = .ok (.aload_n 0, 1) := by decide +kernel
theorem dX6_touchUp_1 : decode cX6_touchUp 1 = .ok (.iload_n 1, 1) := by decide +kernel
theorem dX6_touchUp_2 : decode cX6_touchUp 2 = .ok (.invokevirtual 125, 3) := by decide +kernel
theorem dX6_touchUp_5 : decode cX6_touchUp 5 = .ok (.ifCond .ne 5, 3) := by decide +kernel
theorem dX6_touchUp_8 : decode cX6_touchUp 8 = .ok (.iconst 0, 1) := by decide +kernel
theorem dX6_touchUp_9 : decode cX6_touchUp 9 = .ok (.ireturn, 1) := by decide +kernel
theorem dX6_touchUp_10 : decode cX6_touchUp 10 = .ok (.iconst 0, 1) := by decide +kernel
theorem dX6_touchUp_11 : decode cX6_touchUp 11 = .ok (.istore_n 2, 1) := by decide +kernel
theorem dX6_touchUp_12 : decode cX6_touchUp 12 = .ok (.iload_n 2, 1) := by decide +kernel
theorem dX6_touchUp_13 : decode cX6_touchUp 13 = .ok (.aload_n 0, 1) := by decide +kernel
theorem dX6_touchUp_14 : decode cX6_touchUp 14 = .ok (.getfield 56, 3) := by decide +kernel
theorem dX6_touchUp_17 : decode cX6_touchUp 17 = .ok (.iload_n 1, 1) := by decide +kernel
theorem dX6_touchUp_18 : decode cX6_touchUp 18 = .ok (.iaload, 1) := by decide +kernel
theorem dX6_touchUp_19 : decode cX6_touchUp 19 = .ok (.if_icmp .ge 37, 3) := by decide +kernel
theorem dX6_touchUp_22 : decode cX6_touchUp 22 = .ok (.aload_n 0, 1) := by decide +kernel
theorem dX6_touchUp_23 : decode cX6_touchUp 23 = .ok (.getfield 71, 3) := by decide +kernel
theorem dX6_touchUp_26 : decode cX6_touchUp 26 = .ok (.iconst 4, 1) := by decide +kernel
theorem dX6_touchUp_27 : decode cX6_touchUp 27 = .ok (.iload_n 1, 1) := by decide +kernel
theorem dX6_touchUp_28 : decode cX6_touchUp 28 = .ok (.imul, 1) := by decide +kernel
theorem dX6_touchUp_29 : decode cX6_touchUp 29 = .ok (.iload_n 2, 1) := by decide +kernel
theorem dX6_touchUp_30 : decode cX6_touchUp 30 = .ok (.iadd, 1) := by decide +kernel
theorem dX6_touchUp_31 : decode cX6_touchUp 31 = .ok (.iaload, 1) := by decide +kernel
theorem dX6_touchUp_32 : decode cX6_touchUp 32 = .ok (.iconst 2, 1) := by decide +kernel
theorem dX6_touchUp_33 : decode cX6_touchUp 33 = .ok (.if_icmp .eq 23, 3) := by decide +kernel
theorem dX6_touchUp_36 : decode cX6_touchUp 36 = .ok (.aload_n 0, 1) := by decide +kernel
theorem dX6_touchUp_37 : decode cX6_touchUp 37 = .ok (.getfield 71, 3) := by decide +kernel
theorem dX6_touchUp_40 : decode cX6_touchUp 40 = .ok (.iconst 4, 1) := by decide +kernel
theorem dX6_touchUp_41 : decode cX6_touchUp 41 = .ok (.iload_n 1, 1) := by decide +kernel
theorem dX6_touchUp_42 : decode cX6_touchUp 42 = .ok (.imul, 1) := by decide +kernel
theorem dX6_touchUp_43 : decode cX6_touchUp 43 = .ok (.iload_n 2, 1) := by decide +kernel
theorem dX6_touchUp_44 : decode cX6_touchUp 44 = .ok (.iadd, 1) := by decide +kernel
theorem dX6_touchUp_45 : decode cX6_touchUp 45 = .ok (.iaload, 1) := by decide +kernel
theorem dX6_touchUp_46 : decode cX6_touchUp 46 = .ok (.iconst 3, 1) := by decide +kernel
theorem dX6_touchUp_47 : decode cX6_touchUp 47 = .ok (.if_icmp .eq 9, 3) := by decide +kernel
theorem dX6_touchUp_50 : decode cX6_touchUp 50 = .ok (.iinc 2 1, 3) := by decide +kernel
theorem dX6_touchUp_53 : decode cX6_touchUp 53 = .ok (.goto (-41), 3) := by decide +kernel
theorem dX6_touchUp_56 : decode cX6_touchUp 56 = .ok (.iload_n 2, 1) := by decide +kernel
theorem dX6_touchUp_57 : decode cX6_touchUp 57 = .ok (.aload_n 0, 1) := by decide +kernel
theorem dX6_touchUp_58 : decode cX6_touchUp 58 = .ok (.getfield 56, 3) := by decide +kernel
theorem dX6_touchUp_61 : decode cX6_touchUp 61 = .ok (.iload_n 1, 1) := by decide +kernel
theorem dX6_touchUp_62 : decode cX6_touchUp 62 = .ok (.iaload, 1) := by decide +kernel
theorem dX6_touchUp_63 : decode cX6_touchUp 63 = .ok (.if_icmp .ne 9, 3) := by decide +kernel
theorem dX6_touchUp_66 : decode cX6_touchUp 66 = .ok (.aload_n 0, 1) := by decide +kernel
theorem dX6_touchUp_67 : decode cX6_touchUp 67 = .ok (.iconst 2, 1) := by decide +kernel
theorem dX6_touchUp_68 : decode cX6_touchUp 68 = .ok (.invokevirtual 98, 3) := by decide +kernel
theorem dX6_touchUp_71 : decode cX6_touchUp 71 = .ok (.ireturn, 1) := by decide +kernel
theorem dX6_touchUp_72 : decode cX6_touchUp 72 = .ok (.aload_n 0, 1) := by decide +kernel
theorem dX6_touchUp_73 : decode cX6_touchUp 73 = .ok (.aload_n 0, 1) := by decide +kernel
theorem dX6_touchUp_74 : decode cX6_touchUp 74 = .ok (.getfield 62, 3) := by decide +kernel
theorem dX6_touchUp_77 : decode cX6_touchUp 77 = .ok (.iconst 4, 1) := by decide +kernel
theorem dX6_touchUp_78 : decode cX6_touchUp 78 = .ok (.iload_n 1, 1) := by decide +kernel
theorem dX6_touchUp_79 : decode cX6_touchUp 79 = .ok (.imul, 1) := by decide +kernel
theorem dX6_touchUp_80 : decode cX6_touchUp 80 = .ok (.iload_n 2, 1) := by decide +kernel
theorem dX6_touchUp_81 : decode cX6_touchUp 81 = .ok (.iadd, 1) := by decide +kernel
theorem dX6_touchUp_82 : decode cX6_touchUp 82 = .ok (.iaload, 1) := by decide +kernel
theorem dX6_touchUp_83 : decode cX6_touchUp 83 = .ok (.iconst 5, 1) := by decide +kernel
theorem dX6_touchUp_84 : decode cX6_touchUp 84 = .ok (.invokevirtual 198, 3) := by decide +kernel
theorem dX6_touchUp_87 : decode cX6_touchUp 87 = .ok (.ifCond .ne 9, 3) := by decide +kernel
theorem dX6_touchUp_90 : decode cX6_touchUp 90 = .ok (.aload_n 0, 1) := by decide +kernel
theorem dX6_touchUp_91 : decode cX6_touchUp 91 = .ok (.iconst 3, 1) := by decide +kernel
theorem dX6_touchUp_92 : decode cX6_touchUp 92 = .ok (.invokevirtual 98, 3) := by decide +kernel
theorem dX6_touchUp_95 : decode cX6_touchUp 95 = .ok (.ireturn, 1) := by decide +kernel
theorem dX6_touchUp_96 : decode cX6_touchUp 96 = .ok (.aload_n 0, 1) := by decide +kernel
theorem dX6_touchUp_97 : decode cX6_touchUp 97 = .ok (.iconst 4, 1) := by decide +kernel
theorem dX6_touchUp_98 : decode cX6_touchUp 98 = .ok (.iload_n 1, 1) := by decide +kernel
theorem dX6_touchUp_99 : decode cX6_touchUp 99 = .ok (.imul, 1) := by decide +kernel
theorem dX6_touchUp_100 : decode cX6_touchUp 100 = .ok (.iload_n 2, 1) := by decide +kernel
theorem dX6_touchUp_101 : decode cX6_touchUp 101 = .ok (.iadd, 1) := by decide +kernel
theorem dX6_touchUp_102 : decode cX6_touchUp 102 = .ok (.invokevirtual 201, 3) := by decide +kernel
theorem dX6_touchUp_105 : decode cX6_touchUp 105 = .ok (.iload_n 2, 1) := by decide +kernel
theorem dX6_touchUp_106 : decode cX6_touchUp 106 = .ok (.ireturn, 1) := by decide +kernel
theorem dX6_boardDay_0 : decode cX6_boardDay 0 = .ok (.aload_n 0, 1) := by decide +kernel
theorem dX6_boardDay_1 : decode cX6_boardDay 1 = .ok (.iload_n 1, 1) := by decide +kernel
theorem dX6_boardDay_2 : decode cX6_boardDay 2 = .ok (.invokevirtual 125, 3) := by decide +kernel
theorem dX6_boardDay_5 : decode cX6_boardDay 5 = .ok (.ifCond .eq 12, 3) := by decide +kernel
theorem dX6_boardDay_8 : decode cX6_boardDay 8 = .ok (.aload_n 0, 1) := by decide +kernel
theorem dX6_boardDay_9 : decode cX6_boardDay 9 = .ok (.getfield 53, 3) := by decide +kernel
theorem dX6_boardDay_12 : decode cX6_boardDay 12 = .ok (.iload_n 1, 1) := by decide +kernel
theorem dX6_boardDay_13 : decode cX6_boardDay 13 = .ok (.iaload, 1) := by decide +kernel
theorem dX6_boardDay_14 : decode cX6_boardDay 14 = .ok (.goto 4, 3) := by decide +kernel
theorem dX6_boardDay_17 : decode cX6_boardDay 17 = .ok (.iconst 0, 1) := by decide +kernel
theorem dX6_boardDay_18 : decode cX6_boardDay 18 = .ok (.ireturn, 1) := by decide +kernel
theorem dX6_lineCount_0 : decode cX6_lineCount 0 = .ok (.aload_n 0, 1) := by decide +kernel
theorem dX6_lineCount_1 : decode cX6_lineCount 1 = .ok (.iload_n 1, 1) := by decide +kernel
theorem dX6_lineCount_2 : decode cX6_lineCount 2 = .ok (.invokevirtual 125, 3) := by decide +kernel
theorem dX6_lineCount_5 : decode cX6_lineCount 5 = .ok (.ifCond .eq 12, 3) := by decide +kernel
theorem dX6_lineCount_8 : decode cX6_lineCount 8 = .ok (.aload_n 0, 1) := by decide +kernel
theorem dX6_lineCount_9 : decode cX6_lineCount 9 = .ok (.getfield 56, 3) := by decide +kernel
theorem dX6_lineCount_12 : decode cX6_lineCount 12 = .ok (.iload_n 1, 1) := by decide +kernel
theorem dX6_lineCount_13 : decode cX6_lineCount 13 = .ok (.iaload, 1) := by decide +kernel
theorem dX6_lineCount_14 : decode cX6_lineCount 14 = .ok (.goto 4, 3) := by decide +kernel
theorem dX6_lineCount_17 : decode cX6_lineCount 17 = .ok (.iconst 0, 1) := by decide +kernel
theorem dX6_lineCount_18 : decode cX6_lineCount 18 = .ok (.ireturn, 1) := by decide +kernel
theorem dX6_isLine_0 : decode cX6_isLine 0 = .ok (.aload_n 0, 1) := by decide +kernel
theorem dX6_isLine_1 : decode cX6_isLine 1 = .ok (.iload_n 1, 1) := by decide +kernel
theorem dX6_isLine_2 : decode cX6_isLine 2 = .ok (.invokevirtual 125, 3) := by decide +kernel
theorem dX6_isLine_5 : decode cX6_isLine 5 = .ok (.ifCond .eq 28, 3) := by decide +kernel
theorem dX6_isLine_8 : decode cX6_isLine 8 = .ok (.aload_n 0, 1) := by decide +kernel
theorem dX6_isLine_9 : decode cX6_isLine 9 = .ok (.iload_n 2, 1) := by decide +kernel
theorem dX6_isLine_10 : decode cX6_isLine 10 = .ok (.iconst 0, 1) := by decide +kernel
theorem dX6_isLine_11 : decode cX6_isLine 11 = .ok (.aload_n 0, 1) := by decide +kernel
theorem dX6_isLine_12 : decode cX6_isLine 12 = .ok (.getfield 56, 3) := by decide +kernel
theorem dX6_isLine_15 : decode cX6_isLine 15 = .ok (.iload_n 1, 1) := by decide +kernel
theorem dX6_isLine_16 : decode cX6_isLine 16 = .ok (.iaload, 1) := by decide +kernel
theorem dX6_isLine_17 : decode cX6_isLine 17 = .ok (.iconst 1, 1) := by decide +kernel
theorem dX6_isLine_18 : decode cX6_isLine 18 = .ok (.isub, 1) := by decide +kernel
theorem dX6_isLine_19 : decode cX6_isLine 19 = .ok (.invokestatic 89, 3) := by decide +kernel
theorem dX6_isLine_22 : decode cX6_isLine 22 = .ok (.iconst 1, 1) := by decide +kernel
theorem dX6_isLine_23 : decode cX6_isLine 23 = .ok (.invokevirtual 93, 3) := by decide +kernel
theorem dX6_isLine_26 : decode cX6_isLine 26 = .ok (.ifCond .eq 7, 3) := by decide +kernel
theorem dX6_isLine_29 : decode cX6_isLine 29 = .ok (.iconst 1, 1) := by decide +kernel
theorem dX6_isLine_30 : decode cX6_isLine 30 = .ok (.goto 4, 3) := by decide +kernel
theorem dX6_isLine_33 : decode cX6_isLine 33 = .ok (.iconst 0, 1) := by decide +kernel
theorem dX6_isLine_34 : decode cX6_isLine 34 = .ok (.ireturn, 1) := by decide +kernel
theorem dX6_lineState_0 : decode cX6_lineState 0 = .ok (.aload_n 0, 1) := by decide +kernel
theorem dX6_lineState_1 : decode cX6_lineState 1 = .ok (.iload_n 1, 1) := by decide +kernel
theorem dX6_lineState_2 : decode cX6_lineState 2 = .ok (.iload_n 2, 1) := by decide +kernel
theorem dX6_lineState_3 : decode cX6_lineState 3 = .ok (.invokevirtual 211, 3) := by decide +kernel
theorem dX6_lineState_6 : decode cX6_lineState 6 = .ok (.ifCond .eq 16, 3) := by decide +kernel
theorem dX6_lineState_9 : decode cX6_lineState 9 = .ok (.aload_n 0, 1) := by decide +kernel
theorem dX6_lineState_10 : decode cX6_lineState 10 = .ok (.getfield 71, 3) := by decide +kernel
theorem dX6_lineState_13 : decode cX6_lineState 13 = .ok (.iconst 4, 1) := by decide +kernel
theorem dX6_lineState_14 : decode cX6_lineState 14 = .ok (.iload_n 1, 1) := by decide +kernel
theorem dX6_lineState_15 : decode cX6_lineState 15 = .ok (.imul, 1) := by decide +kernel
theorem dX6_lineState_16 : decode cX6_lineState 16 = .ok (.iload_n 2, 1) := by decide +kernel
theorem dX6_lineState_17 : decode cX6_lineState 17 = .ok (.iadd, 1) := by decide +kernel
theorem dX6_lineState_18 : decode cX6_lineState 18 = .ok (.iaload, 1) := by decide +kernel
theorem dX6_lineState_19 : decode cX6_lineState 19 = .ok (.goto 4, 3) := by decide +kernel
theorem dX6_lineState_22 : decode cX6_lineState 22 = .ok (.iconst 0, 1) := by decide +kernel
theorem dX6_lineState_23 : decode cX6_lineState 23 = .ok (.ireturn, 1) := by decide +kernel
theorem dX6_ofLine_0 : decode cX6_ofLine 0 = .ok (.aload_n 0, 1) := by decide +kernel
theorem dX6_ofLine_1 : decode cX6_ofLine 1 = .ok (.iload_n 2, 1) := by decide +kernel
theorem dX6_ofLine_2 : decode cX6_ofLine 2 = .ok (.iload_n 3, 1) := by decide +kernel
theorem dX6_ofLine_3 : decode cX6_ofLine 3 = .ok (.invokevirtual 211, 3) := by decide +kernel
theorem dX6_ofLine_6 : decode cX6_ofLine 6 = .ok (.ifCond .ne 5, 3) := by decide +kernel
theorem dX6_ofLine_9 : decode cX6_ofLine 9 = .ok (.iconst 0, 1) := by decide +kernel
theorem dX6_ofLine_10 : decode cX6_ofLine 10 = .ok (.ireturn, 1) := by decide +kernel
theorem dX6_ofLine_11 : decode cX6_ofLine 11 = .ok (.aload_n 0, 1) := by decide +kernel
theorem dX6_ofLine_12 : decode cX6_ofLine 12 = .ok (.getfield 71, 3) := by decide +kernel
theorem dX6_ofLine_15 : decode cX6_ofLine 15 = .ok (.iconst 4, 1) := by decide +kernel
theorem dX6_ofLine_16 : decode cX6_ofLine 16 = .ok (.iload_n 2, 1) := by decide +kernel
theorem dX6_ofLine_17 : decode cX6_ofLine 17 = .ok (.imul, 1) := by decide +kernel
theorem dX6_ofLine_18 : decode cX6_ofLine 18 = .ok (.iload_n 3, 1) := by decide +kernel
theorem dX6_ofLine_19 : decode cX6_ofLine 19 = .ok (.iadd, 1) := by decide +kernel
theorem dX6_ofLine_20 : decode cX6_ofLine 20 = .ok (.iaload, 1) := by decide +kernel
theorem dX6_ofLine_21 : decode cX6_ofLine 21 = .ok (.ifCond .ne 11, 3) := by decide +kernel
theorem dX6_ofLine_24 : decode cX6_ofLine 24 = .ok (.aload_n 0, 1) := by decide +kernel
theorem dX6_ofLine_25 : decode cX6_ofLine 25 = .ok (.iconst 2, 1) := by decide +kernel
theorem dX6_ofLine_26 : decode cX6_ofLine 26 = .ok (.invokevirtual 98, 3) := by decide +kernel
theorem dX6_ofLine_29 : decode cX6_ofLine 29 = .ok (.goto 10, 3) := by decide +kernel
theorem dX6_ofLine_32 : decode cX6_ofLine 32 = .ok (.aload_n 1, 1) := by decide +kernel
theorem dX6_ofLine_33 : decode cX6_ofLine 33 = .ok (.iconst 4, 1) := by decide +kernel
theorem dX6_ofLine_34 : decode cX6_ofLine 34 = .ok (.iload_n 2, 1) := by decide +kernel
theorem dX6_ofLine_35 : decode cX6_ofLine 35 = .ok (.imul, 1) := by decide +kernel
theorem dX6_ofLine_36 : decode cX6_ofLine 36 = .ok (.iload_n 3, 1) := by decide +kernel
theorem dX6_ofLine_37 : decode cX6_ofLine 37 = .ok (.iadd, 1) := by decide +kernel
theorem dX6_ofLine_38 : decode cX6_ofLine 38 = .ok (.iaload, 1) := by decide +kernel
theorem dX6_ofLine_39 : decode cX6_ofLine 39 = .ok (.ireturn, 1) := by decide +kernel
theorem dX6_lineMinute_0 : decode cX6_lineMinute 0 = .ok (.aload_n 0, 1) := by decide +kernel
theorem dX6_lineMinute_1 : decode cX6_lineMinute 1 = .ok (.aload_n 0, 1) := by decide +kernel
theorem dX6_lineMinute_2 : decode cX6_lineMinute 2 = .ok (.getfield 65, 3) := by decide +kernel
theorem dX6_lineMinute_5 : decode cX6_lineMinute 5 = .ok (.iload_n 1, 1) := by decide +kernel
theorem dX6_lineMinute_6 : decode cX6_lineMinute 6 = .ok (.iload_n 2, 1) := by decide +kernel
theorem dX6_lineMinute_7 : decode cX6_lineMinute 7 = .ok (.invokevirtual 214, 3) := by decide +kernel
theorem dX6_lineMinute_10 : decode cX6_lineMinute 10 = .ok (.ireturn, 1) := by decide +kernel
theorem dX6_lineHeight_0 : decode cX6_lineHeight 0 = .ok (.aload_n 0, 1) := by decide +kernel
theorem dX6_lineHeight_1 : decode cX6_lineHeight 1 = .ok (.aload_n 0, 1) := by decide +kernel
theorem dX6_lineHeight_2 : decode cX6_lineHeight 2 = .ok (.getfield 68, 3) := by decide +kernel
theorem dX6_lineHeight_5 : decode cX6_lineHeight 5 = .ok (.iload_n 1, 1) := by decide +kernel
theorem dX6_lineHeight_6 : decode cX6_lineHeight 6 = .ok (.iload_n 2, 1) := by decide +kernel
theorem dX6_lineHeight_7 : decode cX6_lineHeight 7 = .ok (.invokevirtual 214, 3) := by decide +kernel
theorem dX6_lineHeight_10 : decode cX6_lineHeight 10 = .ok (.ireturn, 1) := by decide +kernel
theorem dX6_dripsOf_0 : decode cX6_dripsOf 0 = .ok (.aload_n 0, 1) := by decide +kernel
theorem dX6_dripsOf_1 : decode cX6_dripsOf 1 = .ok (.iload_n 1, 1) := by decide +kernel
theorem dX6_dripsOf_2 : decode cX6_dripsOf 2 = .ok (.invokevirtual 125, 3) := by decide +kernel
theorem dX6_dripsOf_5 : decode cX6_dripsOf 5 = .ok (.ifCond .eq 12, 3) := by decide +kernel
theorem dX6_dripsOf_8 : decode cX6_dripsOf 8 = .ok (.aload_n 0, 1) := by decide +kernel
theorem dX6_dripsOf_9 : decode cX6_dripsOf 9 = .ok (.getfield 59, 3) := by decide +kernel
theorem dX6_dripsOf_12 : decode cX6_dripsOf 12 = .ok (.iload_n 1, 1) := by decide +kernel
theorem dX6_dripsOf_13 : decode cX6_dripsOf 13 = .ok (.iaload, 1) := by decide +kernel
theorem dX6_dripsOf_14 : decode cX6_dripsOf 14 = .ok (.goto 4, 3) := by decide +kernel
theorem dX6_dripsOf_17 : decode cX6_dripsOf 17 = .ok (.iconst 0, 1) := by decide +kernel
theorem dX6_dripsOf_18 : decode cX6_dripsOf 18 = .ok (.ireturn, 1) := by decide +kernel
theorem dX6_unreadable_0 : decode cX6_unreadable 0 = .ok (.iconst 0, 1) := by decide +kernel
theorem dX6_unreadable_1 : decode cX6_unreadable 1 = .ok (.istore_n 2, 1) := by decide +kernel
theorem dX6_unreadable_2 : decode cX6_unreadable 2 = .ok (.iconst 0, 1) := by decide +kernel
theorem dX6_unreadable_3 : decode cX6_unreadable 3 = .ok (.istore_n 3, 1) := by decide +kernel
theorem dX6_unreadable_4 : decode cX6_unreadable 4 = .ok (.iload_n 3, 1) := by decide +kernel
theorem dX6_unreadable_5 : decode cX6_unreadable 5 = .ok (.aload_n 0, 1) := by decide +kernel
theorem dX6_unreadable_6 : decode cX6_unreadable 6 = .ok (.getfield 56, 3) := by decide +kernel
theorem dX6_unreadable_9 : decode cX6_unreadable 9 = .ok (.iload_n 1, 1) := by decide +kernel
theorem dX6_unreadable_10 : decode cX6_unreadable 10 = .ok (.iaload, 1) := by decide +kernel
theorem dX6_unreadable_11 : decode cX6_unreadable 11 = .ok (.if_icmp .ge 33, 3) := by decide +kernel
theorem dX6_unreadable_14 : decode cX6_unreadable 14 = .ok (.iload_n 2, 1) := by decide +kernel
theorem dX6_unreadable_15 : decode cX6_unreadable 15 = .ok (.aload_n 0, 1) := by decide +kernel
theorem dX6_unreadable_16 : decode cX6_unreadable 16 = .ok (.getfield 71, 3) := by decide +kernel
theorem dX6_unreadable_19 : decode cX6_unreadable 19 = .ok (.iconst 4, 1) := by decide +kernel
theorem dX6_unreadable_20 : decode cX6_unreadable 20 = .ok (.iload_n 1, 1) := by decide +kernel
theorem dX6_unreadable_21 : decode cX6_unreadable 21 = .ok (.imul, 1) := by decide +kernel
theorem dX6_unreadable_22 : decode cX6_unreadable 22 = .ok (.iload_n 3, 1) := by decide +kernel
theorem dX6_unreadable_23 : decode cX6_unreadable 23 = .ok (.iadd, 1) := by decide +kernel
theorem dX6_unreadable_24 : decode cX6_unreadable 24 = .ok (.iaload, 1) := by decide +kernel
theorem dX6_unreadable_25 : decode cX6_unreadable 25 = .ok (.iconst 1, 1) := by decide +kernel
theorem dX6_unreadable_26 : decode cX6_unreadable 26 = .ok (.if_icmp .ne 7, 3) := by decide +kernel
theorem dX6_unreadable_29 : decode cX6_unreadable 29 = .ok (.iconst 0, 1) := by decide +kernel
theorem dX6_unreadable_30 : decode cX6_unreadable 30 = .ok (.goto 6, 3) := by decide +kernel
theorem dX6_unreadable_33 : decode cX6_unreadable 33 = .ok (.iconst 1, 1) := by decide +kernel
theorem dX6_unreadable_34 : decode cX6_unreadable 34 = .ok (.iload_n 3, 1) := by decide +kernel
theorem dX6_unreadable_35 : decode cX6_unreadable 35 = .ok (.ishl, 1) := by decide +kernel
theorem dX6_unreadable_36 : decode cX6_unreadable 36 = .ok (.ior, 1) := by decide +kernel
theorem dX6_unreadable_37 : decode cX6_unreadable 37 = .ok (.istore_n 2, 1) := by decide +kernel
theorem dX6_unreadable_38 : decode cX6_unreadable 38 = .ok (.iinc 3 1, 3) := by decide +kernel
theorem dX6_unreadable_41 : decode cX6_unreadable 41 = .ok (.goto (-37), 3) := by decide +kernel
theorem dX6_unreadable_44 : decode cX6_unreadable 44 = .ok (.iload_n 2, 1) := by decide +kernel
theorem dX6_unreadable_45 : decode cX6_unreadable 45 = .ok (.ireturn, 1) := by decide +kernel
theorem dX6_unreadableLines_0 : decode cX6_unreadableLines 0 = .ok (.aload_n 0, 1) := by decide +kernel
theorem dX6_unreadableLines_1 : decode cX6_unreadableLines 1 = .ok (.iload_n 1, 1) := by decide +kernel
theorem dX6_unreadableLines_2 : decode cX6_unreadableLines 2 = .ok (.invokevirtual 125, 3) := by decide +kernel
theorem dX6_unreadableLines_5 : decode cX6_unreadableLines 5 = .ok (.ifCond .eq 11, 3) := by decide +kernel
theorem dX6_unreadableLines_8 : decode cX6_unreadableLines 8 = .ok (.aload_n 0, 1) := by decide +kernel
theorem dX6_unreadableLines_9 : decode cX6_unreadableLines 9 = .ok (.iload_n 1, 1) := by decide +kernel
theorem dX6_unreadableLines_10 : decode cX6_unreadableLines 10 = .ok (.invokevirtual 217, 3) := by decide +kernel
theorem dX6_unreadableLines_13 : decode cX6_unreadableLines 13 = .ok (.goto 4, 3) := by decide +kernel
theorem dX6_unreadableLines_16 : decode cX6_unreadableLines 16 = .ok (.iconst 0, 1) := by decide +kernel
theorem dX6_unreadableLines_17 : decode cX6_unreadableLines 17 = .ok (.ireturn, 1) := by decide +kernel
theorem dX6_right_0 : decode cX6_right 0 = .ok (.aload_n 0, 1) := by decide +kernel
theorem dX6_right_1 : decode cX6_right 1 = .ok (.getfield 53, 3) := by decide +kernel
theorem dX6_right_4 : decode cX6_right 4 = .ok (.iload_n 1, 1) := by decide +kernel
theorem dX6_right_5 : decode cX6_right 5 = .ok (.iaload, 1) := by decide +kernel
theorem dX6_right_6 : decode cX6_right 6 = .ok (.aload_n 0, 1) := by decide +kernel
theorem dX6_right_7 : decode cX6_right 7 = .ok (.getfield 102, 3) := by decide +kernel
theorem dX6_right_10 : decode cX6_right 10 = .ok (.if_icmp .ne 11, 3) := by decide +kernel
theorem dX6_right_13 : decode cX6_right 13 = .ok (.aload_n 0, 1) := by decide +kernel
theorem dX6_right_14 : decode cX6_right 14 = .ok (.iload_n 1, 1) := by decide +kernel
theorem dX6_right_15 : decode cX6_right 15 = .ok (.invokevirtual 217, 3) := by decide +kernel
theorem dX6_right_18 : decode cX6_right 18 = .ok (.ifCond .eq 5, 3) := by decide +kernel
theorem dX6_right_21 : decode cX6_right 21 = .ok (.iconst 0, 1) := by decide +kernel
theorem dX6_right_22 : decode cX6_right 22 = .ok (.ireturn, 1) := by decide +kernel
theorem dX6_right_23 : decode cX6_right 23 = .ok (.aload_n 0, 1) := by decide +kernel
theorem dX6_right_24 : decode cX6_right 24 = .ok (.iload_n 1, 1) := by decide +kernel
theorem dX6_right_25 : decode cX6_right 25 = .ok (.aload_n 0, 1) := by decide +kernel
theorem dX6_right_26 : decode cX6_right 26 = .ok (.getfield 102, 3) := by decide +kernel
theorem dX6_right_29 : decode cX6_right 29 = .ok (.invokevirtual 140, 3) := by decide +kernel
theorem dX6_right_32 : decode cX6_right 32 = .ok (.aload_n 0, 1) := by decide +kernel
theorem dX6_right_33 : decode cX6_right 33 = .ok (.getfield 134, 3) := by decide +kernel
theorem dX6_right_36 : decode cX6_right 36 = .ok (.aload_n 0, 1) := by decide +kernel
theorem dX6_right_37 : decode cX6_right 37 = .ok (.getfield 56, 3) := by decide +kernel
theorem dX6_right_40 : decode cX6_right 40 = .ok (.iload_n 1, 1) := by decide +kernel
theorem dX6_right_41 : decode cX6_right 41 = .ok (.iaload, 1) := by decide +kernel
theorem dX6_right_42 : decode cX6_right 42 = .ok (.if_icmp .ne 7, 3) := by decide +kernel
theorem dX6_right_45 : decode cX6_right 45 = .ok (.iconst 1, 1) := by decide +kernel
theorem dX6_right_46 : decode cX6_right 46 = .ok (.goto 4, 3) := by decide +kernel
theorem dX6_right_49 : decode cX6_right 49 = .ok (.iconst 0, 1) := by decide +kernel
theorem dX6_right_50 : decode cX6_right 50 = .ok (.istore_n 2, 1) := by decide +kernel
theorem dX6_right_51 : decode cX6_right 51 = .ok (.iconst 0, 1) := by decide +kernel
theorem dX6_right_52 : decode cX6_right 52 = .ok (.istore_n 3, 1) := by decide +kernel
theorem dX6_right_53 : decode cX6_right 53 = .ok (.iload_n 3, 1) := by decide +kernel
theorem dX6_right_54 : decode cX6_right 54 = .ok (.aload_n 0, 1) := by decide +kernel
theorem dX6_right_55 : decode cX6_right 55 = .ok (.getfield 134, 3) := by decide +kernel
theorem dX6_right_58 : decode cX6_right 58 = .ok (.if_icmp .ge 83, 3) := by decide +kernel
theorem dX6_right_61 : decode cX6_right 61 = .ok (.iload_n 2, 1) := by decide +kernel
theorem dX6_right_62 : decode cX6_right 62 = .ok (.ifCond .eq 79, 3) := by decide +kernel
theorem dX6_right_65 : decode cX6_right 65 = .ok (.iconst 4, 1) := by decide +kernel
theorem dX6_right_66 : decode cX6_right 66 = .ok (.iload_n 1, 1) := by decide +kernel
theorem dX6_right_67 : decode cX6_right 67 = .ok (.imul, 1) := by decide +kernel
theorem dX6_right_68 : decode cX6_right 68 = .ok (.iload_n 3, 1) := by decide +kernel
theorem dX6_right_69 : decode cX6_right 69 = .ok (.iadd, 1) := by decide +kernel
theorem dX6_right_70 : decode cX6_right 70 = .ok (.istore 4, 2) := by decide +kernel
theorem dX6_right_72 : decode cX6_right 72 = .ok (.aload_n 0, 1) := by decide +kernel
theorem dX6_right_73 : decode cX6_right 73 = .ok (.getfield 62, 3) := by decide +kernel
theorem dX6_right_76 : decode cX6_right 76 = .ok (.iload 4, 2) := by decide +kernel
theorem dX6_right_78 : decode cX6_right 78 = .ok (.iaload, 1) := by decide +kernel
theorem dX6_right_79 : decode cX6_right 79 = .ok (.aload_n 0, 1) := by decide +kernel
theorem dX6_right_80 : decode cX6_right 80 = .ok (.getfield 80, 3) := by decide +kernel
theorem dX6_right_83 : decode cX6_right 83 = .ok (.iload_n 3, 1) := by decide +kernel
theorem dX6_right_84 : decode cX6_right 84 = .ok (.iaload, 1) := by decide +kernel
theorem dX6_right_85 : decode cX6_right 85 = .ok (.if_icmp .ne 48, 3) := by decide +kernel
theorem dX6_right_88 : decode cX6_right 88 = .ok (.aload_n 0, 1) := by decide +kernel
theorem dX6_right_89 : decode cX6_right 89 = .ok (.getfield 65, 3) := by decide +kernel
theorem dX6_right_92 : decode cX6_right 92 = .ok (.iload 4, 2) := by decide +kernel
theorem dX6_right_94 : decode cX6_right 94 = .ok (.iaload, 1) := by decide +kernel
theorem dX6_right_95 : decode cX6_right 95 = .ok (.aload_n 0, 1) := by decide +kernel
theorem dX6_right_96 : decode cX6_right 96 = .ok (.getfield 77, 3) := by decide +kernel
theorem dX6_right_99 : decode cX6_right 99 = .ok (.iload_n 3, 1) := by decide +kernel
theorem dX6_right_100 : decode cX6_right 100 = .ok (.iaload, 1) := by decide +kernel
theorem dX6_right_101 : decode cX6_right 101 = .ok (.if_icmp .ne 32, 3) := by decide +kernel
theorem dX6_right_104 : decode cX6_right 104 = .ok (.aload_n 0, 1) := by decide +kernel
theorem dX6_right_105 : decode cX6_right 105 = .ok (.getfield 68, 3) := by decide +kernel
theorem dX6_right_108 : decode cX6_right 108 = .ok (.iload 4, 2) := by decide +kernel
theorem dX6_right_110 : decode cX6_right 110 = .ok (.iaload, 1) := by decide +kernel
theorem dX6_right_111 : decode cX6_right 111 = .ok (.aload_n 0, 1) := by decide +kernel
theorem dX6_right_112 : decode cX6_right 112 = .ok (.iload_n 1, 1) := by decide +kernel
theorem dX6_right_113 : decode cX6_right 113 = .ok (.aload_n 0, 1) := by decide +kernel
theorem dX6_right_114 : decode cX6_right 114 = .ok (.getfield 102, 3) := by decide +kernel
theorem dX6_right_117 : decode cX6_right 117 = .ok (.aload_n 0, 1) := by decide +kernel
theorem dX6_right_118 : decode cX6_right 118 = .ok (.getfield 80, 3) := by decide +kernel
theorem dX6_right_121 : decode cX6_right 121 = .ok (.iload_n 3, 1) := by decide +kernel
theorem dX6_right_122 : decode cX6_right 122 = .ok (.iaload, 1) := by decide +kernel
theorem dX6_right_123 : decode cX6_right 123 = .ok (.invokevirtual 146, 3) := by decide +kernel
theorem dX6_right_126 : decode cX6_right 126 = .ok (.if_icmp .ne 7, 3) := by decide +kernel
theorem dX6_right_129 : decode cX6_right 129 = .ok (.iconst 1, 1) := by decide +kernel
theorem dX6_right_130 : decode cX6_right 130 = .ok (.goto 4, 3) := by decide +kernel
theorem dX6_right_133 : decode cX6_right 133 = .ok (.iconst 0, 1) := by decide +kernel
theorem dX6_right_134 : decode cX6_right 134 = .ok (.istore_n 2, 1) := by decide +kernel
theorem dX6_right_135 : decode cX6_right 135 = .ok (.iinc 3 1, 3) := by decide +kernel
theorem dX6_right_138 : decode cX6_right 138 = .ok (.goto (-85), 3) := by decide +kernel
theorem dX6_right_141 : decode cX6_right 141 = .ok (.iload_n 2, 1) := by decide +kernel
theorem dX6_right_142 : decode cX6_right 142 = .ok (.ireturn, 1) := by decide +kernel
theorem dX6_isRight_0 : decode cX6_isRight 0 = .ok (.aload_n 0, 1) := by decide +kernel
theorem dX6_isRight_1 : decode cX6_isRight 1 = .ok (.iload_n 1, 1) := by decide +kernel
theorem dX6_isRight_2 : decode cX6_isRight 2 = .ok (.invokevirtual 125, 3) := by decide +kernel
theorem dX6_isRight_5 : decode cX6_isRight 5 = .ok (.ifCond .eq 15, 3) := by decide +kernel
theorem dX6_isRight_8 : decode cX6_isRight 8 = .ok (.aload_n 0, 1) := by decide +kernel
theorem dX6_isRight_9 : decode cX6_isRight 9 = .ok (.iload_n 1, 1) := by decide +kernel
theorem dX6_isRight_10 : decode cX6_isRight 10 = .ok (.invokevirtual 220, 3) := by decide +kernel
theorem dX6_isRight_13 : decode cX6_isRight 13 = .ok (.ifCond .eq 7, 3) := by decide +kernel
theorem dX6_isRight_16 : decode cX6_isRight 16 = .ok (.iconst 1, 1) := by decide +kernel
theorem dX6_isRight_17 : decode cX6_isRight 17 = .ok (.goto 4, 3) := by decide +kernel
theorem dX6_isRight_20 : decode cX6_isRight 20 = .ok (.iconst 0, 1) := by decide +kernel
theorem dX6_isRight_21 : decode cX6_isRight 21 = .ok (.ireturn, 1) := by decide +kernel
theorem dX6_rightBoards_0 : decode cX6_rightBoards 0 = .ok (.aload_n 0, 1) := by decide +kernel
theorem dX6_rightBoards_1 : decode cX6_rightBoards 1 = .ok (.iconst 0, 1) := by decide +kernel
theorem dX6_rightBoards_2 : decode cX6_rightBoards 2 = .ok (.putfield 83, 3) := by decide +kernel
theorem dX6_rightBoards_5 : decode cX6_rightBoards 5 = .ok (.iconst 0, 1) := by decide +kernel
theorem dX6_rightBoards_6 : decode cX6_rightBoards 6 = .ok (.istore_n 1, 1) := by decide +kernel
theorem dX6_rightBoards_7 : decode cX6_rightBoards 7 = .ok (.iconst 0, 1) := by decide +kernel
theorem dX6_rightBoards_8 : decode cX6_rightBoards 8 = .ok (.istore_n 2, 1) := by decide +kernel
theorem dX6_rightBoards_9 : decode cX6_rightBoards 9 = .ok (.iload_n 2, 1) := by decide +kernel
theorem dX6_rightBoards_10 : decode cX6_rightBoards 10 = .ok (.aload_n 0, 1) := by decide +kernel
theorem dX6_rightBoards_11 : decode cX6_rightBoards 11 = .ok (.getfield 86, 3) := by decide +kernel
theorem dX6_rightBoards_14 : decode cX6_rightBoards 14 = .ok (.if_icmp .ge 27, 3) := by decide +kernel
theorem dX6_rightBoards_17 : decode cX6_rightBoards 17 = .ok (.iload_n 1, 1) := by decide +kernel
theorem dX6_rightBoards_18 : decode cX6_rightBoards 18 = .ok (.aload_n 0, 1) := by decide +kernel
theorem dX6_rightBoards_19 : decode cX6_rightBoards 19 = .ok (.iload_n 2, 1) := by decide +kernel
theorem dX6_rightBoards_20 : decode cX6_rightBoards 20 = .ok (.invokevirtual 220, 3) := by decide +kernel
theorem dX6_rightBoards_23 : decode cX6_rightBoards 23 = .ok (.ifCond .eq 9, 3) := by decide +kernel
theorem dX6_rightBoards_26 : decode cX6_rightBoards 26 = .ok (.iconst 1, 1) := by decide +kernel
theorem dX6_rightBoards_27 : decode cX6_rightBoards 27 = .ok (.iload_n 2, 1) := by decide +kernel
theorem dX6_rightBoards_28 : decode cX6_rightBoards 28 = .ok (.ishl, 1) := by decide +kernel
theorem dX6_rightBoards_29 : decode cX6_rightBoards 29 = .ok (.goto 4, 3) := by decide +kernel
theorem dX6_rightBoards_32 : decode cX6_rightBoards 32 = .ok (.iconst 0, 1) := by decide +kernel
theorem dX6_rightBoards_33 : decode cX6_rightBoards 33 = .ok (.ior, 1) := by decide +kernel
theorem dX6_rightBoards_34 : decode cX6_rightBoards 34 = .ok (.istore_n 1, 1) := by decide +kernel
theorem dX6_rightBoards_35 : decode cX6_rightBoards 35 = .ok (.iinc 2 1, 3) := by decide +kernel
theorem dX6_rightBoards_38 : decode cX6_rightBoards 38 = .ok (.goto (-29), 3) := by decide +kernel
theorem dX6_rightBoards_41 : decode cX6_rightBoards 41 = .ok (.iload_n 1, 1) := by decide +kernel
theorem dX6_rightBoards_42 : decode cX6_rightBoards 42 = .ok (.ireturn, 1) := by decide +kernel
theorem dJ9_floorMod_7cf53_0 : decode cJ9_floorMod_7cf53 0 = .ok (.iload_n 0, 1) := by decide +kernel
theorem dJ9_floorMod_7cf53_1 : decode cJ9_floorMod_7cf53 1 = .ok (.iload_n 1, 1) := by decide +kernel
theorem dJ9_floorMod_7cf53_2 : decode cJ9_floorMod_7cf53 2 = .ok (.irem, 1) := by decide +kernel
theorem dJ9_floorMod_7cf53_3 : decode cJ9_floorMod_7cf53 3 = .ok (.istore_n 2, 1) := by decide +kernel
theorem dJ9_floorMod_7cf53_4 : decode cJ9_floorMod_7cf53 4 = .ok (.iload_n 0, 1) := by decide +kernel
theorem dJ9_floorMod_7cf53_5 : decode cJ9_floorMod_7cf53 5 = .ok (.iload_n 1, 1) := by decide +kernel
theorem dJ9_floorMod_7cf53_6 : decode cJ9_floorMod_7cf53 6 = .ok (.ixor, 1) := by decide +kernel
theorem dJ9_floorMod_7cf53_7 : decode cJ9_floorMod_7cf53 7 = .ok (.ifCond .ge 11, 3) := by decide +kernel
theorem dJ9_floorMod_7cf53_10 : decode cJ9_floorMod_7cf53 10 = .ok (.iload_n 2, 1) := by decide +kernel
theorem dJ9_floorMod_7cf53_11 : decode cJ9_floorMod_7cf53 11 = .ok (.ifCond .eq 7, 3) := by decide +kernel
theorem dJ9_floorMod_7cf53_14 : decode cJ9_floorMod_7cf53 14 = .ok (.iload_n 2, 1) := by decide +kernel
theorem dJ9_floorMod_7cf53_15 : decode cJ9_floorMod_7cf53 15 = .ok (.iload_n 1, 1) := by decide +kernel
theorem dJ9_floorMod_7cf53_16 : decode cJ9_floorMod_7cf53 16 = .ok (.iadd, 1) := by decide +kernel
theorem dJ9_floorMod_7cf53_17 : decode cJ9_floorMod_7cf53 17 = .ok (.ireturn, 1) := by decide +kernel
theorem dJ9_floorMod_7cf53_18 : decode cJ9_floorMod_7cf53 18 = .ok (.iload_n 2, 1) := by decide +kernel
theorem dJ9_floorMod_7cf53_19 : decode cJ9_floorMod_7cf53 19 = .ok (.ireturn, 1) := by decide +kernel
theorem dJ9_abs_0f7a4_0 : decode cJ9_abs_0f7a4 0 = .ok (.iload_n 0, 1) := by decide +kernel
theorem dJ9_abs_0f7a4_1 : decode cJ9_abs_0f7a4 1 = .ok (.ifCond .ge 8, 3) := by decide +kernel
theorem dJ9_abs_0f7a4_4 : decode cJ9_abs_0f7a4 4 = .ok (.iload_n 0, 1) := by decide +kernel
theorem dJ9_abs_0f7a4_5 : decode cJ9_abs_0f7a4 5 = .ok (.ineg, 1) := by decide +kernel
theorem dJ9_abs_0f7a4_6 : decode cJ9_abs_0f7a4 6 = .ok (.goto 4, 3) := by decide +kernel
theorem dJ9_abs_0f7a4_9 : decode cJ9_abs_0f7a4 9 = .ok (.iload_n 0, 1) := by decide +kernel
theorem dJ9_abs_0f7a4_10 : decode cJ9_abs_0f7a4 10 = .ok (.ireturn, 1) := by decide +kernel
theorem dJ9_max_7cf53_0 : decode cJ9_max_7cf53 0 = .ok (.iload_n 0, 1) := by decide +kernel
theorem dJ9_max_7cf53_1 : decode cJ9_max_7cf53 1 = .ok (.iload_n 1, 1) := by decide +kernel
theorem dJ9_max_7cf53_2 : decode cJ9_max_7cf53 2 = .ok (.if_icmp .lt 7, 3) := by decide +kernel
theorem dJ9_max_7cf53_5 : decode cJ9_max_7cf53 5 = .ok (.iload_n 0, 1) := by decide +kernel
theorem dJ9_max_7cf53_6 : decode cJ9_max_7cf53 6 = .ok (.goto 4, 3) := by decide +kernel
theorem dJ9_max_7cf53_9 : decode cJ9_max_7cf53 9 = .ok (.iload_n 1, 1) := by decide +kernel
theorem dJ9_max_7cf53_10 : decode cJ9_max_7cf53 10 = .ok (.ireturn, 1) := by decide +kernel
theorem dJ9_min_7cf53_0 : decode cJ9_min_7cf53 0 = .ok (.iload_n 0, 1) := by decide +kernel
theorem dJ9_min_7cf53_1 : decode cJ9_min_7cf53 1 = .ok (.iload_n 1, 1) := by decide +kernel
theorem dJ9_min_7cf53_2 : decode cJ9_min_7cf53 2 = .ok (.if_icmp .gt 7, 3) := by decide +kernel
theorem dJ9_min_7cf53_5 : decode cJ9_min_7cf53 5 = .ok (.iload_n 0, 1) := by decide +kernel
theorem dJ9_min_7cf53_6 : decode cJ9_min_7cf53 6 = .ok (.goto 4, 3) := by decide +kernel
theorem dJ9_min_7cf53_9 : decode cJ9_min_7cf53 9 = .ok (.iload_n 1, 1) := by decide +kernel
theorem dJ9_min_7cf53_10 : decode cJ9_min_7cf53 10 = .ok (.ireturn, 1) := by decide +kernel
theorem dL_addPier_0 : decode cL_addPier 0 = .ok (.aload 6, 2) := by decide +kernel
theorem dL_addPier_2 : decode cL_addPier 2 = .ok (.iconst 0, 1) := by decide +kernel
theorem dL_addPier_3 : decode cL_addPier 3 = .ok (.aload_n 0, 1) := by decide +kernel
theorem dL_addPier_4 : decode cL_addPier 4 = .ok (.iload_n 1, 1) := by decide +kernel
theorem dL_addPier_5 : decode cL_addPier 5 = .ok (.iload_n 2, 1) := by decide +kernel
theorem dL_addPier_6 : decode cL_addPier 6 = .ok (.iload_n 3, 1) := by decide +kernel
theorem dL_addPier_7 : decode cL_addPier 7 = .ok (.iload 4, 2) := by decide +kernel
theorem dL_addPier_9 : decode cL_addPier 9 = .ok (.iload 5, 2) := by decide +kernel
theorem dL_addPier_11 : decode cL_addPier 11 = .ok (.invokevirtual 7, 3) := by decide +kernel
theorem dL_addPier_14 : decode cL_addPier 14 = .ok (.i2l, 1) := by decide +kernel
theorem dL_addPier_15 : decode cL_addPier 15 = .ok (.lastore, 1) := by decide +kernel
theorem dL_addPier_16 : decode cL_addPier 16 = .ok (.goto 11, 3) := by decide +kernel
theorem dL_addPier_19 : decode cL_addPier 19 = .ok (.astore 7, 2) := by decide +kernel
theorem dL_addPier_21 : decode cL_addPier 21 = .ok (.iconst 1, 1) := by decide +kernel
theorem dL_addPier_22 : decode cL_addPier 22 = .ok (.ireturn, 1) := by decide +kernel
theorem dL_addPier_23 : decode cL_addPier 23 = .ok (.astore 7, 2) := by decide +kernel
theorem dL_addPier_25 : decode cL_addPier 25 = .ok (.iconst 2, 1) := by decide +kernel
theorem dL_addPier_26 : decode cL_addPier 26 = .ok (.ireturn, 1) := by decide +kernel
theorem dL_addPier_27 : decode cL_addPier 27 = .ok (.iconst 0, 1) := by decide +kernel
theorem dL_addPier_28 : decode cL_addPier 28 = .ok (.ireturn, 1) := by decide +kernel
theorem dL_passDays_0 : decode cL_passDays 0 = .ok (.aload_n 2, 1) := by decide +kernel
theorem dL_passDays_1 : decode cL_passDays 1 = .ok (.iconst 0, 1) := by decide +kernel
theorem dL_passDays_2 : decode cL_passDays 2 = .ok (.aload_n 0, 1) := by decide +kernel
theorem dL_passDays_3 : decode cL_passDays 3 = .ok (.iload_n 1, 1) := by decide +kernel
theorem dL_passDays_4 : decode cL_passDays 4 = .ok (.invokevirtual 17, 3) := by decide +kernel
theorem dL_passDays_7 : decode cL_passDays 7 = .ok (.i2l, 1) := by decide +kernel
theorem dL_passDays_8 : decode cL_passDays 8 = .ok (.lastore, 1) := by decide +kernel
theorem dL_passDays_9 : decode cL_passDays 9 = .ok (.goto 6, 3) := by decide +kernel
theorem dL_passDays_12 : decode cL_passDays 12 = .ok (.astore_n 3, 1) := by decide +kernel
theorem dL_passDays_13 : decode cL_passDays 13 = .ok (.iconst 1, 1) := by decide +kernel
theorem dL_passDays_14 : decode cL_passDays 14 = .ok (.ireturn, 1) := by decide +kernel
theorem dL_passDays_15 : decode cL_passDays 15 = .ok (.iconst 0, 1) := by decide +kernel
theorem dL_passDays_16 : decode cL_passDays 16 = .ok (.ireturn, 1) := by decide +kernel
theorem dL_moonAge_0 : decode cL_moonAge 0 = .ok (.aload_n 2, 1) := by decide +kernel
theorem dL_moonAge_1 : decode cL_moonAge 1 = .ok (.iconst 0, 1) := by decide +kernel
theorem dL_moonAge_2 : decode cL_moonAge 2 = .ok (.aload_n 0, 1) := by decide +kernel
theorem dL_moonAge_3 : decode cL_moonAge 3 = .ok (.iload_n 1, 1) := by decide +kernel
theorem dL_moonAge_4 : decode cL_moonAge 4 = .ok (.invokevirtual 21, 3) := by decide +kernel
theorem dL_moonAge_7 : decode cL_moonAge 7 = .ok (.i2l, 1) := by decide +kernel
theorem dL_moonAge_8 : decode cL_moonAge 8 = .ok (.lastore, 1) := by decide +kernel
theorem dL_moonAge_9 : decode cL_moonAge 9 = .ok (.goto 6, 3) := by decide +kernel
theorem dL_moonAge_12 : decode cL_moonAge 12 = .ok (.astore_n 3, 1) := by decide +kernel
theorem dL_moonAge_13 : decode cL_moonAge 13 = .ok (.iconst 1, 1) := by decide +kernel
theorem dL_moonAge_14 : decode cL_moonAge 14 = .ok (.ireturn, 1) := by decide +kernel
theorem dL_moonAge_15 : decode cL_moonAge 15 = .ok (.iconst 0, 1) := by decide +kernel
theorem dL_moonAge_16 : decode cL_moonAge 16 = .ok (.ireturn, 1) := by decide +kernel
theorem dL_rangeOf_0 : decode cL_rangeOf 0 = .ok (.aload_n 3, 1) := by decide +kernel
theorem dL_rangeOf_1 : decode cL_rangeOf 1 = .ok (.iconst 0, 1) := by decide +kernel
theorem dL_rangeOf_2 : decode cL_rangeOf 2 = .ok (.aload_n 0, 1) := by decide +kernel
theorem dL_rangeOf_3 : decode cL_rangeOf 3 = .ok (.iload_n 1, 1) := by decide +kernel
theorem dL_rangeOf_4 : decode cL_rangeOf 4 = .ok (.iload_n 2, 1) := by decide +kernel
theorem dL_rangeOf_5 : decode cL_rangeOf 5 = .ok (.invokevirtual 24, 3) := by decide +kernel
theorem dL_rangeOf_8 : decode cL_rangeOf 8 = .ok (.i2l, 1) := by decide +kernel
theorem dL_rangeOf_9 : decode cL_rangeOf 9 = .ok (.lastore, 1) := by decide +kernel
theorem dL_rangeOf_10 : decode cL_rangeOf 10 = .ok (.goto 11, 3) := by decide +kernel
theorem dL_rangeOf_13 : decode cL_rangeOf 13 = .ok (.astore 4, 2) := by decide +kernel
theorem dL_rangeOf_15 : decode cL_rangeOf 15 = .ok (.iconst 1, 1) := by decide +kernel
theorem dL_rangeOf_16 : decode cL_rangeOf 16 = .ok (.ireturn, 1) := by decide +kernel
theorem dL_rangeOf_17 : decode cL_rangeOf 17 = .ok (.astore 4, 2) := by decide +kernel
end
section
theorem dL_rangeOf_19 : decode cL_rangeOf 19 = .ok (.iconst 2, 1) := by decide +kernel
theorem dL_rangeOf_20 : decode cL_rangeOf 20 = .ok (.ireturn, 1) := by decide +kernel
theorem dL_rangeOf_21 : decode cL_rangeOf 21 = .ok (.iconst 0, 1) := by decide +kernel
theorem dL_rangeOf_22 : decode cL_rangeOf 22 = .ok (.ireturn, 1) := by decide +kernel
theorem dL_waterCount_0 : decode cL_waterCount 0 = .ok (.aload_n 3, 1) := by decide +kernel
theorem dL_waterCount_1 : decode cL_waterCount 1 = .ok (.iconst 0, 1) := by decide +kernel
theorem dL_waterCount_2 : decode cL_waterCount 2 = .ok (.aload_n 0, 1) := by decide +kernel
theorem dL_waterCount_3 : decode cL_waterCount 3 = .ok (.iload_n 1, 1) := by decide +kernel
theorem dL_waterCount_4 : decode cL_waterCount 4 = .ok (.iload_n 2, 1) := by decide +kernel
theorem dL_waterCount_5 : decode cL_waterCount 5 = .ok (.invokevirtual 30, 3) := by decide +kernel
theorem dL_waterCount_8 : decode cL_waterCount 8 = .ok (.i2l, 1) := by decide +kernel
theorem dL_waterCount_9 : decode cL_waterCount 9 = .ok (.lastore, 1) := by decide +kernel
theorem dL_waterCount_10 : decode cL_waterCount 10 = .ok (.goto 11, 3) := by decide +kernel
theorem dL_waterCount_13 : decode cL_waterCount 13 = .ok (.astore 4, 2) := by decide +kernel
theorem dL_waterCount_15 : decode cL_waterCount 15 = .ok (.iconst 1, 1) := by decide +kernel
theorem dL_waterCount_16 : decode cL_waterCount 16 = .ok (.ireturn, 1) := by decide +kernel
theorem dL_waterCount_17 : decode cL_waterCount 17 = .ok (.astore 4, 2) := by decide +kernel
theorem dL_waterCount_19 : decode cL_waterCount 19 = .ok (.iconst 2, 1) := by decide +kernel
theorem dL_waterCount_20 : decode cL_waterCount 20 = .ok (.ireturn, 1) := by decide +kernel
theorem dL_waterCount_21 : decode cL_waterCount 21 = .ok (.iconst 0, 1) := by decide +kernel
theorem dL_waterCount_22 : decode cL_waterCount 22 = .ok (.ireturn, 1) := by decide +kernel
theorem dL_waterMinute_0 : decode cL_waterMinute 0 = .ok (.aload 4, 2) := by decide +kernel
theorem dL_waterMinute_2 : decode cL_waterMinute 2 = .ok (.iconst 0, 1) := by decide +kernel
theorem dL_waterMinute_3 : decode cL_waterMinute 3 = .ok (.aload_n 0, 1) := by decide +kernel
theorem dL_waterMinute_4 : decode cL_waterMinute 4 = .ok (.iload_n 1, 1) := by decide +kernel
theorem dL_waterMinute_5 : decode cL_waterMinute 5 = .ok (.iload_n 2, 1) := by decide +kernel
theorem dL_waterMinute_6 : decode cL_waterMinute 6 = .ok (.iload_n 3, 1) := by decide +kernel
theorem dL_waterMinute_7 : decode cL_waterMinute 7 = .ok (.invokevirtual 33, 3) := by decide +kernel
theorem dL_waterMinute_10 : decode cL_waterMinute 10 = .ok (.i2l, 1) := by decide +kernel
theorem dL_waterMinute_11 : decode cL_waterMinute 11 = .ok (.lastore, 1) := by decide +kernel
theorem dL_waterMinute_12 : decode cL_waterMinute 12 = .ok (.goto 11, 3) := by decide +kernel
theorem dL_waterMinute_15 : decode cL_waterMinute 15 = .ok (.astore 5, 2) := by decide +kernel
theorem dL_waterMinute_17 : decode cL_waterMinute 17 = .ok (.iconst 1, 1) := by decide +kernel
theorem dL_waterMinute_18 : decode cL_waterMinute 18 = .ok (.ireturn, 1) := by decide +kernel
theorem dL_waterMinute_19 : decode cL_waterMinute 19 = .ok (.astore 5, 2) := by decide +kernel
theorem dL_waterMinute_21 : decode cL_waterMinute 21 = .ok (.iconst 2, 1) := by decide +kernel
theorem dL_waterMinute_22 : decode cL_waterMinute 22 = .ok (.ireturn, 1) := by decide +kernel
theorem dL_waterMinute_23 : decode cL_waterMinute 23 = .ok (.iconst 0, 1) := by decide +kernel
theorem dL_waterMinute_24 : decode cL_waterMinute 24 = .ok (.ireturn, 1) := by decide +kernel
theorem dL_waterHeight_0 : decode cL_waterHeight 0 = .ok (.aload 4, 2) := by decide +kernel
theorem dL_waterHeight_2 : decode cL_waterHeight 2 = .ok (.iconst 0, 1) := by decide +kernel
theorem dL_waterHeight_3 : decode cL_waterHeight 3 = .ok (.aload_n 0, 1) := by decide +kernel
theorem dL_waterHeight_4 : decode cL_waterHeight 4 = .ok (.iload_n 1, 1) := by decide +kernel
theorem dL_waterHeight_5 : decode cL_waterHeight 5 = .ok (.iload_n 2, 1) := by decide +kernel
theorem dL_waterHeight_6 : decode cL_waterHeight 6 = .ok (.iload_n 3, 1) := by decide +kernel
theorem dL_waterHeight_7 : decode cL_waterHeight 7 = .ok (.invokevirtual 37, 3) := by decide +kernel
theorem dL_waterHeight_10 : decode cL_waterHeight 10 = .ok (.i2l, 1) := by decide +kernel
theorem dL_waterHeight_11 : decode cL_waterHeight 11 = .ok (.lastore, 1) := by decide +kernel
theorem dL_waterHeight_12 : decode cL_waterHeight 12 = .ok (.goto 11, 3) := by decide +kernel
theorem dL_waterHeight_15 : decode cL_waterHeight 15 = .ok (.astore 5, 2) := by decide +kernel
theorem dL_waterHeight_17 : decode cL_waterHeight 17 = .ok (.iconst 1, 1) := by decide +kernel
theorem dL_waterHeight_18 : decode cL_waterHeight 18 = .ok (.ireturn, 1) := by decide +kernel
theorem dL_waterHeight_19 : decode cL_waterHeight 19 = .ok (.astore 5, 2) := by decide +kernel
theorem dL_waterHeight_21 : decode cL_waterHeight 21 = .ok (.iconst 2, 1) := by decide +kernel
theorem dL_waterHeight_22 : decode cL_waterHeight 22 = .ok (.ireturn, 1) := by decide +kernel
theorem dL_waterHeight_23 : decode cL_waterHeight 23 = .ok (.iconst 0, 1) := by decide +kernel
theorem dL_waterHeight_24 : decode cL_waterHeight 24 = .ok (.ireturn, 1) := by decide +kernel
theorem dL_isHighWater_0 : decode cL_isHighWater 0 = .ok (.aload 4, 2) := by decide +kernel
theorem dL_isHighWater_2 : decode cL_isHighWater 2 = .ok (.iconst 0, 1) := by decide +kernel
theorem dL_isHighWater_3 : decode cL_isHighWater 3 = .ok (.aload_n 0, 1) := by decide +kernel
theorem dL_isHighWater_4 : decode cL_isHighWater 4 = .ok (.iload_n 1, 1) := by decide +kernel
theorem dL_isHighWater_5 : decode cL_isHighWater 5 = .ok (.iload_n 2, 1) := by decide +kernel
theorem dL_isHighWater_6 : decode cL_isHighWater 6 = .ok (.iload_n 3, 1) := by decide +kernel
theorem dL_isHighWater_7 : decode cL_isHighWater 7 = .ok (.invokevirtual 40, 3) := by decide +kernel
theorem dL_isHighWater_10 : decode cL_isHighWater 10 = .ok (.ifCond .eq 7, 3) := by decide +kernel
theorem dL_isHighWater_13 : decode cL_isHighWater 13 = .ok (.lconst 1, 1) := by decide +kernel
theorem dL_isHighWater_14 : decode cL_isHighWater 14 = .ok (.goto 4, 3) := by decide +kernel
theorem dL_isHighWater_17 : decode cL_isHighWater 17 = .ok (.lconst 0, 1) := by decide +kernel
theorem dL_isHighWater_18 : decode cL_isHighWater 18 = .ok (.lastore, 1) := by decide +kernel
theorem dL_isHighWater_19 : decode cL_isHighWater 19 = .ok (.goto 11, 3) := by decide +kernel
theorem dL_isHighWater_22 : decode cL_isHighWater 22 = .ok (.astore 5, 2) := by decide +kernel
theorem dL_isHighWater_24 : decode cL_isHighWater 24 = .ok (.iconst 1, 1) := by decide +kernel
theorem dL_isHighWater_25 : decode cL_isHighWater 25 = .ok (.ireturn, 1) := by decide +kernel
theorem dL_isHighWater_26 : decode cL_isHighWater 26 = .ok (.astore 5, 2) := by decide +kernel
theorem dL_isHighWater_28 : decode cL_isHighWater 28 = .ok (.iconst 2, 1) := by decide +kernel
theorem dL_isHighWater_29 : decode cL_isHighWater 29 = .ok (.ireturn, 1) := by decide +kernel
theorem dL_isHighWater_30 : decode cL_isHighWater 30 = .ok (.iconst 0, 1) := by decide +kernel
theorem dL_isHighWater_31 : decode cL_isHighWater 31 = .ok (.ireturn, 1) := by decide +kernel
theorem dL_minutesToHighWater_0 : decode cL_minutesToHighWater 0 = .ok (.aload 4, 2) := by decide +kernel
theorem dL_minutesToHighWater_2 : decode cL_minutesToHighWater 2 = .ok (.iconst 0, 1) := by decide +kernel
theorem dL_minutesToHighWater_3 : decode cL_minutesToHighWater 3 = .ok (.aload_n 0, 1) := by decide +kernel
theorem dL_minutesToHighWater_4 : decode cL_minutesToHighWater 4 = .ok (.iload_n 1, 1) := by decide +kernel
theorem dL_minutesToHighWater_5 : decode cL_minutesToHighWater 5 = .ok (.iload_n 2, 1) := by decide +kernel
theorem dL_minutesToHighWater_6 : decode cL_minutesToHighWater 6 = .ok (.iload_n 3, 1) := by decide +kernel
theorem dL_minutesToHighWater_7 : decode cL_minutesToHighWater 7 = .ok (.invokevirtual 44, 3) := by decide +kernel
theorem dL_minutesToHighWater_10 : decode cL_minutesToHighWater 10 = .ok (.i2l, 1) := by decide +kernel
theorem dL_minutesToHighWater_11 : decode cL_minutesToHighWater 11 = .ok (.lastore, 1) := by decide +kernel
theorem dL_minutesToHighWater_12 : decode cL_minutesToHighWater 12 = .ok (.goto 11, 3) := by decide +kernel
theorem dL_minutesToHighWater_15 : decode cL_minutesToHighWater 15 = .ok (.astore 5, 2) := by decide +kernel
theorem dL_minutesToHighWater_17 : decode cL_minutesToHighWater 17 = .ok (.iconst 1, 1) := by decide +kernel
theorem dL_minutesToHighWater_18 : decode cL_minutesToHighWater 18 = .ok (.ireturn, 1) := by decide +kernel
theorem dL_minutesToHighWater_19 : decode cL_minutesToHighWater 19 = .ok (.astore 5, 2) := by decide +kernel
theorem dL_minutesToHighWater_21 : decode cL_minutesToHighWater 21 = .ok (.iconst 2, 1) := by decide +kernel
theorem dL_minutesToHighWater_22 : decode cL_minutesToHighWater 22 = .ok (.ireturn, 1) := by decide +kernel
theorem dL_minutesToHighWater_23 : decode cL_minutesToHighWater 23 = .ok (.iconst 0, 1) := by decide +kernel
theorem dL_minutesToHighWater_24 : decode cL_minutesToHighWater 24 = .ok (.ireturn, 1) := by decide +kernel
theorem dL_report_0 : decode cL_report 0 = .ok (.aload 4, 2) := by decide +kernel
theorem dL_report_2 : decode cL_report 2 = .ok (.iconst 0, 1) := by decide +kernel
theorem dL_report_3 : decode cL_report 3 = .ok (.aload_n 0, 1) := by decide +kernel
theorem dL_report_4 : decode cL_report 4 = .ok (.iload_n 1, 1) := by decide +kernel
theorem dL_report_5 : decode cL_report 5 = .ok (.iload_n 2, 1) := by decide +kernel
theorem dL_report_6 : decode cL_report 6 = .ok (.iload_n 3, 1) := by decide +kernel
theorem dL_report_7 : decode cL_report 7 = .ok (.invokevirtual 47, 3) := by decide +kernel
theorem dL_report_10 : decode cL_report 10 = .ok (.i2l, 1) := by decide +kernel
theorem dL_report_11 : decode cL_report 11 = .ok (.lastore, 1) := by decide +kernel
theorem dL_report_12 : decode cL_report 12 = .ok (.goto 11, 3) := by decide +kernel
theorem dL_report_15 : decode cL_report 15 = .ok (.astore 5, 2) := by decide +kernel
theorem dL_report_17 : decode cL_report 17 = .ok (.iconst 1, 1) := by decide +kernel
theorem dL_report_18 : decode cL_report 18 = .ok (.ireturn, 1) := by decide +kernel
theorem dL_report_19 : decode cL_report 19 = .ok (.astore 5, 2) := by decide +kernel
theorem dL_report_21 : decode cL_report 21 = .ok (.iconst 2, 1) := by decide +kernel
theorem dL_report_22 : decode cL_report 22 = .ok (.ireturn, 1) := by decide +kernel
theorem dL_report_23 : decode cL_report 23 = .ok (.iconst 0, 1) := by decide +kernel
theorem dL_report_24 : decode cL_report 24 = .ok (.ireturn, 1) := by decide +kernel
theorem dL_observe_0 : decode cL_observe 0 = .ok (.aload_n 3, 1) := by decide +kernel
theorem dL_observe_1 : decode cL_observe 1 = .ok (.iconst 0, 1) := by decide +kernel
theorem dL_observe_2 : decode cL_observe 2 = .ok (.aload_n 0, 1) := by decide +kernel
theorem dL_observe_3 : decode cL_observe 3 = .ok (.iload_n 1, 1) := by decide +kernel
theorem dL_observe_4 : decode cL_observe 4 = .ok (.iload_n 2, 1) := by decide +kernel
theorem dL_observe_5 : decode cL_observe 5 = .ok (.invokevirtual 50, 3) := by decide +kernel
theorem dL_observe_8 : decode cL_observe 8 = .ok (.i2l, 1) := by decide +kernel
theorem dL_observe_9 : decode cL_observe 9 = .ok (.lastore, 1) := by decide +kernel
theorem dL_observe_10 : decode cL_observe 10 = .ok (.goto 11, 3) := by decide +kernel
theorem dL_observe_13 : decode cL_observe 13 = .ok (.astore 4, 2) := by decide +kernel
theorem dL_observe_15 : decode cL_observe 15 = .ok (.iconst 1, 1) := by decide +kernel
theorem dL_observe_16 : decode cL_observe 16 = .ok (.ireturn, 1) := by decide +kernel
theorem dL_observe_17 : decode cL_observe 17 = .ok (.astore 4, 2) := by decide +kernel
theorem dL_observe_19 : decode cL_observe 19 = .ok (.iconst 2, 1) := by decide +kernel
theorem dL_observe_20 : decode cL_observe 20 = .ok (.ireturn, 1) := by decide +kernel
theorem dL_observe_21 : decode cL_observe 21 = .ok (.iconst 0, 1) := by decide +kernel
theorem dL_observe_22 : decode cL_observe 22 = .ok (.ireturn, 1) := by decide +kernel
theorem dL_correctionOf_0 : decode cL_correctionOf 0 = .ok (.aload_n 2, 1) := by decide +kernel
theorem dL_correctionOf_1 : decode cL_correctionOf 1 = .ok (.iconst 0, 1) := by decide +kernel
theorem dL_correctionOf_2 : decode cL_correctionOf 2 = .ok (.aload_n 0, 1) := by decide +kernel
theorem dL_correctionOf_3 : decode cL_correctionOf 3 = .ok (.iload_n 1, 1) := by decide +kernel
theorem dL_correctionOf_4 : decode cL_correctionOf 4 = .ok (.invokevirtual 53, 3) := by decide +kernel
theorem dL_correctionOf_7 : decode cL_correctionOf 7 = .ok (.i2l, 1) := by decide +kernel
theorem dL_correctionOf_8 : decode cL_correctionOf 8 = .ok (.lastore, 1) := by decide +kernel
theorem dL_correctionOf_9 : decode cL_correctionOf 9 = .ok (.goto 6, 3) := by decide +kernel
theorem dL_correctionOf_12 : decode cL_correctionOf 12 = .ok (.astore_n 3, 1) := by decide +kernel
theorem dL_correctionOf_13 : decode cL_correctionOf 13 = .ok (.iconst 1, 1) := by decide +kernel
theorem dL_correctionOf_14 : decode cL_correctionOf 14 = .ok (.ireturn, 1) := by decide +kernel
theorem dL_correctionOf_15 : decode cL_correctionOf 15 = .ok (.iconst 0, 1) := by decide +kernel
theorem dL_correctionOf_16 : decode cL_correctionOf 16 = .ok (.ireturn, 1) := by decide +kernel
theorem dL_trustOf_0 : decode cL_trustOf 0 = .ok (.aload_n 2, 1) := by decide +kernel
theorem dL_trustOf_1 : decode cL_trustOf 1 = .ok (.iconst 0, 1) := by decide +kernel
theorem dL_trustOf_2 : decode cL_trustOf 2 = .ok (.aload_n 0, 1) := by decide +kernel
theorem dL_trustOf_3 : decode cL_trustOf 3 = .ok (.iload_n 1, 1) := by decide +kernel
theorem dL_trustOf_4 : decode cL_trustOf 4 = .ok (.invokevirtual 56, 3) := by decide +kernel
theorem dL_trustOf_7 : decode cL_trustOf 7 = .ok (.i2l, 1) := by decide +kernel
theorem dL_trustOf_8 : decode cL_trustOf 8 = .ok (.lastore, 1) := by decide +kernel
theorem dL_trustOf_9 : decode cL_trustOf 9 = .ok (.goto 6, 3) := by decide +kernel
theorem dL_trustOf_12 : decode cL_trustOf 12 = .ok (.astore_n 3, 1) := by decide +kernel
theorem dL_trustOf_13 : decode cL_trustOf 13 = .ok (.iconst 1, 1) := by decide +kernel
theorem dL_trustOf_14 : decode cL_trustOf 14 = .ok (.ireturn, 1) := by decide +kernel
theorem dL_trustOf_15 : decode cL_trustOf 15 = .ok (.iconst 0, 1) := by decide +kernel
theorem dL_trustOf_16 : decode cL_trustOf 16 = .ok (.ireturn, 1) := by decide +kernel
theorem dL_reportCount_0 : decode cL_reportCount 0 = .ok (.aload_n 2, 1) := by decide +kernel
theorem dL_reportCount_1 : decode cL_reportCount 1 = .ok (.iconst 0, 1) := by decide +kernel
theorem dL_reportCount_2 : decode cL_reportCount 2 = .ok (.aload_n 0, 1) := by decide +kernel
theorem dL_reportCount_3 : decode cL_reportCount 3 = .ok (.iload_n 1, 1) := by decide +kernel
theorem dL_reportCount_4 : decode cL_reportCount 4 = .ok (.invokevirtual 59, 3) := by decide +kernel
theorem dL_reportCount_7 : decode cL_reportCount 7 = .ok (.i2l, 1) := by decide +kernel
theorem dL_reportCount_8 : decode cL_reportCount 8 = .ok (.lastore, 1) := by decide +kernel
theorem dL_reportCount_9 : decode cL_reportCount 9 = .ok (.goto 6, 3) := by decide +kernel
theorem dL_reportCount_12 : decode cL_reportCount 12 = .ok (.astore_n 3, 1) := by decide +kernel
theorem dL_reportCount_13 : decode cL_reportCount 13 = .ok (.iconst 1, 1) := by decide +kernel
theorem dL_reportCount_14 : decode cL_reportCount 14 = .ok (.ireturn, 1) := by decide +kernel
theorem dL_reportCount_15 : decode cL_reportCount 15 = .ok (.iconst 0, 1) := by decide +kernel
theorem dL_reportCount_16 : decode cL_reportCount 16 = .ok (.ireturn, 1) := by decide +kernel
theorem dL_reporterAt_0 : decode cL_reporterAt 0 = .ok (.aload_n 3, 1) := by decide +kernel
theorem dL_reporterAt_1 : decode cL_reporterAt 1 = .ok (.iconst 0, 1) := by decide +kernel
theorem dL_reporterAt_2 : decode cL_reporterAt 2 = .ok (.aload_n 0, 1) := by decide +kernel
theorem dL_reporterAt_3 : decode cL_reporterAt 3 = .ok (.iload_n 1, 1) := by decide +kernel
theorem dL_reporterAt_4 : decode cL_reporterAt 4 = .ok (.iload_n 2, 1) := by decide +kernel
theorem dL_reporterAt_5 : decode cL_reporterAt 5 = .ok (.invokevirtual 62, 3) := by decide +kernel
theorem dL_reporterAt_8 : decode cL_reporterAt 8 = .ok (.i2l, 1) := by decide +kernel
theorem dL_reporterAt_9 : decode cL_reporterAt 9 = .ok (.lastore, 1) := by decide +kernel
theorem dL_reporterAt_10 : decode cL_reporterAt 10 = .ok (.goto 11, 3) := by decide +kernel
theorem dL_reporterAt_13 : decode cL_reporterAt 13 = .ok (.astore 4, 2) := by decide +kernel
theorem dL_reporterAt_15 : decode cL_reporterAt 15 = .ok (.iconst 1, 1) := by decide +kernel
theorem dL_reporterAt_16 : decode cL_reporterAt 16 = .ok (.ireturn, 1) := by decide +kernel
theorem dL_reporterAt_17 : decode cL_reporterAt 17 = .ok (.astore 4, 2) := by decide +kernel
theorem dL_reporterAt_19 : decode cL_reporterAt 19 = .ok (.iconst 2, 1) := by decide +kernel
theorem dL_reporterAt_20 : decode cL_reporterAt 20 = .ok (.ireturn, 1) := by decide +kernel
theorem dL_reporterAt_21 : decode cL_reporterAt 21 = .ok (.iconst 0, 1) := by decide +kernel
theorem dL_reporterAt_22 : decode cL_reporterAt 22 = .ok (.ireturn, 1) := by decide +kernel
theorem dL_reportedMinutes_0 : decode cL_reportedMinutes 0 = .ok (.aload_n 3, 1) := by decide +kernel
theorem dL_reportedMinutes_1 : decode cL_reportedMinutes 1 = .ok (.iconst 0, 1) := by decide +kernel
theorem dL_reportedMinutes_2 : decode cL_reportedMinutes 2 = .ok (.aload_n 0, 1) := by decide +kernel
theorem dL_reportedMinutes_3 : decode cL_reportedMinutes 3 = .ok (.iload_n 1, 1) := by decide +kernel
theorem dL_reportedMinutes_4 : decode cL_reportedMinutes 4 = .ok (.iload_n 2, 1) := by decide +kernel
theorem dL_reportedMinutes_5 : decode cL_reportedMinutes 5 = .ok (.invokevirtual 67, 3) := by decide +kernel
theorem dL_reportedMinutes_8 : decode cL_reportedMinutes 8 = .ok (.i2l, 1) := by decide +kernel
theorem dL_reportedMinutes_9 : decode cL_reportedMinutes 9 = .ok (.lastore, 1) := by decide +kernel
theorem dL_reportedMinutes_10 : decode cL_reportedMinutes 10 = .ok (.goto 11, 3) := by decide +kernel
theorem dL_reportedMinutes_13 : decode cL_reportedMinutes 13 = .ok (.astore 4, 2) := by decide +kernel
theorem dL_reportedMinutes_15 : decode cL_reportedMinutes 15 = .ok (.iconst 1, 1) := by decide +kernel
theorem dL_reportedMinutes_16 : decode cL_reportedMinutes 16 = .ok (.ireturn, 1) := by decide +kernel
theorem dL_reportedMinutes_17 : decode cL_reportedMinutes 17 = .ok (.astore 4, 2) := by decide +kernel
theorem dL_reportedMinutes_19 : decode cL_reportedMinutes 19 = .ok (.iconst 2, 1) := by decide +kernel
theorem dL_reportedMinutes_20 : decode cL_reportedMinutes 20 = .ok (.ireturn, 1) := by decide +kernel
theorem dL_reportedMinutes_21 : decode cL_reportedMinutes 21 = .ok (.iconst 0, 1) := by decide +kernel
theorem dL_reportedMinutes_22 : decode cL_reportedMinutes 22 = .ok (.ireturn, 1) := by decide +kernel
theorem dL_reportAge_0 : decode cL_reportAge 0 = .ok (.aload_n 3, 1) := by decide +kernel
theorem dL_reportAge_1 : decode cL_reportAge 1 = .ok (.iconst 0, 1) := by decide +kernel
theorem dL_reportAge_2 : decode cL_reportAge 2 = .ok (.aload_n 0, 1) := by decide +kernel
theorem dL_reportAge_3 : decode cL_reportAge 3 = .ok (.iload_n 1, 1) := by decide +kernel
theorem dL_reportAge_4 : decode cL_reportAge 4 = .ok (.iload_n 2, 1) := by decide +kernel
theorem dL_reportAge_5 : decode cL_reportAge 5 = .ok (.invokevirtual 70, 3) := by decide +kernel
theorem dL_reportAge_8 : decode cL_reportAge 8 = .ok (.i2l, 1) := by decide +kernel
theorem dL_reportAge_9 : decode cL_reportAge 9 = .ok (.lastore, 1) := by decide +kernel
theorem dL_reportAge_10 : decode cL_reportAge 10 = .ok (.goto 11, 3) := by decide +kernel
theorem dL_reportAge_13 : decode cL_reportAge 13 = .ok (.astore 4, 2) := by decide +kernel
theorem dL_reportAge_15 : decode cL_reportAge 15 = .ok (.iconst 1, 1) := by decide +kernel
theorem dL_reportAge_16 : decode cL_reportAge 16 = .ok (.ireturn, 1) := by decide +kernel
theorem dL_reportAge_17 : decode cL_reportAge 17 = .ok (.astore 4, 2) := by decide +kernel
theorem dL_reportAge_19 : decode cL_reportAge 19 = .ok (.iconst 2, 1) := by decide +kernel
theorem dL_reportAge_20 : decode cL_reportAge 20 = .ok (.ireturn, 1) := by decide +kernel
theorem dL_reportAge_21 : decode cL_reportAge 21 = .ok (.iconst 0, 1) := by decide +kernel
theorem dL_reportAge_22 : decode cL_reportAge 22 = .ok (.ireturn, 1) := by decide +kernel
theorem dL_deliverTin_0 : decode cL_deliverTin 0 = .ok (.aload_n 3, 1) := by decide +kernel
theorem dL_deliverTin_1 : decode cL_deliverTin 1 = .ok (.iconst 0, 1) := by decide +kernel
theorem dL_deliverTin_2 : decode cL_deliverTin 2 = .ok (.aload_n 0, 1) := by decide +kernel
theorem dL_deliverTin_3 : decode cL_deliverTin 3 = .ok (.iload_n 1, 1) := by decide +kernel
theorem dL_deliverTin_4 : decode cL_deliverTin 4 = .ok (.iload_n 2, 1) := by decide +kernel
theorem dL_deliverTin_5 : decode cL_deliverTin 5 = .ok (.invokevirtual 73, 3) := by decide +kernel
theorem dL_deliverTin_8 : decode cL_deliverTin 8 = .ok (.i2l, 1) := by decide +kernel
theorem dL_deliverTin_9 : decode cL_deliverTin 9 = .ok (.lastore, 1) := by decide +kernel
theorem dL_deliverTin_10 : decode cL_deliverTin 10 = .ok (.goto 11, 3) := by decide +kernel
theorem dL_deliverTin_13 : decode cL_deliverTin 13 = .ok (.astore 4, 2) := by decide +kernel
theorem dL_deliverTin_15 : decode cL_deliverTin 15 = .ok (.iconst 1, 1) := by decide +kernel
theorem dL_deliverTin_16 : decode cL_deliverTin 16 = .ok (.ireturn, 1) := by decide +kernel
theorem dL_deliverTin_17 : decode cL_deliverTin 17 = .ok (.astore 4, 2) := by decide +kernel
theorem dL_deliverTin_19 : decode cL_deliverTin 19 = .ok (.iconst 2, 1) := by decide +kernel
theorem dL_deliverTin_20 : decode cL_deliverTin 20 = .ok (.ireturn, 1) := by decide +kernel
theorem dL_deliverTin_21 : decode cL_deliverTin 21 = .ok (.iconst 0, 1) := by decide +kernel
theorem dL_deliverTin_22 : decode cL_deliverTin 22 = .ok (.ireturn, 1) := by decide +kernel
theorem dL_tinCount_0 : decode cL_tinCount 0 = .ok (.aload_n 2, 1) := by decide +kernel
theorem dL_tinCount_1 : decode cL_tinCount 1 = .ok (.iconst 0, 1) := by decide +kernel
theorem dL_tinCount_2 : decode cL_tinCount 2 = .ok (.aload_n 0, 1) := by decide +kernel
theorem dL_tinCount_3 : decode cL_tinCount 3 = .ok (.iload_n 1, 1) := by decide +kernel
theorem dL_tinCount_4 : decode cL_tinCount 4 = .ok (.invokevirtual 76, 3) := by decide +kernel
theorem dL_tinCount_7 : decode cL_tinCount 7 = .ok (.i2l, 1) := by decide +kernel
theorem dL_tinCount_8 : decode cL_tinCount 8 = .ok (.lastore, 1) := by decide +kernel
theorem dL_tinCount_9 : decode cL_tinCount 9 = .ok (.goto 6, 3) := by decide +kernel
theorem dL_tinCount_12 : decode cL_tinCount 12 = .ok (.astore_n 3, 1) := by decide +kernel
theorem dL_tinCount_13 : decode cL_tinCount 13 = .ok (.iconst 1, 1) := by decide +kernel
theorem dL_tinCount_14 : decode cL_tinCount 14 = .ok (.ireturn, 1) := by decide +kernel
theorem dL_tinCount_15 : decode cL_tinCount 15 = .ok (.iconst 0, 1) := by decide +kernel
theorem dL_tinCount_16 : decode cL_tinCount 16 = .ok (.ireturn, 1) := by decide +kernel
theorem dL_paintLeft_0 : decode cL_paintLeft 0 = .ok (.aload_n 2, 1) := by decide +kernel
theorem dL_paintLeft_1 : decode cL_paintLeft 1 = .ok (.iconst 0, 1) := by decide +kernel
theorem dL_paintLeft_2 : decode cL_paintLeft 2 = .ok (.aload_n 0, 1) := by decide +kernel
theorem dL_paintLeft_3 : decode cL_paintLeft 3 = .ok (.iload_n 1, 1) := by decide +kernel
theorem dL_paintLeft_4 : decode cL_paintLeft 4 = .ok (.invokevirtual 79, 3) := by decide +kernel
theorem dL_paintLeft_7 : decode cL_paintLeft 7 = .ok (.i2l, 1) := by decide +kernel
theorem dL_paintLeft_8 : decode cL_paintLeft 8 = .ok (.lastore, 1) := by decide +kernel
theorem dL_paintLeft_9 : decode cL_paintLeft 9 = .ok (.goto 6, 3) := by decide +kernel
theorem dL_paintLeft_12 : decode cL_paintLeft 12 = .ok (.astore_n 3, 1) := by decide +kernel
theorem dL_paintLeft_13 : decode cL_paintLeft 13 = .ok (.iconst 1, 1) := by decide +kernel
theorem dL_paintLeft_14 : decode cL_paintLeft 14 = .ok (.ireturn, 1) := by decide +kernel
theorem dL_paintLeft_15 : decode cL_paintLeft 15 = .ok (.iconst 0, 1) := by decide +kernel
theorem dL_paintLeft_16 : decode cL_paintLeft 16 = .ok (.ireturn, 1) := by decide +kernel
theorem dL_oldestTin_0 : decode cL_oldestTin 0 = .ok (.aload_n 2, 1) := by decide +kernel
theorem dL_oldestTin_1 : decode cL_oldestTin 1 = .ok (.iconst 0, 1) := by decide +kernel
theorem dL_oldestTin_2 : decode cL_oldestTin 2 = .ok (.aload_n 0, 1) := by decide +kernel
theorem dL_oldestTin_3 : decode cL_oldestTin 3 = .ok (.iload_n 1, 1) := by decide +kernel
theorem dL_oldestTin_4 : decode cL_oldestTin 4 = .ok (.invokevirtual 82, 3) := by decide +kernel
theorem dL_oldestTin_7 : decode cL_oldestTin 7 = .ok (.i2l, 1) := by decide +kernel
theorem dL_oldestTin_8 : decode cL_oldestTin 8 = .ok (.lastore, 1) := by decide +kernel
theorem dL_oldestTin_9 : decode cL_oldestTin 9 = .ok (.goto 9, 3) := by decide +kernel
theorem dL_oldestTin_12 : decode cL_oldestTin 12 = .ok (.astore_n 3, 1) := by decide +kernel
theorem dL_oldestTin_13 : decode cL_oldestTin 13 = .ok (.iconst 1, 1) := by decide +kernel
theorem dL_oldestTin_14 : decode cL_oldestTin 14 = .ok (.ireturn, 1) := by decide +kernel
theorem dL_oldestTin_15 : decode cL_oldestTin 15 = .ok (.astore_n 3, 1) := by decide +kernel
theorem dL_oldestTin_16 : decode cL_oldestTin 16 = .ok (.iconst 2, 1) := by decide +kernel
theorem dL_oldestTin_17 : decode cL_oldestTin 17 = .ok (.ireturn, 1) := by decide +kernel
theorem dL_oldestTin_18 : decode cL_oldestTin 18 = .ok (.iconst 0, 1) := by decide +kernel
theorem dL_oldestTin_19 : decode cL_oldestTin 19 = .ok (.ireturn, 1) := by decide +kernel
theorem dL_order_0 : decode cL_order 0 = .ok (.aload_n 3, 1) := by decide +kernel
theorem dL_order_1 : decode cL_order 1 = .ok (.iconst 0, 1) := by decide +kernel
theorem dL_order_2 : decode cL_order 2 = .ok (.aload_n 0, 1) := by decide +kernel
theorem dL_order_3 : decode cL_order 3 = .ok (.iload_n 1, 1) := by decide +kernel
theorem dL_order_4 : decode cL_order 4 = .ok (.iload_n 2, 1) := by decide +kernel
theorem dL_order_5 : decode cL_order 5 = .ok (.invokevirtual 85, 3) := by decide +kernel
theorem dL_order_8 : decode cL_order 8 = .ok (.i2l, 1) := by decide +kernel
theorem dL_order_9 : decode cL_order 9 = .ok (.lastore, 1) := by decide +kernel
theorem dL_order_10 : decode cL_order 10 = .ok (.goto 15, 3) := by decide +kernel
theorem dL_order_13 : decode cL_order 13 = .ok (.astore 4, 2) := by decide +kernel
theorem dL_order_15 : decode cL_order 15 = .ok (.iconst 1, 1) := by decide +kernel
theorem dL_order_16 : decode cL_order 16 = .ok (.ireturn, 1) := by decide +kernel
theorem dL_order_17 : decode cL_order 17 = .ok (.astore 4, 2) := by decide +kernel
theorem dL_order_19 : decode cL_order 19 = .ok (.iconst 2, 1) := by decide +kernel
theorem dL_order_20 : decode cL_order 20 = .ok (.ireturn, 1) := by decide +kernel
theorem dL_order_21 : decode cL_order 21 = .ok (.astore 4, 2) := by decide +kernel
theorem dL_order_23 : decode cL_order 23 = .ok (.iconst 3, 1) := by decide +kernel
theorem dL_order_24 : decode cL_order 24 = .ok (.ireturn, 1) := by decide +kernel
theorem dL_order_25 : decode cL_order 25 = .ok (.iconst 0, 1) := by decide +kernel
theorem dL_order_26 : decode cL_order 26 = .ok (.ireturn, 1) := by decide +kernel
theorem dL_cancelOrder_0 : decode cL_cancelOrder 0 = .ok (.aload_n 2, 1) := by decide +kernel
theorem dL_cancelOrder_1 : decode cL_cancelOrder 1 = .ok (.iconst 0, 1) := by decide +kernel
theorem dL_cancelOrder_2 : decode cL_cancelOrder 2 = .ok (.aload_n 0, 1) := by decide +kernel
theorem dL_cancelOrder_3 : decode cL_cancelOrder 3 = .ok (.iload_n 1, 1) := by decide +kernel
theorem dL_cancelOrder_4 : decode cL_cancelOrder 4 = .ok (.invokevirtual 88, 3) := by decide +kernel
theorem dL_cancelOrder_7 : decode cL_cancelOrder 7 = .ok (.i2l, 1) := by decide +kernel
theorem dL_cancelOrder_8 : decode cL_cancelOrder 8 = .ok (.lastore, 1) := by decide +kernel
theorem dL_cancelOrder_9 : decode cL_cancelOrder 9 = .ok (.goto 9, 3) := by decide +kernel
theorem dL_cancelOrder_12 : decode cL_cancelOrder 12 = .ok (.astore_n 3, 1) := by decide +kernel
theorem dL_cancelOrder_13 : decode cL_cancelOrder 13 = .ok (.iconst 1, 1) := by decide +kernel
theorem dL_cancelOrder_14 : decode cL_cancelOrder 14 = .ok (.ireturn, 1) := by decide +kernel
theorem dL_cancelOrder_15 : decode cL_cancelOrder 15 = .ok (.astore_n 3, 1) := by decide +kernel
theorem dL_cancelOrder_16 : decode cL_cancelOrder 16 = .ok (.iconst 2, 1) := by decide +kernel
theorem dL_cancelOrder_17 : decode cL_cancelOrder 17 = .ok (.ireturn, 1) := by decide +kernel
theorem dL_cancelOrder_18 : decode cL_cancelOrder 18 = .ok (.iconst 0, 1) := by decide +kernel
theorem dL_cancelOrder_19 : decode cL_cancelOrder 19 = .ok (.ireturn, 1) := by decide +kernel
theorem dL_waitingPier_0 : decode cL_waitingPier 0 = .ok (.aload_n 2, 1) := by decide +kernel
theorem dL_waitingPier_1 : decode cL_waitingPier 1 = .ok (.iconst 0, 1) := by decide +kernel
theorem dL_waitingPier_2 : decode cL_waitingPier 2 = .ok (.aload_n 0, 1) := by decide +kernel
theorem dL_waitingPier_3 : decode cL_waitingPier 3 = .ok (.iload_n 1, 1) := by decide +kernel
theorem dL_waitingPier_4 : decode cL_waitingPier 4 = .ok (.invokevirtual 91, 3) := by decide +kernel
theorem dL_waitingPier_7 : decode cL_waitingPier 7 = .ok (.i2l, 1) := by decide +kernel
theorem dL_waitingPier_8 : decode cL_waitingPier 8 = .ok (.lastore, 1) := by decide +kernel
theorem dL_waitingPier_9 : decode cL_waitingPier 9 = .ok (.goto 6, 3) := by decide +kernel
theorem dL_waitingPier_12 : decode cL_waitingPier 12 = .ok (.astore_n 3, 1) := by decide +kernel
theorem dL_waitingPier_13 : decode cL_waitingPier 13 = .ok (.iconst 1, 1) := by decide +kernel
theorem dL_waitingPier_14 : decode cL_waitingPier 14 = .ok (.ireturn, 1) := by decide +kernel
theorem dL_waitingPier_15 : decode cL_waitingPier 15 = .ok (.iconst 0, 1) := by decide +kernel
theorem dL_waitingPier_16 : decode cL_waitingPier 16 = .ok (.ireturn, 1) := by decide +kernel
theorem dL_paint_0 : decode cL_paint 0 = .ok (.aload_n 2, 1) := by decide +kernel
theorem dL_paint_1 : decode cL_paint 1 = .ok (.iconst 0, 1) := by decide +kernel
theorem dL_paint_2 : decode cL_paint 2 = .ok (.aload_n 0, 1) := by decide +kernel
theorem dL_paint_3 : decode cL_paint 3 = .ok (.iload_n 1, 1) := by decide +kernel
theorem dL_paint_4 : decode cL_paint 4 = .ok (.invokevirtual 94, 3) := by decide +kernel
theorem dL_paint_7 : decode cL_paint 7 = .ok (.i2l, 1) := by decide +kernel
theorem dL_paint_8 : decode cL_paint 8 = .ok (.lastore, 1) := by decide +kernel
theorem dL_paint_9 : decode cL_paint 9 = .ok (.goto 6, 3) := by decide +kernel
theorem dL_paint_12 : decode cL_paint 12 = .ok (.astore_n 3, 1) := by decide +kernel
theorem dL_paint_13 : decode cL_paint 13 = .ok (.iconst 1, 1) := by decide +kernel
theorem dL_paint_14 : decode cL_paint 14 = .ok (.ireturn, 1) := by decide +kernel
theorem dL_paint_15 : decode cL_paint 15 = .ok (.iconst 0, 1) := by decide +kernel
theorem dL_paint_16 : decode cL_paint 16 = .ok (.ireturn, 1) := by decide +kernel
theorem dL_giveUpJob_0 : decode cL_giveUpJob 0 = .ok (.aload_n 1, 1) := by decide +kernel
theorem dL_giveUpJob_1 : decode cL_giveUpJob 1 = .ok (.iconst 0, 1) := by decide +kernel
theorem dL_giveUpJob_2 : decode cL_giveUpJob 2 = .ok (.aload_n 0, 1) := by decide +kernel
theorem dL_giveUpJob_3 : decode cL_giveUpJob 3 = .ok (.invokevirtual 97, 3) := by decide +kernel
theorem dL_giveUpJob_6 : decode cL_giveUpJob 6 = .ok (.i2l, 1) := by decide +kernel
theorem dL_giveUpJob_7 : decode cL_giveUpJob 7 = .ok (.lastore, 1) := by decide +kernel
theorem dL_giveUpJob_8 : decode cL_giveUpJob 8 = .ok (.goto 6, 3) := by decide +kernel
theorem dL_giveUpJob_11 : decode cL_giveUpJob 11 = .ok (.astore_n 2, 1) := by decide +kernel
theorem dL_giveUpJob_12 : decode cL_giveUpJob 12 = .ok (.iconst 1, 1) := by decide +kernel
theorem dL_giveUpJob_13 : decode cL_giveUpJob 13 = .ok (.ireturn, 1) := by decide +kernel
theorem dL_giveUpJob_14 : decode cL_giveUpJob 14 = .ok (.iconst 0, 1) := by decide +kernel
theorem dL_giveUpJob_15 : decode cL_giveUpJob 15 = .ok (.ireturn, 1) := by decide +kernel
theorem dL_touchUp_0 : decode cL_touchUp 0 = .ok (.aload_n 2, 1) := by decide +kernel
theorem dL_touchUp_1 : decode cL_touchUp 1 = .ok (.iconst 0, 1) := by decide +kernel
theorem dL_touchUp_2 : decode cL_touchUp 2 = .ok (.aload_n 0, 1) := by decide +kernel
theorem dL_touchUp_3 : decode cL_touchUp 3 = .ok (.iload_n 1, 1) := by decide +kernel
theorem dL_touchUp_4 : decode cL_touchUp 4 = .ok (.invokevirtual 101, 3) := by decide +kernel
theorem dL_touchUp_7 : decode cL_touchUp 7 = .ok (.i2l, 1) := by decide +kernel
theorem dL_touchUp_8 : decode cL_touchUp 8 = .ok (.lastore, 1) := by decide +kernel
theorem dL_touchUp_9 : decode cL_touchUp 9 = .ok (.goto 12, 3) := by decide +kernel
theorem dL_touchUp_12 : decode cL_touchUp 12 = .ok (.astore_n 3, 1) := by decide +kernel
theorem dL_touchUp_13 : decode cL_touchUp 13 = .ok (.iconst 1, 1) := by decide +kernel
theorem dL_touchUp_14 : decode cL_touchUp 14 = .ok (.ireturn, 1) := by decide +kernel
theorem dL_touchUp_15 : decode cL_touchUp 15 = .ok (.astore_n 3, 1) := by decide +kernel
theorem dL_touchUp_16 : decode cL_touchUp 16 = .ok (.iconst 2, 1) := by decide +kernel
theorem dL_touchUp_17 : decode cL_touchUp 17 = .ok (.ireturn, 1) := by decide +kernel
theorem dL_touchUp_18 : decode cL_touchUp 18 = .ok (.astore_n 3, 1) := by decide +kernel
theorem dL_touchUp_19 : decode cL_touchUp 19 = .ok (.iconst 3, 1) := by decide +kernel
theorem dL_touchUp_20 : decode cL_touchUp 20 = .ok (.ireturn, 1) := by decide +kernel
theorem dL_touchUp_21 : decode cL_touchUp 21 = .ok (.iconst 0, 1) := by decide +kernel
theorem dL_touchUp_22 : decode cL_touchUp 22 = .ok (.ireturn, 1) := by decide +kernel
theorem dL_boardDay_0 : decode cL_boardDay 0 = .ok (.aload_n 2, 1) := by decide +kernel
theorem dL_boardDay_1 : decode cL_boardDay 1 = .ok (.iconst 0, 1) := by decide +kernel
theorem dL_boardDay_2 : decode cL_boardDay 2 = .ok (.aload_n 0, 1) := by decide +kernel
theorem dL_boardDay_3 : decode cL_boardDay 3 = .ok (.iload_n 1, 1) := by decide +kernel
theorem dL_boardDay_4 : decode cL_boardDay 4 = .ok (.invokevirtual 104, 3) := by decide +kernel
theorem dL_boardDay_7 : decode cL_boardDay 7 = .ok (.i2l, 1) := by decide +kernel
theorem dL_boardDay_8 : decode cL_boardDay 8 = .ok (.lastore, 1) := by decide +kernel
theorem dL_boardDay_9 : decode cL_boardDay 9 = .ok (.goto 6, 3) := by decide +kernel
theorem dL_boardDay_12 : decode cL_boardDay 12 = .ok (.astore_n 3, 1) := by decide +kernel
theorem dL_boardDay_13 : decode cL_boardDay 13 = .ok (.iconst 1, 1) := by decide +kernel
theorem dL_boardDay_14 : decode cL_boardDay 14 = .ok (.ireturn, 1) := by decide +kernel
theorem dL_boardDay_15 : decode cL_boardDay 15 = .ok (.iconst 0, 1) := by decide +kernel
theorem dL_boardDay_16 : decode cL_boardDay 16 = .ok (.ireturn, 1) := by decide +kernel
theorem dL_lineCount_0 : decode cL_lineCount 0 = .ok (.aload_n 2, 1) := by decide +kernel
theorem dL_lineCount_1 : decode cL_lineCount 1 = .ok (.iconst 0, 1) := by decide +kernel
theorem dL_lineCount_2 : decode cL_lineCount 2 = .ok (.aload_n 0, 1) := by decide +kernel
theorem dL_lineCount_3 : decode cL_lineCount 3 = .ok (.iload_n 1, 1) := by decide +kernel
theorem dL_lineCount_4 : decode cL_lineCount 4 = .ok (.invokevirtual 107, 3) := by decide +kernel
theorem dL_lineCount_7 : decode cL_lineCount 7 = .ok (.i2l, 1) := by decide +kernel
theorem dL_lineCount_8 : decode cL_lineCount 8 = .ok (.lastore, 1) := by decide +kernel
theorem dL_lineCount_9 : decode cL_lineCount 9 = .ok (.goto 6, 3) := by decide +kernel
theorem dL_lineCount_12 : decode cL_lineCount 12 = .ok (.astore_n 3, 1) := by decide +kernel
theorem dL_lineCount_13 : decode cL_lineCount 13 = .ok (.iconst 1, 1) := by decide +kernel
theorem dL_lineCount_14 : decode cL_lineCount 14 = .ok (.ireturn, 1) := by decide +kernel
theorem dL_lineCount_15 : decode cL_lineCount 15 = .ok (.iconst 0, 1) := by decide +kernel
theorem dL_lineCount_16 : decode cL_lineCount 16 = .ok (.ireturn, 1) := by decide +kernel
theorem dL_lineState_0 : decode cL_lineState 0 = .ok (.aload_n 3, 1) := by decide +kernel
theorem dL_lineState_1 : decode cL_lineState 1 = .ok (.iconst 0, 1) := by decide +kernel
theorem dL_lineState_2 : decode cL_lineState 2 = .ok (.aload_n 0, 1) := by decide +kernel
theorem dL_lineState_3 : decode cL_lineState 3 = .ok (.iload_n 1, 1) := by decide +kernel
theorem dL_lineState_4 : decode cL_lineState 4 = .ok (.iload_n 2, 1) := by decide +kernel
theorem dL_lineState_5 : decode cL_lineState 5 = .ok (.invokevirtual 110, 3) := by decide +kernel
theorem dL_lineState_8 : decode cL_lineState 8 = .ok (.i2l, 1) := by decide +kernel
theorem dL_lineState_9 : decode cL_lineState 9 = .ok (.lastore, 1) := by decide +kernel
theorem dL_lineState_10 : decode cL_lineState 10 = .ok (.goto 7, 3) := by decide +kernel
theorem dL_lineState_13 : decode cL_lineState 13 = .ok (.astore 4, 2) := by decide +kernel
theorem dL_lineState_15 : decode cL_lineState 15 = .ok (.iconst 1, 1) := by decide +kernel
theorem dL_lineState_16 : decode cL_lineState 16 = .ok (.ireturn, 1) := by decide +kernel
theorem dL_lineState_17 : decode cL_lineState 17 = .ok (.iconst 0, 1) := by decide +kernel
theorem dL_lineState_18 : decode cL_lineState 18 = .ok (.ireturn, 1) := by decide +kernel
theorem dL_lineMinute_0 : decode cL_lineMinute 0 = .ok (.aload_n 3, 1) := by decide +kernel
theorem dL_lineMinute_1 : decode cL_lineMinute 1 = .ok (.iconst 0, 1) := by decide +kernel
theorem dL_lineMinute_2 : decode cL_lineMinute 2 = .ok (.aload_n 0, 1) := by decide +kernel
theorem dL_lineMinute_3 : decode cL_lineMinute 3 = .ok (.iload_n 1, 1) := by decide +kernel
theorem dL_lineMinute_4 : decode cL_lineMinute 4 = .ok (.iload_n 2, 1) := by decide +kernel
theorem dL_lineMinute_5 : decode cL_lineMinute 5 = .ok (.invokevirtual 113, 3) := by decide +kernel
theorem dL_lineMinute_8 : decode cL_lineMinute 8 = .ok (.i2l, 1) := by decide +kernel
theorem dL_lineMinute_9 : decode cL_lineMinute 9 = .ok (.lastore, 1) := by decide +kernel
theorem dL_lineMinute_10 : decode cL_lineMinute 10 = .ok (.goto 11, 3) := by decide +kernel
theorem dL_lineMinute_13 : decode cL_lineMinute 13 = .ok (.astore 4, 2) := by decide +kernel
theorem dL_lineMinute_15 : decode cL_lineMinute 15 = .ok (.iconst 1, 1) := by decide +kernel
theorem dL_lineMinute_16 : decode cL_lineMinute 16 = .ok (.ireturn, 1) := by decide +kernel
theorem dL_lineMinute_17 : decode cL_lineMinute 17 = .ok (.astore 4, 2) := by decide +kernel
theorem dL_lineMinute_19 : decode cL_lineMinute 19 = .ok (.iconst 2, 1) := by decide +kernel
theorem dL_lineMinute_20 : decode cL_lineMinute 20 = .ok (.ireturn, 1) := by decide +kernel
theorem dL_lineMinute_21 : decode cL_lineMinute 21 = .ok (.iconst 0, 1) := by decide +kernel
theorem dL_lineMinute_22 : decode cL_lineMinute 22 = .ok (.ireturn, 1) := by decide +kernel
theorem dL_lineHeight_0 : decode cL_lineHeight 0 = .ok (.aload_n 3, 1) := by decide +kernel
theorem dL_lineHeight_1 : decode cL_lineHeight 1 = .ok (.iconst 0, 1) := by decide +kernel
theorem dL_lineHeight_2 : decode cL_lineHeight 2 = .ok (.aload_n 0, 1) := by decide +kernel
theorem dL_lineHeight_3 : decode cL_lineHeight 3 = .ok (.iload_n 1, 1) := by decide +kernel
theorem dL_lineHeight_4 : decode cL_lineHeight 4 = .ok (.iload_n 2, 1) := by decide +kernel
theorem dL_lineHeight_5 : decode cL_lineHeight 5 = .ok (.invokevirtual 116, 3) := by decide +kernel
theorem dL_lineHeight_8 : decode cL_lineHeight 8 = .ok (.i2l, 1) := by decide +kernel
theorem dL_lineHeight_9 : decode cL_lineHeight 9 = .ok (.lastore, 1) := by decide +kernel
theorem dL_lineHeight_10 : decode cL_lineHeight 10 = .ok (.goto 11, 3) := by decide +kernel
theorem dL_lineHeight_13 : decode cL_lineHeight 13 = .ok (.astore 4, 2) := by decide +kernel
theorem dL_lineHeight_15 : decode cL_lineHeight 15 = .ok (.iconst 1, 1) := by decide +kernel
theorem dL_lineHeight_16 : decode cL_lineHeight 16 = .ok (.ireturn, 1) := by decide +kernel
theorem dL_lineHeight_17 : decode cL_lineHeight 17 = .ok (.astore 4, 2) := by decide +kernel
theorem dL_lineHeight_19 : decode cL_lineHeight 19 = .ok (.iconst 2, 1) := by decide +kernel
theorem dL_lineHeight_20 : decode cL_lineHeight 20 = .ok (.ireturn, 1) := by decide +kernel
theorem dL_lineHeight_21 : decode cL_lineHeight 21 = .ok (.iconst 0, 1) := by decide +kernel
theorem dL_lineHeight_22 : decode cL_lineHeight 22 = .ok (.ireturn, 1) := by decide +kernel
theorem dL_dripsOf_0 : decode cL_dripsOf 0 = .ok (.aload_n 2, 1) := by decide +kernel
theorem dL_dripsOf_1 : decode cL_dripsOf 1 = .ok (.iconst 0, 1) := by decide +kernel
theorem dL_dripsOf_2 : decode cL_dripsOf 2 = .ok (.aload_n 0, 1) := by decide +kernel
theorem dL_dripsOf_3 : decode cL_dripsOf 3 = .ok (.iload_n 1, 1) := by decide +kernel
theorem dL_dripsOf_4 : decode cL_dripsOf 4 = .ok (.invokevirtual 119, 3) := by decide +kernel
theorem dL_dripsOf_7 : decode cL_dripsOf 7 = .ok (.i2l, 1) := by decide +kernel
theorem dL_dripsOf_8 : decode cL_dripsOf 8 = .ok (.lastore, 1) := by decide +kernel
theorem dL_dripsOf_9 : decode cL_dripsOf 9 = .ok (.goto 6, 3) := by decide +kernel
theorem dL_dripsOf_12 : decode cL_dripsOf 12 = .ok (.astore_n 3, 1) := by decide +kernel
theorem dL_dripsOf_13 : decode cL_dripsOf 13 = .ok (.iconst 1, 1) := by decide +kernel
theorem dL_dripsOf_14 : decode cL_dripsOf 14 = .ok (.ireturn, 1) := by decide +kernel
theorem dL_dripsOf_15 : decode cL_dripsOf 15 = .ok (.iconst 0, 1) := by decide +kernel
theorem dL_dripsOf_16 : decode cL_dripsOf 16 = .ok (.ireturn, 1) := by decide +kernel
theorem dL_unreadableLines_0 : decode cL_unreadableLines 0 = .ok (.aload_n 2, 1) := by decide +kernel
theorem dL_unreadableLines_1 : decode cL_unreadableLines 1 = .ok (.iconst 0, 1) := by decide +kernel
theorem dL_unreadableLines_2 : decode cL_unreadableLines 2 = .ok (.aload_n 0, 1) := by decide +kernel
theorem dL_unreadableLines_3 : decode cL_unreadableLines 3 = .ok (.iload_n 1, 1) := by decide +kernel
theorem dL_unreadableLines_4 : decode cL_unreadableLines 4 = .ok (.invokevirtual 122, 3) := by decide +kernel
theorem dL_unreadableLines_7 : decode cL_unreadableLines 7 = .ok (.i2l, 1) := by decide +kernel
theorem dL_unreadableLines_8 : decode cL_unreadableLines 8 = .ok (.lastore, 1) := by decide +kernel
theorem dL_unreadableLines_9 : decode cL_unreadableLines 9 = .ok (.goto 6, 3) := by decide +kernel
theorem dL_unreadableLines_12 : decode cL_unreadableLines 12 = .ok (.astore_n 3, 1) := by decide +kernel
theorem dL_unreadableLines_13 : decode cL_unreadableLines 13 = .ok (.iconst 1, 1) := by decide +kernel
theorem dL_unreadableLines_14 : decode cL_unreadableLines 14 = .ok (.ireturn, 1) := by decide +kernel
theorem dL_unreadableLines_15 : decode cL_unreadableLines 15 = .ok (.iconst 0, 1) := by decide +kernel
theorem dL_unreadableLines_16 : decode cL_unreadableLines 16 = .ok (.ireturn, 1) := by decide +kernel
theorem dL_isRight_0 : decode cL_isRight 0 = .ok (.aload_n 2, 1) := by decide +kernel
theorem dL_isRight_1 : decode cL_isRight 1 = .ok (.iconst 0, 1) := by decide +kernel
theorem dL_isRight_2 : decode cL_isRight 2 = .ok (.aload_n 0, 1) := by decide +kernel
theorem dL_isRight_3 : decode cL_isRight 3 = .ok (.iload_n 1, 1) := by decide +kernel
theorem dL_isRight_4 : decode cL_isRight 4 = .ok (.invokevirtual 125, 3) := by decide +kernel
theorem dL_isRight_7 : decode cL_isRight 7 = .ok (.ifCond .eq 7, 3) := by decide +kernel
theorem dL_isRight_10 : decode cL_isRight 10 = .ok (.lconst 1, 1) := by decide +kernel
theorem dL_isRight_11 : decode cL_isRight 11 = .ok (.goto 4, 3) := by decide +kernel
theorem dL_isRight_14 : decode cL_isRight 14 = .ok (.lconst 0, 1) := by decide +kernel
theorem dL_isRight_15 : decode cL_isRight 15 = .ok (.lastore, 1) := by decide +kernel
theorem dL_isRight_16 : decode cL_isRight 16 = .ok (.goto 6, 3) := by decide +kernel
theorem dL_isRight_19 : decode cL_isRight 19 = .ok (.astore_n 3, 1) := by decide +kernel
theorem dL_isRight_20 : decode cL_isRight 20 = .ok (.iconst 1, 1) := by decide +kernel
theorem dL_isRight_21 : decode cL_isRight 21 = .ok (.ireturn, 1) := by decide +kernel
theorem dL_isRight_22 : decode cL_isRight 22 = .ok (.iconst 0, 1) := by decide +kernel
theorem dL_isRight_23 : decode cL_isRight 23 = .ok (.ireturn, 1) := by decide +kernel
end
section
/-- the steady memory: n piers; kinds 0..17 the class's, 20..52 the reference's, 60 the law's row -/
def LV (n : Nat) : jLv := fun k i => match k with
  | 0 => decide (i = 0) | 1 => decide (i = 0) | 2 => decide (i = 0) | 3 => decide (i = 0)
  | 4 => decide (i < 2) | 5 => decide (i < 2)
  | 6 => decide (i < n ∨ i = 6) | 7 => decide (i < n ∨ i = 6) | 8 => decide (i < n ∨ i = 6) | 9 => decide (i < n ∨ i = 6)
  | 10 => decide (i < n) | 11 => decide (i < n) | 12 => decide (i < n) | 13 => decide (i < n) | 14 => decide (i < n) | 15 => decide (i < n) | 16 => decide (i < n) | 17 => decide (i < n)
  | 20 => decide (i = 0)
  | 24 => decide (i = 0) | 25 => decide (i = 0) | 26 => decide (i = 0) | 27 => decide (i = 0) | 28 => decide (i = 0) | 29 => decide (i = 0) | 30 => decide (i = 0) | 31 => decide (i = 0) | 32 => decide (i = 0) | 33 => decide (i = 0) | 34 => decide (i = 0) | 35 => decide (i = 0)
  | 39 => decide (i = 0) | 42 => decide (i = 0) | 43 => decide (i = 0) | 44 => decide (i = 0) | 45 => decide (i = 0) | 46 => decide (i = 0) | 47 => decide (i = 0) | 48 => decide (i = 0) | 49 => decide (i = 0) | 51 => decide (i = 0) | 52 => decide (i = 0)
  | 60 => decide (i = 0)
  | _ => false
def RF (n : Nat) : jR := fun k i j => match k with
  | 0 => (match j with | 0 => some (1, 0) | 2 => some (2, 0) | 3 => some (3, 0) | 4 => some (4, 0) | 5 => some (4, 1) | 6 => some (6, 6) | _ => none)
  | 1 => if j < n then some (10, j) else none
  | 4 => (match j with | 0 => some (5, i) | _ => none)
  | 6 => (match j with | 0 => some (7, i) | 1 => some (8, i) | 2 => some (9, i) | _ => none)
  | 10 => (match j with | 5 => some (11, i) | 6 => some (15, i) | _ => none)
  | 11 => (match j with | 0 => some (12, i) | 1 => some (13, i) | 2 => some (14, i) | 4 => some (2, 0) | _ => none)
  | 15 => (match j with | 0 => some (6, i) | 1 => some (16, i) | 2 => some (17, i) | _ => none)
  | 20 => (match j with
    | 3 => some (24, 0) | 4 => some (25, 0) | 5 => some (26, 0) | 6 => some (27, 0) | 7 => some (28, 0) | 8 => some (29, 0) | 9 => some (30, 0) | 10 => some (31, 0) | 11 => some (32, 0) | 12 => some (33, 0) | 13 => some (34, 0) | 14 => some (35, 0)
    | 18 => some (39, 0) | 21 => some (42, 0) | 22 => some (43, 0) | 23 => some (44, 0) | 24 => some (45, 0) | 25 => some (46, 0) | 26 => some (47, 0) | 27 => some (48, 0) | 28 => some (49, 0) | 30 => some (51, 0) | 31 => some (52, 0) | _ => none)
  | _ => none
abbrev jS (z n : Nat) (V : jV) : jM := (z, LV n, V, RF n)
def jRet (v : Option Value) (M : jM) : jO → jM → Prop := fun o M' => o = .inl v ∧ M' = M
def jExc (E : String) (M : jM) : jO → jM → Prop := fun o M' => o = .inr E ∧ M'.2 = M.2
theorem rf_pier {n i : Nat} (h : i < n) : RF n 1 0 i = some (10, i) := by
  show (if i < n then some (10, i) else none) = _
  rw [if_pos h]
theorem jx_add {x y : Int32} {a b : Nat} (hx : x = nI a) (hy : y = nI b) : x + y = nI (a + b) := by rw [hx, hy, nI_add]
theorem jx_mul {x y : Int32} {a b : Nat} (hx : x = nI a) (hy : y = nI b) : x * y = nI (a * b) := by rw [hx, hy, pk_mul]
theorem jx_sub {x y : Int32} {a b : Nat} (hx : x = nI a) (hy : y = nI b) (h : b ≤ a) : x - y = nI (a - b) := by rw [hx, hy, pk_sub h]
theorem cm_min : Cond.code Lib.Math.min.name Lib.Math.min.code 2 (some .int) ∈ WG := wg_of 209 (by decide +kernel) (by decide +kernel)
theorem sm_min : Cond.static Lib.Math.min.name ∈ WG := wg_of 208 (by decide +kernel) (by decide +kernel)
theorem cm_max : Cond.code Lib.Math.max.name Lib.Math.max.code 2 (some .int) ∈ WG := wg_of 560 (by decide +kernel) (by decide +kernel)
theorem sm_max : Cond.static Lib.Math.max.name ∈ WG := wg_of 559 (by decide +kernel) (by decide +kernel)
theorem cm_abs : Cond.code Lib.Math.abs.name Lib.Math.abs.code 1 (some .int) ∈ WG := wg_of 552 (by decide +kernel) (by decide +kernel)
theorem sm_abs : Cond.static Lib.Math.abs.name ∈ WG := wg_of 551 (by decide +kernel) (by decide +kernel)
theorem im_Math : Cond.initialized "java/lang/Math" ∈ WG := wg_of 57 (by decide +kernel) (by decide +kernel)
section J
variable {p : Program} {l : Launch} {e : Env} {R : Room} {s : State} {m : MethodId} {args : Array Value} {below : List Frame} {meth : Method} {c : Code} {D : va_G} {ca : Nat → ClassId} {q0 : Nat} {sa : Nat → Nat} {ad : jAd} {own : String} {cc : ByteArray} {nL : Nat} {ret : Option FieldType} {Q : State → Prop} {kc ks pc : Nat} {ls : List (Option Value)} {st : List Value} {M : jM}
variable {lvl mc ms : Nat} {Q0 : jO → jM → Prop}
theorem j_mmin (K : jK p l R s m args meth c D ca q0 sa own cc nL ret) {idx : Nat} {x y : Int32} (hd : decode cc pc = .ok (.invokestatic idx, 3)) (hk : Cond.methodLink own idx Lib.Math.min.name ∈ WG) (hsum : (st.map fun v => v.category).sum ≤ 8) (hR : 1 ≤ R.frames ∧ 21 ≤ R.locals) (kk : jW p l e R s m args below meth c D ca q0 ad nL Q kc ks (pc + 3) ls (.int (if y < x then y else x) :: st) M) : jW p l e R s m args below meth c D ca q0 ad nL Q kc ks pc ls (.int y :: .int x :: st) M :=
  fun H locs lsC cells slots h1 h2 h3 h4 h5 => va_mmin K.1 K.2.1 (K.2.2.1.trans h1.1.symm) K.2.2.2.1 (K.2.2.2.2.1 _ hk) (K.2.2.2.2.1 _ sm_min) (K.2.2.2.2.1 _ im_Math) (K.2.2.2.2.1 _ cm_min) hR.1 (by have := hR.2; omega) (by omega) (by omega) hd (kk H locs lsC cells slots h1 h2 h3 h4 h5)
theorem j_mmax (K : jK p l R s m args meth c D ca q0 sa own cc nL ret) {idx : Nat} {x y : Int32} (hd : decode cc pc = .ok (.invokestatic idx, 3)) (hk : Cond.methodLink own idx Lib.Math.max.name ∈ WG) (hsum : (st.map fun v => v.category).sum ≤ 8) (hR : 1 ≤ R.frames ∧ 21 ≤ R.locals) (kk : jW p l e R s m args below meth c D ca q0 ad nL Q kc ks (pc + 3) ls (.int (if x < y then y else x) :: st) M) : jW p l e R s m args below meth c D ca q0 ad nL Q kc ks pc ls (.int y :: .int x :: st) M :=
  fun H locs lsC cells slots h1 h2 h3 h4 h5 => va_mmax K.1 K.2.1 (K.2.2.1.trans h1.1.symm) K.2.2.2.1 (K.2.2.2.2.1 _ hk) (K.2.2.2.2.1 _ sm_max) (K.2.2.2.2.1 _ im_Math) (K.2.2.2.2.1 _ cm_max) hR.1 (by have := hR.2; omega) (by omega) (by omega) hd (kk H locs lsC cells slots h1 h2 h3 h4 h5)
theorem j_mabs (K : jK p l R s m args meth c D ca q0 sa own cc nL ret) {idx : Nat} {x : Int32} (hd : decode cc pc = .ok (.invokestatic idx, 3)) (hk : Cond.methodLink own idx Lib.Math.abs.name ∈ WG) (hsum : (st.map fun v => v.category).sum ≤ 8) (hR : 1 ≤ R.frames ∧ 21 ≤ R.locals) (kk : jW p l e R s m args below meth c D ca q0 ad nL Q kc ks (pc + 3) ls (.int (if 0 ≤ x then x else 0 - x) :: st) M) : jW p l e R s m args below meth c D ca q0 ad nL Q kc ks pc ls (.int x :: st) M :=
  fun H locs lsC cells slots h1 h2 h3 h4 h5 => va_mabs K.1 K.2.1 (K.2.2.1.trans h1.1.symm) K.2.2.2.1 (K.2.2.2.2.1 _ hk) (K.2.2.2.2.1 _ sm_abs) (K.2.2.2.2.1 _ im_Math) (K.2.2.2.2.1 _ cm_abs) hR.1 (by have := hR.2; omega) (by omega) (by omega) hd (kk H locs lsC cells slots h1 h2 h3 h4 h5)
theorem j_cV0r (K : jK p l R s m args meth c D ca q0 sa own cc nL ret) {y : MethodName} {bytes : ByteArray} {maxL idx lvl' mc' ms' k i ci : Nat} {ret' : Option FieldType} {M' : jM} {r : Value} (hd : decode cc pc = .ok (.invokevirtual idx, 3)) (hm : jMeth y bytes maxL ret' 0) (hv : jVirt y) (hk : jLnk own idx y) (hs : shp k = (0, ci)) (hci : ci < 7 ∧ y.cls = jC ci) (hlv : M.2.1 k i = true) (hM : jMet l D ca q0 sa ad y bytes maxL ret' lvl' mc' ms' [.ref (ad k i)] M (jRet (some r) M')) (hsum : (st.map fun v => v.category).sum ≤ 8) (hR : 6 + lvl' + 1 ≤ R.frames ∧ 8 + (maxL + 11) + (100 + 30 * lvl') ≤ R.locals) (hc : mc' ≤ kc) (hcs : ms' ≤ ks) (kk : jW p l e R s m args below meth c D ca q0 ad nL Q (kc - mc') (ks - ms') (pc + 3) ls (r :: st) M') : jW p l e R s m args below meth c D ca q0 ad nL Q kc ks pc ls (.ref (ad k i) :: st) M :=
  j_callV (av := []) K hd hm hv hk hs hci hlv hM rfl rfl hsum hR hc hcs (fun v N hq => by cases hq.1; cases hq.2; exact kk) (fun E N hq => nomatch hq.1)
theorem j_cV0n (K : jK p l R s m args meth c D ca q0 sa own cc nL ret) {y : MethodName} {bytes : ByteArray} {maxL idx lvl' mc' ms' k i ci : Nat} {ret' : Option FieldType} {M' : jM} (hd : decode cc pc = .ok (.invokevirtual idx, 3)) (hm : jMeth y bytes maxL ret' 0) (hv : jVirt y) (hk : jLnk own idx y) (hs : shp k = (0, ci)) (hci : ci < 7 ∧ y.cls = jC ci) (hlv : M.2.1 k i = true) (hM : jMet l D ca q0 sa ad y bytes maxL ret' lvl' mc' ms' [.ref (ad k i)] M (jRet none M')) (hsum : (st.map fun v => v.category).sum ≤ 8) (hR : 6 + lvl' + 1 ≤ R.frames ∧ 8 + (maxL + 11) + (100 + 30 * lvl') ≤ R.locals) (hc : mc' ≤ kc) (hcs : ms' ≤ ks) (kk : jW p l e R s m args below meth c D ca q0 ad nL Q (kc - mc') (ks - ms') (pc + 3) ls st M') : jW p l e R s m args below meth c D ca q0 ad nL Q kc ks pc ls (.ref (ad k i) :: st) M :=
  j_callV (av := []) K hd hm hv hk hs hci hlv hM rfl rfl hsum hR hc hcs (fun v N hq => by cases hq.1; cases hq.2; exact kk) (fun E N hq => nomatch hq.1)
theorem j_cV0x (K : jK p l (jRm lvl mc ms) s m args meth c D ca q0 sa own cc nL ret) {y : MethodName} {bytes : ByteArray} {maxL idx lvl' mc' ms' k i ci : Nat} {ret' : Option FieldType} {E : String} {M' : jM} (hd : decode cc pc = .ok (.invokevirtual idx, 3)) (hm : jMeth y bytes maxL ret' 0) (hv : jVirt y) (hk : jLnk own idx y) (hs : shp k = (0, ci)) (hci : ci < 7 ∧ y.cls = jC ci) (hlv : M.2.1 k i = true) (hM : jMet l D ca q0 sa ad y bytes maxL ret' lvl' mc' ms' [.ref (ad k i)] M (jExc E M')) (hsum : (st.map fun v => v.category).sum ≤ 8) (hR : 6 + lvl' + 1 ≤ (jRm lvl mc ms).frames ∧ 8 + (maxL + 11) + (100 + 30 * lvl') ≤ (jRm lvl mc ms).locals) (hc : mc' ≤ kc) (hcs : ms' ≤ ks) (hX : ∀ x ∈ c.exceptionTable.toList, False) (hq : ∀ z, Q0 (.inr E) (z, M'.2)) : jW p l e (jRm lvl mc ms) s m args below meth c D ca q0 ad nL (jZ below args s D ca q0 ad mc ms Q0) kc ks pc ls (.ref (ad k i) :: st) M :=
  j_callV (av := []) K hd hm hv hk hs hci hlv hM rfl rfl hsum hR hc hcs (fun v N hq' => nomatch hq'.1) (fun F N hq' => by obtain ⟨h1, h2⟩ := hq'; cases h1; exact j_out K hX (by have := hq N.1; rw [← h2] at this; exact this))
theorem j_cV1r (K : jK p l R s m args meth c D ca q0 sa own cc nL ret) {y : MethodName} {bytes : ByteArray} {maxL idx lvl' mc' ms' k i ci : Nat} {ret' : Option FieldType} {a1 : Value} {M' : jM} {r : Value} (hd : decode cc pc = .ok (.invokevirtual idx, 3)) (hm : jMeth y bytes maxL ret' 1) (hv : jVirt y) (hk : jLnk own idx y) (hs : shp k = (0, ci)) (hci : ci < 7 ∧ y.cls = jC ci) (hlv : M.2.1 k i = true) (hM : jMet l D ca q0 sa ad y bytes maxL ret' lvl' mc' ms' [.ref (ad k i), a1] M (jRet (some r) M')) (hsum : (st.map fun v => v.category).sum ≤ 8) (hR : 6 + lvl' + 1 ≤ R.frames ∧ 8 + (maxL + 11) + (100 + 30 * lvl') ≤ R.locals) (hc : mc' ≤ kc) (hcs : ms' ≤ ks) (kk : jW p l e R s m args below meth c D ca q0 ad nL Q (kc - mc') (ks - ms') (pc + 3) ls (r :: st) M') : jW p l e R s m args below meth c D ca q0 ad nL Q kc ks pc ls (a1 :: .ref (ad k i) :: st) M :=
  j_callV (av := [a1]) K hd hm hv hk hs hci hlv hM rfl rfl hsum hR hc hcs (fun v N hq => by cases hq.1; cases hq.2; exact kk) (fun E N hq => nomatch hq.1)
theorem j_cV1n (K : jK p l R s m args meth c D ca q0 sa own cc nL ret) {y : MethodName} {bytes : ByteArray} {maxL idx lvl' mc' ms' k i ci : Nat} {ret' : Option FieldType} {a1 : Value} {M' : jM} (hd : decode cc pc = .ok (.invokevirtual idx, 3)) (hm : jMeth y bytes maxL ret' 1) (hv : jVirt y) (hk : jLnk own idx y) (hs : shp k = (0, ci)) (hci : ci < 7 ∧ y.cls = jC ci) (hlv : M.2.1 k i = true) (hM : jMet l D ca q0 sa ad y bytes maxL ret' lvl' mc' ms' [.ref (ad k i), a1] M (jRet none M')) (hsum : (st.map fun v => v.category).sum ≤ 8) (hR : 6 + lvl' + 1 ≤ R.frames ∧ 8 + (maxL + 11) + (100 + 30 * lvl') ≤ R.locals) (hc : mc' ≤ kc) (hcs : ms' ≤ ks) (kk : jW p l e R s m args below meth c D ca q0 ad nL Q (kc - mc') (ks - ms') (pc + 3) ls st M') : jW p l e R s m args below meth c D ca q0 ad nL Q kc ks pc ls (a1 :: .ref (ad k i) :: st) M :=
  j_callV (av := [a1]) K hd hm hv hk hs hci hlv hM rfl rfl hsum hR hc hcs (fun v N hq => by cases hq.1; cases hq.2; exact kk) (fun E N hq => nomatch hq.1)
theorem j_cV1x (K : jK p l (jRm lvl mc ms) s m args meth c D ca q0 sa own cc nL ret) {y : MethodName} {bytes : ByteArray} {maxL idx lvl' mc' ms' k i ci : Nat} {ret' : Option FieldType} {a1 : Value} {E : String} {M' : jM} (hd : decode cc pc = .ok (.invokevirtual idx, 3)) (hm : jMeth y bytes maxL ret' 1) (hv : jVirt y) (hk : jLnk own idx y) (hs : shp k = (0, ci)) (hci : ci < 7 ∧ y.cls = jC ci) (hlv : M.2.1 k i = true) (hM : jMet l D ca q0 sa ad y bytes maxL ret' lvl' mc' ms' [.ref (ad k i), a1] M (jExc E M')) (hsum : (st.map fun v => v.category).sum ≤ 8) (hR : 6 + lvl' + 1 ≤ (jRm lvl mc ms).frames ∧ 8 + (maxL + 11) + (100 + 30 * lvl') ≤ (jRm lvl mc ms).locals) (hc : mc' ≤ kc) (hcs : ms' ≤ ks) (hX : ∀ x ∈ c.exceptionTable.toList, False) (hq : ∀ z, Q0 (.inr E) (z, M'.2)) : jW p l e (jRm lvl mc ms) s m args below meth c D ca q0 ad nL (jZ below args s D ca q0 ad mc ms Q0) kc ks pc ls (a1 :: .ref (ad k i) :: st) M :=
  j_callV (av := [a1]) K hd hm hv hk hs hci hlv hM rfl rfl hsum hR hc hcs (fun v N hq' => nomatch hq'.1) (fun F N hq' => by obtain ⟨h1, h2⟩ := hq'; cases h1; exact j_out K hX (by have := hq N.1; rw [← h2] at this; exact this))
theorem j_cV2r (K : jK p l R s m args meth c D ca q0 sa own cc nL ret) {y : MethodName} {bytes : ByteArray} {maxL idx lvl' mc' ms' k i ci : Nat} {ret' : Option FieldType} {a1 a2 : Value} {M' : jM} {r : Value} (hd : decode cc pc = .ok (.invokevirtual idx, 3)) (hm : jMeth y bytes maxL ret' 2) (hv : jVirt y) (hk : jLnk own idx y) (hs : shp k = (0, ci)) (hci : ci < 7 ∧ y.cls = jC ci) (hlv : M.2.1 k i = true) (hM : jMet l D ca q0 sa ad y bytes maxL ret' lvl' mc' ms' [.ref (ad k i), a1, a2] M (jRet (some r) M')) (hsum : (st.map fun v => v.category).sum ≤ 8) (hR : 6 + lvl' + 1 ≤ R.frames ∧ 8 + (maxL + 11) + (100 + 30 * lvl') ≤ R.locals) (hc : mc' ≤ kc) (hcs : ms' ≤ ks) (kk : jW p l e R s m args below meth c D ca q0 ad nL Q (kc - mc') (ks - ms') (pc + 3) ls (r :: st) M') : jW p l e R s m args below meth c D ca q0 ad nL Q kc ks pc ls (a2 :: a1 :: .ref (ad k i) :: st) M :=
  j_callV (av := [a1, a2]) K hd hm hv hk hs hci hlv hM rfl rfl hsum hR hc hcs (fun v N hq => by cases hq.1; cases hq.2; exact kk) (fun E N hq => nomatch hq.1)
theorem j_cV2n (K : jK p l R s m args meth c D ca q0 sa own cc nL ret) {y : MethodName} {bytes : ByteArray} {maxL idx lvl' mc' ms' k i ci : Nat} {ret' : Option FieldType} {a1 a2 : Value} {M' : jM} (hd : decode cc pc = .ok (.invokevirtual idx, 3)) (hm : jMeth y bytes maxL ret' 2) (hv : jVirt y) (hk : jLnk own idx y) (hs : shp k = (0, ci)) (hci : ci < 7 ∧ y.cls = jC ci) (hlv : M.2.1 k i = true) (hM : jMet l D ca q0 sa ad y bytes maxL ret' lvl' mc' ms' [.ref (ad k i), a1, a2] M (jRet none M')) (hsum : (st.map fun v => v.category).sum ≤ 8) (hR : 6 + lvl' + 1 ≤ R.frames ∧ 8 + (maxL + 11) + (100 + 30 * lvl') ≤ R.locals) (hc : mc' ≤ kc) (hcs : ms' ≤ ks) (kk : jW p l e R s m args below meth c D ca q0 ad nL Q (kc - mc') (ks - ms') (pc + 3) ls st M') : jW p l e R s m args below meth c D ca q0 ad nL Q kc ks pc ls (a2 :: a1 :: .ref (ad k i) :: st) M :=
  j_callV (av := [a1, a2]) K hd hm hv hk hs hci hlv hM rfl rfl hsum hR hc hcs (fun v N hq => by cases hq.1; cases hq.2; exact kk) (fun E N hq => nomatch hq.1)
theorem j_cV2x (K : jK p l (jRm lvl mc ms) s m args meth c D ca q0 sa own cc nL ret) {y : MethodName} {bytes : ByteArray} {maxL idx lvl' mc' ms' k i ci : Nat} {ret' : Option FieldType} {a1 a2 : Value} {E : String} {M' : jM} (hd : decode cc pc = .ok (.invokevirtual idx, 3)) (hm : jMeth y bytes maxL ret' 2) (hv : jVirt y) (hk : jLnk own idx y) (hs : shp k = (0, ci)) (hci : ci < 7 ∧ y.cls = jC ci) (hlv : M.2.1 k i = true) (hM : jMet l D ca q0 sa ad y bytes maxL ret' lvl' mc' ms' [.ref (ad k i), a1, a2] M (jExc E M')) (hsum : (st.map fun v => v.category).sum ≤ 8) (hR : 6 + lvl' + 1 ≤ (jRm lvl mc ms).frames ∧ 8 + (maxL + 11) + (100 + 30 * lvl') ≤ (jRm lvl mc ms).locals) (hc : mc' ≤ kc) (hcs : ms' ≤ ks) (hX : ∀ x ∈ c.exceptionTable.toList, False) (hq : ∀ z, Q0 (.inr E) (z, M'.2)) : jW p l e (jRm lvl mc ms) s m args below meth c D ca q0 ad nL (jZ below args s D ca q0 ad mc ms Q0) kc ks pc ls (a2 :: a1 :: .ref (ad k i) :: st) M :=
  j_callV (av := [a1, a2]) K hd hm hv hk hs hci hlv hM rfl rfl hsum hR hc hcs (fun v N hq' => nomatch hq'.1) (fun F N hq' => by obtain ⟨h1, h2⟩ := hq'; cases h1; exact j_out K hX (by have := hq N.1; rw [← h2] at this; exact this))
theorem j_cV3r (K : jK p l R s m args meth c D ca q0 sa own cc nL ret) {y : MethodName} {bytes : ByteArray} {maxL idx lvl' mc' ms' k i ci : Nat} {ret' : Option FieldType} {a1 a2 a3 : Value} {M' : jM} {r : Value} (hd : decode cc pc = .ok (.invokevirtual idx, 3)) (hm : jMeth y bytes maxL ret' 3) (hv : jVirt y) (hk : jLnk own idx y) (hs : shp k = (0, ci)) (hci : ci < 7 ∧ y.cls = jC ci) (hlv : M.2.1 k i = true) (hM : jMet l D ca q0 sa ad y bytes maxL ret' lvl' mc' ms' [.ref (ad k i), a1, a2, a3] M (jRet (some r) M')) (hsum : (st.map fun v => v.category).sum ≤ 8) (hR : 6 + lvl' + 1 ≤ R.frames ∧ 8 + (maxL + 11) + (100 + 30 * lvl') ≤ R.locals) (hc : mc' ≤ kc) (hcs : ms' ≤ ks) (kk : jW p l e R s m args below meth c D ca q0 ad nL Q (kc - mc') (ks - ms') (pc + 3) ls (r :: st) M') : jW p l e R s m args below meth c D ca q0 ad nL Q kc ks pc ls (a3 :: a2 :: a1 :: .ref (ad k i) :: st) M :=
  j_callV (av := [a1, a2, a3]) K hd hm hv hk hs hci hlv hM rfl rfl hsum hR hc hcs (fun v N hq => by cases hq.1; cases hq.2; exact kk) (fun E N hq => nomatch hq.1)
theorem j_cV3n (K : jK p l R s m args meth c D ca q0 sa own cc nL ret) {y : MethodName} {bytes : ByteArray} {maxL idx lvl' mc' ms' k i ci : Nat} {ret' : Option FieldType} {a1 a2 a3 : Value} {M' : jM} (hd : decode cc pc = .ok (.invokevirtual idx, 3)) (hm : jMeth y bytes maxL ret' 3) (hv : jVirt y) (hk : jLnk own idx y) (hs : shp k = (0, ci)) (hci : ci < 7 ∧ y.cls = jC ci) (hlv : M.2.1 k i = true) (hM : jMet l D ca q0 sa ad y bytes maxL ret' lvl' mc' ms' [.ref (ad k i), a1, a2, a3] M (jRet none M')) (hsum : (st.map fun v => v.category).sum ≤ 8) (hR : 6 + lvl' + 1 ≤ R.frames ∧ 8 + (maxL + 11) + (100 + 30 * lvl') ≤ R.locals) (hc : mc' ≤ kc) (hcs : ms' ≤ ks) (kk : jW p l e R s m args below meth c D ca q0 ad nL Q (kc - mc') (ks - ms') (pc + 3) ls st M') : jW p l e R s m args below meth c D ca q0 ad nL Q kc ks pc ls (a3 :: a2 :: a1 :: .ref (ad k i) :: st) M :=
  j_callV (av := [a1, a2, a3]) K hd hm hv hk hs hci hlv hM rfl rfl hsum hR hc hcs (fun v N hq => by cases hq.1; cases hq.2; exact kk) (fun E N hq => nomatch hq.1)
theorem j_cV3x (K : jK p l (jRm lvl mc ms) s m args meth c D ca q0 sa own cc nL ret) {y : MethodName} {bytes : ByteArray} {maxL idx lvl' mc' ms' k i ci : Nat} {ret' : Option FieldType} {a1 a2 a3 : Value} {E : String} {M' : jM} (hd : decode cc pc = .ok (.invokevirtual idx, 3)) (hm : jMeth y bytes maxL ret' 3) (hv : jVirt y) (hk : jLnk own idx y) (hs : shp k = (0, ci)) (hci : ci < 7 ∧ y.cls = jC ci) (hlv : M.2.1 k i = true) (hM : jMet l D ca q0 sa ad y bytes maxL ret' lvl' mc' ms' [.ref (ad k i), a1, a2, a3] M (jExc E M')) (hsum : (st.map fun v => v.category).sum ≤ 8) (hR : 6 + lvl' + 1 ≤ (jRm lvl mc ms).frames ∧ 8 + (maxL + 11) + (100 + 30 * lvl') ≤ (jRm lvl mc ms).locals) (hc : mc' ≤ kc) (hcs : ms' ≤ ks) (hX : ∀ x ∈ c.exceptionTable.toList, False) (hq : ∀ z, Q0 (.inr E) (z, M'.2)) : jW p l e (jRm lvl mc ms) s m args below meth c D ca q0 ad nL (jZ below args s D ca q0 ad mc ms Q0) kc ks pc ls (a3 :: a2 :: a1 :: .ref (ad k i) :: st) M :=
  j_callV (av := [a1, a2, a3]) K hd hm hv hk hs hci hlv hM rfl rfl hsum hR hc hcs (fun v N hq' => nomatch hq'.1) (fun F N hq' => by obtain ⟨h1, h2⟩ := hq'; cases h1; exact j_out K hX (by have := hq N.1; rw [← h2] at this; exact this))
theorem j_cV5r (K : jK p l R s m args meth c D ca q0 sa own cc nL ret) {y : MethodName} {bytes : ByteArray} {maxL idx lvl' mc' ms' k i ci : Nat} {ret' : Option FieldType} {a1 a2 a3 a4 a5 : Value} {M' : jM} {r : Value} (hd : decode cc pc = .ok (.invokevirtual idx, 3)) (hm : jMeth y bytes maxL ret' 5) (hv : jVirt y) (hk : jLnk own idx y) (hs : shp k = (0, ci)) (hci : ci < 7 ∧ y.cls = jC ci) (hlv : M.2.1 k i = true) (hM : jMet l D ca q0 sa ad y bytes maxL ret' lvl' mc' ms' [.ref (ad k i), a1, a2, a3, a4, a5] M (jRet (some r) M')) (hsum : (st.map fun v => v.category).sum ≤ 8) (hR : 6 + lvl' + 1 ≤ R.frames ∧ 8 + (maxL + 11) + (100 + 30 * lvl') ≤ R.locals) (hc : mc' ≤ kc) (hcs : ms' ≤ ks) (kk : jW p l e R s m args below meth c D ca q0 ad nL Q (kc - mc') (ks - ms') (pc + 3) ls (r :: st) M') : jW p l e R s m args below meth c D ca q0 ad nL Q kc ks pc ls (a5 :: a4 :: a3 :: a2 :: a1 :: .ref (ad k i) :: st) M :=
  j_callV (av := [a1, a2, a3, a4, a5]) K hd hm hv hk hs hci hlv hM rfl rfl hsum hR hc hcs (fun v N hq => by cases hq.1; cases hq.2; exact kk) (fun E N hq => nomatch hq.1)
theorem j_cV5n (K : jK p l R s m args meth c D ca q0 sa own cc nL ret) {y : MethodName} {bytes : ByteArray} {maxL idx lvl' mc' ms' k i ci : Nat} {ret' : Option FieldType} {a1 a2 a3 a4 a5 : Value} {M' : jM} (hd : decode cc pc = .ok (.invokevirtual idx, 3)) (hm : jMeth y bytes maxL ret' 5) (hv : jVirt y) (hk : jLnk own idx y) (hs : shp k = (0, ci)) (hci : ci < 7 ∧ y.cls = jC ci) (hlv : M.2.1 k i = true) (hM : jMet l D ca q0 sa ad y bytes maxL ret' lvl' mc' ms' [.ref (ad k i), a1, a2, a3, a4, a5] M (jRet none M')) (hsum : (st.map fun v => v.category).sum ≤ 8) (hR : 6 + lvl' + 1 ≤ R.frames ∧ 8 + (maxL + 11) + (100 + 30 * lvl') ≤ R.locals) (hc : mc' ≤ kc) (hcs : ms' ≤ ks) (kk : jW p l e R s m args below meth c D ca q0 ad nL Q (kc - mc') (ks - ms') (pc + 3) ls st M') : jW p l e R s m args below meth c D ca q0 ad nL Q kc ks pc ls (a5 :: a4 :: a3 :: a2 :: a1 :: .ref (ad k i) :: st) M :=
  j_callV (av := [a1, a2, a3, a4, a5]) K hd hm hv hk hs hci hlv hM rfl rfl hsum hR hc hcs (fun v N hq => by cases hq.1; cases hq.2; exact kk) (fun E N hq => nomatch hq.1)
theorem j_cV5x (K : jK p l (jRm lvl mc ms) s m args meth c D ca q0 sa own cc nL ret) {y : MethodName} {bytes : ByteArray} {maxL idx lvl' mc' ms' k i ci : Nat} {ret' : Option FieldType} {a1 a2 a3 a4 a5 : Value} {E : String} {M' : jM} (hd : decode cc pc = .ok (.invokevirtual idx, 3)) (hm : jMeth y bytes maxL ret' 5) (hv : jVirt y) (hk : jLnk own idx y) (hs : shp k = (0, ci)) (hci : ci < 7 ∧ y.cls = jC ci) (hlv : M.2.1 k i = true) (hM : jMet l D ca q0 sa ad y bytes maxL ret' lvl' mc' ms' [.ref (ad k i), a1, a2, a3, a4, a5] M (jExc E M')) (hsum : (st.map fun v => v.category).sum ≤ 8) (hR : 6 + lvl' + 1 ≤ (jRm lvl mc ms).frames ∧ 8 + (maxL + 11) + (100 + 30 * lvl') ≤ (jRm lvl mc ms).locals) (hc : mc' ≤ kc) (hcs : ms' ≤ ks) (hX : ∀ x ∈ c.exceptionTable.toList, False) (hq : ∀ z, Q0 (.inr E) (z, M'.2)) : jW p l e (jRm lvl mc ms) s m args below meth c D ca q0 ad nL (jZ below args s D ca q0 ad mc ms Q0) kc ks pc ls (a5 :: a4 :: a3 :: a2 :: a1 :: .ref (ad k i) :: st) M :=
  j_callV (av := [a1, a2, a3, a4, a5]) K hd hm hv hk hs hci hlv hM rfl rfl hsum hR hc hcs (fun v N hq' => nomatch hq'.1) (fun F N hq' => by obtain ⟨h1, h2⟩ := hq'; cases h1; exact j_out K hX (by have := hq N.1; rw [← h2] at this; exact this))
theorem j_cS1r (K : jK p l R s m args meth c D ca q0 sa own cc nL ret) {y : MethodName} {bytes : ByteArray} {maxL idx lvl' mc' ms' : Nat} {ret' : Option FieldType} {a1 : Value} {M' : jM} {r : Value} (hd : decode cc pc = .ok (.invokestatic idx, 3)) (hm : jMeth y bytes maxL ret' 1) (hv : Cond.static y ∈ WG) (hk : jLnk own idx y) (hM : jMet l D ca q0 sa ad y bytes maxL ret' lvl' mc' ms' [a1] M (jRet (some r) M')) (hsum : (st.map fun v => v.category).sum ≤ 8) (hR : 6 + lvl' + 1 ≤ R.frames ∧ 8 + (maxL + 11) + (100 + 30 * lvl') ≤ R.locals) (hc : mc' ≤ kc) (hcs : ms' ≤ ks) (kk : jW p l e R s m args below meth c D ca q0 ad nL Q (kc - mc') (ks - ms') (pc + 3) ls (r :: st) M') : jW p l e R s m args below meth c D ca q0 ad nL Q kc ks pc ls (a1 :: st) M :=
  j_callS (av := [a1]) K hd hm hv hk hM rfl rfl hsum hR hc hcs (fun v N hq => by cases hq.1; cases hq.2; exact kk) (fun E N hq => nomatch hq.1)
theorem j_cS1n (K : jK p l R s m args meth c D ca q0 sa own cc nL ret) {y : MethodName} {bytes : ByteArray} {maxL idx lvl' mc' ms' : Nat} {ret' : Option FieldType} {a1 : Value} {M' : jM} (hd : decode cc pc = .ok (.invokestatic idx, 3)) (hm : jMeth y bytes maxL ret' 1) (hv : Cond.static y ∈ WG) (hk : jLnk own idx y) (hM : jMet l D ca q0 sa ad y bytes maxL ret' lvl' mc' ms' [a1] M (jRet none M')) (hsum : (st.map fun v => v.category).sum ≤ 8) (hR : 6 + lvl' + 1 ≤ R.frames ∧ 8 + (maxL + 11) + (100 + 30 * lvl') ≤ R.locals) (hc : mc' ≤ kc) (hcs : ms' ≤ ks) (kk : jW p l e R s m args below meth c D ca q0 ad nL Q (kc - mc') (ks - ms') (pc + 3) ls st M') : jW p l e R s m args below meth c D ca q0 ad nL Q kc ks pc ls (a1 :: st) M :=
  j_callS (av := [a1]) K hd hm hv hk hM rfl rfl hsum hR hc hcs (fun v N hq => by cases hq.1; cases hq.2; exact kk) (fun E N hq => nomatch hq.1)
theorem j_cS1x (K : jK p l (jRm lvl mc ms) s m args meth c D ca q0 sa own cc nL ret) {y : MethodName} {bytes : ByteArray} {maxL idx lvl' mc' ms' : Nat} {ret' : Option FieldType} {a1 : Value} {E : String} {M' : jM} (hd : decode cc pc = .ok (.invokestatic idx, 3)) (hm : jMeth y bytes maxL ret' 1) (hv : Cond.static y ∈ WG) (hk : jLnk own idx y) (hM : jMet l D ca q0 sa ad y bytes maxL ret' lvl' mc' ms' [a1] M (jExc E M')) (hsum : (st.map fun v => v.category).sum ≤ 8) (hR : 6 + lvl' + 1 ≤ (jRm lvl mc ms).frames ∧ 8 + (maxL + 11) + (100 + 30 * lvl') ≤ (jRm lvl mc ms).locals) (hc : mc' ≤ kc) (hcs : ms' ≤ ks) (hX : ∀ x ∈ c.exceptionTable.toList, False) (hq : ∀ z, Q0 (.inr E) (z, M'.2)) : jW p l e (jRm lvl mc ms) s m args below meth c D ca q0 ad nL (jZ below args s D ca q0 ad mc ms Q0) kc ks pc ls (a1 :: st) M :=
  j_callS (av := [a1]) K hd hm hv hk hM rfl rfl hsum hR hc hcs (fun v N hq' => nomatch hq'.1) (fun F N hq' => by obtain ⟨h1, h2⟩ := hq'; cases h1; exact j_out K hX (by have := hq N.1; rw [← h2] at this; exact this))
theorem j_cS2r (K : jK p l R s m args meth c D ca q0 sa own cc nL ret) {y : MethodName} {bytes : ByteArray} {maxL idx lvl' mc' ms' : Nat} {ret' : Option FieldType} {a1 a2 : Value} {M' : jM} {r : Value} (hd : decode cc pc = .ok (.invokestatic idx, 3)) (hm : jMeth y bytes maxL ret' 2) (hv : Cond.static y ∈ WG) (hk : jLnk own idx y) (hM : jMet l D ca q0 sa ad y bytes maxL ret' lvl' mc' ms' [a1, a2] M (jRet (some r) M')) (hsum : (st.map fun v => v.category).sum ≤ 8) (hR : 6 + lvl' + 1 ≤ R.frames ∧ 8 + (maxL + 11) + (100 + 30 * lvl') ≤ R.locals) (hc : mc' ≤ kc) (hcs : ms' ≤ ks) (kk : jW p l e R s m args below meth c D ca q0 ad nL Q (kc - mc') (ks - ms') (pc + 3) ls (r :: st) M') : jW p l e R s m args below meth c D ca q0 ad nL Q kc ks pc ls (a2 :: a1 :: st) M :=
  j_callS (av := [a1, a2]) K hd hm hv hk hM rfl rfl hsum hR hc hcs (fun v N hq => by cases hq.1; cases hq.2; exact kk) (fun E N hq => nomatch hq.1)
theorem j_cS2n (K : jK p l R s m args meth c D ca q0 sa own cc nL ret) {y : MethodName} {bytes : ByteArray} {maxL idx lvl' mc' ms' : Nat} {ret' : Option FieldType} {a1 a2 : Value} {M' : jM} (hd : decode cc pc = .ok (.invokestatic idx, 3)) (hm : jMeth y bytes maxL ret' 2) (hv : Cond.static y ∈ WG) (hk : jLnk own idx y) (hM : jMet l D ca q0 sa ad y bytes maxL ret' lvl' mc' ms' [a1, a2] M (jRet none M')) (hsum : (st.map fun v => v.category).sum ≤ 8) (hR : 6 + lvl' + 1 ≤ R.frames ∧ 8 + (maxL + 11) + (100 + 30 * lvl') ≤ R.locals) (hc : mc' ≤ kc) (hcs : ms' ≤ ks) (kk : jW p l e R s m args below meth c D ca q0 ad nL Q (kc - mc') (ks - ms') (pc + 3) ls st M') : jW p l e R s m args below meth c D ca q0 ad nL Q kc ks pc ls (a2 :: a1 :: st) M :=
  j_callS (av := [a1, a2]) K hd hm hv hk hM rfl rfl hsum hR hc hcs (fun v N hq => by cases hq.1; cases hq.2; exact kk) (fun E N hq => nomatch hq.1)
theorem j_cS2x (K : jK p l (jRm lvl mc ms) s m args meth c D ca q0 sa own cc nL ret) {y : MethodName} {bytes : ByteArray} {maxL idx lvl' mc' ms' : Nat} {ret' : Option FieldType} {a1 a2 : Value} {E : String} {M' : jM} (hd : decode cc pc = .ok (.invokestatic idx, 3)) (hm : jMeth y bytes maxL ret' 2) (hv : Cond.static y ∈ WG) (hk : jLnk own idx y) (hM : jMet l D ca q0 sa ad y bytes maxL ret' lvl' mc' ms' [a1, a2] M (jExc E M')) (hsum : (st.map fun v => v.category).sum ≤ 8) (hR : 6 + lvl' + 1 ≤ (jRm lvl mc ms).frames ∧ 8 + (maxL + 11) + (100 + 30 * lvl') ≤ (jRm lvl mc ms).locals) (hc : mc' ≤ kc) (hcs : ms' ≤ ks) (hX : ∀ x ∈ c.exceptionTable.toList, False) (hq : ∀ z, Q0 (.inr E) (z, M'.2)) : jW p l e (jRm lvl mc ms) s m args below meth c D ca q0 ad nL (jZ below args s D ca q0 ad mc ms Q0) kc ks pc ls (a2 :: a1 :: st) M :=
  j_callS (av := [a1, a2]) K hd hm hv hk hM rfl rfl hsum hR hc hcs (fun v N hq' => nomatch hq'.1) (fun F N hq' => by obtain ⟨h1, h2⟩ := hq'; cases h1; exact j_out K hX (by have := hq N.1; rw [← h2] at this; exact this))
theorem j_cS3r (K : jK p l R s m args meth c D ca q0 sa own cc nL ret) {y : MethodName} {bytes : ByteArray} {maxL idx lvl' mc' ms' : Nat} {ret' : Option FieldType} {a1 a2 a3 : Value} {M' : jM} {r : Value} (hd : decode cc pc = .ok (.invokestatic idx, 3)) (hm : jMeth y bytes maxL ret' 3) (hv : Cond.static y ∈ WG) (hk : jLnk own idx y) (hM : jMet l D ca q0 sa ad y bytes maxL ret' lvl' mc' ms' [a1, a2, a3] M (jRet (some r) M')) (hsum : (st.map fun v => v.category).sum ≤ 8) (hR : 6 + lvl' + 1 ≤ R.frames ∧ 8 + (maxL + 11) + (100 + 30 * lvl') ≤ R.locals) (hc : mc' ≤ kc) (hcs : ms' ≤ ks) (kk : jW p l e R s m args below meth c D ca q0 ad nL Q (kc - mc') (ks - ms') (pc + 3) ls (r :: st) M') : jW p l e R s m args below meth c D ca q0 ad nL Q kc ks pc ls (a3 :: a2 :: a1 :: st) M :=
  j_callS (av := [a1, a2, a3]) K hd hm hv hk hM rfl rfl hsum hR hc hcs (fun v N hq => by cases hq.1; cases hq.2; exact kk) (fun E N hq => nomatch hq.1)
theorem j_cS3n (K : jK p l R s m args meth c D ca q0 sa own cc nL ret) {y : MethodName} {bytes : ByteArray} {maxL idx lvl' mc' ms' : Nat} {ret' : Option FieldType} {a1 a2 a3 : Value} {M' : jM} (hd : decode cc pc = .ok (.invokestatic idx, 3)) (hm : jMeth y bytes maxL ret' 3) (hv : Cond.static y ∈ WG) (hk : jLnk own idx y) (hM : jMet l D ca q0 sa ad y bytes maxL ret' lvl' mc' ms' [a1, a2, a3] M (jRet none M')) (hsum : (st.map fun v => v.category).sum ≤ 8) (hR : 6 + lvl' + 1 ≤ R.frames ∧ 8 + (maxL + 11) + (100 + 30 * lvl') ≤ R.locals) (hc : mc' ≤ kc) (hcs : ms' ≤ ks) (kk : jW p l e R s m args below meth c D ca q0 ad nL Q (kc - mc') (ks - ms') (pc + 3) ls st M') : jW p l e R s m args below meth c D ca q0 ad nL Q kc ks pc ls (a3 :: a2 :: a1 :: st) M :=
  j_callS (av := [a1, a2, a3]) K hd hm hv hk hM rfl rfl hsum hR hc hcs (fun v N hq => by cases hq.1; cases hq.2; exact kk) (fun E N hq => nomatch hq.1)
theorem j_cS3x (K : jK p l (jRm lvl mc ms) s m args meth c D ca q0 sa own cc nL ret) {y : MethodName} {bytes : ByteArray} {maxL idx lvl' mc' ms' : Nat} {ret' : Option FieldType} {a1 a2 a3 : Value} {E : String} {M' : jM} (hd : decode cc pc = .ok (.invokestatic idx, 3)) (hm : jMeth y bytes maxL ret' 3) (hv : Cond.static y ∈ WG) (hk : jLnk own idx y) (hM : jMet l D ca q0 sa ad y bytes maxL ret' lvl' mc' ms' [a1, a2, a3] M (jExc E M')) (hsum : (st.map fun v => v.category).sum ≤ 8) (hR : 6 + lvl' + 1 ≤ (jRm lvl mc ms).frames ∧ 8 + (maxL + 11) + (100 + 30 * lvl') ≤ (jRm lvl mc ms).locals) (hc : mc' ≤ kc) (hcs : ms' ≤ ks) (hX : ∀ x ∈ c.exceptionTable.toList, False) (hq : ∀ z, Q0 (.inr E) (z, M'.2)) : jW p l e (jRm lvl mc ms) s m args below meth c D ca q0 ad nL (jZ below args s D ca q0 ad mc ms Q0) kc ks pc ls (a3 :: a2 :: a1 :: st) M :=
  j_callS (av := [a1, a2, a3]) K hd hm hv hk hM rfl rfl hsum hR hc hcs (fun v N hq' => nomatch hq'.1) (fun F N hq' => by obtain ⟨h1, h2⟩ := hq'; cases h1; exact j_out K hX (by have := hq N.1; rw [← h2] at this; exact this))
end J
end
section
theorem jMet_met {l : Launch} {D : va_G} {ca : Nat → ClassId} {q0 : Nat} {sa : Nat → Nat} {ad : jAd} {y : MethodName} {bytes : ByteArray} {maxL : Nat} {ret : Option FieldType} {lvl mc ms : Nat} {av : List Value} {M : jM} {Q : jO → jM → Prop} (hl : l.stackTraces = false) (hM : jMet l D ca q0 sa ad y bytes maxL ret lvl mc ms av M Q) (hnx : ∀ E N, ¬ Q (.inr E) N) :
    Met l y (Cond.code y bytes maxL ret :: WG) (jRm lvl mc ms) (va_Pc av (fun U => jE D ca q0 sa U U.heap ∧ q0 ≤ U.heap.size ∧ jRep D ca q0 ad M U.heap)) (jQc D ca q0 ad Q) mc ms (fun q => q0 ≤ q) := by
  refine MetFree.mono (hM hl) (fun _ _ h => h) (fun _ _ _ _ _ h => h) (fun a s o t _ h => ?_)
  rcases h with h | ⟨q, _, E, ce, L, ⟨N, hq, _⟩, _⟩
  · exact h
  · exact absurd hq (hnx _ _)
theorem jx_ofWF {l : Launch} {y : MethodName} {ws ws' : List Cond} {rm : Room} {Pc : Array Value → State → Prop} {Qc : Array Value → State → Outcome → State → Prop} {XC : String → State → State → Prop} {mc ms : Nat} {free : Addr → Prop} {cc : ByteArray} {maxL : Nat} {ret : Option FieldType}
    (hy : plainFor y = true) (hw : ws = Cond.code y cc maxL ret :: ws')
    (body : ∀ p e s m args below meth c s₁, BodyLoose p l y (headSpec ws rm) cc maxL ret e s m args below meth c s₁ → c.maxLocals = maxL → Pc args s →
      W p l e (headSpec ws rm).room s m args below meth c s.heap [] 0 0 (vx_MQ below Qc XC args s mc ms free) (entryFrame m args maxL)) : vx_Met l y ws rm Pc Qc XC mc ms free := by
  refine MetFree.of_bodySF (code := cc) (maxLocals := maxL) (ret := ret) hy ?_ ?_
  · intro args s m h hn
    obtain ⟨meth, c, h1, h2, h3, h4, h5, h6, -, -⟩ := Cond.code_spec hn (atoms_spec (ws := ws) h _ (by rw [hw]; exact List.mem_cons_self))
    exact ⟨meth, c, h1, h2, h3, h4, h5, h6⟩
  · intro p e s m args below meth c s₁ B hml hP _
    have hh0 : s₁.heap = s.heap := by rw [B.state]; rfl
    obtain ⟨t, a1, o, b1, b2, b3⟩ := body p e s m args below meth c s₁ B hml hP s₁ hh0 (Stand.of_body B)
    exact ⟨t, o, a1, b1, b2, b3⟩
/-- entering a method of a class that the machine doesn't take as plainly named (java.lang.Math) -/
theorem j_enterF {l : Launch} {D : va_G} {ca : Nat → ClassId} {q0 : Nat} {sa : Nat → Nat} {ad : jAd} {y : MethodName} {cc : ByteArray} {nL : Nat} {ret : Option FieldType} {lvl mc ms : Nat} {av : List Value} {M : jM} {Q0 : jO → jM → Prop} (own : String) (ls : List (Option Value)) (hown : y.cls = own) (hy : plainFor y = true) (hcat : ∀ v ∈ av, v.category = 1) (hlen : av.length ≤ nL) (hls : av.map some ++ List.replicate (nL - av.length) none = ls)
    (body : ∀ p e s m args below meth c, jK p l (jRm lvl mc ms) s m args meth c D ca q0 sa own cc nL ret →
      jW p l e (jRm lvl mc ms) s m args below meth c D ca q0 ad nL (jZ below args s D ca q0 ad mc ms Q0) mc ms 0 ls [] M) : jMet l D ca q0 sa ad y cc nL ret lvl mc ms av M Q0 := by
  intro hl
  refine jx_ofWF (cc := cc) (maxL := nL) (ret := ret) hy rfl ?_
  intro p e s m args below meth c s₁ B hml hv
  obtain ⟨rfl, hE, hq0, hR⟩ := hv
  subst hls
  have hts : ∀ w ∈ WG, w.before av.toArray s = true := fun w hw => atoms_spec (ws := Cond.code y cc nL ret :: WG) B.pre w (List.mem_cons_of_mem _ hw)
  have hown2 : s.vm.findClass own = some m.cls := by rw [← hown]; exact findClass_of_methodNamed B.named
  have K := body p e s m av.toArray below meth c ⟨B.exec, B.bytes, hml, hown2, hts, B.notSynchronized, hE, hq0, B.returns, hl⟩
  rw [lg_entry_eq]
  exact K s.heap [] _ 0 0 (jL_entry hcat hlen) hR va_S.rf (by simp) (by simp)
section J
variable {p : Program} {l : Launch} {e : Env} {R : Room} {s : State} {m : MethodId} {args : Array Value} {below : List Frame} {meth : Method} {c : Code} {D : va_G} {ca : Nat → ClassId} {q0 : Nat} {sa : Nat → Nat} {ad : jAd} {own : String} {cc : ByteArray} {nL : Nat} {ret : Option FieldType} {Q : State → Prop} {kc ks pc : Nat} {ls : List (Option Value)} {st : List Value} {M : jM}
theorem j_backM {mc' ms' : Nat} {st0 : List Value} {a : Array Value} {Q' : jO → jM → Prop}
    (hr : ∀ (H : Heap) (locs : List Loc) (lsC : Array Slot) (cells slots : Nat), jL lsC nL ls → jRep D ca q0 ad M H → va_S (fun q => q0 ≤ q) s.heap H locs → cells + mc' ≤ R.cells ∧ slots + ms' ≤ R.slots → va_Run p l e R s m args below meth c H locs cells slots mc' ms' (F0 m pc lsC st0) st (jQc D ca q0 ad Q' a) (fun q => q0 ≤ q))
    (hc : mc' ≤ kc) (hs : ms' ≤ ks)
    (kk : ∀ (v : Option Value) (M' : jM), Q' (.inl v) M' → jW p l e R s m args below meth c D ca q0 ad nL Q (kc - mc') (ks - ms') (pc + 3) ls (v.toList ++ st) M') : jW p l e R s m args below meth c D ca q0 ad nL Q kc ks pc ls st0 M := by
  intro H locs lsC cells slots h1 h2 h3 h4 h5 T hT X
  obtain ⟨v, st₀, t, T', L, h0, X', hL, e1, e2, ⟨v', M', hv, hq, hrep, hF⟩, stp⟩ := hr H locs lsC cells slots h1 h2 h3 ⟨by omega, by omega⟩ T hT X
  cases hv
  obtain ⟨k1, k2, k3⟩ := vx_keep h0 e1 h3 (fun q _ h => h) (fun q h => h) hL hF
  obtain ⟨t2, a1, b1⟩ := kk v M' hq T'.heap (locs ++ L) lsC (cells + mc') (slots + ms') h1 (by rw [e1]; exact hrep) k3 (by omega) (by omega) T' rfl X'
  exact ⟨t2, stp t2 a1, b1⟩
theorem jPreS (K : jK p l R s m args meth c D ca q0 sa own cc nL ret) {H : Heap} {locs : List Loc} {As : List Value} (h2 : jRep D ca q0 ad M H) (h3 : va_S (fun q => q0 ≤ q) s.heap H locs) : PreS s H (va_Pc As (fun U => jE D ca q0 sa U U.heap ∧ q0 ≤ U.heap.size ∧ jRep D ca q0 ad M U.heap)) As :=
  ⟨jblind, fun U hU hW => ⟨rfl, jE_moved K.2.2.2.2.2.2.1 h3 hU hW, by rw [hU]; exact Nat.le_trans K.2.2.2.2.2.2.2.1 h3.1, by rw [hU]; exact h2⟩⟩
theorem jNest {y : MethodName} {bytes : ByteArray} {maxL n idx lvl' mc' ms' : Nat} {ret' : Option FieldType} {host : String} (K : jK p l R s m args meth c D ca q0 sa own cc nL ret) (hm : jMeth y bytes maxL ret' n) (hk : Cond.methodLinkNest own idx y host ∈ OW) (hR : 6 + lvl' + 1 ≤ R.frames ∧ 8 + (maxL + 11) + (100 + 30 * lvl') ≤ R.locals) :
    va_CN R s args own idx y host bytes maxL ret' (Cond.code y bytes maxL ret' :: WG) (jRm lvl' mc' ms') mc' ms' n :=
  va_cnB n K.2.2.2.2.1 (wg_self hm.1) rfl rfl rfl (K.2.2.2.2.2.2.1.2.2.2.2.1 _ hk) (K.2.2.2.2.1 _ hm.2.1) hm.2.2 hR
theorem j_cSN1r (K : jK p l R s m args meth c D ca q0 sa own cc nL ret) {y : MethodName} {bytes : ByteArray} {maxL idx lvl' mc' ms' : Nat} {ret' : Option FieldType} {host : String} {a1 r : Value} {M' : jM} (hd : decode cc pc = .ok (.invokestatic idx, 3)) (hm : jMeth y bytes maxL ret' 1) (hv : Cond.static y ∈ WG) (hk : Cond.methodLinkNest own idx y host ∈ OW) (hM : jMet l D ca q0 sa ad y bytes maxL ret' lvl' mc' ms' [a1] M (jRet (some r) M')) (hsum : (st.map fun v => v.category).sum ≤ 8) (hR : 6 + lvl' + 1 ≤ R.frames ∧ 8 + (maxL + 11) + (100 + 30 * lvl') ≤ R.locals) (hc : mc' ≤ kc) (hcs : ms' ≤ ks)
    (kk : jW p l e R s m args below meth c D ca q0 ad nL Q (kc - mc') (ks - ms') (pc + 3) ls (r :: st) M') : jW p l e R s m args below meth c D ca q0 ad nL Q kc ks pc ls (a1 :: st) M := by
  refine j_backM (Q' := jRet (some r) M') (st := st) (a := [a1].toArray) (fun H locs lsC cells slots h1 h2 h3 hf => ?_) hc hcs (fun v N hq => by cases hq.1; cases hq.2; exact kk)
  exact va_runSN (As := [a1]) (rest := st) (jCF K) (jMet_met K.2.2.2.2.2.2.2.2.2 hM (fun E N h => nomatch h.1)) ⟨jNest K hm hk hR, K.2.2.2.2.1 _ hv, trivial⟩ (jPreS K h2 h3) rfl rfl h1.1 rfl (lv_room hsum) hd hf
/-- a constructor, by its own class's link or as a nest mate's -/
theorem j_cI (K : jK p l R s m args meth c D ca q0 sa own cc nL ret) {y : MethodName} {bytes : ByteArray} {maxL n idx lvl' mc' ms' k i : Nat} {av st0 : List Value} {M' : jM} (hd : decode cc pc = .ok (.invokespecial idx, 3)) (hm : jMeth y bytes maxL none n) (hv : Cond.instanceMethod y ∈ WG) (hk : jLnk own idx y) (hy1 : y.name = "<init>")
    (hM : jMet l D ca q0 sa ad y bytes maxL none lvl' mc' ms' (.ref (ad k i) :: av) M (jRet none M')) (hst : st0 = av.reverse ++ .ref (ad k i) :: st) (hn : av.length = n) (hsum : (st.map fun v => v.category).sum ≤ 8) (hR : 6 + lvl' + 1 ≤ R.frames ∧ 8 + (maxL + 11) + (100 + 30 * lvl') ≤ R.locals) (hc : mc' ≤ kc) (hcs : ms' ≤ ks)
    (kk : jW p l e R s m args below meth c D ca q0 ad nL Q (kc - mc') (ks - ms') (pc + 3) ls st M') : jW p l e R s m args below meth c D ca q0 ad nL Q kc ks pc ls st0 M := by
  refine j_backM (Q' := jRet none M') (st := st) (a := (Value.ref (ad k i) :: av).toArray) (fun H locs lsC cells slots h1 h2 h3 hf => ?_) hc hcs (fun v N hq => by cases hq.1; cases hq.2; exact kk)
  subst hst
  exact va_runI (b := ad k i) (As := av) (rest := st) (jCF K) (jMet_met K.2.2.2.2.2.2.2.2.2 hM (fun E N h => nomatch h.1)) ⟨jcallB K hm hk hR, hy1, K.2.2.2.2.1 _ hv⟩ (jPreS K h2 h3) rfl hn h1.1 rfl (lv_room hsum) hd hf
theorem j_cIN (K : jK p l R s m args meth c D ca q0 sa own cc nL ret) {y : MethodName} {bytes : ByteArray} {maxL n idx lvl' mc' ms' k i : Nat} {host : String} {av st0 : List Value} {M' : jM} (hd : decode cc pc = .ok (.invokespecial idx, 3)) (hm : jMeth y bytes maxL none n) (hv : Cond.instanceMethod y ∈ WG) (hk : Cond.methodLinkNest own idx y host ∈ OW) (hy1 : y.name = "<init>")
    (hM : jMet l D ca q0 sa ad y bytes maxL none lvl' mc' ms' (.ref (ad k i) :: av) M (jRet none M')) (hst : st0 = av.reverse ++ .ref (ad k i) :: st) (hn : av.length = n) (hsum : (st.map fun v => v.category).sum ≤ 8) (hR : 6 + lvl' + 1 ≤ R.frames ∧ 8 + (maxL + 11) + (100 + 30 * lvl') ≤ R.locals) (hc : mc' ≤ kc) (hcs : ms' ≤ ks)
    (kk : jW p l e R s m args below meth c D ca q0 ad nL Q (kc - mc') (ks - ms') (pc + 3) ls st M') : jW p l e R s m args below meth c D ca q0 ad nL Q kc ks pc ls st0 M := by
  refine j_backM (Q' := jRet none M') (st := st) (a := (Value.ref (ad k i) :: av).toArray) (fun H locs lsC cells slots h1 h2 h3 hf => ?_) hc hcs (fun v N hq => by cases hq.1; cases hq.2; exact kk)
  subst hst
  exact va_runIN (b := ad k i) (As := av) (rest := st) (jCF K) (jMet_met K.2.2.2.2.2.2.2.2.2 hM (fun E N h => nomatch h.1)) ⟨jNest K hm hk hR, hy1, K.2.2.2.2.1 _ hv⟩ (jPreS K h2 h3) rfl hn h1.1 rfl (lv_room hsum) hd hf
/-- Object() -/
theorem j_objInit (K : jK p l R s m args meth c D ca q0 sa own cc nL ret) {a idx : Nat} (hd : decode cc pc = .ok (.invokespecial idx, 3)) (hk : Cond.methodLink own idx objectInit ∈ WG) (hi : Cond.instanceMethod objectInit ∈ WG) (hcd : Cond.code objectInit ⟨#[0xb1]⟩ 1 none ∈ WG) (hR : 1 ≤ R.frames ∧ 20 ≤ R.locals) (hsum : (st.map fun v => v.category).sum ≤ 8)
    (kk : jW p l e R s m args below meth c D ca q0 ad nL Q kc ks (pc + 3) ls st M) : jW p l e R s m args below meth c D ca q0 ad nL Q kc ks pc ls (.ref a :: st) M :=
  fun H locs lsC cells slots h1 h2 h3 h4 h5 => W.objInit K.1 K.2.1 K.2.2.2.1 (K.2.2.2.2.1 _ hk) (K.2.2.2.2.1 _ hi) (K.2.2.2.2.1 _ hcd) rfl (by rw [K.2.2.1]; exact h1.1) rfl hd hR.1 (by have := hR.2; have h6 := lv_room (m := m) (pc := pc) (ls := lsC) (rest := .ref a :: st) hsum; omega) (kk H locs lsC cells slots h1 h2 h3 h4 h5)
end J
end
section
/-! the rules over a memory in its parts: what is loaded shows as V, without projections -/
section J
variable {p : Program} {l : Launch} {e : Env} {R : Room} {s : State} {m : MethodId} {args : Array Value} {below : List Frame} {meth : Method} {c : Code} {D : va_G} {ca : Nat → ClassId} {q0 : Nat} {sa : Nat → Nat} {ad : jAd} {own : String} {cc : ByteArray} {nL : Nat} {ret : Option FieldType} {Q : State → Prop} {kc ks pc : Nat} {ls : List (Option Value)} {st : List Value} {z : Nat} {Lv : jLv} {V : jV} {Rf : jR}
theorem jGi (K : jK p l R s m args meth c D ca q0 sa own cc nL ret) {k i ci j idx : Nat} (hd : decode cc pc = .ok (.getfield idx, 3)) (hf : jFld own idx ci j) (hs : shp k = (0, ci)) (hlv : Lv k i = true) (hv : jIr ci j = false) (kk : jW p l e R s m args below meth c D ca q0 ad nL Q kc ks (pc + 3) ls (.int (V k i j) :: st) (z, Lv, V, Rf)) : jW p l e R s m args below meth c D ca q0 ad nL Q kc ks pc ls (.ref (ad k i) :: st) (z, Lv, V, Rf) := j_gi K hd hf hs hlv hv kk
theorem jGr (K : jK p l R s m args meth c D ca q0 sa own cc nL ret) {k i ci j idx : Nat} (k' i' : Nat) (hd : decode cc pc = .ok (.getfield idx, 3)) (hf : jFld own idx ci j) (hs : shp k = (0, ci)) (hlv : Lv k i = true) (hv : jIr ci j = true) (hr : Rf k i j = some (k', i')) (kk : jW p l e R s m args below meth c D ca q0 ad nL Q kc ks (pc + 3) ls (.ref (ad k' i') :: st) (z, Lv, V, Rf)) : jW p l e R s m args below meth c D ca q0 ad nL Q kc ks pc ls (.ref (ad k i) :: st) (z, Lv, V, Rf) := j_gr K k' i' hd hf hs hlv hv hr kk
theorem jIald (K : jK p l R s m args meth c D ca q0 sa own cc nL ret) {k i n : Nat} {x : Int32} (j : Nat) (hd : decode cc pc = .ok (.iaload, 1)) (hs : shp k = (1, n)) (hlv : Lv k i = true) (hx : x = nI j) (hj : j < n) (kk : jW p l e R s m args below meth c D ca q0 ad nL Q kc ks (pc + 1) ls (.int (V k i j) :: st) (z, Lv, V, Rf)) : jW p l e R s m args below meth c D ca q0 ad nL Q kc ks pc ls (.int x :: .ref (ad k i) :: st) (z, Lv, V, Rf) := j_iald K j hd hs hlv hx hj kk
theorem jZald (K : jK p l R s m args meth c D ca q0 sa own cc nL ret) {k i n : Nat} {x : Int32} (j : Nat) (hd : decode cc pc = .ok (.baload, 1)) (hs : shp k = (2, n)) (hlv : Lv k i = true) (hx : x = nI j) (hj : j < n) (kk : jW p l e R s m args below meth c D ca q0 ad nL Q kc ks (pc + 1) ls (.int (V k i j) :: st) (z, Lv, V, Rf)) : jW p l e R s m args below meth c D ca q0 ad nL Q kc ks pc ls (.int x :: .ref (ad k i) :: st) (z, Lv, V, Rf) := j_zald K j hd hs hlv hx hj kk
theorem jLald (K : jK p l R s m args meth c D ca q0 sa own cc nL ret) {k i n : Nat} {x : Int32} (j : Nat) (hd : decode cc pc = .ok (.laload, 1)) (hs : shp k = (4, n)) (hlv : Lv k i = true) (hx : x = nI j) (hj : j < n) (kk : jW p l e R s m args below meth c D ca q0 ad nL Q kc ks (pc + 1) ls (.long (V k i j).toInt64 :: st) (z, Lv, V, Rf)) : jW p l e R s m args below meth c D ca q0 ad nL Q kc ks pc ls (.int x :: .ref (ad k i) :: st) (z, Lv, V, Rf) := j_lald K j hd hs hlv hx hj kk
theorem jAald (K : jK p l R s m args meth c D ca q0 sa own cc nL ret) {k i n : Nat} {x : Int32} (j k' i' : Nat) (hd : decode cc pc = .ok (.aaload, 1)) (hs : shp k = (3, n)) (hlv : Lv k i = true) (hx : x = nI j) (hj : j < n) (hr : Rf k i j = some (k', i')) (kk : jW p l e R s m args below meth c D ca q0 ad nL Q kc ks (pc + 1) ls (.ref (ad k' i') :: st) (z, Lv, V, Rf)) : jW p l e R s m args below meth c D ca q0 ad nL Q kc ks pc ls (.int x :: .ref (ad k i) :: st) (z, Lv, V, Rf) := j_aald K j k' i' hd hs hlv hx hj hr kk
theorem jPi (K : jK p l R s m args meth c D ca q0 sa own cc nL ret) {k i ci j idx : Nat} {x : Int32} (hd : decode cc pc = .ok (.putfield idx, 3)) (hf : jFldO own idx ci j) (hs : shp k = (0, ci)) (hlv : Lv k i = true) (hv : jIr ci j = false) (hty : jTy ci j = .int) (hfin : ((jT ci) j).2.2.2 = false ∨ (meth.name = "<init>" ∧ jC ci = own)) (kk : jW p l e R s m args below meth c D ca q0 ad nL Q kc ks (pc + 3) ls st (z, Lv, up V k i j x, Rf)) : jW p l e R s m args below meth c D ca q0 ad nL Q kc ks pc ls (.int x :: .ref (ad k i) :: st) (z, Lv, V, Rf) := j_pi K hd hf hs hlv hv hty hfin kk
theorem jPr (K : jK p l R s m args meth c D ca q0 sa own cc nL ret) {k i ci j idx k2 i2 : Nat} (hd : decode cc pc = .ok (.putfield idx, 3)) (hf : jFldO own idx ci j) (hs : shp k = (0, ci)) (hlv : Lv k i = true) (hv : jIr ci j = true) (hn : ∀ a : Nat, narrow (jTy ci j) (.ref a) = .ref a) (hft : ∀ a : Nat, fits (jTy ci j) (.ref a) = true) (hfin : ((jT ci) j).2.2.2 = false ∨ (meth.name = "<init>" ∧ jC ci = own)) (kk : jW p l e R s m args below meth c D ca q0 ad nL Q kc ks (pc + 3) ls st (z, Lv, V, upR Rf k i j (some (k2, i2)))) : jW p l e R s m args below meth c D ca q0 ad nL Q kc ks pc ls (.ref (ad k2 i2) :: .ref (ad k i) :: st) (z, Lv, V, Rf) := j_pr K hd hf hs hlv hv hn hft hfin kk
theorem jIast (K : jK p l R s m args meth c D ca q0 sa own cc nL ret) {k i n : Nat} {x y : Int32} (j : Nat) (hd : decode cc pc = .ok (.iastore, 1)) (hs : shp k = (1, n)) (hlv : Lv k i = true) (hx : x = nI j) (hj : j < n) (kk : jW p l e R s m args below meth c D ca q0 ad nL Q kc ks (pc + 1) ls st (z, Lv, up V k i j y, Rf)) : jW p l e R s m args below meth c D ca q0 ad nL Q kc ks pc ls (.int y :: .int x :: .ref (ad k i) :: st) (z, Lv, V, Rf) := j_iast K j hd hs hlv hx hj kk
theorem jZast (K : jK p l R s m args meth c D ca q0 sa own cc nL ret) {k i n : Nat} {x y : Int32} (j : Nat) (hd : decode cc pc = .ok (.bastore, 1)) (hs : shp k = (2, n)) (hlv : Lv k i = true) (hx : x = nI j) (hj : j < n) (hy : y = 0 ∨ y = 1) (kk : jW p l e R s m args below meth c D ca q0 ad nL Q kc ks (pc + 1) ls st (z, Lv, up V k i j y, Rf)) : jW p l e R s m args below meth c D ca q0 ad nL Q kc ks pc ls (.int y :: .int x :: .ref (ad k i) :: st) (z, Lv, V, Rf) := j_zast K j hd hs hlv hx hj hy kk
theorem jLast (K : jK p l R s m args meth c D ca q0 sa own cc nL ret) {k i n : Nat} {x : Int32} {w : Int64} (j : Nat) (y : Int32) (hd : decode cc pc = .ok (.lastore, 1)) (hs : shp k = (4, n)) (hlv : Lv k i = true) (hx : x = nI j) (hj : j < n) (hy : w = y.toInt64) (kk : jW p l e R s m args below meth c D ca q0 ad nL Q kc ks (pc + 1) ls st (z, Lv, up V k i j y, Rf)) : jW p l e R s m args below meth c D ca q0 ad nL Q kc ks pc ls (.long w :: .int x :: .ref (ad k i) :: st) (z, Lv, V, Rf) := j_last K j y hd hs hlv hx hj hy kk
end J
end
section
def clV (V : jV) (k i : Nat) : jV := fun k' i' j => if k' = k ∧ i' = i then 0 else V k' i' j
def clR (Rf : jR) (k i : Nat) : jR := fun k' i' j => if k' = k ∧ i' = i then none else Rf k' i' j
theorem jRep_new {D : va_G} {ca : Nat → ClassId} {q0 : Nat} {ad : jAd} {z : Nat} {Lv : jLv} {V : jV} {Rf : jR} {H H1 : Heap} {k i : Nat} (h : jRep D ca q0 ad (z, Lv, V, Rf) H) (hz : q0 ≤ z) (had : ad k i = z) (hf : Lv k i = false) (z1 : H1.size = H.size + 1) (o1 : ∀ q : Nat, q < H.size → H1[q]? = H[q]?)
    (hat : va_at D vwCl (ad k i, jcell ca ad (z + 1, upL Lv k i, clV V k i, clR Rf k i) k i) H1) : jRep D ca q0 ad (z + 1, upL Lv k i, clV V k i, clR Rf k i) H1 := by
  have h1 : z = H.size := h.1
  have lt : ∀ k' i', Lv k' i' = true → ad k' i' < z := fun k' i' hl => by rw [h1]; exact jRep_lt h hl
  refine ⟨by show z + 1 = H1.size; rw [z1, h1], fun k' i' hl => ?_, fun k1 i1 k2 i2 hl1 hl2 he => ?_⟩
  · by_cases e : k' = k ∧ i' = i
    · obtain ⟨rfl, rfl⟩ := e
      exact ⟨by rw [had]; exact hz, hat⟩
    · have hl' : Lv k' i' = true := by
        have : upL Lv k i k' i' = true := hl
        unfold upL at this; rw [if_neg e] at this; exact this
      obtain ⟨a1, a2⟩ := h.2.1 k' i' hl'
      refine ⟨a1, ?_⟩
      have hc : jcell ca ad (z + 1, upL Lv k i, clV V k i, clR Rf k i) k' i' = jcell ca ad (z, Lv, V, Rf) k' i' := jcell_congr (fun j => by show clV V k i k' i' j = V k' i' j; unfold clV; rw [if_neg e]) (fun j => by show clR Rf k i k' i' j = Rf k' i' j; unfold clR; rw [if_neg e])
      rw [hc]
      exact va_at.kept a2 (o1 _ (by rw [← h1]; exact lt _ _ hl'))
  · have cs : ∀ k' i', upL Lv k i k' i' = true → (k' = k ∧ i' = i) ∨ Lv k' i' = true := fun k' i' hl => by
      by_cases e : k' = k ∧ i' = i
      · exact Or.inl e
      · unfold upL at hl; rw [if_neg e] at hl; exact Or.inr hl
    rcases cs k1 i1 hl1 with e1 | e1 <;> rcases cs k2 i2 hl2 with e2 | e2
    · exact ⟨e1.1.trans e2.1.symm, e1.2.trans e2.2.symm⟩
    · have := lt _ _ e2
      rw [← he, e1.1, e1.2, had] at this
      exact absurd this (Nat.lt_irrefl _)
    · have := lt _ _ e1
      rw [he, e2.1, e2.2, had] at this
      exact absurd this (Nat.lt_irrefl _)
    · exact h.2.2 k1 i1 k2 i2 e1 e2 he
theorem va_S_new {q0 : Nat} {H0 H H1 : Heap} {locs : List Loc} (h : va_S (fun q => q0 ≤ q) H0 H locs) (z1 : H1.size = H.size + 1) (o1 : ∀ q : Nat, q < H.size → H1[q]? = H[q]?) : va_S (fun q => q0 ≤ q) H0 H1 locs :=
  ⟨Nat.le_trans h.1 (by omega), fun q h1 h2 => (o1 q (Nat.lt_of_lt_of_le h1 h.1)).trans (h.2.1 q h1 h2), h.2.2⟩
section J
variable {p : Program} {l : Launch} {e : Env} {R : Room} {s : State} {m : MethodId} {args : Array Value} {below : List Frame} {meth : Method} {c : Code} {D : va_G} {ca : Nat → ClassId} {q0 : Nat} {sa : Nat → Nat} {ad : jAd} {own : String} {cc : ByteArray} {nL : Nat} {ret : Option FieldType} {Q : State → Prop} {kc ks pc : Nat} {ls : List (Option Value)} {st : List Value} {z : Nat} {Lv : jLv} {V : jV} {Rf : jR}
/-- new -/
theorem jNew (K : jK p l R s m args meth c D ca q0 sa own cc nL ret) {ci idx : Nat} (k i : Nat) (hd : decode cc pc = .ok (.new idx, 3)) (hs : shp k = (0, ci)) (hci : ci < 7) (hcl : Cond.classLink own idx (jC ci) ∈ WG) (hin : Cond.instantiable (jC ci) (jN ci) ∈ WG) (hii : Cond.initialized (jC ci) ∈ WG) (hdef : ∀ j, j < jN ci → defaultValue (jTy ci j) = if jIr ci j = true then .null else .int 0) (hf : Lv k i = false) (had : ad k i = z) (hc : 1 ≤ kc) (hsl : jN ci ≤ ks)
    (kk : jW p l e R s m args below meth c D ca q0 ad nL Q (kc - 1) (ks - jN ci) (pc + 3) ls (.ref (ad k i) :: st) (z + 1, upL Lv k i, clV V k i, clR Rf k i)) : jW p l e R s m args below meth c D ca q0 ad nL Q kc ks pc ls st (z, Lv, V, Rf) := by
  intro H locs lsC cells slots h1 h2 h3 h4 h5
  have hts := K.2.2.2.2.1
  have hKn := (jK_K K).1 ci _ (jcls_get ci hci)
  have hz : z = H.size := h2.1
  refine W.newcK K.1 K.2.1 K.2.2.2.1 (hts _ hcl) (hts _ hin) (hts _ hii) rfl hd (by omega) (by omega) hKn.2.1 (rfl : H.size = H.size) fun H1 kC hkC e1 z1 o1 => ?_
  have hq0 : q0 ≤ z := by rw [hz]; exact Nat.le_trans K.2.2.2.2.2.2.2.1 h3.1
  have hb := u_born (jTy ci) hts (jws_in ci hci) hKn hkC e1 (jty_ok ci hci)
  have hrep : jRep D ca q0 ad (z + 1, upL Lv k i, clV V k i, clR Rf k i) H1 := by
    refine jRep_new h2 hq0 had hf z1 o1 ?_
    rw [jcell_obj hs, had, hz]
    refine ⟨_, jcls_get ci hci, hb.to (fun j hj => ?_)⟩
    rw [jfs_V hj, hdef j hj]
    unfold jfv clV clR jrv
    simp
  have := kk H1 locs lsC (cells + 1) (slots + jN ci) h1 hrep (va_S_new h3 z1 o1) (by omega) (by omega)
  rw [had, hz] at this
  exact this
theorem jNewa (K : jK p l R s m args meth c D ca q0 sa own cc nL ret) {x : Int32} {n : Nat} (k i : Nat) (hd : decode cc pc = .ok (.newarray .int, 2)) (hs : shp k = (1, n)) (hx : x = nI n) (hw : Cond.arrayClass .int ∈ WG) (hf : Lv k i = false) (had : ad k i = z) (hc : 1 ≤ kc) (hsl : n ≤ ks) (hsm : n ≤ 1000)
    (kk : jW p l e R s m args below meth c D ca q0 ad nL Q (kc - 1) (ks - n) (pc + 2) ls (.ref (ad k i) :: st) (z + 1, upL Lv k i, clV V k i, clR Rf k i)) : jW p l e R s m args below meth c D ca q0 ad nL Q kc ks pc ls (.int x :: st) (z, Lv, V, Rf) := by
  intro H locs lsC cells slots h1 h2 h3 h4 h5
  subst hx
  have hz : z = H.size := h2.1
  refine va_newaK K.1 K.2.1 (atype := .int) (K.2.2.2.2.1 _ hw) rfl hd rfl (nI_pos (by omega)) (nI_clamp (by omega)) (by show n * 4 ≤ _; omega) (by omega) (by omega) (rfl : H.size = H.size) fun H1 cA e1 z1 o1 hAr hNm => ?_
  have hq0 : q0 ≤ z := by rw [hz]; exact Nat.le_trans K.2.2.2.2.2.2.2.1 h3.1
  have hcA : cA = ca 0 := by
    have h9 := ((jK_K K).2 0 _ rfl).2
    exact Option.some.inj (hNm.symm.trans h9)
  subst hcA
  have hrep : jRep D ca q0 ad (z + 1, upL Lv k i, clV V k i, clR Rf k i) H1 := by
    refine jRep_new h2 hq0 had hf z1 o1 ?_
    rw [jcell_int hs, had, hz]
    show H1[H.size]? = some (vp_cell _ _)
    rw [e1, vp_cell_i]
    congr 2
    funext j
    simp [clV]
    rfl
  have := kk H1 locs lsC (cells + 1) (slots + n) h1 hrep (va_S_new h3 z1 o1) (by omega) (by omega)
  rw [had, hz] at this
  exact this
theorem jNewz (K : jK p l R s m args meth c D ca q0 sa own cc nL ret) {x : Int32} {n : Nat} (k i : Nat) (hd : decode cc pc = .ok (.newarray .boolean, 2)) (hs : shp k = (2, n)) (hx : x = nI n) (hw : Cond.arrayClass .boolean ∈ WG) (hf : Lv k i = false) (had : ad k i = z) (hc : 1 ≤ kc) (hsl : n ≤ ks) (hsm : n ≤ 1000)
    (kk : jW p l e R s m args below meth c D ca q0 ad nL Q (kc - 1) (ks - n) (pc + 2) ls (.ref (ad k i) :: st) (z + 1, upL Lv k i, clV V k i, clR Rf k i)) : jW p l e R s m args below meth c D ca q0 ad nL Q kc ks pc ls (.int x :: st) (z, Lv, V, Rf) := by
  intro H locs lsC cells slots h1 h2 h3 h4 h5
  subst hx
  have hz : z = H.size := h2.1
  refine va_newaK K.1 K.2.1 (atype := .boolean) (K.2.2.2.2.1 _ hw) rfl hd rfl (nI_pos (by omega)) (nI_clamp (by omega)) (by show n * 1 ≤ _; omega) (by omega) (by omega) (rfl : H.size = H.size) fun H1 cA e1 z1 o1 hAr hNm => ?_
  have hq0 : q0 ≤ z := by rw [hz]; exact Nat.le_trans K.2.2.2.2.2.2.2.1 h3.1
  have hcA : cA = ca 1 := by
    have h9 := ((jK_K K).2 1 _ rfl).2
    exact Option.some.inj (hNm.symm.trans h9)
  subst hcA
  have hrep : jRep D ca q0 ad (z + 1, upL Lv k i, clV V k i, clR Rf k i) H1 := by
    refine jRep_new h2 hq0 had hf z1 o1 ?_
    rw [jcell_bool hs, had, hz]
    show H1[H.size]? = some (vp_cell _ _)
    rw [e1, vp_cell_i]
    congr 2
    funext j
    simp [clV]
    rfl
  have := kk H1 locs lsC (cells + 1) (slots + n) h1 hrep (va_S_new h3 z1 o1) (by omega) (by omega)
  rw [had, hz] at this
  exact this
theorem jNewl (K : jK p l R s m args meth c D ca q0 sa own cc nL ret) {x : Int32} {n : Nat} (k i : Nat) (hd : decode cc pc = .ok (.newarray .long, 2)) (hs : shp k = (4, n)) (hx : x = nI n) (hw : Cond.arrayClass .long ∈ WG) (hf : Lv k i = false) (had : ad k i = z) (hc : 1 ≤ kc) (hsl : n ≤ ks) (hsm : n ≤ 1000)
    (kk : jW p l e R s m args below meth c D ca q0 ad nL Q (kc - 1) (ks - n) (pc + 2) ls (.ref (ad k i) :: st) (z + 1, upL Lv k i, clV V k i, clR Rf k i)) : jW p l e R s m args below meth c D ca q0 ad nL Q kc ks pc ls (.int x :: st) (z, Lv, V, Rf) := by
  intro H locs lsC cells slots h1 h2 h3 h4 h5
  subst hx
  have hz : z = H.size := h2.1
  refine va_newaK K.1 K.2.1 (atype := .long) (K.2.2.2.2.1 _ hw) rfl hd rfl (nI_pos (by omega)) (nI_clamp (by omega)) (by show n * 8 ≤ _; omega) (by omega) (by omega) (rfl : H.size = H.size) fun H1 cA e1 z1 o1 hAr hNm => ?_
  have hq0 : q0 ≤ z := by rw [hz]; exact Nat.le_trans K.2.2.2.2.2.2.2.1 h3.1
  have hcA : cA = ca 2 := by
    have h9 := ((jK_K K).2 2 _ rfl).2
    exact Option.some.inj (hNm.symm.trans h9)
  subst hcA
  have hrep : jRep D ca q0 ad (z + 1, upL Lv k i, clV V k i, clR Rf k i) H1 := by
    refine jRep_new h2 hq0 had hf z1 o1 ?_
    rw [jcell_long hs, had, hz]
    show H1[H.size]? = some (vp_cell _ _)
    rw [e1, vp_cell_l]
    congr 2
    funext j
    simp [clV]
    rfl
  have := kk H1 locs lsC (cells + 1) (slots + n) h1 hrep (va_S_new h3 z1 o1) (by omega) (by omega)
  rw [had, hz] at this
  exact this
theorem jNewq (K : jK p l R s m args meth c D ca q0 sa own cc nL ret) {x : Int32} {n idx : Nat} (k i : Nat) (hd : decode cc pc = .ok (.anewarray idx, 3)) (hs : shp k = (3, n)) (hx : x = nI n) (hcl : Cond.classLink own idx RX1 ∈ WG) (hf : Lv k i = false) (had : ad k i = z) (hc : 1 ≤ kc) (hsl : n ≤ ks) (hsm : n ≤ 1000)
    (kk : jW p l e R s m args below meth c D ca q0 ad nL Q (kc - 1) (ks - n) (pc + 3) ls (.ref (ad k i) :: st) (z + 1, upL Lv k i, clV V k i, clR Rf k i)) : jW p l e R s m args below meth c D ca q0 ad nL Q kc ks pc ls (.int x :: st) (z, Lv, V, Rf) := by
  intro H locs lsC cells slots h1 h2 h3 h4 h5
  subst hx
  have hz : z = H.size := h2.1
  have hov := K.2.2.2.2.2.2.1.2.2.2.2.2
  refine W.anew K.1 K.2.1 K.2.2.2.1 (K.2.2.2.2.1 _ hcl) (va_AO.use hov) rfl hd rfl (nI_pos (by omega)) (by rw [nI_clamp (by omega)]; omega) (by omega) (by rw [nI_clamp (by omega)]; omega) fun cA kA comp f1 f2 f3 f4 => ?_
  generalize hH1 : H.push ({ cls := cA, slots := Array.replicate (nI n).toNatClampNeg .null, vm := .none } : Cell) = H1
  have z1 : H1.size = H.size + 1 := by rw [← hH1, Array.size_push]
  have e1 : H1[H.size]? = some (arrV cA n (fun _ => .null)) := by rw [← hH1, Array.getElem?_push_size, ← arrV_new, nI_clamp (by omega)]
  have o1 : ∀ q : Nat, q < H.size → H1[q]? = H[q]? := fun q hq => by rw [← hH1, Array.getElem?_push, if_neg (Nat.ne_of_lt hq)]
  have hq0 : q0 ≤ z := by rw [hz]; exact Nat.le_trans K.2.2.2.2.2.2.2.1 h3.1
  have hcA : cA = ca 3 := by
    obtain ⟨kB, comp2, g1, g2, g3, g4⟩ := ((jK_K K).2 3 _ rfl).2
    exact Option.some.inj (f1.symm.trans g4)
  subst hcA
  have hrep : jRep D ca q0 ad (z + 1, upL Lv k i, clV V k i, clR Rf k i) H1 := by
    refine jRep_new h2 hq0 had hf z1 o1 ?_
    rw [jcell_ref hs, had, hz]
    show H1[H.size]? = some (vp_cell _ _)
    rw [e1, vp_cell_q]
    congr 2
    funext j
    simp [clR, va_rf]
  rw [show (nI n).toNatClampNeg = n from nI_clamp (by omega)]
  have := kk H1 locs lsC (cells + 1) (slots + n) h1 hrep (va_S_new h3 z1 o1) (by omega) (by omega)
  rw [had, hz] at this
  exact this
end J
end
