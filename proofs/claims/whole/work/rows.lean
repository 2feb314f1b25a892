section
-- ===== PART A: goes FIRST, ahead of the names: the tables' words, and 'selects' of the private methods out of them =====
/-- a private method of a class that the tables say can be made, by its rows of tables_1 -/
def lw_okq (q : MethodName × Nat) : Prop := (q.1.cls ≠ "java/lang/invoke/MethodHandle" ∧ q.1.cls ≠ "java/lang/invoke/VarHandle") ∧ Cond.instantiable q.1.cls q.2 ∈ tables_1 ∧ Cond.privateMethod q.1 ∈ tables_1 ∧ Cond.instanceMethod q.1 ∈ tables_1
theorem lw_p0 : lw_okq (⟨"PromotedNumbers", "requireExpression", "()V"⟩, 7) := ⟨⟨by decide +kernel, by decide +kernel⟩, List.mem_of_getElem? (i := 27) (by decide +kernel), List.mem_of_getElem? (i := 316) (by decide +kernel), List.mem_of_getElem? (i := 317) (by decide +kernel)⟩
theorem lw_p1 : lw_okq (⟨"PromotedNumbers$Grammar", "behind", "(IC)I"⟩, 3) := ⟨⟨by decide +kernel, by decide +kernel⟩, List.mem_of_getElem? (i := 104) (by decide +kernel), List.mem_of_getElem? (i := 324) (by decide +kernel), List.mem_of_getElem? (i := 325) (by decide +kernel)⟩
theorem lw_p2 : lw_okq (⟨"PromotedNumbers$Grammar", "behindStart", "(C)I"⟩, 3) := ⟨⟨by decide +kernel, by decide +kernel⟩, List.mem_of_getElem? (i := 104) (by decide +kernel), List.mem_of_getElem? (i := 328) (by decide +kernel), List.mem_of_getElem? (i := 329) (by decide +kernel)⟩
theorem lw_p3 : lw_okq (⟨"PromotedNumbers$Grammar", "behindOperator", "(C)I"⟩, 3) := ⟨⟨by decide +kernel, by decide +kernel⟩, List.mem_of_getElem? (i := 104) (by decide +kernel), List.mem_of_getElem? (i := 338) (by decide +kernel), List.mem_of_getElem? (i := 339) (by decide +kernel)⟩
theorem lw_p4 : lw_okq (⟨"PromotedNumbers$Grammar", "behindPart", "(C)I"⟩, 3) := ⟨⟨by decide +kernel, by decide +kernel⟩, List.mem_of_getElem? (i := 104) (by decide +kernel), List.mem_of_getElem? (i := 429) (by decide +kernel), List.mem_of_getElem? (i := 430) (by decide +kernel)⟩
theorem lw_p5 : lw_okq (⟨"java/lang/Throwable", "fillInStackTrace", "(I)Ljava/lang/Throwable;"⟩, 6) := ⟨⟨by decide +kernel, by decide +kernel⟩, List.mem_of_getElem? (i := 477) (by decide +kernel), List.mem_of_getElem? (i := 475) (by decide +kernel), List.mem_of_getElem? (i := 476) (by decide +kernel)⟩
theorem lw_p6 : lw_okq (⟨"PromotedNumbers$Machine", "openBracket", "(C)V"⟩, 10) := ⟨⟨by decide +kernel, by decide +kernel⟩, List.mem_of_getElem? (i := 120) (by decide +kernel), List.mem_of_getElem? (i := 507) (by decide +kernel), List.mem_of_getElem? (i := 508) (by decide +kernel)⟩
theorem lw_p7 : lw_okq (⟨"PromotedNumbers$Machine", "raise", "()I"⟩, 10) := ⟨⟨by decide +kernel, by decide +kernel⟩, List.mem_of_getElem? (i := 120) (by decide +kernel), List.mem_of_getElem? (i := 511) (by decide +kernel), List.mem_of_getElem? (i := 512) (by decide +kernel)⟩
theorem lw_p8 : lw_okq (⟨"PromotedNumbers$Divider", "takeAway", "(I)I"⟩, 4) := ⟨⟨by decide +kernel, by decide +kernel⟩, List.mem_of_getElem? (i := 132) (by decide +kernel), List.mem_of_getElem? (i := 573) (by decide +kernel), List.mem_of_getElem? (i := 574) (by decide +kernel)⟩
theorem lw_p9 : lw_okq (⟨"PromotedNumbers$Divider", "putBack", "(I)I"⟩, 4) := ⟨⟨by decide +kernel, by decide +kernel⟩, List.mem_of_getElem? (i := 132) (by decide +kernel), List.mem_of_getElem? (i := 581) (by decide +kernel), List.mem_of_getElem? (i := 582) (by decide +kernel)⟩
theorem lw_p10 : lw_okq (⟨"PromotedNumbers$Calculator", "settleAt", "(LPromotedNumbers$Fraction;ZLPromotedNumbers$Whole;)I"⟩, 7) := ⟨⟨by decide +kernel, by decide +kernel⟩, List.mem_of_getElem? (i := 126) (by decide +kernel), List.mem_of_getElem? (i := 595) (by decide +kernel), List.mem_of_getElem? (i := 596) (by decide +kernel)⟩
theorem lw_p11 : lw_okq (⟨"PromotedNumbers$Machine", "fold", "()I"⟩, 10) := ⟨⟨by decide +kernel, by decide +kernel⟩, List.mem_of_getElem? (i := 120) (by decide +kernel), List.mem_of_getElem? (i := 605) (by decide +kernel), List.mem_of_getElem? (i := 606) (by decide +kernel)⟩
theorem lw_p12 : lw_okq (⟨"PromotedNumbers$Machine", "step", "(CLPromotedNumbers$Fraction;)I"⟩, 10) := ⟨⟨by decide +kernel, by decide +kernel⟩, List.mem_of_getElem? (i := 120) (by decide +kernel), List.mem_of_getElem? (i := 617) (by decide +kernel), List.mem_of_getElem? (i := 618) (by decide +kernel)⟩
theorem lw_p13 : lw_okq (⟨"PromotedNumbers$Calculator", "addSpare", "(ZZ)Z"⟩, 7) := ⟨⟨by decide +kernel, by decide +kernel⟩, List.mem_of_getElem? (i := 126) (by decide +kernel), List.mem_of_getElem? (i := 625) (by decide +kernel), List.mem_of_getElem? (i := 626) (by decide +kernel)⟩
theorem lw_p14 : lw_okq (⟨"PromotedNumbers$Machine", "replace", "(CLPromotedNumbers$Fraction;)I"⟩, 10) := ⟨⟨by decide +kernel, by decide +kernel⟩, List.mem_of_getElem? (i := 120) (by decide +kernel), List.mem_of_getElem? (i := 648) (by decide +kernel), List.mem_of_getElem? (i := 649) (by decide +kernel)⟩
theorem lw_p15 : lw_okq (⟨"PromotedNumbers$Machine", "closeBracket", "()V"⟩, 10) := ⟨⟨by decide +kernel, by decide +kernel⟩, List.mem_of_getElem? (i := 120) (by decide +kernel), List.mem_of_getElem? (i := 658) (by decide +kernel), List.mem_of_getElem? (i := 659) (by decide +kernel)⟩
def lw_privs_1 : List (MethodName × Nat) := [(⟨"PromotedNumbers", "requireExpression", "()V"⟩, 7), (⟨"PromotedNumbers$Grammar", "behind", "(IC)I"⟩, 3), (⟨"PromotedNumbers$Grammar", "behindStart", "(C)I"⟩, 3), (⟨"PromotedNumbers$Grammar", "behindOperator", "(C)I"⟩, 3), (⟨"PromotedNumbers$Grammar", "behindPart", "(C)I"⟩, 3), (⟨"java/lang/Throwable", "fillInStackTrace", "(I)Ljava/lang/Throwable;"⟩, 6), (⟨"PromotedNumbers$Machine", "openBracket", "(C)V"⟩, 10), (⟨"PromotedNumbers$Machine", "raise", "()I"⟩, 10), (⟨"PromotedNumbers$Divider", "takeAway", "(I)I"⟩, 4), (⟨"PromotedNumbers$Divider", "putBack", "(I)I"⟩, 4), (⟨"PromotedNumbers$Calculator", "settleAt", "(LPromotedNumbers$Fraction;ZLPromotedNumbers$Whole;)I"⟩, 7), (⟨"PromotedNumbers$Machine", "fold", "()I"⟩, 10), (⟨"PromotedNumbers$Machine", "step", "(CLPromotedNumbers$Fraction;)I"⟩, 10), (⟨"PromotedNumbers$Calculator", "addSpare", "(ZZ)Z"⟩, 7), (⟨"PromotedNumbers$Machine", "replace", "(CLPromotedNumbers$Fraction;)I"⟩, 10), (⟨"PromotedNumbers$Machine", "closeBracket", "()V"⟩, 10)]
theorem lw_r1 : ∀ q ∈ lw_privs_1, lw_okq q := List.forall_mem_cons.mpr ⟨lw_p0, List.forall_mem_cons.mpr ⟨lw_p1, List.forall_mem_cons.mpr ⟨lw_p2, List.forall_mem_cons.mpr ⟨lw_p3, List.forall_mem_cons.mpr ⟨lw_p4, List.forall_mem_cons.mpr ⟨lw_p5, List.forall_mem_cons.mpr ⟨lw_p6, List.forall_mem_cons.mpr ⟨lw_p7, List.forall_mem_cons.mpr ⟨lw_p8, List.forall_mem_cons.mpr ⟨lw_p9, List.forall_mem_cons.mpr ⟨lw_p10, List.forall_mem_cons.mpr ⟨lw_p11, List.forall_mem_cons.mpr ⟨lw_p12, List.forall_mem_cons.mpr ⟨lw_p13, List.forall_mem_cons.mpr ⟨lw_p14, List.forall_mem_cons.mpr ⟨lw_p15, fun _ h => absurd h List.not_mem_nil⟩⟩⟩⟩⟩⟩⟩⟩⟩⟩⟩⟩⟩⟩⟩⟩
theorem lw_p16 : lw_okq (⟨"PromotedNumbers$Machine", "skipsArgument", "()Z"⟩, 10) := ⟨⟨by decide +kernel, by decide +kernel⟩, List.mem_of_getElem? (i := 120) (by decide +kernel), List.mem_of_getElem? (i := 662) (by decide +kernel), List.mem_of_getElem? (i := 663) (by decide +kernel)⟩
theorem lw_p17 : lw_okq (⟨"PromotedNumbers$Machine", "endOfArgument", "([CII)I"⟩, 10) := ⟨⟨by decide +kernel, by decide +kernel⟩, List.mem_of_getElem? (i := 120) (by decide +kernel), List.mem_of_getElem? (i := 666) (by decide +kernel), List.mem_of_getElem? (i := 667) (by decide +kernel)⟩
theorem lw_p18 : lw_okq (⟨"PromotedNumbers$Machine", "takeNumber", "([CII)I"⟩, 10) := ⟨⟨by decide +kernel, by decide +kernel⟩, List.mem_of_getElem? (i := 120) (by decide +kernel), List.mem_of_getElem? (i := 671) (by decide +kernel), List.mem_of_getElem? (i := 672) (by decide +kernel)⟩
theorem lw_p19 : lw_okq (⟨"PromotedNumbers", "settle", "(LPromotedNumbers$Fraction;)I"⟩, 7) := ⟨⟨by decide +kernel, by decide +kernel⟩, List.mem_of_getElem? (i := 27) (by decide +kernel), List.mem_of_getElem? (i := 730) (by decide +kernel), List.mem_of_getElem? (i := 731) (by decide +kernel)⟩
theorem lw_p20 : lw_okq (⟨"PromotedNumbers$Writing", "putAmount", "(LPromotedNumbers$Whole;)V"⟩, 3) := ⟨⟨by decide +kernel, by decide +kernel⟩, List.mem_of_getElem? (i := 86) (by decide +kernel), List.mem_of_getElem? (i := 740) (by decide +kernel), List.mem_of_getElem? (i := 741) (by decide +kernel)⟩
theorem lw_p21 : lw_okq (⟨"PromotedNumbers$Writing", "put", "(C)V"⟩, 3) := ⟨⟨by decide +kernel, by decide +kernel⟩, List.mem_of_getElem? (i := 86) (by decide +kernel), List.mem_of_getElem? (i := 746) (by decide +kernel), List.mem_of_getElem? (i := 747) (by decide +kernel)⟩
theorem lw_p22 : lw_okq (⟨"PromotedNumbersModel", "set", "(II)V"⟩, 13) := ⟨⟨by decide +kernel, by decide +kernel⟩, List.mem_of_getElem? (i := 792) (by decide +kernel), List.mem_of_getElem? (i := 798) (by decide +kernel), List.mem_of_getElem? (i := 799) (by decide +kernel)⟩
theorem lw_p23 : lw_okq (⟨"PromotedNumbersModel", "addTo", "(II)V"⟩, 13) := ⟨⟨by decide +kernel, by decide +kernel⟩, List.mem_of_getElem? (i := 792) (by decide +kernel), List.mem_of_getElem? (i := 802) (by decide +kernel), List.mem_of_getElem? (i := 803) (by decide +kernel)⟩
theorem lw_p24 : lw_okq (⟨"PromotedNumbersModel", "trim", "(II)V"⟩, 13) := ⟨⟨by decide +kernel, by decide +kernel⟩, List.mem_of_getElem? (i := 792) (by decide +kernel), List.mem_of_getElem? (i := 806) (by decide +kernel), List.mem_of_getElem? (i := 807) (by decide +kernel)⟩
theorem lw_p25 : lw_okq (⟨"PromotedNumbersModel", "faultOf", "()I"⟩, 13) := ⟨⟨by decide +kernel, by decide +kernel⟩, List.mem_of_getElem? (i := 792) (by decide +kernel), List.mem_of_getElem? (i := 871) (by decide +kernel), List.mem_of_getElem? (i := 872) (by decide +kernel)⟩
theorem lw_p26 : lw_okq (⟨"PromotedNumbersModel", "overStart", "(I)I"⟩, 13) := ⟨⟨by decide +kernel, by decide +kernel⟩, List.mem_of_getElem? (i := 792) (by decide +kernel), List.mem_of_getElem? (i := 875) (by decide +kernel), List.mem_of_getElem? (i := 876) (by decide +kernel)⟩
theorem lw_p27 : lw_okq (⟨"PromotedNumbersModel", "charAt", "(I)I"⟩, 13) := ⟨⟨by decide +kernel, by decide +kernel⟩, List.mem_of_getElem? (i := 792) (by decide +kernel), List.mem_of_getElem? (i := 879) (by decide +kernel), List.mem_of_getElem? (i := 880) (by decide +kernel)⟩
theorem lw_p28 : lw_okq (⟨"PromotedNumbersModel", "isDigit", "(I)Z"⟩, 13) := ⟨⟨by decide +kernel, by decide +kernel⟩, List.mem_of_getElem? (i := 792) (by decide +kernel), List.mem_of_getElem? (i := 886) (by decide +kernel), List.mem_of_getElem? (i := 887) (by decide +kernel)⟩
theorem lw_p29 : lw_okq (⟨"PromotedNumbersModel", "overEnds", "(I)I"⟩, 13) := ⟨⟨by decide +kernel, by decide +kernel⟩, List.mem_of_getElem? (i := 792) (by decide +kernel), List.mem_of_getElem? (i := 890) (by decide +kernel), List.mem_of_getElem? (i := 891) (by decide +kernel)⟩
theorem lw_p30 : lw_okq (⟨"PromotedNumbersModel", "workOut", "()I"⟩, 13) := ⟨⟨by decide +kernel, by decide +kernel⟩, List.mem_of_getElem? (i := 792) (by decide +kernel), List.mem_of_getElem? (i := 900) (by decide +kernel), List.mem_of_getElem? (i := 901) (by decide +kernel)⟩
theorem lw_p31 : lw_okq (⟨"PromotedNumbersModel", "begin", "()I"⟩, 13) := ⟨⟨by decide +kernel, by decide +kernel⟩, List.mem_of_getElem? (i := 792) (by decide +kernel), List.mem_of_getElem? (i := 904) (by decide +kernel), List.mem_of_getElem? (i := 905) (by decide +kernel)⟩
def lw_privs_2 : List (MethodName × Nat) := [(⟨"PromotedNumbers$Machine", "skipsArgument", "()Z"⟩, 10), (⟨"PromotedNumbers$Machine", "endOfArgument", "([CII)I"⟩, 10), (⟨"PromotedNumbers$Machine", "takeNumber", "([CII)I"⟩, 10), (⟨"PromotedNumbers", "settle", "(LPromotedNumbers$Fraction;)I"⟩, 7), (⟨"PromotedNumbers$Writing", "putAmount", "(LPromotedNumbers$Whole;)V"⟩, 3), (⟨"PromotedNumbers$Writing", "put", "(C)V"⟩, 3), (⟨"PromotedNumbersModel", "set", "(II)V"⟩, 13), (⟨"PromotedNumbersModel", "addTo", "(II)V"⟩, 13), (⟨"PromotedNumbersModel", "trim", "(II)V"⟩, 13), (⟨"PromotedNumbersModel", "faultOf", "()I"⟩, 13), (⟨"PromotedNumbersModel", "overStart", "(I)I"⟩, 13), (⟨"PromotedNumbersModel", "charAt", "(I)I"⟩, 13), (⟨"PromotedNumbersModel", "isDigit", "(I)Z"⟩, 13), (⟨"PromotedNumbersModel", "overEnds", "(I)I"⟩, 13), (⟨"PromotedNumbersModel", "workOut", "()I"⟩, 13), (⟨"PromotedNumbersModel", "begin", "()I"⟩, 13)]
theorem lw_r2 : ∀ q ∈ lw_privs_2, lw_okq q := List.forall_mem_cons.mpr ⟨lw_p16, List.forall_mem_cons.mpr ⟨lw_p17, List.forall_mem_cons.mpr ⟨lw_p18, List.forall_mem_cons.mpr ⟨lw_p19, List.forall_mem_cons.mpr ⟨lw_p20, List.forall_mem_cons.mpr ⟨lw_p21, List.forall_mem_cons.mpr ⟨lw_p22, List.forall_mem_cons.mpr ⟨lw_p23, List.forall_mem_cons.mpr ⟨lw_p24, List.forall_mem_cons.mpr ⟨lw_p25, List.forall_mem_cons.mpr ⟨lw_p26, List.forall_mem_cons.mpr ⟨lw_p27, List.forall_mem_cons.mpr ⟨lw_p28, List.forall_mem_cons.mpr ⟨lw_p29, List.forall_mem_cons.mpr ⟨lw_p30, List.forall_mem_cons.mpr ⟨lw_p31, fun _ h => absurd h List.not_mem_nil⟩⟩⟩⟩⟩⟩⟩⟩⟩⟩⟩⟩⟩⟩⟩⟩
theorem lw_p32 : lw_okq (⟨"PromotedNumbersModel", "copyValue", "(II)V"⟩, 13) := ⟨⟨by decide +kernel, by decide +kernel⟩, List.mem_of_getElem? (i := 792) (by decide +kernel), List.mem_of_getElem? (i := 908) (by decide +kernel), List.mem_of_getElem? (i := 909) (by decide +kernel)⟩
theorem lw_p33 : lw_okq (⟨"PromotedNumbersModel", "copy", "(II)V"⟩, 13) := ⟨⟨by decide +kernel, by decide +kernel⟩, List.mem_of_getElem? (i := 792) (by decide +kernel), List.mem_of_getElem? (i := 912) (by decide +kernel), List.mem_of_getElem? (i := 913) (by decide +kernel)⟩
theorem lw_p34 : lw_okq (⟨"PromotedNumbersModel", "number", "()I"⟩, 13) := ⟨⟨by decide +kernel, by decide +kernel⟩, List.mem_of_getElem? (i := 792) (by decide +kernel), List.mem_of_getElem? (i := 916) (by decide +kernel), List.mem_of_getElem? (i := 917) (by decide +kernel)⟩
theorem lw_p35 : lw_okq (⟨"PromotedNumbersModel", "times", "(III)V"⟩, 13) := ⟨⟨by decide +kernel, by decide +kernel⟩, List.mem_of_getElem? (i := 792) (by decide +kernel), List.mem_of_getElem? (i := 920) (by decide +kernel), List.mem_of_getElem? (i := 921) (by decide +kernel)⟩
theorem lw_p36 : lw_okq (⟨"PromotedNumbersModel", "compare", "(II)I"⟩, 13) := ⟨⟨by decide +kernel, by decide +kernel⟩, List.mem_of_getElem? (i := 792) (by decide +kernel), List.mem_of_getElem? (i := 924) (by decide +kernel), List.mem_of_getElem? (i := 925) (by decide +kernel)⟩
theorem lw_p37 : lw_okq (⟨"PromotedNumbersModel", "goOn", "()I"⟩, 13) := ⟨⟨by decide +kernel, by decide +kernel⟩, List.mem_of_getElem? (i := 792) (by decide +kernel), List.mem_of_getElem? (i := 928) (by decide +kernel), List.mem_of_getElem? (i := 929) (by decide +kernel)⟩
theorem lw_p38 : lw_okq (⟨"PromotedNumbersModel", "apply", "(III)I"⟩, 13) := ⟨⟨by decide +kernel, by decide +kernel⟩, List.mem_of_getElem? (i := 792) (by decide +kernel), List.mem_of_getElem? (i := 932) (by decide +kernel), List.mem_of_getElem? (i := 933) (by decide +kernel)⟩
theorem lw_p39 : lw_okq (⟨"PromotedNumbersModel", "chain", "(IIIII)I"⟩, 13) := ⟨⟨by decide +kernel, by decide +kernel⟩, List.mem_of_getElem? (i := 792) (by decide +kernel), List.mem_of_getElem? (i := 936) (by decide +kernel), List.mem_of_getElem? (i := 937) (by decide +kernel)⟩
theorem lw_p40 : lw_okq (⟨"PromotedNumbersModel", "setValue", "(II)V"⟩, 13) := ⟨⟨by decide +kernel, by decide +kernel⟩, List.mem_of_getElem? (i := 792) (by decide +kernel), List.mem_of_getElem? (i := 940) (by decide +kernel), List.mem_of_getElem? (i := 941) (by decide +kernel)⟩
theorem lw_p41 : lw_okq (⟨"PromotedNumbersModel", "sum", "(III)I"⟩, 13) := ⟨⟨by decide +kernel, by decide +kernel⟩, List.mem_of_getElem? (i := 792) (by decide +kernel), List.mem_of_getElem? (i := 944) (by decide +kernel), List.mem_of_getElem? (i := 945) (by decide +kernel)⟩
theorem lw_p42 : lw_okq (⟨"PromotedNumbersModel", "multiply", "(III)V"⟩, 13) := ⟨⟨by decide +kernel, by decide +kernel⟩, List.mem_of_getElem? (i := 792) (by decide +kernel), List.mem_of_getElem? (i := 948) (by decide +kernel), List.mem_of_getElem? (i := 949) (by decide +kernel)⟩
theorem lw_p43 : lw_okq (⟨"PromotedNumbersModel", "lowest", "(II)I"⟩, 13) := ⟨⟨by decide +kernel, by decide +kernel⟩, List.mem_of_getElem? (i := 792) (by decide +kernel), List.mem_of_getElem? (i := 952) (by decide +kernel), List.mem_of_getElem? (i := 953) (by decide +kernel)⟩
theorem lw_p44 : lw_okq (⟨"PromotedNumbersModel", "isOne", "(I)Z"⟩, 13) := ⟨⟨by decide +kernel, by decide +kernel⟩, List.mem_of_getElem? (i := 792) (by decide +kernel), List.mem_of_getElem? (i := 956) (by decide +kernel), List.mem_of_getElem? (i := 957) (by decide +kernel)⟩
theorem lw_p45 : lw_okq (⟨"PromotedNumbersModel", "common", "(II)V"⟩, 13) := ⟨⟨by decide +kernel, by decide +kernel⟩, List.mem_of_getElem? (i := 792) (by decide +kernel), List.mem_of_getElem? (i := 960) (by decide +kernel), List.mem_of_getElem? (i := 961) (by decide +kernel)⟩
theorem lw_p46 : lw_okq (⟨"PromotedNumbersModel", "isEven", "(I)Z"⟩, 13) := ⟨⟨by decide +kernel, by decide +kernel⟩, List.mem_of_getElem? (i := 792) (by decide +kernel), List.mem_of_getElem? (i := 964) (by decide +kernel), List.mem_of_getElem? (i := 965) (by decide +kernel)⟩
theorem lw_p47 : lw_okq (⟨"PromotedNumbersModel", "divideSmall", "(II)I"⟩, 13) := ⟨⟨by decide +kernel, by decide +kernel⟩, List.mem_of_getElem? (i := 792) (by decide +kernel), List.mem_of_getElem? (i := 968) (by decide +kernel), List.mem_of_getElem? (i := 969) (by decide +kernel)⟩
def lw_privs_3 : List (MethodName × Nat) := [(⟨"PromotedNumbersModel", "copyValue", "(II)V"⟩, 13), (⟨"PromotedNumbersModel", "copy", "(II)V"⟩, 13), (⟨"PromotedNumbersModel", "number", "()I"⟩, 13), (⟨"PromotedNumbersModel", "times", "(III)V"⟩, 13), (⟨"PromotedNumbersModel", "compare", "(II)I"⟩, 13), (⟨"PromotedNumbersModel", "goOn", "()I"⟩, 13), (⟨"PromotedNumbersModel", "apply", "(III)I"⟩, 13), (⟨"PromotedNumbersModel", "chain", "(IIIII)I"⟩, 13), (⟨"PromotedNumbersModel", "setValue", "(II)V"⟩, 13), (⟨"PromotedNumbersModel", "sum", "(III)I"⟩, 13), (⟨"PromotedNumbersModel", "multiply", "(III)V"⟩, 13), (⟨"PromotedNumbersModel", "lowest", "(II)I"⟩, 13), (⟨"PromotedNumbersModel", "isOne", "(I)Z"⟩, 13), (⟨"PromotedNumbersModel", "common", "(II)V"⟩, 13), (⟨"PromotedNumbersModel", "isEven", "(I)Z"⟩, 13), (⟨"PromotedNumbersModel", "divideSmall", "(II)I"⟩, 13)]
theorem lw_r3 : ∀ q ∈ lw_privs_3, lw_okq q := List.forall_mem_cons.mpr ⟨lw_p32, List.forall_mem_cons.mpr ⟨lw_p33, List.forall_mem_cons.mpr ⟨lw_p34, List.forall_mem_cons.mpr ⟨lw_p35, List.forall_mem_cons.mpr ⟨lw_p36, List.forall_mem_cons.mpr ⟨lw_p37, List.forall_mem_cons.mpr ⟨lw_p38, List.forall_mem_cons.mpr ⟨lw_p39, List.forall_mem_cons.mpr ⟨lw_p40, List.forall_mem_cons.mpr ⟨lw_p41, List.forall_mem_cons.mpr ⟨lw_p42, List.forall_mem_cons.mpr ⟨lw_p43, List.forall_mem_cons.mpr ⟨lw_p44, List.forall_mem_cons.mpr ⟨lw_p45, List.forall_mem_cons.mpr ⟨lw_p46, List.forall_mem_cons.mpr ⟨lw_p47, fun _ h => absurd h List.not_mem_nil⟩⟩⟩⟩⟩⟩⟩⟩⟩⟩⟩⟩⟩⟩⟩⟩
theorem lw_p48 : lw_okq (⟨"PromotedNumbersModel", "takeOff", "(II)V"⟩, 13) := ⟨⟨by decide +kernel, by decide +kernel⟩, List.mem_of_getElem? (i := 792) (by decide +kernel), List.mem_of_getElem? (i := 972) (by decide +kernel), List.mem_of_getElem? (i := 973) (by decide +kernel)⟩
theorem lw_p49 : lw_okq (⟨"PromotedNumbersModel", "divide", "(IIII)V"⟩, 13) := ⟨⟨by decide +kernel, by decide +kernel⟩, List.mem_of_getElem? (i := 792) (by decide +kernel), List.mem_of_getElem? (i := 976) (by decide +kernel), List.mem_of_getElem? (i := 977) (by decide +kernel)⟩
theorem lw_p50 : lw_okq (⟨"PromotedNumbersModel", "shift", "(II)V"⟩, 13) := ⟨⟨by decide +kernel, by decide +kernel⟩, List.mem_of_getElem? (i := 792) (by decide +kernel), List.mem_of_getElem? (i := 980) (by decide +kernel), List.mem_of_getElem? (i := 981) (by decide +kernel)⟩
theorem lw_p51 : lw_okq (⟨"PromotedNumbersModel", "product", "(II)I"⟩, 13) := ⟨⟨by decide +kernel, by decide +kernel⟩, List.mem_of_getElem? (i := 792) (by decide +kernel), List.mem_of_getElem? (i := 984) (by decide +kernel), List.mem_of_getElem? (i := 985) (by decide +kernel)⟩
theorem lw_p52 : lw_okq (⟨"PromotedNumbersModel", "ratio", "(II)I"⟩, 13) := ⟨⟨by decide +kernel, by decide +kernel⟩, List.mem_of_getElem? (i := 792) (by decide +kernel), List.mem_of_getElem? (i := 988) (by decide +kernel), List.mem_of_getElem? (i := 989) (by decide +kernel)⟩
theorem lw_p53 : lw_okq (⟨"PromotedNumbersModel", "quotient", "(IZ)I"⟩, 13) := ⟨⟨by decide +kernel, by decide +kernel⟩, List.mem_of_getElem? (i := 792) (by decide +kernel), List.mem_of_getElem? (i := 992) (by decide +kernel), List.mem_of_getElem? (i := 993) (by decide +kernel)⟩
theorem lw_p54 : lw_okq (⟨"PromotedNumbersModel", "isWhole", "(I)Z"⟩, 13) := ⟨⟨by decide +kernel, by decide +kernel⟩, List.mem_of_getElem? (i := 792) (by decide +kernel), List.mem_of_getElem? (i := 996) (by decide +kernel), List.mem_of_getElem? (i := 997) (by decide +kernel)⟩
theorem lw_p55 : lw_okq (⟨"PromotedNumbersModel", "divisor", "(II)I"⟩, 13) := ⟨⟨by decide +kernel, by decide +kernel⟩, List.mem_of_getElem? (i := 792) (by decide +kernel), List.mem_of_getElem? (i := 1000) (by decide +kernel), List.mem_of_getElem? (i := 1001) (by decide +kernel)⟩
theorem lw_p56 : lw_okq (⟨"PromotedNumbersModel", "power", "(I)I"⟩, 13) := ⟨⟨by decide +kernel, by decide +kernel⟩, List.mem_of_getElem? (i := 792) (by decide +kernel), List.mem_of_getElem? (i := 1004) (by decide +kernel), List.mem_of_getElem? (i := 1005) (by decide +kernel)⟩
theorem lw_p57 : lw_okq (⟨"PromotedNumbersModel", "order", "(II)I"⟩, 13) := ⟨⟨by decide +kernel, by decide +kernel⟩, List.mem_of_getElem? (i := 792) (by decide +kernel), List.mem_of_getElem? (i := 1008) (by decide +kernel), List.mem_of_getElem? (i := 1009) (by decide +kernel)⟩
theorem lw_p58 : lw_okq (⟨"PromotedNumbersModel", "skip", "(I)I"⟩, 13) := ⟨⟨by decide +kernel, by decide +kernel⟩, List.mem_of_getElem? (i := 792) (by decide +kernel), List.mem_of_getElem? (i := 1012) (by decide +kernel), List.mem_of_getElem? (i := 1013) (by decide +kernel)⟩
theorem lw_p59 : lw_okq (⟨"PromotedNumbersModel", "formOf", "(I)I"⟩, 13) := ⟨⟨by decide +kernel, by decide +kernel⟩, List.mem_of_getElem? (i := 792) (by decide +kernel), List.mem_of_getElem? (i := 1016) (by decide +kernel), List.mem_of_getElem? (i := 1017) (by decide +kernel)⟩
theorem lw_p60 : lw_okq (⟨"PromotedNumbersModel", "length", "(I)I"⟩, 13) := ⟨⟨by decide +kernel, by decide +kernel⟩, List.mem_of_getElem? (i := 792) (by decide +kernel), List.mem_of_getElem? (i := 1040) (by decide +kernel), List.mem_of_getElem? (i := 1041) (by decide +kernel)⟩
theorem lw_p61 : lw_okq (⟨"PromotedNumbersModel", "fromEnd", "(II)I"⟩, 13) := ⟨⟨by decide +kernel, by decide +kernel⟩, List.mem_of_getElem? (i := 792) (by decide +kernel), List.mem_of_getElem? (i := 1044) (by decide +kernel), List.mem_of_getElem? (i := 1045) (by decide +kernel)⟩
def lw_privs_4 : List (MethodName × Nat) := [(⟨"PromotedNumbersModel", "takeOff", "(II)V"⟩, 13), (⟨"PromotedNumbersModel", "divide", "(IIII)V"⟩, 13), (⟨"PromotedNumbersModel", "shift", "(II)V"⟩, 13), (⟨"PromotedNumbersModel", "product", "(II)I"⟩, 13), (⟨"PromotedNumbersModel", "ratio", "(II)I"⟩, 13), (⟨"PromotedNumbersModel", "quotient", "(IZ)I"⟩, 13), (⟨"PromotedNumbersModel", "isWhole", "(I)Z"⟩, 13), (⟨"PromotedNumbersModel", "divisor", "(II)I"⟩, 13), (⟨"PromotedNumbersModel", "power", "(I)I"⟩, 13), (⟨"PromotedNumbersModel", "order", "(II)I"⟩, 13), (⟨"PromotedNumbersModel", "skip", "(I)I"⟩, 13), (⟨"PromotedNumbersModel", "formOf", "(I)I"⟩, 13), (⟨"PromotedNumbersModel", "length", "(I)I"⟩, 13), (⟨"PromotedNumbersModel", "fromEnd", "(II)I"⟩, 13)]
theorem lw_r4 : ∀ q ∈ lw_privs_4, lw_okq q := List.forall_mem_cons.mpr ⟨lw_p48, List.forall_mem_cons.mpr ⟨lw_p49, List.forall_mem_cons.mpr ⟨lw_p50, List.forall_mem_cons.mpr ⟨lw_p51, List.forall_mem_cons.mpr ⟨lw_p52, List.forall_mem_cons.mpr ⟨lw_p53, List.forall_mem_cons.mpr ⟨lw_p54, List.forall_mem_cons.mpr ⟨lw_p55, List.forall_mem_cons.mpr ⟨lw_p56, List.forall_mem_cons.mpr ⟨lw_p57, List.forall_mem_cons.mpr ⟨lw_p58, List.forall_mem_cons.mpr ⟨lw_p59, List.forall_mem_cons.mpr ⟨lw_p60, List.forall_mem_cons.mpr ⟨lw_p61, fun _ h => absurd h List.not_mem_nil⟩⟩⟩⟩⟩⟩⟩⟩⟩⟩⟩⟩⟩⟩
def lw_privs : List (MethodName × Nat) := lw_privs_1 ++ (lw_privs_2 ++ (lw_privs_3 ++ (lw_privs_4)))
def lw_tbl : List Cond := k2_sels lw_privs ++ tables_1
theorem lw_privs_ok : ∀ q ∈ lw_privs, lw_okq q := by
  show ∀ q ∈ lw_privs_1 ++ (lw_privs_2 ++ (lw_privs_3 ++ (lw_privs_4))), lw_okq q
  exact List.forall_mem_append.mpr ⟨lw_r1, List.forall_mem_append.mpr ⟨lw_r2, List.forall_mem_append.mpr ⟨lw_r3, lw_r4⟩⟩⟩
/-- the tables' words that a reader of steady words carries -/
def go_T : List Cond := lw_tbl.filter goodWord
theorem go_in {w : Cond} (h : w ∈ lw_tbl) (hg : goodWord w = true) : w ∈ go_T := List.mem_filter.mpr ⟨h, hg⟩
theorem go_T_tbl {w : Cond} (h : w ∈ go_T) : w ∈ lw_tbl := (List.mem_filter.mp h).1
theorem go_good {c : Cond} (hc : c ∈ go_T) : GoodIn go_T (c :: go_T) := fun w hw => by
  rcases List.mem_cons.mp hw with rfl | hw
  · exact ⟨hc, good_of_word (List.mem_filter.mp hc).2⟩
  · exact ⟨hw, good_of_word (List.mem_filter.mp hw).2⟩
theorem go_t {w : Cond} (h : w ∈ tables_1) (hg : goodWord w = true) : w ∈ go_T := go_in (List.mem_append_right _ h) hg
theorem go_t1 {w : Cond} (h : w ∈ tables_1_1) (hg : goodWord w = true) : w ∈ go_T := go_t (List.mem_append_left _ h) hg
theorem go_t2 {w : Cond} (h : w ∈ tables_1_2) (hg : goodWord w = true) : w ∈ go_T := go_t (List.mem_append_right _ (List.mem_append_left _ h)) hg
theorem go_t3 {w : Cond} (h : w ∈ tables_1_3) (hg : goodWord w = true) : w ∈ go_T := go_t (List.mem_append_right _ (List.mem_append_right _ (List.mem_append_left _ h))) hg
theorem go_t4 {w : Cond} (h : w ∈ tables_1_4) (hg : goodWord w = true) : w ∈ go_T := go_t (List.mem_append_right _ (List.mem_append_right _ (List.mem_append_right _ (List.mem_append_left _ h)))) hg
theorem go_t5 {w : Cond} (h : w ∈ tables_1_5) (hg : goodWord w = true) : w ∈ go_T := go_t (List.mem_append_right _ (List.mem_append_right _ (List.mem_append_right _ (List.mem_append_right _ (h))))) hg
theorem go_p1 {q : MethodName × Nat} (h : q ∈ lw_privs_1) : Cond.selects q.1.cls q.1 q.1 ∈ go_T := go_in (List.mem_append_left _ (List.mem_map.mpr ⟨q, List.mem_append_left _ h, rfl⟩)) rfl
theorem go_p2 {q : MethodName × Nat} (h : q ∈ lw_privs_2) : Cond.selects q.1.cls q.1 q.1 ∈ go_T := go_in (List.mem_append_left _ (List.mem_map.mpr ⟨q, List.mem_append_right _ (List.mem_append_left _ h), rfl⟩)) rfl
theorem go_p3 {q : MethodName × Nat} (h : q ∈ lw_privs_3) : Cond.selects q.1.cls q.1 q.1 ∈ go_T := go_in (List.mem_append_left _ (List.mem_map.mpr ⟨q, List.mem_append_right _ (List.mem_append_right _ (List.mem_append_left _ h)), rfl⟩)) rfl
theorem go_p4 {q : MethodName × Nat} (h : q ∈ lw_privs_4) : Cond.selects q.1.cls q.1 q.1 ∈ go_T := go_in (List.mem_append_left _ (List.mem_map.mpr ⟨q, List.mem_append_right _ (List.mem_append_right _ (List.mem_append_right _ (h))), rfl⟩)) rfl
def cx_RF : String := "PromotedNumbers$Fraction"
abbrev R_ca : String := "PromotedNumbers$Calculator"
def T_ca : u_T := fun k => match k with
  | 0 => ("PromotedNumbers$Calculator", "divider", "LPromotedNumbers$Divider;", true)
  | 1 => ("PromotedNumbers$Calculator", "common", "LPromotedNumbers$Whole;", true)
  | 2 => ("PromotedNumbers$Calculator", "ownShare", "LPromotedNumbers$Whole;", true)
  | 3 => ("PromotedNumbers$Calculator", "otherShare", "LPromotedNumbers$Whole;", true)
  | 4 => ("PromotedNumbers$Calculator", "top", "LPromotedNumbers$Whole;", true)
  | 5 => ("PromotedNumbers$Calculator", "bottom", "LPromotedNumbers$Whole;", true)
  | _ => ("PromotedNumbers$Calculator", "spare", "LPromotedNumbers$Whole;", true)
def y_ty_ca : Nat → FieldType := fun k => match k with
  | 0 => .object "PromotedNumbers$Divider"
  | 1 => .object "PromotedNumbers$Whole"
  | 2 => .object "PromotedNumbers$Whole"
  | 3 => .object "PromotedNumbers$Whole"
  | 4 => .object "PromotedNumbers$Whole"
  | 5 => .object "PromotedNumbers$Whole"
  | _ => .object "PromotedNumbers$Whole"
abbrev R_di : String := "PromotedNumbers$Divider"
def T_di : u_T := fun k => match k with
  | 0 => ("PromotedNumbers$Divider", "rest", "LPromotedNumbers$Whole;", true)
  | 1 => ("PromotedNumbers$Divider", "scaled", "LPromotedNumbers$Whole;", true)
  | 2 => ("PromotedNumbers$Divider", "first", "LPromotedNumbers$Whole;", true)
  | _ => ("PromotedNumbers$Divider", "second", "LPromotedNumbers$Whole;", true)
def y_ty_di : Nat → FieldType := fun k => match k with
  | 0 => .object "PromotedNumbers$Whole"
  | 1 => .object "PromotedNumbers$Whole"
  | 2 => .object "PromotedNumbers$Whole"
  | _ => .object "PromotedNumbers$Whole"
abbrev R_fr : String := "PromotedNumbers$Fraction"
def T_fr : u_T := fun k => match k with
  | 0 => ("PromotedNumbers$Fraction", "n", "LPromotedNumbers$Whole;", true)
  | 1 => ("PromotedNumbers$Fraction", "d", "LPromotedNumbers$Whole;", true)
  | _ => ("PromotedNumbers$Fraction", "below", "Z", false)
def y_ty_fr : Nat → FieldType := fun k => match k with
  | 0 => .object "PromotedNumbers$Whole"
  | 1 => .object "PromotedNumbers$Whole"
  | _ => .boolean
abbrev R_gr : String := "PromotedNumbers$Grammar"
def T_gr : u_T := fun k => match k with
  | 0 => ("PromotedNumbers$Grammar", "operators", "[I", true)
  | 1 => ("PromotedNumbers$Grammar", "arguments", "[I", true)
  | _ => ("PromotedNumbers$Grammar", "open", "I", false)
def y_ty_gr : Nat → FieldType := fun k => match k with
  | 0 => .array .int
  | 1 => .array .int
  | _ => .int
abbrev R_ma : String := "PromotedNumbers$Machine"
def T_ma : u_T := fun k => match k with
  | 0 => ("PromotedNumbers$Machine", "calculator", "LPromotedNumbers$Calculator;", true)
  | 1 => ("PromotedNumbers$Machine", "variables", "[LPromotedNumbers$Fraction;", true)
  | 2 => ("PromotedNumbers$Machine", "values", "[LPromotedNumbers$Fraction;", true)
  | 3 => ("PromotedNumbers$Machine", "total", "LPromotedNumbers$Fraction;", true)
  | 4 => ("PromotedNumbers$Machine", "number", "LPromotedNumbers$Whole;", true)
  | 5 => ("PromotedNumbers$Machine", "operators", "[C", true)
  | 6 => ("PromotedNumbers$Machine", "firstValues", "[I", true)
  | 7 => ("PromotedNumbers$Machine", "arguments", "[I", true)
  | 8 => ("PromotedNumbers$Machine", "open", "I", false)
  | _ => ("PromotedNumbers$Machine", "held", "I", false)
def y_ty_ma : Nat → FieldType := fun k => match k with
  | 0 => .object "PromotedNumbers$Calculator"
  | 1 => .array (.object "PromotedNumbers$Fraction")
  | 2 => .array (.object "PromotedNumbers$Fraction")
  | 3 => .object "PromotedNumbers$Fraction"
  | 4 => .object "PromotedNumbers$Whole"
  | 5 => .array .char
  | 6 => .array .int
  | 7 => .array .int
  | 8 => .int
  | _ => .int
abbrev R_wh : String := "PromotedNumbers$Whole"
def T_wh : u_T := fun k => match k with
  | 0 => ("PromotedNumbers$Whole", "limbs", "[I", true)
  | _ => ("PromotedNumbers$Whole", "size", "I", false)
def y_ty_wh : Nat → FieldType := fun k => match k with
  | 0 => .array .int
  | _ => .int
abbrev R_wr : String := "PromotedNumbers$Writing"
def T_wr : u_T := fun k => match k with
  | 0 => ("PromotedNumbers$Writing", "row", "[C", true)
  | 1 => ("PromotedNumbers$Writing", "left", "LPromotedNumbers$Whole;", true)
  | _ => ("PromotedNumbers$Writing", "start", "I", false)
def y_ty_wr : Nat → FieldType := fun k => match k with
  | 0 => .array .char
  | 1 => .object "PromotedNumbers$Whole"
  | _ => .int
abbrev R_pn : String := "PromotedNumbers"
def T_pn : u_T := fun k => match k with
  | 0 => ("PromotedNumbers", "text", "[C", true)
  | 1 => ("PromotedNumbers", "length", "I", false)
  | 2 => ("PromotedNumbers", "foundFault", "I", false)
  | 3 => ("PromotedNumbers", "result", "LPromotedNumbers$Fraction;", true)
  | 4 => ("PromotedNumbers", "writing", "LPromotedNumbers$Writing;", true)
  | 5 => ("PromotedNumbers", "grammar", "LPromotedNumbers$Grammar;", true)
  | _ => ("PromotedNumbers", "machine", "LPromotedNumbers$Machine;", true)
def y_ty_pn : Nat → FieldType := fun k => match k with
  | 0 => .array .char
  | 1 => .int
  | 2 => .int
  | 3 => .object "PromotedNumbers$Fraction"
  | 4 => .object "PromotedNumbers$Writing"
  | 5 => .object "PromotedNumbers$Grammar"
  | _ => .object "PromotedNumbers$Machine"
abbrev R_mo : String := "PromotedNumbersModel"
def T_mo : u_T := fun k => match k with
  | 0 => ("PromotedNumbersModel", "code", "I", false)
  | 1 => ("PromotedNumbersModel", "typed", "I", false)
  | 2 => ("PromotedNumbersModel", "text", "[I", true)
  | 3 => ("PromotedNumbersModel", "told", "I", false)
  | 4 => ("PromotedNumbersModel", "digits", "[I", true)
  | 5 => ("PromotedNumbersModel", "used", "[I", true)
  | 6 => ("PromotedNumbersModel", "signs", "[I", true)
  | 7 => ("PromotedNumbersModel", "ops", "[I", true)
  | 8 => ("PromotedNumbersModel", "counts", "[I", true)
  | 9 => ("PromotedNumbersModel", "bases", "[I", true)
  | 10 => ("PromotedNumbersModel", "open", "I", false)
  | 11 => ("PromotedNumbersModel", "top", "I", false)
  | _ => ("PromotedNumbersModel", "at", "I", false)
def y_ty_mo : Nat → FieldType := fun k => match k with
  | 0 => .int
  | 1 => .int
  | 2 => .array .int
  | 3 => .int
  | 4 => .array .int
  | 5 => .array .int
  | 6 => .array .int
  | 7 => .array .int
  | 8 => .array .int
  | 9 => .array .int
  | 10 => .int
  | 11 => .int
  | _ => .int
abbrev vwCl : List vw_C := [(R_ca, T_ca, 7), (R_di, T_di, 4), (R_fr, T_fr, 3), (R_gr, T_gr, 3), (R_ma, T_ma, 10), (R_wh, T_wh, 2), (R_wr, T_wr, 3), (R_pn, T_pn, 7), (R_mo, T_mo, 13)]
theorem tw_1_0 : (Jvm.Cond.initialized "PromotedNumbersLaw") ∈ go_T := go_t1 (List.mem_of_getElem? (i := 0) rfl) rfl
theorem tw_1_1 : (Jvm.Cond.initialized "PromotedNumbers") ∈ go_T := go_t1 (List.mem_of_getElem? (i := 1) rfl) rfl
theorem tw_1_2 : (Jvm.Cond.initialized "PromotedNumbers$Fraction") ∈ go_T := go_t1 (List.mem_of_getElem? (i := 2) rfl) rfl
theorem tw_1_3 : (Jvm.Cond.initialized "PromotedNumbers$Whole") ∈ go_T := go_t1 (List.mem_of_getElem? (i := 3) rfl) rfl
theorem tw_1_4 : (Jvm.Cond.initialized "PromotedNumbers$Writing") ∈ go_T := go_t1 (List.mem_of_getElem? (i := 4) rfl) rfl
theorem tw_1_5 : (Jvm.Cond.initialized "PromotedNumbers$Grammar") ∈ go_T := go_t1 (List.mem_of_getElem? (i := 5) rfl) rfl
theorem tw_1_6 : (Jvm.Cond.initialized "PromotedNumbers$Machine") ∈ go_T := go_t1 (List.mem_of_getElem? (i := 6) rfl) rfl
theorem tw_1_7 : (Jvm.Cond.initialized "PromotedNumbers$Calculator") ∈ go_T := go_t1 (List.mem_of_getElem? (i := 7) rfl) rfl
theorem tw_1_8 : (Jvm.Cond.initialized "PromotedNumbers$Divider") ∈ go_T := go_t1 (List.mem_of_getElem? (i := 8) rfl) rfl
theorem tw_1_9 : (Jvm.Cond.initialized "PromotedNumbersModel") ∈ go_T := go_t1 (List.mem_of_getElem? (i := 9) rfl) rfl
theorem tw_1_10 : (Jvm.Cond.initialized "java/lang/String") ∈ go_T := go_t1 (List.mem_of_getElem? (i := 10) rfl) rfl
theorem tw_1_11 : (Jvm.Cond.initialized "java/lang/StringLatin1") ∈ go_T := go_t1 (List.mem_of_getElem? (i := 11) rfl) rfl
theorem tw_1_12 : (Jvm.Cond.initialized "java/lang/Math") ∈ go_T := go_t1 (List.mem_of_getElem? (i := 12) rfl) rfl
theorem tw_1_13 : (Jvm.Cond.initialized "java/lang/StringUTF16") ∈ go_T := go_t1 (List.mem_of_getElem? (i := 13) rfl) rfl
theorem tw_1_14 : (Jvm.Cond.initialized "jdk/internal/util/Preconditions") ∈ go_T := go_t1 (List.mem_of_getElem? (i := 14) rfl) rfl
theorem tw_1_15 : (Jvm.Cond.initialized "java/lang/Character") ∈ go_T := go_t1 (List.mem_of_getElem? (i := 15) rfl) rfl
theorem tw_1_16 : (Jvm.Cond.initialized "java/lang/Throwable") ∈ go_T := go_t1 (List.mem_of_getElem? (i := 16) rfl) rfl
theorem tw_1_17 : (Jvm.Cond.initialized "java/lang/Exception") ∈ go_T := go_t1 (List.mem_of_getElem? (i := 17) rfl) rfl
theorem tw_1_18 : (Jvm.Cond.initialized "java/lang/RuntimeException") ∈ go_T := go_t1 (List.mem_of_getElem? (i := 18) rfl) rfl
theorem tw_1_19 : (Jvm.Cond.initialized "java/lang/IllegalArgumentException") ∈ go_T := go_t1 (List.mem_of_getElem? (i := 19) rfl) rfl
theorem tw_1_20 : (Jvm.Cond.initialized "java/lang/System") ∈ go_T := go_t1 (List.mem_of_getElem? (i := 20) rfl) rfl
theorem tw_1_21 : (Jvm.Cond.initialized "java/lang/Integer") ∈ go_T := go_t1 (List.mem_of_getElem? (i := 21) rfl) rfl
theorem tw_1_22 : (Jvm.Cond.initialized "java/lang/UnsupportedOperationException") ∈ go_T := go_t1 (List.mem_of_getElem? (i := 22) rfl) rfl
theorem tw_1_23 : (Jvm.Cond.initialized "java/lang/ArithmeticException") ∈ go_T := go_t1 (List.mem_of_getElem? (i := 23) rfl) rfl
theorem tw_1_24 : (Jvm.Cond.initialized "java/lang/IllegalStateException") ∈ go_T := go_t1 (List.mem_of_getElem? (i := 24) rfl) rfl
theorem tw_1_25 : (Jvm.Cond.initialized "java/lang/IndexOutOfBoundsException") ∈ go_T := go_t1 (List.mem_of_getElem? (i := 25) rfl) rfl
theorem tw_1_26 : (Jvm.Cond.classLink "PromotedNumbersLaw" (8 : Nat) "PromotedNumbers") ∈ go_T := go_t1 (List.mem_of_getElem? (i := 26) rfl) rfl
theorem tw_1_27 : (Jvm.Cond.instantiable "PromotedNumbers" (7 : Nat)) ∈ go_T := go_t1 (List.mem_of_getElem? (i := 27) rfl) rfl
theorem tw_1_28 : (Jvm.Cond.methodLink "PromotedNumbersLaw" (33 : Nat) ({ cls := "PromotedNumbers", name := "<init>", desc := "()V" } : Jvm.MethodName)) ∈ go_T := go_t1 (List.mem_of_getElem? (i := 28) rfl) rfl
theorem tw_1_29 : (Jvm.Cond.instanceMethod ({ cls := "PromotedNumbers", name := "<init>", desc := "()V" } : Jvm.MethodName)) ∈ go_T := go_t1 (List.mem_of_getElem? (i := 29) rfl) rfl
theorem tw_1_30 : (Jvm.Cond.code ({ cls := "PromotedNumbers", name := "<init>", desc := "()V" } : Jvm.MethodName) prog_1_method_1_code (1 : Nat) (Option.none : Option Jvm.ClassFile.FieldType)) ∈ go_T := go_t1 (List.mem_of_getElem? (i := 30) rfl) rfl
theorem tw_1_31 : (Jvm.Cond.methodLink "PromotedNumbers" (3 : Nat) ({ cls := "java/lang/Object", name := "<init>", desc := "()V" } : Jvm.MethodName)) ∈ go_T := go_t1 (List.mem_of_getElem? (i := 31) rfl) rfl
theorem tw_1_32 : (Jvm.Cond.instanceMethod ({ cls := "java/lang/Object", name := "<init>", desc := "()V" } : Jvm.MethodName)) ∈ go_T := go_t1 (List.mem_of_getElem? (i := 32) rfl) rfl
theorem tw_1_33 : (Jvm.Cond.code ({ cls := "java/lang/Object", name := "<init>", desc := "()V" } : Jvm.MethodName) object_method_1_code (1 : Nat) (Option.none : Option Jvm.ClassFile.FieldType)) ∈ go_T := go_t1 (List.mem_of_getElem? (i := 33) rfl) rfl
theorem tw_1_34 : (Jvm.Cond.classLink "PromotedNumbers" (17 : Nat) "PromotedNumbers$Fraction") ∈ go_T := go_t1 (List.mem_of_getElem? (i := 34) rfl) rfl
theorem tw_1_35 : (Jvm.Cond.instantiable "PromotedNumbers$Fraction" (3 : Nat)) ∈ go_T := go_t1 (List.mem_of_getElem? (i := 35) rfl) rfl
theorem tw_1_36 : (Jvm.Cond.methodLink "PromotedNumbers" (19 : Nat) ({ cls := "PromotedNumbers$Fraction", name := "<init>", desc := "()V" } : Jvm.MethodName)) ∈ go_T := go_t1 (List.mem_of_getElem? (i := 36) rfl) rfl
theorem tw_1_37 : (Jvm.Cond.instanceMethod ({ cls := "PromotedNumbers$Fraction", name := "<init>", desc := "()V" } : Jvm.MethodName)) ∈ go_T := go_t1 (List.mem_of_getElem? (i := 37) rfl) rfl
theorem tw_1_38 : (Jvm.Cond.code ({ cls := "PromotedNumbers$Fraction", name := "<init>", desc := "()V" } : Jvm.MethodName) prog_4_method_1_code (1 : Nat) (Option.none : Option Jvm.ClassFile.FieldType)) ∈ go_T := go_t1 (List.mem_of_getElem? (i := 38) rfl) rfl
theorem tw_1_39 : (Jvm.Cond.methodLink "PromotedNumbers$Fraction" (3 : Nat) ({ cls := "java/lang/Object", name := "<init>", desc := "()V" } : Jvm.MethodName)) ∈ go_T := go_t1 (List.mem_of_getElem? (i := 39) rfl) rfl
theorem tw_1_40 : (Jvm.Cond.classLink "PromotedNumbers$Fraction" (9 : Nat) "PromotedNumbers$Whole") ∈ go_T := go_t1 (List.mem_of_getElem? (i := 40) rfl) rfl
theorem tw_1_41 : (Jvm.Cond.instantiable "PromotedNumbers$Whole" (2 : Nat)) ∈ go_T := go_t1 (List.mem_of_getElem? (i := 41) rfl) rfl
theorem tw_1_42 : (Jvm.Cond.methodLink "PromotedNumbers$Fraction" (11 : Nat) ({ cls := "PromotedNumbers$Whole", name := "<init>", desc := "(I)V" } : Jvm.MethodName)) ∈ go_T := go_t1 (List.mem_of_getElem? (i := 42) rfl) rfl
theorem tw_1_43 : (Jvm.Cond.instanceMethod ({ cls := "PromotedNumbers$Whole", name := "<init>", desc := "(I)V" } : Jvm.MethodName)) ∈ go_T := go_t1 (List.mem_of_getElem? (i := 43) rfl) rfl
theorem tw_1_44 : (Jvm.Cond.code ({ cls := "PromotedNumbers$Whole", name := "<init>", desc := "(I)V" } : Jvm.MethodName) prog_7_method_1_code (2 : Nat) (Option.none : Option Jvm.ClassFile.FieldType)) ∈ go_T := go_t1 (List.mem_of_getElem? (i := 44) rfl) rfl
theorem tw_1_45 : (Jvm.Cond.methodLink "PromotedNumbers$Whole" (3 : Nat) ({ cls := "java/lang/Object", name := "<init>", desc := "()V" } : Jvm.MethodName)) ∈ go_T := go_t1 (List.mem_of_getElem? (i := 45) rfl) rfl
theorem tw_1_46 : (Jvm.Cond.fieldLink "PromotedNumbers$Whole" (9 : Nat) "PromotedNumbers$Whole" "limbs" "[I") ∈ go_T := go_t1 (List.mem_of_getElem? (i := 46) rfl) rfl
theorem tw_1_49 : (Jvm.Cond.fieldLink "PromotedNumbers$Whole" (15 : Nat) "PromotedNumbers$Whole" "size" "I") ∈ go_T := go_t1 (List.mem_of_getElem? (i := 49) rfl) rfl
theorem tw_1_53 : (Jvm.Cond.laysFinal "PromotedNumbers$Whole" "PromotedNumbers$Whole" "limbs" "[I") ∈ go_T := go_t1 (List.mem_of_getElem? (i := 53) rfl) rfl
theorem tw_1_55 : (Jvm.Cond.lays "PromotedNumbers$Whole" "PromotedNumbers$Whole" "size" "I") ∈ go_T := go_t1 (List.mem_of_getElem? (i := 55) rfl) rfl
theorem tw_1_57 : (Jvm.Cond.superclass "PromotedNumbers$Whole" "java/lang/Object") ∈ go_T := go_t1 (List.mem_of_getElem? (i := 57) rfl) rfl
theorem tw_1_58 : (Jvm.Cond.arrayClass Jvm.ClassFile.FieldType.char) ∈ go_T := go_t1 (List.mem_of_getElem? (i := 58) rfl) rfl
theorem tw_1_59 : (Jvm.Cond.arrayClass Jvm.ClassFile.FieldType.int) ∈ go_T := go_t1 (List.mem_of_getElem? (i := 59) rfl) rfl
theorem tw_1_60 : (Jvm.Cond.methodLink "PromotedNumbers$Fraction" (23 : Nat) ({ cls := "PromotedNumbers$Whole", name := "become", desc := "(I)V" } : Jvm.MethodName)) ∈ go_T := go_t1 (List.mem_of_getElem? (i := 60) rfl) rfl
theorem tw_1_61 : (Jvm.Cond.instanceMethod ({ cls := "PromotedNumbers$Whole", name := "become", desc := "(I)V" } : Jvm.MethodName)) ∈ go_T := go_t1 (List.mem_of_getElem? (i := 61) rfl) rfl
theorem tw_1_62 : (Jvm.Cond.selects "PromotedNumbers$Whole" ({ cls := "PromotedNumbers$Whole", name := "become", desc := "(I)V" } : Jvm.MethodName) ({ cls := "PromotedNumbers$Whole", name := "become", desc := "(I)V" } : Jvm.MethodName)) ∈ go_T := go_t1 (List.mem_of_getElem? (i := 62) rfl) rfl
theorem tw_1_63 : (Jvm.Cond.code ({ cls := "PromotedNumbers$Whole", name := "become", desc := "(I)V" } : Jvm.MethodName) prog_7_method_2_code (2 : Nat) (Option.none : Option Jvm.ClassFile.FieldType)) ∈ go_T := go_t1 (List.mem_of_getElem? (i := 63) rfl) rfl
theorem tw_1_64 : (Jvm.Cond.fieldLink "PromotedNumbers$Fraction" (14 : Nat) "PromotedNumbers$Fraction" "n" "LPromotedNumbers$Whole;") ∈ go_T := go_t1 (List.mem_of_getElem? (i := 64) rfl) rfl
theorem tw_1_69 : (Jvm.Cond.fieldLink "PromotedNumbers$Fraction" (20 : Nat) "PromotedNumbers$Fraction" "d" "LPromotedNumbers$Whole;") ∈ go_T := go_t1 (List.mem_of_getElem? (i := 69) rfl) rfl
theorem tw_1_74 : (Jvm.Cond.fieldLink "PromotedNumbers$Fraction" (26 : Nat) "PromotedNumbers$Fraction" "below" "Z") ∈ go_T := go_t1 (List.mem_of_getElem? (i := 74) rfl) rfl
theorem tw_1_78 : (Jvm.Cond.laysFinal "PromotedNumbers$Fraction" "PromotedNumbers$Fraction" "n" "LPromotedNumbers$Whole;") ∈ go_T := go_t1 (List.mem_of_getElem? (i := 78) rfl) rfl
theorem tw_1_80 : (Jvm.Cond.laysFinal "PromotedNumbers$Fraction" "PromotedNumbers$Fraction" "d" "LPromotedNumbers$Whole;") ∈ go_T := go_t1 (List.mem_of_getElem? (i := 80) rfl) rfl
theorem tw_1_82 : (Jvm.Cond.lays "PromotedNumbers$Fraction" "PromotedNumbers$Fraction" "below" "Z") ∈ go_T := go_t1 (List.mem_of_getElem? (i := 82) rfl) rfl
theorem tw_1_84 : (Jvm.Cond.superclass "PromotedNumbers$Fraction" "java/lang/Object") ∈ go_T := go_t1 (List.mem_of_getElem? (i := 84) rfl) rfl
theorem tw_1_85 : (Jvm.Cond.classLink "PromotedNumbers" (24 : Nat) "PromotedNumbers$Writing") ∈ go_T := go_t1 (List.mem_of_getElem? (i := 85) rfl) rfl
theorem tw_1_86 : (Jvm.Cond.instantiable "PromotedNumbers$Writing" (3 : Nat)) ∈ go_T := go_t1 (List.mem_of_getElem? (i := 86) rfl) rfl
theorem tw_1_87 : (Jvm.Cond.methodLink "PromotedNumbers" (26 : Nat) ({ cls := "PromotedNumbers$Writing", name := "<init>", desc := "()V" } : Jvm.MethodName)) ∈ go_T := go_t1 (List.mem_of_getElem? (i := 87) rfl) rfl
theorem tw_1_88 : (Jvm.Cond.instanceMethod ({ cls := "PromotedNumbers$Writing", name := "<init>", desc := "()V" } : Jvm.MethodName)) ∈ go_T := go_t1 (List.mem_of_getElem? (i := 88) rfl) rfl
theorem tw_1_89 : (Jvm.Cond.code ({ cls := "PromotedNumbers$Writing", name := "<init>", desc := "()V" } : Jvm.MethodName) prog_8_method_1_code (1 : Nat) (Option.none : Option Jvm.ClassFile.FieldType)) ∈ go_T := go_t1 (List.mem_of_getElem? (i := 89) rfl) rfl
theorem tw_1_90 : (Jvm.Cond.methodLink "PromotedNumbers$Writing" (5 : Nat) ({ cls := "java/lang/Object", name := "<init>", desc := "()V" } : Jvm.MethodName)) ∈ go_T := go_t1 (List.mem_of_getElem? (i := 90) rfl) rfl
theorem tw_1_91 : (Jvm.Cond.classLink "PromotedNumbers$Writing" (15 : Nat) "PromotedNumbers$Whole") ∈ go_T := go_t1 (List.mem_of_getElem? (i := 91) rfl) rfl
theorem tw_1_92 : (Jvm.Cond.methodLink "PromotedNumbers$Writing" (17 : Nat) ({ cls := "PromotedNumbers$Whole", name := "<init>", desc := "(I)V" } : Jvm.MethodName)) ∈ go_T := go_t1 (List.mem_of_getElem? (i := 92) rfl) rfl
theorem tw_1_93 : (Jvm.Cond.fieldLink "PromotedNumbers$Writing" (11 : Nat) "PromotedNumbers$Writing" "row" "[C") ∈ go_T := go_t1 (List.mem_of_getElem? (i := 93) rfl) rfl
theorem tw_1_94 : (Jvm.Cond.fieldLink "PromotedNumbers$Writing" (20 : Nat) "PromotedNumbers$Writing" "left" "LPromotedNumbers$Whole;") ∈ go_T := go_t1 (List.mem_of_getElem? (i := 94) rfl) rfl
theorem tw_1_95 : (Jvm.Cond.fieldLink "PromotedNumbers$Writing" (24 : Nat) "PromotedNumbers$Writing" "start" "I") ∈ go_T := go_t1 (List.mem_of_getElem? (i := 95) rfl) rfl
theorem tw_1_96 : (Jvm.Cond.laysFinal "PromotedNumbers$Writing" "PromotedNumbers$Writing" "row" "[C") ∈ go_T := go_t1 (List.mem_of_getElem? (i := 96) rfl) rfl
theorem tw_1_98 : (Jvm.Cond.laysFinal "PromotedNumbers$Writing" "PromotedNumbers$Writing" "left" "LPromotedNumbers$Whole;") ∈ go_T := go_t1 (List.mem_of_getElem? (i := 98) rfl) rfl
theorem tw_1_100 : (Jvm.Cond.lays "PromotedNumbers$Writing" "PromotedNumbers$Writing" "start" "I") ∈ go_T := go_t1 (List.mem_of_getElem? (i := 100) rfl) rfl
theorem tw_1_102 : (Jvm.Cond.superclass "PromotedNumbers$Writing" "java/lang/Object") ∈ go_T := go_t1 (List.mem_of_getElem? (i := 102) rfl) rfl
theorem tw_1_103 : (Jvm.Cond.classLink "PromotedNumbers" (31 : Nat) "PromotedNumbers$Grammar") ∈ go_T := go_t1 (List.mem_of_getElem? (i := 103) rfl) rfl
theorem tw_1_104 : (Jvm.Cond.instantiable "PromotedNumbers$Grammar" (3 : Nat)) ∈ go_T := go_t1 (List.mem_of_getElem? (i := 104) rfl) rfl
theorem tw_1_106 : (Jvm.Cond.instanceMethod ({ cls := "PromotedNumbers$Grammar", name := "<init>", desc := "()V" } : Jvm.MethodName)) ∈ go_T := go_t1 (List.mem_of_getElem? (i := 106) rfl) rfl
theorem tw_1_107 : (Jvm.Cond.code ({ cls := "PromotedNumbers$Grammar", name := "<init>", desc := "()V" } : Jvm.MethodName) prog_5_method_1_code (1 : Nat) (Option.none : Option Jvm.ClassFile.FieldType)) ∈ go_T := go_t1 (List.mem_of_getElem? (i := 107) rfl) rfl
theorem tw_1_108 : (Jvm.Cond.methodLink "PromotedNumbers$Grammar" (3 : Nat) ({ cls := "java/lang/Object", name := "<init>", desc := "()V" } : Jvm.MethodName)) ∈ go_T := go_t1 (List.mem_of_getElem? (i := 108) rfl) rfl
theorem tw_1_109 : (Jvm.Cond.fieldLink "PromotedNumbers$Grammar" (9 : Nat) "PromotedNumbers$Grammar" "operators" "[I") ∈ go_T := go_t1 (List.mem_of_getElem? (i := 109) rfl) rfl
theorem tw_1_110 : (Jvm.Cond.fieldLink "PromotedNumbers$Grammar" (15 : Nat) "PromotedNumbers$Grammar" "arguments" "[I") ∈ go_T := go_t1 (List.mem_of_getElem? (i := 110) rfl) rfl
theorem tw_1_111 : (Jvm.Cond.fieldLink "PromotedNumbers$Grammar" (18 : Nat) "PromotedNumbers$Grammar" "open" "I") ∈ go_T := go_t1 (List.mem_of_getElem? (i := 111) rfl) rfl
theorem tw_1_112 : (Jvm.Cond.laysFinal "PromotedNumbers$Grammar" "PromotedNumbers$Grammar" "operators" "[I") ∈ go_T := go_t1 (List.mem_of_getElem? (i := 112) rfl) rfl
theorem tw_1_114 : (Jvm.Cond.laysFinal "PromotedNumbers$Grammar" "PromotedNumbers$Grammar" "arguments" "[I") ∈ go_T := go_t1 (List.mem_of_getElem? (i := 114) rfl) rfl
theorem tw_1_116 : (Jvm.Cond.lays "PromotedNumbers$Grammar" "PromotedNumbers$Grammar" "open" "I") ∈ go_T := go_t1 (List.mem_of_getElem? (i := 116) rfl) rfl
theorem tw_1_118 : (Jvm.Cond.superclass "PromotedNumbers$Grammar" "java/lang/Object") ∈ go_T := go_t1 (List.mem_of_getElem? (i := 118) rfl) rfl
theorem tw_1_119 : (Jvm.Cond.classLink "PromotedNumbers" (38 : Nat) "PromotedNumbers$Machine") ∈ go_T := go_t1 (List.mem_of_getElem? (i := 119) rfl) rfl
theorem tw_1_120 : (Jvm.Cond.instantiable "PromotedNumbers$Machine" (10 : Nat)) ∈ go_T := go_t1 (List.mem_of_getElem? (i := 120) rfl) rfl
theorem tw_1_121 : (Jvm.Cond.methodLink "PromotedNumbers" (40 : Nat) ({ cls := "PromotedNumbers$Machine", name := "<init>", desc := "()V" } : Jvm.MethodName)) ∈ go_T := go_t1 (List.mem_of_getElem? (i := 121) rfl) rfl
theorem tw_1_122 : (Jvm.Cond.instanceMethod ({ cls := "PromotedNumbers$Machine", name := "<init>", desc := "()V" } : Jvm.MethodName)) ∈ go_T := go_t1 (List.mem_of_getElem? (i := 122) rfl) rfl
theorem tw_1_123 : (Jvm.Cond.code ({ cls := "PromotedNumbers$Machine", name := "<init>", desc := "()V" } : Jvm.MethodName) prog_6_method_1_code (2 : Nat) (Option.none : Option Jvm.ClassFile.FieldType)) ∈ go_T := go_t1 (List.mem_of_getElem? (i := 123) rfl) rfl
theorem tw_1_124 : (Jvm.Cond.methodLink "PromotedNumbers$Machine" (3 : Nat) ({ cls := "java/lang/Object", name := "<init>", desc := "()V" } : Jvm.MethodName)) ∈ go_T := go_t1 (List.mem_of_getElem? (i := 124) rfl) rfl
theorem tw_1_125 : (Jvm.Cond.classLink "PromotedNumbers$Machine" (9 : Nat) "PromotedNumbers$Calculator") ∈ go_T := go_t1 (List.mem_of_getElem? (i := 125) rfl) rfl
theorem tw_1_126 : (Jvm.Cond.instantiable "PromotedNumbers$Calculator" (7 : Nat)) ∈ go_T := go_t1 (List.mem_of_getElem? (i := 126) rfl) rfl
theorem tw_1_128 : (Jvm.Cond.instanceMethod ({ cls := "PromotedNumbers$Calculator", name := "<init>", desc := "()V" } : Jvm.MethodName)) ∈ go_T := go_t1 (List.mem_of_getElem? (i := 128) rfl) rfl
theorem tw_1_129 : (Jvm.Cond.code ({ cls := "PromotedNumbers$Calculator", name := "<init>", desc := "()V" } : Jvm.MethodName) prog_2_method_1_code (1 : Nat) (Option.none : Option Jvm.ClassFile.FieldType)) ∈ go_T := go_t1 (List.mem_of_getElem? (i := 129) rfl) rfl
theorem tw_1_130 : (Jvm.Cond.methodLink "PromotedNumbers$Calculator" (3 : Nat) ({ cls := "java/lang/Object", name := "<init>", desc := "()V" } : Jvm.MethodName)) ∈ go_T := go_t1 (List.mem_of_getElem? (i := 130) rfl) rfl
theorem tw_1_131 : (Jvm.Cond.classLink "PromotedNumbers$Calculator" (9 : Nat) "PromotedNumbers$Divider") ∈ go_T := go_t1 (List.mem_of_getElem? (i := 131) rfl) rfl
theorem tw_1_132 : (Jvm.Cond.instantiable "PromotedNumbers$Divider" (4 : Nat)) ∈ go_T := go_t1 (List.mem_of_getElem? (i := 132) rfl) rfl
theorem tw_1_134 : (Jvm.Cond.instanceMethod ({ cls := "PromotedNumbers$Divider", name := "<init>", desc := "()V" } : Jvm.MethodName)) ∈ go_T := go_t1 (List.mem_of_getElem? (i := 134) rfl) rfl
theorem tw_1_135 : (Jvm.Cond.code ({ cls := "PromotedNumbers$Divider", name := "<init>", desc := "()V" } : Jvm.MethodName) prog_3_method_1_code (1 : Nat) (Option.none : Option Jvm.ClassFile.FieldType)) ∈ go_T := go_t1 (List.mem_of_getElem? (i := 135) rfl) rfl
theorem tw_1_136 : (Jvm.Cond.methodLink "PromotedNumbers$Divider" (3 : Nat) ({ cls := "java/lang/Object", name := "<init>", desc := "()V" } : Jvm.MethodName)) ∈ go_T := go_t1 (List.mem_of_getElem? (i := 136) rfl) rfl
theorem tw_1_137 : (Jvm.Cond.classLink "PromotedNumbers$Divider" (9 : Nat) "PromotedNumbers$Whole") ∈ go_T := go_t1 (List.mem_of_getElem? (i := 137) rfl) rfl
theorem tw_1_138 : (Jvm.Cond.methodLink "PromotedNumbers$Divider" (11 : Nat) ({ cls := "PromotedNumbers$Whole", name := "<init>", desc := "(I)V" } : Jvm.MethodName)) ∈ go_T := go_t1 (List.mem_of_getElem? (i := 138) rfl) rfl
theorem tw_1_139 : (Jvm.Cond.fieldLink "PromotedNumbers$Divider" (14 : Nat) "PromotedNumbers$Divider" "rest" "LPromotedNumbers$Whole;") ∈ go_T := go_t1 (List.mem_of_getElem? (i := 139) rfl) rfl
theorem tw_1_141 : (Jvm.Cond.fieldLink "PromotedNumbers$Divider" (20 : Nat) "PromotedNumbers$Divider" "scaled" "LPromotedNumbers$Whole;") ∈ go_T := go_t1 (List.mem_of_getElem? (i := 141) rfl) rfl
theorem tw_1_142 : (Jvm.Cond.fieldLink "PromotedNumbers$Divider" (23 : Nat) "PromotedNumbers$Divider" "first" "LPromotedNumbers$Whole;") ∈ go_T := go_t1 (List.mem_of_getElem? (i := 142) rfl) rfl
theorem tw_1_143 : (Jvm.Cond.fieldLink "PromotedNumbers$Divider" (26 : Nat) "PromotedNumbers$Divider" "second" "LPromotedNumbers$Whole;") ∈ go_T := go_t1 (List.mem_of_getElem? (i := 143) rfl) rfl
theorem tw_1_144 : (Jvm.Cond.laysFinal "PromotedNumbers$Divider" "PromotedNumbers$Divider" "rest" "LPromotedNumbers$Whole;") ∈ go_T := go_t1 (List.mem_of_getElem? (i := 144) rfl) rfl
theorem tw_1_146 : (Jvm.Cond.laysFinal "PromotedNumbers$Divider" "PromotedNumbers$Divider" "scaled" "LPromotedNumbers$Whole;") ∈ go_T := go_t1 (List.mem_of_getElem? (i := 146) rfl) rfl
theorem tw_1_148 : (Jvm.Cond.laysFinal "PromotedNumbers$Divider" "PromotedNumbers$Divider" "first" "LPromotedNumbers$Whole;") ∈ go_T := go_t1 (List.mem_of_getElem? (i := 148) rfl) rfl
theorem tw_1_150 : (Jvm.Cond.laysFinal "PromotedNumbers$Divider" "PromotedNumbers$Divider" "second" "LPromotedNumbers$Whole;") ∈ go_T := go_t1 (List.mem_of_getElem? (i := 150) rfl) rfl
theorem tw_1_152 : (Jvm.Cond.superclass "PromotedNumbers$Divider" "java/lang/Object") ∈ go_T := go_t1 (List.mem_of_getElem? (i := 152) rfl) rfl
theorem tw_1_153 : (Jvm.Cond.classLink "PromotedNumbers$Calculator" (18 : Nat) "PromotedNumbers$Whole") ∈ go_T := go_t1 (List.mem_of_getElem? (i := 153) rfl) rfl
theorem tw_1_154 : (Jvm.Cond.methodLink "PromotedNumbers$Calculator" (20 : Nat) ({ cls := "PromotedNumbers$Whole", name := "<init>", desc := "(I)V" } : Jvm.MethodName)) ∈ go_T := go_t1 (List.mem_of_getElem? (i := 154) rfl) rfl
theorem tw_1_155 : (Jvm.Cond.fieldLink "PromotedNumbers$Calculator" (12 : Nat) "PromotedNumbers$Calculator" "divider" "LPromotedNumbers$Divider;") ∈ go_T := go_t1 (List.mem_of_getElem? (i := 155) rfl) rfl
theorem tw_1_156 : (Jvm.Cond.fieldLink "PromotedNumbers$Calculator" (23 : Nat) "PromotedNumbers$Calculator" "common" "LPromotedNumbers$Whole;") ∈ go_T := go_t1 (List.mem_of_getElem? (i := 156) rfl) rfl
theorem tw_1_157 : (Jvm.Cond.fieldLink "PromotedNumbers$Calculator" (27 : Nat) "PromotedNumbers$Calculator" "ownShare" "LPromotedNumbers$Whole;") ∈ go_T := go_t1 (List.mem_of_getElem? (i := 157) rfl) rfl
theorem tw_1_158 : (Jvm.Cond.fieldLink "PromotedNumbers$Calculator" (30 : Nat) "PromotedNumbers$Calculator" "otherShare" "LPromotedNumbers$Whole;") ∈ go_T := go_t1 (List.mem_of_getElem? (i := 158) rfl) rfl
theorem tw_1_159 : (Jvm.Cond.fieldLink "PromotedNumbers$Calculator" (33 : Nat) "PromotedNumbers$Calculator" "top" "LPromotedNumbers$Whole;") ∈ go_T := go_t1 (List.mem_of_getElem? (i := 159) rfl) rfl
theorem tw_1_160 : (Jvm.Cond.fieldLink "PromotedNumbers$Calculator" (36 : Nat) "PromotedNumbers$Calculator" "bottom" "LPromotedNumbers$Whole;") ∈ go_T := go_t1 (List.mem_of_getElem? (i := 160) rfl) rfl
theorem tw_1_161 : (Jvm.Cond.fieldLink "PromotedNumbers$Calculator" (39 : Nat) "PromotedNumbers$Calculator" "spare" "LPromotedNumbers$Whole;") ∈ go_T := go_t1 (List.mem_of_getElem? (i := 161) rfl) rfl
theorem tw_1_162 : (Jvm.Cond.laysFinal "PromotedNumbers$Calculator" "PromotedNumbers$Calculator" "divider" "LPromotedNumbers$Divider;") ∈ go_T := go_t1 (List.mem_of_getElem? (i := 162) rfl) rfl
theorem tw_1_164 : (Jvm.Cond.laysFinal "PromotedNumbers$Calculator" "PromotedNumbers$Calculator" "common" "LPromotedNumbers$Whole;") ∈ go_T := go_t1 (List.mem_of_getElem? (i := 164) rfl) rfl
theorem tw_1_166 : (Jvm.Cond.laysFinal "PromotedNumbers$Calculator" "PromotedNumbers$Calculator" "ownShare" "LPromotedNumbers$Whole;") ∈ go_T := go_t1 (List.mem_of_getElem? (i := 166) rfl) rfl
theorem tw_1_168 : (Jvm.Cond.laysFinal "PromotedNumbers$Calculator" "PromotedNumbers$Calculator" "otherShare" "LPromotedNumbers$Whole;") ∈ go_T := go_t1 (List.mem_of_getElem? (i := 168) rfl) rfl
theorem tw_1_170 : (Jvm.Cond.laysFinal "PromotedNumbers$Calculator" "PromotedNumbers$Calculator" "top" "LPromotedNumbers$Whole;") ∈ go_T := go_t1 (List.mem_of_getElem? (i := 170) rfl) rfl
theorem tw_1_172 : (Jvm.Cond.laysFinal "PromotedNumbers$Calculator" "PromotedNumbers$Calculator" "bottom" "LPromotedNumbers$Whole;") ∈ go_T := go_t1 (List.mem_of_getElem? (i := 172) rfl) rfl
theorem tw_1_174 : (Jvm.Cond.laysFinal "PromotedNumbers$Calculator" "PromotedNumbers$Calculator" "spare" "LPromotedNumbers$Whole;") ∈ go_T := go_t1 (List.mem_of_getElem? (i := 174) rfl) rfl
theorem tw_1_176 : (Jvm.Cond.superclass "PromotedNumbers$Calculator" "java/lang/Object") ∈ go_T := go_t1 (List.mem_of_getElem? (i := 176) rfl) rfl
theorem tw_1_177 : (Jvm.Cond.classLink "PromotedNumbers$Machine" (18 : Nat) "PromotedNumbers$Fraction") ∈ go_T := go_t1 (List.mem_of_getElem? (i := 177) rfl) rfl
theorem tw_1_179 : (Jvm.Cond.methodLink "PromotedNumbers$Machine" (27 : Nat) ({ cls := "PromotedNumbers$Fraction", name := "<init>", desc := "()V" } : Jvm.MethodName)) ∈ go_T := go_t1 (List.mem_of_getElem? (i := 179) rfl) rfl
theorem tw_1_180 : (Jvm.Cond.classLink "PromotedNumbers$Machine" (32 : Nat) "PromotedNumbers$Whole") ∈ go_T := go_t1 (List.mem_of_getElem? (i := 180) rfl) rfl
theorem tw_1_181 : (Jvm.Cond.methodLink "PromotedNumbers$Machine" (34 : Nat) ({ cls := "PromotedNumbers$Whole", name := "<init>", desc := "(I)V" } : Jvm.MethodName)) ∈ go_T := go_t1 (List.mem_of_getElem? (i := 181) rfl) rfl
theorem tw_1_182 : (Jvm.Cond.fieldLink "PromotedNumbers$Machine" (12 : Nat) "PromotedNumbers$Machine" "calculator" "LPromotedNumbers$Calculator;") ∈ go_T := go_t1 (List.mem_of_getElem? (i := 182) rfl) rfl
theorem tw_1_184 : (Jvm.Cond.fieldLink "PromotedNumbers$Machine" (20 : Nat) "PromotedNumbers$Machine" "variables" "[LPromotedNumbers$Fraction;") ∈ go_T := go_t1 (List.mem_of_getElem? (i := 184) rfl) rfl
theorem tw_1_186 : (Jvm.Cond.fieldLink "PromotedNumbers$Machine" (24 : Nat) "PromotedNumbers$Machine" "values" "[LPromotedNumbers$Fraction;") ∈ go_T := go_t1 (List.mem_of_getElem? (i := 186) rfl) rfl
theorem tw_1_187 : (Jvm.Cond.fieldLink "PromotedNumbers$Machine" (28 : Nat) "PromotedNumbers$Machine" "total" "LPromotedNumbers$Fraction;") ∈ go_T := go_t1 (List.mem_of_getElem? (i := 187) rfl) rfl
theorem tw_1_188 : (Jvm.Cond.fieldLink "PromotedNumbers$Machine" (37 : Nat) "PromotedNumbers$Machine" "number" "LPromotedNumbers$Whole;") ∈ go_T := go_t1 (List.mem_of_getElem? (i := 188) rfl) rfl
theorem tw_1_189 : (Jvm.Cond.fieldLink "PromotedNumbers$Machine" (41 : Nat) "PromotedNumbers$Machine" "operators" "[C") ∈ go_T := go_t1 (List.mem_of_getElem? (i := 189) rfl) rfl
theorem tw_1_190 : (Jvm.Cond.fieldLink "PromotedNumbers$Machine" (45 : Nat) "PromotedNumbers$Machine" "firstValues" "[I") ∈ go_T := go_t1 (List.mem_of_getElem? (i := 190) rfl) rfl
theorem tw_1_191 : (Jvm.Cond.fieldLink "PromotedNumbers$Machine" (49 : Nat) "PromotedNumbers$Machine" "arguments" "[I") ∈ go_T := go_t1 (List.mem_of_getElem? (i := 191) rfl) rfl
theorem tw_1_192 : (Jvm.Cond.fieldLink "PromotedNumbers$Machine" (52 : Nat) "PromotedNumbers$Machine" "open" "I") ∈ go_T := go_t1 (List.mem_of_getElem? (i := 192) rfl) rfl
theorem tw_1_193 : (Jvm.Cond.fieldLink "PromotedNumbers$Machine" (56 : Nat) "PromotedNumbers$Machine" "held" "I") ∈ go_T := go_t1 (List.mem_of_getElem? (i := 193) rfl) rfl
theorem tw_1_194 : (Jvm.Cond.laysFinal "PromotedNumbers$Machine" "PromotedNumbers$Machine" "calculator" "LPromotedNumbers$Calculator;") ∈ go_T := go_t1 (List.mem_of_getElem? (i := 194) rfl) rfl
theorem tw_1_196 : (Jvm.Cond.laysFinal "PromotedNumbers$Machine" "PromotedNumbers$Machine" "variables" "[LPromotedNumbers$Fraction;") ∈ go_T := go_t1 (List.mem_of_getElem? (i := 196) rfl) rfl
theorem tw_1_198 : (Jvm.Cond.laysFinal "PromotedNumbers$Machine" "PromotedNumbers$Machine" "values" "[LPromotedNumbers$Fraction;") ∈ go_T := go_t1 (List.mem_of_getElem? (i := 198) rfl) rfl
theorem tw_1_200 : (Jvm.Cond.laysFinal "PromotedNumbers$Machine" "PromotedNumbers$Machine" "total" "LPromotedNumbers$Fraction;") ∈ go_T := go_t1 (List.mem_of_getElem? (i := 200) rfl) rfl
theorem tw_1_202 : (Jvm.Cond.laysFinal "PromotedNumbers$Machine" "PromotedNumbers$Machine" "number" "LPromotedNumbers$Whole;") ∈ go_T := go_t1 (List.mem_of_getElem? (i := 202) rfl) rfl
theorem tw_1_204 : (Jvm.Cond.laysFinal "PromotedNumbers$Machine" "PromotedNumbers$Machine" "operators" "[C") ∈ go_T := go_t1 (List.mem_of_getElem? (i := 204) rfl) rfl
theorem tw_1_206 : (Jvm.Cond.laysFinal "PromotedNumbers$Machine" "PromotedNumbers$Machine" "firstValues" "[I") ∈ go_T := go_t1 (List.mem_of_getElem? (i := 206) rfl) rfl
theorem tw_1_208 : (Jvm.Cond.laysFinal "PromotedNumbers$Machine" "PromotedNumbers$Machine" "arguments" "[I") ∈ go_T := go_t1 (List.mem_of_getElem? (i := 208) rfl) rfl
theorem tw_1_210 : (Jvm.Cond.lays "PromotedNumbers$Machine" "PromotedNumbers$Machine" "open" "I") ∈ go_T := go_t1 (List.mem_of_getElem? (i := 210) rfl) rfl
theorem tw_1_212 : (Jvm.Cond.lays "PromotedNumbers$Machine" "PromotedNumbers$Machine" "held" "I") ∈ go_T := go_t1 (List.mem_of_getElem? (i := 212) rfl) rfl
theorem tw_1_214 : (Jvm.Cond.superclass "PromotedNumbers$Machine" "java/lang/Object") ∈ go_T := go_t1 (List.mem_of_getElem? (i := 214) rfl) rfl
theorem tw_1_215 : (Jvm.Cond.fieldLink "PromotedNumbers" (9 : Nat) "PromotedNumbers" "text" "[C") ∈ go_T := go_t1 (List.mem_of_getElem? (i := 215) rfl) rfl
theorem tw_1_216 : (Jvm.Cond.fieldLink "PromotedNumbers" (49 : Nat) "PromotedNumbers" "length" "I") ∈ go_T := go_t1 (List.mem_of_getElem? (i := 216) rfl) rfl
theorem tw_1_217 : (Jvm.Cond.fieldLink "PromotedNumbers" (13 : Nat) "PromotedNumbers" "foundFault" "I") ∈ go_T := go_t1 (List.mem_of_getElem? (i := 217) rfl) rfl
theorem tw_1_218 : (Jvm.Cond.fieldLink "PromotedNumbers" (20 : Nat) "PromotedNumbers" "result" "LPromotedNumbers$Fraction;") ∈ go_T := go_t1 (List.mem_of_getElem? (i := 218) rfl) rfl
theorem tw_1_219 : (Jvm.Cond.fieldLink "PromotedNumbers" (27 : Nat) "PromotedNumbers" "writing" "LPromotedNumbers$Writing;") ∈ go_T := go_t1 (List.mem_of_getElem? (i := 219) rfl) rfl
theorem tw_1_220 : (Jvm.Cond.fieldLink "PromotedNumbers" (34 : Nat) "PromotedNumbers" "grammar" "LPromotedNumbers$Grammar;") ∈ go_T := go_t1 (List.mem_of_getElem? (i := 220) rfl) rfl
theorem tw_1_221 : (Jvm.Cond.fieldLink "PromotedNumbers" (41 : Nat) "PromotedNumbers" "machine" "LPromotedNumbers$Machine;") ∈ go_T := go_t1 (List.mem_of_getElem? (i := 221) rfl) rfl
theorem tw_1_222 : (Jvm.Cond.laysFinal "PromotedNumbers" "PromotedNumbers" "text" "[C") ∈ go_T := go_t1 (List.mem_of_getElem? (i := 222) rfl) rfl
theorem tw_1_224 : (Jvm.Cond.lays "PromotedNumbers" "PromotedNumbers" "length" "I") ∈ go_T := go_t1 (List.mem_of_getElem? (i := 224) rfl) rfl
theorem tw_1_226 : (Jvm.Cond.lays "PromotedNumbers" "PromotedNumbers" "foundFault" "I") ∈ go_T := go_t1 (List.mem_of_getElem? (i := 226) rfl) rfl
theorem tw_1_228 : (Jvm.Cond.laysFinal "PromotedNumbers" "PromotedNumbers" "result" "LPromotedNumbers$Fraction;") ∈ go_T := go_t1 (List.mem_of_getElem? (i := 228) rfl) rfl
theorem tw_1_230 : (Jvm.Cond.laysFinal "PromotedNumbers" "PromotedNumbers" "writing" "LPromotedNumbers$Writing;") ∈ go_T := go_t1 (List.mem_of_getElem? (i := 230) rfl) rfl
theorem tw_1_232 : (Jvm.Cond.laysFinal "PromotedNumbers" "PromotedNumbers" "grammar" "LPromotedNumbers$Grammar;") ∈ go_T := go_t1 (List.mem_of_getElem? (i := 232) rfl) rfl
theorem tw_1_234 : (Jvm.Cond.laysFinal "PromotedNumbers" "PromotedNumbers" "machine" "LPromotedNumbers$Machine;") ∈ go_T := go_t1 (List.mem_of_getElem? (i := 234) rfl) rfl
theorem tw_1_236 : (Jvm.Cond.superclass "PromotedNumbers" "java/lang/Object") ∈ go_T := go_t1 (List.mem_of_getElem? (i := 236) rfl) rfl
theorem tw_1_237 : (Jvm.Cond.methodLink "PromotedNumbersLaw" (39 : Nat) ({ cls := "PromotedNumbers", name := "type", desc := "(J)Z" } : Jvm.MethodName)) ∈ go_T := go_t1 (List.mem_of_getElem? (i := 237) rfl) rfl
theorem tw_1_238 : (Jvm.Cond.instanceMethod ({ cls := "PromotedNumbers", name := "type", desc := "(J)Z" } : Jvm.MethodName)) ∈ go_T := go_t1 (List.mem_of_getElem? (i := 238) rfl) rfl
theorem tw_1_239 : (Jvm.Cond.selects "PromotedNumbers" ({ cls := "PromotedNumbers", name := "type", desc := "(J)Z" } : Jvm.MethodName) ({ cls := "PromotedNumbers", name := "type", desc := "(J)Z" } : Jvm.MethodName)) ∈ go_T := go_t1 (List.mem_of_getElem? (i := 239) rfl) rfl
theorem tw_2_0 : (Jvm.Cond.code ({ cls := "PromotedNumbers", name := "type", desc := "(J)Z" } : Jvm.MethodName) prog_1_method_2_code (5 : Nat) (Option.some Jvm.ClassFile.FieldType.boolean)) ∈ go_T := go_t2 (List.mem_of_getElem? (i := 0) rfl) rfl
theorem tw_2_1 : (Jvm.Cond.methodLink "PromotedNumbers" (45 : Nat) ({ cls := "PromotedNumbers", name := "characterOf", desc := "(JI)I" } : Jvm.MethodName)) ∈ go_T := go_t2 (List.mem_of_getElem? (i := 1) rfl) rfl
theorem tw_2_2 : (Jvm.Cond.static ({ cls := "PromotedNumbers", name := "characterOf", desc := "(JI)I" } : Jvm.MethodName)) ∈ go_T := go_t2 (List.mem_of_getElem? (i := 2) rfl) rfl
theorem tw_2_3 : (Jvm.Cond.code ({ cls := "PromotedNumbers", name := "characterOf", desc := "(JI)I" } : Jvm.MethodName) prog_1_method_13_code (3 : Nat) (Option.some Jvm.ClassFile.FieldType.int)) ∈ go_T := go_t2 (List.mem_of_getElem? (i := 3) rfl) rfl
theorem tw_2_4 : (Jvm.Cond.methodLink "PromotedNumbersLaw" (44 : Nat) ({ cls := "PromotedNumbers", name := "erase", desc := "()I" } : Jvm.MethodName)) ∈ go_T := go_t2 (List.mem_of_getElem? (i := 4) rfl) rfl
theorem tw_2_5 : (Jvm.Cond.instanceMethod ({ cls := "PromotedNumbers", name := "erase", desc := "()I" } : Jvm.MethodName)) ∈ go_T := go_t2 (List.mem_of_getElem? (i := 5) rfl) rfl
theorem tw_2_6 : (Jvm.Cond.selects "PromotedNumbers" ({ cls := "PromotedNumbers", name := "erase", desc := "()I" } : Jvm.MethodName) ({ cls := "PromotedNumbers", name := "erase", desc := "()I" } : Jvm.MethodName)) ∈ go_T := go_t2 (List.mem_of_getElem? (i := 6) rfl) rfl
theorem tw_2_7 : (Jvm.Cond.code ({ cls := "PromotedNumbers", name := "erase", desc := "()I" } : Jvm.MethodName) prog_1_method_3_code (2 : Nat) (Option.some Jvm.ClassFile.FieldType.int)) ∈ go_T := go_t2 (List.mem_of_getElem? (i := 7) rfl) rfl
theorem tw_2_8 : (Jvm.Cond.methodLink "PromotedNumbersLaw" (48 : Nat) ({ cls := "PromotedNumbers", name := "fault", desc := "()I" } : Jvm.MethodName)) ∈ go_T := go_t2 (List.mem_of_getElem? (i := 8) rfl) rfl
theorem tw_2_9 : (Jvm.Cond.instanceMethod ({ cls := "PromotedNumbers", name := "fault", desc := "()I" } : Jvm.MethodName)) ∈ go_T := go_t2 (List.mem_of_getElem? (i := 9) rfl) rfl
theorem tw_2_10 : (Jvm.Cond.selects "PromotedNumbers" ({ cls := "PromotedNumbers", name := "fault", desc := "()I" } : Jvm.MethodName) ({ cls := "PromotedNumbers", name := "fault", desc := "()I" } : Jvm.MethodName)) ∈ go_T := go_t2 (List.mem_of_getElem? (i := 10) rfl) rfl
theorem tw_2_11 : (Jvm.Cond.code ({ cls := "PromotedNumbers", name := "fault", desc := "()I" } : Jvm.MethodName) prog_1_method_4_code (1 : Nat) (Option.some Jvm.ClassFile.FieldType.int)) ∈ go_T := go_t2 (List.mem_of_getElem? (i := 11) rfl) rfl
theorem tw_2_12 : (Jvm.Cond.methodLink "PromotedNumbersLaw" (65 : Nat) ({ cls := "PromotedNumbers", name := "form", desc := "()I" } : Jvm.MethodName)) ∈ go_T := go_t2 (List.mem_of_getElem? (i := 12) rfl) rfl
theorem tw_2_13 : (Jvm.Cond.instanceMethod ({ cls := "PromotedNumbers", name := "form", desc := "()I" } : Jvm.MethodName)) ∈ go_T := go_t2 (List.mem_of_getElem? (i := 13) rfl) rfl
theorem tw_2_14 : (Jvm.Cond.selects "PromotedNumbers" ({ cls := "PromotedNumbers", name := "form", desc := "()I" } : Jvm.MethodName) ({ cls := "PromotedNumbers", name := "form", desc := "()I" } : Jvm.MethodName)) ∈ go_T := go_t2 (List.mem_of_getElem? (i := 14) rfl) rfl
theorem tw_2_15 : (Jvm.Cond.code ({ cls := "PromotedNumbers", name := "form", desc := "()I" } : Jvm.MethodName) prog_1_method_7_code (1 : Nat) (Option.some Jvm.ClassFile.FieldType.int)) ∈ go_T := go_t2 (List.mem_of_getElem? (i := 15) rfl) rfl
theorem tw_2_16 : (Jvm.Cond.methodLink "PromotedNumbers" (82 : Nat) ({ cls := "PromotedNumbers$Fraction", name := "kind", desc := "()I" } : Jvm.MethodName)) ∈ go_T := go_t2 (List.mem_of_getElem? (i := 16) rfl) rfl
theorem tw_2_17 : (Jvm.Cond.instanceMethod ({ cls := "PromotedNumbers$Fraction", name := "kind", desc := "()I" } : Jvm.MethodName)) ∈ go_T := go_t2 (List.mem_of_getElem? (i := 17) rfl) rfl
theorem tw_2_18 : (Jvm.Cond.selects "PromotedNumbers$Fraction" ({ cls := "PromotedNumbers$Fraction", name := "kind", desc := "()I" } : Jvm.MethodName) ({ cls := "PromotedNumbers$Fraction", name := "kind", desc := "()I" } : Jvm.MethodName)) ∈ go_T := go_t2 (List.mem_of_getElem? (i := 18) rfl) rfl
theorem tw_2_19 : (Jvm.Cond.code ({ cls := "PromotedNumbers$Fraction", name := "kind", desc := "()I" } : Jvm.MethodName) prog_4_method_7_code (2 : Nat) (Option.some Jvm.ClassFile.FieldType.int)) ∈ go_T := go_t2 (List.mem_of_getElem? (i := 19) rfl) rfl
theorem tw_2_20 : (Jvm.Cond.methodLink "PromotedNumbers$Fraction" (42 : Nat) ({ cls := "PromotedNumbers$Fraction", name := "isWhole", desc := "()Z" } : Jvm.MethodName)) ∈ go_T := go_t2 (List.mem_of_getElem? (i := 20) rfl) rfl
theorem tw_2_21 : (Jvm.Cond.instanceMethod ({ cls := "PromotedNumbers$Fraction", name := "isWhole", desc := "()Z" } : Jvm.MethodName)) ∈ go_T := go_t2 (List.mem_of_getElem? (i := 21) rfl) rfl
theorem tw_2_22 : (Jvm.Cond.selects "PromotedNumbers$Fraction" ({ cls := "PromotedNumbers$Fraction", name := "isWhole", desc := "()Z" } : Jvm.MethodName) ({ cls := "PromotedNumbers$Fraction", name := "isWhole", desc := "()Z" } : Jvm.MethodName)) ∈ go_T := go_t2 (List.mem_of_getElem? (i := 22) rfl) rfl
theorem tw_2_23 : (Jvm.Cond.code ({ cls := "PromotedNumbers$Fraction", name := "isWhole", desc := "()Z" } : Jvm.MethodName) prog_4_method_4_code (1 : Nat) (Option.some Jvm.ClassFile.FieldType.boolean)) ∈ go_T := go_t2 (List.mem_of_getElem? (i := 23) rfl) rfl
theorem tw_2_24 : (Jvm.Cond.methodLink "PromotedNumbers$Fraction" (34 : Nat) ({ cls := "PromotedNumbers$Whole", name := "isOne", desc := "()Z" } : Jvm.MethodName)) ∈ go_T := go_t2 (List.mem_of_getElem? (i := 24) rfl) rfl
theorem tw_2_25 : (Jvm.Cond.instanceMethod ({ cls := "PromotedNumbers$Whole", name := "isOne", desc := "()Z" } : Jvm.MethodName)) ∈ go_T := go_t2 (List.mem_of_getElem? (i := 25) rfl) rfl
theorem tw_2_26 : (Jvm.Cond.selects "PromotedNumbers$Whole" ({ cls := "PromotedNumbers$Whole", name := "isOne", desc := "()Z" } : Jvm.MethodName) ({ cls := "PromotedNumbers$Whole", name := "isOne", desc := "()Z" } : Jvm.MethodName)) ∈ go_T := go_t2 (List.mem_of_getElem? (i := 26) rfl) rfl
theorem tw_2_27 : (Jvm.Cond.code ({ cls := "PromotedNumbers$Whole", name := "isOne", desc := "()Z" } : Jvm.MethodName) prog_7_method_5_code (1 : Nat) (Option.some Jvm.ClassFile.FieldType.boolean)) ∈ go_T := go_t2 (List.mem_of_getElem? (i := 27) rfl) rfl
theorem tw_2_28 : (Jvm.Cond.methodLink "PromotedNumbersLaw" (69 : Nat) ({ cls := "PromotedNumbers", name := "sign", desc := "()I" } : Jvm.MethodName)) ∈ go_T := go_t2 (List.mem_of_getElem? (i := 28) rfl) rfl
theorem tw_2_29 : (Jvm.Cond.instanceMethod ({ cls := "PromotedNumbers", name := "sign", desc := "()I" } : Jvm.MethodName)) ∈ go_T := go_t2 (List.mem_of_getElem? (i := 29) rfl) rfl
theorem tw_2_30 : (Jvm.Cond.selects "PromotedNumbers" ({ cls := "PromotedNumbers", name := "sign", desc := "()I" } : Jvm.MethodName) ({ cls := "PromotedNumbers", name := "sign", desc := "()I" } : Jvm.MethodName)) ∈ go_T := go_t2 (List.mem_of_getElem? (i := 30) rfl) rfl
theorem tw_2_31 : (Jvm.Cond.code ({ cls := "PromotedNumbers", name := "sign", desc := "()I" } : Jvm.MethodName) prog_1_method_8_code (1 : Nat) (Option.some Jvm.ClassFile.FieldType.int)) ∈ go_T := go_t2 (List.mem_of_getElem? (i := 31) rfl) rfl
theorem tw_2_32 : (Jvm.Cond.methodLink "PromotedNumbers" (86 : Nat) ({ cls := "PromotedNumbers$Fraction", name := "side", desc := "()I" } : Jvm.MethodName)) ∈ go_T := go_t2 (List.mem_of_getElem? (i := 32) rfl) rfl
theorem tw_2_33 : (Jvm.Cond.instanceMethod ({ cls := "PromotedNumbers$Fraction", name := "side", desc := "()I" } : Jvm.MethodName)) ∈ go_T := go_t2 (List.mem_of_getElem? (i := 33) rfl) rfl
theorem tw_2_34 : (Jvm.Cond.selects "PromotedNumbers$Fraction" ({ cls := "PromotedNumbers$Fraction", name := "side", desc := "()I" } : Jvm.MethodName) ({ cls := "PromotedNumbers$Fraction", name := "side", desc := "()I" } : Jvm.MethodName)) ∈ go_T := go_t2 (List.mem_of_getElem? (i := 34) rfl) rfl
theorem tw_2_35 : (Jvm.Cond.code ({ cls := "PromotedNumbers$Fraction", name := "side", desc := "()I" } : Jvm.MethodName) prog_4_method_6_code (1 : Nat) (Option.some Jvm.ClassFile.FieldType.int)) ∈ go_T := go_t2 (List.mem_of_getElem? (i := 35) rfl) rfl
theorem tw_2_36 : (Jvm.Cond.methodLink "PromotedNumbers$Fraction" (41 : Nat) ({ cls := "PromotedNumbers$Fraction", name := "isZero", desc := "()Z" } : Jvm.MethodName)) ∈ go_T := go_t2 (List.mem_of_getElem? (i := 36) rfl) rfl
theorem tw_2_37 : (Jvm.Cond.instanceMethod ({ cls := "PromotedNumbers$Fraction", name := "isZero", desc := "()Z" } : Jvm.MethodName)) ∈ go_T := go_t2 (List.mem_of_getElem? (i := 37) rfl) rfl
theorem tw_2_38 : (Jvm.Cond.selects "PromotedNumbers$Fraction" ({ cls := "PromotedNumbers$Fraction", name := "isZero", desc := "()Z" } : Jvm.MethodName) ({ cls := "PromotedNumbers$Fraction", name := "isZero", desc := "()Z" } : Jvm.MethodName)) ∈ go_T := go_t2 (List.mem_of_getElem? (i := 38) rfl) rfl
theorem tw_2_39 : (Jvm.Cond.code ({ cls := "PromotedNumbers$Fraction", name := "isZero", desc := "()Z" } : Jvm.MethodName) prog_4_method_5_code (1 : Nat) (Option.some Jvm.ClassFile.FieldType.boolean)) ∈ go_T := go_t2 (List.mem_of_getElem? (i := 39) rfl) rfl
theorem tw_2_40 : (Jvm.Cond.methodLink "PromotedNumbers$Fraction" (38 : Nat) ({ cls := "PromotedNumbers$Whole", name := "isZero", desc := "()Z" } : Jvm.MethodName)) ∈ go_T := go_t2 (List.mem_of_getElem? (i := 40) rfl) rfl
theorem tw_2_41 : (Jvm.Cond.instanceMethod ({ cls := "PromotedNumbers$Whole", name := "isZero", desc := "()Z" } : Jvm.MethodName)) ∈ go_T := go_t2 (List.mem_of_getElem? (i := 41) rfl) rfl
theorem tw_2_42 : (Jvm.Cond.selects "PromotedNumbers$Whole" ({ cls := "PromotedNumbers$Whole", name := "isZero", desc := "()Z" } : Jvm.MethodName) ({ cls := "PromotedNumbers$Whole", name := "isZero", desc := "()Z" } : Jvm.MethodName)) ∈ go_T := go_t2 (List.mem_of_getElem? (i := 42) rfl) rfl
theorem tw_2_43 : (Jvm.Cond.code ({ cls := "PromotedNumbers$Whole", name := "isZero", desc := "()Z" } : Jvm.MethodName) prog_7_method_4_code (1 : Nat) (Option.some Jvm.ClassFile.FieldType.boolean)) ∈ go_T := go_t2 (List.mem_of_getElem? (i := 43) rfl) rfl
theorem tw_2_44 : (Jvm.Cond.methodLink "PromotedNumbersLaw" (73 : Nat) ({ cls := "PromotedNumbers", name := "digit", desc := "(I)C" } : Jvm.MethodName)) ∈ go_T := go_t2 (List.mem_of_getElem? (i := 44) rfl) rfl
theorem tw_2_45 : (Jvm.Cond.instanceMethod ({ cls := "PromotedNumbers", name := "digit", desc := "(I)C" } : Jvm.MethodName)) ∈ go_T := go_t2 (List.mem_of_getElem? (i := 45) rfl) rfl
theorem tw_2_46 : (Jvm.Cond.selects "PromotedNumbers" ({ cls := "PromotedNumbers", name := "digit", desc := "(I)C" } : Jvm.MethodName) ({ cls := "PromotedNumbers", name := "digit", desc := "(I)C" } : Jvm.MethodName)) ∈ go_T := go_t2 (List.mem_of_getElem? (i := 46) rfl) rfl
theorem tw_2_47 : (Jvm.Cond.code ({ cls := "PromotedNumbers", name := "digit", desc := "(I)C" } : Jvm.MethodName) prog_1_method_9_code (2 : Nat) (Option.some Jvm.ClassFile.FieldType.char)) ∈ go_T := go_t2 (List.mem_of_getElem? (i := 47) rfl) rfl
theorem tw_2_48 : (Jvm.Cond.methodLink "PromotedNumbers" (89 : Nat) ({ cls := "PromotedNumbers$Writing", name := "character", desc := "(I)C" } : Jvm.MethodName)) ∈ go_T := go_t2 (List.mem_of_getElem? (i := 48) rfl) rfl
theorem tw_2_49 : (Jvm.Cond.instanceMethod ({ cls := "PromotedNumbers$Writing", name := "character", desc := "(I)C" } : Jvm.MethodName)) ∈ go_T := go_t2 (List.mem_of_getElem? (i := 49) rfl) rfl
theorem tw_2_50 : (Jvm.Cond.selects "PromotedNumbers$Writing" ({ cls := "PromotedNumbers$Writing", name := "character", desc := "(I)C" } : Jvm.MethodName) ({ cls := "PromotedNumbers$Writing", name := "character", desc := "(I)C" } : Jvm.MethodName)) ∈ go_T := go_t2 (List.mem_of_getElem? (i := 50) rfl) rfl
theorem tw_2_51 : (Jvm.Cond.code ({ cls := "PromotedNumbers$Writing", name := "character", desc := "(I)C" } : Jvm.MethodName) prog_8_method_3_code (2 : Nat) (Option.some Jvm.ClassFile.FieldType.char)) ∈ go_T := go_t2 (List.mem_of_getElem? (i := 51) rfl) rfl
theorem tw_2_52 : (Jvm.Cond.methodLink "PromotedNumbersLaw" (78 : Nat) ({ cls := "PromotedNumbers", name := "bits", desc := "(II)I" } : Jvm.MethodName)) ∈ go_T := go_t2 (List.mem_of_getElem? (i := 52) rfl) rfl
theorem tw_2_53 : (Jvm.Cond.instanceMethod ({ cls := "PromotedNumbers", name := "bits", desc := "(II)I" } : Jvm.MethodName)) ∈ go_T := go_t2 (List.mem_of_getElem? (i := 53) rfl) rfl
theorem tw_2_54 : (Jvm.Cond.selects "PromotedNumbers" ({ cls := "PromotedNumbers", name := "bits", desc := "(II)I" } : Jvm.MethodName) ({ cls := "PromotedNumbers", name := "bits", desc := "(II)I" } : Jvm.MethodName)) ∈ go_T := go_t2 (List.mem_of_getElem? (i := 54) rfl) rfl
theorem tw_2_55 : (Jvm.Cond.code ({ cls := "PromotedNumbers", name := "bits", desc := "(II)I" } : Jvm.MethodName) prog_1_method_10_code (3 : Nat) (Option.some Jvm.ClassFile.FieldType.int)) ∈ go_T := go_t2 (List.mem_of_getElem? (i := 55) rfl) rfl
theorem tw_2_56 : (Jvm.Cond.methodLink "PromotedNumbers" (97 : Nat) ({ cls := "PromotedNumbers$Whole", name := "word", desc := "(I)I" } : Jvm.MethodName)) ∈ go_T := go_t2 (List.mem_of_getElem? (i := 56) rfl) rfl
theorem tw_2_57 : (Jvm.Cond.instanceMethod ({ cls := "PromotedNumbers$Whole", name := "word", desc := "(I)I" } : Jvm.MethodName)) ∈ go_T := go_t2 (List.mem_of_getElem? (i := 57) rfl) rfl
theorem tw_2_58 : (Jvm.Cond.selects "PromotedNumbers$Whole" ({ cls := "PromotedNumbers$Whole", name := "word", desc := "(I)I" } : Jvm.MethodName) ({ cls := "PromotedNumbers$Whole", name := "word", desc := "(I)I" } : Jvm.MethodName)) ∈ go_T := go_t2 (List.mem_of_getElem? (i := 58) rfl) rfl
theorem tw_2_59 : (Jvm.Cond.code ({ cls := "PromotedNumbers$Whole", name := "word", desc := "(I)I" } : Jvm.MethodName) prog_7_method_8_code (5 : Nat) (Option.some Jvm.ClassFile.FieldType.int)) ∈ go_T := go_t2 (List.mem_of_getElem? (i := 59) rfl) rfl
theorem tw_2_60 : (Jvm.Cond.methodLink "PromotedNumbers$Whole" (25 : Nat) ({ cls := "PromotedNumbers$Whole", name := "limb", desc := "(I)I" } : Jvm.MethodName)) ∈ go_T := go_t2 (List.mem_of_getElem? (i := 60) rfl) rfl
theorem tw_2_61 : (Jvm.Cond.instanceMethod ({ cls := "PromotedNumbers$Whole", name := "limb", desc := "(I)I" } : Jvm.MethodName)) ∈ go_T := go_t2 (List.mem_of_getElem? (i := 61) rfl) rfl
theorem tw_2_62 : (Jvm.Cond.selects "PromotedNumbers$Whole" ({ cls := "PromotedNumbers$Whole", name := "limb", desc := "(I)I" } : Jvm.MethodName) ({ cls := "PromotedNumbers$Whole", name := "limb", desc := "(I)I" } : Jvm.MethodName)) ∈ go_T := go_t2 (List.mem_of_getElem? (i := 62) rfl) rfl
theorem tw_2_63 : (Jvm.Cond.code ({ cls := "PromotedNumbers$Whole", name := "limb", desc := "(I)I" } : Jvm.MethodName) prog_7_method_7_code (2 : Nat) (Option.some Jvm.ClassFile.FieldType.int)) ∈ go_T := go_t2 (List.mem_of_getElem? (i := 63) rfl) rfl
theorem tw_2_64 : (Jvm.Cond.methodLink "PromotedNumbersLaw" (52 : Nat) ({ cls := "PromotedNumbersLaw", name := "work", desc := "(LPromotedNumbers;[J)I" } : Jvm.MethodName)) ∈ go_T := go_t2 (List.mem_of_getElem? (i := 64) rfl) rfl
theorem tw_2_65 : (Jvm.Cond.static ({ cls := "PromotedNumbersLaw", name := "work", desc := "(LPromotedNumbers;[J)I" } : Jvm.MethodName)) ∈ go_T := go_t2 (List.mem_of_getElem? (i := 65) rfl) rfl
theorem tw_2_67 : (Jvm.Cond.classLink "PromotedNumbersLaw" (13 : Nat) "java/lang/IllegalArgumentException") ∈ go_T := go_t2 (List.mem_of_getElem? (i := 67) rfl) rfl
theorem tw_2_68 : (Jvm.Cond.classLink "PromotedNumbersLaw" (15 : Nat) "java/lang/UnsupportedOperationException") ∈ go_T := go_t2 (List.mem_of_getElem? (i := 68) rfl) rfl
theorem tw_2_69 : (Jvm.Cond.classLink "PromotedNumbersLaw" (17 : Nat) "java/lang/ArithmeticException") ∈ go_T := go_t2 (List.mem_of_getElem? (i := 69) rfl) rfl
theorem tw_2_70 : (Jvm.Cond.classLink "PromotedNumbersLaw" (19 : Nat) "java/lang/IllegalStateException") ∈ go_T := go_t2 (List.mem_of_getElem? (i := 70) rfl) rfl
theorem tw_2_71 : (Jvm.Cond.methodLink "PromotedNumbersLaw" (7 : Nat) ({ cls := "PromotedNumbers", name := "work", desc := "()I" } : Jvm.MethodName)) ∈ go_T := go_t2 (List.mem_of_getElem? (i := 71) rfl) rfl
theorem tw_2_72 : (Jvm.Cond.instanceMethod ({ cls := "PromotedNumbers", name := "work", desc := "()I" } : Jvm.MethodName)) ∈ go_T := go_t2 (List.mem_of_getElem? (i := 72) rfl) rfl
theorem tw_2_73 : (Jvm.Cond.selects "PromotedNumbers" ({ cls := "PromotedNumbers", name := "work", desc := "()I" } : Jvm.MethodName) ({ cls := "PromotedNumbers", name := "work", desc := "()I" } : Jvm.MethodName)) ∈ go_T := go_t2 (List.mem_of_getElem? (i := 73) rfl) rfl
theorem tw_2_74 : (Jvm.Cond.code ({ cls := "PromotedNumbers", name := "work", desc := "()I" } : Jvm.MethodName) prog_1_method_5_code (1 : Nat) (Option.some Jvm.ClassFile.FieldType.int)) ∈ go_T := go_t2 (List.mem_of_getElem? (i := 74) rfl) rfl
theorem tw_2_75 : (Jvm.Cond.methodLink "PromotedNumbers" (52 : Nat) ({ cls := "PromotedNumbers", name := "requireExpression", desc := "()V" } : Jvm.MethodName)) ∈ go_T := go_t2 (List.mem_of_getElem? (i := 75) rfl) rfl
theorem tw_2_77 : (Jvm.Cond.instanceMethod ({ cls := "PromotedNumbers", name := "requireExpression", desc := "()V" } : Jvm.MethodName)) ∈ go_T := go_t2 (List.mem_of_getElem? (i := 77) rfl) rfl
theorem tw_2_78 : (Jvm.Cond.code ({ cls := "PromotedNumbers", name := "requireExpression", desc := "()V" } : Jvm.MethodName) prog_1_method_15_code (1 : Nat) (Option.none : Option Jvm.ClassFile.FieldType)) ∈ go_T := go_t2 (List.mem_of_getElem? (i := 78) rfl) rfl
theorem tw_2_79 : (Jvm.Cond.methodLink "PromotedNumbers" (119 : Nat) ({ cls := "PromotedNumbers$Grammar", name := "faultOf", desc := "([CI)I" } : Jvm.MethodName)) ∈ go_T := go_t2 (List.mem_of_getElem? (i := 79) rfl) rfl
theorem tw_2_80 : (Jvm.Cond.instanceMethod ({ cls := "PromotedNumbers$Grammar", name := "faultOf", desc := "([CI)I" } : Jvm.MethodName)) ∈ go_T := go_t2 (List.mem_of_getElem? (i := 80) rfl) rfl
theorem tw_2_81 : (Jvm.Cond.selects "PromotedNumbers$Grammar" ({ cls := "PromotedNumbers$Grammar", name := "faultOf", desc := "([CI)I" } : Jvm.MethodName) ({ cls := "PromotedNumbers$Grammar", name := "faultOf", desc := "([CI)I" } : Jvm.MethodName)) ∈ go_T := go_t2 (List.mem_of_getElem? (i := 81) rfl) rfl
theorem tw_2_82 : (Jvm.Cond.code ({ cls := "PromotedNumbers$Grammar", name := "faultOf", desc := "([CI)I" } : Jvm.MethodName) prog_5_method_2_code (5 : Nat) (Option.some Jvm.ClassFile.FieldType.int)) ∈ go_T := go_t2 (List.mem_of_getElem? (i := 82) rfl) rfl
theorem tw_2_83 : (Jvm.Cond.methodLink "PromotedNumbers$Grammar" (22 : Nat) ({ cls := "PromotedNumbers$Grammar", name := "behind", desc := "(IC)I" } : Jvm.MethodName)) ∈ go_T := go_t2 (List.mem_of_getElem? (i := 83) rfl) rfl
theorem tw_2_85 : (Jvm.Cond.instanceMethod ({ cls := "PromotedNumbers$Grammar", name := "behind", desc := "(IC)I" } : Jvm.MethodName)) ∈ go_T := go_t2 (List.mem_of_getElem? (i := 85) rfl) rfl
theorem tw_2_86 : (Jvm.Cond.code ({ cls := "PromotedNumbers$Grammar", name := "behind", desc := "(IC)I" } : Jvm.MethodName) prog_5_method_3_code (3 : Nat) (Option.some Jvm.ClassFile.FieldType.int)) ∈ go_T := go_t2 (List.mem_of_getElem? (i := 86) rfl) rfl
theorem tw_2_87 : (Jvm.Cond.methodLink "PromotedNumbers$Grammar" (26 : Nat) ({ cls := "PromotedNumbers$Grammar", name := "behindStart", desc := "(C)I" } : Jvm.MethodName)) ∈ go_T := go_t2 (List.mem_of_getElem? (i := 87) rfl) rfl
theorem tw_2_89 : (Jvm.Cond.instanceMethod ({ cls := "PromotedNumbers$Grammar", name := "behindStart", desc := "(C)I" } : Jvm.MethodName)) ∈ go_T := go_t2 (List.mem_of_getElem? (i := 89) rfl) rfl
theorem tw_2_90 : (Jvm.Cond.code ({ cls := "PromotedNumbers$Grammar", name := "behindStart", desc := "(C)I" } : Jvm.MethodName) prog_5_method_4_code (2 : Nat) (Option.some Jvm.ClassFile.FieldType.int)) ∈ go_T := go_t2 (List.mem_of_getElem? (i := 90) rfl) rfl
theorem tw_2_92 : (Jvm.Cond.static ({ cls := "PromotedNumbers", name := "isDigit", desc := "(C)Z" } : Jvm.MethodName)) ∈ go_T := go_t2 (List.mem_of_getElem? (i := 92) rfl) rfl
theorem tw_2_93 : (Jvm.Cond.code ({ cls := "PromotedNumbers", name := "isDigit", desc := "(C)Z" } : Jvm.MethodName) prog_1_method_18_code (1 : Nat) (Option.some Jvm.ClassFile.FieldType.boolean)) ∈ go_T := go_t2 (List.mem_of_getElem? (i := 93) rfl) rfl
theorem tw_2_95 : (Jvm.Cond.static ({ cls := "PromotedNumbers", name := "isVariable", desc := "(C)Z" } : Jvm.MethodName)) ∈ go_T := go_t2 (List.mem_of_getElem? (i := 95) rfl) rfl
theorem tw_2_96 : (Jvm.Cond.code ({ cls := "PromotedNumbers", name := "isVariable", desc := "(C)Z" } : Jvm.MethodName) prog_1_method_19_code (1 : Nat) (Option.some Jvm.ClassFile.FieldType.boolean)) ∈ go_T := go_t2 (List.mem_of_getElem? (i := 96) rfl) rfl
theorem tw_2_97 : (Jvm.Cond.methodLink "PromotedNumbers$Grammar" (30 : Nat) ({ cls := "PromotedNumbers$Grammar", name := "behindOperator", desc := "(C)I" } : Jvm.MethodName)) ∈ go_T := go_t2 (List.mem_of_getElem? (i := 97) rfl) rfl
theorem tw_2_99 : (Jvm.Cond.instanceMethod ({ cls := "PromotedNumbers$Grammar", name := "behindOperator", desc := "(C)I" } : Jvm.MethodName)) ∈ go_T := go_t2 (List.mem_of_getElem? (i := 99) rfl) rfl
theorem tw_2_100 : (Jvm.Cond.code ({ cls := "PromotedNumbers$Grammar", name := "behindOperator", desc := "(C)I" } : Jvm.MethodName) prog_5_method_5_code (3 : Nat) (Option.some Jvm.ClassFile.FieldType.int)) ∈ go_T := go_t2 (List.mem_of_getElem? (i := 100) rfl) rfl
theorem tw_2_102 : (Jvm.Cond.methodLink "PromotedNumbers$Grammar" (45 : Nat) ({ cls := "java/lang/String", name := "indexOf", desc := "(I)I" } : Jvm.MethodName)) ∈ go_T := go_t2 (List.mem_of_getElem? (i := 102) rfl) rfl
theorem tw_2_103 : (Jvm.Cond.instanceMethod ({ cls := "java/lang/String", name := "indexOf", desc := "(I)I" } : Jvm.MethodName)) ∈ go_T := go_t2 (List.mem_of_getElem? (i := 103) rfl) rfl
theorem tw_2_104 : (Jvm.Cond.selects "java/lang/String" ({ cls := "java/lang/String", name := "indexOf", desc := "(I)I" } : Jvm.MethodName) ({ cls := "java/lang/String", name := "indexOf", desc := "(I)I" } : Jvm.MethodName)) ∈ go_T := go_t2 (List.mem_of_getElem? (i := 104) rfl) rfl
theorem tw_2_105 : (Jvm.Cond.code ({ cls := "java/lang/String", name := "indexOf", desc := "(I)I" } : Jvm.MethodName) prog_20_method_79_code (2 : Nat) (Option.some Jvm.ClassFile.FieldType.int)) ∈ go_T := go_t2 (List.mem_of_getElem? (i := 105) rfl) rfl
theorem tw_2_106 : (Jvm.Cond.methodLink "java/lang/String" (633 : Nat) ({ cls := "java/lang/String", name := "indexOf", desc := "(II)I" } : Jvm.MethodName)) ∈ go_T := go_t2 (List.mem_of_getElem? (i := 106) rfl) rfl
theorem tw_2_107 : (Jvm.Cond.instanceMethod ({ cls := "java/lang/String", name := "indexOf", desc := "(II)I" } : Jvm.MethodName)) ∈ go_T := go_t2 (List.mem_of_getElem? (i := 107) rfl) rfl
theorem tw_2_108 : (Jvm.Cond.selects "java/lang/String" ({ cls := "java/lang/String", name := "indexOf", desc := "(II)I" } : Jvm.MethodName) ({ cls := "java/lang/String", name := "indexOf", desc := "(II)I" } : Jvm.MethodName)) ∈ go_T := go_t2 (List.mem_of_getElem? (i := 108) rfl) rfl
theorem tw_2_109 : (Jvm.Cond.code ({ cls := "java/lang/String", name := "indexOf", desc := "(II)I" } : Jvm.MethodName) prog_20_method_80_code (3 : Nat) (Option.some Jvm.ClassFile.FieldType.int)) ∈ go_T := go_t2 (List.mem_of_getElem? (i := 109) rfl) rfl
theorem tw_2_110 : (Jvm.Cond.methodLink "java/lang/String" (492 : Nat) ({ cls := "java/lang/String", name := "isLatin1", desc := "()Z" } : Jvm.MethodName)) ∈ go_T := go_t2 (List.mem_of_getElem? (i := 110) rfl) rfl
theorem tw_2_111 : (Jvm.Cond.instanceMethod ({ cls := "java/lang/String", name := "isLatin1", desc := "()Z" } : Jvm.MethodName)) ∈ go_T := go_t2 (List.mem_of_getElem? (i := 111) rfl) rfl
theorem tw_2_112 : (Jvm.Cond.selects "java/lang/String" ({ cls := "java/lang/String", name := "isLatin1", desc := "()Z" } : Jvm.MethodName) ({ cls := "java/lang/String", name := "isLatin1", desc := "()Z" } : Jvm.MethodName)) ∈ go_T := go_t2 (List.mem_of_getElem? (i := 112) rfl) rfl
theorem tw_2_113 : (Jvm.Cond.code ({ cls := "java/lang/String", name := "isLatin1", desc := "()Z" } : Jvm.MethodName) prog_20_method_154_code (1 : Nat) (Option.some Jvm.ClassFile.FieldType.boolean)) ∈ go_T := go_t2 (List.mem_of_getElem? (i := 113) rfl) rfl
theorem tw_2_114 : (Jvm.Cond.fieldLink "java/lang/String" (38 : Nat) "java/lang/String" "COMPACT_STRINGS" "Z") ∈ go_T := go_t2 (List.mem_of_getElem? (i := 114) rfl) rfl
theorem tw_2_116 : (Jvm.Cond.methodLink "java/lang/String" (505 : Nat) ({ cls := "java/lang/String", name := "length", desc := "()I" } : Jvm.MethodName)) ∈ go_T := go_t2 (List.mem_of_getElem? (i := 116) rfl) rfl
theorem tw_2_117 : (Jvm.Cond.instanceMethod ({ cls := "java/lang/String", name := "length", desc := "()I" } : Jvm.MethodName)) ∈ go_T := go_t2 (List.mem_of_getElem? (i := 117) rfl) rfl
theorem tw_2_118 : (Jvm.Cond.selects "java/lang/String" ({ cls := "java/lang/String", name := "length", desc := "()I" } : Jvm.MethodName) ({ cls := "java/lang/String", name := "length", desc := "()I" } : Jvm.MethodName)) ∈ go_T := go_t2 (List.mem_of_getElem? (i := 118) rfl) rfl
theorem tw_2_119 : (Jvm.Cond.code ({ cls := "java/lang/String", name := "length", desc := "()I" } : Jvm.MethodName) prog_20_method_54_code (1 : Nat) (Option.some Jvm.ClassFile.FieldType.int)) ∈ go_T := go_t2 (List.mem_of_getElem? (i := 119) rfl) rfl
theorem tw_2_120 : (Jvm.Cond.methodLink "java/lang/String" (335 : Nat) ({ cls := "java/lang/String", name := "coder", desc := "()B" } : Jvm.MethodName)) ∈ go_T := go_t2 (List.mem_of_getElem? (i := 120) rfl) rfl
theorem tw_2_121 : (Jvm.Cond.instanceMethod ({ cls := "java/lang/String", name := "coder", desc := "()B" } : Jvm.MethodName)) ∈ go_T := go_t2 (List.mem_of_getElem? (i := 121) rfl) rfl
theorem tw_2_122 : (Jvm.Cond.selects "java/lang/String" ({ cls := "java/lang/String", name := "coder", desc := "()B" } : Jvm.MethodName) ({ cls := "java/lang/String", name := "coder", desc := "()B" } : Jvm.MethodName)) ∈ go_T := go_t2 (List.mem_of_getElem? (i := 122) rfl) rfl
theorem tw_2_123 : (Jvm.Cond.code ({ cls := "java/lang/String", name := "coder", desc := "()B" } : Jvm.MethodName) prog_20_method_152_code (1 : Nat) (Option.some Jvm.ClassFile.FieldType.byte)) ∈ go_T := go_t2 (List.mem_of_getElem? (i := 123) rfl) rfl
theorem tw_2_124 : (Jvm.Cond.methodLink "java/lang/String" (637 : Nat) ({ cls := "java/lang/StringLatin1", name := "indexOf", desc := "([BIII)I" } : Jvm.MethodName)) ∈ go_T := go_t2 (List.mem_of_getElem? (i := 124) rfl) rfl
theorem tw_2_125 : (Jvm.Cond.static ({ cls := "java/lang/StringLatin1", name := "indexOf", desc := "([BIII)I" } : Jvm.MethodName)) ∈ go_T := go_t2 (List.mem_of_getElem? (i := 125) rfl) rfl
theorem tw_2_126 : (Jvm.Cond.code ({ cls := "java/lang/StringLatin1", name := "indexOf", desc := "([BIII)I" } : Jvm.MethodName) prog_21_method_22_code (4 : Nat) (Option.some Jvm.ClassFile.FieldType.int)) ∈ go_T := go_t2 (List.mem_of_getElem? (i := 126) rfl) rfl
theorem tw_2_127 : (Jvm.Cond.methodLink "java/lang/StringLatin1" (88 : Nat) ({ cls := "java/lang/StringLatin1", name := "canEncode", desc := "(I)Z" } : Jvm.MethodName)) ∈ go_T := go_t2 (List.mem_of_getElem? (i := 127) rfl) rfl
theorem tw_2_128 : (Jvm.Cond.static ({ cls := "java/lang/StringLatin1", name := "canEncode", desc := "(I)Z" } : Jvm.MethodName)) ∈ go_T := go_t2 (List.mem_of_getElem? (i := 128) rfl) rfl
theorem tw_2_129 : (Jvm.Cond.code ({ cls := "java/lang/StringLatin1", name := "canEncode", desc := "(I)Z" } : Jvm.MethodName) prog_21_method_4_code (1 : Nat) (Option.some Jvm.ClassFile.FieldType.boolean)) ∈ go_T := go_t2 (List.mem_of_getElem? (i := 129) rfl) rfl
theorem tw_2_130 : (Jvm.Cond.methodLink "java/lang/StringLatin1" (92 : Nat) ({ cls := "java/lang/Math", name := "max", desc := "(II)I" } : Jvm.MethodName)) ∈ go_T := go_t2 (List.mem_of_getElem? (i := 130) rfl) rfl
theorem tw_2_131 : (Jvm.Cond.static ({ cls := "java/lang/Math", name := "max", desc := "(II)I" } : Jvm.MethodName)) ∈ go_T := go_t2 (List.mem_of_getElem? (i := 131) rfl) rfl
theorem tw_2_132 : (Jvm.Cond.code ({ cls := "java/lang/Math", name := "max", desc := "(II)I" } : Jvm.MethodName) prog_18_method_65_code (2 : Nat) (Option.some Jvm.ClassFile.FieldType.int)) ∈ go_T := go_t2 (List.mem_of_getElem? (i := 132) rfl) rfl
theorem tw_2_133 : (Jvm.Cond.methodLink "java/lang/StringLatin1" (38 : Nat) ({ cls := "java/lang/Math", name := "min", desc := "(II)I" } : Jvm.MethodName)) ∈ go_T := go_t2 (List.mem_of_getElem? (i := 133) rfl) rfl
theorem tw_2_134 : (Jvm.Cond.static ({ cls := "java/lang/Math", name := "min", desc := "(II)I" } : Jvm.MethodName)) ∈ go_T := go_t2 (List.mem_of_getElem? (i := 134) rfl) rfl
theorem tw_2_135 : (Jvm.Cond.code ({ cls := "java/lang/Math", name := "min", desc := "(II)I" } : Jvm.MethodName) prog_18_method_69_code (2 : Nat) (Option.some Jvm.ClassFile.FieldType.int)) ∈ go_T := go_t2 (List.mem_of_getElem? (i := 135) rfl) rfl
theorem tw_2_136 : (Jvm.Cond.methodLink "java/lang/StringLatin1" (95 : Nat) ({ cls := "java/lang/StringLatin1", name := "indexOfChar", desc := "([BIII)I" } : Jvm.MethodName)) ∈ go_T := go_t2 (List.mem_of_getElem? (i := 136) rfl) rfl
theorem tw_2_137 : (Jvm.Cond.static ({ cls := "java/lang/StringLatin1", name := "indexOfChar", desc := "([BIII)I" } : Jvm.MethodName)) ∈ go_T := go_t2 (List.mem_of_getElem? (i := 137) rfl) rfl
theorem tw_2_138 : (Jvm.Cond.code ({ cls := "java/lang/StringLatin1", name := "indexOfChar", desc := "([BIII)I" } : Jvm.MethodName) prog_21_method_23_code (6 : Nat) (Option.some Jvm.ClassFile.FieldType.int)) ∈ go_T := go_t2 (List.mem_of_getElem? (i := 138) rfl) rfl
theorem tw_2_139 : (Jvm.Cond.methodLink "java/lang/String" (640 : Nat) ({ cls := "java/lang/StringUTF16", name := "indexOf", desc := "([BIII)I" } : Jvm.MethodName)) ∈ go_T := go_t2 (List.mem_of_getElem? (i := 139) rfl) rfl
theorem tw_2_140 : (Jvm.Cond.static ({ cls := "java/lang/StringUTF16", name := "indexOf", desc := "([BIII)I" } : Jvm.MethodName)) ∈ go_T := go_t2 (List.mem_of_getElem? (i := 140) rfl) rfl
theorem tw_2_141 : (Jvm.Cond.code ({ cls := "java/lang/StringUTF16", name := "indexOf", desc := "([BIII)I" } : Jvm.MethodName) prog_22_method_40_code (4 : Nat) (Option.some Jvm.ClassFile.FieldType.int)) ∈ go_T := go_t2 (List.mem_of_getElem? (i := 141) rfl) rfl
theorem tw_2_142 : (Jvm.Cond.methodLink "java/lang/StringUTF16" (224 : Nat) ({ cls := "java/lang/Math", name := "max", desc := "(II)I" } : Jvm.MethodName)) ∈ go_T := go_t2 (List.mem_of_getElem? (i := 142) rfl) rfl
theorem tw_2_143 : (Jvm.Cond.methodLink "java/lang/StringUTF16" (183 : Nat) ({ cls := "java/lang/Math", name := "min", desc := "(II)I" } : Jvm.MethodName)) ∈ go_T := go_t2 (List.mem_of_getElem? (i := 143) rfl) rfl
theorem tw_2_144 : (Jvm.Cond.constant "java/lang/StringUTF16" (227 : Nat) (65536 : Int32)) ∈ go_T := go_t2 (List.mem_of_getElem? (i := 144) rfl) rfl
theorem tw_2_145 : (Jvm.Cond.methodLink "java/lang/StringUTF16" (228 : Nat) ({ cls := "java/lang/StringUTF16", name := "indexOfChar", desc := "([BIII)I" } : Jvm.MethodName)) ∈ go_T := go_t2 (List.mem_of_getElem? (i := 145) rfl) rfl
theorem tw_2_146 : (Jvm.Cond.static ({ cls := "java/lang/StringUTF16", name := "indexOfChar", desc := "([BIII)I" } : Jvm.MethodName)) ∈ go_T := go_t2 (List.mem_of_getElem? (i := 146) rfl) rfl
theorem tw_2_147 : (Jvm.Cond.code ({ cls := "java/lang/StringUTF16", name := "indexOfChar", desc := "([BIII)I" } : Jvm.MethodName) prog_22_method_47_code (4 : Nat) (Option.some Jvm.ClassFile.FieldType.int)) ∈ go_T := go_t2 (List.mem_of_getElem? (i := 147) rfl) rfl
theorem tw_2_148 : (Jvm.Cond.methodLink "java/lang/StringUTF16" (96 : Nat) ({ cls := "java/lang/StringUTF16", name := "checkBoundsBeginEnd", desc := "(II[B)V" } : Jvm.MethodName)) ∈ go_T := go_t2 (List.mem_of_getElem? (i := 148) rfl) rfl
theorem tw_2_149 : (Jvm.Cond.static ({ cls := "java/lang/StringUTF16", name := "checkBoundsBeginEnd", desc := "(II[B)V" } : Jvm.MethodName)) ∈ go_T := go_t2 (List.mem_of_getElem? (i := 149) rfl) rfl
theorem tw_2_150 : (Jvm.Cond.code ({ cls := "java/lang/StringUTF16", name := "checkBoundsBeginEnd", desc := "(II[B)V" } : Jvm.MethodName) prog_22_method_93_code (3 : Nat) (Option.none : Option Jvm.ClassFile.FieldType)) ∈ go_T := go_t2 (List.mem_of_getElem? (i := 150) rfl) rfl
theorem tw_2_151 : (Jvm.Cond.methodLink "java/lang/StringUTF16" (48 : Nat) ({ cls := "java/lang/StringUTF16", name := "length", desc := "([B)I" } : Jvm.MethodName)) ∈ go_T := go_t2 (List.mem_of_getElem? (i := 151) rfl) rfl
theorem tw_2_152 : (Jvm.Cond.static ({ cls := "java/lang/StringUTF16", name := "length", desc := "([B)I" } : Jvm.MethodName)) ∈ go_T := go_t2 (List.mem_of_getElem? (i := 152) rfl) rfl
theorem tw_2_153 : (Jvm.Cond.code ({ cls := "java/lang/StringUTF16", name := "length", desc := "([B)I" } : Jvm.MethodName) prog_22_method_6_code (1 : Nat) (Option.some Jvm.ClassFile.FieldType.int)) ∈ go_T := go_t2 (List.mem_of_getElem? (i := 153) rfl) rfl
theorem tw_2_154 : (Jvm.Cond.methodLink "java/lang/StringUTF16" (241 : Nat) ({ cls := "java/lang/String", name := "checkBoundsBeginEnd", desc := "(III)V" } : Jvm.MethodName)) ∈ go_T := go_t2 (List.mem_of_getElem? (i := 154) rfl) rfl
theorem tw_2_155 : (Jvm.Cond.static ({ cls := "java/lang/String", name := "checkBoundsBeginEnd", desc := "(III)V" } : Jvm.MethodName)) ∈ go_T := go_t2 (List.mem_of_getElem? (i := 155) rfl) rfl
theorem tw_2_156 : (Jvm.Cond.code ({ cls := "java/lang/String", name := "checkBoundsBeginEnd", desc := "(III)V" } : Jvm.MethodName) prog_20_method_158_code (3 : Nat) (Option.none : Option Jvm.ClassFile.FieldType)) ∈ go_T := go_t2 (List.mem_of_getElem? (i := 156) rfl) rfl
theorem tw_2_157 : (Jvm.Cond.fieldLink "java/lang/String" (1053 : Nat) "jdk/internal/util/Preconditions" "SIOOBE_FORMATTER" "Ljava/util/function/BiFunction;") ∈ go_T := go_t2 (List.mem_of_getElem? (i := 157) rfl) rfl
theorem tw_2_159 : (Jvm.Cond.methodLink "java/lang/String" (1062 : Nat) ({ cls := "jdk/internal/util/Preconditions", name := "checkFromToIndex", desc := "(IIILjava/util/function/BiFunction;)I" } : Jvm.MethodName)) ∈ go_T := go_t2 (List.mem_of_getElem? (i := 159) rfl) rfl
theorem tw_2_160 : (Jvm.Cond.static ({ cls := "jdk/internal/util/Preconditions", name := "checkFromToIndex", desc := "(IIILjava/util/function/BiFunction;)I" } : Jvm.MethodName)) ∈ go_T := go_t2 (List.mem_of_getElem? (i := 160) rfl) rfl
theorem tw_2_161 : (Jvm.Cond.code ({ cls := "jdk/internal/util/Preconditions", name := "checkFromToIndex", desc := "(IIILjava/util/function/BiFunction;)I" } : Jvm.MethodName) prog_26_method_12_code (4 : Nat) (Option.some Jvm.ClassFile.FieldType.int)) ∈ go_T := go_t2 (List.mem_of_getElem? (i := 161) rfl) rfl
theorem tw_2_162 : (Jvm.Cond.methodLink "java/lang/StringUTF16" (244 : Nat) ({ cls := "java/lang/StringUTF16", name := "indexOfCharUnsafe", desc := "([BIII)I" } : Jvm.MethodName)) ∈ go_T := go_t2 (List.mem_of_getElem? (i := 162) rfl) rfl
theorem tw_2_163 : (Jvm.Cond.static ({ cls := "java/lang/StringUTF16", name := "indexOfCharUnsafe", desc := "([BIII)I" } : Jvm.MethodName)) ∈ go_T := go_t2 (List.mem_of_getElem? (i := 163) rfl) rfl
theorem tw_2_164 : (Jvm.Cond.code ({ cls := "java/lang/StringUTF16", name := "indexOfCharUnsafe", desc := "([BIII)I" } : Jvm.MethodName) prog_22_method_48_code (5 : Nat) (Option.some Jvm.ClassFile.FieldType.int)) ∈ go_T := go_t2 (List.mem_of_getElem? (i := 164) rfl) rfl
theorem tw_2_165 : (Jvm.Cond.methodLink "java/lang/StringUTF16" (71 : Nat) ({ cls := "java/lang/StringUTF16", name := "getChar", desc := "([BI)C" } : Jvm.MethodName)) ∈ go_T := go_t2 (List.mem_of_getElem? (i := 165) rfl) rfl
theorem tw_2_166 : (Jvm.Cond.static ({ cls := "java/lang/StringUTF16", name := "getChar", desc := "([BI)C" } : Jvm.MethodName)) ∈ go_T := go_t2 (List.mem_of_getElem? (i := 166) rfl) rfl
theorem tw_2_167 : (Jvm.Cond.code ({ cls := "java/lang/StringUTF16", name := "getChar", desc := "([BI)C" } : Jvm.MethodName) prog_22_method_5_code (2 : Nat) (Option.some Jvm.ClassFile.FieldType.char)) ∈ go_T := go_t2 (List.mem_of_getElem? (i := 167) rfl) rfl
theorem tw_2_168 : (Jvm.Cond.fieldLink "java/lang/StringUTF16" (44 : Nat) "java/lang/StringUTF16" "$assertionsDisabled" "Z") ∈ go_T := go_t2 (List.mem_of_getElem? (i := 168) rfl) rfl
theorem tw_2_170 : (Jvm.Cond.fieldLink "java/lang/StringUTF16" (59 : Nat) "java/lang/StringUTF16" "HI_BYTE_SHIFT" "I") ∈ go_T := go_t2 (List.mem_of_getElem? (i := 170) rfl) rfl
theorem tw_2_172 : (Jvm.Cond.fieldLink "java/lang/StringUTF16" (63 : Nat) "java/lang/StringUTF16" "LO_BYTE_SHIFT" "I") ∈ go_T := go_t2 (List.mem_of_getElem? (i := 172) rfl) rfl
theorem tw_2_174 : (Jvm.Cond.methodLink "java/lang/StringUTF16" (232 : Nat) ({ cls := "java/lang/StringUTF16", name := "indexOfSupplementary", desc := "([BIII)I" } : Jvm.MethodName)) ∈ go_T := go_t2 (List.mem_of_getElem? (i := 174) rfl) rfl
theorem tw_2_175 : (Jvm.Cond.static ({ cls := "java/lang/StringUTF16", name := "indexOfSupplementary", desc := "([BIII)I" } : Jvm.MethodName)) ∈ go_T := go_t2 (List.mem_of_getElem? (i := 175) rfl) rfl
theorem tw_2_176 : (Jvm.Cond.code ({ cls := "java/lang/StringUTF16", name := "indexOfSupplementary", desc := "([BIII)I" } : Jvm.MethodName) prog_22_method_49_code (7 : Nat) (Option.some Jvm.ClassFile.FieldType.int)) ∈ go_T := go_t2 (List.mem_of_getElem? (i := 176) rfl) rfl
theorem tw_2_177 : (Jvm.Cond.methodLink "java/lang/StringUTF16" (164 : Nat) ({ cls := "java/lang/Character", name := "isValidCodePoint", desc := "(I)Z" } : Jvm.MethodName)) ∈ go_T := go_t2 (List.mem_of_getElem? (i := 177) rfl) rfl
theorem tw_2_178 : (Jvm.Cond.static ({ cls := "java/lang/Character", name := "isValidCodePoint", desc := "(I)Z" } : Jvm.MethodName)) ∈ go_T := go_t2 (List.mem_of_getElem? (i := 178) rfl) rfl
theorem tw_2_179 : (Jvm.Cond.code ({ cls := "java/lang/Character", name := "isValidCodePoint", desc := "(I)Z" } : Jvm.MethodName) prog_12_method_11_code (2 : Nat) (Option.some Jvm.ClassFile.FieldType.boolean)) ∈ go_T := go_t2 (List.mem_of_getElem? (i := 179) rfl) rfl
theorem tw_2_180 : (Jvm.Cond.methodLink "java/lang/StringUTF16" (157 : Nat) ({ cls := "java/lang/Character", name := "highSurrogate", desc := "(I)C" } : Jvm.MethodName)) ∈ go_T := go_t2 (List.mem_of_getElem? (i := 180) rfl) rfl
theorem tw_2_181 : (Jvm.Cond.static ({ cls := "java/lang/Character", name := "highSurrogate", desc := "(I)C" } : Jvm.MethodName)) ∈ go_T := go_t2 (List.mem_of_getElem? (i := 181) rfl) rfl
theorem tw_2_182 : (Jvm.Cond.code ({ cls := "java/lang/Character", name := "highSurrogate", desc := "(I)C" } : Jvm.MethodName) prog_12_method_28_code (1 : Nat) (Option.some Jvm.ClassFile.FieldType.char)) ∈ go_T := go_t2 (List.mem_of_getElem? (i := 182) rfl) rfl
theorem tw_2_183 : (Jvm.Cond.constant "java/lang/Character" (110 : Nat) (55232 : Int32)) ∈ go_T := go_t2 (List.mem_of_getElem? (i := 183) rfl) rfl
theorem tw_2_184 : (Jvm.Cond.methodLink "java/lang/StringUTF16" (161 : Nat) ({ cls := "java/lang/Character", name := "lowSurrogate", desc := "(I)C" } : Jvm.MethodName)) ∈ go_T := go_t2 (List.mem_of_getElem? (i := 184) rfl) rfl
theorem tw_2_185 : (Jvm.Cond.static ({ cls := "java/lang/Character", name := "lowSurrogate", desc := "(I)C" } : Jvm.MethodName)) ∈ go_T := go_t2 (List.mem_of_getElem? (i := 185) rfl) rfl
theorem tw_2_186 : (Jvm.Cond.code ({ cls := "java/lang/Character", name := "lowSurrogate", desc := "(I)C" } : Jvm.MethodName) prog_12_method_29_code (1 : Nat) (Option.some Jvm.ClassFile.FieldType.char)) ∈ go_T := go_t2 (List.mem_of_getElem? (i := 186) rfl) rfl
theorem tw_2_187 : (Jvm.Cond.constant "java/lang/Character" (76 : Nat) (56320 : Int32)) ∈ go_T := go_t2 (List.mem_of_getElem? (i := 187) rfl) rfl
theorem tw_2_188 : (Jvm.Cond.methodLink "PromotedNumbers$Grammar" (37 : Nat) ({ cls := "PromotedNumbers$Grammar", name := "behindPart", desc := "(C)I" } : Jvm.MethodName)) ∈ go_T := go_t2 (List.mem_of_getElem? (i := 188) rfl) rfl
theorem tw_2_190 : (Jvm.Cond.instanceMethod ({ cls := "PromotedNumbers$Grammar", name := "behindPart", desc := "(C)I" } : Jvm.MethodName)) ∈ go_T := go_t2 (List.mem_of_getElem? (i := 190) rfl) rfl
theorem tw_2_191 : (Jvm.Cond.code ({ cls := "PromotedNumbers$Grammar", name := "behindPart", desc := "(C)I" } : Jvm.MethodName) prog_5_method_6_code (4 : Nat) (Option.some Jvm.ClassFile.FieldType.int)) ∈ go_T := go_t2 (List.mem_of_getElem? (i := 191) rfl) rfl
theorem tw_2_196 : (Jvm.Cond.classLink "PromotedNumbers" (122 : Nat) "java/lang/IllegalArgumentException") ∈ go_T := go_t2 (List.mem_of_getElem? (i := 196) rfl) rfl
theorem tw_2_197 : (Jvm.Cond.instantiable "java/lang/IllegalArgumentException" (6 : Nat)) ∈ go_T := go_t2 (List.mem_of_getElem? (i := 197) rfl) rfl
theorem tw_2_205 : (Jvm.Cond.selects "java/lang/IllegalArgumentException" ({ cls := "java/lang/Throwable", name := "fillInStackTrace", desc := "(I)Ljava/lang/Throwable;" } : Jvm.MethodName) ({ cls := "java/lang/Throwable", name := "fillInStackTrace", desc := "(I)Ljava/lang/Throwable;" } : Jvm.MethodName)) ∈ go_T := go_t2 (List.mem_of_getElem? (i := 205) rfl) rfl
theorem tw_2_206 : (Jvm.Cond.selects "java/lang/IllegalArgumentException" ({ cls := "java/lang/Throwable", name := "fillInStackTrace", desc := "()Ljava/lang/Throwable;" } : Jvm.MethodName) ({ cls := "java/lang/Throwable", name := "fillInStackTrace", desc := "()Ljava/lang/Throwable;" } : Jvm.MethodName)) ∈ go_T := go_t2 (List.mem_of_getElem? (i := 206) rfl) rfl
theorem tw_2_207 : (Jvm.Cond.lays "java/lang/IllegalArgumentException" "java/lang/Throwable" "cause" "Ljava/lang/Throwable;") ∈ go_T := go_t2 (List.mem_of_getElem? (i := 207) rfl) rfl
theorem tw_2_208 : (Jvm.Cond.lays "java/lang/Throwable" "java/lang/Throwable" "cause" "Ljava/lang/Throwable;") ∈ go_T := go_t2 (List.mem_of_getElem? (i := 208) rfl) rfl
theorem tw_2_209 : (Jvm.Cond.lays "java/lang/IllegalArgumentException" "java/lang/Throwable" "stackTrace" "[Ljava/lang/StackTraceElement;") ∈ go_T := go_t2 (List.mem_of_getElem? (i := 209) rfl) rfl
theorem tw_2_210 : (Jvm.Cond.lays "java/lang/Throwable" "java/lang/Throwable" "stackTrace" "[Ljava/lang/StackTraceElement;") ∈ go_T := go_t2 (List.mem_of_getElem? (i := 210) rfl) rfl
theorem tw_2_211 : (Jvm.Cond.lays "java/lang/IllegalArgumentException" "java/lang/Throwable" "suppressedExceptions" "Ljava/util/List;") ∈ go_T := go_t2 (List.mem_of_getElem? (i := 211) rfl) rfl
theorem tw_2_212 : (Jvm.Cond.lays "java/lang/Throwable" "java/lang/Throwable" "suppressedExceptions" "Ljava/util/List;") ∈ go_T := go_t2 (List.mem_of_getElem? (i := 212) rfl) rfl
theorem tw_2_213 : (Jvm.Cond.lays "java/lang/IllegalArgumentException" "java/lang/Throwable" "detailMessage" "Ljava/lang/String;") ∈ go_T := go_t2 (List.mem_of_getElem? (i := 213) rfl) rfl
theorem tw_2_214 : (Jvm.Cond.lays "java/lang/Throwable" "java/lang/Throwable" "detailMessage" "Ljava/lang/String;") ∈ go_T := go_t2 (List.mem_of_getElem? (i := 214) rfl) rfl
theorem tw_2_215 : (Jvm.Cond.lays "java/lang/IllegalArgumentException" "java/lang/Throwable" "backtrace" "Ljava/lang/Object;") ∈ go_T := go_t2 (List.mem_of_getElem? (i := 215) rfl) rfl
theorem tw_2_216 : (Jvm.Cond.lays "java/lang/Throwable" "java/lang/Throwable" "backtrace" "Ljava/lang/Object;") ∈ go_T := go_t2 (List.mem_of_getElem? (i := 216) rfl) rfl
theorem tw_2_217 : (Jvm.Cond.fieldLink "java/lang/Throwable" (198 : Nat) "java/lang/Throwable" "backtrace" "Ljava/lang/Object;") ∈ go_T := go_t2 (List.mem_of_getElem? (i := 217) rfl) rfl
theorem tw_2_218 : (Jvm.Cond.superclass "java/lang/Throwable" "java/lang/Object") ∈ go_T := go_t2 (List.mem_of_getElem? (i := 218) rfl) rfl
theorem tw_2_219 : (Jvm.Cond.instanceMethod ({ cls := "java/lang/Throwable", name := "<init>", desc := "()V" } : Jvm.MethodName)) ∈ go_T := go_t2 (List.mem_of_getElem? (i := 219) rfl) rfl
theorem tw_2_220 : (Jvm.Cond.code ({ cls := "java/lang/Throwable", name := "<init>", desc := "()V" } : Jvm.MethodName) prog_24_method_1_code (1 : Nat) (Option.none : Option Jvm.ClassFile.FieldType)) ∈ go_T := go_t2 (List.mem_of_getElem? (i := 220) rfl) rfl
theorem tw_2_221 : (Jvm.Cond.methodLink "java/lang/Throwable" (1 : Nat) ({ cls := "java/lang/Object", name := "<init>", desc := "()V" } : Jvm.MethodName)) ∈ go_T := go_t2 (List.mem_of_getElem? (i := 221) rfl) rfl
theorem tw_2_222 : (Jvm.Cond.fieldLink "java/lang/Throwable" (13 : Nat) "java/lang/Throwable" "UNASSIGNED_STACK" "[Ljava/lang/StackTraceElement;") ∈ go_T := go_t2 (List.mem_of_getElem? (i := 222) rfl) rfl
theorem tw_2_224 : (Jvm.Cond.fieldLink "java/lang/Throwable" (20 : Nat) "java/lang/Throwable" "SUPPRESSED_SENTINEL" "Ljava/util/List;") ∈ go_T := go_t2 (List.mem_of_getElem? (i := 224) rfl) rfl
theorem tw_2_226 : (Jvm.Cond.methodLink "java/lang/Throwable" (27 : Nat) ({ cls := "java/lang/Throwable", name := "fillInStackTrace", desc := "()Ljava/lang/Throwable;" } : Jvm.MethodName)) ∈ go_T := go_t2 (List.mem_of_getElem? (i := 226) rfl) rfl
theorem tw_2_227 : (Jvm.Cond.instanceMethod ({ cls := "java/lang/Throwable", name := "fillInStackTrace", desc := "()Ljava/lang/Throwable;" } : Jvm.MethodName)) ∈ go_T := go_t2 (List.mem_of_getElem? (i := 227) rfl) rfl
theorem tw_2_229 : (Jvm.Cond.selects "java/lang/ArithmeticException" ({ cls := "java/lang/Throwable", name := "fillInStackTrace", desc := "()Ljava/lang/Throwable;" } : Jvm.MethodName) ({ cls := "java/lang/Throwable", name := "fillInStackTrace", desc := "()Ljava/lang/Throwable;" } : Jvm.MethodName)) ∈ go_T := go_t2 (List.mem_of_getElem? (i := 229) rfl) rfl
theorem tw_2_230 : (Jvm.Cond.selects "java/lang/IllegalStateException" ({ cls := "java/lang/Throwable", name := "fillInStackTrace", desc := "()Ljava/lang/Throwable;" } : Jvm.MethodName) ({ cls := "java/lang/Throwable", name := "fillInStackTrace", desc := "()Ljava/lang/Throwable;" } : Jvm.MethodName)) ∈ go_T := go_t2 (List.mem_of_getElem? (i := 230) rfl) rfl
theorem tw_2_231 : (Jvm.Cond.selects "java/lang/IndexOutOfBoundsException" ({ cls := "java/lang/Throwable", name := "fillInStackTrace", desc := "()Ljava/lang/Throwable;" } : Jvm.MethodName) ({ cls := "java/lang/Throwable", name := "fillInStackTrace", desc := "()Ljava/lang/Throwable;" } : Jvm.MethodName)) ∈ go_T := go_t2 (List.mem_of_getElem? (i := 231) rfl) rfl
theorem tw_2_232 : (Jvm.Cond.selects "java/lang/UnsupportedOperationException" ({ cls := "java/lang/Throwable", name := "fillInStackTrace", desc := "()Ljava/lang/Throwable;" } : Jvm.MethodName) ({ cls := "java/lang/Throwable", name := "fillInStackTrace", desc := "()Ljava/lang/Throwable;" } : Jvm.MethodName)) ∈ go_T := go_t2 (List.mem_of_getElem? (i := 232) rfl) rfl
theorem tw_2_234 : (Jvm.Cond.methodLink "java/lang/Throwable" (202 : Nat) ({ cls := "java/lang/Throwable", name := "fillInStackTrace", desc := "(I)Ljava/lang/Throwable;" } : Jvm.MethodName)) ∈ go_T := go_t2 (List.mem_of_getElem? (i := 234) rfl) rfl
theorem tw_2_236 : (Jvm.Cond.instanceMethod ({ cls := "java/lang/Throwable", name := "fillInStackTrace", desc := "(I)Ljava/lang/Throwable;" } : Jvm.MethodName)) ∈ go_T := go_t2 (List.mem_of_getElem? (i := 236) rfl) rfl
theorem tw_2_237 : (Jvm.Cond.instantiable "java/lang/Throwable" (6 : Nat)) ∈ go_T := go_t2 (List.mem_of_getElem? (i := 237) rfl) rfl
theorem tw_2_238 : (Jvm.Cond.native ({ cls := "java/lang/Throwable", name := "fillInStackTrace", desc := "(I)Ljava/lang/Throwable;" } : Jvm.MethodName)) ∈ go_T := go_t2 (List.mem_of_getElem? (i := 238) rfl) rfl
theorem tw_2_239 : (Jvm.Cond.methodLink "PromotedNumbers" (124 : Nat) ({ cls := "java/lang/IllegalArgumentException", name := "<init>", desc := "()V" } : Jvm.MethodName)) ∈ go_T := go_t2 (List.mem_of_getElem? (i := 239) rfl) rfl
theorem tw_3_0 : (Jvm.Cond.instanceMethod ({ cls := "java/lang/IllegalArgumentException", name := "<init>", desc := "()V" } : Jvm.MethodName)) ∈ go_T := go_t3 (List.mem_of_getElem? (i := 0) rfl) rfl
theorem tw_3_1 : (Jvm.Cond.code ({ cls := "java/lang/IllegalArgumentException", name := "<init>", desc := "()V" } : Jvm.MethodName) prog_14_method_1_code (1 : Nat) (Option.none : Option Jvm.ClassFile.FieldType)) ∈ go_T := go_t3 (List.mem_of_getElem? (i := 1) rfl) rfl
theorem tw_3_2 : (Jvm.Cond.methodLink "java/lang/IllegalArgumentException" (1 : Nat) ({ cls := "java/lang/RuntimeException", name := "<init>", desc := "()V" } : Jvm.MethodName)) ∈ go_T := go_t3 (List.mem_of_getElem? (i := 2) rfl) rfl
theorem tw_3_3 : (Jvm.Cond.instanceMethod ({ cls := "java/lang/RuntimeException", name := "<init>", desc := "()V" } : Jvm.MethodName)) ∈ go_T := go_t3 (List.mem_of_getElem? (i := 3) rfl) rfl
theorem tw_3_4 : (Jvm.Cond.code ({ cls := "java/lang/RuntimeException", name := "<init>", desc := "()V" } : Jvm.MethodName) prog_19_method_1_code (1 : Nat) (Option.none : Option Jvm.ClassFile.FieldType)) ∈ go_T := go_t3 (List.mem_of_getElem? (i := 4) rfl) rfl
theorem tw_3_5 : (Jvm.Cond.methodLink "java/lang/RuntimeException" (1 : Nat) ({ cls := "java/lang/Exception", name := "<init>", desc := "()V" } : Jvm.MethodName)) ∈ go_T := go_t3 (List.mem_of_getElem? (i := 5) rfl) rfl
theorem tw_3_6 : (Jvm.Cond.instanceMethod ({ cls := "java/lang/Exception", name := "<init>", desc := "()V" } : Jvm.MethodName)) ∈ go_T := go_t3 (List.mem_of_getElem? (i := 6) rfl) rfl
theorem tw_3_7 : (Jvm.Cond.code ({ cls := "java/lang/Exception", name := "<init>", desc := "()V" } : Jvm.MethodName) prog_13_method_1_code (1 : Nat) (Option.none : Option Jvm.ClassFile.FieldType)) ∈ go_T := go_t3 (List.mem_of_getElem? (i := 7) rfl) rfl
theorem tw_3_8 : (Jvm.Cond.methodLink "java/lang/Exception" (1 : Nat) ({ cls := "java/lang/Throwable", name := "<init>", desc := "()V" } : Jvm.MethodName)) ∈ go_T := go_t3 (List.mem_of_getElem? (i := 8) rfl) rfl
theorem tw_3_9 : (Jvm.Cond.fieldLink "java/lang/Throwable" (198 : Nat) "java/lang/Throwable" "backtrace" "Ljava/lang/Object;") ∈ go_T := go_t3 (List.mem_of_getElem? (i := 9) rfl) rfl
theorem tw_3_10 : (Jvm.Cond.fieldLink "java/lang/Throwable" (7 : Nat) "java/lang/Throwable" "cause" "Ljava/lang/Throwable;") ∈ go_T := go_t3 (List.mem_of_getElem? (i := 10) rfl) rfl
theorem tw_3_11 : (Jvm.Cond.fieldLink "java/lang/Throwable" (17 : Nat) "java/lang/Throwable" "stackTrace" "[Ljava/lang/StackTraceElement;") ∈ go_T := go_t3 (List.mem_of_getElem? (i := 11) rfl) rfl
theorem tw_3_12 : (Jvm.Cond.fieldLink "java/lang/Throwable" (24 : Nat) "java/lang/Throwable" "suppressedExceptions" "Ljava/util/List;") ∈ go_T := go_t3 (List.mem_of_getElem? (i := 12) rfl) rfl
theorem tw_3_17 : (Jvm.Cond.lays "java/lang/IllegalArgumentException" "java/lang/Throwable" "depth" "I") ∈ go_T := go_t3 (List.mem_of_getElem? (i := 17) rfl) rfl
theorem tw_3_20 : (Jvm.Cond.superclass "java/lang/IllegalArgumentException" "java/lang/RuntimeException") ∈ go_T := go_t3 (List.mem_of_getElem? (i := 20) rfl) rfl
theorem tw_3_21 : (Jvm.Cond.arrayClass Jvm.ClassFile.FieldType.byte) ∈ go_T := go_t3 (List.mem_of_getElem? (i := 21) rfl) rfl
theorem tw_3_22 : (Jvm.Cond.methodLink "PromotedNumbers" (55 : Nat) ({ cls := "PromotedNumbers$Machine", name := "workOut", desc := "([CI)I" } : Jvm.MethodName)) ∈ go_T := go_t3 (List.mem_of_getElem? (i := 22) rfl) rfl
theorem tw_3_23 : (Jvm.Cond.instanceMethod ({ cls := "PromotedNumbers$Machine", name := "workOut", desc := "([CI)I" } : Jvm.MethodName)) ∈ go_T := go_t3 (List.mem_of_getElem? (i := 23) rfl) rfl
theorem tw_3_24 : (Jvm.Cond.selects "PromotedNumbers$Machine" ({ cls := "PromotedNumbers$Machine", name := "workOut", desc := "([CI)I" } : Jvm.MethodName) ({ cls := "PromotedNumbers$Machine", name := "workOut", desc := "([CI)I" } : Jvm.MethodName)) ∈ go_T := go_t3 (List.mem_of_getElem? (i := 24) rfl) rfl
theorem tw_3_25 : (Jvm.Cond.code ({ cls := "PromotedNumbers$Machine", name := "workOut", desc := "([CI)I" } : Jvm.MethodName) prog_6_method_3_code (7 : Nat) (Option.some Jvm.ClassFile.FieldType.int)) ∈ go_T := go_t3 (List.mem_of_getElem? (i := 25) rfl) rfl
theorem tw_3_26 : (Jvm.Cond.methodLink "PromotedNumbers$Machine" (59 : Nat) ({ cls := "PromotedNumbers$Machine", name := "openBracket", desc := "(C)V" } : Jvm.MethodName)) ∈ go_T := go_t3 (List.mem_of_getElem? (i := 26) rfl) rfl
theorem tw_3_28 : (Jvm.Cond.instanceMethod ({ cls := "PromotedNumbers$Machine", name := "openBracket", desc := "(C)V" } : Jvm.MethodName)) ∈ go_T := go_t3 (List.mem_of_getElem? (i := 28) rfl) rfl
theorem tw_3_29 : (Jvm.Cond.code ({ cls := "PromotedNumbers$Machine", name := "openBracket", desc := "(C)V" } : Jvm.MethodName) prog_6_method_4_code (2 : Nat) (Option.none : Option Jvm.ClassFile.FieldType)) ∈ go_T := go_t3 (List.mem_of_getElem? (i := 29) rfl) rfl
theorem tw_3_30 : (Jvm.Cond.methodLink "PromotedNumbers$Machine" (63 : Nat) ({ cls := "PromotedNumbers$Machine", name := "raise", desc := "()I" } : Jvm.MethodName)) ∈ go_T := go_t3 (List.mem_of_getElem? (i := 30) rfl) rfl
theorem tw_3_32 : (Jvm.Cond.instanceMethod ({ cls := "PromotedNumbers$Machine", name := "raise", desc := "()I" } : Jvm.MethodName)) ∈ go_T := go_t3 (List.mem_of_getElem? (i := 32) rfl) rfl
theorem tw_3_33 : (Jvm.Cond.code ({ cls := "PromotedNumbers$Machine", name := "raise", desc := "()I" } : Jvm.MethodName) prog_6_method_9_code (6 : Nat) (Option.some Jvm.ClassFile.FieldType.int)) ∈ go_T := go_t3 (List.mem_of_getElem? (i := 33) rfl) rfl
theorem tw_3_34 : (Jvm.Cond.methodLink "PromotedNumbers$Machine" (117 : Nat) ({ cls := "PromotedNumbers$Whole", name := "limb", desc := "(I)I" } : Jvm.MethodName)) ∈ go_T := go_t3 (List.mem_of_getElem? (i := 34) rfl) rfl
theorem tw_3_35 : (Jvm.Cond.methodLink "PromotedNumbers$Machine" (121 : Nat) ({ cls := "PromotedNumbers$Fraction", name := "isWhole", desc := "()Z" } : Jvm.MethodName)) ∈ go_T := go_t3 (List.mem_of_getElem? (i := 35) rfl) rfl
theorem tw_3_36 : (Jvm.Cond.methodLink "PromotedNumbers$Machine" (105 : Nat) ({ cls := "PromotedNumbers$Fraction", name := "become", desc := "(I)V" } : Jvm.MethodName)) ∈ go_T := go_t3 (List.mem_of_getElem? (i := 36) rfl) rfl
theorem tw_3_37 : (Jvm.Cond.instanceMethod ({ cls := "PromotedNumbers$Fraction", name := "become", desc := "(I)V" } : Jvm.MethodName)) ∈ go_T := go_t3 (List.mem_of_getElem? (i := 37) rfl) rfl
theorem tw_3_38 : (Jvm.Cond.selects "PromotedNumbers$Fraction" ({ cls := "PromotedNumbers$Fraction", name := "become", desc := "(I)V" } : Jvm.MethodName) ({ cls := "PromotedNumbers$Fraction", name := "become", desc := "(I)V" } : Jvm.MethodName)) ∈ go_T := go_t3 (List.mem_of_getElem? (i := 38) rfl) rfl
theorem tw_3_39 : (Jvm.Cond.code ({ cls := "PromotedNumbers$Fraction", name := "become", desc := "(I)V" } : Jvm.MethodName) prog_4_method_2_code (2 : Nat) (Option.none : Option Jvm.ClassFile.FieldType)) ∈ go_T := go_t3 (List.mem_of_getElem? (i := 39) rfl) rfl
theorem tw_3_40 : (Jvm.Cond.methodLink "PromotedNumbers$Machine" (130 : Nat) ({ cls := "PromotedNumbers$Calculator", name := "multiply", desc := "(LPromotedNumbers$Fraction;LPromotedNumbers$Whole;LPromotedNumbers$Whole;Z)I" } : Jvm.MethodName)) ∈ go_T := go_t3 (List.mem_of_getElem? (i := 40) rfl) rfl
theorem tw_3_41 : (Jvm.Cond.instanceMethod ({ cls := "PromotedNumbers$Calculator", name := "multiply", desc := "(LPromotedNumbers$Fraction;LPromotedNumbers$Whole;LPromotedNumbers$Whole;Z)I" } : Jvm.MethodName)) ∈ go_T := go_t3 (List.mem_of_getElem? (i := 41) rfl) rfl
theorem tw_3_42 : (Jvm.Cond.selects "PromotedNumbers$Calculator" ({ cls := "PromotedNumbers$Calculator", name := "multiply", desc := "(LPromotedNumbers$Fraction;LPromotedNumbers$Whole;LPromotedNumbers$Whole;Z)I" } : Jvm.MethodName) ({ cls := "PromotedNumbers$Calculator", name := "multiply", desc := "(LPromotedNumbers$Fraction;LPromotedNumbers$Whole;LPromotedNumbers$Whole;Z)I" } : Jvm.MethodName)) ∈ go_T := go_t3 (List.mem_of_getElem? (i := 42) rfl) rfl
theorem tw_3_43 : (Jvm.Cond.code ({ cls := "PromotedNumbers$Calculator", name := "multiply", desc := "(LPromotedNumbers$Fraction;LPromotedNumbers$Whole;LPromotedNumbers$Whole;Z)I" } : Jvm.MethodName) prog_2_method_4_code (5 : Nat) (Option.some Jvm.ClassFile.FieldType.int)) ∈ go_T := go_t3 (List.mem_of_getElem? (i := 43) rfl) rfl
theorem tw_3_44 : (Jvm.Cond.methodLink "PromotedNumbers$Calculator" (47 : Nat) ({ cls := "PromotedNumbers$Divider", name := "findGreatest", desc := "(LPromotedNumbers$Whole;LPromotedNumbers$Whole;LPromotedNumbers$Whole;)V" } : Jvm.MethodName)) ∈ go_T := go_t3 (List.mem_of_getElem? (i := 44) rfl) rfl
theorem tw_3_45 : (Jvm.Cond.instanceMethod ({ cls := "PromotedNumbers$Divider", name := "findGreatest", desc := "(LPromotedNumbers$Whole;LPromotedNumbers$Whole;LPromotedNumbers$Whole;)V" } : Jvm.MethodName)) ∈ go_T := go_t3 (List.mem_of_getElem? (i := 45) rfl) rfl
theorem tw_3_46 : (Jvm.Cond.selects "PromotedNumbers$Divider" ({ cls := "PromotedNumbers$Divider", name := "findGreatest", desc := "(LPromotedNumbers$Whole;LPromotedNumbers$Whole;LPromotedNumbers$Whole;)V" } : Jvm.MethodName) ({ cls := "PromotedNumbers$Divider", name := "findGreatest", desc := "(LPromotedNumbers$Whole;LPromotedNumbers$Whole;LPromotedNumbers$Whole;)V" } : Jvm.MethodName)) ∈ go_T := go_t3 (List.mem_of_getElem? (i := 46) rfl) rfl
theorem tw_3_47 : (Jvm.Cond.code ({ cls := "PromotedNumbers$Divider", name := "findGreatest", desc := "(LPromotedNumbers$Whole;LPromotedNumbers$Whole;LPromotedNumbers$Whole;)V" } : Jvm.MethodName) prog_3_method_5_code (10 : Nat) (Option.none : Option Jvm.ClassFile.FieldType)) ∈ go_T := go_t3 (List.mem_of_getElem? (i := 47) rfl) rfl
theorem tw_3_48 : (Jvm.Cond.methodLink "PromotedNumbers$Divider" (36 : Nat) ({ cls := "PromotedNumbers$Whole", name := "isZero", desc := "()Z" } : Jvm.MethodName)) ∈ go_T := go_t3 (List.mem_of_getElem? (i := 48) rfl) rfl
theorem tw_3_49 : (Jvm.Cond.methodLink "PromotedNumbers$Divider" (29 : Nat) ({ cls := "PromotedNumbers$Whole", name := "copy", desc := "(LPromotedNumbers$Whole;)V" } : Jvm.MethodName)) ∈ go_T := go_t3 (List.mem_of_getElem? (i := 49) rfl) rfl
theorem tw_3_50 : (Jvm.Cond.instanceMethod ({ cls := "PromotedNumbers$Whole", name := "copy", desc := "(LPromotedNumbers$Whole;)V" } : Jvm.MethodName)) ∈ go_T := go_t3 (List.mem_of_getElem? (i := 50) rfl) rfl
theorem tw_3_51 : (Jvm.Cond.selects "PromotedNumbers$Whole" ({ cls := "PromotedNumbers$Whole", name := "copy", desc := "(LPromotedNumbers$Whole;)V" } : Jvm.MethodName) ({ cls := "PromotedNumbers$Whole", name := "copy", desc := "(LPromotedNumbers$Whole;)V" } : Jvm.MethodName)) ∈ go_T := go_t3 (List.mem_of_getElem? (i := 51) rfl) rfl
theorem tw_3_52 : (Jvm.Cond.code ({ cls := "PromotedNumbers$Whole", name := "copy", desc := "(LPromotedNumbers$Whole;)V" } : Jvm.MethodName) prog_7_method_3_code (2 : Nat) (Option.none : Option Jvm.ClassFile.FieldType)) ∈ go_T := go_t3 (List.mem_of_getElem? (i := 52) rfl) rfl
theorem tw_3_53 : (Jvm.Cond.methodLink "PromotedNumbers$Whole" (19 : Nat) ({ cls := "java/lang/System", name := "arraycopy", desc := "(Ljava/lang/Object;ILjava/lang/Object;II)V" } : Jvm.MethodName)) ∈ go_T := go_t3 (List.mem_of_getElem? (i := 53) rfl) rfl
theorem tw_3_54 : (Jvm.Cond.static ({ cls := "java/lang/System", name := "arraycopy", desc := "(Ljava/lang/Object;ILjava/lang/Object;II)V" } : Jvm.MethodName)) ∈ go_T := go_t3 (List.mem_of_getElem? (i := 54) rfl) rfl
theorem tw_3_55 : (Jvm.Cond.native ({ cls := "java/lang/System", name := "arraycopy", desc := "(Ljava/lang/Object;ILjava/lang/Object;II)V" } : Jvm.MethodName)) ∈ go_T := go_t3 (List.mem_of_getElem? (i := 55) rfl) rfl
theorem tw_3_56 : (Jvm.Cond.methodLink "PromotedNumbers$Divider" (79 : Nat) ({ cls := "PromotedNumbers$Whole", name := "dropTwos", desc := "()I" } : Jvm.MethodName)) ∈ go_T := go_t3 (List.mem_of_getElem? (i := 56) rfl) rfl
theorem tw_3_57 : (Jvm.Cond.instanceMethod ({ cls := "PromotedNumbers$Whole", name := "dropTwos", desc := "()I" } : Jvm.MethodName)) ∈ go_T := go_t3 (List.mem_of_getElem? (i := 57) rfl) rfl
theorem tw_3_58 : (Jvm.Cond.selects "PromotedNumbers$Whole" ({ cls := "PromotedNumbers$Whole", name := "dropTwos", desc := "()I" } : Jvm.MethodName) ({ cls := "PromotedNumbers$Whole", name := "dropTwos", desc := "()I" } : Jvm.MethodName)) ∈ go_T := go_t3 (List.mem_of_getElem? (i := 58) rfl) rfl
theorem tw_3_59 : (Jvm.Cond.code ({ cls := "PromotedNumbers$Whole", name := "dropTwos", desc := "()I" } : Jvm.MethodName) prog_7_method_15_code (6 : Nat) (Option.some Jvm.ClassFile.FieldType.int)) ∈ go_T := go_t3 (List.mem_of_getElem? (i := 59) rfl) rfl
theorem tw_3_60 : (Jvm.Cond.methodLink "PromotedNumbers$Whole" (42 : Nat) ({ cls := "java/lang/Integer", name := "bitCount", desc := "(I)I" } : Jvm.MethodName)) ∈ go_T := go_t3 (List.mem_of_getElem? (i := 60) rfl) rfl
theorem tw_3_61 : (Jvm.Cond.static ({ cls := "java/lang/Integer", name := "bitCount", desc := "(I)I" } : Jvm.MethodName)) ∈ go_T := go_t3 (List.mem_of_getElem? (i := 61) rfl) rfl
theorem tw_3_62 : (Jvm.Cond.code ({ cls := "java/lang/Integer", name := "bitCount", desc := "(I)I" } : Jvm.MethodName) prog_17_method_49_code (1 : Nat) (Option.some Jvm.ClassFile.FieldType.int)) ∈ go_T := go_t3 (List.mem_of_getElem? (i := 62) rfl) rfl
theorem tw_3_63 : (Jvm.Cond.constant "java/lang/Integer" (265 : Nat) (1431655765 : Int32)) ∈ go_T := go_t3 (List.mem_of_getElem? (i := 63) rfl) rfl
theorem tw_3_64 : (Jvm.Cond.constant "java/lang/Integer" (266 : Nat) (858993459 : Int32)) ∈ go_T := go_t3 (List.mem_of_getElem? (i := 64) rfl) rfl
theorem tw_3_65 : (Jvm.Cond.constant "java/lang/Integer" (267 : Nat) (252645135 : Int32)) ∈ go_T := go_t3 (List.mem_of_getElem? (i := 65) rfl) rfl
theorem tw_3_66 : (Jvm.Cond.constant "PromotedNumbers$Whole" (35 : Nat) (1073741823 : Int32)) ∈ go_T := go_t3 (List.mem_of_getElem? (i := 66) rfl) rfl
theorem tw_3_67 : (Jvm.Cond.methodLink "PromotedNumbers$Whole" (36 : Nat) ({ cls := "PromotedNumbers$Whole", name := "cutTo", desc := "(I)V" } : Jvm.MethodName)) ∈ go_T := go_t3 (List.mem_of_getElem? (i := 67) rfl) rfl
theorem tw_3_68 : (Jvm.Cond.instanceMethod ({ cls := "PromotedNumbers$Whole", name := "cutTo", desc := "(I)V" } : Jvm.MethodName)) ∈ go_T := go_t3 (List.mem_of_getElem? (i := 68) rfl) rfl
theorem tw_3_69 : (Jvm.Cond.selects "PromotedNumbers$Whole" ({ cls := "PromotedNumbers$Whole", name := "cutTo", desc := "(I)V" } : Jvm.MethodName) ({ cls := "PromotedNumbers$Whole", name := "cutTo", desc := "(I)V" } : Jvm.MethodName)) ∈ go_T := go_t3 (List.mem_of_getElem? (i := 69) rfl) rfl
theorem tw_3_70 : (Jvm.Cond.code ({ cls := "PromotedNumbers$Whole", name := "cutTo", desc := "(I)V" } : Jvm.MethodName) prog_7_method_16_code (2 : Nat) (Option.none : Option Jvm.ClassFile.FieldType)) ∈ go_T := go_t3 (List.mem_of_getElem? (i := 70) rfl) rfl
theorem tw_3_71 : (Jvm.Cond.methodLink "PromotedNumbers$Divider" (83 : Nat) ({ cls := "java/lang/Math", name := "min", desc := "(II)I" } : Jvm.MethodName)) ∈ go_T := go_t3 (List.mem_of_getElem? (i := 71) rfl) rfl
theorem tw_3_72 : (Jvm.Cond.methodLink "PromotedNumbers$Divider" (40 : Nat) ({ cls := "PromotedNumbers$Whole", name := "compare", desc := "(LPromotedNumbers$Whole;)I" } : Jvm.MethodName)) ∈ go_T := go_t3 (List.mem_of_getElem? (i := 72) rfl) rfl
theorem tw_3_73 : (Jvm.Cond.instanceMethod ({ cls := "PromotedNumbers$Whole", name := "compare", desc := "(LPromotedNumbers$Whole;)I" } : Jvm.MethodName)) ∈ go_T := go_t3 (List.mem_of_getElem? (i := 73) rfl) rfl
theorem tw_3_74 : (Jvm.Cond.selects "PromotedNumbers$Whole" ({ cls := "PromotedNumbers$Whole", name := "compare", desc := "(LPromotedNumbers$Whole;)I" } : Jvm.MethodName) ({ cls := "PromotedNumbers$Whole", name := "compare", desc := "(LPromotedNumbers$Whole;)I" } : Jvm.MethodName)) ∈ go_T := go_t3 (List.mem_of_getElem? (i := 74) rfl) rfl
theorem tw_3_75 : (Jvm.Cond.code ({ cls := "PromotedNumbers$Whole", name := "compare", desc := "(LPromotedNumbers$Whole;)I" } : Jvm.MethodName) prog_7_method_9_code (3 : Nat) (Option.some Jvm.ClassFile.FieldType.int)) ∈ go_T := go_t3 (List.mem_of_getElem? (i := 75) rfl) rfl
theorem tw_3_76 : (Jvm.Cond.methodLink "PromotedNumbers$Divider" (86 : Nat) ({ cls := "PromotedNumbers$Whole", name := "isOne", desc := "()Z" } : Jvm.MethodName)) ∈ go_T := go_t3 (List.mem_of_getElem? (i := 76) rfl) rfl
theorem tw_3_77 : (Jvm.Cond.methodLink "PromotedNumbers$Divider" (89 : Nat) ({ cls := "PromotedNumbers$Whole", name := "subtract", desc := "(LPromotedNumbers$Whole;)V" } : Jvm.MethodName)) ∈ go_T := go_t3 (List.mem_of_getElem? (i := 77) rfl) rfl
theorem tw_3_78 : (Jvm.Cond.instanceMethod ({ cls := "PromotedNumbers$Whole", name := "subtract", desc := "(LPromotedNumbers$Whole;)V" } : Jvm.MethodName)) ∈ go_T := go_t3 (List.mem_of_getElem? (i := 78) rfl) rfl
theorem tw_3_79 : (Jvm.Cond.selects "PromotedNumbers$Whole" ({ cls := "PromotedNumbers$Whole", name := "subtract", desc := "(LPromotedNumbers$Whole;)V" } : Jvm.MethodName) ({ cls := "PromotedNumbers$Whole", name := "subtract", desc := "(LPromotedNumbers$Whole;)V" } : Jvm.MethodName)) ∈ go_T := go_t3 (List.mem_of_getElem? (i := 79) rfl) rfl
theorem tw_3_80 : (Jvm.Cond.code ({ cls := "PromotedNumbers$Whole", name := "subtract", desc := "(LPromotedNumbers$Whole;)V" } : Jvm.MethodName) prog_7_method_11_code (5 : Nat) (Option.none : Option Jvm.ClassFile.FieldType)) ∈ go_T := go_t3 (List.mem_of_getElem? (i := 80) rfl) rfl
theorem tw_3_81 : (Jvm.Cond.methodLink "PromotedNumbers$Divider" (53 : Nat) ({ cls := "PromotedNumbers$Whole", name := "timesPlus", desc := "(II)V" } : Jvm.MethodName)) ∈ go_T := go_t3 (List.mem_of_getElem? (i := 81) rfl) rfl
theorem tw_3_82 : (Jvm.Cond.instanceMethod ({ cls := "PromotedNumbers$Whole", name := "timesPlus", desc := "(II)V" } : Jvm.MethodName)) ∈ go_T := go_t3 (List.mem_of_getElem? (i := 82) rfl) rfl
theorem tw_3_83 : (Jvm.Cond.selects "PromotedNumbers$Whole" ({ cls := "PromotedNumbers$Whole", name := "timesPlus", desc := "(II)V" } : Jvm.MethodName) ({ cls := "PromotedNumbers$Whole", name := "timesPlus", desc := "(II)V" } : Jvm.MethodName)) ∈ go_T := go_t3 (List.mem_of_getElem? (i := 83) rfl) rfl
theorem tw_3_84 : (Jvm.Cond.code ({ cls := "PromotedNumbers$Whole", name := "timesPlus", desc := "(II)V" } : Jvm.MethodName) prog_7_method_13_code (8 : Nat) (Option.none : Option Jvm.ClassFile.FieldType)) ∈ go_T := go_t3 (List.mem_of_getElem? (i := 84) rfl) rfl
theorem tw_3_85 : (Jvm.Cond.constantLong "PromotedNumbers$Whole" (40 : Nat) (1073741823 : Int64)) ∈ go_T := go_t3 (List.mem_of_getElem? (i := 85) rfl) rfl
theorem tw_3_86 : (Jvm.Cond.methodLink "PromotedNumbers$Calculator" (51 : Nat) ({ cls := "PromotedNumbers$Divider", name := "divide", desc := "(LPromotedNumbers$Whole;LPromotedNumbers$Whole;LPromotedNumbers$Whole;)V" } : Jvm.MethodName)) ∈ go_T := go_t3 (List.mem_of_getElem? (i := 86) rfl) rfl
theorem tw_3_87 : (Jvm.Cond.instanceMethod ({ cls := "PromotedNumbers$Divider", name := "divide", desc := "(LPromotedNumbers$Whole;LPromotedNumbers$Whole;LPromotedNumbers$Whole;)V" } : Jvm.MethodName)) ∈ go_T := go_t3 (List.mem_of_getElem? (i := 87) rfl) rfl
theorem tw_3_88 : (Jvm.Cond.selects "PromotedNumbers$Divider" ({ cls := "PromotedNumbers$Divider", name := "divide", desc := "(LPromotedNumbers$Whole;LPromotedNumbers$Whole;LPromotedNumbers$Whole;)V" } : Jvm.MethodName) ({ cls := "PromotedNumbers$Divider", name := "divide", desc := "(LPromotedNumbers$Whole;LPromotedNumbers$Whole;LPromotedNumbers$Whole;)V" } : Jvm.MethodName)) ∈ go_T := go_t3 (List.mem_of_getElem? (i := 88) rfl) rfl
theorem tw_3_89 : (Jvm.Cond.code ({ cls := "PromotedNumbers$Divider", name := "divide", desc := "(LPromotedNumbers$Whole;LPromotedNumbers$Whole;LPromotedNumbers$Whole;)V" } : Jvm.MethodName) prog_3_method_2_code (6 : Nat) (Option.none : Option Jvm.ClassFile.FieldType)) ∈ go_T := go_t3 (List.mem_of_getElem? (i := 89) rfl) rfl
theorem tw_3_90 : (Jvm.Cond.methodLink "PromotedNumbers$Divider" (33 : Nat) ({ cls := "PromotedNumbers$Whole", name := "become", desc := "(I)V" } : Jvm.MethodName)) ∈ go_T := go_t3 (List.mem_of_getElem? (i := 90) rfl) rfl
theorem tw_3_91 : (Jvm.Cond.constant "PromotedNumbers$Divider" (44 : Nat) (1073741824 : Int32)) ∈ go_T := go_t3 (List.mem_of_getElem? (i := 91) rfl) rfl
theorem tw_3_92 : (Jvm.Cond.methodLink "PromotedNumbers$Divider" (57 : Nat) ({ cls := "PromotedNumbers$Divider", name := "takeAway", desc := "(I)I" } : Jvm.MethodName)) ∈ go_T := go_t3 (List.mem_of_getElem? (i := 92) rfl) rfl
theorem tw_3_94 : (Jvm.Cond.instanceMethod ({ cls := "PromotedNumbers$Divider", name := "takeAway", desc := "(I)I" } : Jvm.MethodName)) ∈ go_T := go_t3 (List.mem_of_getElem? (i := 94) rfl) rfl
theorem tw_3_95 : (Jvm.Cond.code ({ cls := "PromotedNumbers$Divider", name := "takeAway", desc := "(I)I" } : Jvm.MethodName) prog_3_method_3_code (12 : Nat) (Option.some Jvm.ClassFile.FieldType.int)) ∈ go_T := go_t3 (List.mem_of_getElem? (i := 95) rfl) rfl
theorem tw_3_96 : (Jvm.Cond.constantLong "PromotedNumbers$Divider" (67 : Nat) (1073741823 : Int64)) ∈ go_T := go_t3 (List.mem_of_getElem? (i := 96) rfl) rfl
theorem tw_3_97 : (Jvm.Cond.methodLink "PromotedNumbers$Divider" (69 : Nat) ({ cls := "java/lang/Math", name := "min", desc := "(JJ)J" } : Jvm.MethodName)) ∈ go_T := go_t3 (List.mem_of_getElem? (i := 97) rfl) rfl
theorem tw_3_98 : (Jvm.Cond.static ({ cls := "java/lang/Math", name := "min", desc := "(JJ)J" } : Jvm.MethodName)) ∈ go_T := go_t3 (List.mem_of_getElem? (i := 98) rfl) rfl
theorem tw_3_99 : (Jvm.Cond.code ({ cls := "java/lang/Math", name := "min", desc := "(JJ)J" } : Jvm.MethodName) prog_18_method_70_code (4 : Nat) (Option.some Jvm.ClassFile.FieldType.long)) ∈ go_T := go_t3 (List.mem_of_getElem? (i := 99) rfl) rfl
theorem tw_3_100 : (Jvm.Cond.methodLink "PromotedNumbers$Divider" (75 : Nat) ({ cls := "PromotedNumbers$Divider", name := "putBack", desc := "(I)I" } : Jvm.MethodName)) ∈ go_T := go_t3 (List.mem_of_getElem? (i := 100) rfl) rfl
theorem tw_3_102 : (Jvm.Cond.instanceMethod ({ cls := "PromotedNumbers$Divider", name := "putBack", desc := "(I)I" } : Jvm.MethodName)) ∈ go_T := go_t3 (List.mem_of_getElem? (i := 102) rfl) rfl
theorem tw_3_103 : (Jvm.Cond.code ({ cls := "PromotedNumbers$Divider", name := "putBack", desc := "(I)I" } : Jvm.MethodName) prog_3_method_4_code (5 : Nat) (Option.some Jvm.ClassFile.FieldType.int)) ∈ go_T := go_t3 (List.mem_of_getElem? (i := 103) rfl) rfl
theorem tw_3_104 : (Jvm.Cond.constant "PromotedNumbers$Divider" (78 : Nat) (1073741823 : Int32)) ∈ go_T := go_t3 (List.mem_of_getElem? (i := 104) rfl) rfl
theorem tw_3_105 : (Jvm.Cond.methodLink "PromotedNumbers$Divider" (61 : Nat) ({ cls := "PromotedNumbers$Whole", name := "cutTo", desc := "(I)V" } : Jvm.MethodName)) ∈ go_T := go_t3 (List.mem_of_getElem? (i := 105) rfl) rfl
theorem tw_3_106 : (Jvm.Cond.methodLink "PromotedNumbers$Divider" (64 : Nat) ({ cls := "PromotedNumbers$Whole", name := "divideBy", desc := "(I)I" } : Jvm.MethodName)) ∈ go_T := go_t3 (List.mem_of_getElem? (i := 106) rfl) rfl
theorem tw_3_107 : (Jvm.Cond.instanceMethod ({ cls := "PromotedNumbers$Whole", name := "divideBy", desc := "(I)I" } : Jvm.MethodName)) ∈ go_T := go_t3 (List.mem_of_getElem? (i := 107) rfl) rfl
theorem tw_3_108 : (Jvm.Cond.selects "PromotedNumbers$Whole" ({ cls := "PromotedNumbers$Whole", name := "divideBy", desc := "(I)I" } : Jvm.MethodName) ({ cls := "PromotedNumbers$Whole", name := "divideBy", desc := "(I)I" } : Jvm.MethodName)) ∈ go_T := go_t3 (List.mem_of_getElem? (i := 108) rfl) rfl
theorem tw_3_109 : (Jvm.Cond.code ({ cls := "PromotedNumbers$Whole", name := "divideBy", desc := "(I)I" } : Jvm.MethodName) prog_7_method_14_code (7 : Nat) (Option.some Jvm.ClassFile.FieldType.int)) ∈ go_T := go_t3 (List.mem_of_getElem? (i := 109) rfl) rfl
theorem tw_3_110 : (Jvm.Cond.methodLink "PromotedNumbers$Calculator" (57 : Nat) ({ cls := "PromotedNumbers$Whole", name := "becomeProduct", desc := "(LPromotedNumbers$Whole;LPromotedNumbers$Whole;)V" } : Jvm.MethodName)) ∈ go_T := go_t3 (List.mem_of_getElem? (i := 110) rfl) rfl
theorem tw_3_111 : (Jvm.Cond.instanceMethod ({ cls := "PromotedNumbers$Whole", name := "becomeProduct", desc := "(LPromotedNumbers$Whole;LPromotedNumbers$Whole;)V" } : Jvm.MethodName)) ∈ go_T := go_t3 (List.mem_of_getElem? (i := 111) rfl) rfl
theorem tw_3_112 : (Jvm.Cond.selects "PromotedNumbers$Whole" ({ cls := "PromotedNumbers$Whole", name := "becomeProduct", desc := "(LPromotedNumbers$Whole;LPromotedNumbers$Whole;)V" } : Jvm.MethodName) ({ cls := "PromotedNumbers$Whole", name := "becomeProduct", desc := "(LPromotedNumbers$Whole;LPromotedNumbers$Whole;)V" } : Jvm.MethodName)) ∈ go_T := go_t3 (List.mem_of_getElem? (i := 112) rfl) rfl
theorem tw_3_113 : (Jvm.Cond.code ({ cls := "PromotedNumbers$Whole", name := "becomeProduct", desc := "(LPromotedNumbers$Whole;LPromotedNumbers$Whole;)V" } : Jvm.MethodName) prog_7_method_12_code (11 : Nat) (Option.none : Option Jvm.ClassFile.FieldType)) ∈ go_T := go_t3 (List.mem_of_getElem? (i := 113) rfl) rfl
theorem tw_3_114 : (Jvm.Cond.methodLink "PromotedNumbers$Calculator" (69 : Nat) ({ cls := "PromotedNumbers$Calculator", name := "settleAt", desc := "(LPromotedNumbers$Fraction;ZLPromotedNumbers$Whole;)I" } : Jvm.MethodName)) ∈ go_T := go_t3 (List.mem_of_getElem? (i := 114) rfl) rfl
theorem tw_3_116 : (Jvm.Cond.instanceMethod ({ cls := "PromotedNumbers$Calculator", name := "settleAt", desc := "(LPromotedNumbers$Fraction;ZLPromotedNumbers$Whole;)I" } : Jvm.MethodName)) ∈ go_T := go_t3 (List.mem_of_getElem? (i := 116) rfl) rfl
theorem tw_3_117 : (Jvm.Cond.code ({ cls := "PromotedNumbers$Calculator", name := "settleAt", desc := "(LPromotedNumbers$Fraction;ZLPromotedNumbers$Whole;)I" } : Jvm.MethodName) prog_2_method_8_code (4 : Nat) (Option.some Jvm.ClassFile.FieldType.int)) ∈ go_T := go_t3 (List.mem_of_getElem? (i := 117) rfl) rfl
theorem tw_3_118 : (Jvm.Cond.methodLink "PromotedNumbers$Calculator" (100 : Nat) ({ cls := "PromotedNumbers$Whole", name := "isTooLarge", desc := "()Z" } : Jvm.MethodName)) ∈ go_T := go_t3 (List.mem_of_getElem? (i := 118) rfl) rfl
theorem tw_3_119 : (Jvm.Cond.instanceMethod ({ cls := "PromotedNumbers$Whole", name := "isTooLarge", desc := "()Z" } : Jvm.MethodName)) ∈ go_T := go_t3 (List.mem_of_getElem? (i := 119) rfl) rfl
theorem tw_3_120 : (Jvm.Cond.selects "PromotedNumbers$Whole" ({ cls := "PromotedNumbers$Whole", name := "isTooLarge", desc := "()Z" } : Jvm.MethodName) ({ cls := "PromotedNumbers$Whole", name := "isTooLarge", desc := "()Z" } : Jvm.MethodName)) ∈ go_T := go_t3 (List.mem_of_getElem? (i := 120) rfl) rfl
theorem tw_3_121 : (Jvm.Cond.code ({ cls := "PromotedNumbers$Whole", name := "isTooLarge", desc := "()Z" } : Jvm.MethodName) prog_7_method_6_code (1 : Nat) (Option.some Jvm.ClassFile.FieldType.boolean)) ∈ go_T := go_t3 (List.mem_of_getElem? (i := 121) rfl) rfl
theorem tw_3_122 : (Jvm.Cond.methodLink "PromotedNumbers$Calculator" (84 : Nat) ({ cls := "PromotedNumbers$Whole", name := "copy", desc := "(LPromotedNumbers$Whole;)V" } : Jvm.MethodName)) ∈ go_T := go_t3 (List.mem_of_getElem? (i := 122) rfl) rfl
theorem tw_3_123 : (Jvm.Cond.methodLink "PromotedNumbers$Calculator" (103 : Nat) ({ cls := "PromotedNumbers$Whole", name := "isZero", desc := "()Z" } : Jvm.MethodName)) ∈ go_T := go_t3 (List.mem_of_getElem? (i := 123) rfl) rfl
theorem tw_3_124 : (Jvm.Cond.methodLink "PromotedNumbers$Machine" (67 : Nat) ({ cls := "PromotedNumbers$Machine", name := "fold", desc := "()I" } : Jvm.MethodName)) ∈ go_T := go_t3 (List.mem_of_getElem? (i := 124) rfl) rfl
theorem tw_3_126 : (Jvm.Cond.instanceMethod ({ cls := "PromotedNumbers$Machine", name := "fold", desc := "()I" } : Jvm.MethodName)) ∈ go_T := go_t3 (List.mem_of_getElem? (i := 126) rfl) rfl
theorem tw_3_127 : (Jvm.Cond.code ({ cls := "PromotedNumbers$Machine", name := "fold", desc := "()I" } : Jvm.MethodName) prog_6_method_10_code (6 : Nat) (Option.some Jvm.ClassFile.FieldType.int)) ∈ go_T := go_t3 (List.mem_of_getElem? (i := 127) rfl) rfl
theorem tw_3_128 : (Jvm.Cond.methodLink "PromotedNumbers$Machine" (134 : Nat) ({ cls := "PromotedNumbers$Machine", name := "beginsWithFirst", desc := "(CI)Z" } : Jvm.MethodName)) ∈ go_T := go_t3 (List.mem_of_getElem? (i := 128) rfl) rfl
theorem tw_3_129 : (Jvm.Cond.static ({ cls := "PromotedNumbers$Machine", name := "beginsWithFirst", desc := "(CI)Z" } : Jvm.MethodName)) ∈ go_T := go_t3 (List.mem_of_getElem? (i := 129) rfl) rfl
theorem tw_3_130 : (Jvm.Cond.code ({ cls := "PromotedNumbers$Machine", name := "beginsWithFirst", desc := "(CI)Z" } : Jvm.MethodName) prog_6_method_11_code (3 : Nat) (Option.some Jvm.ClassFile.FieldType.boolean)) ∈ go_T := go_t3 (List.mem_of_getElem? (i := 130) rfl) rfl
theorem tw_3_131 : (Jvm.Cond.methodLink "PromotedNumbers$Machine" (85 : Nat) ({ cls := "PromotedNumbers$Fraction", name := "copy", desc := "(LPromotedNumbers$Fraction;)V" } : Jvm.MethodName)) ∈ go_T := go_t3 (List.mem_of_getElem? (i := 131) rfl) rfl
theorem tw_3_132 : (Jvm.Cond.instanceMethod ({ cls := "PromotedNumbers$Fraction", name := "copy", desc := "(LPromotedNumbers$Fraction;)V" } : Jvm.MethodName)) ∈ go_T := go_t3 (List.mem_of_getElem? (i := 132) rfl) rfl
theorem tw_3_133 : (Jvm.Cond.selects "PromotedNumbers$Fraction" ({ cls := "PromotedNumbers$Fraction", name := "copy", desc := "(LPromotedNumbers$Fraction;)V" } : Jvm.MethodName) ({ cls := "PromotedNumbers$Fraction", name := "copy", desc := "(LPromotedNumbers$Fraction;)V" } : Jvm.MethodName)) ∈ go_T := go_t3 (List.mem_of_getElem? (i := 133) rfl) rfl
theorem tw_3_134 : (Jvm.Cond.code ({ cls := "PromotedNumbers$Fraction", name := "copy", desc := "(LPromotedNumbers$Fraction;)V" } : Jvm.MethodName) prog_4_method_3_code (2 : Nat) (Option.none : Option Jvm.ClassFile.FieldType)) ∈ go_T := go_t3 (List.mem_of_getElem? (i := 134) rfl) rfl
theorem tw_3_135 : (Jvm.Cond.methodLink "PromotedNumbers$Fraction" (30 : Nat) ({ cls := "PromotedNumbers$Whole", name := "copy", desc := "(LPromotedNumbers$Whole;)V" } : Jvm.MethodName)) ∈ go_T := go_t3 (List.mem_of_getElem? (i := 135) rfl) rfl
theorem tw_3_136 : (Jvm.Cond.methodLink "PromotedNumbers$Machine" (138 : Nat) ({ cls := "PromotedNumbers$Machine", name := "step", desc := "(CLPromotedNumbers$Fraction;)I" } : Jvm.MethodName)) ∈ go_T := go_t3 (List.mem_of_getElem? (i := 136) rfl) rfl
theorem tw_3_138 : (Jvm.Cond.instanceMethod ({ cls := "PromotedNumbers$Machine", name := "step", desc := "(CLPromotedNumbers$Fraction;)I" } : Jvm.MethodName)) ∈ go_T := go_t3 (List.mem_of_getElem? (i := 138) rfl) rfl
theorem tw_3_139 : (Jvm.Cond.code ({ cls := "PromotedNumbers$Machine", name := "step", desc := "(CLPromotedNumbers$Fraction;)I" } : Jvm.MethodName) prog_6_method_12_code (3 : Nat) (Option.some Jvm.ClassFile.FieldType.int)) ∈ go_T := go_t3 (List.mem_of_getElem? (i := 139) rfl) rfl
theorem tw_3_140 : (Jvm.Cond.methodLink "PromotedNumbers$Machine" (142 : Nat) ({ cls := "PromotedNumbers$Calculator", name := "add", desc := "(LPromotedNumbers$Fraction;LPromotedNumbers$Fraction;Z)I" } : Jvm.MethodName)) ∈ go_T := go_t3 (List.mem_of_getElem? (i := 140) rfl) rfl
theorem tw_3_141 : (Jvm.Cond.instanceMethod ({ cls := "PromotedNumbers$Calculator", name := "add", desc := "(LPromotedNumbers$Fraction;LPromotedNumbers$Fraction;Z)I" } : Jvm.MethodName)) ∈ go_T := go_t3 (List.mem_of_getElem? (i := 141) rfl) rfl
theorem tw_3_142 : (Jvm.Cond.selects "PromotedNumbers$Calculator" ({ cls := "PromotedNumbers$Calculator", name := "add", desc := "(LPromotedNumbers$Fraction;LPromotedNumbers$Fraction;Z)I" } : Jvm.MethodName) ({ cls := "PromotedNumbers$Calculator", name := "add", desc := "(LPromotedNumbers$Fraction;LPromotedNumbers$Fraction;Z)I" } : Jvm.MethodName)) ∈ go_T := go_t3 (List.mem_of_getElem? (i := 142) rfl) rfl
theorem tw_3_143 : (Jvm.Cond.code ({ cls := "PromotedNumbers$Calculator", name := "add", desc := "(LPromotedNumbers$Fraction;LPromotedNumbers$Fraction;Z)I" } : Jvm.MethodName) prog_2_method_2_code (5 : Nat) (Option.some Jvm.ClassFile.FieldType.int)) ∈ go_T := go_t3 (List.mem_of_getElem? (i := 143) rfl) rfl
theorem tw_3_144 : (Jvm.Cond.methodLink "PromotedNumbers$Calculator" (65 : Nat) ({ cls := "PromotedNumbers$Calculator", name := "addSpare", desc := "(ZZ)Z" } : Jvm.MethodName)) ∈ go_T := go_t3 (List.mem_of_getElem? (i := 144) rfl) rfl
theorem tw_3_146 : (Jvm.Cond.instanceMethod ({ cls := "PromotedNumbers$Calculator", name := "addSpare", desc := "(ZZ)Z" } : Jvm.MethodName)) ∈ go_T := go_t3 (List.mem_of_getElem? (i := 146) rfl) rfl
theorem tw_3_147 : (Jvm.Cond.code ({ cls := "PromotedNumbers$Calculator", name := "addSpare", desc := "(ZZ)Z" } : Jvm.MethodName) prog_2_method_3_code (3 : Nat) (Option.some Jvm.ClassFile.FieldType.boolean)) ∈ go_T := go_t3 (List.mem_of_getElem? (i := 147) rfl) rfl
theorem tw_3_148 : (Jvm.Cond.methodLink "PromotedNumbers$Calculator" (73 : Nat) ({ cls := "PromotedNumbers$Whole", name := "add", desc := "(LPromotedNumbers$Whole;)V" } : Jvm.MethodName)) ∈ go_T := go_t3 (List.mem_of_getElem? (i := 148) rfl) rfl
theorem tw_3_149 : (Jvm.Cond.instanceMethod ({ cls := "PromotedNumbers$Whole", name := "add", desc := "(LPromotedNumbers$Whole;)V" } : Jvm.MethodName)) ∈ go_T := go_t3 (List.mem_of_getElem? (i := 149) rfl) rfl
theorem tw_3_150 : (Jvm.Cond.selects "PromotedNumbers$Whole" ({ cls := "PromotedNumbers$Whole", name := "add", desc := "(LPromotedNumbers$Whole;)V" } : Jvm.MethodName) ({ cls := "PromotedNumbers$Whole", name := "add", desc := "(LPromotedNumbers$Whole;)V" } : Jvm.MethodName)) ∈ go_T := go_t3 (List.mem_of_getElem? (i := 150) rfl) rfl
theorem tw_3_151 : (Jvm.Cond.code ({ cls := "PromotedNumbers$Whole", name := "add", desc := "(LPromotedNumbers$Whole;)V" } : Jvm.MethodName) prog_7_method_10_code (6 : Nat) (Option.none : Option Jvm.ClassFile.FieldType)) ∈ go_T := go_t3 (List.mem_of_getElem? (i := 151) rfl) rfl
theorem tw_3_152 : (Jvm.Cond.methodLink "PromotedNumbers$Whole" (29 : Nat) ({ cls := "java/lang/Math", name := "max", desc := "(II)I" } : Jvm.MethodName)) ∈ go_T := go_t3 (List.mem_of_getElem? (i := 152) rfl) rfl
theorem tw_3_153 : (Jvm.Cond.methodLink "PromotedNumbers$Calculator" (77 : Nat) ({ cls := "PromotedNumbers$Whole", name := "compare", desc := "(LPromotedNumbers$Whole;)I" } : Jvm.MethodName)) ∈ go_T := go_t3 (List.mem_of_getElem? (i := 153) rfl) rfl
theorem tw_3_154 : (Jvm.Cond.methodLink "PromotedNumbers$Calculator" (81 : Nat) ({ cls := "PromotedNumbers$Whole", name := "subtract", desc := "(LPromotedNumbers$Whole;)V" } : Jvm.MethodName)) ∈ go_T := go_t3 (List.mem_of_getElem? (i := 154) rfl) rfl
theorem tw_3_155 : (Jvm.Cond.methodLink "PromotedNumbers$Machine" (92 : Nat) ({ cls := "PromotedNumbers$Fraction", name := "isZero", desc := "()Z" } : Jvm.MethodName)) ∈ go_T := go_t3 (List.mem_of_getElem? (i := 155) rfl) rfl
theorem tw_3_156 : (Jvm.Cond.methodLink "PromotedNumbers$Machine" (146 : Nat) ({ cls := "PromotedNumbers$Calculator", name := "divideWhole", desc := "(LPromotedNumbers$Fraction;LPromotedNumbers$Fraction;Z)I" } : Jvm.MethodName)) ∈ go_T := go_t3 (List.mem_of_getElem? (i := 156) rfl) rfl
theorem tw_3_157 : (Jvm.Cond.instanceMethod ({ cls := "PromotedNumbers$Calculator", name := "divideWhole", desc := "(LPromotedNumbers$Fraction;LPromotedNumbers$Fraction;Z)I" } : Jvm.MethodName)) ∈ go_T := go_t3 (List.mem_of_getElem? (i := 157) rfl) rfl
theorem tw_3_158 : (Jvm.Cond.selects "PromotedNumbers$Calculator" ({ cls := "PromotedNumbers$Calculator", name := "divideWhole", desc := "(LPromotedNumbers$Fraction;LPromotedNumbers$Fraction;Z)I" } : Jvm.MethodName) ({ cls := "PromotedNumbers$Calculator", name := "divideWhole", desc := "(LPromotedNumbers$Fraction;LPromotedNumbers$Fraction;Z)I" } : Jvm.MethodName)) ∈ go_T := go_t3 (List.mem_of_getElem? (i := 158) rfl) rfl
theorem tw_3_159 : (Jvm.Cond.code ({ cls := "PromotedNumbers$Calculator", name := "divideWhole", desc := "(LPromotedNumbers$Fraction;LPromotedNumbers$Fraction;Z)I" } : Jvm.MethodName) prog_2_method_5_code (4 : Nat) (Option.some Jvm.ClassFile.FieldType.int)) ∈ go_T := go_t3 (List.mem_of_getElem? (i := 159) rfl) rfl
theorem tw_3_160 : (Jvm.Cond.methodLink "PromotedNumbers$Calculator" (87 : Nat) ({ cls := "PromotedNumbers$Fraction", name := "isWhole", desc := "()Z" } : Jvm.MethodName)) ∈ go_T := go_t3 (List.mem_of_getElem? (i := 160) rfl) rfl
theorem tw_3_161 : (Jvm.Cond.methodLink "PromotedNumbers$Calculator" (91 : Nat) ({ cls := "PromotedNumbers$Fraction", name := "isZero", desc := "()Z" } : Jvm.MethodName)) ∈ go_T := go_t3 (List.mem_of_getElem? (i := 161) rfl) rfl
theorem tw_3_162 : (Jvm.Cond.methodLink "PromotedNumbers$Calculator" (94 : Nat) ({ cls := "PromotedNumbers$Whole", name := "become", desc := "(I)V" } : Jvm.MethodName)) ∈ go_T := go_t3 (List.mem_of_getElem? (i := 162) rfl) rfl
theorem tw_3_163 : (Jvm.Cond.methodLink "PromotedNumbers$Machine" (149 : Nat) ({ cls := "PromotedNumbers$Calculator", name := "joinGreatest", desc := "(LPromotedNumbers$Fraction;LPromotedNumbers$Fraction;)I" } : Jvm.MethodName)) ∈ go_T := go_t3 (List.mem_of_getElem? (i := 163) rfl) rfl
theorem tw_3_164 : (Jvm.Cond.instanceMethod ({ cls := "PromotedNumbers$Calculator", name := "joinGreatest", desc := "(LPromotedNumbers$Fraction;LPromotedNumbers$Fraction;)I" } : Jvm.MethodName)) ∈ go_T := go_t3 (List.mem_of_getElem? (i := 164) rfl) rfl
theorem tw_3_165 : (Jvm.Cond.selects "PromotedNumbers$Calculator" ({ cls := "PromotedNumbers$Calculator", name := "joinGreatest", desc := "(LPromotedNumbers$Fraction;LPromotedNumbers$Fraction;)I" } : Jvm.MethodName) ({ cls := "PromotedNumbers$Calculator", name := "joinGreatest", desc := "(LPromotedNumbers$Fraction;LPromotedNumbers$Fraction;)I" } : Jvm.MethodName)) ∈ go_T := go_t3 (List.mem_of_getElem? (i := 165) rfl) rfl
theorem tw_3_166 : (Jvm.Cond.code ({ cls := "PromotedNumbers$Calculator", name := "joinGreatest", desc := "(LPromotedNumbers$Fraction;LPromotedNumbers$Fraction;)I" } : Jvm.MethodName) prog_2_method_6_code (3 : Nat) (Option.some Jvm.ClassFile.FieldType.int)) ∈ go_T := go_t3 (List.mem_of_getElem? (i := 166) rfl) rfl
theorem tw_3_167 : (Jvm.Cond.methodLink "PromotedNumbers$Machine" (153 : Nat) ({ cls := "PromotedNumbers$Machine", name := "replace", desc := "(CLPromotedNumbers$Fraction;)I" } : Jvm.MethodName)) ∈ go_T := go_t3 (List.mem_of_getElem? (i := 167) rfl) rfl
theorem tw_3_169 : (Jvm.Cond.instanceMethod ({ cls := "PromotedNumbers$Machine", name := "replace", desc := "(CLPromotedNumbers$Fraction;)I" } : Jvm.MethodName)) ∈ go_T := go_t3 (List.mem_of_getElem? (i := 169) rfl) rfl
theorem tw_3_170 : (Jvm.Cond.code ({ cls := "PromotedNumbers$Machine", name := "replace", desc := "(CLPromotedNumbers$Fraction;)I" } : Jvm.MethodName) prog_6_method_13_code (3 : Nat) (Option.some Jvm.ClassFile.FieldType.int)) ∈ go_T := go_t3 (List.mem_of_getElem? (i := 170) rfl) rfl
theorem tw_3_171 : (Jvm.Cond.methodLink "PromotedNumbers$Machine" (95 : Nat) ({ cls := "PromotedNumbers$Whole", name := "become", desc := "(I)V" } : Jvm.MethodName)) ∈ go_T := go_t3 (List.mem_of_getElem? (i := 171) rfl) rfl
theorem tw_3_172 : (Jvm.Cond.methodLink "PromotedNumbers$Machine" (109 : Nat) ({ cls := "PromotedNumbers$Whole", name := "copy", desc := "(LPromotedNumbers$Whole;)V" } : Jvm.MethodName)) ∈ go_T := go_t3 (List.mem_of_getElem? (i := 172) rfl) rfl
theorem tw_3_173 : (Jvm.Cond.methodLink "PromotedNumbers$Machine" (156 : Nat) ({ cls := "PromotedNumbers$Calculator", name := "compare", desc := "(LPromotedNumbers$Fraction;LPromotedNumbers$Fraction;)I" } : Jvm.MethodName)) ∈ go_T := go_t3 (List.mem_of_getElem? (i := 173) rfl) rfl
theorem tw_3_174 : (Jvm.Cond.instanceMethod ({ cls := "PromotedNumbers$Calculator", name := "compare", desc := "(LPromotedNumbers$Fraction;LPromotedNumbers$Fraction;)I" } : Jvm.MethodName)) ∈ go_T := go_t3 (List.mem_of_getElem? (i := 174) rfl) rfl
theorem tw_3_175 : (Jvm.Cond.selects "PromotedNumbers$Calculator" ({ cls := "PromotedNumbers$Calculator", name := "compare", desc := "(LPromotedNumbers$Fraction;LPromotedNumbers$Fraction;)I" } : Jvm.MethodName) ({ cls := "PromotedNumbers$Calculator", name := "compare", desc := "(LPromotedNumbers$Fraction;LPromotedNumbers$Fraction;)I" } : Jvm.MethodName)) ∈ go_T := go_t3 (List.mem_of_getElem? (i := 175) rfl) rfl
theorem tw_3_176 : (Jvm.Cond.code ({ cls := "PromotedNumbers$Calculator", name := "compare", desc := "(LPromotedNumbers$Fraction;LPromotedNumbers$Fraction;)I" } : Jvm.MethodName) prog_2_method_7_code (3 : Nat) (Option.some Jvm.ClassFile.FieldType.int)) ∈ go_T := go_t3 (List.mem_of_getElem? (i := 176) rfl) rfl
theorem tw_3_177 : (Jvm.Cond.methodLink "PromotedNumbers$Machine" (70 : Nat) ({ cls := "PromotedNumbers$Machine", name := "closeBracket", desc := "()V" } : Jvm.MethodName)) ∈ go_T := go_t3 (List.mem_of_getElem? (i := 177) rfl) rfl
theorem tw_3_179 : (Jvm.Cond.instanceMethod ({ cls := "PromotedNumbers$Machine", name := "closeBracket", desc := "()V" } : Jvm.MethodName)) ∈ go_T := go_t3 (List.mem_of_getElem? (i := 179) rfl) rfl
theorem tw_3_180 : (Jvm.Cond.code ({ cls := "PromotedNumbers$Machine", name := "closeBracket", desc := "()V" } : Jvm.MethodName) prog_6_method_5_code (1 : Nat) (Option.none : Option Jvm.ClassFile.FieldType)) ∈ go_T := go_t3 (List.mem_of_getElem? (i := 180) rfl) rfl
theorem tw_3_181 : (Jvm.Cond.methodLink "PromotedNumbers$Machine" (73 : Nat) ({ cls := "PromotedNumbers$Machine", name := "skipsArgument", desc := "()Z" } : Jvm.MethodName)) ∈ go_T := go_t3 (List.mem_of_getElem? (i := 181) rfl) rfl
theorem tw_3_183 : (Jvm.Cond.instanceMethod ({ cls := "PromotedNumbers$Machine", name := "skipsArgument", desc := "()Z" } : Jvm.MethodName)) ∈ go_T := go_t3 (List.mem_of_getElem? (i := 183) rfl) rfl
theorem tw_3_184 : (Jvm.Cond.code ({ cls := "PromotedNumbers$Machine", name := "skipsArgument", desc := "()Z" } : Jvm.MethodName) prog_6_method_6_code (3 : Nat) (Option.some Jvm.ClassFile.FieldType.boolean)) ∈ go_T := go_t3 (List.mem_of_getElem? (i := 184) rfl) rfl
theorem tw_3_185 : (Jvm.Cond.methodLink "PromotedNumbers$Machine" (77 : Nat) ({ cls := "PromotedNumbers$Machine", name := "endOfArgument", desc := "([CII)I" } : Jvm.MethodName)) ∈ go_T := go_t3 (List.mem_of_getElem? (i := 185) rfl) rfl
theorem tw_3_187 : (Jvm.Cond.instanceMethod ({ cls := "PromotedNumbers$Machine", name := "endOfArgument", desc := "([CII)I" } : Jvm.MethodName)) ∈ go_T := go_t3 (List.mem_of_getElem? (i := 187) rfl) rfl
theorem tw_3_188 : (Jvm.Cond.code ({ cls := "PromotedNumbers$Machine", name := "endOfArgument", desc := "([CII)I" } : Jvm.MethodName) prog_6_method_7_code (7 : Nat) (Option.some Jvm.ClassFile.FieldType.int)) ∈ go_T := go_t3 (List.mem_of_getElem? (i := 188) rfl) rfl
theorem tw_3_190 : (Jvm.Cond.methodLink "PromotedNumbers$Machine" (89 : Nat) ({ cls := "PromotedNumbers$Machine", name := "takeNumber", desc := "([CII)I" } : Jvm.MethodName)) ∈ go_T := go_t3 (List.mem_of_getElem? (i := 190) rfl) rfl
theorem tw_3_192 : (Jvm.Cond.instanceMethod ({ cls := "PromotedNumbers$Machine", name := "takeNumber", desc := "([CII)I" } : Jvm.MethodName)) ∈ go_T := go_t3 (List.mem_of_getElem? (i := 192) rfl) rfl
theorem tw_3_193 : (Jvm.Cond.code ({ cls := "PromotedNumbers$Machine", name := "takeNumber", desc := "([CII)I" } : Jvm.MethodName) prog_6_method_8_code (6 : Nat) (Option.some Jvm.ClassFile.FieldType.int)) ∈ go_T := go_t3 (List.mem_of_getElem? (i := 193) rfl) rfl
theorem tw_3_194 : (Jvm.Cond.methodLink "PromotedNumbers$Machine" (98 : Nat) ({ cls := "PromotedNumbers$Whole", name := "timesPlus", desc := "(II)V" } : Jvm.MethodName)) ∈ go_T := go_t3 (List.mem_of_getElem? (i := 194) rfl) rfl
theorem tw_3_195 : (Jvm.Cond.methodLink "PromotedNumbers$Machine" (102 : Nat) ({ cls := "PromotedNumbers$Whole", name := "isTooLarge", desc := "()Z" } : Jvm.MethodName)) ∈ go_T := go_t3 (List.mem_of_getElem? (i := 195) rfl) rfl
theorem tw_3_196 : (Jvm.Cond.methodLink "PromotedNumbers$Machine" (112 : Nat) ({ cls := "PromotedNumbers$Whole", name := "isZero", desc := "()Z" } : Jvm.MethodName)) ∈ go_T := go_t3 (List.mem_of_getElem? (i := 196) rfl) rfl
theorem tw_3_197 : (Jvm.Cond.methodLink "PromotedNumbers" (59 : Nat) ({ cls := "PromotedNumbers", name := "refuse", desc := "(I)V" } : Jvm.MethodName)) ∈ go_T := go_t3 (List.mem_of_getElem? (i := 197) rfl) rfl
theorem tw_3_198 : (Jvm.Cond.static ({ cls := "PromotedNumbers", name := "refuse", desc := "(I)V" } : Jvm.MethodName)) ∈ go_T := go_t3 (List.mem_of_getElem? (i := 198) rfl) rfl
theorem tw_3_199 : (Jvm.Cond.code ({ cls := "PromotedNumbers", name := "refuse", desc := "(I)V" } : Jvm.MethodName) prog_1_method_16_code (1 : Nat) (Option.none : Option Jvm.ClassFile.FieldType)) ∈ go_T := go_t3 (List.mem_of_getElem? (i := 199) rfl) rfl
theorem tw_3_200 : (Jvm.Cond.classLink "PromotedNumbers" (125 : Nat) "java/lang/UnsupportedOperationException") ∈ go_T := go_t3 (List.mem_of_getElem? (i := 200) rfl) rfl
theorem tw_3_201 : (Jvm.Cond.instantiable "java/lang/UnsupportedOperationException" (6 : Nat)) ∈ go_T := go_t3 (List.mem_of_getElem? (i := 201) rfl) rfl
theorem tw_3_203 : (Jvm.Cond.selects "java/lang/UnsupportedOperationException" ({ cls := "java/lang/Throwable", name := "fillInStackTrace", desc := "(I)Ljava/lang/Throwable;" } : Jvm.MethodName) ({ cls := "java/lang/Throwable", name := "fillInStackTrace", desc := "(I)Ljava/lang/Throwable;" } : Jvm.MethodName)) ∈ go_T := go_t3 (List.mem_of_getElem? (i := 203) rfl) rfl
theorem tw_3_204 : (Jvm.Cond.lays "java/lang/UnsupportedOperationException" "java/lang/Throwable" "cause" "Ljava/lang/Throwable;") ∈ go_T := go_t3 (List.mem_of_getElem? (i := 204) rfl) rfl
theorem tw_3_205 : (Jvm.Cond.lays "java/lang/UnsupportedOperationException" "java/lang/Throwable" "stackTrace" "[Ljava/lang/StackTraceElement;") ∈ go_T := go_t3 (List.mem_of_getElem? (i := 205) rfl) rfl
theorem tw_3_206 : (Jvm.Cond.lays "java/lang/UnsupportedOperationException" "java/lang/Throwable" "suppressedExceptions" "Ljava/util/List;") ∈ go_T := go_t3 (List.mem_of_getElem? (i := 206) rfl) rfl
theorem tw_3_207 : (Jvm.Cond.lays "java/lang/UnsupportedOperationException" "java/lang/Throwable" "detailMessage" "Ljava/lang/String;") ∈ go_T := go_t3 (List.mem_of_getElem? (i := 207) rfl) rfl
theorem tw_3_208 : (Jvm.Cond.lays "java/lang/UnsupportedOperationException" "java/lang/Throwable" "backtrace" "Ljava/lang/Object;") ∈ go_T := go_t3 (List.mem_of_getElem? (i := 208) rfl) rfl
theorem tw_3_209 : (Jvm.Cond.methodLink "PromotedNumbers" (127 : Nat) ({ cls := "java/lang/UnsupportedOperationException", name := "<init>", desc := "()V" } : Jvm.MethodName)) ∈ go_T := go_t3 (List.mem_of_getElem? (i := 209) rfl) rfl
theorem tw_3_210 : (Jvm.Cond.instanceMethod ({ cls := "java/lang/UnsupportedOperationException", name := "<init>", desc := "()V" } : Jvm.MethodName)) ∈ go_T := go_t3 (List.mem_of_getElem? (i := 210) rfl) rfl
theorem tw_3_211 : (Jvm.Cond.code ({ cls := "java/lang/UnsupportedOperationException", name := "<init>", desc := "()V" } : Jvm.MethodName) prog_25_method_1_code (1 : Nat) (Option.none : Option Jvm.ClassFile.FieldType)) ∈ go_T := go_t3 (List.mem_of_getElem? (i := 211) rfl) rfl
theorem tw_3_212 : (Jvm.Cond.methodLink "java/lang/UnsupportedOperationException" (1 : Nat) ({ cls := "java/lang/RuntimeException", name := "<init>", desc := "()V" } : Jvm.MethodName)) ∈ go_T := go_t3 (List.mem_of_getElem? (i := 212) rfl) rfl
theorem tw_3_213 : (Jvm.Cond.lays "java/lang/UnsupportedOperationException" "java/lang/Throwable" "depth" "I") ∈ go_T := go_t3 (List.mem_of_getElem? (i := 213) rfl) rfl
theorem tw_3_214 : (Jvm.Cond.superclass "java/lang/UnsupportedOperationException" "java/lang/RuntimeException") ∈ go_T := go_t3 (List.mem_of_getElem? (i := 214) rfl) rfl
theorem tw_3_215 : (Jvm.Cond.classLink "PromotedNumbers" (128 : Nat) "java/lang/ArithmeticException") ∈ go_T := go_t3 (List.mem_of_getElem? (i := 215) rfl) rfl
theorem tw_3_216 : (Jvm.Cond.instantiable "java/lang/ArithmeticException" (6 : Nat)) ∈ go_T := go_t3 (List.mem_of_getElem? (i := 216) rfl) rfl
theorem tw_3_218 : (Jvm.Cond.selects "java/lang/ArithmeticException" ({ cls := "java/lang/Throwable", name := "fillInStackTrace", desc := "(I)Ljava/lang/Throwable;" } : Jvm.MethodName) ({ cls := "java/lang/Throwable", name := "fillInStackTrace", desc := "(I)Ljava/lang/Throwable;" } : Jvm.MethodName)) ∈ go_T := go_t3 (List.mem_of_getElem? (i := 218) rfl) rfl
theorem tw_3_219 : (Jvm.Cond.lays "java/lang/ArithmeticException" "java/lang/Throwable" "cause" "Ljava/lang/Throwable;") ∈ go_T := go_t3 (List.mem_of_getElem? (i := 219) rfl) rfl
theorem tw_3_220 : (Jvm.Cond.lays "java/lang/ArithmeticException" "java/lang/Throwable" "stackTrace" "[Ljava/lang/StackTraceElement;") ∈ go_T := go_t3 (List.mem_of_getElem? (i := 220) rfl) rfl
theorem tw_3_221 : (Jvm.Cond.lays "java/lang/ArithmeticException" "java/lang/Throwable" "suppressedExceptions" "Ljava/util/List;") ∈ go_T := go_t3 (List.mem_of_getElem? (i := 221) rfl) rfl
theorem tw_3_222 : (Jvm.Cond.lays "java/lang/ArithmeticException" "java/lang/Throwable" "detailMessage" "Ljava/lang/String;") ∈ go_T := go_t3 (List.mem_of_getElem? (i := 222) rfl) rfl
theorem tw_3_223 : (Jvm.Cond.lays "java/lang/ArithmeticException" "java/lang/Throwable" "backtrace" "Ljava/lang/Object;") ∈ go_T := go_t3 (List.mem_of_getElem? (i := 223) rfl) rfl
theorem tw_3_224 : (Jvm.Cond.methodLink "PromotedNumbers" (130 : Nat) ({ cls := "java/lang/ArithmeticException", name := "<init>", desc := "()V" } : Jvm.MethodName)) ∈ go_T := go_t3 (List.mem_of_getElem? (i := 224) rfl) rfl
theorem tw_3_225 : (Jvm.Cond.instanceMethod ({ cls := "java/lang/ArithmeticException", name := "<init>", desc := "()V" } : Jvm.MethodName)) ∈ go_T := go_t3 (List.mem_of_getElem? (i := 225) rfl) rfl
theorem tw_3_226 : (Jvm.Cond.code ({ cls := "java/lang/ArithmeticException", name := "<init>", desc := "()V" } : Jvm.MethodName) prog_11_method_1_code (1 : Nat) (Option.none : Option Jvm.ClassFile.FieldType)) ∈ go_T := go_t3 (List.mem_of_getElem? (i := 226) rfl) rfl
theorem tw_3_227 : (Jvm.Cond.methodLink "java/lang/ArithmeticException" (1 : Nat) ({ cls := "java/lang/RuntimeException", name := "<init>", desc := "()V" } : Jvm.MethodName)) ∈ go_T := go_t3 (List.mem_of_getElem? (i := 227) rfl) rfl
theorem tw_3_228 : (Jvm.Cond.lays "java/lang/ArithmeticException" "java/lang/Throwable" "depth" "I") ∈ go_T := go_t3 (List.mem_of_getElem? (i := 228) rfl) rfl
theorem tw_3_229 : (Jvm.Cond.superclass "java/lang/ArithmeticException" "java/lang/RuntimeException") ∈ go_T := go_t3 (List.mem_of_getElem? (i := 229) rfl) rfl
theorem tw_3_230 : (Jvm.Cond.classLink "PromotedNumbers" (131 : Nat) "java/lang/IllegalStateException") ∈ go_T := go_t3 (List.mem_of_getElem? (i := 230) rfl) rfl
theorem tw_3_231 : (Jvm.Cond.instantiable "java/lang/IllegalStateException" (6 : Nat)) ∈ go_T := go_t3 (List.mem_of_getElem? (i := 231) rfl) rfl
theorem tw_3_233 : (Jvm.Cond.selects "java/lang/IllegalStateException" ({ cls := "java/lang/Throwable", name := "fillInStackTrace", desc := "(I)Ljava/lang/Throwable;" } : Jvm.MethodName) ({ cls := "java/lang/Throwable", name := "fillInStackTrace", desc := "(I)Ljava/lang/Throwable;" } : Jvm.MethodName)) ∈ go_T := go_t3 (List.mem_of_getElem? (i := 233) rfl) rfl
theorem tw_3_234 : (Jvm.Cond.lays "java/lang/IllegalStateException" "java/lang/Throwable" "cause" "Ljava/lang/Throwable;") ∈ go_T := go_t3 (List.mem_of_getElem? (i := 234) rfl) rfl
theorem tw_3_235 : (Jvm.Cond.lays "java/lang/IllegalStateException" "java/lang/Throwable" "stackTrace" "[Ljava/lang/StackTraceElement;") ∈ go_T := go_t3 (List.mem_of_getElem? (i := 235) rfl) rfl
theorem tw_3_236 : (Jvm.Cond.lays "java/lang/IllegalStateException" "java/lang/Throwable" "suppressedExceptions" "Ljava/util/List;") ∈ go_T := go_t3 (List.mem_of_getElem? (i := 236) rfl) rfl
theorem tw_3_237 : (Jvm.Cond.lays "java/lang/IllegalStateException" "java/lang/Throwable" "detailMessage" "Ljava/lang/String;") ∈ go_T := go_t3 (List.mem_of_getElem? (i := 237) rfl) rfl
theorem tw_3_238 : (Jvm.Cond.lays "java/lang/IllegalStateException" "java/lang/Throwable" "backtrace" "Ljava/lang/Object;") ∈ go_T := go_t3 (List.mem_of_getElem? (i := 238) rfl) rfl
theorem tw_3_239 : (Jvm.Cond.methodLink "PromotedNumbers" (133 : Nat) ({ cls := "java/lang/IllegalStateException", name := "<init>", desc := "()V" } : Jvm.MethodName)) ∈ go_T := go_t3 (List.mem_of_getElem? (i := 239) rfl) rfl
theorem tw_4_0 : (Jvm.Cond.instanceMethod ({ cls := "java/lang/IllegalStateException", name := "<init>", desc := "()V" } : Jvm.MethodName)) ∈ go_T := go_t4 (List.mem_of_getElem? (i := 0) rfl) rfl
theorem tw_4_1 : (Jvm.Cond.code ({ cls := "java/lang/IllegalStateException", name := "<init>", desc := "()V" } : Jvm.MethodName) prog_15_method_1_code (1 : Nat) (Option.none : Option Jvm.ClassFile.FieldType)) ∈ go_T := go_t4 (List.mem_of_getElem? (i := 1) rfl) rfl
theorem tw_4_2 : (Jvm.Cond.methodLink "java/lang/IllegalStateException" (1 : Nat) ({ cls := "java/lang/RuntimeException", name := "<init>", desc := "()V" } : Jvm.MethodName)) ∈ go_T := go_t4 (List.mem_of_getElem? (i := 2) rfl) rfl
theorem tw_4_3 : (Jvm.Cond.lays "java/lang/IllegalStateException" "java/lang/Throwable" "depth" "I") ∈ go_T := go_t4 (List.mem_of_getElem? (i := 3) rfl) rfl
theorem tw_4_4 : (Jvm.Cond.superclass "java/lang/IllegalStateException" "java/lang/RuntimeException") ∈ go_T := go_t4 (List.mem_of_getElem? (i := 4) rfl) rfl
theorem tw_4_5 : (Jvm.Cond.methodLink "PromotedNumbers" (63 : Nat) ({ cls := "PromotedNumbers$Machine", name := "value", desc := "()LPromotedNumbers$Fraction;" } : Jvm.MethodName)) ∈ go_T := go_t4 (List.mem_of_getElem? (i := 5) rfl) rfl
theorem tw_4_6 : (Jvm.Cond.instanceMethod ({ cls := "PromotedNumbers$Machine", name := "value", desc := "()LPromotedNumbers$Fraction;" } : Jvm.MethodName)) ∈ go_T := go_t4 (List.mem_of_getElem? (i := 6) rfl) rfl
theorem tw_4_7 : (Jvm.Cond.selects "PromotedNumbers$Machine" ({ cls := "PromotedNumbers$Machine", name := "value", desc := "()LPromotedNumbers$Fraction;" } : Jvm.MethodName) ({ cls := "PromotedNumbers$Machine", name := "value", desc := "()LPromotedNumbers$Fraction;" } : Jvm.MethodName)) ∈ go_T := go_t4 (List.mem_of_getElem? (i := 7) rfl) rfl
theorem tw_4_8 : (Jvm.Cond.code ({ cls := "PromotedNumbers$Machine", name := "value", desc := "()LPromotedNumbers$Fraction;" } : Jvm.MethodName) prog_6_method_2_code (1 : Nat) (Option.some (Jvm.ClassFile.FieldType.object "PromotedNumbers$Fraction"))) ∈ go_T := go_t4 (List.mem_of_getElem? (i := 8) rfl) rfl
theorem tw_4_9 : (Jvm.Cond.methodLink "PromotedNumbers" (67 : Nat) ({ cls := "PromotedNumbers", name := "settle", desc := "(LPromotedNumbers$Fraction;)I" } : Jvm.MethodName)) ∈ go_T := go_t4 (List.mem_of_getElem? (i := 9) rfl) rfl
theorem tw_4_11 : (Jvm.Cond.instanceMethod ({ cls := "PromotedNumbers", name := "settle", desc := "(LPromotedNumbers$Fraction;)I" } : Jvm.MethodName)) ∈ go_T := go_t4 (List.mem_of_getElem? (i := 11) rfl) rfl
theorem tw_4_12 : (Jvm.Cond.code ({ cls := "PromotedNumbers", name := "settle", desc := "(LPromotedNumbers$Fraction;)I" } : Jvm.MethodName) prog_1_method_17_code (2 : Nat) (Option.some Jvm.ClassFile.FieldType.int)) ∈ go_T := go_t4 (List.mem_of_getElem? (i := 12) rfl) rfl
theorem tw_4_13 : (Jvm.Cond.methodLink "PromotedNumbers" (78 : Nat) ({ cls := "PromotedNumbers$Fraction", name := "copy", desc := "(LPromotedNumbers$Fraction;)V" } : Jvm.MethodName)) ∈ go_T := go_t4 (List.mem_of_getElem? (i := 13) rfl) rfl
theorem tw_4_14 : (Jvm.Cond.methodLink "PromotedNumbers" (134 : Nat) ({ cls := "PromotedNumbers$Writing", name := "write", desc := "(LPromotedNumbers$Fraction;)V" } : Jvm.MethodName)) ∈ go_T := go_t4 (List.mem_of_getElem? (i := 14) rfl) rfl
theorem tw_4_15 : (Jvm.Cond.instanceMethod ({ cls := "PromotedNumbers$Writing", name := "write", desc := "(LPromotedNumbers$Fraction;)V" } : Jvm.MethodName)) ∈ go_T := go_t4 (List.mem_of_getElem? (i := 15) rfl) rfl
theorem tw_4_16 : (Jvm.Cond.selects "PromotedNumbers$Writing" ({ cls := "PromotedNumbers$Writing", name := "write", desc := "(LPromotedNumbers$Fraction;)V" } : Jvm.MethodName) ({ cls := "PromotedNumbers$Writing", name := "write", desc := "(LPromotedNumbers$Fraction;)V" } : Jvm.MethodName)) ∈ go_T := go_t4 (List.mem_of_getElem? (i := 16) rfl) rfl
theorem tw_4_17 : (Jvm.Cond.code ({ cls := "PromotedNumbers$Writing", name := "write", desc := "(LPromotedNumbers$Fraction;)V" } : Jvm.MethodName) prog_8_method_2_code (2 : Nat) (Option.none : Option Jvm.ClassFile.FieldType)) ∈ go_T := go_t4 (List.mem_of_getElem? (i := 17) rfl) rfl
theorem tw_4_18 : (Jvm.Cond.methodLink "PromotedNumbers$Writing" (28 : Nat) ({ cls := "PromotedNumbers$Fraction", name := "isWhole", desc := "()Z" } : Jvm.MethodName)) ∈ go_T := go_t4 (List.mem_of_getElem? (i := 18) rfl) rfl
theorem tw_4_19 : (Jvm.Cond.methodLink "PromotedNumbers$Writing" (37 : Nat) ({ cls := "PromotedNumbers$Writing", name := "putAmount", desc := "(LPromotedNumbers$Whole;)V" } : Jvm.MethodName)) ∈ go_T := go_t4 (List.mem_of_getElem? (i := 19) rfl) rfl
theorem tw_4_21 : (Jvm.Cond.instanceMethod ({ cls := "PromotedNumbers$Writing", name := "putAmount", desc := "(LPromotedNumbers$Whole;)V" } : Jvm.MethodName)) ∈ go_T := go_t4 (List.mem_of_getElem? (i := 21) rfl) rfl
theorem tw_4_22 : (Jvm.Cond.code ({ cls := "PromotedNumbers$Writing", name := "putAmount", desc := "(LPromotedNumbers$Whole;)V" } : Jvm.MethodName) prog_8_method_4_code (3 : Nat) (Option.none : Option Jvm.ClassFile.FieldType)) ∈ go_T := go_t4 (List.mem_of_getElem? (i := 22) rfl) rfl
theorem tw_4_23 : (Jvm.Cond.methodLink "PromotedNumbers$Writing" (52 : Nat) ({ cls := "PromotedNumbers$Whole", name := "copy", desc := "(LPromotedNumbers$Whole;)V" } : Jvm.MethodName)) ∈ go_T := go_t4 (List.mem_of_getElem? (i := 23) rfl) rfl
theorem tw_4_24 : (Jvm.Cond.methodLink "PromotedNumbers$Writing" (55 : Nat) ({ cls := "PromotedNumbers$Whole", name := "divideBy", desc := "(I)I" } : Jvm.MethodName)) ∈ go_T := go_t4 (List.mem_of_getElem? (i := 24) rfl) rfl
theorem tw_4_25 : (Jvm.Cond.methodLink "PromotedNumbers$Writing" (41 : Nat) ({ cls := "PromotedNumbers$Writing", name := "put", desc := "(C)V" } : Jvm.MethodName)) ∈ go_T := go_t4 (List.mem_of_getElem? (i := 25) rfl) rfl
theorem tw_4_27 : (Jvm.Cond.instanceMethod ({ cls := "PromotedNumbers$Writing", name := "put", desc := "(C)V" } : Jvm.MethodName)) ∈ go_T := go_t4 (List.mem_of_getElem? (i := 27) rfl) rfl
theorem tw_4_28 : (Jvm.Cond.code ({ cls := "PromotedNumbers$Writing", name := "put", desc := "(C)V" } : Jvm.MethodName) prog_8_method_5_code (2 : Nat) (Option.none : Option Jvm.ClassFile.FieldType)) ∈ go_T := go_t4 (List.mem_of_getElem? (i := 28) rfl) rfl
theorem tw_4_29 : (Jvm.Cond.methodLink "PromotedNumbers$Writing" (59 : Nat) ({ cls := "PromotedNumbers$Whole", name := "isZero", desc := "()Z" } : Jvm.MethodName)) ∈ go_T := go_t4 (List.mem_of_getElem? (i := 29) rfl) rfl
theorem tw_4_30 : (Jvm.Cond.methodLink "PromotedNumbersLaw" (61 : Nat) ({ cls := "PromotedNumbersLaw", name := "keep", desc := "(LPromotedNumbers;I[J)I" } : Jvm.MethodName)) ∈ go_T := go_t4 (List.mem_of_getElem? (i := 30) rfl) rfl
theorem tw_4_31 : (Jvm.Cond.static ({ cls := "PromotedNumbersLaw", name := "keep", desc := "(LPromotedNumbers;I[J)I" } : Jvm.MethodName)) ∈ go_T := go_t4 (List.mem_of_getElem? (i := 31) rfl) rfl
theorem tw_4_33 : (Jvm.Cond.classLink "PromotedNumbersLaw" (25 : Nat) "java/lang/IndexOutOfBoundsException") ∈ go_T := go_t4 (List.mem_of_getElem? (i := 33) rfl) rfl
theorem tw_4_34 : (Jvm.Cond.methodLink "PromotedNumbersLaw" (21 : Nat) ({ cls := "PromotedNumbers", name := "keep", desc := "(I)I" } : Jvm.MethodName)) ∈ go_T := go_t4 (List.mem_of_getElem? (i := 34) rfl) rfl
theorem tw_4_35 : (Jvm.Cond.instanceMethod ({ cls := "PromotedNumbers", name := "keep", desc := "(I)I" } : Jvm.MethodName)) ∈ go_T := go_t4 (List.mem_of_getElem? (i := 35) rfl) rfl
theorem tw_4_36 : (Jvm.Cond.selects "PromotedNumbers" ({ cls := "PromotedNumbers", name := "keep", desc := "(I)I" } : Jvm.MethodName) ({ cls := "PromotedNumbers", name := "keep", desc := "(I)I" } : Jvm.MethodName)) ∈ go_T := go_t4 (List.mem_of_getElem? (i := 36) rfl) rfl
theorem tw_4_37 : (Jvm.Cond.code ({ cls := "PromotedNumbers", name := "keep", desc := "(I)I" } : Jvm.MethodName) prog_1_method_6_code (2 : Nat) (Option.some Jvm.ClassFile.FieldType.int)) ∈ go_T := go_t4 (List.mem_of_getElem? (i := 37) rfl) rfl
theorem tw_4_38 : (Jvm.Cond.methodLink "PromotedNumbers" (71 : Nat) ({ cls := "PromotedNumbers", name := "requireVariable", desc := "(I)V" } : Jvm.MethodName)) ∈ go_T := go_t4 (List.mem_of_getElem? (i := 38) rfl) rfl
theorem tw_4_39 : (Jvm.Cond.static ({ cls := "PromotedNumbers", name := "requireVariable", desc := "(I)V" } : Jvm.MethodName)) ∈ go_T := go_t4 (List.mem_of_getElem? (i := 39) rfl) rfl
theorem tw_4_40 : (Jvm.Cond.code ({ cls := "PromotedNumbers", name := "requireVariable", desc := "(I)V" } : Jvm.MethodName) prog_1_method_14_code (1 : Nat) (Option.none : Option Jvm.ClassFile.FieldType)) ∈ go_T := go_t4 (List.mem_of_getElem? (i := 40) rfl) rfl
theorem tw_4_41 : (Jvm.Cond.classLink "PromotedNumbers" (116 : Nat) "java/lang/IndexOutOfBoundsException") ∈ go_T := go_t4 (List.mem_of_getElem? (i := 41) rfl) rfl
theorem tw_4_42 : (Jvm.Cond.instantiable "java/lang/IndexOutOfBoundsException" (6 : Nat)) ∈ go_T := go_t4 (List.mem_of_getElem? (i := 42) rfl) rfl
theorem tw_4_44 : (Jvm.Cond.selects "java/lang/IndexOutOfBoundsException" ({ cls := "java/lang/Throwable", name := "fillInStackTrace", desc := "(I)Ljava/lang/Throwable;" } : Jvm.MethodName) ({ cls := "java/lang/Throwable", name := "fillInStackTrace", desc := "(I)Ljava/lang/Throwable;" } : Jvm.MethodName)) ∈ go_T := go_t4 (List.mem_of_getElem? (i := 44) rfl) rfl
theorem tw_4_45 : (Jvm.Cond.lays "java/lang/IndexOutOfBoundsException" "java/lang/Throwable" "cause" "Ljava/lang/Throwable;") ∈ go_T := go_t4 (List.mem_of_getElem? (i := 45) rfl) rfl
theorem tw_4_46 : (Jvm.Cond.lays "java/lang/IndexOutOfBoundsException" "java/lang/Throwable" "stackTrace" "[Ljava/lang/StackTraceElement;") ∈ go_T := go_t4 (List.mem_of_getElem? (i := 46) rfl) rfl
theorem tw_4_47 : (Jvm.Cond.lays "java/lang/IndexOutOfBoundsException" "java/lang/Throwable" "suppressedExceptions" "Ljava/util/List;") ∈ go_T := go_t4 (List.mem_of_getElem? (i := 47) rfl) rfl
theorem tw_4_48 : (Jvm.Cond.lays "java/lang/IndexOutOfBoundsException" "java/lang/Throwable" "detailMessage" "Ljava/lang/String;") ∈ go_T := go_t4 (List.mem_of_getElem? (i := 48) rfl) rfl
theorem tw_4_49 : (Jvm.Cond.lays "java/lang/IndexOutOfBoundsException" "java/lang/Throwable" "backtrace" "Ljava/lang/Object;") ∈ go_T := go_t4 (List.mem_of_getElem? (i := 49) rfl) rfl
theorem tw_4_50 : (Jvm.Cond.methodLink "PromotedNumbers" (118 : Nat) ({ cls := "java/lang/IndexOutOfBoundsException", name := "<init>", desc := "()V" } : Jvm.MethodName)) ∈ go_T := go_t4 (List.mem_of_getElem? (i := 50) rfl) rfl
theorem tw_4_51 : (Jvm.Cond.instanceMethod ({ cls := "java/lang/IndexOutOfBoundsException", name := "<init>", desc := "()V" } : Jvm.MethodName)) ∈ go_T := go_t4 (List.mem_of_getElem? (i := 51) rfl) rfl
theorem tw_4_52 : (Jvm.Cond.code ({ cls := "java/lang/IndexOutOfBoundsException", name := "<init>", desc := "()V" } : Jvm.MethodName) prog_16_method_1_code (1 : Nat) (Option.none : Option Jvm.ClassFile.FieldType)) ∈ go_T := go_t4 (List.mem_of_getElem? (i := 52) rfl) rfl
theorem tw_4_53 : (Jvm.Cond.methodLink "java/lang/IndexOutOfBoundsException" (1 : Nat) ({ cls := "java/lang/RuntimeException", name := "<init>", desc := "()V" } : Jvm.MethodName)) ∈ go_T := go_t4 (List.mem_of_getElem? (i := 53) rfl) rfl
theorem tw_4_54 : (Jvm.Cond.lays "java/lang/IndexOutOfBoundsException" "java/lang/Throwable" "depth" "I") ∈ go_T := go_t4 (List.mem_of_getElem? (i := 54) rfl) rfl
theorem tw_4_55 : (Jvm.Cond.superclass "java/lang/IndexOutOfBoundsException" "java/lang/RuntimeException") ∈ go_T := go_t4 (List.mem_of_getElem? (i := 55) rfl) rfl
theorem tw_4_56 : (Jvm.Cond.methodLink "PromotedNumbersLaw" (83 : Nat) ({ cls := "PromotedNumbersLaw", name := "against", desc := "(LPromotedNumbers;I[J)I" } : Jvm.MethodName)) ∈ go_T := go_t4 (List.mem_of_getElem? (i := 56) rfl) rfl
theorem tw_4_57 : (Jvm.Cond.static ({ cls := "PromotedNumbersLaw", name := "against", desc := "(LPromotedNumbers;I[J)I" } : Jvm.MethodName)) ∈ go_T := go_t4 (List.mem_of_getElem? (i := 57) rfl) rfl
theorem tw_4_59 : (Jvm.Cond.methodLink "PromotedNumbersLaw" (27 : Nat) ({ cls := "PromotedNumbers", name := "against", desc := "(I)I" } : Jvm.MethodName)) ∈ go_T := go_t4 (List.mem_of_getElem? (i := 59) rfl) rfl
theorem tw_4_60 : (Jvm.Cond.instanceMethod ({ cls := "PromotedNumbers", name := "against", desc := "(I)I" } : Jvm.MethodName)) ∈ go_T := go_t4 (List.mem_of_getElem? (i := 60) rfl) rfl
theorem tw_4_61 : (Jvm.Cond.selects "PromotedNumbers" ({ cls := "PromotedNumbers", name := "against", desc := "(I)I" } : Jvm.MethodName) ({ cls := "PromotedNumbers", name := "against", desc := "(I)I" } : Jvm.MethodName)) ∈ go_T := go_t4 (List.mem_of_getElem? (i := 61) rfl) rfl
theorem tw_4_62 : (Jvm.Cond.code ({ cls := "PromotedNumbers", name := "against", desc := "(I)I" } : Jvm.MethodName) prog_1_method_11_code (2 : Nat) (Option.some Jvm.ClassFile.FieldType.int)) ∈ go_T := go_t4 (List.mem_of_getElem? (i := 62) rfl) rfl
theorem tw_4_63 : (Jvm.Cond.methodLink "PromotedNumbers" (110 : Nat) ({ cls := "PromotedNumbers$Calculator", name := "compare", desc := "(LPromotedNumbers$Fraction;LPromotedNumbers$Fraction;)I" } : Jvm.MethodName)) ∈ go_T := go_t4 (List.mem_of_getElem? (i := 63) rfl) rfl
theorem tw_4_64 : (Jvm.Cond.methodLink "PromotedNumbersLaw" (86 : Nat) ({ cls := "PromotedNumbersLaw", name := "fetch", desc := "(LPromotedNumbers;I[J)I" } : Jvm.MethodName)) ∈ go_T := go_t4 (List.mem_of_getElem? (i := 64) rfl) rfl
theorem tw_4_65 : (Jvm.Cond.static ({ cls := "PromotedNumbersLaw", name := "fetch", desc := "(LPromotedNumbers;I[J)I" } : Jvm.MethodName)) ∈ go_T := go_t4 (List.mem_of_getElem? (i := 65) rfl) rfl
theorem tw_4_67 : (Jvm.Cond.methodLink "PromotedNumbersLaw" (30 : Nat) ({ cls := "PromotedNumbers", name := "fetch", desc := "(I)I" } : Jvm.MethodName)) ∈ go_T := go_t4 (List.mem_of_getElem? (i := 67) rfl) rfl
theorem tw_4_68 : (Jvm.Cond.instanceMethod ({ cls := "PromotedNumbers", name := "fetch", desc := "(I)I" } : Jvm.MethodName)) ∈ go_T := go_t4 (List.mem_of_getElem? (i := 68) rfl) rfl
theorem tw_4_69 : (Jvm.Cond.selects "PromotedNumbers" ({ cls := "PromotedNumbers", name := "fetch", desc := "(I)I" } : Jvm.MethodName) ({ cls := "PromotedNumbers", name := "fetch", desc := "(I)I" } : Jvm.MethodName)) ∈ go_T := go_t4 (List.mem_of_getElem? (i := 69) rfl) rfl
theorem tw_4_70 : (Jvm.Cond.code ({ cls := "PromotedNumbers", name := "fetch", desc := "(I)I" } : Jvm.MethodName) prog_1_method_12_code (2 : Nat) (Option.some Jvm.ClassFile.FieldType.int)) ∈ go_T := go_t4 (List.mem_of_getElem? (i := 70) rfl) rfl
theorem tw_4_71 : (Jvm.Cond.classLink "PromotedNumbersLaw" (34 : Nat) "PromotedNumbersModel") ∈ go_T := go_t4 (List.mem_of_getElem? (i := 71) rfl) rfl
theorem tw_4_72 : (Jvm.Cond.instantiable "PromotedNumbersModel" (13 : Nat)) ∈ go_T := go_t4 (List.mem_of_getElem? (i := 72) rfl) rfl
theorem tw_4_73 : (Jvm.Cond.methodLink "PromotedNumbersLaw" (36 : Nat) ({ cls := "PromotedNumbersModel", name := "<init>", desc := "()V" } : Jvm.MethodName)) ∈ go_T := go_t4 (List.mem_of_getElem? (i := 73) rfl) rfl
theorem tw_4_74 : (Jvm.Cond.instanceMethod ({ cls := "PromotedNumbersModel", name := "<init>", desc := "()V" } : Jvm.MethodName)) ∈ go_T := go_t4 (List.mem_of_getElem? (i := 74) rfl) rfl
theorem tw_4_75 : (Jvm.Cond.code ({ cls := "PromotedNumbersModel", name := "<init>", desc := "()V" } : Jvm.MethodName) prog_10_method_1_code (2 : Nat) (Option.none : Option Jvm.ClassFile.FieldType)) ∈ go_T := go_t4 (List.mem_of_getElem? (i := 75) rfl) rfl
theorem tw_4_76 : (Jvm.Cond.methodLink "PromotedNumbersModel" (1 : Nat) ({ cls := "java/lang/Object", name := "<init>", desc := "()V" } : Jvm.MethodName)) ∈ go_T := go_t4 (List.mem_of_getElem? (i := 76) rfl) rfl
theorem tw_4_77 : (Jvm.Cond.methodLink "PromotedNumbersModel" (35 : Nat) ({ cls := "PromotedNumbersModel", name := "set", desc := "(II)V" } : Jvm.MethodName)) ∈ go_T := go_t4 (List.mem_of_getElem? (i := 77) rfl) rfl
theorem tw_4_79 : (Jvm.Cond.instanceMethod ({ cls := "PromotedNumbersModel", name := "set", desc := "(II)V" } : Jvm.MethodName)) ∈ go_T := go_t4 (List.mem_of_getElem? (i := 79) rfl) rfl
theorem tw_4_80 : (Jvm.Cond.code ({ cls := "PromotedNumbersModel", name := "set", desc := "(II)V" } : Jvm.MethodName) prog_10_method_3_code (4 : Nat) (Option.none : Option Jvm.ClassFile.FieldType)) ∈ go_T := go_t4 (List.mem_of_getElem? (i := 80) rfl) rfl
theorem tw_4_81 : (Jvm.Cond.methodLink "PromotedNumbersModel" (39 : Nat) ({ cls := "PromotedNumbersModel", name := "addTo", desc := "(II)V" } : Jvm.MethodName)) ∈ go_T := go_t4 (List.mem_of_getElem? (i := 81) rfl) rfl
theorem tw_4_83 : (Jvm.Cond.instanceMethod ({ cls := "PromotedNumbersModel", name := "addTo", desc := "(II)V" } : Jvm.MethodName)) ∈ go_T := go_t4 (List.mem_of_getElem? (i := 83) rfl) rfl
theorem tw_4_84 : (Jvm.Cond.code ({ cls := "PromotedNumbersModel", name := "addTo", desc := "(II)V" } : Jvm.MethodName) prog_10_method_7_code (7 : Nat) (Option.none : Option Jvm.ClassFile.FieldType)) ∈ go_T := go_t4 (List.mem_of_getElem? (i := 84) rfl) rfl
theorem tw_4_85 : (Jvm.Cond.methodLink "PromotedNumbersModel" (45 : Nat) ({ cls := "PromotedNumbersModel", name := "trim", desc := "(II)V" } : Jvm.MethodName)) ∈ go_T := go_t4 (List.mem_of_getElem? (i := 85) rfl) rfl
theorem tw_4_87 : (Jvm.Cond.instanceMethod ({ cls := "PromotedNumbersModel", name := "trim", desc := "(II)V" } : Jvm.MethodName)) ∈ go_T := go_t4 (List.mem_of_getElem? (i := 87) rfl) rfl
theorem tw_4_88 : (Jvm.Cond.code ({ cls := "PromotedNumbersModel", name := "trim", desc := "(II)V" } : Jvm.MethodName) prog_10_method_5_code (4 : Nat) (Option.none : Option Jvm.ClassFile.FieldType)) ∈ go_T := go_t4 (List.mem_of_getElem? (i := 88) rfl) rfl
theorem tw_4_89 : (Jvm.Cond.fieldLink "PromotedNumbersModel" (42 : Nat) "PromotedNumbersModel" "code" "I") ∈ go_T := go_t4 (List.mem_of_getElem? (i := 89) rfl) rfl
theorem tw_4_90 : (Jvm.Cond.fieldLink "PromotedNumbersModel" (93 : Nat) "PromotedNumbersModel" "typed" "I") ∈ go_T := go_t4 (List.mem_of_getElem? (i := 90) rfl) rfl
theorem tw_4_91 : (Jvm.Cond.fieldLink "PromotedNumbersModel" (7 : Nat) "PromotedNumbersModel" "text" "[I") ∈ go_T := go_t4 (List.mem_of_getElem? (i := 91) rfl) rfl
theorem tw_4_92 : (Jvm.Cond.fieldLink "PromotedNumbersModel" (13 : Nat) "PromotedNumbersModel" "told" "I") ∈ go_T := go_t4 (List.mem_of_getElem? (i := 92) rfl) rfl
theorem tw_4_93 : (Jvm.Cond.fieldLink "PromotedNumbersModel" (17 : Nat) "PromotedNumbersModel" "digits" "[I") ∈ go_T := go_t4 (List.mem_of_getElem? (i := 93) rfl) rfl
theorem tw_4_94 : (Jvm.Cond.fieldLink "PromotedNumbersModel" (20 : Nat) "PromotedNumbersModel" "used" "[I") ∈ go_T := go_t4 (List.mem_of_getElem? (i := 94) rfl) rfl
theorem tw_4_95 : (Jvm.Cond.fieldLink "PromotedNumbersModel" (23 : Nat) "PromotedNumbersModel" "signs" "[I") ∈ go_T := go_t4 (List.mem_of_getElem? (i := 95) rfl) rfl
theorem tw_4_96 : (Jvm.Cond.fieldLink "PromotedNumbersModel" (26 : Nat) "PromotedNumbersModel" "ops" "[I") ∈ go_T := go_t4 (List.mem_of_getElem? (i := 96) rfl) rfl
theorem tw_4_97 : (Jvm.Cond.fieldLink "PromotedNumbersModel" (29 : Nat) "PromotedNumbersModel" "counts" "[I") ∈ go_T := go_t4 (List.mem_of_getElem? (i := 97) rfl) rfl
theorem tw_4_98 : (Jvm.Cond.fieldLink "PromotedNumbersModel" (32 : Nat) "PromotedNumbersModel" "bases" "[I") ∈ go_T := go_t4 (List.mem_of_getElem? (i := 98) rfl) rfl
theorem tw_4_99 : (Jvm.Cond.fieldLink "PromotedNumbersModel" (103 : Nat) "PromotedNumbersModel" "open" "I") ∈ go_T := go_t4 (List.mem_of_getElem? (i := 99) rfl) rfl
theorem tw_4_100 : (Jvm.Cond.fieldLink "PromotedNumbersModel" (124 : Nat) "PromotedNumbersModel" "top" "I") ∈ go_T := go_t4 (List.mem_of_getElem? (i := 100) rfl) rfl
theorem tw_4_101 : (Jvm.Cond.fieldLink "PromotedNumbersModel" (121 : Nat) "PromotedNumbersModel" "at" "I") ∈ go_T := go_t4 (List.mem_of_getElem? (i := 101) rfl) rfl
theorem tw_4_102 : (Jvm.Cond.lays "PromotedNumbersModel" "PromotedNumbersModel" "code" "I") ∈ go_T := go_t4 (List.mem_of_getElem? (i := 102) rfl) rfl
theorem tw_4_104 : (Jvm.Cond.lays "PromotedNumbersModel" "PromotedNumbersModel" "typed" "I") ∈ go_T := go_t4 (List.mem_of_getElem? (i := 104) rfl) rfl
theorem tw_4_106 : (Jvm.Cond.laysFinal "PromotedNumbersModel" "PromotedNumbersModel" "text" "[I") ∈ go_T := go_t4 (List.mem_of_getElem? (i := 106) rfl) rfl
theorem tw_4_108 : (Jvm.Cond.lays "PromotedNumbersModel" "PromotedNumbersModel" "told" "I") ∈ go_T := go_t4 (List.mem_of_getElem? (i := 108) rfl) rfl
theorem tw_4_110 : (Jvm.Cond.laysFinal "PromotedNumbersModel" "PromotedNumbersModel" "digits" "[I") ∈ go_T := go_t4 (List.mem_of_getElem? (i := 110) rfl) rfl
theorem tw_4_112 : (Jvm.Cond.laysFinal "PromotedNumbersModel" "PromotedNumbersModel" "used" "[I") ∈ go_T := go_t4 (List.mem_of_getElem? (i := 112) rfl) rfl
theorem tw_4_114 : (Jvm.Cond.laysFinal "PromotedNumbersModel" "PromotedNumbersModel" "signs" "[I") ∈ go_T := go_t4 (List.mem_of_getElem? (i := 114) rfl) rfl
theorem tw_4_116 : (Jvm.Cond.laysFinal "PromotedNumbersModel" "PromotedNumbersModel" "ops" "[I") ∈ go_T := go_t4 (List.mem_of_getElem? (i := 116) rfl) rfl
theorem tw_4_118 : (Jvm.Cond.laysFinal "PromotedNumbersModel" "PromotedNumbersModel" "counts" "[I") ∈ go_T := go_t4 (List.mem_of_getElem? (i := 118) rfl) rfl
theorem tw_4_120 : (Jvm.Cond.laysFinal "PromotedNumbersModel" "PromotedNumbersModel" "bases" "[I") ∈ go_T := go_t4 (List.mem_of_getElem? (i := 120) rfl) rfl
theorem tw_4_122 : (Jvm.Cond.lays "PromotedNumbersModel" "PromotedNumbersModel" "open" "I") ∈ go_T := go_t4 (List.mem_of_getElem? (i := 122) rfl) rfl
theorem tw_4_124 : (Jvm.Cond.lays "PromotedNumbersModel" "PromotedNumbersModel" "top" "I") ∈ go_T := go_t4 (List.mem_of_getElem? (i := 124) rfl) rfl
theorem tw_4_126 : (Jvm.Cond.lays "PromotedNumbersModel" "PromotedNumbersModel" "at" "I") ∈ go_T := go_t4 (List.mem_of_getElem? (i := 126) rfl) rfl
theorem tw_4_128 : (Jvm.Cond.superclass "PromotedNumbersModel" "java/lang/Object") ∈ go_T := go_t4 (List.mem_of_getElem? (i := 128) rfl) rfl
theorem tw_4_129 : (Jvm.Cond.methodLink "PromotedNumbersLaw" (58 : Nat) ({ cls := "PromotedNumbersModel", name := "thrown", desc := "()I" } : Jvm.MethodName)) ∈ go_T := go_t4 (List.mem_of_getElem? (i := 129) rfl) rfl
theorem tw_4_130 : (Jvm.Cond.instanceMethod ({ cls := "PromotedNumbersModel", name := "thrown", desc := "()I" } : Jvm.MethodName)) ∈ go_T := go_t4 (List.mem_of_getElem? (i := 130) rfl) rfl
theorem tw_4_131 : (Jvm.Cond.selects "PromotedNumbersModel" ({ cls := "PromotedNumbersModel", name := "thrown", desc := "()I" } : Jvm.MethodName) ({ cls := "PromotedNumbersModel", name := "thrown", desc := "()I" } : Jvm.MethodName)) ∈ go_T := go_t4 (List.mem_of_getElem? (i := 131) rfl) rfl
theorem tw_4_132 : (Jvm.Cond.code ({ cls := "PromotedNumbersModel", name := "thrown", desc := "()I" } : Jvm.MethodName) prog_10_method_2_code (1 : Nat) (Option.some Jvm.ClassFile.FieldType.int)) ∈ go_T := go_t4 (List.mem_of_getElem? (i := 132) rfl) rfl
theorem tw_4_133 : (Jvm.Cond.methodLink "PromotedNumbersLaw" (43 : Nat) ({ cls := "PromotedNumbersModel", name := "type", desc := "(J)Z" } : Jvm.MethodName)) ∈ go_T := go_t4 (List.mem_of_getElem? (i := 133) rfl) rfl
theorem tw_4_134 : (Jvm.Cond.instanceMethod ({ cls := "PromotedNumbersModel", name := "type", desc := "(J)Z" } : Jvm.MethodName)) ∈ go_T := go_t4 (List.mem_of_getElem? (i := 134) rfl) rfl
theorem tw_4_135 : (Jvm.Cond.selects "PromotedNumbersModel" ({ cls := "PromotedNumbersModel", name := "type", desc := "(J)Z" } : Jvm.MethodName) ({ cls := "PromotedNumbersModel", name := "type", desc := "(J)Z" } : Jvm.MethodName)) ∈ go_T := go_t4 (List.mem_of_getElem? (i := 135) rfl) rfl
theorem tw_4_136 : (Jvm.Cond.code ({ cls := "PromotedNumbersModel", name := "type", desc := "(J)Z" } : Jvm.MethodName) prog_10_method_26_code (6 : Nat) (Option.some Jvm.ClassFile.FieldType.boolean)) ∈ go_T := go_t4 (List.mem_of_getElem? (i := 136) rfl) rfl
theorem tw_4_137 : (Jvm.Cond.constantLong "PromotedNumbersModel" (91 : Nat) (255 : Int64)) ∈ go_T := go_t4 (List.mem_of_getElem? (i := 137) rfl) rfl
theorem tw_4_138 : (Jvm.Cond.methodLink "PromotedNumbersLaw" (47 : Nat) ({ cls := "PromotedNumbersModel", name := "erase", desc := "()I" } : Jvm.MethodName)) ∈ go_T := go_t4 (List.mem_of_getElem? (i := 138) rfl) rfl
theorem tw_4_139 : (Jvm.Cond.instanceMethod ({ cls := "PromotedNumbersModel", name := "erase", desc := "()I" } : Jvm.MethodName)) ∈ go_T := go_t4 (List.mem_of_getElem? (i := 139) rfl) rfl
theorem tw_4_140 : (Jvm.Cond.selects "PromotedNumbersModel" ({ cls := "PromotedNumbersModel", name := "erase", desc := "()I" } : Jvm.MethodName) ({ cls := "PromotedNumbersModel", name := "erase", desc := "()I" } : Jvm.MethodName)) ∈ go_T := go_t4 (List.mem_of_getElem? (i := 140) rfl) rfl
theorem tw_4_141 : (Jvm.Cond.code ({ cls := "PromotedNumbersModel", name := "erase", desc := "()I" } : Jvm.MethodName) prog_10_method_27_code (2 : Nat) (Option.some Jvm.ClassFile.FieldType.int)) ∈ go_T := go_t4 (List.mem_of_getElem? (i := 141) rfl) rfl
theorem tw_4_142 : (Jvm.Cond.methodLink "PromotedNumbersLaw" (51 : Nat) ({ cls := "PromotedNumbersModel", name := "fault", desc := "()I" } : Jvm.MethodName)) ∈ go_T := go_t4 (List.mem_of_getElem? (i := 142) rfl) rfl
theorem tw_4_143 : (Jvm.Cond.instanceMethod ({ cls := "PromotedNumbersModel", name := "fault", desc := "()I" } : Jvm.MethodName)) ∈ go_T := go_t4 (List.mem_of_getElem? (i := 143) rfl) rfl
theorem tw_4_144 : (Jvm.Cond.selects "PromotedNumbersModel" ({ cls := "PromotedNumbersModel", name := "fault", desc := "()I" } : Jvm.MethodName) ({ cls := "PromotedNumbersModel", name := "fault", desc := "()I" } : Jvm.MethodName)) ∈ go_T := go_t4 (List.mem_of_getElem? (i := 144) rfl) rfl
theorem tw_4_145 : (Jvm.Cond.code ({ cls := "PromotedNumbersModel", name := "fault", desc := "()I" } : Jvm.MethodName) prog_10_method_28_code (1 : Nat) (Option.some Jvm.ClassFile.FieldType.int)) ∈ go_T := go_t4 (List.mem_of_getElem? (i := 145) rfl) rfl
theorem tw_4_146 : (Jvm.Cond.methodLink "PromotedNumbersLaw" (57 : Nat) ({ cls := "PromotedNumbersModel", name := "work", desc := "()I" } : Jvm.MethodName)) ∈ go_T := go_t4 (List.mem_of_getElem? (i := 146) rfl) rfl
theorem tw_4_147 : (Jvm.Cond.instanceMethod ({ cls := "PromotedNumbersModel", name := "work", desc := "()I" } : Jvm.MethodName)) ∈ go_T := go_t4 (List.mem_of_getElem? (i := 147) rfl) rfl
theorem tw_4_148 : (Jvm.Cond.selects "PromotedNumbersModel" ({ cls := "PromotedNumbersModel", name := "work", desc := "()I" } : Jvm.MethodName) ({ cls := "PromotedNumbersModel", name := "work", desc := "()I" } : Jvm.MethodName)) ∈ go_T := go_t4 (List.mem_of_getElem? (i := 148) rfl) rfl
theorem tw_4_149 : (Jvm.Cond.code ({ cls := "PromotedNumbersModel", name := "work", desc := "()I" } : Jvm.MethodName) prog_10_method_47_code (2 : Nat) (Option.some Jvm.ClassFile.FieldType.int)) ∈ go_T := go_t4 (List.mem_of_getElem? (i := 149) rfl) rfl
theorem tw_4_150 : (Jvm.Cond.methodLink "PromotedNumbersModel" (176 : Nat) ({ cls := "PromotedNumbersModel", name := "faultOf", desc := "()I" } : Jvm.MethodName)) ∈ go_T := go_t4 (List.mem_of_getElem? (i := 150) rfl) rfl
theorem tw_4_152 : (Jvm.Cond.instanceMethod ({ cls := "PromotedNumbersModel", name := "faultOf", desc := "()I" } : Jvm.MethodName)) ∈ go_T := go_t4 (List.mem_of_getElem? (i := 152) rfl) rfl
theorem tw_4_153 : (Jvm.Cond.code ({ cls := "PromotedNumbersModel", name := "faultOf", desc := "()I" } : Jvm.MethodName) prog_10_method_36_code (2 : Nat) (Option.some Jvm.ClassFile.FieldType.int)) ∈ go_T := go_t4 (List.mem_of_getElem? (i := 153) rfl) rfl
theorem tw_4_154 : (Jvm.Cond.methodLink "PromotedNumbersModel" (115 : Nat) ({ cls := "PromotedNumbersModel", name := "overStart", desc := "(I)I" } : Jvm.MethodName)) ∈ go_T := go_t4 (List.mem_of_getElem? (i := 154) rfl) rfl
theorem tw_4_156 : (Jvm.Cond.instanceMethod ({ cls := "PromotedNumbersModel", name := "overStart", desc := "(I)I" } : Jvm.MethodName)) ∈ go_T := go_t4 (List.mem_of_getElem? (i := 156) rfl) rfl
theorem tw_4_157 : (Jvm.Cond.code ({ cls := "PromotedNumbersModel", name := "overStart", desc := "(I)I" } : Jvm.MethodName) prog_10_method_34_code (4 : Nat) (Option.some Jvm.ClassFile.FieldType.int)) ∈ go_T := go_t4 (List.mem_of_getElem? (i := 157) rfl) rfl
theorem tw_4_158 : (Jvm.Cond.methodLink "PromotedNumbersModel" (96 : Nat) ({ cls := "PromotedNumbersModel", name := "charAt", desc := "(I)I" } : Jvm.MethodName)) ∈ go_T := go_t4 (List.mem_of_getElem? (i := 158) rfl) rfl
theorem tw_4_160 : (Jvm.Cond.instanceMethod ({ cls := "PromotedNumbersModel", name := "charAt", desc := "(I)I" } : Jvm.MethodName)) ∈ go_T := go_t4 (List.mem_of_getElem? (i := 160) rfl) rfl
theorem tw_4_161 : (Jvm.Cond.code ({ cls := "PromotedNumbersModel", name := "charAt", desc := "(I)I" } : Jvm.MethodName) prog_10_method_29_code (2 : Nat) (Option.some Jvm.ClassFile.FieldType.int)) ∈ go_T := go_t4 (List.mem_of_getElem? (i := 161) rfl) rfl
theorem tw_4_162 : (Jvm.Cond.methodLink "PromotedNumbersModel" (106 : Nat) ({ cls := "PromotedNumbersModel", name := "isOp", desc := "(I)Z" } : Jvm.MethodName)) ∈ go_T := go_t4 (List.mem_of_getElem? (i := 162) rfl) rfl
theorem tw_4_163 : (Jvm.Cond.static ({ cls := "PromotedNumbersModel", name := "isOp", desc := "(I)Z" } : Jvm.MethodName)) ∈ go_T := go_t4 (List.mem_of_getElem? (i := 163) rfl) rfl
theorem tw_4_164 : (Jvm.Cond.code ({ cls := "PromotedNumbersModel", name := "isOp", desc := "(I)Z" } : Jvm.MethodName) prog_10_method_33_code (2 : Nat) (Option.some Jvm.ClassFile.FieldType.boolean)) ∈ go_T := go_t4 (List.mem_of_getElem? (i := 164) rfl) rfl
theorem tw_4_165 : (Jvm.Cond.methodLink "PromotedNumbersModel" (109 : Nat) ({ cls := "PromotedNumbersModel", name := "isDigit", desc := "(I)Z" } : Jvm.MethodName)) ∈ go_T := go_t4 (List.mem_of_getElem? (i := 165) rfl) rfl
theorem tw_4_167 : (Jvm.Cond.instanceMethod ({ cls := "PromotedNumbersModel", name := "isDigit", desc := "(I)Z" } : Jvm.MethodName)) ∈ go_T := go_t4 (List.mem_of_getElem? (i := 167) rfl) rfl
theorem tw_4_168 : (Jvm.Cond.code ({ cls := "PromotedNumbersModel", name := "isDigit", desc := "(I)Z" } : Jvm.MethodName) prog_10_method_30_code (2 : Nat) (Option.some Jvm.ClassFile.FieldType.boolean)) ∈ go_T := go_t4 (List.mem_of_getElem? (i := 168) rfl) rfl
theorem tw_4_169 : (Jvm.Cond.methodLink "PromotedNumbersModel" (118 : Nat) ({ cls := "PromotedNumbersModel", name := "overEnds", desc := "(I)I" } : Jvm.MethodName)) ∈ go_T := go_t4 (List.mem_of_getElem? (i := 169) rfl) rfl
theorem tw_4_171 : (Jvm.Cond.instanceMethod ({ cls := "PromotedNumbersModel", name := "overEnds", desc := "(I)I" } : Jvm.MethodName)) ∈ go_T := go_t4 (List.mem_of_getElem? (i := 171) rfl) rfl
theorem tw_4_172 : (Jvm.Cond.code ({ cls := "PromotedNumbersModel", name := "overEnds", desc := "(I)I" } : Jvm.MethodName) prog_10_method_35_code (3 : Nat) (Option.some Jvm.ClassFile.FieldType.int)) ∈ go_T := go_t4 (List.mem_of_getElem? (i := 172) rfl) rfl
theorem tw_4_173 : (Jvm.Cond.methodLink "PromotedNumbersModel" (100 : Nat) ({ cls := "PromotedNumbersModel", name := "least", desc := "(I)I" } : Jvm.MethodName)) ∈ go_T := go_t4 (List.mem_of_getElem? (i := 173) rfl) rfl
theorem tw_4_174 : (Jvm.Cond.static ({ cls := "PromotedNumbersModel", name := "least", desc := "(I)I" } : Jvm.MethodName)) ∈ go_T := go_t4 (List.mem_of_getElem? (i := 174) rfl) rfl
theorem tw_4_175 : (Jvm.Cond.code ({ cls := "PromotedNumbersModel", name := "least", desc := "(I)I" } : Jvm.MethodName) prog_10_method_31_code (1 : Nat) (Option.some Jvm.ClassFile.FieldType.int)) ∈ go_T := go_t4 (List.mem_of_getElem? (i := 175) rfl) rfl
theorem tw_4_176 : (Jvm.Cond.methodLink "PromotedNumbersModel" (112 : Nat) ({ cls := "PromotedNumbersModel", name := "most", desc := "(I)I" } : Jvm.MethodName)) ∈ go_T := go_t4 (List.mem_of_getElem? (i := 176) rfl) rfl
theorem tw_4_177 : (Jvm.Cond.static ({ cls := "PromotedNumbersModel", name := "most", desc := "(I)I" } : Jvm.MethodName)) ∈ go_T := go_t4 (List.mem_of_getElem? (i := 177) rfl) rfl
theorem tw_4_178 : (Jvm.Cond.code ({ cls := "PromotedNumbersModel", name := "most", desc := "(I)I" } : Jvm.MethodName) prog_10_method_32_code (1 : Nat) (Option.some Jvm.ClassFile.FieldType.int)) ∈ go_T := go_t4 (List.mem_of_getElem? (i := 178) rfl) rfl
theorem tw_4_179 : (Jvm.Cond.methodLink "PromotedNumbersModel" (179 : Nat) ({ cls := "PromotedNumbersModel", name := "workOut", desc := "()I" } : Jvm.MethodName)) ∈ go_T := go_t4 (List.mem_of_getElem? (i := 179) rfl) rfl
theorem tw_4_181 : (Jvm.Cond.instanceMethod ({ cls := "PromotedNumbersModel", name := "workOut", desc := "()I" } : Jvm.MethodName)) ∈ go_T := go_t4 (List.mem_of_getElem? (i := 181) rfl) rfl
theorem tw_4_182 : (Jvm.Cond.code ({ cls := "PromotedNumbersModel", name := "workOut", desc := "()I" } : Jvm.MethodName) prog_10_method_41_code (2 : Nat) (Option.some Jvm.ClassFile.FieldType.int)) ∈ go_T := go_t4 (List.mem_of_getElem? (i := 182) rfl) rfl
theorem tw_4_183 : (Jvm.Cond.methodLink "PromotedNumbersModel" (141 : Nat) ({ cls := "PromotedNumbersModel", name := "begin", desc := "()I" } : Jvm.MethodName)) ∈ go_T := go_t4 (List.mem_of_getElem? (i := 183) rfl) rfl
theorem tw_4_185 : (Jvm.Cond.instanceMethod ({ cls := "PromotedNumbersModel", name := "begin", desc := "()I" } : Jvm.MethodName)) ∈ go_T := go_t4 (List.mem_of_getElem? (i := 185) rfl) rfl
theorem tw_4_186 : (Jvm.Cond.code ({ cls := "PromotedNumbersModel", name := "begin", desc := "()I" } : Jvm.MethodName) prog_10_method_39_code (2 : Nat) (Option.some Jvm.ClassFile.FieldType.int)) ∈ go_T := go_t4 (List.mem_of_getElem? (i := 186) rfl) rfl
theorem tw_4_187 : (Jvm.Cond.methodLink "PromotedNumbersModel" (127 : Nat) ({ cls := "PromotedNumbersModel", name := "copyValue", desc := "(II)V" } : Jvm.MethodName)) ∈ go_T := go_t4 (List.mem_of_getElem? (i := 187) rfl) rfl
theorem tw_4_189 : (Jvm.Cond.instanceMethod ({ cls := "PromotedNumbersModel", name := "copyValue", desc := "(II)V" } : Jvm.MethodName)) ∈ go_T := go_t4 (List.mem_of_getElem? (i := 189) rfl) rfl
theorem tw_4_190 : (Jvm.Cond.code ({ cls := "PromotedNumbersModel", name := "copyValue", desc := "(II)V" } : Jvm.MethodName) prog_10_method_16_code (3 : Nat) (Option.none : Option Jvm.ClassFile.FieldType)) ∈ go_T := go_t4 (List.mem_of_getElem? (i := 190) rfl) rfl
theorem tw_4_191 : (Jvm.Cond.methodLink "PromotedNumbersModel" (62 : Nat) ({ cls := "PromotedNumbersModel", name := "copy", desc := "(II)V" } : Jvm.MethodName)) ∈ go_T := go_t4 (List.mem_of_getElem? (i := 191) rfl) rfl
theorem tw_4_193 : (Jvm.Cond.instanceMethod ({ cls := "PromotedNumbersModel", name := "copy", desc := "(II)V" } : Jvm.MethodName)) ∈ go_T := go_t4 (List.mem_of_getElem? (i := 193) rfl) rfl
theorem tw_4_194 : (Jvm.Cond.code ({ cls := "PromotedNumbersModel", name := "copy", desc := "(II)V" } : Jvm.MethodName) prog_10_method_4_code (4 : Nat) (Option.none : Option Jvm.ClassFile.FieldType)) ∈ go_T := go_t4 (List.mem_of_getElem? (i := 194) rfl) rfl
theorem tw_4_195 : (Jvm.Cond.methodLink "PromotedNumbersModel" (130 : Nat) ({ cls := "PromotedNumbersModel", name := "number", desc := "()I" } : Jvm.MethodName)) ∈ go_T := go_t4 (List.mem_of_getElem? (i := 195) rfl) rfl
theorem tw_4_197 : (Jvm.Cond.instanceMethod ({ cls := "PromotedNumbersModel", name := "number", desc := "()I" } : Jvm.MethodName)) ∈ go_T := go_t4 (List.mem_of_getElem? (i := 197) rfl) rfl
theorem tw_4_198 : (Jvm.Cond.code ({ cls := "PromotedNumbersModel", name := "number", desc := "()I" } : Jvm.MethodName) prog_10_method_38_code (2 : Nat) (Option.some Jvm.ClassFile.FieldType.int)) ∈ go_T := go_t4 (List.mem_of_getElem? (i := 198) rfl) rfl
theorem tw_4_199 : (Jvm.Cond.methodLink "PromotedNumbersModel" (51 : Nat) ({ cls := "PromotedNumbersModel", name := "times", desc := "(III)V" } : Jvm.MethodName)) ∈ go_T := go_t4 (List.mem_of_getElem? (i := 199) rfl) rfl
theorem tw_4_201 : (Jvm.Cond.instanceMethod ({ cls := "PromotedNumbersModel", name := "times", desc := "(III)V" } : Jvm.MethodName)) ∈ go_T := go_t4 (List.mem_of_getElem? (i := 201) rfl) rfl
theorem tw_4_202 : (Jvm.Cond.code ({ cls := "PromotedNumbersModel", name := "times", desc := "(III)V" } : Jvm.MethodName) prog_10_method_12_code (7 : Nat) (Option.none : Option Jvm.ClassFile.FieldType)) ∈ go_T := go_t4 (List.mem_of_getElem? (i := 202) rfl) rfl
theorem tw_4_203 : (Jvm.Cond.methodLink "PromotedNumbersModel" (55 : Nat) ({ cls := "PromotedNumbersModel", name := "compare", desc := "(II)I" } : Jvm.MethodName)) ∈ go_T := go_t4 (List.mem_of_getElem? (i := 203) rfl) rfl
theorem tw_4_205 : (Jvm.Cond.instanceMethod ({ cls := "PromotedNumbersModel", name := "compare", desc := "(II)I" } : Jvm.MethodName)) ∈ go_T := go_t4 (List.mem_of_getElem? (i := 205) rfl) rfl
theorem tw_4_206 : (Jvm.Cond.code ({ cls := "PromotedNumbersModel", name := "compare", desc := "(II)I" } : Jvm.MethodName) prog_10_method_6_code (4 : Nat) (Option.some Jvm.ClassFile.FieldType.int)) ∈ go_T := go_t4 (List.mem_of_getElem? (i := 206) rfl) rfl
theorem tw_4_207 : (Jvm.Cond.methodLink "PromotedNumbersModel" (144 : Nat) ({ cls := "PromotedNumbersModel", name := "goOn", desc := "()I" } : Jvm.MethodName)) ∈ go_T := go_t4 (List.mem_of_getElem? (i := 207) rfl) rfl
theorem tw_4_209 : (Jvm.Cond.instanceMethod ({ cls := "PromotedNumbersModel", name := "goOn", desc := "()I" } : Jvm.MethodName)) ∈ go_T := go_t4 (List.mem_of_getElem? (i := 209) rfl) rfl
theorem tw_4_210 : (Jvm.Cond.code ({ cls := "PromotedNumbersModel", name := "goOn", desc := "()I" } : Jvm.MethodName) prog_10_method_40_code (5 : Nat) (Option.some Jvm.ClassFile.FieldType.int)) ∈ go_T := go_t4 (List.mem_of_getElem? (i := 210) rfl) rfl
theorem tw_4_211 : (Jvm.Cond.methodLink "PromotedNumbersModel" (134 : Nat) ({ cls := "PromotedNumbersModel", name := "apply", desc := "(III)I" } : Jvm.MethodName)) ∈ go_T := go_t4 (List.mem_of_getElem? (i := 211) rfl) rfl
theorem tw_4_213 : (Jvm.Cond.instanceMethod ({ cls := "PromotedNumbersModel", name := "apply", desc := "(III)I" } : Jvm.MethodName)) ∈ go_T := go_t4 (List.mem_of_getElem? (i := 213) rfl) rfl
theorem tw_4_214 : (Jvm.Cond.code ({ cls := "PromotedNumbersModel", name := "apply", desc := "(III)I" } : Jvm.MethodName) prog_10_method_42_code (5 : Nat) (Option.some Jvm.ClassFile.FieldType.int)) ∈ go_T := go_t4 (List.mem_of_getElem? (i := 214) rfl) rfl
theorem tw_4_215 : (Jvm.Cond.methodLink "PromotedNumbersModel" (147 : Nat) ({ cls := "PromotedNumbersModel", name := "chain", desc := "(IIIII)I" } : Jvm.MethodName)) ∈ go_T := go_t4 (List.mem_of_getElem? (i := 215) rfl) rfl
theorem tw_4_217 : (Jvm.Cond.instanceMethod ({ cls := "PromotedNumbersModel", name := "chain", desc := "(IIIII)I" } : Jvm.MethodName)) ∈ go_T := go_t4 (List.mem_of_getElem? (i := 217) rfl) rfl
theorem tw_4_218 : (Jvm.Cond.code ({ cls := "PromotedNumbersModel", name := "chain", desc := "(IIIII)I" } : Jvm.MethodName) prog_10_method_43_code (9 : Nat) (Option.some Jvm.ClassFile.FieldType.int)) ∈ go_T := go_t4 (List.mem_of_getElem? (i := 218) rfl) rfl
theorem tw_4_219 : (Jvm.Cond.methodLink "PromotedNumbersModel" (164 : Nat) ({ cls := "PromotedNumbersModel", name := "setValue", desc := "(II)V" } : Jvm.MethodName)) ∈ go_T := go_t4 (List.mem_of_getElem? (i := 219) rfl) rfl
theorem tw_4_221 : (Jvm.Cond.instanceMethod ({ cls := "PromotedNumbersModel", name := "setValue", desc := "(II)V" } : Jvm.MethodName)) ∈ go_T := go_t4 (List.mem_of_getElem? (i := 221) rfl) rfl
theorem tw_4_222 : (Jvm.Cond.code ({ cls := "PromotedNumbersModel", name := "setValue", desc := "(II)V" } : Jvm.MethodName) prog_10_method_17_code (3 : Nat) (Option.none : Option Jvm.ClassFile.FieldType)) ∈ go_T := go_t4 (List.mem_of_getElem? (i := 222) rfl) rfl
theorem tw_4_223 : (Jvm.Cond.methodLink "PromotedNumbersModel" (167 : Nat) ({ cls := "PromotedNumbersModel", name := "sum", desc := "(III)I" } : Jvm.MethodName)) ∈ go_T := go_t4 (List.mem_of_getElem? (i := 223) rfl) rfl
theorem tw_4_225 : (Jvm.Cond.instanceMethod ({ cls := "PromotedNumbersModel", name := "sum", desc := "(III)I" } : Jvm.MethodName)) ∈ go_T := go_t4 (List.mem_of_getElem? (i := 225) rfl) rfl
theorem tw_4_226 : (Jvm.Cond.code ({ cls := "PromotedNumbersModel", name := "sum", desc := "(III)I" } : Jvm.MethodName) prog_10_method_21_code (6 : Nat) (Option.some Jvm.ClassFile.FieldType.int)) ∈ go_T := go_t4 (List.mem_of_getElem? (i := 226) rfl) rfl
theorem tw_4_227 : (Jvm.Cond.methodLink "PromotedNumbersModel" (82 : Nat) ({ cls := "PromotedNumbersModel", name := "multiply", desc := "(III)V" } : Jvm.MethodName)) ∈ go_T := go_t4 (List.mem_of_getElem? (i := 227) rfl) rfl
theorem tw_4_229 : (Jvm.Cond.instanceMethod ({ cls := "PromotedNumbersModel", name := "multiply", desc := "(III)V" } : Jvm.MethodName)) ∈ go_T := go_t4 (List.mem_of_getElem? (i := 229) rfl) rfl
theorem tw_4_230 : (Jvm.Cond.code ({ cls := "PromotedNumbersModel", name := "multiply", desc := "(III)V" } : Jvm.MethodName) prog_10_method_9_code (9 : Nat) (Option.none : Option Jvm.ClassFile.FieldType)) ∈ go_T := go_t4 (List.mem_of_getElem? (i := 230) rfl) rfl
theorem tw_4_231 : (Jvm.Cond.methodLink "PromotedNumbersModel" (85 : Nat) ({ cls := "PromotedNumbersModel", name := "lowest", desc := "(II)I" } : Jvm.MethodName)) ∈ go_T := go_t4 (List.mem_of_getElem? (i := 231) rfl) rfl
theorem tw_4_233 : (Jvm.Cond.instanceMethod ({ cls := "PromotedNumbersModel", name := "lowest", desc := "(II)I" } : Jvm.MethodName)) ∈ go_T := go_t4 (List.mem_of_getElem? (i := 233) rfl) rfl
theorem tw_4_234 : (Jvm.Cond.code ({ cls := "PromotedNumbersModel", name := "lowest", desc := "(II)I" } : Jvm.MethodName) prog_10_method_20_code (3 : Nat) (Option.some Jvm.ClassFile.FieldType.int)) ∈ go_T := go_t4 (List.mem_of_getElem? (i := 234) rfl) rfl
theorem tw_4_235 : (Jvm.Cond.methodLink "PromotedNumbersModel" (72 : Nat) ({ cls := "PromotedNumbersModel", name := "isOne", desc := "(I)Z" } : Jvm.MethodName)) ∈ go_T := go_t4 (List.mem_of_getElem? (i := 235) rfl) rfl
theorem tw_4_237 : (Jvm.Cond.instanceMethod ({ cls := "PromotedNumbersModel", name := "isOne", desc := "(I)Z" } : Jvm.MethodName)) ∈ go_T := go_t4 (List.mem_of_getElem? (i := 237) rfl) rfl
theorem tw_4_238 : (Jvm.Cond.code ({ cls := "PromotedNumbersModel", name := "isOne", desc := "(I)Z" } : Jvm.MethodName) prog_10_method_18_code (2 : Nat) (Option.some Jvm.ClassFile.FieldType.boolean)) ∈ go_T := go_t4 (List.mem_of_getElem? (i := 238) rfl) rfl
theorem tw_4_239 : (Jvm.Cond.methodLink "PromotedNumbersModel" (75 : Nat) ({ cls := "PromotedNumbersModel", name := "common", desc := "(II)V" } : Jvm.MethodName)) ∈ go_T := go_t4 (List.mem_of_getElem? (i := 239) rfl) rfl
theorem tw_5_1 : (Jvm.Cond.instanceMethod ({ cls := "PromotedNumbersModel", name := "common", desc := "(II)V" } : Jvm.MethodName)) ∈ go_T := go_t5 (List.mem_of_getElem? (i := 1) rfl) rfl
theorem tw_5_2 : (Jvm.Cond.code ({ cls := "PromotedNumbersModel", name := "common", desc := "(II)V" } : Jvm.MethodName) prog_10_method_15_code (6 : Nat) (Option.none : Option Jvm.ClassFile.FieldType)) ∈ go_T := go_t5 (List.mem_of_getElem? (i := 2) rfl) rfl
theorem tw_5_3 : (Jvm.Cond.methodLink "PromotedNumbersModel" (65 : Nat) ({ cls := "PromotedNumbersModel", name := "isEven", desc := "(I)Z" } : Jvm.MethodName)) ∈ go_T := go_t5 (List.mem_of_getElem? (i := 3) rfl) rfl
theorem tw_5_5 : (Jvm.Cond.instanceMethod ({ cls := "PromotedNumbersModel", name := "isEven", desc := "(I)Z" } : Jvm.MethodName)) ∈ go_T := go_t5 (List.mem_of_getElem? (i := 5) rfl) rfl
theorem tw_5_6 : (Jvm.Cond.code ({ cls := "PromotedNumbersModel", name := "isEven", desc := "(I)Z" } : Jvm.MethodName) prog_10_method_14_code (2 : Nat) (Option.some Jvm.ClassFile.FieldType.boolean)) ∈ go_T := go_t5 (List.mem_of_getElem? (i := 6) rfl) rfl
theorem tw_5_7 : (Jvm.Cond.methodLink "PromotedNumbersModel" (69 : Nat) ({ cls := "PromotedNumbersModel", name := "divideSmall", desc := "(II)I" } : Jvm.MethodName)) ∈ go_T := go_t5 (List.mem_of_getElem? (i := 7) rfl) rfl
theorem tw_5_9 : (Jvm.Cond.instanceMethod ({ cls := "PromotedNumbersModel", name := "divideSmall", desc := "(II)I" } : Jvm.MethodName)) ∈ go_T := go_t5 (List.mem_of_getElem? (i := 9) rfl) rfl
theorem tw_5_10 : (Jvm.Cond.code ({ cls := "PromotedNumbersModel", name := "divideSmall", desc := "(II)I" } : Jvm.MethodName) prog_10_method_11_code (6 : Nat) (Option.some Jvm.ClassFile.FieldType.int)) ∈ go_T := go_t5 (List.mem_of_getElem? (i := 10) rfl) rfl
theorem tw_5_11 : (Jvm.Cond.methodLink "PromotedNumbersModel" (59 : Nat) ({ cls := "PromotedNumbersModel", name := "takeOff", desc := "(II)V" } : Jvm.MethodName)) ∈ go_T := go_t5 (List.mem_of_getElem? (i := 11) rfl) rfl
theorem tw_5_13 : (Jvm.Cond.instanceMethod ({ cls := "PromotedNumbersModel", name := "takeOff", desc := "(II)V" } : Jvm.MethodName)) ∈ go_T := go_t5 (List.mem_of_getElem? (i := 13) rfl) rfl
theorem tw_5_14 : (Jvm.Cond.code ({ cls := "PromotedNumbersModel", name := "takeOff", desc := "(II)V" } : Jvm.MethodName) prog_10_method_8_code (6 : Nat) (Option.none : Option Jvm.ClassFile.FieldType)) ∈ go_T := go_t5 (List.mem_of_getElem? (i := 14) rfl) rfl
theorem tw_5_15 : (Jvm.Cond.methodLink "PromotedNumbersModel" (78 : Nat) ({ cls := "PromotedNumbersModel", name := "divide", desc := "(IIII)V" } : Jvm.MethodName)) ∈ go_T := go_t5 (List.mem_of_getElem? (i := 15) rfl) rfl
theorem tw_5_17 : (Jvm.Cond.instanceMethod ({ cls := "PromotedNumbersModel", name := "divide", desc := "(IIII)V" } : Jvm.MethodName)) ∈ go_T := go_t5 (List.mem_of_getElem? (i := 17) rfl) rfl
theorem tw_5_18 : (Jvm.Cond.code ({ cls := "PromotedNumbersModel", name := "divide", desc := "(IIII)V" } : Jvm.MethodName) prog_10_method_13_code (9 : Nat) (Option.none : Option Jvm.ClassFile.FieldType)) ∈ go_T := go_t5 (List.mem_of_getElem? (i := 18) rfl) rfl
theorem tw_5_19 : (Jvm.Cond.methodLink "PromotedNumbersModel" (48 : Nat) ({ cls := "PromotedNumbersModel", name := "shift", desc := "(II)V" } : Jvm.MethodName)) ∈ go_T := go_t5 (List.mem_of_getElem? (i := 19) rfl) rfl
theorem tw_5_21 : (Jvm.Cond.instanceMethod ({ cls := "PromotedNumbersModel", name := "shift", desc := "(II)V" } : Jvm.MethodName)) ∈ go_T := go_t5 (List.mem_of_getElem? (i := 21) rfl) rfl
theorem tw_5_22 : (Jvm.Cond.code ({ cls := "PromotedNumbersModel", name := "shift", desc := "(II)V" } : Jvm.MethodName) prog_10_method_10_code (4 : Nat) (Option.none : Option Jvm.ClassFile.FieldType)) ∈ go_T := go_t5 (List.mem_of_getElem? (i := 22) rfl) rfl
theorem tw_5_23 : (Jvm.Cond.methodLink "PromotedNumbersModel" (170 : Nat) ({ cls := "PromotedNumbersModel", name := "product", desc := "(II)I" } : Jvm.MethodName)) ∈ go_T := go_t5 (List.mem_of_getElem? (i := 23) rfl) rfl
theorem tw_5_25 : (Jvm.Cond.instanceMethod ({ cls := "PromotedNumbersModel", name := "product", desc := "(II)I" } : Jvm.MethodName)) ∈ go_T := go_t5 (List.mem_of_getElem? (i := 25) rfl) rfl
theorem tw_5_26 : (Jvm.Cond.code ({ cls := "PromotedNumbersModel", name := "product", desc := "(II)I" } : Jvm.MethodName) prog_10_method_22_code (4 : Nat) (Option.some Jvm.ClassFile.FieldType.int)) ∈ go_T := go_t5 (List.mem_of_getElem? (i := 26) rfl) rfl
theorem tw_5_27 : (Jvm.Cond.methodLink "PromotedNumbersModel" (173 : Nat) ({ cls := "PromotedNumbersModel", name := "ratio", desc := "(II)I" } : Jvm.MethodName)) ∈ go_T := go_t5 (List.mem_of_getElem? (i := 27) rfl) rfl
theorem tw_5_29 : (Jvm.Cond.instanceMethod ({ cls := "PromotedNumbersModel", name := "ratio", desc := "(II)I" } : Jvm.MethodName)) ∈ go_T := go_t5 (List.mem_of_getElem? (i := 29) rfl) rfl
theorem tw_5_30 : (Jvm.Cond.code ({ cls := "PromotedNumbersModel", name := "ratio", desc := "(II)I" } : Jvm.MethodName) prog_10_method_23_code (4 : Nat) (Option.some Jvm.ClassFile.FieldType.int)) ∈ go_T := go_t5 (List.mem_of_getElem? (i := 30) rfl) rfl
theorem tw_5_31 : (Jvm.Cond.methodLink "PromotedNumbersModel" (151 : Nat) ({ cls := "PromotedNumbersModel", name := "quotient", desc := "(IZ)I" } : Jvm.MethodName)) ∈ go_T := go_t5 (List.mem_of_getElem? (i := 31) rfl) rfl
theorem tw_5_33 : (Jvm.Cond.instanceMethod ({ cls := "PromotedNumbersModel", name := "quotient", desc := "(IZ)I" } : Jvm.MethodName)) ∈ go_T := go_t5 (List.mem_of_getElem? (i := 33) rfl) rfl
theorem tw_5_34 : (Jvm.Cond.code ({ cls := "PromotedNumbersModel", name := "quotient", desc := "(IZ)I" } : Jvm.MethodName) prog_10_method_44_code (5 : Nat) (Option.some Jvm.ClassFile.FieldType.int)) ∈ go_T := go_t5 (List.mem_of_getElem? (i := 34) rfl) rfl
theorem tw_5_35 : (Jvm.Cond.methodLink "PromotedNumbersModel" (88 : Nat) ({ cls := "PromotedNumbersModel", name := "isWhole", desc := "(I)Z" } : Jvm.MethodName)) ∈ go_T := go_t5 (List.mem_of_getElem? (i := 35) rfl) rfl
theorem tw_5_37 : (Jvm.Cond.instanceMethod ({ cls := "PromotedNumbersModel", name := "isWhole", desc := "(I)Z" } : Jvm.MethodName)) ∈ go_T := go_t5 (List.mem_of_getElem? (i := 37) rfl) rfl
theorem tw_5_38 : (Jvm.Cond.code ({ cls := "PromotedNumbersModel", name := "isWhole", desc := "(I)Z" } : Jvm.MethodName) prog_10_method_19_code (2 : Nat) (Option.some Jvm.ClassFile.FieldType.boolean)) ∈ go_T := go_t5 (List.mem_of_getElem? (i := 38) rfl) rfl
theorem tw_5_39 : (Jvm.Cond.methodLink "PromotedNumbersModel" (155 : Nat) ({ cls := "PromotedNumbersModel", name := "divisor", desc := "(II)I" } : Jvm.MethodName)) ∈ go_T := go_t5 (List.mem_of_getElem? (i := 39) rfl) rfl
theorem tw_5_41 : (Jvm.Cond.instanceMethod ({ cls := "PromotedNumbersModel", name := "divisor", desc := "(II)I" } : Jvm.MethodName)) ∈ go_T := go_t5 (List.mem_of_getElem? (i := 41) rfl) rfl
theorem tw_5_42 : (Jvm.Cond.code ({ cls := "PromotedNumbersModel", name := "divisor", desc := "(II)I" } : Jvm.MethodName) prog_10_method_45_code (4 : Nat) (Option.some Jvm.ClassFile.FieldType.int)) ∈ go_T := go_t5 (List.mem_of_getElem? (i := 42) rfl) rfl
theorem tw_5_43 : (Jvm.Cond.methodLink "PromotedNumbersModel" (158 : Nat) ({ cls := "PromotedNumbersModel", name := "power", desc := "(I)I" } : Jvm.MethodName)) ∈ go_T := go_t5 (List.mem_of_getElem? (i := 43) rfl) rfl
theorem tw_5_45 : (Jvm.Cond.instanceMethod ({ cls := "PromotedNumbersModel", name := "power", desc := "(I)I" } : Jvm.MethodName)) ∈ go_T := go_t5 (List.mem_of_getElem? (i := 45) rfl) rfl
theorem tw_5_46 : (Jvm.Cond.code ({ cls := "PromotedNumbersModel", name := "power", desc := "(I)I" } : Jvm.MethodName) prog_10_method_46_code (6 : Nat) (Option.some Jvm.ClassFile.FieldType.int)) ∈ go_T := go_t5 (List.mem_of_getElem? (i := 46) rfl) rfl
theorem tw_5_47 : (Jvm.Cond.methodLink "PromotedNumbersModel" (161 : Nat) ({ cls := "PromotedNumbersModel", name := "order", desc := "(II)I" } : Jvm.MethodName)) ∈ go_T := go_t5 (List.mem_of_getElem? (i := 47) rfl) rfl
theorem tw_5_49 : (Jvm.Cond.instanceMethod ({ cls := "PromotedNumbersModel", name := "order", desc := "(II)I" } : Jvm.MethodName)) ∈ go_T := go_t5 (List.mem_of_getElem? (i := 49) rfl) rfl
theorem tw_5_50 : (Jvm.Cond.code ({ cls := "PromotedNumbersModel", name := "order", desc := "(II)I" } : Jvm.MethodName) prog_10_method_24_code (3 : Nat) (Option.some Jvm.ClassFile.FieldType.int)) ∈ go_T := go_t5 (List.mem_of_getElem? (i := 50) rfl) rfl
theorem tw_5_51 : (Jvm.Cond.methodLink "PromotedNumbersModel" (138 : Nat) ({ cls := "PromotedNumbersModel", name := "skip", desc := "(I)I" } : Jvm.MethodName)) ∈ go_T := go_t5 (List.mem_of_getElem? (i := 51) rfl) rfl
theorem tw_5_53 : (Jvm.Cond.instanceMethod ({ cls := "PromotedNumbersModel", name := "skip", desc := "(I)I" } : Jvm.MethodName)) ∈ go_T := go_t5 (List.mem_of_getElem? (i := 53) rfl) rfl
theorem tw_5_54 : (Jvm.Cond.code ({ cls := "PromotedNumbersModel", name := "skip", desc := "(I)I" } : Jvm.MethodName) prog_10_method_37_code (6 : Nat) (Option.some Jvm.ClassFile.FieldType.int)) ∈ go_T := go_t5 (List.mem_of_getElem? (i := 54) rfl) rfl
theorem tw_5_55 : (Jvm.Cond.methodLink "PromotedNumbersModel" (182 : Nat) ({ cls := "PromotedNumbersModel", name := "formOf", desc := "(I)I" } : Jvm.MethodName)) ∈ go_T := go_t5 (List.mem_of_getElem? (i := 55) rfl) rfl
theorem tw_5_57 : (Jvm.Cond.instanceMethod ({ cls := "PromotedNumbersModel", name := "formOf", desc := "(I)I" } : Jvm.MethodName)) ∈ go_T := go_t5 (List.mem_of_getElem? (i := 57) rfl) rfl
theorem tw_5_58 : (Jvm.Cond.code ({ cls := "PromotedNumbersModel", name := "formOf", desc := "(I)I" } : Jvm.MethodName) prog_10_method_25_code (2 : Nat) (Option.some Jvm.ClassFile.FieldType.int)) ∈ go_T := go_t5 (List.mem_of_getElem? (i := 58) rfl) rfl
theorem tw_5_59 : (Jvm.Cond.methodLink "PromotedNumbersLaw" (64 : Nat) ({ cls := "PromotedNumbersModel", name := "keep", desc := "(I)I" } : Jvm.MethodName)) ∈ go_T := go_t5 (List.mem_of_getElem? (i := 59) rfl) rfl
theorem tw_5_60 : (Jvm.Cond.instanceMethod ({ cls := "PromotedNumbersModel", name := "keep", desc := "(I)I" } : Jvm.MethodName)) ∈ go_T := go_t5 (List.mem_of_getElem? (i := 60) rfl) rfl
theorem tw_5_61 : (Jvm.Cond.selects "PromotedNumbersModel" ({ cls := "PromotedNumbersModel", name := "keep", desc := "(I)I" } : Jvm.MethodName) ({ cls := "PromotedNumbersModel", name := "keep", desc := "(I)I" } : Jvm.MethodName)) ∈ go_T := go_t5 (List.mem_of_getElem? (i := 61) rfl) rfl
theorem tw_5_62 : (Jvm.Cond.code ({ cls := "PromotedNumbersModel", name := "keep", desc := "(I)I" } : Jvm.MethodName) prog_10_method_49_code (3 : Nat) (Option.some Jvm.ClassFile.FieldType.int)) ∈ go_T := go_t5 (List.mem_of_getElem? (i := 62) rfl) rfl
theorem tw_5_63 : (Jvm.Cond.methodLink "PromotedNumbersModel" (185 : Nat) ({ cls := "PromotedNumbersModel", name := "isVariable", desc := "(I)Z" } : Jvm.MethodName)) ∈ go_T := go_t5 (List.mem_of_getElem? (i := 63) rfl) rfl
theorem tw_5_64 : (Jvm.Cond.static ({ cls := "PromotedNumbersModel", name := "isVariable", desc := "(I)Z" } : Jvm.MethodName)) ∈ go_T := go_t5 (List.mem_of_getElem? (i := 64) rfl) rfl
theorem tw_5_65 : (Jvm.Cond.code ({ cls := "PromotedNumbersModel", name := "isVariable", desc := "(I)Z" } : Jvm.MethodName) prog_10_method_48_code (1 : Nat) (Option.some Jvm.ClassFile.FieldType.boolean)) ∈ go_T := go_t5 (List.mem_of_getElem? (i := 65) rfl) rfl
theorem tw_5_66 : (Jvm.Cond.methodLink "PromotedNumbersModel" (188 : Nat) ({ cls := "PromotedNumbersModel", name := "work", desc := "()I" } : Jvm.MethodName)) ∈ go_T := go_t5 (List.mem_of_getElem? (i := 66) rfl) rfl
theorem tw_5_67 : (Jvm.Cond.methodLink "PromotedNumbersLaw" (68 : Nat) ({ cls := "PromotedNumbersModel", name := "form", desc := "()I" } : Jvm.MethodName)) ∈ go_T := go_t5 (List.mem_of_getElem? (i := 67) rfl) rfl
theorem tw_5_68 : (Jvm.Cond.instanceMethod ({ cls := "PromotedNumbersModel", name := "form", desc := "()I" } : Jvm.MethodName)) ∈ go_T := go_t5 (List.mem_of_getElem? (i := 68) rfl) rfl
theorem tw_5_69 : (Jvm.Cond.selects "PromotedNumbersModel" ({ cls := "PromotedNumbersModel", name := "form", desc := "()I" } : Jvm.MethodName) ({ cls := "PromotedNumbersModel", name := "form", desc := "()I" } : Jvm.MethodName)) ∈ go_T := go_t5 (List.mem_of_getElem? (i := 69) rfl) rfl
theorem tw_5_70 : (Jvm.Cond.code ({ cls := "PromotedNumbersModel", name := "form", desc := "()I" } : Jvm.MethodName) prog_10_method_50_code (1 : Nat) (Option.some Jvm.ClassFile.FieldType.int)) ∈ go_T := go_t5 (List.mem_of_getElem? (i := 70) rfl) rfl
theorem tw_5_71 : (Jvm.Cond.methodLink "PromotedNumbersLaw" (72 : Nat) ({ cls := "PromotedNumbersModel", name := "sign", desc := "()I" } : Jvm.MethodName)) ∈ go_T := go_t5 (List.mem_of_getElem? (i := 71) rfl) rfl
theorem tw_5_72 : (Jvm.Cond.instanceMethod ({ cls := "PromotedNumbersModel", name := "sign", desc := "()I" } : Jvm.MethodName)) ∈ go_T := go_t5 (List.mem_of_getElem? (i := 72) rfl) rfl
theorem tw_5_73 : (Jvm.Cond.selects "PromotedNumbersModel" ({ cls := "PromotedNumbersModel", name := "sign", desc := "()I" } : Jvm.MethodName) ({ cls := "PromotedNumbersModel", name := "sign", desc := "()I" } : Jvm.MethodName)) ∈ go_T := go_t5 (List.mem_of_getElem? (i := 73) rfl) rfl
theorem tw_5_74 : (Jvm.Cond.code ({ cls := "PromotedNumbersModel", name := "sign", desc := "()I" } : Jvm.MethodName) prog_10_method_51_code (1 : Nat) (Option.some Jvm.ClassFile.FieldType.int)) ∈ go_T := go_t5 (List.mem_of_getElem? (i := 74) rfl) rfl
theorem tw_5_75 : (Jvm.Cond.methodLink "PromotedNumbersLaw" (77 : Nat) ({ cls := "PromotedNumbersModel", name := "digit", desc := "(I)C" } : Jvm.MethodName)) ∈ go_T := go_t5 (List.mem_of_getElem? (i := 75) rfl) rfl
theorem tw_5_76 : (Jvm.Cond.instanceMethod ({ cls := "PromotedNumbersModel", name := "digit", desc := "(I)C" } : Jvm.MethodName)) ∈ go_T := go_t5 (List.mem_of_getElem? (i := 76) rfl) rfl
theorem tw_5_77 : (Jvm.Cond.selects "PromotedNumbersModel" ({ cls := "PromotedNumbersModel", name := "digit", desc := "(I)C" } : Jvm.MethodName) ({ cls := "PromotedNumbersModel", name := "digit", desc := "(I)C" } : Jvm.MethodName)) ∈ go_T := go_t5 (List.mem_of_getElem? (i := 77) rfl) rfl
theorem tw_5_78 : (Jvm.Cond.code ({ cls := "PromotedNumbersModel", name := "digit", desc := "(I)C" } : Jvm.MethodName) prog_10_method_54_code (5 : Nat) (Option.some Jvm.ClassFile.FieldType.char)) ∈ go_T := go_t5 (List.mem_of_getElem? (i := 78) rfl) rfl
theorem tw_5_79 : (Jvm.Cond.methodLink "PromotedNumbersModel" (191 : Nat) ({ cls := "PromotedNumbersModel", name := "length", desc := "(I)I" } : Jvm.MethodName)) ∈ go_T := go_t5 (List.mem_of_getElem? (i := 79) rfl) rfl
theorem tw_5_81 : (Jvm.Cond.instanceMethod ({ cls := "PromotedNumbersModel", name := "length", desc := "(I)I" } : Jvm.MethodName)) ∈ go_T := go_t5 (List.mem_of_getElem? (i := 81) rfl) rfl
theorem tw_5_82 : (Jvm.Cond.code ({ cls := "PromotedNumbersModel", name := "length", desc := "(I)I" } : Jvm.MethodName) prog_10_method_52_code (3 : Nat) (Option.some Jvm.ClassFile.FieldType.int)) ∈ go_T := go_t5 (List.mem_of_getElem? (i := 82) rfl) rfl
theorem tw_5_83 : (Jvm.Cond.methodLink "PromotedNumbersModel" (194 : Nat) ({ cls := "PromotedNumbersModel", name := "fromEnd", desc := "(II)I" } : Jvm.MethodName)) ∈ go_T := go_t5 (List.mem_of_getElem? (i := 83) rfl) rfl
theorem tw_5_85 : (Jvm.Cond.instanceMethod ({ cls := "PromotedNumbersModel", name := "fromEnd", desc := "(II)I" } : Jvm.MethodName)) ∈ go_T := go_t5 (List.mem_of_getElem? (i := 85) rfl) rfl
theorem tw_5_86 : (Jvm.Cond.code ({ cls := "PromotedNumbersModel", name := "fromEnd", desc := "(II)I" } : Jvm.MethodName) prog_10_method_53_code (5 : Nat) (Option.some Jvm.ClassFile.FieldType.int)) ∈ go_T := go_t5 (List.mem_of_getElem? (i := 86) rfl) rfl
theorem tw_5_87 : (Jvm.Cond.methodLink "PromotedNumbersLaw" (82 : Nat) ({ cls := "PromotedNumbersModel", name := "bits", desc := "(II)I" } : Jvm.MethodName)) ∈ go_T := go_t5 (List.mem_of_getElem? (i := 87) rfl) rfl
theorem tw_5_88 : (Jvm.Cond.instanceMethod ({ cls := "PromotedNumbersModel", name := "bits", desc := "(II)I" } : Jvm.MethodName)) ∈ go_T := go_t5 (List.mem_of_getElem? (i := 88) rfl) rfl
theorem tw_5_89 : (Jvm.Cond.selects "PromotedNumbersModel" ({ cls := "PromotedNumbersModel", name := "bits", desc := "(II)I" } : Jvm.MethodName) ({ cls := "PromotedNumbersModel", name := "bits", desc := "(II)I" } : Jvm.MethodName)) ∈ go_T := go_t5 (List.mem_of_getElem? (i := 89) rfl) rfl
theorem tw_5_90 : (Jvm.Cond.code ({ cls := "PromotedNumbersModel", name := "bits", desc := "(II)I" } : Jvm.MethodName) prog_10_method_55_code (5 : Nat) (Option.some Jvm.ClassFile.FieldType.int)) ∈ go_T := go_t5 (List.mem_of_getElem? (i := 90) rfl) rfl
theorem tw_5_91 : (Jvm.Cond.constant "PromotedNumbersModel" (197 : Nat) (65536 : Int32)) ∈ go_T := go_t5 (List.mem_of_getElem? (i := 91) rfl) rfl
theorem tw_5_92 : (Jvm.Cond.methodLink "PromotedNumbersLaw" (85 : Nat) ({ cls := "PromotedNumbersModel", name := "against", desc := "(I)I" } : Jvm.MethodName)) ∈ go_T := go_t5 (List.mem_of_getElem? (i := 92) rfl) rfl
theorem tw_5_93 : (Jvm.Cond.instanceMethod ({ cls := "PromotedNumbersModel", name := "against", desc := "(I)I" } : Jvm.MethodName)) ∈ go_T := go_t5 (List.mem_of_getElem? (i := 93) rfl) rfl
theorem tw_5_94 : (Jvm.Cond.selects "PromotedNumbersModel" ({ cls := "PromotedNumbersModel", name := "against", desc := "(I)I" } : Jvm.MethodName) ({ cls := "PromotedNumbersModel", name := "against", desc := "(I)I" } : Jvm.MethodName)) ∈ go_T := go_t5 (List.mem_of_getElem? (i := 94) rfl) rfl
theorem tw_5_95 : (Jvm.Cond.code ({ cls := "PromotedNumbersModel", name := "against", desc := "(I)I" } : Jvm.MethodName) prog_10_method_56_code (2 : Nat) (Option.some Jvm.ClassFile.FieldType.int)) ∈ go_T := go_t5 (List.mem_of_getElem? (i := 95) rfl) rfl
theorem tw_5_96 : (Jvm.Cond.methodLink "PromotedNumbersLaw" (88 : Nat) ({ cls := "PromotedNumbersModel", name := "fetch", desc := "(I)I" } : Jvm.MethodName)) ∈ go_T := go_t5 (List.mem_of_getElem? (i := 96) rfl) rfl
theorem tw_5_97 : (Jvm.Cond.instanceMethod ({ cls := "PromotedNumbersModel", name := "fetch", desc := "(I)I" } : Jvm.MethodName)) ∈ go_T := go_t5 (List.mem_of_getElem? (i := 97) rfl) rfl
theorem tw_5_98 : (Jvm.Cond.selects "PromotedNumbersModel" ({ cls := "PromotedNumbersModel", name := "fetch", desc := "(I)I" } : Jvm.MethodName) ({ cls := "PromotedNumbersModel", name := "fetch", desc := "(I)I" } : Jvm.MethodName)) ∈ go_T := go_t5 (List.mem_of_getElem? (i := 98) rfl) rfl
theorem tw_5_99 : (Jvm.Cond.code ({ cls := "PromotedNumbersModel", name := "fetch", desc := "(I)I" } : Jvm.MethodName) prog_10_method_57_code (2 : Nat) (Option.some Jvm.ClassFile.FieldType.int)) ∈ go_T := go_t5 (List.mem_of_getElem? (i := 99) rfl) rfl
theorem tw_5_100 : (Jvm.Cond.constantLong "PromotedNumbersLaw" (37 : Nat) (4294967295 : Int64)) ∈ go_T := go_t5 (List.mem_of_getElem? (i := 100) rfl) rfl
theorem tw_5_101 : (Jvm.Cond.arrayClass Jvm.ClassFile.FieldType.long) ∈ go_T := go_t5 (List.mem_of_getElem? (i := 101) rfl) rfl
theorem tw_5_103 : (Jvm.Cond.fieldLink "java/lang/String" (15 : Nat) "java/lang/String" "coder" "B") ∈ go_T := go_t5 (List.mem_of_getElem? (i := 103) rfl) rfl
theorem tw_5_104 : (Jvm.Cond.fieldLink "java/lang/String" (9 : Nat) "java/lang/String" "value" "[B") ∈ go_T := go_t5 (List.mem_of_getElem? (i := 104) rfl) rfl
def go_N : List Cond := [(Jvm.Cond.fieldLinkNest "PromotedNumbers$Divider" (45 : Nat) "PromotedNumbers$Whole" "limbs" "[I" "PromotedNumbers"),
  (Jvm.Cond.fieldLinkNest "PromotedNumbers$Fraction" (49 : Nat) "PromotedNumbers$Whole" "limbs" "[I" "PromotedNumbers"),
  (Jvm.Cond.fieldLinkNest "PromotedNumbers$Divider" (49 : Nat) "PromotedNumbers$Whole" "size" "I" "PromotedNumbers"),
  (Jvm.Cond.fieldLinkNest "PromotedNumbers$Fraction" (45 : Nat) "PromotedNumbers$Whole" "size" "I" "PromotedNumbers"),
  (Jvm.Cond.fieldLinkNest "PromotedNumbers$Machine" (124 : Nat) "PromotedNumbers$Whole" "size" "I" "PromotedNumbers"),
  (Jvm.Cond.fieldLinkNest "PromotedNumbers$Writing" (45 : Nat) "PromotedNumbers$Fraction" "n" "LPromotedNumbers$Whole;" "PromotedNumbers"),
  (Jvm.Cond.fieldLinkNest "PromotedNumbers$Calculator" (54 : Nat) "PromotedNumbers$Fraction" "n" "LPromotedNumbers$Whole;" "PromotedNumbers"),
  (Jvm.Cond.fieldLinkNest "PromotedNumbers$Machine" (106 : Nat) "PromotedNumbers$Fraction" "n" "LPromotedNumbers$Whole;" "PromotedNumbers"),
  (Jvm.Cond.fieldLinkNest "PromotedNumbers" (93 : Nat) "PromotedNumbers$Fraction" "n" "LPromotedNumbers$Whole;" "PromotedNumbers"),
  (Jvm.Cond.fieldLinkNest "PromotedNumbers$Calculator" (42 : Nat) "PromotedNumbers$Fraction" "d" "LPromotedNumbers$Whole;" "PromotedNumbers"),
  (Jvm.Cond.fieldLinkNest "PromotedNumbers$Writing" (34 : Nat) "PromotedNumbers$Fraction" "d" "LPromotedNumbers$Whole;" "PromotedNumbers"),
  (Jvm.Cond.fieldLinkNest "PromotedNumbers$Machine" (127 : Nat) "PromotedNumbers$Fraction" "d" "LPromotedNumbers$Whole;" "PromotedNumbers"),
  (Jvm.Cond.fieldLinkNest "PromotedNumbers" (103 : Nat) "PromotedNumbers$Fraction" "d" "LPromotedNumbers$Whole;" "PromotedNumbers"),
  (Jvm.Cond.fieldLinkNest "PromotedNumbers$Writing" (48 : Nat) "PromotedNumbers$Fraction" "below" "Z" "PromotedNumbers"),
  (Jvm.Cond.fieldLinkNest "PromotedNumbers$Calculator" (61 : Nat) "PromotedNumbers$Fraction" "below" "Z" "PromotedNumbers"),
  (Jvm.Cond.fieldLinkNest "PromotedNumbers$Machine" (113 : Nat) "PromotedNumbers$Fraction" "below" "Z" "PromotedNumbers"),
  (Jvm.Cond.methodLinkNest "PromotedNumbers" (33 : Nat) ({ cls := "PromotedNumbers$Grammar", name := "<init>", desc := "()V" } : Jvm.MethodName) "PromotedNumbers"),
  (Jvm.Cond.methodLinkNest "PromotedNumbers$Machine" (11 : Nat) ({ cls := "PromotedNumbers$Calculator", name := "<init>", desc := "()V" } : Jvm.MethodName) "PromotedNumbers"),
  (Jvm.Cond.methodLinkNest "PromotedNumbers$Calculator" (11 : Nat) ({ cls := "PromotedNumbers$Divider", name := "<init>", desc := "()V" } : Jvm.MethodName) "PromotedNumbers"),
  (Jvm.Cond.fieldLinkNest "PromotedNumbers$Calculator" (97 : Nat) "PromotedNumbers$Divider" "rest" "LPromotedNumbers$Whole;" "PromotedNumbers"),
  (Jvm.Cond.fieldLinkNest "PromotedNumbers" (106 : Nat) "PromotedNumbers$Machine" "calculator" "LPromotedNumbers$Calculator;" "PromotedNumbers"),
  (Jvm.Cond.fieldLinkNest "PromotedNumbers" (74 : Nat) "PromotedNumbers$Machine" "variables" "[LPromotedNumbers$Fraction;" "PromotedNumbers"),
  (Jvm.Cond.methodLinkNest "PromotedNumbers$Grammar" (33 : Nat) ({ cls := "PromotedNumbers", name := "isDigit", desc := "(C)Z" } : Jvm.MethodName) "PromotedNumbers"),
  (Jvm.Cond.methodLinkNest "PromotedNumbers$Grammar" (40 : Nat) ({ cls := "PromotedNumbers", name := "isVariable", desc := "(C)Z" } : Jvm.MethodName) "PromotedNumbers"),
  (Jvm.Cond.fieldLinkNest "PromotedNumbers$Grammar" (51 : Nat) "PromotedNumbers" "MOST" "[I" "PromotedNumbers"),
  (Jvm.Cond.fieldLinkNest "PromotedNumbers$Grammar" (54 : Nat) "PromotedNumbers" "FEWEST" "[I" "PromotedNumbers"),
  (Jvm.Cond.methodLinkNest "PromotedNumbers$Machine" (81 : Nat) ({ cls := "PromotedNumbers", name := "isVariable", desc := "(C)Z" } : Jvm.MethodName) "PromotedNumbers")]
theorem nw_1_47 : (Jvm.Cond.fieldLinkNest "PromotedNumbers$Divider" (45 : Nat) "PromotedNumbers$Whole" "limbs" "[I" "PromotedNumbers") ∈ go_N := List.mem_of_getElem? (i := 0) rfl
theorem nw_1_48 : (Jvm.Cond.fieldLinkNest "PromotedNumbers$Fraction" (49 : Nat) "PromotedNumbers$Whole" "limbs" "[I" "PromotedNumbers") ∈ go_N := List.mem_of_getElem? (i := 1) rfl
theorem nw_1_50 : (Jvm.Cond.fieldLinkNest "PromotedNumbers$Divider" (49 : Nat) "PromotedNumbers$Whole" "size" "I" "PromotedNumbers") ∈ go_N := List.mem_of_getElem? (i := 2) rfl
theorem nw_1_51 : (Jvm.Cond.fieldLinkNest "PromotedNumbers$Fraction" (45 : Nat) "PromotedNumbers$Whole" "size" "I" "PromotedNumbers") ∈ go_N := List.mem_of_getElem? (i := 3) rfl
theorem nw_1_52 : (Jvm.Cond.fieldLinkNest "PromotedNumbers$Machine" (124 : Nat) "PromotedNumbers$Whole" "size" "I" "PromotedNumbers") ∈ go_N := List.mem_of_getElem? (i := 4) rfl
theorem nw_1_65 : (Jvm.Cond.fieldLinkNest "PromotedNumbers$Writing" (45 : Nat) "PromotedNumbers$Fraction" "n" "LPromotedNumbers$Whole;" "PromotedNumbers") ∈ go_N := List.mem_of_getElem? (i := 5) rfl
theorem nw_1_66 : (Jvm.Cond.fieldLinkNest "PromotedNumbers$Calculator" (54 : Nat) "PromotedNumbers$Fraction" "n" "LPromotedNumbers$Whole;" "PromotedNumbers") ∈ go_N := List.mem_of_getElem? (i := 6) rfl
theorem nw_1_67 : (Jvm.Cond.fieldLinkNest "PromotedNumbers$Machine" (106 : Nat) "PromotedNumbers$Fraction" "n" "LPromotedNumbers$Whole;" "PromotedNumbers") ∈ go_N := List.mem_of_getElem? (i := 7) rfl
theorem nw_1_68 : (Jvm.Cond.fieldLinkNest "PromotedNumbers" (93 : Nat) "PromotedNumbers$Fraction" "n" "LPromotedNumbers$Whole;" "PromotedNumbers") ∈ go_N := List.mem_of_getElem? (i := 8) rfl
theorem nw_1_70 : (Jvm.Cond.fieldLinkNest "PromotedNumbers$Calculator" (42 : Nat) "PromotedNumbers$Fraction" "d" "LPromotedNumbers$Whole;" "PromotedNumbers") ∈ go_N := List.mem_of_getElem? (i := 9) rfl
theorem nw_1_71 : (Jvm.Cond.fieldLinkNest "PromotedNumbers$Writing" (34 : Nat) "PromotedNumbers$Fraction" "d" "LPromotedNumbers$Whole;" "PromotedNumbers") ∈ go_N := List.mem_of_getElem? (i := 10) rfl
theorem nw_1_72 : (Jvm.Cond.fieldLinkNest "PromotedNumbers$Machine" (127 : Nat) "PromotedNumbers$Fraction" "d" "LPromotedNumbers$Whole;" "PromotedNumbers") ∈ go_N := List.mem_of_getElem? (i := 11) rfl
theorem nw_1_73 : (Jvm.Cond.fieldLinkNest "PromotedNumbers" (103 : Nat) "PromotedNumbers$Fraction" "d" "LPromotedNumbers$Whole;" "PromotedNumbers") ∈ go_N := List.mem_of_getElem? (i := 12) rfl
theorem nw_1_75 : (Jvm.Cond.fieldLinkNest "PromotedNumbers$Writing" (48 : Nat) "PromotedNumbers$Fraction" "below" "Z" "PromotedNumbers") ∈ go_N := List.mem_of_getElem? (i := 13) rfl
theorem nw_1_76 : (Jvm.Cond.fieldLinkNest "PromotedNumbers$Calculator" (61 : Nat) "PromotedNumbers$Fraction" "below" "Z" "PromotedNumbers") ∈ go_N := List.mem_of_getElem? (i := 14) rfl
theorem nw_1_77 : (Jvm.Cond.fieldLinkNest "PromotedNumbers$Machine" (113 : Nat) "PromotedNumbers$Fraction" "below" "Z" "PromotedNumbers") ∈ go_N := List.mem_of_getElem? (i := 15) rfl
theorem nw_1_105 : (Jvm.Cond.methodLinkNest "PromotedNumbers" (33 : Nat) ({ cls := "PromotedNumbers$Grammar", name := "<init>", desc := "()V" } : Jvm.MethodName) "PromotedNumbers") ∈ go_N := List.mem_of_getElem? (i := 16) rfl
theorem nw_1_127 : (Jvm.Cond.methodLinkNest "PromotedNumbers$Machine" (11 : Nat) ({ cls := "PromotedNumbers$Calculator", name := "<init>", desc := "()V" } : Jvm.MethodName) "PromotedNumbers") ∈ go_N := List.mem_of_getElem? (i := 17) rfl
theorem nw_1_133 : (Jvm.Cond.methodLinkNest "PromotedNumbers$Calculator" (11 : Nat) ({ cls := "PromotedNumbers$Divider", name := "<init>", desc := "()V" } : Jvm.MethodName) "PromotedNumbers") ∈ go_N := List.mem_of_getElem? (i := 18) rfl
theorem nw_1_140 : (Jvm.Cond.fieldLinkNest "PromotedNumbers$Calculator" (97 : Nat) "PromotedNumbers$Divider" "rest" "LPromotedNumbers$Whole;" "PromotedNumbers") ∈ go_N := List.mem_of_getElem? (i := 19) rfl
theorem nw_1_183 : (Jvm.Cond.fieldLinkNest "PromotedNumbers" (106 : Nat) "PromotedNumbers$Machine" "calculator" "LPromotedNumbers$Calculator;" "PromotedNumbers") ∈ go_N := List.mem_of_getElem? (i := 20) rfl
theorem nw_1_185 : (Jvm.Cond.fieldLinkNest "PromotedNumbers" (74 : Nat) "PromotedNumbers$Machine" "variables" "[LPromotedNumbers$Fraction;" "PromotedNumbers") ∈ go_N := List.mem_of_getElem? (i := 21) rfl
theorem nw_2_91 : (Jvm.Cond.methodLinkNest "PromotedNumbers$Grammar" (33 : Nat) ({ cls := "PromotedNumbers", name := "isDigit", desc := "(C)Z" } : Jvm.MethodName) "PromotedNumbers") ∈ go_N := List.mem_of_getElem? (i := 22) rfl
theorem nw_2_94 : (Jvm.Cond.methodLinkNest "PromotedNumbers$Grammar" (40 : Nat) ({ cls := "PromotedNumbers", name := "isVariable", desc := "(C)Z" } : Jvm.MethodName) "PromotedNumbers") ∈ go_N := List.mem_of_getElem? (i := 23) rfl
theorem nw_2_192 : (Jvm.Cond.fieldLinkNest "PromotedNumbers$Grammar" (51 : Nat) "PromotedNumbers" "MOST" "[I" "PromotedNumbers") ∈ go_N := List.mem_of_getElem? (i := 24) rfl
theorem nw_2_194 : (Jvm.Cond.fieldLinkNest "PromotedNumbers$Grammar" (54 : Nat) "PromotedNumbers" "FEWEST" "[I" "PromotedNumbers") ∈ go_N := List.mem_of_getElem? (i := 25) rfl
theorem nw_3_189 : (Jvm.Cond.methodLinkNest "PromotedNumbers$Machine" (81 : Nat) ({ cls := "PromotedNumbers", name := "isVariable", desc := "(C)Z" } : Jvm.MethodName) "PromotedNumbers") ∈ go_N := List.mem_of_getElem? (i := 26) rfl
theorem go_N_tbl : ∀ w ∈ go_N, w ∈ lw_tbl := by
  intro w hw
  refine List.mem_append_right _ ?_
  unfold go_N at hw
  simp only [List.mem_cons, List.not_mem_nil, or_false] at hw
  rcases hw with rfl | rfl | rfl | rfl | rfl | rfl | rfl | rfl | rfl | rfl | rfl | rfl | rfl | rfl | rfl | rfl | rfl | rfl | rfl | rfl | rfl | rfl | rfl | rfl | rfl | rfl | rfl
  · exact List.mem_append_left _ (List.mem_of_getElem? (i := 47) rfl : _ ∈ tables_1_1)
  · exact List.mem_append_left _ (List.mem_of_getElem? (i := 48) rfl : _ ∈ tables_1_1)
  · exact List.mem_append_left _ (List.mem_of_getElem? (i := 50) rfl : _ ∈ tables_1_1)
  · exact List.mem_append_left _ (List.mem_of_getElem? (i := 51) rfl : _ ∈ tables_1_1)
  · exact List.mem_append_left _ (List.mem_of_getElem? (i := 52) rfl : _ ∈ tables_1_1)
  · exact List.mem_append_left _ (List.mem_of_getElem? (i := 65) rfl : _ ∈ tables_1_1)
  · exact List.mem_append_left _ (List.mem_of_getElem? (i := 66) rfl : _ ∈ tables_1_1)
  · exact List.mem_append_left _ (List.mem_of_getElem? (i := 67) rfl : _ ∈ tables_1_1)
  · exact List.mem_append_left _ (List.mem_of_getElem? (i := 68) rfl : _ ∈ tables_1_1)
  · exact List.mem_append_left _ (List.mem_of_getElem? (i := 70) rfl : _ ∈ tables_1_1)
  · exact List.mem_append_left _ (List.mem_of_getElem? (i := 71) rfl : _ ∈ tables_1_1)
  · exact List.mem_append_left _ (List.mem_of_getElem? (i := 72) rfl : _ ∈ tables_1_1)
  · exact List.mem_append_left _ (List.mem_of_getElem? (i := 73) rfl : _ ∈ tables_1_1)
  · exact List.mem_append_left _ (List.mem_of_getElem? (i := 75) rfl : _ ∈ tables_1_1)
  · exact List.mem_append_left _ (List.mem_of_getElem? (i := 76) rfl : _ ∈ tables_1_1)
  · exact List.mem_append_left _ (List.mem_of_getElem? (i := 77) rfl : _ ∈ tables_1_1)
  · exact List.mem_append_left _ (List.mem_of_getElem? (i := 105) rfl : _ ∈ tables_1_1)
  · exact List.mem_append_left _ (List.mem_of_getElem? (i := 127) rfl : _ ∈ tables_1_1)
  · exact List.mem_append_left _ (List.mem_of_getElem? (i := 133) rfl : _ ∈ tables_1_1)
  · exact List.mem_append_left _ (List.mem_of_getElem? (i := 140) rfl : _ ∈ tables_1_1)
  · exact List.mem_append_left _ (List.mem_of_getElem? (i := 183) rfl : _ ∈ tables_1_1)
  · exact List.mem_append_left _ (List.mem_of_getElem? (i := 185) rfl : _ ∈ tables_1_1)
  · exact List.mem_append_right _ (List.mem_append_left _ (List.mem_of_getElem? (i := 91) rfl : _ ∈ tables_1_2))
  · exact List.mem_append_right _ (List.mem_append_left _ (List.mem_of_getElem? (i := 94) rfl : _ ∈ tables_1_2))
  · exact List.mem_append_right _ (List.mem_append_left _ (List.mem_of_getElem? (i := 192) rfl : _ ∈ tables_1_2))
  · exact List.mem_append_right _ (List.mem_append_left _ (List.mem_of_getElem? (i := 194) rfl : _ ∈ tables_1_2))
  · exact List.mem_append_right _ (List.mem_append_right _ (List.mem_append_left _ (List.mem_of_getElem? (i := 189) rfl : _ ∈ tables_1_3)))
def go_isN : Cond → Bool
  | .fieldLinkNest _ _ _ _ _ _ => true
  | .methodLinkNest _ _ _ _ => true
  | _ => false
theorem go_N_is : go_N.all go_isN = true := rfl
theorem go_N_warm (w : Cond) (hw : w ∈ go_N) {s U : State} (hW : s.WarmedH U.vm) (h : va_Nw w s) : va_Nw w U := by
  have h1 := List.all_eq_true.mp go_N_is w hw
  cases w <;> first | exact va_Nw.warmF hW h | exact va_Nw.warmM hW h | cases h1
theorem go_N_same (w : Cond) (hw : w ∈ go_N) {u U : State} (he : u.vm = U.vm) (h : va_Nw w u) : va_Nw w U := by
  have h1 := List.all_eq_true.mp go_N_is w hw
  cases w <;> first | exact va_Nw.same rfl he h | cases h1
theorem go_N_of {A : Array Value} {s : State} (h : ∀ w ∈ lw_tbl, w.before A s = true) : ∀ w ∈ go_N, va_Nw w s := by
  intro w hw
  have h1 := List.all_eq_true.mp go_N_is w hw
  have h2 := h w (go_N_tbl w hw)
  cases w <;> first | exact va_Nw.of rfl h2 | cases h1
end
section
/-! what every method's walk takes along: the classes of arrays, the nest's words, statics and a text that nobody writes -/
def cx_ty (ca : Nat → ClassId) : List (ClassId × FieldType) := [(ca 0, .int), (ca 1, .long), (ca 2, .char), (ca 3, .object cx_RF)]
def cx_few : List Int32 := [0, 0, 1, 1, 2, 2, 0, 2, 1, 1, 2, 2, 3]
def cx_most : List Int32 := [120, 120, 120, 120, 2, 2, 120, 2, 1, 1, 2, 2, 3]
def cx_ops : List Int32 := [43, 42, 45, 47, 113, 114, 103, 94, 110, 100, 60, 61, 63]
def cx_Z (zt : Nat → Nat) (A : Nat → Prop) (U : State) (H : Heap) : Prop :=
  va_Z "PromotedNumbers" "FEWEST" "[I" (.ref (zt 0)) A U H ∧ va_T .int (zt 0) 13 (fun j => .int (cx_few.getD j 0)) A U H ∧
  va_Z "PromotedNumbers" "MOST" "[I" (.ref (zt 1)) A U H ∧ va_T .int (zt 1) 13 (fun j => .int (cx_most.getD j 0)) A U H ∧
  vk_R "PromotedNumbers$Grammar" 43 "+*-/qrg^nd<=?" (zt 2) U ∧ vk_S 1 [13] [cx_ops] (fun _ => zt 2) (fun _ => zt 3) A U H ∧
  va_Z "java/lang/String" "COMPACT_STRINGS" "Z" (.int 1) A U H ∧
  va_Zq "java/lang/Throwable" "UNASSIGNED_STACK" "[Ljava/lang/StackTraceElement;" A U H ∧ va_Zq "java/lang/Throwable" "SUPPRESSED_SENTINEL" "Ljava/util/List;" A U H ∧ va_AO cx_RF U
theorem zz_moved {zt : Nat → Nat} {A : Nat → Prop} {s U : State} {H : Heap} (hW : s.WarmedH U.vm) (h : cx_Z zt A s H) : cx_Z zt A U H := by
  obtain ⟨h1, h2, h3, h4, h5, h6, h7, h8, h9, h10⟩ := h
  have hv := hW.alike
  exact ⟨h1.moved hv, h2.moved hv, h3.moved hv, h4.moved hv, h5.warm hW, h6.moved hv, h7.moved hv, h8.moved hv, h9.moved hv, h10.moved hv⟩
theorem zz_kept {zt : Nat → Nat} {A : Nat → Prop} {U : State} {H H1 : Heap} (h : cx_Z zt A U H) (hq : ∀ a : Nat, a < H.size → ¬ A a → H1[a]? = H[a]?) : cx_Z zt A U H1 := by
  obtain ⟨h1, h2, h3, h4, h5, h6, h7, h8, h9, h10⟩ := h
  exact ⟨h1.kept hq, h2.kept hq, h3.kept hq, h4.kept hq, h5, h6.kept hq, h7.kept hq, h8.kept hq, h9.kept hq, h10⟩
theorem zz_narrow {zt : Nat → Nat} {A B : Nat → Prop} {U : State} {H : Heap} (hAB : ∀ q, B q → A q) (h : cx_Z zt A U H) : cx_Z zt B U H := by
  obtain ⟨h1, h2, h3, h4, h5, h6, h7, h8, h9, h10⟩ := h
  exact ⟨h1.narrow hAB, h2.narrow hAB, h3.narrow hAB, h4.narrow hAB, h5, h6.narrow hAB, h7.narrow hAB, h8.narrow hAB, h9.narrow hAB, h10⟩
theorem zz_same {zt : Nat → Nat} {A : Nat → Prop} {u U : State} {H : Heap} (hv : u.vm = U.vm) (h : cx_Z zt A u H) : cx_Z zt A U H := by
  obtain ⟨h1, h2, h3, h4, h5, h6, h7, h8, h9, h10⟩ := h
  have hva : u.vm.Alike U.vm := hv ▸ Vm.Alike.refl u.vm
  exact ⟨h1.moved hva, h2.moved hva, h3.moved hva, h4.moved hva, h5.same hv.symm, h6.moved hva, h7.moved hva, h8.moved hva, h9.moved hva, h10.moved hva⟩
def cx_K (D : va_G) (ca : Nat → ClassId) (zt : Nat → Nat) (A : Nat → Prop) (U : State) (H : Heap) : Prop :=
  va_K D vwCl (cx_ty ca) U ∧ (∀ w ∈ go_N, va_Nw w U) ∧ cx_Z zt A U H
end
section
/-! THE PURE MACHINE, part 1: values, cells and worlds by indices; ints, longs and references as integers. -/
abbrev mv_V : Type := Int ⊕ (Int ⊕ (Option Nat ⊕ Nat))
abbrev mv_I (z : Int) : mv_V := Sum.inl z
abbrev mv_L (z : Int) : mv_V := Sum.inr (Sum.inl z)
abbrev mv_R (i : Nat) : mv_V := Sum.inr (Sum.inr (Sum.inl (some i)))
abbrev mv_N : mv_V := Sum.inr (Sum.inr (Sum.inl none))
abbrev mv_X (k : Nat) : mv_V := Sum.inr (Sum.inr (Sum.inr k))
/-- what a value is in the machine: ad are the addresses of the world's cells, zt those of a few cells outside it -/
def mv_c (zt ad : Nat → Nat) : mv_V → Value
  | .inl z => .int (Int32.ofInt z)
  | .inr (.inl z) => .long (Int64.ofInt z)
  | .inr (.inr (.inl none)) => .null
  | .inr (.inr (.inl (some i))) => .ref (ad i)
  | .inr (.inr (.inr k)) => .ref (zt k)
def mv_k : mv_V → Nat
  | .inr (.inl _) => 2
  | _ => 1
def mv_w : Option mv_V → Bool
  | some (.inr (.inl _)) => true
  | _ => false
theorem mv_cat (zt ad : Nat → Nat) (v : mv_V) : (mv_c zt ad v).category = mv_k v := by
  rcases v with z | z | (_ | i) | k <;> rfl
theorem mv_sum (zt ad : Nat → Nat) (st : List mv_V) : ((st.map (mv_c zt ad)).map fun v => v.category).sum = (st.map mv_k).sum := by
  rw [List.map_map]
  congr 1
  exact List.map_congr_left fun v _ => mv_cat zt ad v
theorem mv_k2 {v : mv_V} (h : mv_k v = 2) : mv_w (some v) = true := by
  rcases v with z | z | (_ | i) | k <;> first | rfl | (exact absurd (show (1 : Nat) = 2 from h) (by decide))
abbrev mv_E : Type := (Nat × Nat × (Nat → Int)) ⊕ ((Nat × Nat × (Nat → Option Nat)) ⊕ (Nat × List mv_V))
abbrev mv_H : Type := Nat → mv_E
/-- an array of numbers: its kind (0 int, 1 long, 2 char), its length, its contents; one of references (3); an object -/
abbrev mv_A (t n : Nat) (f : Nat → Int) : mv_E := Sum.inl (t, n, f)
abbrev mv_Q (t n : Nat) (f : Nat → Option Nat) : mv_E := Sum.inr (Sum.inl (t, n, f))
abbrev mv_O (c : Nat) (fs : List mv_V) : mv_E := Sum.inr (Sum.inr (c, fs))
def mv_a (t : Nat) (f : Nat → Int) : (Nat → Int32) ⊕ (Nat → Int64) ⊕ (Nat → UInt32) ⊕ (Nat → UInt64) ⊕ (Nat → Option Nat) :=
  match t with
  | 1 => .inr (.inl fun j => Int64.ofInt (f j))
  | _ => .inl fun j => Int32.ofInt (f j)
def mv_e (ca : Nat → ClassId) (zt ad : Nat → Nat) : mv_E → va_E
  | .inl (t, n, f) => .inl (ca t, n, mv_a t f)
  | .inr (.inl (t, n, f)) => .inl (ca t, n, .inr (.inr (.inr (.inr fun j => (f j).map ad))))
  | .inr (.inr (c, fs)) => .inr (c, fs.map (mv_c zt ad))
def mv_W (ca : Nat → ClassId) (zt ad : Nat → Nat) (h : mv_H) (n : Nat) : va_W := (List.range n).map fun i => (ad i, mv_e ca zt ad (h i))
/-! references lie within the world -/
def ok_V (n : Nat) : mv_V → Prop
  | .inr (.inr (.inl (some i))) => i < n
  | _ => True
def ok_E (n : Nat) : mv_E → Prop
  | .inl _ => True
  | .inr (.inl (_, _, f)) => ∀ j i, f j = some i → i < n
  | .inr (.inr (_, fs)) => ∀ v ∈ fs, ok_V n v
def ok_H (n : Nat) (h : mv_H) : Prop := ∀ i, i < n → ok_E n (h i)
def ok_S (n : Nat) (st : List mv_V) : Prop := ∀ v ∈ st, ok_V n v
def ok_L (n : Nat) (L : List (Option mv_V)) : Prop := ∀ (i : Nat) (v : mv_V), L[i]? = some (some v) → ok_V n v
theorem ok_V.mono {n m : Nat} {v : mv_V} (hm : n ≤ m) (h : ok_V n v) : ok_V m v := by
  rcases v with z | z | (_ | i) | k
  · exact trivial
  · exact trivial
  · exact trivial
  · exact Nat.lt_of_lt_of_le h hm
  · exact trivial
theorem ok_E.mono {n m : Nat} {x : mv_E} (hm : n ≤ m) (h : ok_E n x) : ok_E m x := by
  rcases x with ⟨t, n', f⟩ | ⟨t, n', f⟩ | ⟨c, fs⟩
  · exact trivial
  · exact fun j i hj => Nat.lt_of_lt_of_le (h j i hj) hm
  · exact fun v hv => (h v hv).mono hm
theorem ok_S.mono {n m : Nat} {st : List mv_V} (hm : n ≤ m) (h : ok_S n st) : ok_S m st := fun v hv => (h v hv).mono hm
theorem ok_L.mono {n m : Nat} {L : List (Option mv_V)} (hm : n ≤ m) (h : ok_L n L) : ok_L m L := fun i v hv => (h i v hv).mono hm
theorem ok_S.hd {n : Nat} {v : mv_V} {st : List mv_V} (h : ok_S n (v :: st)) : ok_V n v := h v List.mem_cons_self
theorem ok_S.tl {n : Nat} {v : mv_V} {st : List mv_V} (h : ok_S n (v :: st)) : ok_S n st := fun w hw => h w (List.mem_cons_of_mem _ hw)
theorem ok_S.cons {n : Nat} {v : mv_V} {st : List mv_V} (hv : ok_V n v) (h : ok_S n st) : ok_S n (v :: st) := fun w hw => by
  rcases List.mem_cons.mp hw with rfl | hw
  · exact hv
  · exact h w hw
theorem ok_S.app {n : Nat} {s1 s2 : List mv_V} (h1 : ok_S n s1) (h2 : ok_S n s2) : ok_S n (s1 ++ s2) := fun w hw => by
  rcases List.mem_append.mp hw with hw | hw
  · exact h1 w hw
  · exact h2 w hw
theorem ok_S.left {n : Nat} {s1 s2 : List mv_V} (h : ok_S n (s1 ++ s2)) : ok_S n s1 := fun w hw => h w (List.mem_append_left _ hw)
theorem ok_S.right {n : Nat} {s1 s2 : List mv_V} (h : ok_S n (s1 ++ s2)) : ok_S n s2 := fun w hw => h w (List.mem_append_right _ hw)
theorem ok_S.nil {n : Nat} : ok_S n [] := fun w hw => by cases hw
theorem ok_S.rev {n : Nat} {st : List mv_V} (h : ok_S n st.reverse) : ok_S n st := fun w hw => h w (List.mem_reverse.mpr hw)
theorem mv_c_congr {n : Nat} {zt ad ad' : Nat → Nat} {v : mv_V} (h : ok_V n v) (ha : ∀ i, i < n → ad' i = ad i) : mv_c zt ad' v = mv_c zt ad v := by
  rcases v with z | z | (_ | i) | k
  · rfl
  · rfl
  · rfl
  · show Value.ref (ad' i) = Value.ref (ad i)
    rw [ha i h]
  · rfl
theorem mv_map_congr {n : Nat} {zt ad ad' : Nat → Nat} {st : List mv_V} (h : ok_S n st) (ha : ∀ i, i < n → ad' i = ad i) : st.map (mv_c zt ad') = st.map (mv_c zt ad) :=
  List.map_congr_left fun v hv => mv_c_congr (h v hv) ha
theorem mv_e_congr {n : Nat} {ca : Nat → ClassId} {zt ad ad' : Nat → Nat} {x : mv_E} (h : ok_E n x) (ha : ∀ i, i < n → ad' i = ad i) : mv_e ca zt ad' x = mv_e ca zt ad x := by
  rcases x with ⟨t, n', f⟩ | ⟨t, n', f⟩ | ⟨c, fs⟩
  · rfl
  · show (Sum.inl (ca t, n', Sum.inr (Sum.inr (Sum.inr (Sum.inr fun j => (f j).map ad')))) : va_E) = Sum.inl (ca t, n', Sum.inr (Sum.inr (Sum.inr (Sum.inr fun j => (f j).map ad))))
    have hf : (fun j => (f j).map ad') = fun j => (f j).map ad := by
      funext j
      cases hj : f j with
      | none => rfl
      | some i => simp [ha i (h j i hj)]
    rw [hf]
  · show (Sum.inr (c, fs.map (mv_c zt ad')) : va_E) = Sum.inr (c, fs.map (mv_c zt ad))
    rw [mv_map_congr (st := fs) h ha]
theorem mv_W_at {ca : Nat → ClassId} {zt ad : Nat → Nat} {h : mv_H} {n i : Nat} (hi : i < n) : (mv_W ca zt ad h n)[i]? = some (ad i, mv_e ca zt ad (h i)) := by
  simp [mv_W, hi]
theorem mv_W_is {ca : Nat → ClassId} {zt ad : Nat → Nat} {h : mv_H} {n i : Nat} {x : mv_E} (hi : i < n) (hx : h i = x) : (mv_W ca zt ad h n)[i]? = some (ad i, mv_e ca zt ad x) := by
  rw [mv_W_at hi, hx]
theorem mv_W_lt {ca : Nat → ClassId} {zt ad : Nat → Nat} {h : mv_H} {n k : Nat} {q : Nat × va_E} (hk : (mv_W ca zt ad h n)[k]? = some q) : k < n ∧ q = (ad k, mv_e ca zt ad (h k)) := by
  have hl : k < n := by
    have := (List.getElem?_eq_some_iff.mp hk).1
    simpa [mv_W] using this
  rw [mv_W_at hl] at hk
  exact ⟨hl, (Option.some.inj hk).symm⟩
theorem mv_W_set {ca : Nat → ClassId} {zt ad : Nat → Nat} {h : mv_H} {n i : Nat} {x : mv_E} : (mv_W ca zt ad h n).set i (ad i, mv_e ca zt ad x) = mv_W ca zt ad (va_up h i x) n := by
  apply List.ext_getElem?
  intro j
  by_cases hj : j = i
  · subst hj
    by_cases hl : j < n
    · rw [mv_W_at hl, List.getElem?_set_self (by simpa [mv_W] using hl), va_up_self]
    · rw [List.getElem?_eq_none (by simpa [mv_W] using hl), List.getElem?_eq_none (by simpa [mv_W] using hl)]
  · rw [List.getElem?_set_ne (Ne.symm hj)]
    by_cases hl : j < n
    · rw [mv_W_at hl, mv_W_at hl, va_up_ne _ _ hj]
    · rw [List.getElem?_eq_none (by simpa [mv_W] using hl), List.getElem?_eq_none (by simpa [mv_W] using hl)]
theorem mv_W_push {ca : Nat → ClassId} {zt ad : Nat → Nat} {h : mv_H} {n q : Nat} {x : mv_E} {e : va_E} (oh : ok_H n h) (he : mv_e ca zt (va_up ad n q) x = e) : mv_W ca zt ad h n ++ [(q, e)] = mv_W ca zt (va_up ad n q) (va_up h n x) (n + 1) := by
  subst he
  unfold mv_W
  rw [List.range_succ, List.map_append]
  congr 1
  · apply List.map_congr_left
    intro i hi
    have hl : i < n := List.mem_range.mp hi
    have hne : i ≠ n := Nat.ne_of_lt hl
    rw [va_up_ne _ _ hne, va_up_ne _ _ hne, mv_e_congr (oh i hl) (fun j hj => va_up_ne _ _ (Nat.ne_of_lt hj))]
  · simp [va_up_self]
theorem ok_H.up {n i : Nat} {h : mv_H} {x : mv_E} (oh : ok_H n h) (ox : ok_E n x) : ok_H n (va_up h i x) := by
  intro j hj
  by_cases hji : j = i
  · subst hji
    rw [va_up_self]
    exact ox
  · rw [va_up_ne _ _ hji]
    exact oh j hj
theorem ok_H.push {n : Nat} {h : mv_H} {x : mv_E} (oh : ok_H n h) (ox : ok_E (n + 1) x) : ok_H (n + 1) (va_up h n x) := by
  intro j hj
  by_cases hji : j = n
  · subst hji
    rw [va_up_self]
    exact ox
  · rw [va_up_ne _ _ hji]
    exact (oh j (by omega)).mono (Nat.le_succ n)
/-! the locals: a list by their places; 'none' is a place that is not known -/
def mv_ls (zt ad : Nat → Nat) (ls : Array Slot) (nL : Nat) (L : List (Option mv_V)) : Prop := ls.size = nL ∧ lv_wf ls ∧ ∀ (i : Nat) (v : mv_V), L[i]? = some (some v) → ls[i]? = some (.val (mv_c zt ad v))
def mv_al (zt ad : Nat → Nat) (L : List (Option mv_V)) : List (Nat × Value) := L.zipIdx.filterMap fun q => q.1.map fun v => (q.2, mv_c zt ad v)
theorem mv_al_in {zt ad : Nat → Nat} {L : List (Option mv_V)} {i : Nat} {v : mv_V} (h : L[i]? = some (some v)) : (i, mv_c zt ad v) ∈ mv_al zt ad L :=
  List.mem_filterMap.mpr ⟨(some v, i), List.mk_mem_zipIdx_iff_getElem?.mpr h, rfl⟩
theorem mv_ls.has {zt ad : Nat → Nat} {ls : Array Slot} {nL : Nat} {L : List (Option mv_V)} (h : mv_ls zt ad ls nL L) : lv_has ls nL (mv_al zt ad L) := by
  refine ⟨h.1, h.2.1, fun q hq => ?_⟩
  obtain ⟨⟨o, i⟩, h1, h2⟩ := List.mem_filterMap.mp hq
  have h3 : L[i]? = some o := List.mk_mem_zipIdx_iff_getElem?.mp h1
  cases o with
  | none => cases h2
  | some v =>
    cases h2
    exact h.2.2 i v h3
theorem mv_ls.congr {n : Nat} {zt ad ad' : Nat → Nat} {ls : Array Slot} {nL : Nat} {L : List (Option mv_V)} (h : mv_ls zt ad ls nL L) (ol : ok_L n L) (ha : ∀ i, i < n → ad' i = ad i) : mv_ls zt ad' ls nL L :=
  ⟨h.1, h.2.1, fun i v hv => by rw [mv_c_congr (ol i v hv) ha]; exact h.2.2 i v hv⟩
def mv_kl : List (Option mv_V) → List (Option mv_V)
  | [] => []
  | _ :: L => none :: L
def mv_st : List (Option mv_V) → Nat → mv_V → List (Option mv_V)
  | [], _, _ => []
  | _ :: L, 0, v => some v :: (if mv_k v = 2 then mv_kl L else L)
  | o :: L, i + 1, v => (if i = 0 ∧ mv_w o = true then none else o) :: mv_st L i v
theorem mv_st_spec {v w : mv_V} : ∀ (L : List (Option mv_V)) (i j : Nat), (mv_st L i v)[j]? = some (some w) →
    (j = i ∧ w = v) ∨ (j ≠ i ∧ L[j]? = some (some w) ∧ ¬ (j + 1 = i ∧ mv_k w = 2) ∧ ¬ (j = i + 1 ∧ mv_k v = 2))
  | [], _, _, h => by simp [mv_st] at h
  | o :: L, 0, 0, h => by
    have h' : some (some v) = some (some w) := h
    cases h'
    exact Or.inl ⟨rfl, rfl⟩
  | o :: L, 0, j + 1, h => by
    refine Or.inr ⟨by omega, ?_⟩
    have h' : (if mv_k v = 2 then mv_kl L else L)[j]? = some (some w) := h
    by_cases hv : mv_k v = 2
    · rw [if_pos hv] at h'
      cases L with
      | nil => simp [mv_kl] at h'
      | cons o' L' =>
        cases j with
        | zero => cases h'
        | succ j' => exact ⟨h', by omega, by omega⟩
    · rw [if_neg hv] at h'
      exact ⟨h', by omega, fun q => hv q.2⟩
  | o :: L, i + 1, 0, h => by
    refine Or.inr ⟨by omega, ?_⟩
    have h' : some (if i = 0 ∧ mv_w o = true then none else o) = some (some w) := h
    by_cases hv : i = 0 ∧ mv_w o = true
    · rw [if_pos hv] at h'
      cases h'
    · rw [if_neg hv] at h'
      have ho : o = some w := Option.some.inj h'
      refine ⟨h', fun q => hv ⟨by omega, ?_⟩, by omega⟩
      rw [ho]
      exact mv_k2 q.2
  | o :: L, i + 1, j + 1, h => by
    have h' : (mv_st L i v)[j]? = some (some w) := h
    rcases mv_st_spec L i j h' with ⟨h1, h2⟩ | ⟨h1, h2, h3, h4⟩
    · exact Or.inl ⟨by omega, h2⟩
    · exact Or.inr ⟨by omega, h2, fun q => h3 ⟨by omega, q.2⟩, fun q => h4 ⟨by omega, q.2⟩⟩
theorem ok_L.st {n : Nat} {L : List (Option mv_V)} {i : Nat} {v : mv_V} (h : ok_L n L) (hv : ok_V n v) : ok_L n (mv_st L i v) := by
  intro j w hw
  rcases mv_st_spec L i j hw with ⟨-, rfl⟩ | ⟨-, h2, -⟩
  · exact hv
  · exact h j w h2
theorem mv_ls_st1 {zt ad : Nat → Nat} {ls' : Array Slot} {nL i : Nat} {L : List (Option mv_V)} {v : mv_V} (hl : lv_has ls' nL ((i, mv_c zt ad v) :: (mv_al zt ad L).filter (fun q => !(q.1 == i) && !(q.1 + 1 == i && q.2.category == 2)))) : mv_ls zt ad ls' nL (mv_st L i v) := by
  refine ⟨hl.1, hl.2.1, fun j w hw => ?_⟩
  rcases mv_st_spec L i j hw with ⟨rfl, rfl⟩ | ⟨h1, h2, h3, -⟩
  · exact hl.2.2 _ List.mem_cons_self
  · refine hl.2.2 (j, mv_c zt ad w) (List.mem_cons_of_mem _ (List.mem_filter.mpr ⟨mv_al_in h2, ?_⟩))
    have e1 : (j == i) = false := by simpa using h1
    have e2 : (j + 1 == i && (mv_c zt ad w).category == 2) = false := by
      rw [mv_cat]
      by_cases a : j + 1 = i
      · have : ¬ mv_k w = 2 := fun b => h3 ⟨a, b⟩
        simp [this]
      · simp [a]
    simp [e1, e2]
theorem mv_ls_st2 {zt ad : Nat → Nat} {ls' : Array Slot} {nL i : Nat} {L : List (Option mv_V)} {v : mv_V} (h2 : mv_k v = 2) (hl : lv_has ls' nL ((i, mv_c zt ad v) :: (mv_al zt ad L).filter (fun q => !(q.1 == i) && (!(q.1 == i + 1) && !(q.1 + 1 == i && q.2.category == 2))))) : mv_ls zt ad ls' nL (mv_st L i v) := by
  refine ⟨hl.1, hl.2.1, fun j w hw => ?_⟩
  rcases mv_st_spec L i j hw with ⟨rfl, rfl⟩ | ⟨h1, h2', h3, h4⟩
  · exact hl.2.2 _ List.mem_cons_self
  · refine hl.2.2 (j, mv_c zt ad w) (List.mem_cons_of_mem _ (List.mem_filter.mpr ⟨mv_al_in h2', ?_⟩))
    have e1 : (j == i) = false := by simpa using h1
    have e3 : (j == i + 1) = false := by
      have : ¬ j = i + 1 := fun a => h4 ⟨a, h2⟩
      simpa using this
    have e2 : (j + 1 == i && (mv_c zt ad w).category == 2) = false := by
      rw [mv_cat]
      by_cases a : j + 1 = i
      · have : ¬ mv_k w = 2 := fun b => h3 ⟨a, b⟩
        simp [this]
      · simp [a]
    simp [e1, e2, e3]
/-! the locals with which a method begins -/
def mv_sl : List mv_V → List (Option mv_V)
  | [] => []
  | v :: vs => if mv_k v = 2 then some v :: none :: mv_sl vs else some v :: mv_sl vs
def mv_en (vs : List mv_V) (n : Nat) : List (Option mv_V) := mv_sl vs ++ List.replicate (n - (mv_sl vs).length) none
theorem mv_sl_len (zt ad : Nat → Nat) : ∀ vs : List mv_V, (lg_sl (vs.map (mv_c zt ad))).length = (mv_sl vs).length
  | [] => rfl
  | v :: vs => by
    have ih := mv_sl_len zt ad vs
    unfold lg_sl at ih ⊢
    rw [List.map_cons, List.flatMap_cons, List.length_append, ih, mv_cat, show mv_sl (v :: vs) = if mv_k v = 2 then some v :: none :: mv_sl vs else some v :: mv_sl vs from rfl]
    by_cases hv : mv_k v = 2
    · rw [if_pos hv, if_pos hv]
      simp only [List.length_cons, List.length_nil]
      omega
    · rw [if_neg hv, if_neg hv]
      simp only [List.length_cons, List.length_nil]
      omega
theorem mv_sl_at {zt ad : Nat → Nat} {w : mv_V} : ∀ (vs : List mv_V) (k i : Nat), (mv_sl vs)[i]? = some (some w) → (k + i, mv_c zt ad w) ∈ lv_args k (vs.map (mv_c zt ad))
  | [], _, _, h => by simp [mv_sl] at h
  | v :: vs, k, i, h => by
    unfold mv_sl at h
    rw [List.map_cons]
    unfold lv_args
    rw [mv_cat]
    by_cases hv : mv_k v = 2
    · rw [if_pos hv] at h ⊢
      match i, h with
      | 0, h => cases h; exact List.mem_cons_self
      | 1, h => cases h
      | i + 2, h =>
        have h' : (mv_sl vs)[i]? = some (some w) := h
        have := mv_sl_at (zt := zt) (ad := ad) vs (k + 2) i h'
        rw [show k + (i + 2) = k + 2 + i by omega]
        exact List.mem_cons_of_mem _ this
    · rw [if_neg hv] at h ⊢
      match i, h with
      | 0, h => cases h; exact List.mem_cons_self
      | i + 1, h =>
        have h' : (mv_sl vs)[i]? = some (some w) := h
        have := mv_sl_at (zt := zt) (ad := ad) vs (k + 1) i h'
        rw [show k + (i + 1) = k + 1 + i by omega]
        exact List.mem_cons_of_mem _ this
theorem mv_en_at {vs : List mv_V} {n i : Nat} {w : mv_V} (h : (mv_en vs n)[i]? = some (some w)) : (mv_sl vs)[i]? = some (some w) := by
  unfold mv_en at h
  by_cases hl : i < (mv_sl vs).length
  · rwa [List.getElem?_append_left hl] at h
  · rw [List.getElem?_append_right (by omega), List.getElem?_replicate] at h
    split at h
    · cases h
    · cases h
theorem mv_sl_in {w : mv_V} : ∀ (vs : List mv_V) (i : Nat), (mv_sl vs)[i]? = some (some w) → w ∈ vs
  | [], _, h => by simp [mv_sl] at h
  | v :: vs, i, h => by
    unfold mv_sl at h
    by_cases hv : mv_k v = 2
    · rw [if_pos hv] at h
      match i, h with
      | 0, h => cases h; exact List.mem_cons_self
      | 1, h => cases h
      | i + 2, h => exact List.mem_cons_of_mem _ (mv_sl_in vs i h)
    · rw [if_neg hv] at h
      match i, h with
      | 0, h => cases h; exact List.mem_cons_self
      | i + 1, h => exact List.mem_cons_of_mem _ (mv_sl_in vs i h)
theorem mv_ls_en {zt ad : Nat → Nat} {vs : List mv_V} {n : Nat} {ls : Array Slot} (h : lv_has ls n (lv_args 0 (vs.map (mv_c zt ad)))) : mv_ls zt ad ls n (mv_en vs n) :=
  ⟨h.1, h.2.1, fun i v hv => h.2.2 (i, mv_c zt ad v) (by have := mv_sl_at (zt := zt) (ad := ad) vs 0 i (mv_en_at hv); rwa [Nat.zero_add] at this)⟩
theorem ok_L_en {vs : List mv_V} {n k : Nat} (h : ok_S k vs) : ok_L k (mv_en vs n) := fun i v hv => h v (mv_sl_in vs i (mv_en_at hv))
end
section
/-! machine numbers and integers -/
abbrev g3_2 (a : Int) : Prop := -2147483648 ≤ a ∧ a ≤ 2147483647
theorem gn_ti {a : Int} (ha : -2147483648 ≤ a ∧ a ≤ 2147483647) : (Int32.ofInt a).toInt = a := Int32.toInt_ofInt_of_le (by omega) (by omega)
theorem gn_ti64 {a : Int} (ha : -9223372036854775808 ≤ a ∧ a ≤ 9223372036854775807) : (Int64.ofInt a).toInt = a := Int64.toInt_ofInt_of_le (by omega) (by omega)
theorem gn_eq {a b : Int} (ha : -2147483648 ≤ a ∧ a ≤ 2147483647) (hb : -2147483648 ≤ b ∧ b ≤ 2147483647) : Int32.ofInt a = Int32.ofInt b ↔ a = b := by
  rw [← Int32.toInt_inj, gn_ti ha, gn_ti hb]
theorem gn_lt {a b : Int} (ha : -2147483648 ≤ a ∧ a ≤ 2147483647) (hb : -2147483648 ≤ b ∧ b ≤ 2147483647) : Int32.ofInt a < Int32.ofInt b ↔ a < b := by
  rw [Int32.lt_iff_toInt_lt, gn_ti ha, gn_ti hb]
theorem gn_le {a b : Int} (ha : -2147483648 ≤ a ∧ a ≤ 2147483647) (hb : -2147483648 ≤ b ∧ b ≤ 2147483647) : Int32.ofInt a ≤ Int32.ofInt b ↔ a ≤ b := by
  rw [Int32.le_iff_toInt_le, gn_ti ha, gn_ti hb]
theorem gn_eq0 {a : Int} (ha : -2147483648 ≤ a ∧ a ≤ 2147483647) : Int32.ofInt a = 0 ↔ a = 0 := by
  rw [← Int32.toInt_inj, gn_ti ha]
  simp
theorem gn_lt0 {a : Int} (ha : -2147483648 ≤ a ∧ a ≤ 2147483647) : Int32.ofInt a < 0 ↔ a < 0 := by
  rw [Int32.lt_iff_toInt_lt, gn_ti ha]
  simp
theorem gn_ge0 {a : Int} (ha : -2147483648 ≤ a ∧ a ≤ 2147483647) : 0 ≤ Int32.ofInt a ↔ 0 ≤ a := by
  rw [Int32.le_iff_toInt_le, gn_ti ha]
  simp
theorem gn_gt0 {a : Int} (ha : -2147483648 ≤ a ∧ a ≤ 2147483647) : 0 < Int32.ofInt a ↔ 0 < a := by
  rw [Int32.lt_iff_toInt_lt, gn_ti ha]
  simp
theorem gn_le0 {a : Int} (ha : -2147483648 ≤ a ∧ a ≤ 2147483647) : Int32.ofInt a ≤ 0 ↔ a ≤ 0 := by
  rw [Int32.le_iff_toInt_le, gn_ti ha]
  simp
theorem gn_nI (k : Nat) : Int32.ofInt (k : Int) = nI k := Int32.ofInt_eq_ofNat
theorem gn_lN (k : Nat) : Int64.ofInt (k : Int) = lN k := Int64.ofInt_eq_ofNat
theorem gn_in {a : Int} {k N : Nat} (ha : a = (k : Int)) (hk : k < N) (hN : N < 2147483648) : vp_in (Int32.ofInt a) N ∧ (Int32.ofInt a).toNatClampNeg = k := by
  subst ha
  rw [gn_nI]
  exact ⟨vp_in_nI hk (by omega), nI_clamp (by omega)⟩
theorem gn_i2c {a : Int} (ha : 0 ≤ a ∧ a ≤ 65535) : ((Int32.ofInt a).toUInt32 % 65536).toInt32 = Int32.ofInt a := by
  obtain ⟨k, rfl⟩ := Int.eq_ofNat_of_zero_le ha.1
  rw [gn_nI, pk_char, pk_tn (by omega), Nat.mod_eq_of_lt (by omega)]
theorem gn_lcmp {a b : Int} (ha : -9223372036854775808 ≤ a ∧ a ≤ 9223372036854775807) (hb : -9223372036854775808 ≤ b ∧ b ≤ 9223372036854775807) : lg_cmp (Int64.ofInt a) (Int64.ofInt b) = Int32.ofInt (if b < a then 1 else if a = b then 0 else -1) := by
  unfold lg_cmp
  simp only [gt_iff_lt, Int64.lt_iff_toInt_lt, ← Int64.toInt_inj, gn_ti64 ha, gn_ti64 hb]
  by_cases h1 : b < a
  · rw [if_pos h1, if_pos h1]; rfl
  · rw [if_neg h1, if_neg h1]
    by_cases h2 : a = b
    · rw [if_pos h2, if_pos h2]; rfl
    · rw [if_neg h2, if_neg h2]; rfl
theorem gn_ne0 {b : Int} (h : 0 < b ∧ b ≤ 2147483647) : ¬ Int32.ofInt b = 0 := fun z => by
  have := (gn_eq0 ⟨by omega, h.2⟩).mp z
  omega
theorem gn_ne0L {b : Int} (h : 0 < b ∧ b ≤ 9223372036854775807) : ¬ Int64.ofInt b = 0 := fun z => by
  have h1 : (Int64.ofInt b).toInt = b := gn_ti64 ⟨by omega, h.2⟩
  rw [z] at h1
  have h2 : (0 : Int64).toInt = 0 := by decide
  omega
/-- '/' and '%' of numbers that aren't negative -/
theorem gn_div {a b : Int} (ha : 0 ≤ a ∧ a ≤ 2147483647) (hb : 0 < b ∧ b ≤ 2147483647) : Int32.ofInt a / Int32.ofInt b = Int32.ofInt (a / b) := by
  obtain ⟨x, rfl⟩ := Int.eq_ofNat_of_zero_le ha.1
  obtain ⟨y, rfl⟩ := Int.eq_ofNat_of_zero_le (Int.le_of_lt hb.1)
  rw [gn_nI, gn_nI, pk_div (by omega) (by omega) (by omega), ← Int.natCast_ediv, gn_nI]
theorem gn_rem {a b : Int} (ha : 0 ≤ a ∧ a ≤ 2147483647) (hb : 0 < b ∧ b ≤ 2147483647) : Int32.ofInt a - Int32.ofInt a / Int32.ofInt b * Int32.ofInt b = Int32.ofInt (a % b) := by
  obtain ⟨x, rfl⟩ := Int.eq_ofNat_of_zero_le ha.1
  obtain ⟨y, rfl⟩ := Int.eq_ofNat_of_zero_le (Int.le_of_lt hb.1)
  rw [gn_nI, gn_nI, pk_rem (by omega) (by omega) (by omega), ← Int.natCast_emod, gn_nI]
theorem gn_divL {a b : Int} (ha : 0 ≤ a ∧ a ≤ 9223372036854775807) (hb : 0 < b ∧ b ≤ 9223372036854775807) : Int64.ofInt a / Int64.ofInt b = Int64.ofInt (a / b) := by
  obtain ⟨x, rfl⟩ := Int.eq_ofNat_of_zero_le ha.1
  obtain ⟨y, rfl⟩ := Int.eq_ofNat_of_zero_le (Int.le_of_lt hb.1)
  rw [gn_lN, gn_lN, pk_lDiv (by omega) (by omega) (by omega), ← Int.natCast_ediv, gn_lN]
theorem gn_remL {a b : Int} (ha : 0 ≤ a ∧ a ≤ 9223372036854775807) (hb : 0 < b ∧ b ≤ 9223372036854775807) : Int64.ofInt a - Int64.ofInt a / Int64.ofInt b * Int64.ofInt b = Int64.ofInt (a % b) := by
  obtain ⟨x, rfl⟩ := Int.eq_ofNat_of_zero_le ha.1
  obtain ⟨y, rfl⟩ := Int.eq_ofNat_of_zero_le (Int.le_of_lt hb.1)
  rw [gn_lN, gn_lN, pk_lRem (by omega) (by omega) (by omega), ← Int.natCast_emod, gn_lN]
theorem gn_char {x : Int} (hx : 0 ≤ x ∧ x ≤ 65535) : vp_nar .char (Int32.ofInt x) = Int32.ofInt x := by
  obtain ⟨k, rfl⟩ := Int.eq_ofNat_of_zero_le hx.1
  unfold vp_nar
  rw [gn_nI, (pk_charN (q := k) (by omega)).1]
end
section
/-! THE PURE MACHINE, part 2: the judgement 'Go' (from here the method comes to its end), and a rule for each instruction. -/
abbrev go_M : Type := MethodName × ByteArray × Nat × Option FieldType
abbrev go_F : Type := List Frame → Array Value → State → (Nat → Prop) → va_G → (Nat → ClassId) → (Nat → Nat) → Nat → (Nat → Nat) → State → Prop
def go_rm (d w mc ms : Nat) : Room := { frames := d, cells := mc, slots := ms, locals := w }
/-- what holds in a method's whole walk -/
def go_C (M : go_M) (p : Program) (s : State) (m : MethodId) (args : Array Value) (meth : Method) (c : Code) (D : va_G) (ca : Nat → ClassId) (zt : Nat → Nat) (A : Nat → Prop) : Prop :=
  p.tables.exec = Jvm.exec ∧ c.code = M.2.1 ∧ c.maxLocals = M.2.2.1 ∧ meth.sig.returnType = M.2.2.2 ∧ meth.locks = false ∧ meth.name = M.1.name ∧ s.vm.findClass M.1.cls = some m.cls ∧ (∀ w ∈ go_T, w.before args s = true) ∧ cx_K D ca zt A s s.heap ∧ ∀ q, s.heap.size ≤ q → A q
/-- from pc, with locals L, stack st, the world of n cells h, and u cells and slots made, the walk ends as φ says -/
def Go (φ : go_F) (l : Launch) (M : go_M) (R : Room) (u : Nat × Nat) (pc : Nat) (L : List (Option mv_V)) (st : List mv_V) (h : mv_H) (n : Nat) : Prop :=
  ∀ (p : Program) (e : Env) (s : State) (m : MethodId) (args : Array Value) (below : List Frame) (meth : Method) (c : Code) (D : va_G) (ca : Nat → ClassId) (zt : Nat → Nat) (A : Nat → Prop) (n0 : Nat) (ad0 : Nat → Nat), go_C M p s m args meth c D ca zt A →
  ∀ (H : Heap) (locs : List Loc) (ls : Array Slot) (ad : Nat → Nat), va_S A s.heap H locs → va_P D vwCl (mv_W ca zt ad h n) H → va_D A (mv_W ca zt ad h n) → mv_ls zt ad ls M.2.2.1 L → n0 ≤ n → (∀ i, i < n0 → ad i = ad0 i) → ok_H n h → ok_L n L → ok_S n st →
  W p l e R s m args below meth c H locs u.1 u.2 (φ below args s A D ca zt n0 ad0) (F0 m pc ls (st.map (mv_c zt ad)))
section GoRules
variable {φ : go_F} {l : Launch} {M : go_M} {R : Room} {u : Nat × Nat} {pc q : Nat} {L L' : List (Option mv_V)} {st : List mv_V} {h : mv_H} {n : Nat}
/-- the state may be written otherwise -/
theorem go_eq {pc' : Nat} {st' : List mv_V} {h' : mv_H} {u' : Nat × Nat} (k : Go φ l M R u' pc' L' st' h' n) (e1 : pc' = pc := by rfl) (e2 : L' = L := by rfl) (e3 : st' = st := by rfl) (e4 : h' = h := by rfl) (e5 : u' = u := by rfl) : Go φ l M R u pc L st h n := by
  subst e1; subst e2; subst e3; subst e4; subst e5; exact k
/-- an instruction that turns the stack's top xs into ys -/
theorem go_pure {xs ys : List mv_V} (hok : ok_S n xs → ok_S n ys)
    (row : ∀ (p : Program) (e : Env) (s : State) (m : MethodId) (args : Array Value) (below : List Frame) (meth : Method) (c : Code) (H : Heap) (locs : List Loc) (Q : State → Prop) (ls : Array Slot) (zt ad : Nat → Nat) (rest : List Value) (cells slots : Nat), p.tables.exec = Jvm.exec → c.code = M.2.1 →
      W p l e R s m args below meth c H locs cells slots Q (F0 m q ls (ys.map (mv_c zt ad) ++ rest)) → W p l e R s m args below meth c H locs cells slots Q (F0 m pc ls (xs.map (mv_c zt ad) ++ rest)))
    (k : Go φ l M R u q L (ys ++ st) h n) : Go φ l M R u pc L (xs ++ st) h n := by
  intro p e s m args below meth c D ca zt A n0 ad0 C H locs ls ad hS hP hD hl hn ha oh ol os
  rw [List.map_append]
  refine row p e s m args below meth c H locs _ ls zt ad _ _ _ C.1 C.2.1 ?_
  rw [← List.map_append]
  exact k p e s m args below meth c D ca zt A n0 ad0 C H locs ls ad hS hP hD hl hn ha oh ol (ok_S.app (hok os.left) os.right)
theorem go_okI {z : Int} : ok_S n [mv_I z] := ok_S.cons trivial ok_S.nil
theorem go_okL {z : Int} : ok_S n [mv_L z] := ok_S.cons trivial ok_S.nil
theorem go_iconst {z : Int} (hd : decode M.2.1 pc = .ok (.iconst z, 1)) (hp : pc + 1 = q) (k : Go φ l M R u q L (mv_I z :: st) h n) : Go φ l M R u pc L st h n := by
  subst hp
  exact go_pure (xs := []) (ys := [mv_I z]) (fun _ => go_okI) (fun p e s m args below meth c H locs Q ls zt ad rest _ _ hx hb k => lv_iconst hx hb hd rfl k) k
theorem go_bipush {z : Int} (hd : decode M.2.1 pc = .ok (.bipush z, 2)) (hp : pc + 2 = q) (hz : (Int8.ofInt z).toInt32 = Int32.ofInt z) (k : Go φ l M R u q L (mv_I z :: st) h n) : Go φ l M R u pc L st h n := by
  subst hp
  exact go_pure (xs := []) (ys := [mv_I z]) (fun _ => go_okI) (fun p e s m args below meth c H locs Q ls zt ad rest _ _ hx hb k => lv_bipush hx hb hd hz k) k
theorem go_sipush {z : Int} (hd : decode M.2.1 pc = .ok (.sipush z, 3)) (hp : pc + 3 = q) (hz : (Int16.ofInt z).toInt32 = Int32.ofInt z) (k : Go φ l M R u q L (mv_I z :: st) h n) : Go φ l M R u pc L st h n := by
  subst hp
  exact go_pure (xs := []) (ys := [mv_I z]) (fun _ => go_okI) (fun p e s m args below meth c H locs Q ls zt ad rest _ _ hx hb k => lv_sipush hx hb hd hz k) k
theorem go_lconst {i : Fin 2} {z : Int} (hd : decode M.2.1 pc = .ok (.lconst i, 1)) (hp : pc + 1 = q) (hz : Int64.ofNat (i : Nat) = Int64.ofInt z) (k : Go φ l M R u q L (mv_L z :: st) h n) : Go φ l M R u pc L st h n := by
  subst hp
  exact go_pure (xs := []) (ys := [mv_L z]) (fun _ => go_okL) (fun p e s m args below meth c H locs Q ls zt ad rest _ _ hx hb k => lv_lconst hx hb hd hz k) k
theorem go_null (hd : decode M.2.1 pc = .ok (.aconst_null, 1)) (hp : pc + 1 = q) (k : Go φ l M R u q L (mv_N :: st) h n) : Go φ l M R u pc L st h n := by
  subst hp
  exact go_pure (xs := []) (ys := [mv_N]) (fun _ => ok_S.cons trivial ok_S.nil) (fun p e s m args below meth c H locs Q ls zt ad rest _ _ hx hb k => lv_null hx hb hd k) k
theorem go_ldc {i : Nat} {z : Int} {x : Int32} (hd : decode M.2.1 pc = .ok (.ldc i, 2)) (hp : pc + 2 = q) (hw : Cond.constant M.1.cls i x ∈ go_T) (hz : x = Int32.ofInt z) (k : Go φ l M R u q L (mv_I z :: st) h n) : Go φ l M R u pc L st h n := by
  subst hp
  intro p e s m args below meth c D ca zt A n0 ad0 C H locs ls ad hS hP hD hl hn ha oh ol os
  refine lv_ldc C.1 C.2.1 C.2.2.2.2.2.2.1 (C.2.2.2.2.2.2.2.1 _ hw) hd ?_
  rw [hz]
  exact k p e s m args below meth c D ca zt A n0 ad0 C H locs ls ad hS hP hD hl hn ha oh ol (ok_S.cons trivial os)
theorem go_ldc2 {i : Nat} {z : Int} {x : Int64} (hd : decode M.2.1 pc = .ok (.ldc2_w i, 3)) (hp : pc + 3 = q) (hw : Cond.constantLong M.1.cls i x ∈ go_T) (hz : x = Int64.ofInt z) (k : Go φ l M R u q L (mv_L z :: st) h n) : Go φ l M R u pc L st h n := by
  subst hp
  intro p e s m args below meth c D ca zt A n0 ad0 C H locs ls ad hS hP hD hl hn ha oh ol os
  refine lv_ldc2 C.1 C.2.1 C.2.2.2.2.2.2.1 (C.2.2.2.2.2.2.2.1 _ hw) hd ?_
  rw [hz]
  exact k p e s m args below meth c D ca zt A n0 ad0 C H locs ls ad hS hP hD hl hn ha oh ol (ok_S.cons trivial os)
theorem go_iload_n {j : Fin 4} {i : Nat} {z : Int} (hd : decode M.2.1 pc = .ok (.iload_n j, 1)) (hi : (j : Nat) = i) (hp : pc + 1 = q) (hL : L[i]? = some (some (mv_I z))) (k : Go φ l M R u q L (mv_I z :: st) h n) : Go φ l M R u pc L st h n := by
  subst hp
  intro p e s m args below meth c D ca zt A n0 ad0 C H locs ls ad hS hP hD hl hn ha oh ol os
  refine lv_iload_n C.1 C.2.1 hd hi (hl.2.2 _ _ hL) ?_
  exact k p e s m args below meth c D ca zt A n0 ad0 C H locs ls ad hS hP hD hl hn ha oh ol (ok_S.cons (ol _ _ hL) os)
theorem go_lload_n {j : Fin 4} {i : Nat} {z : Int} (hd : decode M.2.1 pc = .ok (.lload_n j, 1)) (hi : (j : Nat) = i) (hp : pc + 1 = q) (hL : L[i]? = some (some (mv_L z))) (k : Go φ l M R u q L (mv_L z :: st) h n) : Go φ l M R u pc L st h n := by
  subst hp
  intro p e s m args below meth c D ca zt A n0 ad0 C H locs ls ad hS hP hD hl hn ha oh ol os
  refine lv_lload_n C.1 C.2.1 hd hi (hl.2.2 _ _ hL) ?_
  exact k p e s m args below meth c D ca zt A n0 ad0 C H locs ls ad hS hP hD hl hn ha oh ol (ok_S.cons (ol _ _ hL) os)
theorem go_aload_n {j : Fin 4} {i : Nat} {r : Nat} (hd : decode M.2.1 pc = .ok (.aload_n j, 1)) (hi : (j : Nat) = i) (hp : pc + 1 = q) (hL : L[i]? = some (some (mv_R r))) (k : Go φ l M R u q L (mv_R r :: st) h n) : Go φ l M R u pc L st h n := by
  subst hp
  intro p e s m args below meth c D ca zt A n0 ad0 C H locs ls ad hS hP hD hl hn ha oh ol os
  refine lv_aload_n C.1 C.2.1 hd hi (hl.2.2 _ _ hL) ?_
  exact k p e s m args below meth c D ca zt A n0 ad0 C H locs ls ad hS hP hD hl hn ha oh ol (ok_S.cons (ol _ _ hL) os)
theorem go_aload_nX {j : Fin 4} {i : Nat} {r : Nat} (hd : decode M.2.1 pc = .ok (.aload_n j, 1)) (hi : (j : Nat) = i) (hp : pc + 1 = q) (hL : L[i]? = some (some (mv_X r))) (k : Go φ l M R u q L (mv_X r :: st) h n) : Go φ l M R u pc L st h n := by
  subst hp
  intro p e s m args below meth c D ca zt A n0 ad0 C H locs ls ad hS hP hD hl hn ha oh ol os
  refine lv_aload_n C.1 C.2.1 hd hi (hl.2.2 _ _ hL) ?_
  exact k p e s m args below meth c D ca zt A n0 ad0 C H locs ls ad hS hP hD hl hn ha oh ol (ok_S.cons (ol _ _ hL) os)
theorem go_aload_nN {j : Fin 4} {i : Nat}  (hd : decode M.2.1 pc = .ok (.aload_n j, 1)) (hi : (j : Nat) = i) (hp : pc + 1 = q) (hL : L[i]? = some (some (mv_N))) (k : Go φ l M R u q L (mv_N :: st) h n) : Go φ l M R u pc L st h n := by
  subst hp
  intro p e s m args below meth c D ca zt A n0 ad0 C H locs ls ad hS hP hD hl hn ha oh ol os
  refine lv_aload_nN C.1 C.2.1 hd hi (hl.2.2 _ _ hL) ?_
  exact k p e s m args below meth c D ca zt A n0 ad0 C H locs ls ad hS hP hD hl hn ha oh ol (ok_S.cons (ol _ _ hL) os)
theorem go_iload {i : Nat} {z : Int} (hd : decode M.2.1 pc = .ok (.iload i, 2)) (hp : pc + 2 = q) (hL : L[i]? = some (some (mv_I z))) (k : Go φ l M R u q L (mv_I z :: st) h n) : Go φ l M R u pc L st h n := by
  subst hp
  intro p e s m args below meth c D ca zt A n0 ad0 C H locs ls ad hS hP hD hl hn ha oh ol os
  refine lv_iload C.1 C.2.1 hd (hl.2.2 _ _ hL) ?_
  exact k p e s m args below meth c D ca zt A n0 ad0 C H locs ls ad hS hP hD hl hn ha oh ol (ok_S.cons (ol _ _ hL) os)
theorem go_lload {i : Nat} {z : Int} (hd : decode M.2.1 pc = .ok (.lload i, 2)) (hp : pc + 2 = q) (hL : L[i]? = some (some (mv_L z))) (k : Go φ l M R u q L (mv_L z :: st) h n) : Go φ l M R u pc L st h n := by
  subst hp
  intro p e s m args below meth c D ca zt A n0 ad0 C H locs ls ad hS hP hD hl hn ha oh ol os
  refine lv_lload C.1 C.2.1 hd (hl.2.2 _ _ hL) ?_
  exact k p e s m args below meth c D ca zt A n0 ad0 C H locs ls ad hS hP hD hl hn ha oh ol (ok_S.cons (ol _ _ hL) os)
theorem go_aload {i : Nat} {r : Nat} (hd : decode M.2.1 pc = .ok (.aload i, 2)) (hp : pc + 2 = q) (hL : L[i]? = some (some (mv_R r))) (k : Go φ l M R u q L (mv_R r :: st) h n) : Go φ l M R u pc L st h n := by
  subst hp
  intro p e s m args below meth c D ca zt A n0 ad0 C H locs ls ad hS hP hD hl hn ha oh ol os
  refine lv_aload C.1 C.2.1 hd (hl.2.2 _ _ hL) ?_
  exact k p e s m args below meth c D ca zt A n0 ad0 C H locs ls ad hS hP hD hl hn ha oh ol (ok_S.cons (ol _ _ hL) os)
theorem go_aloadX {i : Nat} {r : Nat} (hd : decode M.2.1 pc = .ok (.aload i, 2)) (hp : pc + 2 = q) (hL : L[i]? = some (some (mv_X r))) (k : Go φ l M R u q L (mv_X r :: st) h n) : Go φ l M R u pc L st h n := by
  subst hp
  intro p e s m args below meth c D ca zt A n0 ad0 C H locs ls ad hS hP hD hl hn ha oh ol os
  refine lv_aload C.1 C.2.1 hd (hl.2.2 _ _ hL) ?_
  exact k p e s m args below meth c D ca zt A n0 ad0 C H locs ls ad hS hP hD hl hn ha oh ol (ok_S.cons (ol _ _ hL) os)
theorem go_aloadN {i : Nat}  (hd : decode M.2.1 pc = .ok (.aload i, 2)) (hp : pc + 2 = q) (hL : L[i]? = some (some (mv_N))) (k : Go φ l M R u q L (mv_N :: st) h n) : Go φ l M R u pc L st h n := by
  subst hp
  intro p e s m args below meth c D ca zt A n0 ad0 C H locs ls ad hS hP hD hl hn ha oh ol os
  refine lv_aloadN C.1 C.2.1 hd (hl.2.2 _ _ hL) ?_
  exact k p e s m args below meth c D ca zt A n0 ad0 C H locs ls ad hS hP hD hl hn ha oh ol (ok_S.cons (ol _ _ hL) os)
theorem go_istore_n {j : Fin 4} {i : Nat} {z : Int} (hd : decode M.2.1 pc = .ok (.istore_n j, 1)) (hi : (j : Nat) = i) (hp : pc + 1 = q) (hn0 : i < M.2.2.1) (hL : mv_st L i (mv_I z) = L') (k : Go φ l M R u q L' st h n) : Go φ l M R u pc L (mv_I z :: st) h n := by
  subst hp
  subst hL
  intro p e s m args below meth c D ca zt A n0 ad0 C H locs ls ad hS hP hD hl hn ha oh ol os
  refine lv_istore_n C.1 C.2.1 hd hi hl.has hn0 rfl (fun ls' hl' => ?_)
  exact k p e s m args below meth c D ca zt A n0 ad0 C H locs ls' ad hS hP hD (mv_ls_st1 (v := mv_I z) hl') hn ha oh (ol.st os.hd) os.tl
theorem go_lstore_n {j : Fin 4} {i : Nat} {z : Int} (hd : decode M.2.1 pc = .ok (.lstore_n j, 1)) (hi : (j : Nat) = i) (hp : pc + 1 = q) (hn0 : i + 1 < M.2.2.1) (hL : mv_st L i (mv_L z) = L') (k : Go φ l M R u q L' st h n) : Go φ l M R u pc L (mv_L z :: st) h n := by
  subst hp
  subst hL
  intro p e s m args below meth c D ca zt A n0 ad0 C H locs ls ad hS hP hD hl hn ha oh ol os
  refine lv_lstore_n C.1 C.2.1 hd hi hl.has hn0 rfl (fun ls' hl' => ?_)
  exact k p e s m args below meth c D ca zt A n0 ad0 C H locs ls' ad hS hP hD (mv_ls_st2 rfl (v := mv_L z) hl') hn ha oh (ol.st os.hd) os.tl
theorem go_astore_n {j : Fin 4} {i : Nat} {r : Nat} (hd : decode M.2.1 pc = .ok (.astore_n j, 1)) (hi : (j : Nat) = i) (hp : pc + 1 = q) (hn0 : i < M.2.2.1) (hL : mv_st L i (mv_R r) = L') (k : Go φ l M R u q L' st h n) : Go φ l M R u pc L (mv_R r :: st) h n := by
  subst hp
  subst hL
  intro p e s m args below meth c D ca zt A n0 ad0 C H locs ls ad hS hP hD hl hn ha oh ol os
  refine lv_astore_n C.1 C.2.1 hd hi hl.has hn0 rfl (fun ls' hl' => ?_)
  exact k p e s m args below meth c D ca zt A n0 ad0 C H locs ls' ad hS hP hD (mv_ls_st1 (v := mv_R r) hl') hn ha oh (ol.st os.hd) os.tl
theorem go_istore {i : Nat} {z : Int} (hd : decode M.2.1 pc = .ok (.istore i, 2)) (hp : pc + 2 = q) (hn0 : i < M.2.2.1) (hL : mv_st L i (mv_I z) = L') (k : Go φ l M R u q L' st h n) : Go φ l M R u pc L (mv_I z :: st) h n := by
  subst hp
  subst hL
  intro p e s m args below meth c D ca zt A n0 ad0 C H locs ls ad hS hP hD hl hn ha oh ol os
  refine lv_istore C.1 C.2.1 hd hl.has hn0 rfl (fun ls' hl' => ?_)
  exact k p e s m args below meth c D ca zt A n0 ad0 C H locs ls' ad hS hP hD (mv_ls_st1 (v := mv_I z) hl') hn ha oh (ol.st os.hd) os.tl
theorem go_lstore {i : Nat} {z : Int} (hd : decode M.2.1 pc = .ok (.lstore i, 2)) (hp : pc + 2 = q) (hn0 : i + 1 < M.2.2.1) (hL : mv_st L i (mv_L z) = L') (k : Go φ l M R u q L' st h n) : Go φ l M R u pc L (mv_L z :: st) h n := by
  subst hp
  subst hL
  intro p e s m args below meth c D ca zt A n0 ad0 C H locs ls ad hS hP hD hl hn ha oh ol os
  refine lv_lstore C.1 C.2.1 hd hl.has hn0 rfl (fun ls' hl' => ?_)
  exact k p e s m args below meth c D ca zt A n0 ad0 C H locs ls' ad hS hP hD (mv_ls_st2 rfl (v := mv_L z) hl') hn ha oh (ol.st os.hd) os.tl
theorem go_astore {i : Nat} {r : Nat} (hd : decode M.2.1 pc = .ok (.astore i, 2)) (hp : pc + 2 = q) (hn0 : i < M.2.2.1) (hL : mv_st L i (mv_R r) = L') (k : Go φ l M R u q L' st h n) : Go φ l M R u pc L (mv_R r :: st) h n := by
  subst hp
  subst hL
  intro p e s m args below meth c D ca zt A n0 ad0 C H locs ls ad hS hP hD hl hn ha oh ol os
  refine lv_astore C.1 C.2.1 hd hl.has hn0 rfl (fun ls' hl' => ?_)
  exact k p e s m args below meth c D ca zt A n0 ad0 C H locs ls' ad hS hP hD (mv_ls_st1 (v := mv_R r) hl') hn ha oh (ol.st os.hd) os.tl
theorem go_iinc {i : Nat} {d z : Int} (hd : decode M.2.1 pc = .ok (.iinc i d, 3)) (hp : pc + 3 = q) (hn0 : i < M.2.2.1) (hv : L[i]? = some (some (mv_I z))) (hL : mv_st L i (mv_I (z + d)) = L') (k : Go φ l M R u q L' st h n) : Go φ l M R u pc L st h n := by
  subst hp
  subst hL
  intro p e s m args below meth c D ca zt A n0 ad0 C H locs ls ad hS hP hD hl hn ha oh ol os
  obtain ⟨kk, hkk⟩ := List.getElem?_of_mem (mv_al_in (zt := zt) (ad := ad) hv)
  refine lv_iinc (v := Int32.ofInt (z + d)) C.1 C.2.1 hd hl.has hkk (Int32.ofInt_add z d).symm hn0 rfl (fun ls' hl' => ?_)
  exact k p e s m args below meth c D ca zt A n0 ad0 C H locs ls' ad hS hP hD (mv_ls_st1 (v := mv_I (z + d)) hl') hn ha oh (ol.st trivial) os
theorem go_iadd {a b : Int} (hd : decode M.2.1 pc = .ok (.iadd, 1)) (hp : pc + 1 = q) (k : Go φ l M R u q L (mv_I (a + b) :: st) h n) : Go φ l M R u pc L (mv_I b :: mv_I a :: st) h n := by
  subst hp
  exact go_pure (xs := [mv_I b, mv_I a]) (ys := [mv_I (a + b)]) (fun _ => go_okI) (fun p e s m args below meth c H locs Q ls zt ad rest _ _ hx hb k => lv_iadd hx hb hd (by rw [← Int32.ofInt_add]; exact k)) k
theorem go_isub {a b : Int} (hd : decode M.2.1 pc = .ok (.isub, 1)) (hp : pc + 1 = q) (k : Go φ l M R u q L (mv_I (a - b) :: st) h n) : Go φ l M R u pc L (mv_I b :: mv_I a :: st) h n := by
  subst hp
  exact go_pure (xs := [mv_I b, mv_I a]) (ys := [mv_I (a - b)]) (fun _ => go_okI) (fun p e s m args below meth c H locs Q ls zt ad rest _ _ hx hb k => lv_isub hx hb hd (by rw [← Int32.ofInt_sub]; exact k)) k
theorem go_imul {a b : Int} (hd : decode M.2.1 pc = .ok (.imul, 1)) (hp : pc + 1 = q) (k : Go φ l M R u q L (mv_I (a * b) :: st) h n) : Go φ l M R u pc L (mv_I b :: mv_I a :: st) h n := by
  subst hp
  exact go_pure (xs := [mv_I b, mv_I a]) (ys := [mv_I (a * b)]) (fun _ => go_okI) (fun p e s m args below meth c H locs Q ls zt ad rest _ _ hx hb k => lv_imul hx hb hd (by rw [← Int32.ofInt_mul]; exact k)) k
theorem go_ladd {a b : Int} (hd : decode M.2.1 pc = .ok (.ladd, 1)) (hp : pc + 1 = q) (k : Go φ l M R u q L (mv_L (a + b) :: st) h n) : Go φ l M R u pc L (mv_L b :: mv_L a :: st) h n := by
  subst hp
  exact go_pure (xs := [mv_L b, mv_L a]) (ys := [mv_L (a + b)]) (fun _ => go_okL) (fun p e s m args below meth c H locs Q ls zt ad rest _ _ hx hb k => lv_ladd hx hb hd (by rw [← Int64.ofInt_add]; exact k)) k
theorem go_lsub {a b : Int} (hd : decode M.2.1 pc = .ok (.lsub, 1)) (hp : pc + 1 = q) (k : Go φ l M R u q L (mv_L (a - b) :: st) h n) : Go φ l M R u pc L (mv_L b :: mv_L a :: st) h n := by
  subst hp
  exact go_pure (xs := [mv_L b, mv_L a]) (ys := [mv_L (a - b)]) (fun _ => go_okL) (fun p e s m args below meth c H locs Q ls zt ad rest _ _ hx hb k => lv_lsub hx hb hd (by rw [← Int64.ofInt_sub]; exact k)) k
theorem go_lmul {a b : Int} (hd : decode M.2.1 pc = .ok (.lmul, 1)) (hp : pc + 1 = q) (k : Go φ l M R u q L (mv_L (a * b) :: st) h n) : Go φ l M R u pc L (mv_L b :: mv_L a :: st) h n := by
  subst hp
  exact go_pure (xs := [mv_L b, mv_L a]) (ys := [mv_L (a * b)]) (fun _ => go_okL) (fun p e s m args below meth c H locs Q ls zt ad rest _ _ hx hb k => lv_lmul hx hb hd (by rw [← Int64.ofInt_mul]; exact k)) k
theorem go_ineg {a : Int} (hd : decode M.2.1 pc = .ok (.ineg, 1)) (hp : pc + 1 = q) (k : Go φ l M R u q L (mv_I (-a) :: st) h n) : Go φ l M R u pc L (mv_I a :: st) h n := by
  subst hp
  exact go_pure (xs := [mv_I a]) (ys := [mv_I (-a)]) (fun _ => go_okI) (fun p e s m args below meth c H locs Q ls zt ad rest _ _ hx hb k => lv_ineg hx hb hd (by rw [← Int32.ofInt_neg]; exact k)) k
theorem go_l2i {a : Int} (hd : decode M.2.1 pc = .ok (.l2i, 1)) (hp : pc + 1 = q) (k : Go φ l M R u q L (mv_I a :: st) h n) : Go φ l M R u pc L (mv_L a :: st) h n := by
  subst hp
  exact go_pure (xs := [mv_L a]) (ys := [mv_I a]) (fun _ => go_okI) (fun p e s m args below meth c H locs Q ls zt ad rest _ _ hx hb k => lv_l2i hx hb hd Int64.toInt32_ofInt k) k
theorem go_i2l {a : Int} (hd : decode M.2.1 pc = .ok (.i2l, 1)) (hp : pc + 1 = q) (ha : -2147483648 ≤ a ∧ a ≤ 2147483647) (k : Go φ l M R u q L (mv_L a :: st) h n) : Go φ l M R u pc L (mv_I a :: st) h n := by
  subst hp
  exact go_pure (xs := [mv_I a]) (ys := [mv_L a]) (fun _ => go_okL) (fun p e s m args below meth c H locs Q ls zt ad rest _ _ hx hb k => lv_i2l hx hb hd (Int32.toInt64_ofInt ha.1 ha.2) k) k
theorem go_i2c {a : Int} (hd : decode M.2.1 pc = .ok (.i2c, 1)) (hp : pc + 1 = q) (ha : 0 ≤ a ∧ a ≤ 65535) (k : Go φ l M R u q L (mv_I a :: st) h n) : Go φ l M R u pc L (mv_I a :: st) h n := by
  subst hp
  exact go_pure (xs := [mv_I a]) (ys := [mv_I a]) (fun _ => go_okI) (fun p e s m args below meth c H locs Q ls zt ad rest _ _ hx hb k => lv_i2c hx hb hd (gn_i2c ha) k) k
theorem go_idiv {a b z : Int} (hd : decode M.2.1 pc = .ok (.idiv, 1)) (hp : pc + 1 = q) (hne : ¬ Int32.ofInt b = 0) (hz : Int32.ofInt a / Int32.ofInt b = Int32.ofInt z) (k : Go φ l M R u q L (mv_I z :: st) h n) : Go φ l M R u pc L (mv_I b :: mv_I a :: st) h n := by
  subst hp
  exact go_pure (xs := [mv_I b, mv_I a]) (ys := [mv_I z]) (fun _ => go_okI) (fun p e s m args below meth c H locs Q ls zt ad rest _ _ hx hb k => lv_idiv hx hb hd hne (by rw [hz]; exact k)) k
theorem go_irem {a b z : Int} (hd : decode M.2.1 pc = .ok (.irem, 1)) (hp : pc + 1 = q) (hne : ¬ Int32.ofInt b = 0) (hz : Int32.ofInt a - Int32.ofInt a / Int32.ofInt b * Int32.ofInt b = Int32.ofInt z) (k : Go φ l M R u q L (mv_I z :: st) h n) : Go φ l M R u pc L (mv_I b :: mv_I a :: st) h n := by
  subst hp
  exact go_pure (xs := [mv_I b, mv_I a]) (ys := [mv_I z]) (fun _ => go_okI) (fun p e s m args below meth c H locs Q ls zt ad rest _ _ hx hb k => lv_irem hx hb hd hne (by rw [hz]; exact k)) k
theorem go_iand {a b z : Int} (hd : decode M.2.1 pc = .ok (.iand, 1)) (hp : pc + 1 = q) (hz : Int32.ofInt a &&& Int32.ofInt b = Int32.ofInt z) (k : Go φ l M R u q L (mv_I z :: st) h n) : Go φ l M R u pc L (mv_I b :: mv_I a :: st) h n := by
  subst hp
  exact go_pure (xs := [mv_I b, mv_I a]) (ys := [mv_I z]) (fun _ => go_okI) (fun p e s m args below meth c H locs Q ls zt ad rest _ _ hx hb k => lv_iand hx hb hd (by rw [hz]; exact k)) k
theorem go_ior {a b z : Int} (hd : decode M.2.1 pc = .ok (.ior, 1)) (hp : pc + 1 = q) (hz : Int32.ofInt a ||| Int32.ofInt b = Int32.ofInt z) (k : Go φ l M R u q L (mv_I z :: st) h n) : Go φ l M R u pc L (mv_I b :: mv_I a :: st) h n := by
  subst hp
  exact go_pure (xs := [mv_I b, mv_I a]) (ys := [mv_I z]) (fun _ => go_okI) (fun p e s m args below meth c H locs Q ls zt ad rest _ _ hx hb k => lv_ior hx hb hd (by rw [hz]; exact k)) k
theorem go_ixor {a b z : Int} (hd : decode M.2.1 pc = .ok (.ixor, 1)) (hp : pc + 1 = q) (hz : Int32.ofInt a ^^^ Int32.ofInt b = Int32.ofInt z) (k : Go φ l M R u q L (mv_I z :: st) h n) : Go φ l M R u pc L (mv_I b :: mv_I a :: st) h n := by
  subst hp
  exact go_pure (xs := [mv_I b, mv_I a]) (ys := [mv_I z]) (fun _ => go_okI) (fun p e s m args below meth c H locs Q ls zt ad rest _ _ hx hb k => lv_ixor hx hb hd (by rw [hz]; exact k)) k
theorem go_ishl {a b z : Int} (hd : decode M.2.1 pc = .ok (.ishl, 1)) (hp : pc + 1 = q) (hz : Int32.ofInt a <<< (Int32.ofInt b &&& 31) = Int32.ofInt z) (k : Go φ l M R u q L (mv_I z :: st) h n) : Go φ l M R u pc L (mv_I b :: mv_I a :: st) h n := by
  subst hp
  exact go_pure (xs := [mv_I b, mv_I a]) (ys := [mv_I z]) (fun _ => go_okI) (fun p e s m args below meth c H locs Q ls zt ad rest _ _ hx hb k => lv_ishl hx hb hd (by rw [hz]; exact k)) k
theorem go_ishr {a b z : Int} (hd : decode M.2.1 pc = .ok (.ishr, 1)) (hp : pc + 1 = q) (hz : Int32.ofInt a >>> (Int32.ofInt b &&& 31) = Int32.ofInt z) (k : Go φ l M R u q L (mv_I z :: st) h n) : Go φ l M R u pc L (mv_I b :: mv_I a :: st) h n := by
  subst hp
  exact go_pure (xs := [mv_I b, mv_I a]) (ys := [mv_I z]) (fun _ => go_okI) (fun p e s m args below meth c H locs Q ls zt ad rest _ _ hx hb k => lv_ishr hx hb hd (by rw [hz]; exact k)) k
theorem go_iushr {a b z : Int} (hd : decode M.2.1 pc = .ok (.iushr, 1)) (hp : pc + 1 = q) (hz : ((Int32.ofInt a).toUInt32 >>> ((Int32.ofInt b).toUInt32 &&& Int32.toUInt32 31)).toInt32 = Int32.ofInt z) (k : Go φ l M R u q L (mv_I z :: st) h n) : Go φ l M R u pc L (mv_I b :: mv_I a :: st) h n := by
  subst hp
  exact go_pure (xs := [mv_I b, mv_I a]) (ys := [mv_I z]) (fun _ => go_okI) (fun p e s m args below meth c H locs Q ls zt ad rest _ _ hx hb k => lv_iushr hx hb hd hz k) k
theorem go_ldiv {a b z : Int} (hd : decode M.2.1 pc = .ok (.ldiv, 1)) (hp : pc + 1 = q) (hne : ¬ Int64.ofInt b = 0) (hz : Int64.ofInt a / Int64.ofInt b = Int64.ofInt z) (k : Go φ l M R u q L (mv_L z :: st) h n) : Go φ l M R u pc L (mv_L b :: mv_L a :: st) h n := by
  subst hp
  exact go_pure (xs := [mv_L b, mv_L a]) (ys := [mv_L z]) (fun _ => go_okL) (fun p e s m args below meth c H locs Q ls zt ad rest _ _ hx hb k => lv_ldiv hx hb hd hne (by rw [hz]; exact k)) k
theorem go_lrem {a b z : Int} (hd : decode M.2.1 pc = .ok (.lrem, 1)) (hp : pc + 1 = q) (hne : ¬ Int64.ofInt b = 0) (hz : Int64.ofInt a - Int64.ofInt a / Int64.ofInt b * Int64.ofInt b = Int64.ofInt z) (k : Go φ l M R u q L (mv_L z :: st) h n) : Go φ l M R u pc L (mv_L b :: mv_L a :: st) h n := by
  subst hp
  exact go_pure (xs := [mv_L b, mv_L a]) (ys := [mv_L z]) (fun _ => go_okL) (fun p e s m args below meth c H locs Q ls zt ad rest _ _ hx hb k => lv_lrem hx hb hd hne (by rw [hz]; exact k)) k
theorem go_land {a b z : Int} (hd : decode M.2.1 pc = .ok (.land, 1)) (hp : pc + 1 = q) (hz : Int64.ofInt a &&& Int64.ofInt b = Int64.ofInt z) (k : Go φ l M R u q L (mv_L z :: st) h n) : Go φ l M R u pc L (mv_L b :: mv_L a :: st) h n := by
  subst hp
  exact go_pure (xs := [mv_L b, mv_L a]) (ys := [mv_L z]) (fun _ => go_okL) (fun p e s m args below meth c H locs Q ls zt ad rest _ _ hx hb k => lv_land hx hb hd (by rw [hz]; exact k)) k
theorem go_lor {a b z : Int} (hd : decode M.2.1 pc = .ok (.lor, 1)) (hp : pc + 1 = q) (hz : Int64.ofInt a ||| Int64.ofInt b = Int64.ofInt z) (k : Go φ l M R u q L (mv_L z :: st) h n) : Go φ l M R u pc L (mv_L b :: mv_L a :: st) h n := by
  subst hp
  exact go_pure (xs := [mv_L b, mv_L a]) (ys := [mv_L z]) (fun _ => go_okL) (fun p e s m args below meth c H locs Q ls zt ad rest _ _ hx hb k => lv_lor hx hb hd (by rw [hz]; exact k)) k
theorem go_lushr {a b z : Int} (hd : decode M.2.1 pc = .ok (.lushr, 1)) (hp : pc + 1 = q) (hz : ((Int64.ofInt a).toUInt64 >>> ((Int32.ofInt b).toInt64.toUInt64 &&& Int64.toUInt64 63)).toInt64 = Int64.ofInt z) (k : Go φ l M R u q L (mv_L z :: st) h n) : Go φ l M R u pc L (mv_I b :: mv_L a :: st) h n := by
  subst hp
  exact go_pure (xs := [mv_I b, mv_L a]) (ys := [mv_L z]) (fun _ => go_okL) (fun p e s m args below meth c H locs Q ls zt ad rest _ _ hx hb k => lv_lushr hx hb hd hz k) k
theorem go_lshl {a b z : Int} (hd : decode M.2.1 pc = .ok (.lshl, 1)) (hp : pc + 1 = q) (hz : Int64.ofInt a <<< ((Int32.ofInt b).toInt64 &&& 63) = Int64.ofInt z) (k : Go φ l M R u q L (mv_L z :: st) h n) : Go φ l M R u pc L (mv_I b :: mv_L a :: st) h n := by
  subst hp
  exact go_pure (xs := [mv_I b, mv_L a]) (ys := [mv_L z]) (fun _ => go_okL) (fun p e s m args below meth c H locs Q ls zt ad rest _ _ hx hb k => lv_lshl hx hb hd hz k) k
theorem go_lshr {a b z : Int} (hd : decode M.2.1 pc = .ok (.lshr, 1)) (hp : pc + 1 = q) (hz : Int64.ofInt a >>> ((Int32.ofInt b).toInt64 &&& 63) = Int64.ofInt z) (k : Go φ l M R u q L (mv_L z :: st) h n) : Go φ l M R u pc L (mv_I b :: mv_L a :: st) h n := by
  subst hp
  exact go_pure (xs := [mv_I b, mv_L a]) (ys := [mv_L z]) (fun _ => go_okL) (fun p e s m args below meth c H locs Q ls zt ad rest _ _ hx hb k => lv_lshr hx hb hd hz k) k
theorem go_lcmp {a b : Int} (hd : decode M.2.1 pc = .ok (.lcmp, 1)) (hp : pc + 1 = q) (ha : -9223372036854775808 ≤ a ∧ a ≤ 9223372036854775807) (hb0 : -9223372036854775808 ≤ b ∧ b ≤ 9223372036854775807) (k : Go φ l M R u q L (mv_I (if b < a then 1 else if a = b then 0 else -1) :: st) h n) : Go φ l M R u pc L (mv_L b :: mv_L a :: st) h n := by
  subst hp
  exact go_pure (xs := [mv_L b, mv_L a]) (ys := [mv_I (if b < a then 1 else if a = b then 0 else -1)]) (fun _ => go_okI) (fun p e s m args below meth c H locs Q ls zt ad rest _ _ hx hb k => W.lcmp hx hb hd (by rw [gn_lcmp ha hb0]; exact k)) k
theorem go_dup {v : mv_V} (hd : decode M.2.1 pc = .ok (.dup, 1)) (hp : pc + 1 = q) (hv : mv_k v = 1) (k : Go φ l M R u q L (v :: v :: st) h n) : Go φ l M R u pc L (v :: st) h n := by
  subst hp
  exact go_pure (xs := [v]) (ys := [v, v]) (fun o => ok_S.cons o.hd o) (fun p e s m args below meth c H locs Q ls zt ad rest _ _ hx hb k => lv_dup hx hb hd ((mv_cat zt ad v).trans hv) k) k
theorem go_pop {v : mv_V} (hd : decode M.2.1 pc = .ok (.pop, 1)) (hp : pc + 1 = q) (hv : mv_k v = 1) (k : Go φ l M R u q L st h n) : Go φ l M R u pc L (v :: st) h n := by
  subst hp
  exact go_pure (xs := [v]) (ys := []) (fun _ => ok_S.nil) (fun p e s m args below meth c H locs Q ls zt ad rest _ _ hx hb k => lv_pop hx hb hd ((mv_cat zt ad v).trans hv) k) k
theorem go_dup_x1 {v w : mv_V} (hd : decode M.2.1 pc = .ok (.dup_x1, 1)) (hp : pc + 1 = q) (hv : mv_k v = 1) (hw : mv_k w = 1) (k : Go φ l M R u q L (v :: w :: v :: st) h n) : Go φ l M R u pc L (v :: w :: st) h n := by
  subst hp
  exact go_pure (xs := [v, w]) (ys := [v, w, v]) (fun o => ok_S.cons o.hd (ok_S.cons o.tl.hd (ok_S.cons o.hd ok_S.nil))) (fun p e s m args below meth c H locs Q ls zt ad rest _ _ hx hb k => lv_dup_x1 hx hb hd ((mv_cat zt ad v).trans hv) ((mv_cat zt ad w).trans hw) k) k
theorem go_dup_x2 {v w x : mv_V} (hd : decode M.2.1 pc = .ok (.dup_x2, 1)) (hp : pc + 1 = q) (hv : mv_k v = 1) (hw : mv_k w = 1) (hx : mv_k x = 1) (k : Go φ l M R u q L (v :: w :: x :: v :: st) h n) : Go φ l M R u pc L (v :: w :: x :: st) h n := by
  subst hp
  exact go_pure (xs := [v, w, x]) (ys := [v, w, x, v]) (fun o => ok_S.cons o.hd (ok_S.cons o.tl.hd (ok_S.cons o.tl.tl.hd (ok_S.cons o.hd ok_S.nil)))) (fun p e s m args below meth c H locs Q ls zt ad rest _ _ hx' hb k => lv_dup_x2 hx' hb hd ((mv_cat zt ad v).trans hv) ((mv_cat zt ad w).trans hw) ((mv_cat zt ad x).trans hx) k) k
theorem go_dup2 {v w : mv_V} (hd : decode M.2.1 pc = .ok (.dup2, 1)) (hp : pc + 1 = q) (hv : mv_k v = 1) (hw : mv_k w = 1) (k : Go φ l M R u q L (v :: w :: v :: w :: st) h n) : Go φ l M R u pc L (v :: w :: st) h n := by
  subst hp
  exact go_pure (xs := [v, w]) (ys := [v, w, v, w]) (fun o => ok_S.cons o.hd (ok_S.cons o.tl.hd o)) (fun p e s m args below meth c H locs Q ls zt ad rest _ _ hx hb k => lv_dup2_11 hx hb hd ((mv_cat zt ad v).trans hv) ((mv_cat zt ad w).trans hw) k) k
theorem go_goto {off : Int} (hd : decode M.2.1 pc = .ok (.goto off, 3)) (hp : (pc : Int) + off = (q : Int)) (k : Go φ l M R u q L st h n) : Go φ l M R u pc L st h n :=
  go_pure (xs := []) (ys := []) (fun o => o) (fun p e s m args below meth c H locs Q ls zt ad rest _ _ hx hb k => lv_goto hx hb hd hp k) k
theorem go_if_eq {a off : Int} {t : Nat} (hd : decode M.2.1 pc = .ok (.ifCond .eq off, 3)) (ht : (pc : Int) + off = (t : Int)) (hp : pc + 3 = q) (ha : -2147483648 ≤ a ∧ a ≤ 2147483647) (kt : a = 0 → Go φ l M R u t L st h n) (kf : ¬ a = 0 → Go φ l M R u q L st h n) : Go φ l M R u pc L (mv_I a :: st) h n := by
  subst hp
  intro p e s m args below meth c D ca zt A n0 ad0 C H locs ls ad hS hP hD hl hn hadr oh ol os
  exact lv_if_eq C.1 C.2.1 hd ht (fun z => kt ((gn_eq0 ha).mp z) p e s m args below meth c D ca zt A n0 ad0 C H locs ls ad hS hP hD hl hn hadr oh ol os.tl) (fun z => kf (fun w => z ((gn_eq0 ha).mpr w)) p e s m args below meth c D ca zt A n0 ad0 C H locs ls ad hS hP hD hl hn hadr oh ol os.tl)
theorem go_icmp_eq {a b off : Int} {t : Nat} (hd : decode M.2.1 pc = .ok (.if_icmp .eq off, 3)) (ht : (pc : Int) + off = (t : Int)) (hp : pc + 3 = q) (ha : -2147483648 ≤ a ∧ a ≤ 2147483647) (hb0 : -2147483648 ≤ b ∧ b ≤ 2147483647) (kt : a = b → Go φ l M R u t L st h n) (kf : ¬ a = b → Go φ l M R u q L st h n) : Go φ l M R u pc L (mv_I b :: mv_I a :: st) h n := by
  subst hp
  intro p e s m args below meth c D ca zt A n0 ad0 C H locs ls ad hS hP hD hl hn hadr oh ol os
  exact lv_icmp_eq C.1 C.2.1 hd ht (fun z => kt ((gn_eq ha hb0).mp z) p e s m args below meth c D ca zt A n0 ad0 C H locs ls ad hS hP hD hl hn hadr oh ol os.tl.tl) (fun z => kf (fun w => z ((gn_eq ha hb0).mpr w)) p e s m args below meth c D ca zt A n0 ad0 C H locs ls ad hS hP hD hl hn hadr oh ol os.tl.tl)
theorem go_if_ne {a off : Int} {t : Nat} (hd : decode M.2.1 pc = .ok (.ifCond .ne off, 3)) (ht : (pc : Int) + off = (t : Int)) (hp : pc + 3 = q) (ha : -2147483648 ≤ a ∧ a ≤ 2147483647) (kt : ¬ a = 0 → Go φ l M R u t L st h n) (kf : a = 0 → Go φ l M R u q L st h n) : Go φ l M R u pc L (mv_I a :: st) h n := by
  subst hp
  intro p e s m args below meth c D ca zt A n0 ad0 C H locs ls ad hS hP hD hl hn hadr oh ol os
  exact lv_if_ne C.1 C.2.1 hd ht (fun z => kt (fun w => z ((gn_eq0 ha).mpr w)) p e s m args below meth c D ca zt A n0 ad0 C H locs ls ad hS hP hD hl hn hadr oh ol os.tl) (fun z => kf ((gn_eq0 ha).mp z) p e s m args below meth c D ca zt A n0 ad0 C H locs ls ad hS hP hD hl hn hadr oh ol os.tl)
theorem go_icmp_ne {a b off : Int} {t : Nat} (hd : decode M.2.1 pc = .ok (.if_icmp .ne off, 3)) (ht : (pc : Int) + off = (t : Int)) (hp : pc + 3 = q) (ha : -2147483648 ≤ a ∧ a ≤ 2147483647) (hb0 : -2147483648 ≤ b ∧ b ≤ 2147483647) (kt : ¬ a = b → Go φ l M R u t L st h n) (kf : a = b → Go φ l M R u q L st h n) : Go φ l M R u pc L (mv_I b :: mv_I a :: st) h n := by
  subst hp
  intro p e s m args below meth c D ca zt A n0 ad0 C H locs ls ad hS hP hD hl hn hadr oh ol os
  exact lv_icmp_ne C.1 C.2.1 hd ht (fun z => kt (fun w => z ((gn_eq ha hb0).mpr w)) p e s m args below meth c D ca zt A n0 ad0 C H locs ls ad hS hP hD hl hn hadr oh ol os.tl.tl) (fun z => kf ((gn_eq ha hb0).mp z) p e s m args below meth c D ca zt A n0 ad0 C H locs ls ad hS hP hD hl hn hadr oh ol os.tl.tl)
theorem go_if_lt {a off : Int} {t : Nat} (hd : decode M.2.1 pc = .ok (.ifCond .lt off, 3)) (ht : (pc : Int) + off = (t : Int)) (hp : pc + 3 = q) (ha : -2147483648 ≤ a ∧ a ≤ 2147483647) (kt : a < 0 → Go φ l M R u t L st h n) (kf : ¬ a < 0 → Go φ l M R u q L st h n) : Go φ l M R u pc L (mv_I a :: st) h n := by
  subst hp
  intro p e s m args below meth c D ca zt A n0 ad0 C H locs ls ad hS hP hD hl hn hadr oh ol os
  exact lv_if_lt C.1 C.2.1 hd ht (fun z => kt ((gn_lt0 ha).mp z) p e s m args below meth c D ca zt A n0 ad0 C H locs ls ad hS hP hD hl hn hadr oh ol os.tl) (fun z => kf (fun w => z ((gn_lt0 ha).mpr w)) p e s m args below meth c D ca zt A n0 ad0 C H locs ls ad hS hP hD hl hn hadr oh ol os.tl)
theorem go_icmp_lt {a b off : Int} {t : Nat} (hd : decode M.2.1 pc = .ok (.if_icmp .lt off, 3)) (ht : (pc : Int) + off = (t : Int)) (hp : pc + 3 = q) (ha : -2147483648 ≤ a ∧ a ≤ 2147483647) (hb0 : -2147483648 ≤ b ∧ b ≤ 2147483647) (kt : a < b → Go φ l M R u t L st h n) (kf : ¬ a < b → Go φ l M R u q L st h n) : Go φ l M R u pc L (mv_I b :: mv_I a :: st) h n := by
  subst hp
  intro p e s m args below meth c D ca zt A n0 ad0 C H locs ls ad hS hP hD hl hn hadr oh ol os
  exact lv_icmp_lt C.1 C.2.1 hd ht (fun z => kt ((gn_lt ha hb0).mp z) p e s m args below meth c D ca zt A n0 ad0 C H locs ls ad hS hP hD hl hn hadr oh ol os.tl.tl) (fun z => kf (fun w => z ((gn_lt ha hb0).mpr w)) p e s m args below meth c D ca zt A n0 ad0 C H locs ls ad hS hP hD hl hn hadr oh ol os.tl.tl)
theorem go_if_ge {a off : Int} {t : Nat} (hd : decode M.2.1 pc = .ok (.ifCond .ge off, 3)) (ht : (pc : Int) + off = (t : Int)) (hp : pc + 3 = q) (ha : -2147483648 ≤ a ∧ a ≤ 2147483647) (kt : 0 ≤ a → Go φ l M R u t L st h n) (kf : ¬ 0 ≤ a → Go φ l M R u q L st h n) : Go φ l M R u pc L (mv_I a :: st) h n := by
  subst hp
  intro p e s m args below meth c D ca zt A n0 ad0 C H locs ls ad hS hP hD hl hn hadr oh ol os
  exact lv_if_ge C.1 C.2.1 hd ht (fun z => kt ((gn_ge0 ha).mp z) p e s m args below meth c D ca zt A n0 ad0 C H locs ls ad hS hP hD hl hn hadr oh ol os.tl) (fun z => kf (fun w => z ((gn_ge0 ha).mpr w)) p e s m args below meth c D ca zt A n0 ad0 C H locs ls ad hS hP hD hl hn hadr oh ol os.tl)
theorem go_icmp_ge {a b off : Int} {t : Nat} (hd : decode M.2.1 pc = .ok (.if_icmp .ge off, 3)) (ht : (pc : Int) + off = (t : Int)) (hp : pc + 3 = q) (ha : -2147483648 ≤ a ∧ a ≤ 2147483647) (hb0 : -2147483648 ≤ b ∧ b ≤ 2147483647) (kt : b ≤ a → Go φ l M R u t L st h n) (kf : ¬ b ≤ a → Go φ l M R u q L st h n) : Go φ l M R u pc L (mv_I b :: mv_I a :: st) h n := by
  subst hp
  intro p e s m args below meth c D ca zt A n0 ad0 C H locs ls ad hS hP hD hl hn hadr oh ol os
  exact lv_icmp_ge C.1 C.2.1 hd ht (fun z => kt ((gn_le hb0 ha).mp z) p e s m args below meth c D ca zt A n0 ad0 C H locs ls ad hS hP hD hl hn hadr oh ol os.tl.tl) (fun z => kf (fun w => z ((gn_le hb0 ha).mpr w)) p e s m args below meth c D ca zt A n0 ad0 C H locs ls ad hS hP hD hl hn hadr oh ol os.tl.tl)
theorem go_if_gt {a off : Int} {t : Nat} (hd : decode M.2.1 pc = .ok (.ifCond .gt off, 3)) (ht : (pc : Int) + off = (t : Int)) (hp : pc + 3 = q) (ha : -2147483648 ≤ a ∧ a ≤ 2147483647) (kt : 0 < a → Go φ l M R u t L st h n) (kf : ¬ 0 < a → Go φ l M R u q L st h n) : Go φ l M R u pc L (mv_I a :: st) h n := by
  subst hp
  intro p e s m args below meth c D ca zt A n0 ad0 C H locs ls ad hS hP hD hl hn hadr oh ol os
  exact lv_if_gt C.1 C.2.1 hd ht (fun z => kt ((gn_gt0 ha).mp z) p e s m args below meth c D ca zt A n0 ad0 C H locs ls ad hS hP hD hl hn hadr oh ol os.tl) (fun z => kf (fun w => z ((gn_gt0 ha).mpr w)) p e s m args below meth c D ca zt A n0 ad0 C H locs ls ad hS hP hD hl hn hadr oh ol os.tl)
theorem go_icmp_gt {a b off : Int} {t : Nat} (hd : decode M.2.1 pc = .ok (.if_icmp .gt off, 3)) (ht : (pc : Int) + off = (t : Int)) (hp : pc + 3 = q) (ha : -2147483648 ≤ a ∧ a ≤ 2147483647) (hb0 : -2147483648 ≤ b ∧ b ≤ 2147483647) (kt : b < a → Go φ l M R u t L st h n) (kf : ¬ b < a → Go φ l M R u q L st h n) : Go φ l M R u pc L (mv_I b :: mv_I a :: st) h n := by
  subst hp
  intro p e s m args below meth c D ca zt A n0 ad0 C H locs ls ad hS hP hD hl hn hadr oh ol os
  exact lv_icmp_gt C.1 C.2.1 hd ht (fun z => kt ((gn_lt hb0 ha).mp z) p e s m args below meth c D ca zt A n0 ad0 C H locs ls ad hS hP hD hl hn hadr oh ol os.tl.tl) (fun z => kf (fun w => z ((gn_lt hb0 ha).mpr w)) p e s m args below meth c D ca zt A n0 ad0 C H locs ls ad hS hP hD hl hn hadr oh ol os.tl.tl)
theorem go_if_le {a off : Int} {t : Nat} (hd : decode M.2.1 pc = .ok (.ifCond .le off, 3)) (ht : (pc : Int) + off = (t : Int)) (hp : pc + 3 = q) (ha : -2147483648 ≤ a ∧ a ≤ 2147483647) (kt : a ≤ 0 → Go φ l M R u t L st h n) (kf : ¬ a ≤ 0 → Go φ l M R u q L st h n) : Go φ l M R u pc L (mv_I a :: st) h n := by
  subst hp
  intro p e s m args below meth c D ca zt A n0 ad0 C H locs ls ad hS hP hD hl hn hadr oh ol os
  exact lv_if_le C.1 C.2.1 hd ht (fun z => kt ((gn_le0 ha).mp z) p e s m args below meth c D ca zt A n0 ad0 C H locs ls ad hS hP hD hl hn hadr oh ol os.tl) (fun z => kf (fun w => z ((gn_le0 ha).mpr w)) p e s m args below meth c D ca zt A n0 ad0 C H locs ls ad hS hP hD hl hn hadr oh ol os.tl)
theorem go_icmp_le {a b off : Int} {t : Nat} (hd : decode M.2.1 pc = .ok (.if_icmp .le off, 3)) (ht : (pc : Int) + off = (t : Int)) (hp : pc + 3 = q) (ha : -2147483648 ≤ a ∧ a ≤ 2147483647) (hb0 : -2147483648 ≤ b ∧ b ≤ 2147483647) (kt : a ≤ b → Go φ l M R u t L st h n) (kf : ¬ a ≤ b → Go φ l M R u q L st h n) : Go φ l M R u pc L (mv_I b :: mv_I a :: st) h n := by
  subst hp
  intro p e s m args below meth c D ca zt A n0 ad0 C H locs ls ad hS hP hD hl hn hadr oh ol os
  exact lv_icmp_le C.1 C.2.1 hd ht (fun z => kt ((gn_le ha hb0).mp z) p e s m args below meth c D ca zt A n0 ad0 C H locs ls ad hS hP hD hl hn hadr oh ol os.tl.tl) (fun z => kf (fun w => z ((gn_le ha hb0).mpr w)) p e s m args below meth c D ca zt A n0 ad0 C H locs ls ad hS hP hD hl hn hadr oh ol os.tl.tl)
end GoRules
end
section
/-! THE PURE MACHINE, part 3: fields, arrays, new cells. -/
/-- what the tables say of a class of the world: its number ci, its name, fields and types -/
def go_cls (ci : Nat) (C : String) (T : u_T) (N : Nat) (ty : Nat → FieldType) : Prop :=
  vwCl[ci]? = some (C, T, N) ∧ (∀ w ∈ u_ws C T N, w ∈ go_T) ∧ (∀ k, k < N → parseFieldDescriptor (T k).2.2.1 = some (ty k)) ∧ ∀ a, a < N → ∀ b, b < N → a ≠ b → (T a).2.1 ≠ (T b).2.1
/-- what 'idx' names in the class 'own': the field k of the class ci, its type, and whether it is final -/
def go_fld (own : String) (idx ci k : Nat) (ty : FieldType) (fin : Bool) : Prop := ∃ (C : String) (T : u_T) (N : Nat) (ty0 : Nat → FieldType), go_cls ci C T N ty0 ∧ k < N ∧ ty0 k = ty ∧ (T k).2.2.2 = fin ∧
  (Cond.fieldLink own idx (T k).1 (T k).2.1 (T k).2.2.1 ∈ go_T ∨ ∃ host, Cond.fieldLinkNest own idx (T k).1 (T k).2.1 (T k).2.2.1 host ∈ go_N)
/-- a final field of the class's own -/
def go_flF (own : String) (idx ci k : Nat) (ty : FieldType) : Prop := ∃ (C : String) (T : u_T) (N : Nat) (ty0 : Nat → FieldType), go_cls ci C T N ty0 ∧ k < N ∧ ty0 k = ty ∧ (T k).2.2.2 = true ∧ (T k).1 = own ∧ Cond.fieldLink own idx (T k).1 (T k).2.1 (T k).2.2.1 ∈ go_T
theorem go_fitI (z : Int) (zt ad : Nat → Nat) : narrow .int (mv_c zt ad (mv_I z)) = mv_c zt ad (mv_I z) ∧ fits .int (mv_c zt ad (mv_I z)) = true := ⟨rfl, rfl⟩
theorem go_fitZ {z : Int} (hz : z = 0 ∨ z = 1) (zt ad : Nat → Nat) : narrow .boolean (mv_c zt ad (mv_I z)) = mv_c zt ad (mv_I z) ∧ fits .boolean (mv_c zt ad (mv_I z)) = true := by
  rcases hz with rfl | rfl
  · exact ⟨by show narrow .boolean (.int (Int32.ofInt 0)) = .int (Int32.ofInt 0); decide, by show fits .boolean (.int (Int32.ofInt 0)) = true; decide⟩
  · exact ⟨by show narrow .boolean (.int (Int32.ofInt 1)) = .int (Int32.ofInt 1); decide, by show fits .boolean (.int (Int32.ofInt 1)) = true; decide⟩
theorem go_fitR (C : String) (r : Nat) (zt ad : Nat → Nat) : narrow (.object C) (mv_c zt ad (mv_R r)) = mv_c zt ad (mv_R r) ∧ fits (.object C) (mv_c zt ad (mv_R r)) = true := ⟨rfl, rfl⟩
theorem go_fitA (C : FieldType) (r : Nat) (zt ad : Nat → Nat) : narrow (.array C) (mv_c zt ad (mv_R r)) = mv_c zt ad (mv_R r) ∧ fits (.array C) (mv_c zt ad (mv_R r)) = true := ⟨rfl, rfl⟩
section GoHeap
variable {φ : go_F} {l : Launch} {M : go_M} {R : Room} {u : Nat × Nat} {pc q : Nat} {L : List (Option mv_V)} {st : List mv_V} {h : mv_H} {n : Nat}
theorem go_getf {idx ci k r : Nat} {ty : FieldType} {fin : Bool} {fs : List mv_V} {v : mv_V} (hf : go_fld M.1.cls idx ci k ty fin) (hd : decode M.2.1 pc = .ok (.getfield idx, 3)) (hp : pc + 3 = q) (hh : h r = mv_O ci fs) (hv : fs[k]? = some v) (kk : Go φ l M R u q L (v :: st) h n) : Go φ l M R u pc L (mv_R r :: st) h n := by
  subst hp
  obtain ⟨C', T, N, ty0, ⟨hc, hin, hty, hnm⟩, hk, -, -, hlink⟩ := hf
  intro p e s m args below meth c D ca zt A n0 ad0 C H locs ls ad hS hP hD hl hn ha oh ol os
  have hr : r < n := os.hd
  have he : (mv_W ca zt ad h n)[r]? = some (ad r, .inr (ci, fs.map (mv_c zt ad))) := mv_W_is hr hh
  have hv' : (fs.map (mv_c zt ad))[k]? = some (mv_c zt ad v) := by rw [List.getElem?_map, hv]; rfl
  have ov : ok_V n v := by
    have := oh r hr
    rw [hh] at this
    exact this v (List.mem_of_getElem? hv)
  have kk' := kk p e s m args below meth c D ca zt A n0 ad0 C H locs ls ad hS hP hD hl hn ha oh ol (ok_S.cons ov os.tl)
  obtain ⟨c1, c2, c3, c4, c5, c6, c7, c8, ⟨k1, k2, k3⟩, c10⟩ := C
  rcases hlink with hl1 | ⟨host, hl1⟩
  · exact va_get c1 c2 c8 hin c7 k1 hP r he hc k hk (c8 _ hl1) (fun _ z => z) hv' hd kk'
  · exact va_getN c1 c2 c8 hin c7 k1 hP r he hc k hk (va_Nw.use rfl (k2 _ hl1)) (fun _ z => z) hv' hd kk'
theorem go_putf {idx ci k r : Nat} {ty : FieldType} {fs : List mv_V} {v : mv_V} (hf : go_fld M.1.cls idx ci k ty false) (hd : decode M.2.1 pc = .ok (.putfield idx, 3)) (hp : pc + 3 = q) (hh : h r = mv_O ci fs) (hk0 : k < fs.length) (hfit : ∀ zt ad, narrow ty (mv_c zt ad v) = mv_c zt ad v ∧ fits ty (mv_c zt ad v) = true) (kk : Go φ l M R u q L st (va_up h r (mv_O ci (fs.set k v))) n) : Go φ l M R u pc L (v :: mv_R r :: st) h n := by
  subst hp
  obtain ⟨C', T, N, ty0, ⟨hc, hin, hty, hnm⟩, hk, ht, hfin, hlink⟩ := hf
  intro p e s m args below meth c D ca zt A n0 ad0 C H locs ls ad hS hP hD hl hn ha oh ol os
  have hr : r < n := os.tl.hd
  have he : (mv_W ca zt ad h n)[r]? = some (ad r, .inr (ci, fs.map (mv_c zt ad))) := mv_W_is hr hh
  have hl' : k < (fs.map (mv_c zt ad)).length := by simpa using hk0
  have hset : ∀ (P : va_W → Prop), P ((mv_W ca zt ad h n).set r (ad r, .inr (ci, (fs.map (mv_c zt ad)).set k (mv_c zt ad v)))) → P (mv_W ca zt ad (va_up h r (mv_O ci (fs.set k v))) n) := by
    intro P hp
    rw [← mv_W_set]
    show P ((mv_W ca zt ad h n).set r (ad r, .inr (ci, (fs.set k v).map (mv_c zt ad))))
    rw [List.map_set]
    exact hp
  have oh' : ok_H n (va_up h r (mv_O ci (fs.set k v))) := by
    refine oh.up fun w hw => ?_
    have h1 := oh r hr
    rw [hh] at h1
    rcases List.mem_or_eq_of_mem_set hw with hw | rfl
    · exact h1 w hw
    · exact os.hd
  have kk' : ∀ (H1 : Heap) (locs1 : List Loc), va_P D vwCl ((mv_W ca zt ad h n).set r (ad r, .inr (ci, (fs.map (mv_c zt ad)).set k (mv_c zt ad v)))) H1 → va_D A ((mv_W ca zt ad h n).set r (ad r, .inr (ci, (fs.map (mv_c zt ad)).set k (mv_c zt ad v)))) → va_S A s.heap H1 locs1 → W p l e R s m args below meth c H1 locs1 u.1 u.2 (φ below args s A D ca zt n0 ad0) (F0 m (pc + 3) ls (st.map (mv_c zt ad))) :=
    fun H1 locs1 hP1 hD1 hS1 => kk p e s m args below meth c D ca zt A n0 ad0 C H1 locs1 ls ad hS1 (hset (fun w => va_P D vwCl w H1) hP1) (hset (fun w => va_D A w) hD1) hl hn ha oh' ol os.tl.tl
  obtain ⟨c1, c2, c3, c4, c5, c6, c7, c8, ⟨k1, k2, k3⟩, c10⟩ := C
  have hd0 : parseFieldDescriptor (T k).2.2.1 = some ty := by rw [hty k hk, ht]
  rcases hlink with hl1 | ⟨host, hl1⟩
  · exact va_put c1 c2 c8 hin ty0 hty hnm c7 k1 hP hD hS r he hc k hk (c8 _ hl1) (fun _ z => z) hfin hd0 (hfit zt ad).1 (hfit zt ad).2 hl' hd kk'
  · exact va_putN c1 c2 c8 hin ty0 hty hnm c7 k1 hP hD hS r he hc k hk (va_Nw.use rfl (k2 _ hl1)) (fun _ z => z) hfin hd0 (hfit zt ad).1 (hfit zt ad).2 hl' hd kk'
theorem go_putF {idx ci k r : Nat} {ty : FieldType} {fs : List mv_V} {v : mv_V} (hf : go_flF M.1.cls idx ci k ty) (hi : M.1.name = "<init>") (hd : decode M.2.1 pc = .ok (.putfield idx, 3)) (hp : pc + 3 = q) (hh : h r = mv_O ci fs) (hk0 : k < fs.length) (hfit : ∀ zt ad, narrow ty (mv_c zt ad v) = mv_c zt ad v ∧ fits ty (mv_c zt ad v) = true) (kk : Go φ l M R u q L st (va_up h r (mv_O ci (fs.set k v))) n) : Go φ l M R u pc L (v :: mv_R r :: st) h n := by
  subst hp
  obtain ⟨C', T, N, ty0, ⟨hc, hin, hty, hnm⟩, hk, ht, hfin, hdec, hl1⟩ := hf
  intro p e s m args below meth c D ca zt A n0 ad0 C H locs ls ad hS hP hD hl hn ha oh ol os
  have hr : r < n := os.tl.hd
  have he : (mv_W ca zt ad h n)[r]? = some (ad r, .inr (ci, fs.map (mv_c zt ad))) := mv_W_is hr hh
  have hl' : k < (fs.map (mv_c zt ad)).length := by simpa using hk0
  have hset : ∀ (P : va_W → Prop), P ((mv_W ca zt ad h n).set r (ad r, .inr (ci, (fs.map (mv_c zt ad)).set k (mv_c zt ad v)))) → P (mv_W ca zt ad (va_up h r (mv_O ci (fs.set k v))) n) := by
    intro P hp
    rw [← mv_W_set]
    show P ((mv_W ca zt ad h n).set r (ad r, .inr (ci, (fs.set k v).map (mv_c zt ad))))
    rw [List.map_set]
    exact hp
  have oh' : ok_H n (va_up h r (mv_O ci (fs.set k v))) := by
    refine oh.up fun w hw => ?_
    have h1 := oh r hr
    rw [hh] at h1
    rcases List.mem_or_eq_of_mem_set hw with hw | rfl
    · exact h1 w hw
    · exact os.hd
  have kk' : ∀ (H1 : Heap) (locs1 : List Loc), va_P D vwCl ((mv_W ca zt ad h n).set r (ad r, .inr (ci, (fs.map (mv_c zt ad)).set k (mv_c zt ad v)))) H1 → va_D A ((mv_W ca zt ad h n).set r (ad r, .inr (ci, (fs.map (mv_c zt ad)).set k (mv_c zt ad v)))) → va_S A s.heap H1 locs1 → W p l e R s m args below meth c H1 locs1 u.1 u.2 (φ below args s A D ca zt n0 ad0) (F0 m (pc + 3) ls (st.map (mv_c zt ad))) :=
    fun H1 locs1 hP1 hD1 hS1 => kk p e s m args below meth c D ca zt A n0 ad0 C H1 locs1 ls ad hS1 (hset (fun w => va_P D vwCl w H1) hP1) (hset (fun w => va_D A w) hD1) hl hn ha oh' ol os.tl.tl
  obtain ⟨c1, c2, c3, c4, c5, c6, c7, c8, ⟨k1, k2, k3⟩, c10⟩ := C
  have hd0 : parseFieldDescriptor (T k).2.2.1 = some ty := by rw [hty k hk, ht]
  exact va_putF c1 c2 c8 hin ty0 hty hnm c7 k1 hP hD hS r he hc k hk (c8 _ hl1) (fun _ z => z) hfin (c6.trans hi) hdec hd0 (hfit zt ad).1 (hfit zt ad).2 hl' hd kk'
theorem go_iald {r i N : Nat} {f : Nat → Int} {a : Int} (hd : decode M.2.1 pc = .ok (.iaload, 1)) (hp : pc + 1 = q) (hh : h r = mv_A 0 N f) (ha0 : a = (i : Int)) (hi : i < N) (hN : N < 2147483648) (kk : Go φ l M R u q L (mv_I (f i) :: st) h n) : Go φ l M R u pc L (mv_I a :: mv_R r :: st) h n := by
  subst hp
  intro p e s m args below meth c D ca zt A n0 ad0 C H locs ls ad hS hP hD hl hn ha oh ol os
  have hr : r < n := os.tl.hd
  have he : (mv_W ca zt ad h n)[r]? = some (ad r, .inl (ca 0, N, .inl fun j => Int32.ofInt (f j))) := mv_W_is hr hh
  obtain ⟨g1, g2⟩ := gn_in ha0 hi hN
  have kk' := kk p e s m args below meth c D ca zt A n0 ad0 C H locs ls ad hS hP hD hl hn ha oh ol (ok_S.cons trivial os.tl.tl)
  exact va_iald C.1 C.2.1 C.2.2.2.2.2.2.2.2.1.1 hP r 0 he rfl g1 hd (by rw [g2]; exact kk')
theorem go_cald {r i N : Nat} {f : Nat → Int} {a : Int} (hd : decode M.2.1 pc = .ok (.caload, 1)) (hp : pc + 1 = q) (hh : h r = mv_A 2 N f) (ha0 : a = (i : Int)) (hi : i < N) (hN : N < 2147483648) (kk : Go φ l M R u q L (mv_I (f i) :: st) h n) : Go φ l M R u pc L (mv_I a :: mv_R r :: st) h n := by
  subst hp
  intro p e s m args below meth c D ca zt A n0 ad0 C H locs ls ad hS hP hD hl hn ha oh ol os
  have hr : r < n := os.tl.hd
  have he : (mv_W ca zt ad h n)[r]? = some (ad r, .inl (ca 2, N, .inl fun j => Int32.ofInt (f j))) := mv_W_is hr hh
  obtain ⟨g1, g2⟩ := gn_in ha0 hi hN
  have kk' := kk p e s m args below meth c D ca zt A n0 ad0 C H locs ls ad hS hP hD hl hn ha oh ol (ok_S.cons trivial os.tl.tl)
  exact va_cald C.1 C.2.1 C.2.2.2.2.2.2.2.2.1.1 hP r 2 he rfl g1 hd (by rw [g2]; exact kk')
theorem go_lald {r i N : Nat} {f : Nat → Int} {a : Int} (hd : decode M.2.1 pc = .ok (.laload, 1)) (hp : pc + 1 = q) (hh : h r = mv_A 1 N f) (ha0 : a = (i : Int)) (hi : i < N) (hN : N < 2147483648) (kk : Go φ l M R u q L (mv_L (f i) :: st) h n) : Go φ l M R u pc L (mv_I a :: mv_R r :: st) h n := by
  subst hp
  intro p e s m args below meth c D ca zt A n0 ad0 C H locs ls ad hS hP hD hl hn ha oh ol os
  have hr : r < n := os.tl.hd
  have he : (mv_W ca zt ad h n)[r]? = some (ad r, .inl (ca 1, N, .inr (.inl fun j => Int64.ofInt (f j)))) := mv_W_is hr hh
  obtain ⟨g1, g2⟩ := gn_in ha0 hi hN
  have kk' := kk p e s m args below meth c D ca zt A n0 ad0 C H locs ls ad hS hP hD hl hn ha oh ol (ok_S.cons trivial os.tl.tl)
  exact va_lald C.1 C.2.1 C.2.2.2.2.2.2.2.2.1.1 hP r 1 he rfl g1 hd (by rw [g2]; exact kk')
theorem go_iast {r i N : Nat} {f : Nat → Int} {a x : Int} (hd : decode M.2.1 pc = .ok (.iastore, 1)) (hp : pc + 1 = q) (hh : h r = mv_A 0 N f) (ha0 : a = (i : Int)) (hi : i < N) (hN : N < 2147483648) (kk : Go φ l M R u q L st (va_up h r (mv_A 0 N (va_up f i x))) n) : Go φ l M R u pc L (mv_I x :: mv_I a :: mv_R r :: st) h n := by
  subst hp
  intro p e s m args below meth c D ca zt A n0 ad0 C H locs ls ad hS hP hD hl hn ha oh ol os
  have hr : r < n := os.tl.tl.hd
  have he : (mv_W ca zt ad h n)[r]? = some (ad r, .inl (ca 0, N, .inl (fun j => Int32.ofInt (f j)))) := mv_W_is hr hh
  obtain ⟨g1, g2⟩ := gn_in ha0 hi hN
  have hset : ∀ (P : va_W → Prop), P ((mv_W ca zt ad h n).set r (ad r, .inl (ca 0, N, .inl (upd (fun j => Int32.ofInt (f j)) i (Int32.ofInt x))))) → P (mv_W ca zt ad (va_up h r (mv_A 0 N (va_up f i x))) n) := by
    intro P hp
    rw [← mv_W_set]
    show P ((mv_W ca zt ad h n).set r (ad r, .inl (ca 0, N, .inl (fun j => Int32.ofInt (va_up f i x j)))))
    have hf : (fun j => Int32.ofInt (va_up f i x j)) = upd (fun j => Int32.ofInt (f j)) i (Int32.ofInt x) := by
      funext j
      unfold upd va_up
      by_cases hj : j = i
      · rw [if_pos hj, if_pos hj]
      · rw [if_neg hj, if_neg hj]
    rw [hf]
    exact hp
  exact va_iast C.1 C.2.1 C.2.2.2.2.2.2.2.2.1.1 hP hD hS r 0 he rfl g1 hd (fun H1 locs1 hP1 hD1 hS1 => by
    rw [g2] at hP1 hD1
    exact kk p e s m args below meth c D ca zt A n0 ad0 C H1 locs1 ls ad hS1 (hset (fun w => va_P D vwCl w H1) hP1) (hset (fun w => va_D A w) hD1) hl hn ha (oh.up trivial) ol os.tl.tl.tl)
theorem go_cast {r i N : Nat} {f : Nat → Int} {a x : Int} (hd : decode M.2.1 pc = .ok (.castore, 1)) (hp : pc + 1 = q) (hh : h r = mv_A 2 N f) (ha0 : a = (i : Int)) (hi : i < N) (hN : N < 2147483648) (hx : 0 ≤ x ∧ x ≤ 65535) (kk : Go φ l M R u q L st (va_up h r (mv_A 2 N (va_up f i x))) n) : Go φ l M R u pc L (mv_I x :: mv_I a :: mv_R r :: st) h n := by
  subst hp
  intro p e s m args below meth c D ca zt A n0 ad0 C H locs ls ad hS hP hD hl hn ha oh ol os
  have hr : r < n := os.tl.tl.hd
  have he : (mv_W ca zt ad h n)[r]? = some (ad r, .inl (ca 2, N, .inl (fun j => Int32.ofInt (f j)))) := mv_W_is hr hh
  obtain ⟨g1, g2⟩ := gn_in ha0 hi hN
  have hset : ∀ (P : va_W → Prop), P ((mv_W ca zt ad h n).set r (ad r, .inl (ca 2, N, .inl (upd (fun j => Int32.ofInt (f j)) i (vp_nar .char (Int32.ofInt x)))))) → P (mv_W ca zt ad (va_up h r (mv_A 2 N (va_up f i x))) n) := by
    intro P hp
    rw [← mv_W_set]
    show P ((mv_W ca zt ad h n).set r (ad r, .inl (ca 2, N, .inl (fun j => Int32.ofInt (va_up f i x j)))))
    have hf : (fun j => Int32.ofInt (va_up f i x j)) = upd (fun j => Int32.ofInt (f j)) i (vp_nar .char (Int32.ofInt x)) := by
      rw [gn_char hx]
      funext j
      unfold upd va_up
      by_cases hj : j = i
      · rw [if_pos hj, if_pos hj]
      · rw [if_neg hj, if_neg hj]
    rw [hf]
    exact hp
  exact va_cast C.1 C.2.1 C.2.2.2.2.2.2.2.2.1.1 hP hD hS r 2 he rfl g1 hd (fun H1 locs1 hP1 hD1 hS1 => by
    rw [g2] at hP1 hD1
    exact kk p e s m args below meth c D ca zt A n0 ad0 C H1 locs1 ls ad hS1 (hset (fun w => va_P D vwCl w H1) hP1) (hset (fun w => va_D A w) hD1) hl hn ha (oh.up trivial) ol os.tl.tl.tl)
theorem go_last {r i N : Nat} {f : Nat → Int} {a x : Int} (hd : decode M.2.1 pc = .ok (.lastore, 1)) (hp : pc + 1 = q) (hh : h r = mv_A 1 N f) (ha0 : a = (i : Int)) (hi : i < N) (hN : N < 2147483648) (kk : Go φ l M R u q L st (va_up h r (mv_A 1 N (va_up f i x))) n) : Go φ l M R u pc L (mv_L x :: mv_I a :: mv_R r :: st) h n := by
  subst hp
  intro p e s m args below meth c D ca zt A n0 ad0 C H locs ls ad hS hP hD hl hn ha oh ol os
  have hr : r < n := os.tl.tl.hd
  have he : (mv_W ca zt ad h n)[r]? = some (ad r, .inl (ca 1, N, .inr (.inl (fun j => Int64.ofInt (f j))))) := mv_W_is hr hh
  obtain ⟨g1, g2⟩ := gn_in ha0 hi hN
  have hset : ∀ (P : va_W → Prop), P ((mv_W ca zt ad h n).set r (ad r, .inl (ca 1, N, .inr (.inl (vp_updL (fun j => Int64.ofInt (f j)) i (Int64.ofInt x)))))) → P (mv_W ca zt ad (va_up h r (mv_A 1 N (va_up f i x))) n) := by
    intro P hp
    rw [← mv_W_set]
    show P ((mv_W ca zt ad h n).set r (ad r, .inl (ca 1, N, .inr (.inl (fun j => Int64.ofInt (va_up f i x j))))))
    have hf : (fun j => Int64.ofInt (va_up f i x j)) = vp_updL (fun j => Int64.ofInt (f j)) i (Int64.ofInt x) := by
      funext j
      unfold vp_updL va_up
      by_cases hj : j = i
      · rw [if_pos hj, if_pos hj]
      · rw [if_neg hj, if_neg hj]
    rw [hf]
    exact hp
  exact va_last C.1 C.2.1 C.2.2.2.2.2.2.2.2.1.1 hP hD hS r 1 he rfl g1 hd (fun H1 locs1 hP1 hD1 hS1 => by
    rw [g2] at hP1 hD1
    exact kk p e s m args below meth c D ca zt A n0 ad0 C H1 locs1 ls ad hS1 (hset (fun w => va_P D vwCl w H1) hP1) (hset (fun w => va_D A w) hD1) hl hn ha (oh.up trivial) ol os.tl.tl.tl)
theorem go_alen {r t N : Nat} {f : Nat → Int} {ty : FieldType} (hd : decode M.2.1 pc = .ok (.arraylength, 1)) (hp : pc + 1 = q) (hh : h r = mv_A t N f) (ht : ∀ ca, (cx_ty ca)[t]? = some (ca t, ty)) (kk : Go φ l M R u q L (mv_I (N : Int) :: st) h n) : Go φ l M R u pc L (mv_R r :: st) h n := by
  subst hp
  intro p e s m args below meth c D ca zt A n0 ad0 C H locs ls ad hS hP hD hl hn ha oh ol os
  have hr : r < n := os.hd
  have he : (mv_W ca zt ad h n)[r]? = some (ad r, .inl (ca t, N, mv_a t f)) := mv_W_is hr hh
  have kk' := kk p e s m args below meth c D ca zt A n0 ad0 C H locs ls ad hS hP hD hl hn ha oh ol (ok_S.cons trivial os.tl)
  exact va_alen C.1 C.2.1 C.2.2.2.2.2.2.2.2.1.1 hP r t he (ht ca) Int32.ofInt_eq_ofNat.symm hd kk'
theorem go_aald {r i N j : Nat} {f : Nat → Option Nat} {a : Int} (hd : decode M.2.1 pc = .ok (.aaload, 1)) (hp : pc + 1 = q) (hh : h r = mv_Q 3 N f) (ha0 : a = (i : Int)) (hi : i < N) (hN : N < 2147483648) (hj : f i = some j) (kk : Go φ l M R u q L (mv_R j :: st) h n) : Go φ l M R u pc L (mv_I a :: mv_R r :: st) h n := by
  subst hp
  intro p e s m args below meth c D ca zt A n0 ad0 C H locs ls ad hS hP hD hl hn ha oh ol os
  have hr : r < n := os.tl.hd
  have he : (mv_W ca zt ad h n)[r]? = some (ad r, .inl (ca 3, N, .inr (.inr (.inr (.inr fun j => (f j).map ad))))) := mv_W_is hr hh
  obtain ⟨g1, g2⟩ := gn_in ha0 hi hN
  have oj : ok_V n (mv_R j) := by
    have h1 := oh r hr
    rw [hh] at h1
    exact h1 i j hj
  have kk' := kk p e s m args below meth c D ca zt A n0 ad0 C H locs ls ad hS hP hD hl hn ha oh ol (ok_S.cons oj os.tl.tl)
  exact va_aldq C.1 C.2.1 C.2.2.2.2.2.2.2.2.1.1 hP r 3 he rfl g1 hd (by rw [g2, hj]; exact kk')
theorem go_aast {r i N j ci : Nat} {f : Nat → Option Nat} {a : Int} {fs : List mv_V} {T : u_T} {N0 : Nat} (hd : decode M.2.1 pc = .ok (.aastore, 1)) (hp : pc + 1 = q) (hh : h r = mv_Q 3 N f) (ha0 : a = (i : Int)) (hi : i < N) (hN : N < 2147483648) (hj : h j = mv_O ci fs) (hc : vwCl[ci]? = some (cx_RF, T, N0)) (kk : Go φ l M R u q L st (va_up h r (mv_Q 3 N (va_up f i (some j)))) n) : Go φ l M R u pc L (mv_R j :: mv_I a :: mv_R r :: st) h n := by
  subst hp
  intro p e s m args below meth c D ca zt A n0 ad0 C H locs ls ad hS hP hD hl hn ha oh ol os
  have hr : r < n := os.tl.tl.hd
  have hjn : j < n := os.hd
  have he : (mv_W ca zt ad h n)[r]? = some (ad r, .inl (ca 3, N, .inr (.inr (.inr (.inr fun j => (f j).map ad))))) := mv_W_is hr hh
  have hej : (mv_W ca zt ad h n)[j]? = some (ad j, .inr (ci, fs.map (mv_c zt ad))) := mv_W_is hjn hj
  obtain ⟨g1, g2⟩ := gn_in ha0 hi hN
  have hset : ∀ (P : va_W → Prop), P ((mv_W ca zt ad h n).set r (ad r, .inl (ca 3, N, .inr (.inr (.inr (.inr (va_up (fun j => (f j).map ad) i (some (ad j))))))))) → P (mv_W ca zt ad (va_up h r (mv_Q 3 N (va_up f i (some j)))) n) := by
    intro P hp
    rw [← mv_W_set]
    show P ((mv_W ca zt ad h n).set r (ad r, .inl (ca 3, N, .inr (.inr (.inr (.inr fun k => (va_up f i (some j) k).map ad))))))
    have hf : (fun k => (va_up f i (some j) k).map ad) = va_up (fun j => (f j).map ad) i (some (ad j)) := by
      funext k
      unfold va_up
      by_cases hk : k = i
      · rw [if_pos hk, if_pos hk]; rfl
      · rw [if_neg hk, if_neg hk]
    rw [hf]
    exact hp
  have oh' : ok_H n (va_up h r (mv_Q 3 N (va_up f i (some j)))) := by
    refine oh.up fun k i' hk => ?_
    have h1 := oh r hr
    rw [hh] at h1
    unfold va_up at hk
    by_cases hki : k = i
    · rw [if_pos hki] at hk
      cases hk
      exact hjn
    · rw [if_neg hki] at hk
      exact h1 k i' hk
  exact va_astq C.1 C.2.1 C.2.2.2.2.2.2.2.2.1.1 hP hD hS r 3 j ci he rfl hej hc g1 hd (fun H1 locs1 hP1 hD1 hS1 => by
    rw [g2] at hP1 hD1
    exact kk p e s m args below meth c D ca zt A n0 ad0 C H1 locs1 ls ad hS1 (hset (fun w => va_P D vwCl w H1) hP1) (hset (fun w => va_D A w) hD1) hl hn ha oh' ol os.tl.tl.tl)
/-- a new cell: what the world is then -/
theorem go_born {x : mv_E} {zt ad : Nat → Nat} {ca : Nat → ClassId} {a : Nat} {ls : Array Slot} {n0 : Nat} {ad0 : Nat → Nat} {nL : Nat} {e : va_E} (hl : mv_ls zt ad ls nL L) (hn : n0 ≤ n) (ha : ∀ i, i < n0 → ad i = ad0 i) (oh : ok_H n h) (ol : ok_L n L) (os : ok_S n st) (ox : ok_E (n + 1) x) (he : mv_e ca zt (va_up ad n a) x = e) :
    mv_W ca zt ad h n ++ [(a, e)] = mv_W ca zt (va_up ad n a) (va_up h n x) (n + 1) ∧ mv_ls zt (va_up ad n a) ls nL L ∧ n0 ≤ n + 1 ∧ (∀ i, i < n0 → va_up ad n a i = ad0 i) ∧ ok_H (n + 1) (va_up h n x) ∧ ok_L (n + 1) L ∧ ok_S (n + 1) (mv_R n :: st) ∧ Value.ref a :: st.map (mv_c zt ad) = (mv_R n :: st).map (mv_c zt (va_up ad n a)) := by
  have hx : ∀ i, i < n → va_up ad n a i = ad i := fun i hi => va_up_ne _ _ (Nat.ne_of_lt hi)
  refine ⟨mv_W_push oh he, hl.congr ol hx, Nat.le_succ_of_le hn, fun i hi => (hx i (Nat.lt_of_lt_of_le hi hn)).trans (ha i hi), oh.push ox, ol.mono (Nat.le_succ n), ok_S.cons (Nat.lt_succ_self n) (os.mono (Nat.le_succ n)), ?_⟩
  rw [List.map_cons, mv_map_congr os hx]
  show _ = Value.ref (va_up ad n a n) :: _
  rw [va_up_self]
theorem go_new {idx ci N : Nat} {C' : String} {T : u_T} {ty0 : Nat → FieldType} {fs : List mv_V} (hc : go_cls ci C' T N ty0) (hw1 : Cond.classLink M.1.cls idx C' ∈ go_T) (hw2 : Cond.instantiable C' N ∈ go_T) (hw3 : Cond.initialized C' ∈ go_T) (hd : decode M.2.1 pc = .ok (.new idx, 3)) (hp : pc + 3 = q) (hfs : ∀ j, j < N → ∀ zt ad, defaultValue (ty0 j) = vp_V (fs.map (mv_c zt ad)) j) (hok : ok_S 0 fs) (hr1 : u.1 + 1 ≤ R.cells) (hr2 : u.2 + N ≤ R.slots)
    (kk : Go φ l M R (u.1 + 1, u.2 + N) q L (mv_R n :: st) (va_up h n (mv_O ci fs)) (n + 1)) : Go φ l M R u pc L st h n := by
  subst hp
  obtain ⟨hci, hin, hty, hnm⟩ := hc
  intro p e s m args below meth c D ca zt A n0 ad0 C H locs ls ad hS hP hD hl hn ha oh ol os
  obtain ⟨c1, c2, c3, c4, c5, c6, c7, c8, ⟨k1, k2, k3⟩, c10⟩ := id C
  refine va_new (fs := fs.map (mv_c zt ad)) c1 c2 c8 hin ty0 hty c7 (c8 _ hw1) (c8 _ hw2) (c8 _ hw3) k1 hP hD hS c10 hci (fun j hj => hfs j hj zt ad) hr1 hr2 hd (fun a H1 hP1 hD1 hS1 => ?_)
  have he : mv_e ca zt (va_up ad n a) (mv_O ci fs) = .inr (ci, fs.map (mv_c zt ad)) := by
    show (Sum.inr (ci, fs.map (mv_c zt (va_up ad n a))) : va_E) = _
    rw [mv_map_congr hok (fun i hi => absurd hi (Nat.not_lt_zero i))]
  obtain ⟨b1, b2, b3, b4, b5, b6, b7, b8⟩ := go_born (x := mv_O ci fs) (a := a) hl hn ha oh ol os (fun v hv => (hok v hv).mono (Nat.zero_le _)) he
  rw [b1] at hP1 hD1
  rw [b8]
  exact kk p e s m args below meth c D ca zt A n0 ad0 C H1 locs ls (va_up ad n a) hS1 hP1 hD1 b2 b3 b4 b5 b6 b7
theorem go_newI {N : Nat} {a : Int} (hw : Cond.arrayClass .int ∈ go_T) (hd : decode M.2.1 pc = .ok (.newarray .int, 2)) (hp : pc + 2 = q) (ha0 : a = (N : Int)) (hN : N * componentBytes .int ≤ 536870912) (hN2 : N < 2147483648) (hr1 : u.1 + 1 ≤ R.cells) (hr2 : u.2 + N ≤ R.slots)
    (kk : Go φ l M R (u.1 + 1, u.2 + N) q L (mv_R n :: st) (va_up h n (mv_A 0 N (fun _ => 0))) (n + 1)) : Go φ l M R u pc L (mv_I a :: st) h n := by
  subst hp
  subst ha0
  intro p e s m args below meth c D ca zt A n0 ad0 C H locs ls ad hS hP hD hl hn ha oh ol os
  obtain ⟨c1, c2, c3, c4, c5, c6, c7, c8, ⟨k1, k2, k3⟩, c10⟩ := id C
  have g1 : ¬ (Int32.ofInt (N : Int)) < 0 := by rw [gn_nI]; exact nI_pos (by omega)
  have g2 : (Int32.ofInt (N : Int)).toNatClampNeg = N := by rw [gn_nI]; exact nI_clamp (by omega)
  refine va_newa (atype := .int) (ty := .int) (a0 := (N, .inl (fun _ => Int32.ofInt 0))) c1 c2 (c8 _ hw) rfl k1 hP hD hS c10 (fun cA => rfl) g1 g2 hN hr1 hr2 hd (fun a cA H1 hK1 hP1 hD1 hS1 => ?_)
  have e1 : s.vm.findClass ("[" ++ (FieldType.int).toString) = some cA := (hK1.2 4 (cA, .int) rfl).2
  have e2 : s.vm.findClass ("[" ++ (FieldType.int).toString) = some (ca 0) := (k1.2 0 (ca 0, .int) rfl).2
  have e3 : cA = ca 0 := Option.some.inj (e1.symm.trans e2)
  subst e3
  obtain ⟨b1, b2, b3, b4, b5, b6, b7, b8⟩ := go_born (ca := ca) (x := mv_A 0 N (fun _ => 0)) (a := a) hl hn ha oh ol os.tl trivial rfl
  replace hP1 : va_P D vwCl (mv_W ca zt ad h n ++ [(a, mv_e ca zt (va_up ad n a) (mv_A 0 N (fun _ => 0)))]) H1 := hP1
  replace hD1 : va_D A (mv_W ca zt ad h n ++ [(a, mv_e ca zt (va_up ad n a) (mv_A 0 N (fun _ => 0)))]) := hD1
  rw [b1] at hP1 hD1
  rw [b8]
  exact kk p e s m args below meth c D ca zt A n0 ad0 C H1 locs ls (va_up ad n a) hS1 hP1 hD1 b2 b3 b4 b5 b6 b7
theorem go_newL {N : Nat} {a : Int} (hw : Cond.arrayClass .long ∈ go_T) (hd : decode M.2.1 pc = .ok (.newarray .long, 2)) (hp : pc + 2 = q) (ha0 : a = (N : Int)) (hN : N * componentBytes .long ≤ 536870912) (hN2 : N < 2147483648) (hr1 : u.1 + 1 ≤ R.cells) (hr2 : u.2 + N ≤ R.slots)
    (kk : Go φ l M R (u.1 + 1, u.2 + N) q L (mv_R n :: st) (va_up h n (mv_A 1 N (fun _ => 0))) (n + 1)) : Go φ l M R u pc L (mv_I a :: st) h n := by
  subst hp
  subst ha0
  intro p e s m args below meth c D ca zt A n0 ad0 C H locs ls ad hS hP hD hl hn ha oh ol os
  obtain ⟨c1, c2, c3, c4, c5, c6, c7, c8, ⟨k1, k2, k3⟩, c10⟩ := id C
  have g1 : ¬ (Int32.ofInt (N : Int)) < 0 := by rw [gn_nI]; exact nI_pos (by omega)
  have g2 : (Int32.ofInt (N : Int)).toNatClampNeg = N := by rw [gn_nI]; exact nI_clamp (by omega)
  refine va_newa (atype := .long) (ty := .long) (a0 := (N, .inr (.inl (fun _ => Int64.ofInt 0)))) c1 c2 (c8 _ hw) rfl k1 hP hD hS c10 (fun cA => rfl) g1 g2 hN hr1 hr2 hd (fun a cA H1 hK1 hP1 hD1 hS1 => ?_)
  have e1 : s.vm.findClass ("[" ++ (FieldType.long).toString) = some cA := (hK1.2 4 (cA, .long) rfl).2
  have e2 : s.vm.findClass ("[" ++ (FieldType.long).toString) = some (ca 1) := (k1.2 1 (ca 1, .long) rfl).2
  have e3 : cA = ca 1 := Option.some.inj (e1.symm.trans e2)
  subst e3
  obtain ⟨b1, b2, b3, b4, b5, b6, b7, b8⟩ := go_born (ca := ca) (x := mv_A 1 N (fun _ => 0)) (a := a) hl hn ha oh ol os.tl trivial rfl
  replace hP1 : va_P D vwCl (mv_W ca zt ad h n ++ [(a, mv_e ca zt (va_up ad n a) (mv_A 1 N (fun _ => 0)))]) H1 := hP1
  replace hD1 : va_D A (mv_W ca zt ad h n ++ [(a, mv_e ca zt (va_up ad n a) (mv_A 1 N (fun _ => 0)))]) := hD1
  rw [b1] at hP1 hD1
  rw [b8]
  exact kk p e s m args below meth c D ca zt A n0 ad0 C H1 locs ls (va_up ad n a) hS1 hP1 hD1 b2 b3 b4 b5 b6 b7
theorem go_newC {N : Nat} {a : Int} (hw : Cond.arrayClass .char ∈ go_T) (hd : decode M.2.1 pc = .ok (.newarray .char, 2)) (hp : pc + 2 = q) (ha0 : a = (N : Int)) (hN : N * componentBytes .char ≤ 536870912) (hN2 : N < 2147483648) (hr1 : u.1 + 1 ≤ R.cells) (hr2 : u.2 + N ≤ R.slots)
    (kk : Go φ l M R (u.1 + 1, u.2 + N) q L (mv_R n :: st) (va_up h n (mv_A 2 N (fun _ => 0))) (n + 1)) : Go φ l M R u pc L (mv_I a :: st) h n := by
  subst hp
  subst ha0
  intro p e s m args below meth c D ca zt A n0 ad0 C H locs ls ad hS hP hD hl hn ha oh ol os
  obtain ⟨c1, c2, c3, c4, c5, c6, c7, c8, ⟨k1, k2, k3⟩, c10⟩ := id C
  have g1 : ¬ (Int32.ofInt (N : Int)) < 0 := by rw [gn_nI]; exact nI_pos (by omega)
  have g2 : (Int32.ofInt (N : Int)).toNatClampNeg = N := by rw [gn_nI]; exact nI_clamp (by omega)
  refine va_newa (atype := .char) (ty := .char) (a0 := (N, .inl (fun _ => Int32.ofInt 0))) c1 c2 (c8 _ hw) rfl k1 hP hD hS c10 (fun cA => rfl) g1 g2 hN hr1 hr2 hd (fun a cA H1 hK1 hP1 hD1 hS1 => ?_)
  have e1 : s.vm.findClass ("[" ++ (FieldType.char).toString) = some cA := (hK1.2 4 (cA, .char) rfl).2
  have e2 : s.vm.findClass ("[" ++ (FieldType.char).toString) = some (ca 2) := (k1.2 2 (ca 2, .char) rfl).2
  have e3 : cA = ca 2 := Option.some.inj (e1.symm.trans e2)
  subst e3
  obtain ⟨b1, b2, b3, b4, b5, b6, b7, b8⟩ := go_born (ca := ca) (x := mv_A 2 N (fun _ => 0)) (a := a) hl hn ha oh ol os.tl trivial rfl
  replace hP1 : va_P D vwCl (mv_W ca zt ad h n ++ [(a, mv_e ca zt (va_up ad n a) (mv_A 2 N (fun _ => 0)))]) H1 := hP1
  replace hD1 : va_D A (mv_W ca zt ad h n ++ [(a, mv_e ca zt (va_up ad n a) (mv_A 2 N (fun _ => 0)))]) := hD1
  rw [b1] at hP1 hD1
  rw [b8]
  exact kk p e s m args below meth c D ca zt A n0 ad0 C H1 locs ls (va_up ad n a) hS1 hP1 hD1 b2 b3 b4 b5 b6 b7
theorem go_newQ {N idx : Nat} {a : Int} (hw1 : Cond.classLink M.1.cls idx cx_RF ∈ go_T) (hd : decode M.2.1 pc = .ok (.anewarray idx, 3)) (hp : pc + 3 = q) (ha0 : a = (N : Int)) (hN : N * 4 ≤ 536870912) (hN2 : N < 2147483648) (hr1 : u.1 + 1 ≤ R.cells) (hr2 : u.2 + N ≤ R.slots)
    (kk : Go φ l M R (u.1 + 1, u.2 + N) q L (mv_R n :: st) (va_up h n (mv_Q 3 N (fun _ => none))) (n + 1)) : Go φ l M R u pc L (mv_I a :: st) h n := by
  subst hp
  subst ha0
  intro p e s m args below meth c D ca zt A n0 ad0 C H locs ls ad hS hP hD hl hn ha oh ol os
  obtain ⟨c1, c2, c3, c4, c5, c6, c7, c8, ⟨k1, k2, k3⟩, c10⟩ := id C
  have g1 : ¬ (Int32.ofInt (N : Int)) < 0 := by rw [gn_nI]; exact nI_pos (by omega)
  have g2 : (Int32.ofInt (N : Int)).toNatClampNeg = N := by rw [gn_nI]; exact nI_clamp (by omega)
  refine va_newq c1 c2 c7 (c8 _ hw1) k3.2.2.2.2.2.2.2.2.2 k1 hP hD hS c10 g1 g2 hN hr1 hr2 hd (fun a cA H1 hK1 hP1 hD1 hS1 => ?_)
  obtain ⟨kA, comp, f1, f2, f3, e1⟩ := (hK1.2 4 (cA, .object cx_RF) rfl).2
  obtain ⟨kA', comp', f1', f2', f3', e2⟩ := (k1.2 3 (ca 3, .object cx_RF) rfl).2
  have e3 : cA = ca 3 := Option.some.inj (e1.symm.trans e2)
  subst e3
  obtain ⟨b1, b2, b3, b4, b5, b6, b7, b8⟩ := go_born (ca := ca) (x := mv_Q 3 N (fun _ => none)) (a := a) hl hn ha oh ol os.tl (fun j i hj => by cases hj) rfl
  replace hP1 : va_P D vwCl (mv_W ca zt ad h n ++ [(a, mv_e ca zt (va_up ad n a) (mv_Q 3 N (fun _ => none)))]) H1 := hP1
  replace hD1 : va_D A (mv_W ca zt ad h n ++ [(a, mv_e ca zt (va_up ad n a) (mv_Q 3 N (fun _ => none)))]) := hD1
  rw [b1] at hP1 hD1
  rw [b8]
  exact kk p e s m args below meth c D ca zt A n0 ad0 C H1 locs ls (va_up ad n a) hS1 hP1 hD1 b2 b3 b4 b5 b6 b7
end GoHeap
end
section
/-! THE PURE MACHINE, part 4: methods ('Fn': a method's contract), their ends, and calls. -/
def fn_Q (D : va_G) (ca : Nat → ClassId) (zt ad : Nat → Nat) (n : Nat) (A : Nat → Prop) (Q : Option mv_V → mv_H → Nat → Prop) : Array Value → State → Outcome → State → Prop := fun _ st oc t =>
  (∃ (v : Option mv_V) (h' : mv_H) (n' : Nat) (ad' : Nat → Nat), oc = .returned (v.map (mv_c zt ad')) ∧ Q v h' n' ∧ n ≤ n' ∧ (∀ i, i < n → ad' i = ad i) ∧ ok_H n' h' ∧ ok_S n' v.toList ∧ va_P D vwCl (mv_W ca zt ad' h' n') t.heap ∧ va_D A (mv_W ca zt ad' h' n')) ∧ va_F A st t
def fn_P (D : va_G) (ca : Nat → ClassId) (zt ad : Nat → Nat) (as : List mv_V) (h : mv_H) (n sz : Nat) : Array Value → State → Prop :=
  va_Pc (as.map (mv_c zt ad)) fun U => U.heap.size = sz ∧ va_P D vwCl (mv_W ca zt ad h n) U.heap ∧ va_D (fun _ => True) (mv_W ca zt ad h n) ∧ cx_K D ca zt (va_A (mv_W ca zt ad h n) sz) U U.heap
/-- the method M, called with 'as' in the world of the n cells h, with d frames, w words of locals, mc cells and ms slots of room, returns, and Q holds of its answer, the cells and their number then -/
def Fn (l : Launch) (M : go_M) (d w mc ms : Nat) (as : List mv_V) (h : mv_H) (n : Nat) (Q : Option mv_V → mv_H → Nat → Prop) : Prop :=
  ∀ (D : va_G) (ca : Nat → ClassId) (zt ad : Nat → Nat) (sz : Nat), ok_H n h → ok_S n as →
    Met l M.1 (Cond.code M.1 M.2.1 M.2.2.1 M.2.2.2 :: go_T) (go_rm d w mc ms) (fn_P D ca zt ad as h n sz) (fn_Q D ca zt ad n (va_A (mv_W ca zt ad h n) sz) Q) mc ms (va_A (mv_W ca zt ad h n) sz)
def go_f (mc ms : Nat) (Q : Option mv_V → mv_H → Nat → Prop) : go_F := fun below args s A D ca zt n0 ad0 => MQ below (fn_Q D ca zt ad0 n0 A Q) args s mc ms A
theorem fn_of {l : Launch} {M : go_M} {d w mc ms : Nat} {as : List mv_V} {h : mv_H} {n : Nat} {Q : Option mv_V → mv_H → Nat → Prop} {L : List (Option mv_V)} (hy : plainName M.1.cls = true) (hlen : (mv_sl as).length ≤ M.2.2.1) (hL : mv_en as M.2.2.1 = L) (hb : Go (go_f mc ms Q) l M (go_rm d w mc ms) (0, 0) 0 L [] h n) : Fn l M d w mc ms as h n Q := by
  subst hL
  intro D ca zt ad sz oh oa
  refine Met.ofW (cc := M.2.1) (maxL := M.2.2.1) (ret := M.2.2.2) hy rfl ?_
  intro p e s m args below meth c s₁ B hml hv
  obtain ⟨rfl, hsz, hP, hD0, hK⟩ := hv
  subst hsz
  have hD := hD0.self (sz := s.heap.size)
  have hts := atoms_spec (ws := Cond.code M.1 M.2.1 M.2.2.1 M.2.2.2 :: go_T) B.pre
  have hl := lv_entry (as.map (mv_c zt ad)) (n := M.2.2.1) (by rw [mv_sl_len]; exact hlen)
  rw [lg_entry_eq]
  exact hb p e s m _ below meth c D ca zt (va_A (mv_W ca zt ad h n) s.heap.size) n ad ⟨B.exec, B.bytes, hml, B.returns, B.notSynchronized, (name_of_methodNamed B.named B.method).1, findClass_of_methodNamed B.named, fun w hw => hts w (List.mem_cons_of_mem _ hw), hK, fun q hq => Or.inr hq⟩ s.heap [] _ ad va_S.rf hP hD (mv_ls_en hl) (Nat.le_refl _) (fun _ _ => rfl) oh (ok_L_en oa) ok_S.nil
theorem fn_mono {l : Launch} {M : go_M} {d w mc ms : Nat} {as : List mv_V} {h : mv_H} {n : Nat} {Q Q' : Option mv_V → mv_H → Nat → Prop} (hF : Fn l M d w mc ms as h n Q) (hq : ∀ v h' n', Q v h' n' → Q' v h' n') : Fn l M d w mc ms as h n Q' := by
  intro D ca zt ad sz oh oa
  have hM := hF D ca zt ad sz oh oa
  intro p e ha hc hk s m args below hf happ hP hK
  obtain ⟨k, o, h1, h2, h3, ⟨⟨v, h', n', ad', q1, q2, q3⟩, hF2⟩, h5⟩ := hM p e ha hc hk s m args below hf happ hP hK
  exact ⟨k, o, h1, h2, h3, ⟨⟨v, h', n', ad', q1, hq _ _ _ q2, q3⟩, hF2⟩, h5⟩
section GoEnds
variable {l : Launch} {M : go_M} {R : Room} {u : Nat × Nat} {pc mc ms : Nat} {L : List (Option mv_V)} {h : mv_H} {n : Nat} {Q : Option mv_V → mv_H → Nat → Prop}
theorem go_vret (hd : decode M.2.1 pc = .ok (.return_, 1)) (hr : M.2.2.2 = none) (hu : u.1 ≤ mc ∧ u.2 ≤ ms) (hQ : Q none h n) : Go (go_f mc ms Q) l M R u pc L [] h n := by
  intro p e s m args below meth c D ca zt A n0 ad0 C H locs ls ad hS hP hD hl hn ha oh ol os
  refine W.widen hu.1 hu.2 ?_
  exact W.vret (hlocks := C.2.2.2.2.1) C.1 C.2.1 (C.2.2.2.1.trans hr) (fun t ht hW => ⟨⟨none, h, n, ad, rfl, hQ, hn, ha, oh, ok_S.nil, by rw [ht]; exact hP, hD⟩, hS.F ht⟩) hS.2.2 hd
theorem go_iret {z : Int} (hd : decode M.2.1 pc = .ok (.ireturn, 1)) (hr : M.2.2.2 = some .int) (hu : u.1 ≤ mc ∧ u.2 ≤ ms) (hQ : Q (some (mv_I z)) h n) : Go (go_f mc ms Q) l M R u pc L [mv_I z] h n := by
  intro p e s m args below meth c D ca zt A n0 ad0 C H locs ls ad hS hP hD hl hn ha oh ol os
  refine W.widen hu.1 hu.2 ?_
  exact W.iret (hlocks := C.2.2.2.2.1) C.1 C.2.1 (C.2.2.2.1.trans hr) (fun t ht hW => ⟨⟨some (mv_I z), h, n, ad, rfl, hQ, hn, ha, oh, os, by rw [ht]; exact hP, hD⟩, hS.F ht⟩) hS.2.2 hd
theorem go_zret {z : Int} {ty : FieldType} (hd : decode M.2.1 pc = .ok (.ireturn, 1)) (hr : M.2.2.2 = some ty) (hn0 : narrow ty (.int (Int32.ofInt z)) = .int (Int32.ofInt z)) (hu : u.1 ≤ mc ∧ u.2 ≤ ms) (hQ : Q (some (mv_I z)) h n) : Go (go_f mc ms Q) l M R u pc L [mv_I z] h n := by
  intro p e s m args below meth c D ca zt A n0 ad0 C H locs ls ad hS hP hD hl hn ha oh ol os
  refine W.widen hu.1 hu.2 ?_
  exact W.zret (hlocks := C.2.2.2.2.1) C.1 C.2.1 (C.2.2.2.1.trans hr) hn0 (fun t ht hW => ⟨⟨some (mv_I z), h, n, ad, rfl, hQ, hn, ha, oh, os, by rw [ht]; exact hP, hD⟩, hS.F ht⟩) hS.2.2 hd
theorem go_aret {r : Nat} {C0 : String} (hd : decode M.2.1 pc = .ok (.areturn, 1)) (hr : M.2.2.2 = some (.object C0)) (hu : u.1 ≤ mc ∧ u.2 ≤ ms) (hQ : Q (some (mv_R r)) h n) : Go (go_f mc ms Q) l M R u pc L [mv_R r] h n := by
  intro p e s m args below meth c D ca zt A n0 ad0 C H locs ls ad hS hP hD hl hn ha oh ol os
  refine W.widen hu.1 hu.2 ?_
  exact W.aret (hlocks := C.2.2.2.2.1) C.1 C.2.1 (C.2.2.2.1.trans hr) (Or.inl ⟨C0, rfl⟩) (Or.inr ⟨_, rfl⟩) (fun t ht hW => ⟨⟨some (mv_R r), h, n, ad, rfl, hQ, hn, ha, oh, os, by rw [ht]; exact hP, hD⟩, hS.F ht⟩) hS.2.2 hd
end GoEnds
/-! calls -/
/-- what the tables say of a method that is called -/
def go_met (M : go_M) (np : Nat) : Prop := Cond.code M.1 M.2.1 M.2.2.1 M.2.2.2 ∈ go_T ∧ Cond.initialized M.1.cls ∈ go_T ∧ (M.1.cls ≠ "java/lang/invoke/MethodHandle" ∧ M.1.cls ≠ "java/lang/invoke/VarHandle") ∧ (parseMethodDescriptor M.1.desc).map (fun d => d.parameters.length) = some np
/-- what 'idx' names in the class 'own' -/
def go_lnk (own : String) (idx : Nat) (M : go_M) : Prop := Cond.methodLink own idx M.1 ∈ go_T ∨ ∃ host, Cond.methodLinkNest own idx M.1 host ∈ go_N
/-- room for a call -/
def go_fit (R : Room) (u : Nat × Nat) (maxL d w mc ms : Nat) : Prop := d + 1 ≤ R.frames ∧ 8 + (maxL + 11) + w ≤ R.locals ∧ u.1 + mc ≤ R.cells ∧ u.2 + ms ≤ R.slots
theorem cx_call {D : va_G} {ca : Nat → ClassId} {zt : Nat → Nat} {A A' : Nat → Prop} {s U : State} {H : Heap} {locs : List Loc} (h : cx_K D ca zt A s s.heap) (hS : va_S A s.heap H locs) (hA : ∀ q, A' q → A q) (hU : U.heap = H) (hW : s.WarmedH U.vm) : cx_K D ca zt A' U U.heap := by
  subst hU
  exact ⟨va_K.moved hW.alike h.1, fun w hw => go_N_warm w hw hW (h.2.1 w hw), zz_moved hW (zz_narrow hA (zz_kept h.2.2 fun a h1 h2 => hS.2.1 a h1 h2))⟩
theorem cx_blind {D : va_G} {ca : Nat → ClassId} {zt : Nat → Nat} {A : Nat → Prop} {U : State} (h : cx_K D ca zt A U U.heap) (g : JFrame) (mk : MethodId) (a : Array Value) : cx_K D ca zt A (U.calling g mk a) (U.calling g mk a).heap :=
  ⟨va_K.moved (u := U) (U := U.calling g mk a) (Vm.Alike.refl U.vm) h.1, fun w hw => go_N_same w hw (u := U) (U := U.calling g mk a) rfl (h.2.1 w hw), zz_same (u := U) (U := U.calling g mk a) rfl h.2.2⟩
theorem fn_blind {D : va_G} {ca : Nat → ClassId} {zt ad : Nat → Nat} {as : List mv_V} {h : mv_H} {n sz : Nat} : FrameBlind (fn_P D ca zt ad as h n sz) := by
  intro a U g mk q
  obtain ⟨q0, q1, qP, qD, qK⟩ := q
  exact ⟨q0, q1, qP, qD, cx_blind qK g mk a⟩
theorem go_free {D : va_G} {ca : Nat → ClassId} {zt ad : Nat → Nat} {A : Nat → Prop} {s : State} {h : mv_H} {n : Nat} {H : Heap} {locs : List Loc} (hS : va_S A s.heap H locs) (hD : va_D A (mv_W ca zt ad h n)) (hA : ∀ q, s.heap.size ≤ q → A q) : ∀ q, va_A (mv_W ca zt ad h n) H.size q → A q := by
  intro q hq
  rcases hq with ⟨k, e, hk⟩ | hq
  · exact hD.2 k (q, e) hk
  · exact hA q (Nat.le_trans hS.1 hq)
section GoCalls
variable {φ : go_F} {l : Launch} {M M' : go_M} {R : Room} {u : Nat × Nat} {pc q : Nat} {L : List (Option mv_V)} {st : List mv_V} {h : mv_H} {n d w mc ms : Nat} {as rest : List mv_V} {Q : Option mv_V → mv_H → Nat → Prop}
/-- behind a call -/
theorem go_back {p : Program} {e : Env} {s : State} {m : MethodId} {args : Array Value} {below : List Frame} {meth : Method} {c : Code} {D : va_G} {ca : Nat → ClassId} {zt : Nat → Nat} {A : Nat → Prop} {n0 : Nat} {ad0 : Nat → Nat} (C : go_C M p s m args meth c D ca zt A)
    {H : Heap} {locs : List Loc} {ls : Array Slot} {ad : Nat → Nat} (hS : va_S A s.heap H locs) (hD : va_D A (mv_W ca zt ad h n)) (hl : mv_ls zt ad ls M.2.2.1 L) (hn : n0 ≤ n) (ha : ∀ i, i < n0 → ad i = ad0 i) (ol : ok_L n L) (os : ok_S n rest) {x : Array Value} {stv : List Value}
    (run : va_Run p l e R s m args below meth c H locs u.1 u.2 mc ms (F0 m pc ls stv) (rest.map (mv_c zt ad)) (fn_Q D ca zt ad n (va_A (mv_W ca zt ad h n) H.size) Q x) (va_A (mv_W ca zt ad h n) H.size))
    (k : ∀ v h' n', Q v h' n' → n ≤ n' → Go φ l M R (u.1 + mc, u.2 + ms) (pc + 3) L (v.toList ++ rest) h' n') : W p l e R s m args below meth c H locs u.1 u.2 (φ below args s A D ca zt n0 ad0) (F0 m pc ls stv) := by
  have hFc := go_free (D := D) hS hD C.2.2.2.2.2.2.2.2.2
  intro T hT X
  obtain ⟨v, st₀, t, T', L1, h0, X', hL, e1, e2, ⟨⟨v', h', n', ad', hv, hq, hnn, hadd, oh', ov, hP', hD'⟩, hz, hkp⟩, st⟩ := run T hT X
  have hv : v = v'.map (mv_c zt ad') := by injection hv
  subst hv
  rw [h0] at hz hkp
  have hS' : va_S A s.heap T'.heap (locs ++ L1) := ⟨Nat.le_trans hS.1 (by rw [e1]; exact hz), fun q h1 h2 => by
      rw [e1, hkp q (Nat.lt_of_lt_of_le h1 hS.1) (fun z => h2 (hFc q z))]; exact hS.2.1 q h1 h2, fun q hq => by
      rcases List.mem_append.mp hq with h | h
      · exact hS.2.2 q h
      · exact hFc _ (hL q h)⟩
  obtain ⟨t2, a1, b1⟩ := k v' h' n' hq hnn p e s m args below meth c D ca zt A n0 ad0 C T'.heap (locs ++ L1) ls ad' hS' (by rw [e1]; exact hP') (hD'.weaken fun _ q _ z => hFc q.1 z) (hl.congr ol hadd) (Nat.le_trans hn hnn) (fun i hi => (hadd i (Nat.lt_of_lt_of_le hi hn)).trans (ha i hi)) oh' (ol.mono hnn) (ov.app (os.mono hnn)) T' rfl X'
  refine ⟨t2, st t2 ?_, b1⟩
  have hst : (v'.toList ++ rest).map (mv_c zt ad') = (v'.map (mv_c zt ad')).toList ++ rest.map (mv_c zt ad) := by
    rw [List.map_append, mv_map_congr os hadd]
    cases v' <;> rfl
  rw [hst] at a1
  exact a1
theorem go_callV {idx np b ci : Nat} {fs : List mv_V} {T : u_T} {N : Nat} (hm : go_met M' np) (hv1 : Cond.instanceMethod M'.1 ∈ go_T) (hv2 : Cond.selects M'.1.cls M'.1 M'.1 ∈ go_T) (hlk : go_lnk M.1.cls idx M') (hd : decode M.2.1 pc = .ok (.invokevirtual idx, 3)) (hp : pc + 3 = q) (hst : st = as.reverse ++ mv_R b :: rest) (hnp : as.length = np) (hh : h b = mv_O ci fs) (hci : vwCl[ci]? = some (M'.1.cls, T, N)) (hw : (rest.map mv_k).sum ≤ 8) (hR : go_fit R u M'.2.2.1 d w mc ms)
    (hF : Fn l M' d w mc ms (mv_R b :: as) h n Q) (k : ∀ v h' n', Q v h' n' → n ≤ n' → Go φ l M R (u.1 + mc, u.2 + ms) q L (v.toList ++ rest) h' n') : Go φ l M R u pc L st h n := by
  subst hp
  subst hst
  intro p e s m args below meth c D ca zt A n0 ad0 C H locs ls ad hS hP hD hl hn ha oh ol os
  obtain ⟨c1, c2, c3, c4, c5, c6, c7, c8, k0, c10⟩ := id C
  obtain ⟨m1, m2, m3, m4⟩ := hm
  obtain ⟨r1, r2, r3, r4⟩ := hR
  have hFc := go_free (D := D) hS hD c10
  have hb : b < n := os.right.hd
  have he : (mv_W ca zt ad h n)[b]? = some (ad b, .inr (ci, fs.map (mv_c zt ad))) := mv_W_is hb hh
  have hM := hF D ca zt ad H.size oh (ok_S.cons os.right.hd os.left.rev)
  have hG : GoodIn go_T (Cond.code M'.1 M'.2.1 M'.2.2.1 M'.2.2.2 :: go_T) := go_good m1
  have hpre : PreV s H M'.1.cls (ad b) (fn_P D ca zt ad (mv_R b :: as) h n H.size) (as.map (mv_c zt ad)) :=
    ⟨fn_blind, va_recv k0.1 hP hci he, fun U hU hW => ⟨rfl, by rw [hU], by rw [hU]; exact hP, hD.weaken (fun _ _ _ _ => trivial), cx_call k0 hS hFc hU hW⟩⟩
  have hlen : ∀ sig, parseMethodDescriptor M'.1.desc = some sig → np = sig.parameters.length := fun sig hs => by
    rw [hs] at m4
    exact (Option.some.inj m4).symm
  have hsv : (as.reverse ++ mv_R b :: rest).map (mv_c zt ad) = (as.map (mv_c zt ad)).reverse ++ Value.ref (ad b) :: rest.map (mv_c zt ad) := by
    rw [List.map_append, List.map_reverse]; rfl
  have hw' : ((rest.map (mv_c zt ad)).map fun v => v.category).sum ≤ 8 := by rw [mv_sum]; exact hw
  rw [hsv]
  rcases hlk with hl1 | ⟨host, hl1⟩
  · refine go_back C hS hD hl hn ha ol os.right.tl (va_runV (As := as.map (mv_c zt ad)) (rest := rest.map (mv_c zt ad)) ⟨c1, c2, c3, c7, c8⟩ hM ⟨⟨rfl, rfl, r1, r2, pay_in c8 hG, List.mem_cons_self, c8 _ m1, c8 _ m2, m3, hlen, c8 _ hl1⟩, c8 _ hv1, c8 _ hv2⟩ hpre rfl (by simpa using hnp) hl.1 rfl (lv_room hw') hd ⟨r3, r4⟩) k
  · refine go_back C hS hD hl hn ha ol os.right.tl (va_runVN (As := as.map (mv_c zt ad)) (rest := rest.map (mv_c zt ad)) ⟨c1, c2, c3, c7, c8⟩ hM ⟨⟨⟨rfl, rfl, r1, r2, pay_in c8 hG, List.mem_cons_self⟩, c8 _ m1, c8 _ m2, m3, hlen, va_Nw.use rfl (k0.2.1 _ hl1)⟩, c8 _ hv1, c8 _ hv2⟩ hpre rfl (by simpa using hnp) hl.1 rfl (lv_room hw') hd ⟨r3, r4⟩) k
theorem go_callS {idx np : Nat} (hm : go_met M' np) (hv1 : Cond.static M'.1 ∈ go_T) (hlk : go_lnk M.1.cls idx M') (hd : decode M.2.1 pc = .ok (.invokestatic idx, 3)) (hp : pc + 3 = q) (hst : st = as.reverse ++ rest) (hnp : as.length = np) (hw : (rest.map mv_k).sum ≤ 8) (hR : go_fit R u M'.2.2.1 d w mc ms)
    (hF : Fn l M' d w mc ms as h n Q) (k : ∀ v h' n', Q v h' n' → n ≤ n' → Go φ l M R (u.1 + mc, u.2 + ms) q L (v.toList ++ rest) h' n') : Go φ l M R u pc L st h n := by
  subst hp
  subst hst
  intro p e s m args below meth c D ca zt A n0 ad0 C H locs ls ad hS hP hD hl hn ha oh ol os
  obtain ⟨c1, c2, c3, c4, c5, c6, c7, c8, k0, c10⟩ := id C
  obtain ⟨m1, m2, m3, m4⟩ := hm
  obtain ⟨r1, r2, r3, r4⟩ := hR
  have hFc := go_free (D := D) hS hD c10
  have hM := hF D ca zt ad H.size oh os.left.rev
  have hG : GoodIn go_T (Cond.code M'.1 M'.2.1 M'.2.2.1 M'.2.2.2 :: go_T) := go_good m1
  have hpre : PreS s H (fn_P D ca zt ad as h n H.size) (as.map (mv_c zt ad)) :=
    ⟨fn_blind, fun U hU hW => ⟨rfl, by rw [hU], by rw [hU]; exact hP, hD.weaken (fun _ _ _ _ => trivial), cx_call k0 hS hFc hU hW⟩⟩
  have hlen : ∀ sig, parseMethodDescriptor M'.1.desc = some sig → np = sig.parameters.length := fun sig hs => by
    rw [hs] at m4
    exact (Option.some.inj m4).symm
  have hsv : (as.reverse ++ rest).map (mv_c zt ad) = (as.map (mv_c zt ad)).reverse ++ rest.map (mv_c zt ad) := by
    rw [List.map_append, List.map_reverse]
  have hw' : ((rest.map (mv_c zt ad)).map fun v => v.category).sum ≤ 8 := by rw [mv_sum]; exact hw
  rw [hsv]
  rcases hlk with hl1 | ⟨host, hl1⟩
  · refine go_back C hS hD hl hn ha ol os.right (va_runS (As := as.map (mv_c zt ad)) (rest := rest.map (mv_c zt ad)) ⟨c1, c2, c3, c7, c8⟩ hM ⟨⟨rfl, rfl, r1, r2, pay_in c8 hG, List.mem_cons_self, c8 _ m1, c8 _ m2, m3, hlen, c8 _ hl1⟩, c8 _ hv1⟩ hpre rfl (by simpa using hnp) hl.1 rfl (lv_room hw') hd ⟨r3, r4⟩) k
  · refine go_back C hS hD hl hn ha ol os.right (va_runSN (As := as.map (mv_c zt ad)) (rest := rest.map (mv_c zt ad)) ⟨c1, c2, c3, c7, c8⟩ hM ⟨⟨⟨rfl, rfl, r1, r2, pay_in c8 hG, List.mem_cons_self⟩, c8 _ m1, c8 _ m2, m3, hlen, va_Nw.use rfl (k0.2.1 _ hl1)⟩, c8 _ hv1, trivial⟩ hpre rfl (by simpa using hnp) hl.1 rfl (lv_room hw') hd ⟨r3, r4⟩) k
theorem go_callI {idx np b : Nat} (hm : go_met M' np) (hv0 : M'.2.2.2 = none) (hv1 : Cond.instanceMethod M'.1 ∈ go_T) (hv2 : M'.1.name = "<init>") (hlk : go_lnk M.1.cls idx M') (hd : decode M.2.1 pc = .ok (.invokespecial idx, 3)) (hp : pc + 3 = q) (hst : st = as.reverse ++ mv_R b :: rest) (hnp : as.length = np) (hw : (rest.map mv_k).sum ≤ 8) (hR : go_fit R u M'.2.2.1 d w mc ms)
    (hF : Fn l M' d w mc ms (mv_R b :: as) h n Q) (k : ∀ v h' n', Q v h' n' → n ≤ n' → Go φ l M R (u.1 + mc, u.2 + ms) q L (v.toList ++ rest) h' n') : Go φ l M R u pc L st h n := by
  subst hp
  subst hst
  intro p e s m args below meth c D ca zt A n0 ad0 C H locs ls ad hS hP hD hl hn ha oh ol os
  obtain ⟨c1, c2, c3, c4, c5, c6, c7, c8, k0, c10⟩ := id C
  obtain ⟨m1, m2, m3, m4⟩ := hm
  obtain ⟨r1, r2, r3, r4⟩ := hR
  have hFc := go_free (D := D) hS hD c10
  have hM := hF D ca zt ad H.size oh (ok_S.cons os.right.hd os.left.rev)
  have hG : GoodIn go_T (Cond.code M'.1 M'.2.1 M'.2.2.1 M'.2.2.2 :: go_T) := go_good m1
  have hpre : PreS s H (fn_P D ca zt ad (mv_R b :: as) h n H.size) (.ref (ad b) :: as.map (mv_c zt ad)) :=
    ⟨fn_blind, fun U hU hW => ⟨rfl, by rw [hU], by rw [hU]; exact hP, hD.weaken (fun _ _ _ _ => trivial), cx_call k0 hS hFc hU hW⟩⟩
  have hlen : ∀ sig, parseMethodDescriptor M'.1.desc = some sig → np = sig.parameters.length := fun sig hs => by
    rw [hs] at m4
    exact (Option.some.inj m4).symm
  have hsv : (as.reverse ++ mv_R b :: rest).map (mv_c zt ad) = (as.map (mv_c zt ad)).reverse ++ Value.ref (ad b) :: rest.map (mv_c zt ad) := by
    rw [List.map_append, List.map_reverse]; rfl
  have hw' : ((rest.map (mv_c zt ad)).map fun v => v.category).sum ≤ 8 := by rw [mv_sum]; exact hw
  rw [hsv]
  rw [hv0] at hM hG m1
  rcases hlk with hl1 | ⟨host, hl1⟩
  · refine go_back C hS hD hl hn ha ol os.right.tl (va_runI (As := as.map (mv_c zt ad)) (rest := rest.map (mv_c zt ad)) ⟨c1, c2, c3, c7, c8⟩ hM ⟨⟨rfl, rfl, r1, r2, pay_in c8 hG, List.mem_cons_self, c8 _ m1, c8 _ m2, m3, hlen, c8 _ hl1⟩, hv2, c8 _ hv1⟩ hpre rfl (by simpa using hnp) hl.1 rfl (lv_room hw') hd ⟨r3, r4⟩) k
  · refine go_back C hS hD hl hn ha ol os.right.tl (va_runIN (As := as.map (mv_c zt ad)) (rest := rest.map (mv_c zt ad)) ⟨c1, c2, c3, c7, c8⟩ hM ⟨⟨⟨rfl, rfl, r1, r2, pay_in c8 hG, List.mem_cons_self⟩, c8 _ m1, c8 _ m2, m3, hlen, va_Nw.use rfl (k0.2.1 _ hl1)⟩, hv2, c8 _ hv1⟩ hpre rfl (by simpa using hnp) hl.1 rfl (lv_room hw') hd ⟨r3, r4⟩) k
theorem go_oinit {idx b : Nat} (hw1 : Cond.methodLink M.1.cls idx objectInit ∈ go_T) (hw2 : Cond.instanceMethod objectInit ∈ go_T) (hw3 : Cond.code objectInit ⟨#[0xb1]⟩ 1 none ∈ go_T) (hd : decode M.2.1 pc = .ok (.invokespecial idx, 3)) (hp : pc + 3 = q) (hR : 1 ≤ R.frames ∧ (rest.map mv_k).sum + 12 ≤ R.locals) (k : Go φ l M R u q L rest h n) : Go φ l M R u pc L (mv_R b :: rest) h n := by
  subst hp
  intro p e s m args below meth c D ca zt A n0 ad0 C H locs ls ad hS hP hD hl hn ha oh ol os
  obtain ⟨c1, c2, c3, c4, c5, c6, c7, c8, k0, c10⟩ := id C
  refine W.objInit c1 c2 c7 (c8 _ hw1) (c8 _ hw2) (c8 _ hw3) rfl (by rw [c3]; exact hl.1) rfl hd hR.1 ?_ ?_
  · rw [mv_sum]
    have : (F0 m pc ls (mv_c zt ad (mv_R b) :: rest.map (mv_c zt ad))).monitorRoom = 0 := rfl
    simpa [this] using hR.2
  · exact k p e s m args below meth c D ca zt A n0 ad0 C H locs ls ad hS hP hD hl hn ha oh ol os.tl
end GoCalls
end
section
theorem cl_ca : go_cls 0 R_ca T_ca 7 y_ty_ca := by
  refine ⟨rfl, ?_, by decide +kernel, by decide +kernel⟩
  intro w hw
  obtain ⟨k, hk, rfl⟩ := List.mem_map.mp hw
  have hk := List.mem_range.mp hk
  match k, hk with
  | 0, _ => exact tw_1_162
  | 1, _ => exact tw_1_164
  | 2, _ => exact tw_1_166
  | 3, _ => exact tw_1_168
  | 4, _ => exact tw_1_170
  | 5, _ => exact tw_1_172
  | 6, _ => exact tw_1_174
  | k + 7, hk => exact absurd hk (by omega)
theorem cl_di : go_cls 1 R_di T_di 4 y_ty_di := by
  refine ⟨rfl, ?_, by decide +kernel, by decide +kernel⟩
  intro w hw
  obtain ⟨k, hk, rfl⟩ := List.mem_map.mp hw
  have hk := List.mem_range.mp hk
  match k, hk with
  | 0, _ => exact tw_1_144
  | 1, _ => exact tw_1_146
  | 2, _ => exact tw_1_148
  | 3, _ => exact tw_1_150
  | k + 4, hk => exact absurd hk (by omega)
theorem cl_fr : go_cls 2 R_fr T_fr 3 y_ty_fr := by
  refine ⟨rfl, ?_, by decide +kernel, by decide +kernel⟩
  intro w hw
  obtain ⟨k, hk, rfl⟩ := List.mem_map.mp hw
  have hk := List.mem_range.mp hk
  match k, hk with
  | 0, _ => exact tw_1_78
  | 1, _ => exact tw_1_80
  | 2, _ => exact tw_1_82
  | k + 3, hk => exact absurd hk (by omega)
theorem cl_gr : go_cls 3 R_gr T_gr 3 y_ty_gr := by
  refine ⟨rfl, ?_, by decide +kernel, by decide +kernel⟩
  intro w hw
  obtain ⟨k, hk, rfl⟩ := List.mem_map.mp hw
  have hk := List.mem_range.mp hk
  match k, hk with
  | 0, _ => exact tw_1_112
  | 1, _ => exact tw_1_114
  | 2, _ => exact tw_1_116
  | k + 3, hk => exact absurd hk (by omega)
theorem cl_ma : go_cls 4 R_ma T_ma 10 y_ty_ma := by
  refine ⟨rfl, ?_, by decide +kernel, by decide +kernel⟩
  intro w hw
  obtain ⟨k, hk, rfl⟩ := List.mem_map.mp hw
  have hk := List.mem_range.mp hk
  match k, hk with
  | 0, _ => exact tw_1_194
  | 1, _ => exact tw_1_196
  | 2, _ => exact tw_1_198
  | 3, _ => exact tw_1_200
  | 4, _ => exact tw_1_202
  | 5, _ => exact tw_1_204
  | 6, _ => exact tw_1_206
  | 7, _ => exact tw_1_208
  | 8, _ => exact tw_1_210
  | 9, _ => exact tw_1_212
  | k + 10, hk => exact absurd hk (by omega)
theorem cl_wh : go_cls 5 R_wh T_wh 2 y_ty_wh := by
  refine ⟨rfl, ?_, by decide +kernel, by decide +kernel⟩
  intro w hw
  obtain ⟨k, hk, rfl⟩ := List.mem_map.mp hw
  have hk := List.mem_range.mp hk
  match k, hk with
  | 0, _ => exact tw_1_53
  | 1, _ => exact tw_1_55
  | k + 2, hk => exact absurd hk (by omega)
theorem cl_wr : go_cls 6 R_wr T_wr 3 y_ty_wr := by
  refine ⟨rfl, ?_, by decide +kernel, by decide +kernel⟩
  intro w hw
  obtain ⟨k, hk, rfl⟩ := List.mem_map.mp hw
  have hk := List.mem_range.mp hk
  match k, hk with
  | 0, _ => exact tw_1_96
  | 1, _ => exact tw_1_98
  | 2, _ => exact tw_1_100
  | k + 3, hk => exact absurd hk (by omega)
theorem cl_pn : go_cls 7 R_pn T_pn 7 y_ty_pn := by
  refine ⟨rfl, ?_, by decide +kernel, by decide +kernel⟩
  intro w hw
  obtain ⟨k, hk, rfl⟩ := List.mem_map.mp hw
  have hk := List.mem_range.mp hk
  match k, hk with
  | 0, _ => exact tw_1_222
  | 1, _ => exact tw_1_224
  | 2, _ => exact tw_1_226
  | 3, _ => exact tw_1_228
  | 4, _ => exact tw_1_230
  | 5, _ => exact tw_1_232
  | 6, _ => exact tw_1_234
  | k + 7, hk => exact absurd hk (by omega)
theorem cl_mo : go_cls 8 R_mo T_mo 13 y_ty_mo := by
  refine ⟨rfl, ?_, by decide +kernel, by decide +kernel⟩
  intro w hw
  obtain ⟨k, hk, rfl⟩ := List.mem_map.mp hw
  have hk := List.mem_range.mp hk
  match k, hk with
  | 0, _ => exact tw_4_102
  | 1, _ => exact tw_4_104
  | 2, _ => exact tw_4_106
  | 3, _ => exact tw_4_108
  | 4, _ => exact tw_4_110
  | 5, _ => exact tw_4_112
  | 6, _ => exact tw_4_114
  | 7, _ => exact tw_4_116
  | 8, _ => exact tw_4_118
  | 9, _ => exact tw_4_120
  | 10, _ => exact tw_4_122
  | 11, _ => exact tw_4_124
  | 12, _ => exact tw_4_126
  | k + 13, hk => exact absurd hk (by omega)
theorem f_wh_9 : go_fld "PromotedNumbers$Whole" 9 5 0 (.array .int) true := ⟨R_wh, T_wh, 2, y_ty_wh, cl_wh, by decide, rfl, rfl, Or.inl tw_1_46⟩
theorem F_wh_9 : go_flF "PromotedNumbers$Whole" 9 5 0 (.array .int) := ⟨R_wh, T_wh, 2, y_ty_wh, cl_wh, by decide, rfl, rfl, rfl, tw_1_46⟩
theorem f_di_45 : go_fld "PromotedNumbers$Divider" 45 5 0 (.array .int) true := ⟨R_wh, T_wh, 2, y_ty_wh, cl_wh, by decide, rfl, rfl, Or.inr ⟨_, nw_1_47⟩⟩
theorem f_fr_49 : go_fld "PromotedNumbers$Fraction" 49 5 0 (.array .int) true := ⟨R_wh, T_wh, 2, y_ty_wh, cl_wh, by decide, rfl, rfl, Or.inr ⟨_, nw_1_48⟩⟩
theorem f_wh_15 : go_fld "PromotedNumbers$Whole" 15 5 1 (.int) false := ⟨R_wh, T_wh, 2, y_ty_wh, cl_wh, by decide, rfl, rfl, Or.inl tw_1_49⟩
theorem f_di_49 : go_fld "PromotedNumbers$Divider" 49 5 1 (.int) false := ⟨R_wh, T_wh, 2, y_ty_wh, cl_wh, by decide, rfl, rfl, Or.inr ⟨_, nw_1_50⟩⟩
theorem f_fr_45 : go_fld "PromotedNumbers$Fraction" 45 5 1 (.int) false := ⟨R_wh, T_wh, 2, y_ty_wh, cl_wh, by decide, rfl, rfl, Or.inr ⟨_, nw_1_51⟩⟩
theorem f_ma_124 : go_fld "PromotedNumbers$Machine" 124 5 1 (.int) false := ⟨R_wh, T_wh, 2, y_ty_wh, cl_wh, by decide, rfl, rfl, Or.inr ⟨_, nw_1_52⟩⟩
theorem f_fr_14 : go_fld "PromotedNumbers$Fraction" 14 2 0 (.object "PromotedNumbers$Whole") true := ⟨R_fr, T_fr, 3, y_ty_fr, cl_fr, by decide, rfl, rfl, Or.inl tw_1_64⟩
theorem F_fr_14 : go_flF "PromotedNumbers$Fraction" 14 2 0 (.object "PromotedNumbers$Whole") := ⟨R_fr, T_fr, 3, y_ty_fr, cl_fr, by decide, rfl, rfl, rfl, tw_1_64⟩
theorem f_wr_45 : go_fld "PromotedNumbers$Writing" 45 2 0 (.object "PromotedNumbers$Whole") true := ⟨R_fr, T_fr, 3, y_ty_fr, cl_fr, by decide, rfl, rfl, Or.inr ⟨_, nw_1_65⟩⟩
theorem f_ca_54 : go_fld "PromotedNumbers$Calculator" 54 2 0 (.object "PromotedNumbers$Whole") true := ⟨R_fr, T_fr, 3, y_ty_fr, cl_fr, by decide, rfl, rfl, Or.inr ⟨_, nw_1_66⟩⟩
theorem f_ma_106 : go_fld "PromotedNumbers$Machine" 106 2 0 (.object "PromotedNumbers$Whole") true := ⟨R_fr, T_fr, 3, y_ty_fr, cl_fr, by decide, rfl, rfl, Or.inr ⟨_, nw_1_67⟩⟩
theorem f_pn_93 : go_fld "PromotedNumbers" 93 2 0 (.object "PromotedNumbers$Whole") true := ⟨R_fr, T_fr, 3, y_ty_fr, cl_fr, by decide, rfl, rfl, Or.inr ⟨_, nw_1_68⟩⟩
theorem f_fr_20 : go_fld "PromotedNumbers$Fraction" 20 2 1 (.object "PromotedNumbers$Whole") true := ⟨R_fr, T_fr, 3, y_ty_fr, cl_fr, by decide, rfl, rfl, Or.inl tw_1_69⟩
theorem F_fr_20 : go_flF "PromotedNumbers$Fraction" 20 2 1 (.object "PromotedNumbers$Whole") := ⟨R_fr, T_fr, 3, y_ty_fr, cl_fr, by decide, rfl, rfl, rfl, tw_1_69⟩
theorem f_ca_42 : go_fld "PromotedNumbers$Calculator" 42 2 1 (.object "PromotedNumbers$Whole") true := ⟨R_fr, T_fr, 3, y_ty_fr, cl_fr, by decide, rfl, rfl, Or.inr ⟨_, nw_1_70⟩⟩
theorem f_wr_34 : go_fld "PromotedNumbers$Writing" 34 2 1 (.object "PromotedNumbers$Whole") true := ⟨R_fr, T_fr, 3, y_ty_fr, cl_fr, by decide, rfl, rfl, Or.inr ⟨_, nw_1_71⟩⟩
theorem f_ma_127 : go_fld "PromotedNumbers$Machine" 127 2 1 (.object "PromotedNumbers$Whole") true := ⟨R_fr, T_fr, 3, y_ty_fr, cl_fr, by decide, rfl, rfl, Or.inr ⟨_, nw_1_72⟩⟩
theorem f_pn_103 : go_fld "PromotedNumbers" 103 2 1 (.object "PromotedNumbers$Whole") true := ⟨R_fr, T_fr, 3, y_ty_fr, cl_fr, by decide, rfl, rfl, Or.inr ⟨_, nw_1_73⟩⟩
theorem f_fr_26 : go_fld "PromotedNumbers$Fraction" 26 2 2 (.boolean) false := ⟨R_fr, T_fr, 3, y_ty_fr, cl_fr, by decide, rfl, rfl, Or.inl tw_1_74⟩
theorem f_wr_48 : go_fld "PromotedNumbers$Writing" 48 2 2 (.boolean) false := ⟨R_fr, T_fr, 3, y_ty_fr, cl_fr, by decide, rfl, rfl, Or.inr ⟨_, nw_1_75⟩⟩
theorem f_ca_61 : go_fld "PromotedNumbers$Calculator" 61 2 2 (.boolean) false := ⟨R_fr, T_fr, 3, y_ty_fr, cl_fr, by decide, rfl, rfl, Or.inr ⟨_, nw_1_76⟩⟩
theorem f_ma_113 : go_fld "PromotedNumbers$Machine" 113 2 2 (.boolean) false := ⟨R_fr, T_fr, 3, y_ty_fr, cl_fr, by decide, rfl, rfl, Or.inr ⟨_, nw_1_77⟩⟩
theorem f_wr_11 : go_fld "PromotedNumbers$Writing" 11 6 0 (.array .char) true := ⟨R_wr, T_wr, 3, y_ty_wr, cl_wr, by decide, rfl, rfl, Or.inl tw_1_93⟩
theorem F_wr_11 : go_flF "PromotedNumbers$Writing" 11 6 0 (.array .char) := ⟨R_wr, T_wr, 3, y_ty_wr, cl_wr, by decide, rfl, rfl, rfl, tw_1_93⟩
theorem f_wr_20 : go_fld "PromotedNumbers$Writing" 20 6 1 (.object "PromotedNumbers$Whole") true := ⟨R_wr, T_wr, 3, y_ty_wr, cl_wr, by decide, rfl, rfl, Or.inl tw_1_94⟩
theorem F_wr_20 : go_flF "PromotedNumbers$Writing" 20 6 1 (.object "PromotedNumbers$Whole") := ⟨R_wr, T_wr, 3, y_ty_wr, cl_wr, by decide, rfl, rfl, rfl, tw_1_94⟩
theorem f_wr_24 : go_fld "PromotedNumbers$Writing" 24 6 2 (.int) false := ⟨R_wr, T_wr, 3, y_ty_wr, cl_wr, by decide, rfl, rfl, Or.inl tw_1_95⟩
theorem f_gr_9 : go_fld "PromotedNumbers$Grammar" 9 3 0 (.array .int) true := ⟨R_gr, T_gr, 3, y_ty_gr, cl_gr, by decide, rfl, rfl, Or.inl tw_1_109⟩
theorem F_gr_9 : go_flF "PromotedNumbers$Grammar" 9 3 0 (.array .int) := ⟨R_gr, T_gr, 3, y_ty_gr, cl_gr, by decide, rfl, rfl, rfl, tw_1_109⟩
theorem f_gr_15 : go_fld "PromotedNumbers$Grammar" 15 3 1 (.array .int) true := ⟨R_gr, T_gr, 3, y_ty_gr, cl_gr, by decide, rfl, rfl, Or.inl tw_1_110⟩
theorem F_gr_15 : go_flF "PromotedNumbers$Grammar" 15 3 1 (.array .int) := ⟨R_gr, T_gr, 3, y_ty_gr, cl_gr, by decide, rfl, rfl, rfl, tw_1_110⟩
theorem f_gr_18 : go_fld "PromotedNumbers$Grammar" 18 3 2 (.int) false := ⟨R_gr, T_gr, 3, y_ty_gr, cl_gr, by decide, rfl, rfl, Or.inl tw_1_111⟩
theorem f_di_14 : go_fld "PromotedNumbers$Divider" 14 1 0 (.object "PromotedNumbers$Whole") true := ⟨R_di, T_di, 4, y_ty_di, cl_di, by decide, rfl, rfl, Or.inl tw_1_139⟩
theorem F_di_14 : go_flF "PromotedNumbers$Divider" 14 1 0 (.object "PromotedNumbers$Whole") := ⟨R_di, T_di, 4, y_ty_di, cl_di, by decide, rfl, rfl, rfl, tw_1_139⟩
theorem f_ca_97 : go_fld "PromotedNumbers$Calculator" 97 1 0 (.object "PromotedNumbers$Whole") true := ⟨R_di, T_di, 4, y_ty_di, cl_di, by decide, rfl, rfl, Or.inr ⟨_, nw_1_140⟩⟩
theorem f_di_20 : go_fld "PromotedNumbers$Divider" 20 1 1 (.object "PromotedNumbers$Whole") true := ⟨R_di, T_di, 4, y_ty_di, cl_di, by decide, rfl, rfl, Or.inl tw_1_141⟩
theorem F_di_20 : go_flF "PromotedNumbers$Divider" 20 1 1 (.object "PromotedNumbers$Whole") := ⟨R_di, T_di, 4, y_ty_di, cl_di, by decide, rfl, rfl, rfl, tw_1_141⟩
theorem f_di_23 : go_fld "PromotedNumbers$Divider" 23 1 2 (.object "PromotedNumbers$Whole") true := ⟨R_di, T_di, 4, y_ty_di, cl_di, by decide, rfl, rfl, Or.inl tw_1_142⟩
theorem F_di_23 : go_flF "PromotedNumbers$Divider" 23 1 2 (.object "PromotedNumbers$Whole") := ⟨R_di, T_di, 4, y_ty_di, cl_di, by decide, rfl, rfl, rfl, tw_1_142⟩
theorem f_di_26 : go_fld "PromotedNumbers$Divider" 26 1 3 (.object "PromotedNumbers$Whole") true := ⟨R_di, T_di, 4, y_ty_di, cl_di, by decide, rfl, rfl, Or.inl tw_1_143⟩
theorem F_di_26 : go_flF "PromotedNumbers$Divider" 26 1 3 (.object "PromotedNumbers$Whole") := ⟨R_di, T_di, 4, y_ty_di, cl_di, by decide, rfl, rfl, rfl, tw_1_143⟩
theorem f_ca_12 : go_fld "PromotedNumbers$Calculator" 12 0 0 (.object "PromotedNumbers$Divider") true := ⟨R_ca, T_ca, 7, y_ty_ca, cl_ca, by decide, rfl, rfl, Or.inl tw_1_155⟩
theorem F_ca_12 : go_flF "PromotedNumbers$Calculator" 12 0 0 (.object "PromotedNumbers$Divider") := ⟨R_ca, T_ca, 7, y_ty_ca, cl_ca, by decide, rfl, rfl, rfl, tw_1_155⟩
theorem f_ca_23 : go_fld "PromotedNumbers$Calculator" 23 0 1 (.object "PromotedNumbers$Whole") true := ⟨R_ca, T_ca, 7, y_ty_ca, cl_ca, by decide, rfl, rfl, Or.inl tw_1_156⟩
theorem F_ca_23 : go_flF "PromotedNumbers$Calculator" 23 0 1 (.object "PromotedNumbers$Whole") := ⟨R_ca, T_ca, 7, y_ty_ca, cl_ca, by decide, rfl, rfl, rfl, tw_1_156⟩
theorem f_ca_27 : go_fld "PromotedNumbers$Calculator" 27 0 2 (.object "PromotedNumbers$Whole") true := ⟨R_ca, T_ca, 7, y_ty_ca, cl_ca, by decide, rfl, rfl, Or.inl tw_1_157⟩
theorem F_ca_27 : go_flF "PromotedNumbers$Calculator" 27 0 2 (.object "PromotedNumbers$Whole") := ⟨R_ca, T_ca, 7, y_ty_ca, cl_ca, by decide, rfl, rfl, rfl, tw_1_157⟩
theorem f_ca_30 : go_fld "PromotedNumbers$Calculator" 30 0 3 (.object "PromotedNumbers$Whole") true := ⟨R_ca, T_ca, 7, y_ty_ca, cl_ca, by decide, rfl, rfl, Or.inl tw_1_158⟩
theorem F_ca_30 : go_flF "PromotedNumbers$Calculator" 30 0 3 (.object "PromotedNumbers$Whole") := ⟨R_ca, T_ca, 7, y_ty_ca, cl_ca, by decide, rfl, rfl, rfl, tw_1_158⟩
theorem f_ca_33 : go_fld "PromotedNumbers$Calculator" 33 0 4 (.object "PromotedNumbers$Whole") true := ⟨R_ca, T_ca, 7, y_ty_ca, cl_ca, by decide, rfl, rfl, Or.inl tw_1_159⟩
theorem F_ca_33 : go_flF "PromotedNumbers$Calculator" 33 0 4 (.object "PromotedNumbers$Whole") := ⟨R_ca, T_ca, 7, y_ty_ca, cl_ca, by decide, rfl, rfl, rfl, tw_1_159⟩
theorem f_ca_36 : go_fld "PromotedNumbers$Calculator" 36 0 5 (.object "PromotedNumbers$Whole") true := ⟨R_ca, T_ca, 7, y_ty_ca, cl_ca, by decide, rfl, rfl, Or.inl tw_1_160⟩
theorem F_ca_36 : go_flF "PromotedNumbers$Calculator" 36 0 5 (.object "PromotedNumbers$Whole") := ⟨R_ca, T_ca, 7, y_ty_ca, cl_ca, by decide, rfl, rfl, rfl, tw_1_160⟩
theorem f_ca_39 : go_fld "PromotedNumbers$Calculator" 39 0 6 (.object "PromotedNumbers$Whole") true := ⟨R_ca, T_ca, 7, y_ty_ca, cl_ca, by decide, rfl, rfl, Or.inl tw_1_161⟩
theorem F_ca_39 : go_flF "PromotedNumbers$Calculator" 39 0 6 (.object "PromotedNumbers$Whole") := ⟨R_ca, T_ca, 7, y_ty_ca, cl_ca, by decide, rfl, rfl, rfl, tw_1_161⟩
theorem f_ma_12 : go_fld "PromotedNumbers$Machine" 12 4 0 (.object "PromotedNumbers$Calculator") true := ⟨R_ma, T_ma, 10, y_ty_ma, cl_ma, by decide, rfl, rfl, Or.inl tw_1_182⟩
theorem F_ma_12 : go_flF "PromotedNumbers$Machine" 12 4 0 (.object "PromotedNumbers$Calculator") := ⟨R_ma, T_ma, 10, y_ty_ma, cl_ma, by decide, rfl, rfl, rfl, tw_1_182⟩
theorem f_pn_106 : go_fld "PromotedNumbers" 106 4 0 (.object "PromotedNumbers$Calculator") true := ⟨R_ma, T_ma, 10, y_ty_ma, cl_ma, by decide, rfl, rfl, Or.inr ⟨_, nw_1_183⟩⟩
theorem f_ma_20 : go_fld "PromotedNumbers$Machine" 20 4 1 (.array (.object "PromotedNumbers$Fraction")) true := ⟨R_ma, T_ma, 10, y_ty_ma, cl_ma, by decide, rfl, rfl, Or.inl tw_1_184⟩
theorem F_ma_20 : go_flF "PromotedNumbers$Machine" 20 4 1 (.array (.object "PromotedNumbers$Fraction")) := ⟨R_ma, T_ma, 10, y_ty_ma, cl_ma, by decide, rfl, rfl, rfl, tw_1_184⟩
theorem f_pn_74 : go_fld "PromotedNumbers" 74 4 1 (.array (.object "PromotedNumbers$Fraction")) true := ⟨R_ma, T_ma, 10, y_ty_ma, cl_ma, by decide, rfl, rfl, Or.inr ⟨_, nw_1_185⟩⟩
theorem f_ma_24 : go_fld "PromotedNumbers$Machine" 24 4 2 (.array (.object "PromotedNumbers$Fraction")) true := ⟨R_ma, T_ma, 10, y_ty_ma, cl_ma, by decide, rfl, rfl, Or.inl tw_1_186⟩
theorem F_ma_24 : go_flF "PromotedNumbers$Machine" 24 4 2 (.array (.object "PromotedNumbers$Fraction")) := ⟨R_ma, T_ma, 10, y_ty_ma, cl_ma, by decide, rfl, rfl, rfl, tw_1_186⟩
theorem f_ma_28 : go_fld "PromotedNumbers$Machine" 28 4 3 (.object "PromotedNumbers$Fraction") true := ⟨R_ma, T_ma, 10, y_ty_ma, cl_ma, by decide, rfl, rfl, Or.inl tw_1_187⟩
theorem F_ma_28 : go_flF "PromotedNumbers$Machine" 28 4 3 (.object "PromotedNumbers$Fraction") := ⟨R_ma, T_ma, 10, y_ty_ma, cl_ma, by decide, rfl, rfl, rfl, tw_1_187⟩
theorem f_ma_37 : go_fld "PromotedNumbers$Machine" 37 4 4 (.object "PromotedNumbers$Whole") true := ⟨R_ma, T_ma, 10, y_ty_ma, cl_ma, by decide, rfl, rfl, Or.inl tw_1_188⟩
theorem F_ma_37 : go_flF "PromotedNumbers$Machine" 37 4 4 (.object "PromotedNumbers$Whole") := ⟨R_ma, T_ma, 10, y_ty_ma, cl_ma, by decide, rfl, rfl, rfl, tw_1_188⟩
theorem f_ma_41 : go_fld "PromotedNumbers$Machine" 41 4 5 (.array .char) true := ⟨R_ma, T_ma, 10, y_ty_ma, cl_ma, by decide, rfl, rfl, Or.inl tw_1_189⟩
theorem F_ma_41 : go_flF "PromotedNumbers$Machine" 41 4 5 (.array .char) := ⟨R_ma, T_ma, 10, y_ty_ma, cl_ma, by decide, rfl, rfl, rfl, tw_1_189⟩
theorem f_ma_45 : go_fld "PromotedNumbers$Machine" 45 4 6 (.array .int) true := ⟨R_ma, T_ma, 10, y_ty_ma, cl_ma, by decide, rfl, rfl, Or.inl tw_1_190⟩
theorem F_ma_45 : go_flF "PromotedNumbers$Machine" 45 4 6 (.array .int) := ⟨R_ma, T_ma, 10, y_ty_ma, cl_ma, by decide, rfl, rfl, rfl, tw_1_190⟩
theorem f_ma_49 : go_fld "PromotedNumbers$Machine" 49 4 7 (.array .int) true := ⟨R_ma, T_ma, 10, y_ty_ma, cl_ma, by decide, rfl, rfl, Or.inl tw_1_191⟩
theorem F_ma_49 : go_flF "PromotedNumbers$Machine" 49 4 7 (.array .int) := ⟨R_ma, T_ma, 10, y_ty_ma, cl_ma, by decide, rfl, rfl, rfl, tw_1_191⟩
theorem f_ma_52 : go_fld "PromotedNumbers$Machine" 52 4 8 (.int) false := ⟨R_ma, T_ma, 10, y_ty_ma, cl_ma, by decide, rfl, rfl, Or.inl tw_1_192⟩
theorem f_ma_56 : go_fld "PromotedNumbers$Machine" 56 4 9 (.int) false := ⟨R_ma, T_ma, 10, y_ty_ma, cl_ma, by decide, rfl, rfl, Or.inl tw_1_193⟩
theorem f_pn_9 : go_fld "PromotedNumbers" 9 7 0 (.array .char) true := ⟨R_pn, T_pn, 7, y_ty_pn, cl_pn, by decide, rfl, rfl, Or.inl tw_1_215⟩
theorem F_pn_9 : go_flF "PromotedNumbers" 9 7 0 (.array .char) := ⟨R_pn, T_pn, 7, y_ty_pn, cl_pn, by decide, rfl, rfl, rfl, tw_1_215⟩
theorem f_pn_49 : go_fld "PromotedNumbers" 49 7 1 (.int) false := ⟨R_pn, T_pn, 7, y_ty_pn, cl_pn, by decide, rfl, rfl, Or.inl tw_1_216⟩
theorem f_pn_13 : go_fld "PromotedNumbers" 13 7 2 (.int) false := ⟨R_pn, T_pn, 7, y_ty_pn, cl_pn, by decide, rfl, rfl, Or.inl tw_1_217⟩
theorem f_pn_20 : go_fld "PromotedNumbers" 20 7 3 (.object "PromotedNumbers$Fraction") true := ⟨R_pn, T_pn, 7, y_ty_pn, cl_pn, by decide, rfl, rfl, Or.inl tw_1_218⟩
theorem F_pn_20 : go_flF "PromotedNumbers" 20 7 3 (.object "PromotedNumbers$Fraction") := ⟨R_pn, T_pn, 7, y_ty_pn, cl_pn, by decide, rfl, rfl, rfl, tw_1_218⟩
theorem f_pn_27 : go_fld "PromotedNumbers" 27 7 4 (.object "PromotedNumbers$Writing") true := ⟨R_pn, T_pn, 7, y_ty_pn, cl_pn, by decide, rfl, rfl, Or.inl tw_1_219⟩
theorem F_pn_27 : go_flF "PromotedNumbers" 27 7 4 (.object "PromotedNumbers$Writing") := ⟨R_pn, T_pn, 7, y_ty_pn, cl_pn, by decide, rfl, rfl, rfl, tw_1_219⟩
theorem f_pn_34 : go_fld "PromotedNumbers" 34 7 5 (.object "PromotedNumbers$Grammar") true := ⟨R_pn, T_pn, 7, y_ty_pn, cl_pn, by decide, rfl, rfl, Or.inl tw_1_220⟩
theorem F_pn_34 : go_flF "PromotedNumbers" 34 7 5 (.object "PromotedNumbers$Grammar") := ⟨R_pn, T_pn, 7, y_ty_pn, cl_pn, by decide, rfl, rfl, rfl, tw_1_220⟩
theorem f_pn_41 : go_fld "PromotedNumbers" 41 7 6 (.object "PromotedNumbers$Machine") true := ⟨R_pn, T_pn, 7, y_ty_pn, cl_pn, by decide, rfl, rfl, Or.inl tw_1_221⟩
theorem F_pn_41 : go_flF "PromotedNumbers" 41 7 6 (.object "PromotedNumbers$Machine") := ⟨R_pn, T_pn, 7, y_ty_pn, cl_pn, by decide, rfl, rfl, rfl, tw_1_221⟩
theorem f_mo_42 : go_fld "PromotedNumbersModel" 42 8 0 (.int) false := ⟨R_mo, T_mo, 13, y_ty_mo, cl_mo, by decide, rfl, rfl, Or.inl tw_4_89⟩
theorem f_mo_93 : go_fld "PromotedNumbersModel" 93 8 1 (.int) false := ⟨R_mo, T_mo, 13, y_ty_mo, cl_mo, by decide, rfl, rfl, Or.inl tw_4_90⟩
theorem f_mo_7 : go_fld "PromotedNumbersModel" 7 8 2 (.array .int) true := ⟨R_mo, T_mo, 13, y_ty_mo, cl_mo, by decide, rfl, rfl, Or.inl tw_4_91⟩
theorem F_mo_7 : go_flF "PromotedNumbersModel" 7 8 2 (.array .int) := ⟨R_mo, T_mo, 13, y_ty_mo, cl_mo, by decide, rfl, rfl, rfl, tw_4_91⟩
theorem f_mo_13 : go_fld "PromotedNumbersModel" 13 8 3 (.int) false := ⟨R_mo, T_mo, 13, y_ty_mo, cl_mo, by decide, rfl, rfl, Or.inl tw_4_92⟩
theorem f_mo_17 : go_fld "PromotedNumbersModel" 17 8 4 (.array .int) true := ⟨R_mo, T_mo, 13, y_ty_mo, cl_mo, by decide, rfl, rfl, Or.inl tw_4_93⟩
theorem F_mo_17 : go_flF "PromotedNumbersModel" 17 8 4 (.array .int) := ⟨R_mo, T_mo, 13, y_ty_mo, cl_mo, by decide, rfl, rfl, rfl, tw_4_93⟩
theorem f_mo_20 : go_fld "PromotedNumbersModel" 20 8 5 (.array .int) true := ⟨R_mo, T_mo, 13, y_ty_mo, cl_mo, by decide, rfl, rfl, Or.inl tw_4_94⟩
theorem F_mo_20 : go_flF "PromotedNumbersModel" 20 8 5 (.array .int) := ⟨R_mo, T_mo, 13, y_ty_mo, cl_mo, by decide, rfl, rfl, rfl, tw_4_94⟩
theorem f_mo_23 : go_fld "PromotedNumbersModel" 23 8 6 (.array .int) true := ⟨R_mo, T_mo, 13, y_ty_mo, cl_mo, by decide, rfl, rfl, Or.inl tw_4_95⟩
theorem F_mo_23 : go_flF "PromotedNumbersModel" 23 8 6 (.array .int) := ⟨R_mo, T_mo, 13, y_ty_mo, cl_mo, by decide, rfl, rfl, rfl, tw_4_95⟩
theorem f_mo_26 : go_fld "PromotedNumbersModel" 26 8 7 (.array .int) true := ⟨R_mo, T_mo, 13, y_ty_mo, cl_mo, by decide, rfl, rfl, Or.inl tw_4_96⟩
theorem F_mo_26 : go_flF "PromotedNumbersModel" 26 8 7 (.array .int) := ⟨R_mo, T_mo, 13, y_ty_mo, cl_mo, by decide, rfl, rfl, rfl, tw_4_96⟩
theorem f_mo_29 : go_fld "PromotedNumbersModel" 29 8 8 (.array .int) true := ⟨R_mo, T_mo, 13, y_ty_mo, cl_mo, by decide, rfl, rfl, Or.inl tw_4_97⟩
theorem F_mo_29 : go_flF "PromotedNumbersModel" 29 8 8 (.array .int) := ⟨R_mo, T_mo, 13, y_ty_mo, cl_mo, by decide, rfl, rfl, rfl, tw_4_97⟩
theorem f_mo_32 : go_fld "PromotedNumbersModel" 32 8 9 (.array .int) true := ⟨R_mo, T_mo, 13, y_ty_mo, cl_mo, by decide, rfl, rfl, Or.inl tw_4_98⟩
theorem F_mo_32 : go_flF "PromotedNumbersModel" 32 8 9 (.array .int) := ⟨R_mo, T_mo, 13, y_ty_mo, cl_mo, by decide, rfl, rfl, rfl, tw_4_98⟩
theorem f_mo_103 : go_fld "PromotedNumbersModel" 103 8 10 (.int) false := ⟨R_mo, T_mo, 13, y_ty_mo, cl_mo, by decide, rfl, rfl, Or.inl tw_4_99⟩
theorem f_mo_124 : go_fld "PromotedNumbersModel" 124 8 11 (.int) false := ⟨R_mo, T_mo, 13, y_ty_mo, cl_mo, by decide, rfl, rfl, Or.inl tw_4_100⟩
theorem f_mo_121 : go_fld "PromotedNumbersModel" 121 8 12 (.int) false := ⟨R_mo, T_mo, 13, y_ty_mo, cl_mo, by decide, rfl, rfl, Or.inl tw_4_101⟩
-- methods
abbrev y_pn_init : MethodName := ⟨"PromotedNumbers", "<init>", "()V"⟩
abbrev b_pn_init : ByteArray := prog_1_method_1_code
abbrev m_pn_init : go_M := (y_pn_init, b_pn_init, 1, none)
theorem g_pn_init : go_met m_pn_init 0 := ⟨tw_1_30, tw_1_1, by decide, by decide +kernel⟩
theorem i_pn_init : Cond.instanceMethod m_pn_init.1 ∈ go_T := tw_1_29
abbrev y_pn_type : MethodName := ⟨"PromotedNumbers", "type", "(J)Z"⟩
abbrev b_pn_type : ByteArray := prog_1_method_2_code
abbrev m_pn_type : go_M := (y_pn_type, b_pn_type, 5, (some .boolean))
theorem g_pn_type : go_met m_pn_type 1 := ⟨tw_2_0, tw_1_1, by decide, by decide +kernel⟩
theorem i_pn_type : Cond.instanceMethod m_pn_type.1 ∈ go_T := tw_1_238
theorem v_pn_type : Cond.selects m_pn_type.1.cls m_pn_type.1 m_pn_type.1 ∈ go_T := tw_1_239
abbrev y_pn_erase : MethodName := ⟨"PromotedNumbers", "erase", "()I"⟩
abbrev b_pn_erase : ByteArray := prog_1_method_3_code
abbrev m_pn_erase : go_M := (y_pn_erase, b_pn_erase, 2, (some .int))
theorem g_pn_erase : go_met m_pn_erase 0 := ⟨tw_2_7, tw_1_1, by decide, by decide +kernel⟩
theorem i_pn_erase : Cond.instanceMethod m_pn_erase.1 ∈ go_T := tw_2_5
theorem v_pn_erase : Cond.selects m_pn_erase.1.cls m_pn_erase.1 m_pn_erase.1 ∈ go_T := tw_2_6
abbrev y_pn_fault : MethodName := ⟨"PromotedNumbers", "fault", "()I"⟩
abbrev b_pn_fault : ByteArray := prog_1_method_4_code
abbrev m_pn_fault : go_M := (y_pn_fault, b_pn_fault, 1, (some .int))
theorem g_pn_fault : go_met m_pn_fault 0 := ⟨tw_2_11, tw_1_1, by decide, by decide +kernel⟩
theorem i_pn_fault : Cond.instanceMethod m_pn_fault.1 ∈ go_T := tw_2_9
theorem v_pn_fault : Cond.selects m_pn_fault.1.cls m_pn_fault.1 m_pn_fault.1 ∈ go_T := tw_2_10
abbrev y_pn_work : MethodName := ⟨"PromotedNumbers", "work", "()I"⟩
abbrev b_pn_work : ByteArray := prog_1_method_5_code
abbrev m_pn_work : go_M := (y_pn_work, b_pn_work, 1, (some .int))
theorem g_pn_work : go_met m_pn_work 0 := ⟨tw_2_74, tw_1_1, by decide, by decide +kernel⟩
theorem i_pn_work : Cond.instanceMethod m_pn_work.1 ∈ go_T := tw_2_72
theorem v_pn_work : Cond.selects m_pn_work.1.cls m_pn_work.1 m_pn_work.1 ∈ go_T := tw_2_73
abbrev y_pn_keep : MethodName := ⟨"PromotedNumbers", "keep", "(I)I"⟩
abbrev b_pn_keep : ByteArray := prog_1_method_6_code
abbrev m_pn_keep : go_M := (y_pn_keep, b_pn_keep, 2, (some .int))
theorem g_pn_keep : go_met m_pn_keep 1 := ⟨tw_4_37, tw_1_1, by decide, by decide +kernel⟩
theorem i_pn_keep : Cond.instanceMethod m_pn_keep.1 ∈ go_T := tw_4_35
theorem v_pn_keep : Cond.selects m_pn_keep.1.cls m_pn_keep.1 m_pn_keep.1 ∈ go_T := tw_4_36
abbrev y_pn_form : MethodName := ⟨"PromotedNumbers", "form", "()I"⟩
abbrev b_pn_form : ByteArray := prog_1_method_7_code
abbrev m_pn_form : go_M := (y_pn_form, b_pn_form, 1, (some .int))
theorem g_pn_form : go_met m_pn_form 0 := ⟨tw_2_15, tw_1_1, by decide, by decide +kernel⟩
theorem i_pn_form : Cond.instanceMethod m_pn_form.1 ∈ go_T := tw_2_13
theorem v_pn_form : Cond.selects m_pn_form.1.cls m_pn_form.1 m_pn_form.1 ∈ go_T := tw_2_14
abbrev y_pn_sign : MethodName := ⟨"PromotedNumbers", "sign", "()I"⟩
abbrev b_pn_sign : ByteArray := prog_1_method_8_code
abbrev m_pn_sign : go_M := (y_pn_sign, b_pn_sign, 1, (some .int))
theorem g_pn_sign : go_met m_pn_sign 0 := ⟨tw_2_31, tw_1_1, by decide, by decide +kernel⟩
theorem i_pn_sign : Cond.instanceMethod m_pn_sign.1 ∈ go_T := tw_2_29
theorem v_pn_sign : Cond.selects m_pn_sign.1.cls m_pn_sign.1 m_pn_sign.1 ∈ go_T := tw_2_30
abbrev y_pn_digit : MethodName := ⟨"PromotedNumbers", "digit", "(I)C"⟩
abbrev b_pn_digit : ByteArray := prog_1_method_9_code
abbrev m_pn_digit : go_M := (y_pn_digit, b_pn_digit, 2, (some .char))
theorem g_pn_digit : go_met m_pn_digit 1 := ⟨tw_2_47, tw_1_1, by decide, by decide +kernel⟩
theorem i_pn_digit : Cond.instanceMethod m_pn_digit.1 ∈ go_T := tw_2_45
theorem v_pn_digit : Cond.selects m_pn_digit.1.cls m_pn_digit.1 m_pn_digit.1 ∈ go_T := tw_2_46
abbrev y_pn_bits : MethodName := ⟨"PromotedNumbers", "bits", "(II)I"⟩
abbrev b_pn_bits : ByteArray := prog_1_method_10_code
abbrev m_pn_bits : go_M := (y_pn_bits, b_pn_bits, 3, (some .int))
theorem g_pn_bits : go_met m_pn_bits 2 := ⟨tw_2_55, tw_1_1, by decide, by decide +kernel⟩
theorem i_pn_bits : Cond.instanceMethod m_pn_bits.1 ∈ go_T := tw_2_53
theorem v_pn_bits : Cond.selects m_pn_bits.1.cls m_pn_bits.1 m_pn_bits.1 ∈ go_T := tw_2_54
abbrev y_pn_against : MethodName := ⟨"PromotedNumbers", "against", "(I)I"⟩
abbrev b_pn_against : ByteArray := prog_1_method_11_code
abbrev m_pn_against : go_M := (y_pn_against, b_pn_against, 2, (some .int))
theorem g_pn_against : go_met m_pn_against 1 := ⟨tw_4_62, tw_1_1, by decide, by decide +kernel⟩
theorem i_pn_against : Cond.instanceMethod m_pn_against.1 ∈ go_T := tw_4_60
theorem v_pn_against : Cond.selects m_pn_against.1.cls m_pn_against.1 m_pn_against.1 ∈ go_T := tw_4_61
abbrev y_pn_fetch : MethodName := ⟨"PromotedNumbers", "fetch", "(I)I"⟩
abbrev b_pn_fetch : ByteArray := prog_1_method_12_code
abbrev m_pn_fetch : go_M := (y_pn_fetch, b_pn_fetch, 2, (some .int))
theorem g_pn_fetch : go_met m_pn_fetch 1 := ⟨tw_4_70, tw_1_1, by decide, by decide +kernel⟩
theorem i_pn_fetch : Cond.instanceMethod m_pn_fetch.1 ∈ go_T := tw_4_68
theorem v_pn_fetch : Cond.selects m_pn_fetch.1.cls m_pn_fetch.1 m_pn_fetch.1 ∈ go_T := tw_4_69
abbrev y_pn_characterOf : MethodName := ⟨"PromotedNumbers", "characterOf", "(JI)I"⟩
abbrev b_pn_characterOf : ByteArray := prog_1_method_13_code
abbrev m_pn_characterOf : go_M := (y_pn_characterOf, b_pn_characterOf, 3, (some .int))
theorem g_pn_characterOf : go_met m_pn_characterOf 2 := ⟨tw_2_3, tw_1_1, by decide, by decide +kernel⟩
theorem s_pn_characterOf : Cond.static m_pn_characterOf.1 ∈ go_T := tw_2_2
abbrev y_pn_requireVariable : MethodName := ⟨"PromotedNumbers", "requireVariable", "(I)V"⟩
abbrev b_pn_requireVariable : ByteArray := prog_1_method_14_code
abbrev m_pn_requireVariable : go_M := (y_pn_requireVariable, b_pn_requireVariable, 1, none)
theorem g_pn_requireVariable : go_met m_pn_requireVariable 1 := ⟨tw_4_40, tw_1_1, by decide, by decide +kernel⟩
theorem s_pn_requireVariable : Cond.static m_pn_requireVariable.1 ∈ go_T := tw_4_39
abbrev y_pn_requireExpression : MethodName := ⟨"PromotedNumbers", "requireExpression", "()V"⟩
abbrev b_pn_requireExpression : ByteArray := prog_1_method_15_code
abbrev m_pn_requireExpression : go_M := (y_pn_requireExpression, b_pn_requireExpression, 1, none)
theorem g_pn_requireExpression : go_met m_pn_requireExpression 0 := ⟨tw_2_78, tw_1_1, by decide, by decide +kernel⟩
theorem i_pn_requireExpression : Cond.instanceMethod m_pn_requireExpression.1 ∈ go_T := tw_2_77
theorem v_pn_requireExpression : Cond.selects m_pn_requireExpression.1.cls m_pn_requireExpression.1 m_pn_requireExpression.1 ∈ go_T := go_p1 (List.mem_of_getElem? (i := 0) rfl)
abbrev y_pn_refuse : MethodName := ⟨"PromotedNumbers", "refuse", "(I)V"⟩
abbrev b_pn_refuse : ByteArray := prog_1_method_16_code
abbrev m_pn_refuse : go_M := (y_pn_refuse, b_pn_refuse, 1, none)
theorem g_pn_refuse : go_met m_pn_refuse 1 := ⟨tw_3_199, tw_1_1, by decide, by decide +kernel⟩
theorem s_pn_refuse : Cond.static m_pn_refuse.1 ∈ go_T := tw_3_198
abbrev y_pn_settle : MethodName := ⟨"PromotedNumbers", "settle", "(LPromotedNumbers$Fraction;)I"⟩
abbrev b_pn_settle : ByteArray := prog_1_method_17_code
abbrev m_pn_settle : go_M := (y_pn_settle, b_pn_settle, 2, (some .int))
theorem g_pn_settle : go_met m_pn_settle 1 := ⟨tw_4_12, tw_1_1, by decide, by decide +kernel⟩
theorem i_pn_settle : Cond.instanceMethod m_pn_settle.1 ∈ go_T := tw_4_11
theorem v_pn_settle : Cond.selects m_pn_settle.1.cls m_pn_settle.1 m_pn_settle.1 ∈ go_T := go_p2 (List.mem_of_getElem? (i := 3) rfl)
abbrev y_pn_isDigit : MethodName := ⟨"PromotedNumbers", "isDigit", "(C)Z"⟩
abbrev b_pn_isDigit : ByteArray := prog_1_method_18_code
abbrev m_pn_isDigit : go_M := (y_pn_isDigit, b_pn_isDigit, 1, (some .boolean))
theorem g_pn_isDigit : go_met m_pn_isDigit 1 := ⟨tw_2_93, tw_1_1, by decide, by decide +kernel⟩
theorem s_pn_isDigit : Cond.static m_pn_isDigit.1 ∈ go_T := tw_2_92
abbrev y_pn_isVariable : MethodName := ⟨"PromotedNumbers", "isVariable", "(C)Z"⟩
abbrev b_pn_isVariable : ByteArray := prog_1_method_19_code
abbrev m_pn_isVariable : go_M := (y_pn_isVariable, b_pn_isVariable, 1, (some .boolean))
theorem g_pn_isVariable : go_met m_pn_isVariable 1 := ⟨tw_2_96, tw_1_1, by decide, by decide +kernel⟩
theorem s_pn_isVariable : Cond.static m_pn_isVariable.1 ∈ go_T := tw_2_95
abbrev y_mo_init : MethodName := ⟨"PromotedNumbersModel", "<init>", "()V"⟩
abbrev b_mo_init : ByteArray := prog_10_method_1_code
abbrev m_mo_init : go_M := (y_mo_init, b_mo_init, 2, none)
theorem g_mo_init : go_met m_mo_init 0 := ⟨tw_4_75, tw_1_9, by decide, by decide +kernel⟩
theorem i_mo_init : Cond.instanceMethod m_mo_init.1 ∈ go_T := tw_4_74
abbrev y_mo_thrown : MethodName := ⟨"PromotedNumbersModel", "thrown", "()I"⟩
abbrev b_mo_thrown : ByteArray := prog_10_method_2_code
abbrev m_mo_thrown : go_M := (y_mo_thrown, b_mo_thrown, 1, (some .int))
theorem g_mo_thrown : go_met m_mo_thrown 0 := ⟨tw_4_132, tw_1_9, by decide, by decide +kernel⟩
theorem i_mo_thrown : Cond.instanceMethod m_mo_thrown.1 ∈ go_T := tw_4_130
theorem v_mo_thrown : Cond.selects m_mo_thrown.1.cls m_mo_thrown.1 m_mo_thrown.1 ∈ go_T := tw_4_131
abbrev y_mo_set : MethodName := ⟨"PromotedNumbersModel", "set", "(II)V"⟩
abbrev b_mo_set : ByteArray := prog_10_method_3_code
abbrev m_mo_set : go_M := (y_mo_set, b_mo_set, 4, none)
theorem g_mo_set : go_met m_mo_set 2 := ⟨tw_4_80, tw_1_9, by decide, by decide +kernel⟩
theorem i_mo_set : Cond.instanceMethod m_mo_set.1 ∈ go_T := tw_4_79
theorem v_mo_set : Cond.selects m_mo_set.1.cls m_mo_set.1 m_mo_set.1 ∈ go_T := go_p2 (List.mem_of_getElem? (i := 6) rfl)
abbrev y_mo_copy : MethodName := ⟨"PromotedNumbersModel", "copy", "(II)V"⟩
abbrev b_mo_copy : ByteArray := prog_10_method_4_code
abbrev m_mo_copy : go_M := (y_mo_copy, b_mo_copy, 4, none)
theorem g_mo_copy : go_met m_mo_copy 2 := ⟨tw_4_194, tw_1_9, by decide, by decide +kernel⟩
theorem i_mo_copy : Cond.instanceMethod m_mo_copy.1 ∈ go_T := tw_4_193
theorem v_mo_copy : Cond.selects m_mo_copy.1.cls m_mo_copy.1 m_mo_copy.1 ∈ go_T := go_p3 (List.mem_of_getElem? (i := 1) rfl)
abbrev y_mo_trim : MethodName := ⟨"PromotedNumbersModel", "trim", "(II)V"⟩
abbrev b_mo_trim : ByteArray := prog_10_method_5_code
abbrev m_mo_trim : go_M := (y_mo_trim, b_mo_trim, 4, none)
theorem g_mo_trim : go_met m_mo_trim 2 := ⟨tw_4_88, tw_1_9, by decide, by decide +kernel⟩
theorem i_mo_trim : Cond.instanceMethod m_mo_trim.1 ∈ go_T := tw_4_87
theorem v_mo_trim : Cond.selects m_mo_trim.1.cls m_mo_trim.1 m_mo_trim.1 ∈ go_T := go_p2 (List.mem_of_getElem? (i := 8) rfl)
abbrev y_mo_compare : MethodName := ⟨"PromotedNumbersModel", "compare", "(II)I"⟩
abbrev b_mo_compare : ByteArray := prog_10_method_6_code
abbrev m_mo_compare : go_M := (y_mo_compare, b_mo_compare, 4, (some .int))
theorem g_mo_compare : go_met m_mo_compare 2 := ⟨tw_4_206, tw_1_9, by decide, by decide +kernel⟩
theorem i_mo_compare : Cond.instanceMethod m_mo_compare.1 ∈ go_T := tw_4_205
theorem v_mo_compare : Cond.selects m_mo_compare.1.cls m_mo_compare.1 m_mo_compare.1 ∈ go_T := go_p3 (List.mem_of_getElem? (i := 4) rfl)
abbrev y_mo_addTo : MethodName := ⟨"PromotedNumbersModel", "addTo", "(II)V"⟩
abbrev b_mo_addTo : ByteArray := prog_10_method_7_code
abbrev m_mo_addTo : go_M := (y_mo_addTo, b_mo_addTo, 7, none)
theorem g_mo_addTo : go_met m_mo_addTo 2 := ⟨tw_4_84, tw_1_9, by decide, by decide +kernel⟩
theorem i_mo_addTo : Cond.instanceMethod m_mo_addTo.1 ∈ go_T := tw_4_83
theorem v_mo_addTo : Cond.selects m_mo_addTo.1.cls m_mo_addTo.1 m_mo_addTo.1 ∈ go_T := go_p2 (List.mem_of_getElem? (i := 7) rfl)
abbrev y_mo_takeOff : MethodName := ⟨"PromotedNumbersModel", "takeOff", "(II)V"⟩
abbrev b_mo_takeOff : ByteArray := prog_10_method_8_code
abbrev m_mo_takeOff : go_M := (y_mo_takeOff, b_mo_takeOff, 6, none)
theorem g_mo_takeOff : go_met m_mo_takeOff 2 := ⟨tw_5_14, tw_1_9, by decide, by decide +kernel⟩
theorem i_mo_takeOff : Cond.instanceMethod m_mo_takeOff.1 ∈ go_T := tw_5_13
theorem v_mo_takeOff : Cond.selects m_mo_takeOff.1.cls m_mo_takeOff.1 m_mo_takeOff.1 ∈ go_T := go_p4 (List.mem_of_getElem? (i := 0) rfl)
abbrev y_mo_multiply : MethodName := ⟨"PromotedNumbersModel", "multiply", "(III)V"⟩
abbrev b_mo_multiply : ByteArray := prog_10_method_9_code
abbrev m_mo_multiply : go_M := (y_mo_multiply, b_mo_multiply, 9, none)
theorem g_mo_multiply : go_met m_mo_multiply 3 := ⟨tw_4_230, tw_1_9, by decide, by decide +kernel⟩
theorem i_mo_multiply : Cond.instanceMethod m_mo_multiply.1 ∈ go_T := tw_4_229
theorem v_mo_multiply : Cond.selects m_mo_multiply.1.cls m_mo_multiply.1 m_mo_multiply.1 ∈ go_T := go_p3 (List.mem_of_getElem? (i := 10) rfl)
abbrev y_mo_shift : MethodName := ⟨"PromotedNumbersModel", "shift", "(II)V"⟩
abbrev b_mo_shift : ByteArray := prog_10_method_10_code
abbrev m_mo_shift : go_M := (y_mo_shift, b_mo_shift, 4, none)
theorem g_mo_shift : go_met m_mo_shift 2 := ⟨tw_5_22, tw_1_9, by decide, by decide +kernel⟩
theorem i_mo_shift : Cond.instanceMethod m_mo_shift.1 ∈ go_T := tw_5_21
theorem v_mo_shift : Cond.selects m_mo_shift.1.cls m_mo_shift.1 m_mo_shift.1 ∈ go_T := go_p4 (List.mem_of_getElem? (i := 2) rfl)
abbrev y_mo_divideSmall : MethodName := ⟨"PromotedNumbersModel", "divideSmall", "(II)I"⟩
abbrev b_mo_divideSmall : ByteArray := prog_10_method_11_code
abbrev m_mo_divideSmall : go_M := (y_mo_divideSmall, b_mo_divideSmall, 6, (some .int))
theorem g_mo_divideSmall : go_met m_mo_divideSmall 2 := ⟨tw_5_10, tw_1_9, by decide, by decide +kernel⟩
theorem i_mo_divideSmall : Cond.instanceMethod m_mo_divideSmall.1 ∈ go_T := tw_5_9
theorem v_mo_divideSmall : Cond.selects m_mo_divideSmall.1.cls m_mo_divideSmall.1 m_mo_divideSmall.1 ∈ go_T := go_p3 (List.mem_of_getElem? (i := 15) rfl)
abbrev y_mo_times : MethodName := ⟨"PromotedNumbersModel", "times", "(III)V"⟩
abbrev b_mo_times : ByteArray := prog_10_method_12_code
abbrev m_mo_times : go_M := (y_mo_times, b_mo_times, 7, none)
theorem g_mo_times : go_met m_mo_times 3 := ⟨tw_4_202, tw_1_9, by decide, by decide +kernel⟩
theorem i_mo_times : Cond.instanceMethod m_mo_times.1 ∈ go_T := tw_4_201
theorem v_mo_times : Cond.selects m_mo_times.1.cls m_mo_times.1 m_mo_times.1 ∈ go_T := go_p3 (List.mem_of_getElem? (i := 3) rfl)
abbrev y_mo_divide : MethodName := ⟨"PromotedNumbersModel", "divide", "(IIII)V"⟩
abbrev b_mo_divide : ByteArray := prog_10_method_13_code
abbrev m_mo_divide : go_M := (y_mo_divide, b_mo_divide, 9, none)
theorem g_mo_divide : go_met m_mo_divide 4 := ⟨tw_5_18, tw_1_9, by decide, by decide +kernel⟩
theorem i_mo_divide : Cond.instanceMethod m_mo_divide.1 ∈ go_T := tw_5_17
theorem v_mo_divide : Cond.selects m_mo_divide.1.cls m_mo_divide.1 m_mo_divide.1 ∈ go_T := go_p4 (List.mem_of_getElem? (i := 1) rfl)
abbrev y_mo_isEven : MethodName := ⟨"PromotedNumbersModel", "isEven", "(I)Z"⟩
abbrev b_mo_isEven : ByteArray := prog_10_method_14_code
abbrev m_mo_isEven : go_M := (y_mo_isEven, b_mo_isEven, 2, (some .boolean))
theorem g_mo_isEven : go_met m_mo_isEven 1 := ⟨tw_5_6, tw_1_9, by decide, by decide +kernel⟩
theorem i_mo_isEven : Cond.instanceMethod m_mo_isEven.1 ∈ go_T := tw_5_5
theorem v_mo_isEven : Cond.selects m_mo_isEven.1.cls m_mo_isEven.1 m_mo_isEven.1 ∈ go_T := go_p3 (List.mem_of_getElem? (i := 14) rfl)
abbrev y_mo_common : MethodName := ⟨"PromotedNumbersModel", "common", "(II)V"⟩
abbrev b_mo_common : ByteArray := prog_10_method_15_code
abbrev m_mo_common : go_M := (y_mo_common, b_mo_common, 6, none)
theorem g_mo_common : go_met m_mo_common 2 := ⟨tw_5_2, tw_1_9, by decide, by decide +kernel⟩
theorem i_mo_common : Cond.instanceMethod m_mo_common.1 ∈ go_T := tw_5_1
theorem v_mo_common : Cond.selects m_mo_common.1.cls m_mo_common.1 m_mo_common.1 ∈ go_T := go_p3 (List.mem_of_getElem? (i := 13) rfl)
abbrev y_mo_copyValue : MethodName := ⟨"PromotedNumbersModel", "copyValue", "(II)V"⟩
abbrev b_mo_copyValue : ByteArray := prog_10_method_16_code
abbrev m_mo_copyValue : go_M := (y_mo_copyValue, b_mo_copyValue, 3, none)
theorem g_mo_copyValue : go_met m_mo_copyValue 2 := ⟨tw_4_190, tw_1_9, by decide, by decide +kernel⟩
theorem i_mo_copyValue : Cond.instanceMethod m_mo_copyValue.1 ∈ go_T := tw_4_189
theorem v_mo_copyValue : Cond.selects m_mo_copyValue.1.cls m_mo_copyValue.1 m_mo_copyValue.1 ∈ go_T := go_p3 (List.mem_of_getElem? (i := 0) rfl)
abbrev y_mo_setValue : MethodName := ⟨"PromotedNumbersModel", "setValue", "(II)V"⟩
abbrev b_mo_setValue : ByteArray := prog_10_method_17_code
abbrev m_mo_setValue : go_M := (y_mo_setValue, b_mo_setValue, 3, none)
theorem g_mo_setValue : go_met m_mo_setValue 2 := ⟨tw_4_222, tw_1_9, by decide, by decide +kernel⟩
theorem i_mo_setValue : Cond.instanceMethod m_mo_setValue.1 ∈ go_T := tw_4_221
theorem v_mo_setValue : Cond.selects m_mo_setValue.1.cls m_mo_setValue.1 m_mo_setValue.1 ∈ go_T := go_p3 (List.mem_of_getElem? (i := 8) rfl)
abbrev y_mo_isOne : MethodName := ⟨"PromotedNumbersModel", "isOne", "(I)Z"⟩
abbrev b_mo_isOne : ByteArray := prog_10_method_18_code
abbrev m_mo_isOne : go_M := (y_mo_isOne, b_mo_isOne, 2, (some .boolean))
theorem g_mo_isOne : go_met m_mo_isOne 1 := ⟨tw_4_238, tw_1_9, by decide, by decide +kernel⟩
theorem i_mo_isOne : Cond.instanceMethod m_mo_isOne.1 ∈ go_T := tw_4_237
theorem v_mo_isOne : Cond.selects m_mo_isOne.1.cls m_mo_isOne.1 m_mo_isOne.1 ∈ go_T := go_p3 (List.mem_of_getElem? (i := 12) rfl)
abbrev y_mo_isWhole : MethodName := ⟨"PromotedNumbersModel", "isWhole", "(I)Z"⟩
abbrev b_mo_isWhole : ByteArray := prog_10_method_19_code
abbrev m_mo_isWhole : go_M := (y_mo_isWhole, b_mo_isWhole, 2, (some .boolean))
theorem g_mo_isWhole : go_met m_mo_isWhole 1 := ⟨tw_5_38, tw_1_9, by decide, by decide +kernel⟩
theorem i_mo_isWhole : Cond.instanceMethod m_mo_isWhole.1 ∈ go_T := tw_5_37
theorem v_mo_isWhole : Cond.selects m_mo_isWhole.1.cls m_mo_isWhole.1 m_mo_isWhole.1 ∈ go_T := go_p4 (List.mem_of_getElem? (i := 6) rfl)
abbrev y_mo_lowest : MethodName := ⟨"PromotedNumbersModel", "lowest", "(II)I"⟩
abbrev b_mo_lowest : ByteArray := prog_10_method_20_code
abbrev m_mo_lowest : go_M := (y_mo_lowest, b_mo_lowest, 3, (some .int))
theorem g_mo_lowest : go_met m_mo_lowest 2 := ⟨tw_4_234, tw_1_9, by decide, by decide +kernel⟩
theorem i_mo_lowest : Cond.instanceMethod m_mo_lowest.1 ∈ go_T := tw_4_233
theorem v_mo_lowest : Cond.selects m_mo_lowest.1.cls m_mo_lowest.1 m_mo_lowest.1 ∈ go_T := go_p3 (List.mem_of_getElem? (i := 11) rfl)
abbrev y_mo_sum : MethodName := ⟨"PromotedNumbersModel", "sum", "(III)I"⟩
abbrev b_mo_sum : ByteArray := prog_10_method_21_code
abbrev m_mo_sum : go_M := (y_mo_sum, b_mo_sum, 6, (some .int))
theorem g_mo_sum : go_met m_mo_sum 3 := ⟨tw_4_226, tw_1_9, by decide, by decide +kernel⟩
theorem i_mo_sum : Cond.instanceMethod m_mo_sum.1 ∈ go_T := tw_4_225
theorem v_mo_sum : Cond.selects m_mo_sum.1.cls m_mo_sum.1 m_mo_sum.1 ∈ go_T := go_p3 (List.mem_of_getElem? (i := 9) rfl)
abbrev y_mo_product : MethodName := ⟨"PromotedNumbersModel", "product", "(II)I"⟩
abbrev b_mo_product : ByteArray := prog_10_method_22_code
abbrev m_mo_product : go_M := (y_mo_product, b_mo_product, 4, (some .int))
theorem g_mo_product : go_met m_mo_product 2 := ⟨tw_5_26, tw_1_9, by decide, by decide +kernel⟩
theorem i_mo_product : Cond.instanceMethod m_mo_product.1 ∈ go_T := tw_5_25
theorem v_mo_product : Cond.selects m_mo_product.1.cls m_mo_product.1 m_mo_product.1 ∈ go_T := go_p4 (List.mem_of_getElem? (i := 3) rfl)
abbrev y_mo_ratio : MethodName := ⟨"PromotedNumbersModel", "ratio", "(II)I"⟩
abbrev b_mo_ratio : ByteArray := prog_10_method_23_code
abbrev m_mo_ratio : go_M := (y_mo_ratio, b_mo_ratio, 4, (some .int))
theorem g_mo_ratio : go_met m_mo_ratio 2 := ⟨tw_5_30, tw_1_9, by decide, by decide +kernel⟩
theorem i_mo_ratio : Cond.instanceMethod m_mo_ratio.1 ∈ go_T := tw_5_29
theorem v_mo_ratio : Cond.selects m_mo_ratio.1.cls m_mo_ratio.1 m_mo_ratio.1 ∈ go_T := go_p4 (List.mem_of_getElem? (i := 4) rfl)
abbrev y_mo_order : MethodName := ⟨"PromotedNumbersModel", "order", "(II)I"⟩
abbrev b_mo_order : ByteArray := prog_10_method_24_code
abbrev m_mo_order : go_M := (y_mo_order, b_mo_order, 3, (some .int))
theorem g_mo_order : go_met m_mo_order 2 := ⟨tw_5_50, tw_1_9, by decide, by decide +kernel⟩
theorem i_mo_order : Cond.instanceMethod m_mo_order.1 ∈ go_T := tw_5_49
theorem v_mo_order : Cond.selects m_mo_order.1.cls m_mo_order.1 m_mo_order.1 ∈ go_T := go_p4 (List.mem_of_getElem? (i := 9) rfl)
abbrev y_mo_formOf : MethodName := ⟨"PromotedNumbersModel", "formOf", "(I)I"⟩
abbrev b_mo_formOf : ByteArray := prog_10_method_25_code
abbrev m_mo_formOf : go_M := (y_mo_formOf, b_mo_formOf, 2, (some .int))
theorem g_mo_formOf : go_met m_mo_formOf 1 := ⟨tw_5_58, tw_1_9, by decide, by decide +kernel⟩
theorem i_mo_formOf : Cond.instanceMethod m_mo_formOf.1 ∈ go_T := tw_5_57
theorem v_mo_formOf : Cond.selects m_mo_formOf.1.cls m_mo_formOf.1 m_mo_formOf.1 ∈ go_T := go_p4 (List.mem_of_getElem? (i := 11) rfl)
abbrev y_mo_type : MethodName := ⟨"PromotedNumbersModel", "type", "(J)Z"⟩
abbrev b_mo_type : ByteArray := prog_10_method_26_code
abbrev m_mo_type : go_M := (y_mo_type, b_mo_type, 6, (some .boolean))
theorem g_mo_type : go_met m_mo_type 1 := ⟨tw_4_136, tw_1_9, by decide, by decide +kernel⟩
theorem i_mo_type : Cond.instanceMethod m_mo_type.1 ∈ go_T := tw_4_134
theorem v_mo_type : Cond.selects m_mo_type.1.cls m_mo_type.1 m_mo_type.1 ∈ go_T := tw_4_135
abbrev y_mo_erase : MethodName := ⟨"PromotedNumbersModel", "erase", "()I"⟩
abbrev b_mo_erase : ByteArray := prog_10_method_27_code
abbrev m_mo_erase : go_M := (y_mo_erase, b_mo_erase, 2, (some .int))
theorem g_mo_erase : go_met m_mo_erase 0 := ⟨tw_4_141, tw_1_9, by decide, by decide +kernel⟩
theorem i_mo_erase : Cond.instanceMethod m_mo_erase.1 ∈ go_T := tw_4_139
theorem v_mo_erase : Cond.selects m_mo_erase.1.cls m_mo_erase.1 m_mo_erase.1 ∈ go_T := tw_4_140
abbrev y_mo_fault : MethodName := ⟨"PromotedNumbersModel", "fault", "()I"⟩
abbrev b_mo_fault : ByteArray := prog_10_method_28_code
abbrev m_mo_fault : go_M := (y_mo_fault, b_mo_fault, 1, (some .int))
theorem g_mo_fault : go_met m_mo_fault 0 := ⟨tw_4_145, tw_1_9, by decide, by decide +kernel⟩
theorem i_mo_fault : Cond.instanceMethod m_mo_fault.1 ∈ go_T := tw_4_143
theorem v_mo_fault : Cond.selects m_mo_fault.1.cls m_mo_fault.1 m_mo_fault.1 ∈ go_T := tw_4_144
abbrev y_mo_charAt : MethodName := ⟨"PromotedNumbersModel", "charAt", "(I)I"⟩
abbrev b_mo_charAt : ByteArray := prog_10_method_29_code
abbrev m_mo_charAt : go_M := (y_mo_charAt, b_mo_charAt, 2, (some .int))
theorem g_mo_charAt : go_met m_mo_charAt 1 := ⟨tw_4_161, tw_1_9, by decide, by decide +kernel⟩
theorem i_mo_charAt : Cond.instanceMethod m_mo_charAt.1 ∈ go_T := tw_4_160
theorem v_mo_charAt : Cond.selects m_mo_charAt.1.cls m_mo_charAt.1 m_mo_charAt.1 ∈ go_T := go_p2 (List.mem_of_getElem? (i := 11) rfl)
abbrev y_mo_isDigit : MethodName := ⟨"PromotedNumbersModel", "isDigit", "(I)Z"⟩
abbrev b_mo_isDigit : ByteArray := prog_10_method_30_code
abbrev m_mo_isDigit : go_M := (y_mo_isDigit, b_mo_isDigit, 2, (some .boolean))
theorem g_mo_isDigit : go_met m_mo_isDigit 1 := ⟨tw_4_168, tw_1_9, by decide, by decide +kernel⟩
theorem i_mo_isDigit : Cond.instanceMethod m_mo_isDigit.1 ∈ go_T := tw_4_167
theorem v_mo_isDigit : Cond.selects m_mo_isDigit.1.cls m_mo_isDigit.1 m_mo_isDigit.1 ∈ go_T := go_p2 (List.mem_of_getElem? (i := 12) rfl)
abbrev y_mo_least : MethodName := ⟨"PromotedNumbersModel", "least", "(I)I"⟩
abbrev b_mo_least : ByteArray := prog_10_method_31_code
abbrev m_mo_least : go_M := (y_mo_least, b_mo_least, 1, (some .int))
theorem g_mo_least : go_met m_mo_least 1 := ⟨tw_4_175, tw_1_9, by decide, by decide +kernel⟩
theorem s_mo_least : Cond.static m_mo_least.1 ∈ go_T := tw_4_174
abbrev y_mo_most : MethodName := ⟨"PromotedNumbersModel", "most", "(I)I"⟩
abbrev b_mo_most : ByteArray := prog_10_method_32_code
abbrev m_mo_most : go_M := (y_mo_most, b_mo_most, 1, (some .int))
theorem g_mo_most : go_met m_mo_most 1 := ⟨tw_4_178, tw_1_9, by decide, by decide +kernel⟩
theorem s_mo_most : Cond.static m_mo_most.1 ∈ go_T := tw_4_177
abbrev y_mo_isOp : MethodName := ⟨"PromotedNumbersModel", "isOp", "(I)Z"⟩
abbrev b_mo_isOp : ByteArray := prog_10_method_33_code
abbrev m_mo_isOp : go_M := (y_mo_isOp, b_mo_isOp, 2, (some .boolean))
theorem g_mo_isOp : go_met m_mo_isOp 1 := ⟨tw_4_164, tw_1_9, by decide, by decide +kernel⟩
theorem s_mo_isOp : Cond.static m_mo_isOp.1 ∈ go_T := tw_4_163
abbrev y_mo_overStart : MethodName := ⟨"PromotedNumbersModel", "overStart", "(I)I"⟩
abbrev b_mo_overStart : ByteArray := prog_10_method_34_code
abbrev m_mo_overStart : go_M := (y_mo_overStart, b_mo_overStart, 4, (some .int))
theorem g_mo_overStart : go_met m_mo_overStart 1 := ⟨tw_4_157, tw_1_9, by decide, by decide +kernel⟩
theorem i_mo_overStart : Cond.instanceMethod m_mo_overStart.1 ∈ go_T := tw_4_156
theorem v_mo_overStart : Cond.selects m_mo_overStart.1.cls m_mo_overStart.1 m_mo_overStart.1 ∈ go_T := go_p2 (List.mem_of_getElem? (i := 10) rfl)
abbrev y_mo_overEnds : MethodName := ⟨"PromotedNumbersModel", "overEnds", "(I)I"⟩
abbrev b_mo_overEnds : ByteArray := prog_10_method_35_code
abbrev m_mo_overEnds : go_M := (y_mo_overEnds, b_mo_overEnds, 3, (some .int))
theorem g_mo_overEnds : go_met m_mo_overEnds 1 := ⟨tw_4_172, tw_1_9, by decide, by decide +kernel⟩
theorem i_mo_overEnds : Cond.instanceMethod m_mo_overEnds.1 ∈ go_T := tw_4_171
theorem v_mo_overEnds : Cond.selects m_mo_overEnds.1.cls m_mo_overEnds.1 m_mo_overEnds.1 ∈ go_T := go_p2 (List.mem_of_getElem? (i := 13) rfl)
abbrev y_mo_faultOf : MethodName := ⟨"PromotedNumbersModel", "faultOf", "()I"⟩
abbrev b_mo_faultOf : ByteArray := prog_10_method_36_code
abbrev m_mo_faultOf : go_M := (y_mo_faultOf, b_mo_faultOf, 2, (some .int))
theorem g_mo_faultOf : go_met m_mo_faultOf 0 := ⟨tw_4_153, tw_1_9, by decide, by decide +kernel⟩
theorem i_mo_faultOf : Cond.instanceMethod m_mo_faultOf.1 ∈ go_T := tw_4_152
theorem v_mo_faultOf : Cond.selects m_mo_faultOf.1.cls m_mo_faultOf.1 m_mo_faultOf.1 ∈ go_T := go_p2 (List.mem_of_getElem? (i := 9) rfl)
abbrev y_mo_skip : MethodName := ⟨"PromotedNumbersModel", "skip", "(I)I"⟩
abbrev b_mo_skip : ByteArray := prog_10_method_37_code
abbrev m_mo_skip : go_M := (y_mo_skip, b_mo_skip, 6, (some .int))
theorem g_mo_skip : go_met m_mo_skip 1 := ⟨tw_5_54, tw_1_9, by decide, by decide +kernel⟩
theorem i_mo_skip : Cond.instanceMethod m_mo_skip.1 ∈ go_T := tw_5_53
theorem v_mo_skip : Cond.selects m_mo_skip.1.cls m_mo_skip.1 m_mo_skip.1 ∈ go_T := go_p4 (List.mem_of_getElem? (i := 10) rfl)
abbrev y_mo_number : MethodName := ⟨"PromotedNumbersModel", "number", "()I"⟩
abbrev b_mo_number : ByteArray := prog_10_method_38_code
abbrev m_mo_number : go_M := (y_mo_number, b_mo_number, 2, (some .int))
theorem g_mo_number : go_met m_mo_number 0 := ⟨tw_4_198, tw_1_9, by decide, by decide +kernel⟩
theorem i_mo_number : Cond.instanceMethod m_mo_number.1 ∈ go_T := tw_4_197
theorem v_mo_number : Cond.selects m_mo_number.1.cls m_mo_number.1 m_mo_number.1 ∈ go_T := go_p3 (List.mem_of_getElem? (i := 2) rfl)
abbrev y_mo_begin : MethodName := ⟨"PromotedNumbersModel", "begin", "()I"⟩
abbrev b_mo_begin : ByteArray := prog_10_method_39_code
abbrev m_mo_begin : go_M := (y_mo_begin, b_mo_begin, 2, (some .int))
theorem g_mo_begin : go_met m_mo_begin 0 := ⟨tw_4_186, tw_1_9, by decide, by decide +kernel⟩
theorem i_mo_begin : Cond.instanceMethod m_mo_begin.1 ∈ go_T := tw_4_185
theorem v_mo_begin : Cond.selects m_mo_begin.1.cls m_mo_begin.1 m_mo_begin.1 ∈ go_T := go_p2 (List.mem_of_getElem? (i := 15) rfl)
abbrev y_mo_goOn : MethodName := ⟨"PromotedNumbersModel", "goOn", "()I"⟩
abbrev b_mo_goOn : ByteArray := prog_10_method_40_code
abbrev m_mo_goOn : go_M := (y_mo_goOn, b_mo_goOn, 5, (some .int))
theorem g_mo_goOn : go_met m_mo_goOn 0 := ⟨tw_4_210, tw_1_9, by decide, by decide +kernel⟩
theorem i_mo_goOn : Cond.instanceMethod m_mo_goOn.1 ∈ go_T := tw_4_209
theorem v_mo_goOn : Cond.selects m_mo_goOn.1.cls m_mo_goOn.1 m_mo_goOn.1 ∈ go_T := go_p3 (List.mem_of_getElem? (i := 5) rfl)
abbrev y_mo_workOut : MethodName := ⟨"PromotedNumbersModel", "workOut", "()I"⟩
abbrev b_mo_workOut : ByteArray := prog_10_method_41_code
abbrev m_mo_workOut : go_M := (y_mo_workOut, b_mo_workOut, 2, (some .int))
theorem g_mo_workOut : go_met m_mo_workOut 0 := ⟨tw_4_182, tw_1_9, by decide, by decide +kernel⟩
theorem i_mo_workOut : Cond.instanceMethod m_mo_workOut.1 ∈ go_T := tw_4_181
theorem v_mo_workOut : Cond.selects m_mo_workOut.1.cls m_mo_workOut.1 m_mo_workOut.1 ∈ go_T := go_p2 (List.mem_of_getElem? (i := 14) rfl)
abbrev y_mo_apply : MethodName := ⟨"PromotedNumbersModel", "apply", "(III)I"⟩
abbrev b_mo_apply : ByteArray := prog_10_method_42_code
abbrev m_mo_apply : go_M := (y_mo_apply, b_mo_apply, 5, (some .int))
theorem g_mo_apply : go_met m_mo_apply 3 := ⟨tw_4_214, tw_1_9, by decide, by decide +kernel⟩
theorem i_mo_apply : Cond.instanceMethod m_mo_apply.1 ∈ go_T := tw_4_213
theorem v_mo_apply : Cond.selects m_mo_apply.1.cls m_mo_apply.1 m_mo_apply.1 ∈ go_T := go_p3 (List.mem_of_getElem? (i := 6) rfl)
abbrev y_mo_chain : MethodName := ⟨"PromotedNumbersModel", "chain", "(IIIII)I"⟩
abbrev b_mo_chain : ByteArray := prog_10_method_43_code
abbrev m_mo_chain : go_M := (y_mo_chain, b_mo_chain, 9, (some .int))
theorem g_mo_chain : go_met m_mo_chain 5 := ⟨tw_4_218, tw_1_9, by decide, by decide +kernel⟩
theorem i_mo_chain : Cond.instanceMethod m_mo_chain.1 ∈ go_T := tw_4_217
theorem v_mo_chain : Cond.selects m_mo_chain.1.cls m_mo_chain.1 m_mo_chain.1 ∈ go_T := go_p3 (List.mem_of_getElem? (i := 7) rfl)
abbrev y_mo_quotient : MethodName := ⟨"PromotedNumbersModel", "quotient", "(IZ)I"⟩
abbrev b_mo_quotient : ByteArray := prog_10_method_44_code
abbrev m_mo_quotient : go_M := (y_mo_quotient, b_mo_quotient, 5, (some .int))
theorem g_mo_quotient : go_met m_mo_quotient 2 := ⟨tw_5_34, tw_1_9, by decide, by decide +kernel⟩
theorem i_mo_quotient : Cond.instanceMethod m_mo_quotient.1 ∈ go_T := tw_5_33
theorem v_mo_quotient : Cond.selects m_mo_quotient.1.cls m_mo_quotient.1 m_mo_quotient.1 ∈ go_T := go_p4 (List.mem_of_getElem? (i := 5) rfl)
abbrev y_mo_divisor : MethodName := ⟨"PromotedNumbersModel", "divisor", "(II)I"⟩
abbrev b_mo_divisor : ByteArray := prog_10_method_45_code
abbrev m_mo_divisor : go_M := (y_mo_divisor, b_mo_divisor, 4, (some .int))
theorem g_mo_divisor : go_met m_mo_divisor 2 := ⟨tw_5_42, tw_1_9, by decide, by decide +kernel⟩
theorem i_mo_divisor : Cond.instanceMethod m_mo_divisor.1 ∈ go_T := tw_5_41
theorem v_mo_divisor : Cond.selects m_mo_divisor.1.cls m_mo_divisor.1 m_mo_divisor.1 ∈ go_T := go_p4 (List.mem_of_getElem? (i := 7) rfl)
abbrev y_mo_power : MethodName := ⟨"PromotedNumbersModel", "power", "(I)I"⟩
abbrev b_mo_power : ByteArray := prog_10_method_46_code
abbrev m_mo_power : go_M := (y_mo_power, b_mo_power, 6, (some .int))
theorem g_mo_power : go_met m_mo_power 1 := ⟨tw_5_46, tw_1_9, by decide, by decide +kernel⟩
theorem i_mo_power : Cond.instanceMethod m_mo_power.1 ∈ go_T := tw_5_45
theorem v_mo_power : Cond.selects m_mo_power.1.cls m_mo_power.1 m_mo_power.1 ∈ go_T := go_p4 (List.mem_of_getElem? (i := 8) rfl)
abbrev y_mo_work : MethodName := ⟨"PromotedNumbersModel", "work", "()I"⟩
abbrev b_mo_work : ByteArray := prog_10_method_47_code
abbrev m_mo_work : go_M := (y_mo_work, b_mo_work, 2, (some .int))
theorem g_mo_work : go_met m_mo_work 0 := ⟨tw_4_149, tw_1_9, by decide, by decide +kernel⟩
theorem i_mo_work : Cond.instanceMethod m_mo_work.1 ∈ go_T := tw_4_147
theorem v_mo_work : Cond.selects m_mo_work.1.cls m_mo_work.1 m_mo_work.1 ∈ go_T := tw_4_148
abbrev y_mo_isVariable : MethodName := ⟨"PromotedNumbersModel", "isVariable", "(I)Z"⟩
abbrev b_mo_isVariable : ByteArray := prog_10_method_48_code
abbrev m_mo_isVariable : go_M := (y_mo_isVariable, b_mo_isVariable, 1, (some .boolean))
theorem g_mo_isVariable : go_met m_mo_isVariable 1 := ⟨tw_5_65, tw_1_9, by decide, by decide +kernel⟩
theorem s_mo_isVariable : Cond.static m_mo_isVariable.1 ∈ go_T := tw_5_64
abbrev y_mo_keep : MethodName := ⟨"PromotedNumbersModel", "keep", "(I)I"⟩
abbrev b_mo_keep : ByteArray := prog_10_method_49_code
abbrev m_mo_keep : go_M := (y_mo_keep, b_mo_keep, 3, (some .int))
theorem g_mo_keep : go_met m_mo_keep 1 := ⟨tw_5_62, tw_1_9, by decide, by decide +kernel⟩
theorem i_mo_keep : Cond.instanceMethod m_mo_keep.1 ∈ go_T := tw_5_60
theorem v_mo_keep : Cond.selects m_mo_keep.1.cls m_mo_keep.1 m_mo_keep.1 ∈ go_T := tw_5_61
abbrev y_mo_form : MethodName := ⟨"PromotedNumbersModel", "form", "()I"⟩
abbrev b_mo_form : ByteArray := prog_10_method_50_code
abbrev m_mo_form : go_M := (y_mo_form, b_mo_form, 1, (some .int))
theorem g_mo_form : go_met m_mo_form 0 := ⟨tw_5_70, tw_1_9, by decide, by decide +kernel⟩
theorem i_mo_form : Cond.instanceMethod m_mo_form.1 ∈ go_T := tw_5_68
theorem v_mo_form : Cond.selects m_mo_form.1.cls m_mo_form.1 m_mo_form.1 ∈ go_T := tw_5_69
abbrev y_mo_sign : MethodName := ⟨"PromotedNumbersModel", "sign", "()I"⟩
abbrev b_mo_sign : ByteArray := prog_10_method_51_code
abbrev m_mo_sign : go_M := (y_mo_sign, b_mo_sign, 1, (some .int))
theorem g_mo_sign : go_met m_mo_sign 0 := ⟨tw_5_74, tw_1_9, by decide, by decide +kernel⟩
theorem i_mo_sign : Cond.instanceMethod m_mo_sign.1 ∈ go_T := tw_5_72
theorem v_mo_sign : Cond.selects m_mo_sign.1.cls m_mo_sign.1 m_mo_sign.1 ∈ go_T := tw_5_73
abbrev y_mo_length : MethodName := ⟨"PromotedNumbersModel", "length", "(I)I"⟩
abbrev b_mo_length : ByteArray := prog_10_method_52_code
abbrev m_mo_length : go_M := (y_mo_length, b_mo_length, 3, (some .int))
theorem g_mo_length : go_met m_mo_length 1 := ⟨tw_5_82, tw_1_9, by decide, by decide +kernel⟩
theorem i_mo_length : Cond.instanceMethod m_mo_length.1 ∈ go_T := tw_5_81
theorem v_mo_length : Cond.selects m_mo_length.1.cls m_mo_length.1 m_mo_length.1 ∈ go_T := go_p4 (List.mem_of_getElem? (i := 12) rfl)
abbrev y_mo_fromEnd : MethodName := ⟨"PromotedNumbersModel", "fromEnd", "(II)I"⟩
abbrev b_mo_fromEnd : ByteArray := prog_10_method_53_code
abbrev m_mo_fromEnd : go_M := (y_mo_fromEnd, b_mo_fromEnd, 5, (some .int))
theorem g_mo_fromEnd : go_met m_mo_fromEnd 2 := ⟨tw_5_86, tw_1_9, by decide, by decide +kernel⟩
theorem i_mo_fromEnd : Cond.instanceMethod m_mo_fromEnd.1 ∈ go_T := tw_5_85
theorem v_mo_fromEnd : Cond.selects m_mo_fromEnd.1.cls m_mo_fromEnd.1 m_mo_fromEnd.1 ∈ go_T := go_p4 (List.mem_of_getElem? (i := 13) rfl)
abbrev y_mo_digit : MethodName := ⟨"PromotedNumbersModel", "digit", "(I)C"⟩
abbrev b_mo_digit : ByteArray := prog_10_method_54_code
abbrev m_mo_digit : go_M := (y_mo_digit, b_mo_digit, 5, (some .char))
theorem g_mo_digit : go_met m_mo_digit 1 := ⟨tw_5_78, tw_1_9, by decide, by decide +kernel⟩
theorem i_mo_digit : Cond.instanceMethod m_mo_digit.1 ∈ go_T := tw_5_76
theorem v_mo_digit : Cond.selects m_mo_digit.1.cls m_mo_digit.1 m_mo_digit.1 ∈ go_T := tw_5_77
abbrev y_mo_bits : MethodName := ⟨"PromotedNumbersModel", "bits", "(II)I"⟩
abbrev b_mo_bits : ByteArray := prog_10_method_55_code
abbrev m_mo_bits : go_M := (y_mo_bits, b_mo_bits, 5, (some .int))
theorem g_mo_bits : go_met m_mo_bits 2 := ⟨tw_5_90, tw_1_9, by decide, by decide +kernel⟩
theorem i_mo_bits : Cond.instanceMethod m_mo_bits.1 ∈ go_T := tw_5_88
theorem v_mo_bits : Cond.selects m_mo_bits.1.cls m_mo_bits.1 m_mo_bits.1 ∈ go_T := tw_5_89
abbrev y_mo_against : MethodName := ⟨"PromotedNumbersModel", "against", "(I)I"⟩
abbrev b_mo_against : ByteArray := prog_10_method_56_code
abbrev m_mo_against : go_M := (y_mo_against, b_mo_against, 2, (some .int))
theorem g_mo_against : go_met m_mo_against 1 := ⟨tw_5_95, tw_1_9, by decide, by decide +kernel⟩
theorem i_mo_against : Cond.instanceMethod m_mo_against.1 ∈ go_T := tw_5_93
theorem v_mo_against : Cond.selects m_mo_against.1.cls m_mo_against.1 m_mo_against.1 ∈ go_T := tw_5_94
abbrev y_mo_fetch : MethodName := ⟨"PromotedNumbersModel", "fetch", "(I)I"⟩
abbrev b_mo_fetch : ByteArray := prog_10_method_57_code
abbrev m_mo_fetch : go_M := (y_mo_fetch, b_mo_fetch, 2, (some .int))
theorem g_mo_fetch : go_met m_mo_fetch 1 := ⟨tw_5_99, tw_1_9, by decide, by decide +kernel⟩
theorem i_mo_fetch : Cond.instanceMethod m_mo_fetch.1 ∈ go_T := tw_5_97
theorem v_mo_fetch : Cond.selects m_mo_fetch.1.cls m_mo_fetch.1 m_mo_fetch.1 ∈ go_T := tw_5_98
abbrev y_ca_init : MethodName := ⟨"PromotedNumbers$Calculator", "<init>", "()V"⟩
abbrev b_ca_init : ByteArray := prog_2_method_1_code
abbrev m_ca_init : go_M := (y_ca_init, b_ca_init, 1, none)
theorem g_ca_init : go_met m_ca_init 0 := ⟨tw_1_129, tw_1_7, by decide, by decide +kernel⟩
theorem i_ca_init : Cond.instanceMethod m_ca_init.1 ∈ go_T := tw_1_128
abbrev y_ca_add : MethodName := ⟨"PromotedNumbers$Calculator", "add", "(LPromotedNumbers$Fraction;LPromotedNumbers$Fraction;Z)I"⟩
abbrev b_ca_add : ByteArray := prog_2_method_2_code
abbrev m_ca_add : go_M := (y_ca_add, b_ca_add, 5, (some .int))
theorem g_ca_add : go_met m_ca_add 3 := ⟨tw_3_143, tw_1_7, by decide, by decide +kernel⟩
theorem i_ca_add : Cond.instanceMethod m_ca_add.1 ∈ go_T := tw_3_141
theorem v_ca_add : Cond.selects m_ca_add.1.cls m_ca_add.1 m_ca_add.1 ∈ go_T := tw_3_142
abbrev y_ca_addSpare : MethodName := ⟨"PromotedNumbers$Calculator", "addSpare", "(ZZ)Z"⟩
abbrev b_ca_addSpare : ByteArray := prog_2_method_3_code
abbrev m_ca_addSpare : go_M := (y_ca_addSpare, b_ca_addSpare, 3, (some .boolean))
theorem g_ca_addSpare : go_met m_ca_addSpare 2 := ⟨tw_3_147, tw_1_7, by decide, by decide +kernel⟩
theorem i_ca_addSpare : Cond.instanceMethod m_ca_addSpare.1 ∈ go_T := tw_3_146
theorem v_ca_addSpare : Cond.selects m_ca_addSpare.1.cls m_ca_addSpare.1 m_ca_addSpare.1 ∈ go_T := go_p1 (List.mem_of_getElem? (i := 13) rfl)
abbrev y_ca_multiply : MethodName := ⟨"PromotedNumbers$Calculator", "multiply", "(LPromotedNumbers$Fraction;LPromotedNumbers$Whole;LPromotedNumbers$Whole;Z)I"⟩
abbrev b_ca_multiply : ByteArray := prog_2_method_4_code
abbrev m_ca_multiply : go_M := (y_ca_multiply, b_ca_multiply, 5, (some .int))
theorem g_ca_multiply : go_met m_ca_multiply 4 := ⟨tw_3_43, tw_1_7, by decide, by decide +kernel⟩
theorem i_ca_multiply : Cond.instanceMethod m_ca_multiply.1 ∈ go_T := tw_3_41
theorem v_ca_multiply : Cond.selects m_ca_multiply.1.cls m_ca_multiply.1 m_ca_multiply.1 ∈ go_T := tw_3_42
abbrev y_ca_divideWhole : MethodName := ⟨"PromotedNumbers$Calculator", "divideWhole", "(LPromotedNumbers$Fraction;LPromotedNumbers$Fraction;Z)I"⟩
abbrev b_ca_divideWhole : ByteArray := prog_2_method_5_code
abbrev m_ca_divideWhole : go_M := (y_ca_divideWhole, b_ca_divideWhole, 4, (some .int))
theorem g_ca_divideWhole : go_met m_ca_divideWhole 3 := ⟨tw_3_159, tw_1_7, by decide, by decide +kernel⟩
theorem i_ca_divideWhole : Cond.instanceMethod m_ca_divideWhole.1 ∈ go_T := tw_3_157
theorem v_ca_divideWhole : Cond.selects m_ca_divideWhole.1.cls m_ca_divideWhole.1 m_ca_divideWhole.1 ∈ go_T := tw_3_158
abbrev y_ca_joinGreatest : MethodName := ⟨"PromotedNumbers$Calculator", "joinGreatest", "(LPromotedNumbers$Fraction;LPromotedNumbers$Fraction;)I"⟩
abbrev b_ca_joinGreatest : ByteArray := prog_2_method_6_code
abbrev m_ca_joinGreatest : go_M := (y_ca_joinGreatest, b_ca_joinGreatest, 3, (some .int))
theorem g_ca_joinGreatest : go_met m_ca_joinGreatest 2 := ⟨tw_3_166, tw_1_7, by decide, by decide +kernel⟩
theorem i_ca_joinGreatest : Cond.instanceMethod m_ca_joinGreatest.1 ∈ go_T := tw_3_164
theorem v_ca_joinGreatest : Cond.selects m_ca_joinGreatest.1.cls m_ca_joinGreatest.1 m_ca_joinGreatest.1 ∈ go_T := tw_3_165
abbrev y_ca_compare : MethodName := ⟨"PromotedNumbers$Calculator", "compare", "(LPromotedNumbers$Fraction;LPromotedNumbers$Fraction;)I"⟩
abbrev b_ca_compare : ByteArray := prog_2_method_7_code
abbrev m_ca_compare : go_M := (y_ca_compare, b_ca_compare, 3, (some .int))
theorem g_ca_compare : go_met m_ca_compare 2 := ⟨tw_3_176, tw_1_7, by decide, by decide +kernel⟩
theorem i_ca_compare : Cond.instanceMethod m_ca_compare.1 ∈ go_T := tw_3_174
theorem v_ca_compare : Cond.selects m_ca_compare.1.cls m_ca_compare.1 m_ca_compare.1 ∈ go_T := tw_3_175
abbrev y_ca_settleAt : MethodName := ⟨"PromotedNumbers$Calculator", "settleAt", "(LPromotedNumbers$Fraction;ZLPromotedNumbers$Whole;)I"⟩
abbrev b_ca_settleAt : ByteArray := prog_2_method_8_code
abbrev m_ca_settleAt : go_M := (y_ca_settleAt, b_ca_settleAt, 4, (some .int))
theorem g_ca_settleAt : go_met m_ca_settleAt 3 := ⟨tw_3_117, tw_1_7, by decide, by decide +kernel⟩
theorem i_ca_settleAt : Cond.instanceMethod m_ca_settleAt.1 ∈ go_T := tw_3_116
theorem v_ca_settleAt : Cond.selects m_ca_settleAt.1.cls m_ca_settleAt.1 m_ca_settleAt.1 ∈ go_T := go_p1 (List.mem_of_getElem? (i := 10) rfl)
abbrev y_di_init : MethodName := ⟨"PromotedNumbers$Divider", "<init>", "()V"⟩
abbrev b_di_init : ByteArray := prog_3_method_1_code
abbrev m_di_init : go_M := (y_di_init, b_di_init, 1, none)
theorem g_di_init : go_met m_di_init 0 := ⟨tw_1_135, tw_1_8, by decide, by decide +kernel⟩
theorem i_di_init : Cond.instanceMethod m_di_init.1 ∈ go_T := tw_1_134
abbrev y_di_divide : MethodName := ⟨"PromotedNumbers$Divider", "divide", "(LPromotedNumbers$Whole;LPromotedNumbers$Whole;LPromotedNumbers$Whole;)V"⟩
abbrev b_di_divide : ByteArray := prog_3_method_2_code
abbrev m_di_divide : go_M := (y_di_divide, b_di_divide, 6, none)
theorem g_di_divide : go_met m_di_divide 3 := ⟨tw_3_89, tw_1_8, by decide, by decide +kernel⟩
theorem i_di_divide : Cond.instanceMethod m_di_divide.1 ∈ go_T := tw_3_87
theorem v_di_divide : Cond.selects m_di_divide.1.cls m_di_divide.1 m_di_divide.1 ∈ go_T := tw_3_88
abbrev y_di_takeAway : MethodName := ⟨"PromotedNumbers$Divider", "takeAway", "(I)I"⟩
abbrev b_di_takeAway : ByteArray := prog_3_method_3_code
abbrev m_di_takeAway : go_M := (y_di_takeAway, b_di_takeAway, 12, (some .int))
theorem g_di_takeAway : go_met m_di_takeAway 1 := ⟨tw_3_95, tw_1_8, by decide, by decide +kernel⟩
theorem i_di_takeAway : Cond.instanceMethod m_di_takeAway.1 ∈ go_T := tw_3_94
theorem v_di_takeAway : Cond.selects m_di_takeAway.1.cls m_di_takeAway.1 m_di_takeAway.1 ∈ go_T := go_p1 (List.mem_of_getElem? (i := 8) rfl)
abbrev y_di_putBack : MethodName := ⟨"PromotedNumbers$Divider", "putBack", "(I)I"⟩
abbrev b_di_putBack : ByteArray := prog_3_method_4_code
abbrev m_di_putBack : go_M := (y_di_putBack, b_di_putBack, 5, (some .int))
theorem g_di_putBack : go_met m_di_putBack 1 := ⟨tw_3_103, tw_1_8, by decide, by decide +kernel⟩
theorem i_di_putBack : Cond.instanceMethod m_di_putBack.1 ∈ go_T := tw_3_102
theorem v_di_putBack : Cond.selects m_di_putBack.1.cls m_di_putBack.1 m_di_putBack.1 ∈ go_T := go_p1 (List.mem_of_getElem? (i := 9) rfl)
abbrev y_di_findGreatest : MethodName := ⟨"PromotedNumbers$Divider", "findGreatest", "(LPromotedNumbers$Whole;LPromotedNumbers$Whole;LPromotedNumbers$Whole;)V"⟩
abbrev b_di_findGreatest : ByteArray := prog_3_method_5_code
abbrev m_di_findGreatest : go_M := (y_di_findGreatest, b_di_findGreatest, 10, none)
theorem g_di_findGreatest : go_met m_di_findGreatest 3 := ⟨tw_3_47, tw_1_8, by decide, by decide +kernel⟩
theorem i_di_findGreatest : Cond.instanceMethod m_di_findGreatest.1 ∈ go_T := tw_3_45
theorem v_di_findGreatest : Cond.selects m_di_findGreatest.1.cls m_di_findGreatest.1 m_di_findGreatest.1 ∈ go_T := tw_3_46
abbrev y_fr_init : MethodName := ⟨"PromotedNumbers$Fraction", "<init>", "()V"⟩
abbrev b_fr_init : ByteArray := prog_4_method_1_code
abbrev m_fr_init : go_M := (y_fr_init, b_fr_init, 1, none)
theorem g_fr_init : go_met m_fr_init 0 := ⟨tw_1_38, tw_1_2, by decide, by decide +kernel⟩
theorem i_fr_init : Cond.instanceMethod m_fr_init.1 ∈ go_T := tw_1_37
abbrev y_fr_become : MethodName := ⟨"PromotedNumbers$Fraction", "become", "(I)V"⟩
abbrev b_fr_become : ByteArray := prog_4_method_2_code
abbrev m_fr_become : go_M := (y_fr_become, b_fr_become, 2, none)
theorem g_fr_become : go_met m_fr_become 1 := ⟨tw_3_39, tw_1_2, by decide, by decide +kernel⟩
theorem i_fr_become : Cond.instanceMethod m_fr_become.1 ∈ go_T := tw_3_37
theorem v_fr_become : Cond.selects m_fr_become.1.cls m_fr_become.1 m_fr_become.1 ∈ go_T := tw_3_38
abbrev y_fr_copy : MethodName := ⟨"PromotedNumbers$Fraction", "copy", "(LPromotedNumbers$Fraction;)V"⟩
abbrev b_fr_copy : ByteArray := prog_4_method_3_code
abbrev m_fr_copy : go_M := (y_fr_copy, b_fr_copy, 2, none)
theorem g_fr_copy : go_met m_fr_copy 1 := ⟨tw_3_134, tw_1_2, by decide, by decide +kernel⟩
theorem i_fr_copy : Cond.instanceMethod m_fr_copy.1 ∈ go_T := tw_3_132
theorem v_fr_copy : Cond.selects m_fr_copy.1.cls m_fr_copy.1 m_fr_copy.1 ∈ go_T := tw_3_133
abbrev y_fr_isWhole : MethodName := ⟨"PromotedNumbers$Fraction", "isWhole", "()Z"⟩
abbrev b_fr_isWhole : ByteArray := prog_4_method_4_code
abbrev m_fr_isWhole : go_M := (y_fr_isWhole, b_fr_isWhole, 1, (some .boolean))
theorem g_fr_isWhole : go_met m_fr_isWhole 0 := ⟨tw_2_23, tw_1_2, by decide, by decide +kernel⟩
theorem i_fr_isWhole : Cond.instanceMethod m_fr_isWhole.1 ∈ go_T := tw_2_21
theorem v_fr_isWhole : Cond.selects m_fr_isWhole.1.cls m_fr_isWhole.1 m_fr_isWhole.1 ∈ go_T := tw_2_22
abbrev y_fr_isZero : MethodName := ⟨"PromotedNumbers$Fraction", "isZero", "()Z"⟩
abbrev b_fr_isZero : ByteArray := prog_4_method_5_code
abbrev m_fr_isZero : go_M := (y_fr_isZero, b_fr_isZero, 1, (some .boolean))
theorem g_fr_isZero : go_met m_fr_isZero 0 := ⟨tw_2_39, tw_1_2, by decide, by decide +kernel⟩
theorem i_fr_isZero : Cond.instanceMethod m_fr_isZero.1 ∈ go_T := tw_2_37
theorem v_fr_isZero : Cond.selects m_fr_isZero.1.cls m_fr_isZero.1 m_fr_isZero.1 ∈ go_T := tw_2_38
abbrev y_fr_side : MethodName := ⟨"PromotedNumbers$Fraction", "side", "()I"⟩
abbrev b_fr_side : ByteArray := prog_4_method_6_code
abbrev m_fr_side : go_M := (y_fr_side, b_fr_side, 1, (some .int))
theorem g_fr_side : go_met m_fr_side 0 := ⟨tw_2_35, tw_1_2, by decide, by decide +kernel⟩
theorem i_fr_side : Cond.instanceMethod m_fr_side.1 ∈ go_T := tw_2_33
theorem v_fr_side : Cond.selects m_fr_side.1.cls m_fr_side.1 m_fr_side.1 ∈ go_T := tw_2_34
abbrev y_fr_kind : MethodName := ⟨"PromotedNumbers$Fraction", "kind", "()I"⟩
abbrev b_fr_kind : ByteArray := prog_4_method_7_code
abbrev m_fr_kind : go_M := (y_fr_kind, b_fr_kind, 2, (some .int))
theorem g_fr_kind : go_met m_fr_kind 0 := ⟨tw_2_19, tw_1_2, by decide, by decide +kernel⟩
theorem i_fr_kind : Cond.instanceMethod m_fr_kind.1 ∈ go_T := tw_2_17
theorem v_fr_kind : Cond.selects m_fr_kind.1.cls m_fr_kind.1 m_fr_kind.1 ∈ go_T := tw_2_18
abbrev y_gr_init : MethodName := ⟨"PromotedNumbers$Grammar", "<init>", "()V"⟩
abbrev b_gr_init : ByteArray := prog_5_method_1_code
abbrev m_gr_init : go_M := (y_gr_init, b_gr_init, 1, none)
theorem g_gr_init : go_met m_gr_init 0 := ⟨tw_1_107, tw_1_5, by decide, by decide +kernel⟩
theorem i_gr_init : Cond.instanceMethod m_gr_init.1 ∈ go_T := tw_1_106
abbrev y_gr_faultOf : MethodName := ⟨"PromotedNumbers$Grammar", "faultOf", "([CI)I"⟩
abbrev b_gr_faultOf : ByteArray := prog_5_method_2_code
abbrev m_gr_faultOf : go_M := (y_gr_faultOf, b_gr_faultOf, 5, (some .int))
theorem g_gr_faultOf : go_met m_gr_faultOf 2 := ⟨tw_2_82, tw_1_5, by decide, by decide +kernel⟩
theorem i_gr_faultOf : Cond.instanceMethod m_gr_faultOf.1 ∈ go_T := tw_2_80
theorem v_gr_faultOf : Cond.selects m_gr_faultOf.1.cls m_gr_faultOf.1 m_gr_faultOf.1 ∈ go_T := tw_2_81
abbrev y_gr_behind : MethodName := ⟨"PromotedNumbers$Grammar", "behind", "(IC)I"⟩
abbrev b_gr_behind : ByteArray := prog_5_method_3_code
abbrev m_gr_behind : go_M := (y_gr_behind, b_gr_behind, 3, (some .int))
theorem g_gr_behind : go_met m_gr_behind 2 := ⟨tw_2_86, tw_1_5, by decide, by decide +kernel⟩
theorem i_gr_behind : Cond.instanceMethod m_gr_behind.1 ∈ go_T := tw_2_85
theorem v_gr_behind : Cond.selects m_gr_behind.1.cls m_gr_behind.1 m_gr_behind.1 ∈ go_T := go_p1 (List.mem_of_getElem? (i := 1) rfl)
abbrev y_gr_behindStart : MethodName := ⟨"PromotedNumbers$Grammar", "behindStart", "(C)I"⟩
abbrev b_gr_behindStart : ByteArray := prog_5_method_4_code
abbrev m_gr_behindStart : go_M := (y_gr_behindStart, b_gr_behindStart, 2, (some .int))
theorem g_gr_behindStart : go_met m_gr_behindStart 1 := ⟨tw_2_90, tw_1_5, by decide, by decide +kernel⟩
theorem i_gr_behindStart : Cond.instanceMethod m_gr_behindStart.1 ∈ go_T := tw_2_89
theorem v_gr_behindStart : Cond.selects m_gr_behindStart.1.cls m_gr_behindStart.1 m_gr_behindStart.1 ∈ go_T := go_p1 (List.mem_of_getElem? (i := 2) rfl)
abbrev y_gr_behindOperator : MethodName := ⟨"PromotedNumbers$Grammar", "behindOperator", "(C)I"⟩
abbrev b_gr_behindOperator : ByteArray := prog_5_method_5_code
abbrev m_gr_behindOperator : go_M := (y_gr_behindOperator, b_gr_behindOperator, 3, (some .int))
theorem g_gr_behindOperator : go_met m_gr_behindOperator 1 := ⟨tw_2_100, tw_1_5, by decide, by decide +kernel⟩
theorem i_gr_behindOperator : Cond.instanceMethod m_gr_behindOperator.1 ∈ go_T := tw_2_99
theorem v_gr_behindOperator : Cond.selects m_gr_behindOperator.1.cls m_gr_behindOperator.1 m_gr_behindOperator.1 ∈ go_T := go_p1 (List.mem_of_getElem? (i := 3) rfl)
abbrev y_gr_behindPart : MethodName := ⟨"PromotedNumbers$Grammar", "behindPart", "(C)I"⟩
abbrev b_gr_behindPart : ByteArray := prog_5_method_6_code
abbrev m_gr_behindPart : go_M := (y_gr_behindPart, b_gr_behindPart, 4, (some .int))
theorem g_gr_behindPart : go_met m_gr_behindPart 1 := ⟨tw_2_191, tw_1_5, by decide, by decide +kernel⟩
theorem i_gr_behindPart : Cond.instanceMethod m_gr_behindPart.1 ∈ go_T := tw_2_190
theorem v_gr_behindPart : Cond.selects m_gr_behindPart.1.cls m_gr_behindPart.1 m_gr_behindPart.1 ∈ go_T := go_p1 (List.mem_of_getElem? (i := 4) rfl)
abbrev y_ma_init : MethodName := ⟨"PromotedNumbers$Machine", "<init>", "()V"⟩
abbrev b_ma_init : ByteArray := prog_6_method_1_code
abbrev m_ma_init : go_M := (y_ma_init, b_ma_init, 2, none)
theorem g_ma_init : go_met m_ma_init 0 := ⟨tw_1_123, tw_1_6, by decide, by decide +kernel⟩
theorem i_ma_init : Cond.instanceMethod m_ma_init.1 ∈ go_T := tw_1_122
abbrev y_ma_value : MethodName := ⟨"PromotedNumbers$Machine", "value", "()LPromotedNumbers$Fraction;"⟩
abbrev b_ma_value : ByteArray := prog_6_method_2_code
abbrev m_ma_value : go_M := (y_ma_value, b_ma_value, 1, (some (.object "PromotedNumbers$Fraction")))
theorem g_ma_value : go_met m_ma_value 0 := ⟨tw_4_8, tw_1_6, by decide, by decide +kernel⟩
theorem i_ma_value : Cond.instanceMethod m_ma_value.1 ∈ go_T := tw_4_6
theorem v_ma_value : Cond.selects m_ma_value.1.cls m_ma_value.1 m_ma_value.1 ∈ go_T := tw_4_7
abbrev y_ma_workOut : MethodName := ⟨"PromotedNumbers$Machine", "workOut", "([CI)I"⟩
abbrev b_ma_workOut : ByteArray := prog_6_method_3_code
abbrev m_ma_workOut : go_M := (y_ma_workOut, b_ma_workOut, 7, (some .int))
theorem g_ma_workOut : go_met m_ma_workOut 2 := ⟨tw_3_25, tw_1_6, by decide, by decide +kernel⟩
theorem i_ma_workOut : Cond.instanceMethod m_ma_workOut.1 ∈ go_T := tw_3_23
theorem v_ma_workOut : Cond.selects m_ma_workOut.1.cls m_ma_workOut.1 m_ma_workOut.1 ∈ go_T := tw_3_24
abbrev y_ma_openBracket : MethodName := ⟨"PromotedNumbers$Machine", "openBracket", "(C)V"⟩
abbrev b_ma_openBracket : ByteArray := prog_6_method_4_code
abbrev m_ma_openBracket : go_M := (y_ma_openBracket, b_ma_openBracket, 2, none)
theorem g_ma_openBracket : go_met m_ma_openBracket 1 := ⟨tw_3_29, tw_1_6, by decide, by decide +kernel⟩
theorem i_ma_openBracket : Cond.instanceMethod m_ma_openBracket.1 ∈ go_T := tw_3_28
theorem v_ma_openBracket : Cond.selects m_ma_openBracket.1.cls m_ma_openBracket.1 m_ma_openBracket.1 ∈ go_T := go_p1 (List.mem_of_getElem? (i := 6) rfl)
abbrev y_ma_closeBracket : MethodName := ⟨"PromotedNumbers$Machine", "closeBracket", "()V"⟩
abbrev b_ma_closeBracket : ByteArray := prog_6_method_5_code
abbrev m_ma_closeBracket : go_M := (y_ma_closeBracket, b_ma_closeBracket, 1, none)
theorem g_ma_closeBracket : go_met m_ma_closeBracket 0 := ⟨tw_3_180, tw_1_6, by decide, by decide +kernel⟩
theorem i_ma_closeBracket : Cond.instanceMethod m_ma_closeBracket.1 ∈ go_T := tw_3_179
theorem v_ma_closeBracket : Cond.selects m_ma_closeBracket.1.cls m_ma_closeBracket.1 m_ma_closeBracket.1 ∈ go_T := go_p1 (List.mem_of_getElem? (i := 15) rfl)
abbrev y_ma_skipsArgument : MethodName := ⟨"PromotedNumbers$Machine", "skipsArgument", "()Z"⟩
abbrev b_ma_skipsArgument : ByteArray := prog_6_method_6_code
abbrev m_ma_skipsArgument : go_M := (y_ma_skipsArgument, b_ma_skipsArgument, 3, (some .boolean))
theorem g_ma_skipsArgument : go_met m_ma_skipsArgument 0 := ⟨tw_3_184, tw_1_6, by decide, by decide +kernel⟩
theorem i_ma_skipsArgument : Cond.instanceMethod m_ma_skipsArgument.1 ∈ go_T := tw_3_183
theorem v_ma_skipsArgument : Cond.selects m_ma_skipsArgument.1.cls m_ma_skipsArgument.1 m_ma_skipsArgument.1 ∈ go_T := go_p2 (List.mem_of_getElem? (i := 0) rfl)
abbrev y_ma_endOfArgument : MethodName := ⟨"PromotedNumbers$Machine", "endOfArgument", "([CII)I"⟩
abbrev b_ma_endOfArgument : ByteArray := prog_6_method_7_code
abbrev m_ma_endOfArgument : go_M := (y_ma_endOfArgument, b_ma_endOfArgument, 7, (some .int))
theorem g_ma_endOfArgument : go_met m_ma_endOfArgument 3 := ⟨tw_3_188, tw_1_6, by decide, by decide +kernel⟩
theorem i_ma_endOfArgument : Cond.instanceMethod m_ma_endOfArgument.1 ∈ go_T := tw_3_187
theorem v_ma_endOfArgument : Cond.selects m_ma_endOfArgument.1.cls m_ma_endOfArgument.1 m_ma_endOfArgument.1 ∈ go_T := go_p2 (List.mem_of_getElem? (i := 1) rfl)
abbrev y_ma_takeNumber : MethodName := ⟨"PromotedNumbers$Machine", "takeNumber", "([CII)I"⟩
abbrev b_ma_takeNumber : ByteArray := prog_6_method_8_code
abbrev m_ma_takeNumber : go_M := (y_ma_takeNumber, b_ma_takeNumber, 6, (some .int))
theorem g_ma_takeNumber : go_met m_ma_takeNumber 3 := ⟨tw_3_193, tw_1_6, by decide, by decide +kernel⟩
theorem i_ma_takeNumber : Cond.instanceMethod m_ma_takeNumber.1 ∈ go_T := tw_3_192
theorem v_ma_takeNumber : Cond.selects m_ma_takeNumber.1.cls m_ma_takeNumber.1 m_ma_takeNumber.1 ∈ go_T := go_p2 (List.mem_of_getElem? (i := 2) rfl)
abbrev y_ma_raise : MethodName := ⟨"PromotedNumbers$Machine", "raise", "()I"⟩
abbrev b_ma_raise : ByteArray := prog_6_method_9_code
abbrev m_ma_raise : go_M := (y_ma_raise, b_ma_raise, 6, (some .int))
theorem g_ma_raise : go_met m_ma_raise 0 := ⟨tw_3_33, tw_1_6, by decide, by decide +kernel⟩
theorem i_ma_raise : Cond.instanceMethod m_ma_raise.1 ∈ go_T := tw_3_32
theorem v_ma_raise : Cond.selects m_ma_raise.1.cls m_ma_raise.1 m_ma_raise.1 ∈ go_T := go_p1 (List.mem_of_getElem? (i := 7) rfl)
abbrev y_ma_fold : MethodName := ⟨"PromotedNumbers$Machine", "fold", "()I"⟩
abbrev b_ma_fold : ByteArray := prog_6_method_10_code
abbrev m_ma_fold : go_M := (y_ma_fold, b_ma_fold, 6, (some .int))
theorem g_ma_fold : go_met m_ma_fold 0 := ⟨tw_3_127, tw_1_6, by decide, by decide +kernel⟩
theorem i_ma_fold : Cond.instanceMethod m_ma_fold.1 ∈ go_T := tw_3_126
theorem v_ma_fold : Cond.selects m_ma_fold.1.cls m_ma_fold.1 m_ma_fold.1 ∈ go_T := go_p1 (List.mem_of_getElem? (i := 11) rfl)
abbrev y_ma_beginsWithFirst : MethodName := ⟨"PromotedNumbers$Machine", "beginsWithFirst", "(CI)Z"⟩
abbrev b_ma_beginsWithFirst : ByteArray := prog_6_method_11_code
abbrev m_ma_beginsWithFirst : go_M := (y_ma_beginsWithFirst, b_ma_beginsWithFirst, 3, (some .boolean))
theorem g_ma_beginsWithFirst : go_met m_ma_beginsWithFirst 2 := ⟨tw_3_130, tw_1_6, by decide, by decide +kernel⟩
theorem s_ma_beginsWithFirst : Cond.static m_ma_beginsWithFirst.1 ∈ go_T := tw_3_129
abbrev y_ma_step : MethodName := ⟨"PromotedNumbers$Machine", "step", "(CLPromotedNumbers$Fraction;)I"⟩
abbrev b_ma_step : ByteArray := prog_6_method_12_code
abbrev m_ma_step : go_M := (y_ma_step, b_ma_step, 3, (some .int))
theorem g_ma_step : go_met m_ma_step 2 := ⟨tw_3_139, tw_1_6, by decide, by decide +kernel⟩
theorem i_ma_step : Cond.instanceMethod m_ma_step.1 ∈ go_T := tw_3_138
theorem v_ma_step : Cond.selects m_ma_step.1.cls m_ma_step.1 m_ma_step.1 ∈ go_T := go_p1 (List.mem_of_getElem? (i := 12) rfl)
abbrev y_ma_replace : MethodName := ⟨"PromotedNumbers$Machine", "replace", "(CLPromotedNumbers$Fraction;)I"⟩
abbrev b_ma_replace : ByteArray := prog_6_method_13_code
abbrev m_ma_replace : go_M := (y_ma_replace, b_ma_replace, 3, (some .int))
theorem g_ma_replace : go_met m_ma_replace 2 := ⟨tw_3_170, tw_1_6, by decide, by decide +kernel⟩
theorem i_ma_replace : Cond.instanceMethod m_ma_replace.1 ∈ go_T := tw_3_169
theorem v_ma_replace : Cond.selects m_ma_replace.1.cls m_ma_replace.1 m_ma_replace.1 ∈ go_T := go_p1 (List.mem_of_getElem? (i := 14) rfl)
abbrev y_wh_init : MethodName := ⟨"PromotedNumbers$Whole", "<init>", "(I)V"⟩
abbrev b_wh_init : ByteArray := prog_7_method_1_code
abbrev m_wh_init : go_M := (y_wh_init, b_wh_init, 2, none)
theorem g_wh_init : go_met m_wh_init 1 := ⟨tw_1_44, tw_1_3, by decide, by decide +kernel⟩
theorem i_wh_init : Cond.instanceMethod m_wh_init.1 ∈ go_T := tw_1_43
abbrev y_wh_become : MethodName := ⟨"PromotedNumbers$Whole", "become", "(I)V"⟩
abbrev b_wh_become : ByteArray := prog_7_method_2_code
abbrev m_wh_become : go_M := (y_wh_become, b_wh_become, 2, none)
theorem g_wh_become : go_met m_wh_become 1 := ⟨tw_1_63, tw_1_3, by decide, by decide +kernel⟩
theorem i_wh_become : Cond.instanceMethod m_wh_become.1 ∈ go_T := tw_1_61
theorem v_wh_become : Cond.selects m_wh_become.1.cls m_wh_become.1 m_wh_become.1 ∈ go_T := tw_1_62
abbrev y_wh_copy : MethodName := ⟨"PromotedNumbers$Whole", "copy", "(LPromotedNumbers$Whole;)V"⟩
abbrev b_wh_copy : ByteArray := prog_7_method_3_code
abbrev m_wh_copy : go_M := (y_wh_copy, b_wh_copy, 2, none)
theorem g_wh_copy : go_met m_wh_copy 1 := ⟨tw_3_52, tw_1_3, by decide, by decide +kernel⟩
theorem i_wh_copy : Cond.instanceMethod m_wh_copy.1 ∈ go_T := tw_3_50
theorem v_wh_copy : Cond.selects m_wh_copy.1.cls m_wh_copy.1 m_wh_copy.1 ∈ go_T := tw_3_51
abbrev y_wh_isZero : MethodName := ⟨"PromotedNumbers$Whole", "isZero", "()Z"⟩
abbrev b_wh_isZero : ByteArray := prog_7_method_4_code
abbrev m_wh_isZero : go_M := (y_wh_isZero, b_wh_isZero, 1, (some .boolean))
theorem g_wh_isZero : go_met m_wh_isZero 0 := ⟨tw_2_43, tw_1_3, by decide, by decide +kernel⟩
theorem i_wh_isZero : Cond.instanceMethod m_wh_isZero.1 ∈ go_T := tw_2_41
theorem v_wh_isZero : Cond.selects m_wh_isZero.1.cls m_wh_isZero.1 m_wh_isZero.1 ∈ go_T := tw_2_42
abbrev y_wh_isOne : MethodName := ⟨"PromotedNumbers$Whole", "isOne", "()Z"⟩
abbrev b_wh_isOne : ByteArray := prog_7_method_5_code
abbrev m_wh_isOne : go_M := (y_wh_isOne, b_wh_isOne, 1, (some .boolean))
theorem g_wh_isOne : go_met m_wh_isOne 0 := ⟨tw_2_27, tw_1_3, by decide, by decide +kernel⟩
theorem i_wh_isOne : Cond.instanceMethod m_wh_isOne.1 ∈ go_T := tw_2_25
theorem v_wh_isOne : Cond.selects m_wh_isOne.1.cls m_wh_isOne.1 m_wh_isOne.1 ∈ go_T := tw_2_26
abbrev y_wh_isTooLarge : MethodName := ⟨"PromotedNumbers$Whole", "isTooLarge", "()Z"⟩
abbrev b_wh_isTooLarge : ByteArray := prog_7_method_6_code
abbrev m_wh_isTooLarge : go_M := (y_wh_isTooLarge, b_wh_isTooLarge, 1, (some .boolean))
theorem g_wh_isTooLarge : go_met m_wh_isTooLarge 0 := ⟨tw_3_121, tw_1_3, by decide, by decide +kernel⟩
theorem i_wh_isTooLarge : Cond.instanceMethod m_wh_isTooLarge.1 ∈ go_T := tw_3_119
theorem v_wh_isTooLarge : Cond.selects m_wh_isTooLarge.1.cls m_wh_isTooLarge.1 m_wh_isTooLarge.1 ∈ go_T := tw_3_120
abbrev y_wh_limb : MethodName := ⟨"PromotedNumbers$Whole", "limb", "(I)I"⟩
abbrev b_wh_limb : ByteArray := prog_7_method_7_code
abbrev m_wh_limb : go_M := (y_wh_limb, b_wh_limb, 2, (some .int))
theorem g_wh_limb : go_met m_wh_limb 1 := ⟨tw_2_63, tw_1_3, by decide, by decide +kernel⟩
theorem i_wh_limb : Cond.instanceMethod m_wh_limb.1 ∈ go_T := tw_2_61
theorem v_wh_limb : Cond.selects m_wh_limb.1.cls m_wh_limb.1 m_wh_limb.1 ∈ go_T := tw_2_62
abbrev y_wh_word : MethodName := ⟨"PromotedNumbers$Whole", "word", "(I)I"⟩
abbrev b_wh_word : ByteArray := prog_7_method_8_code
abbrev m_wh_word : go_M := (y_wh_word, b_wh_word, 5, (some .int))
theorem g_wh_word : go_met m_wh_word 1 := ⟨tw_2_59, tw_1_3, by decide, by decide +kernel⟩
theorem i_wh_word : Cond.instanceMethod m_wh_word.1 ∈ go_T := tw_2_57
theorem v_wh_word : Cond.selects m_wh_word.1.cls m_wh_word.1 m_wh_word.1 ∈ go_T := tw_2_58
abbrev y_wh_compare : MethodName := ⟨"PromotedNumbers$Whole", "compare", "(LPromotedNumbers$Whole;)I"⟩
abbrev b_wh_compare : ByteArray := prog_7_method_9_code
abbrev m_wh_compare : go_M := (y_wh_compare, b_wh_compare, 3, (some .int))
theorem g_wh_compare : go_met m_wh_compare 1 := ⟨tw_3_75, tw_1_3, by decide, by decide +kernel⟩
theorem i_wh_compare : Cond.instanceMethod m_wh_compare.1 ∈ go_T := tw_3_73
theorem v_wh_compare : Cond.selects m_wh_compare.1.cls m_wh_compare.1 m_wh_compare.1 ∈ go_T := tw_3_74
abbrev y_wh_add : MethodName := ⟨"PromotedNumbers$Whole", "add", "(LPromotedNumbers$Whole;)V"⟩
abbrev b_wh_add : ByteArray := prog_7_method_10_code
abbrev m_wh_add : go_M := (y_wh_add, b_wh_add, 6, none)
theorem g_wh_add : go_met m_wh_add 1 := ⟨tw_3_151, tw_1_3, by decide, by decide +kernel⟩
theorem i_wh_add : Cond.instanceMethod m_wh_add.1 ∈ go_T := tw_3_149
theorem v_wh_add : Cond.selects m_wh_add.1.cls m_wh_add.1 m_wh_add.1 ∈ go_T := tw_3_150
abbrev y_wh_subtract : MethodName := ⟨"PromotedNumbers$Whole", "subtract", "(LPromotedNumbers$Whole;)V"⟩
abbrev b_wh_subtract : ByteArray := prog_7_method_11_code
abbrev m_wh_subtract : go_M := (y_wh_subtract, b_wh_subtract, 5, none)
theorem g_wh_subtract : go_met m_wh_subtract 1 := ⟨tw_3_80, tw_1_3, by decide, by decide +kernel⟩
theorem i_wh_subtract : Cond.instanceMethod m_wh_subtract.1 ∈ go_T := tw_3_78
theorem v_wh_subtract : Cond.selects m_wh_subtract.1.cls m_wh_subtract.1 m_wh_subtract.1 ∈ go_T := tw_3_79
abbrev y_wh_becomeProduct : MethodName := ⟨"PromotedNumbers$Whole", "becomeProduct", "(LPromotedNumbers$Whole;LPromotedNumbers$Whole;)V"⟩
abbrev b_wh_becomeProduct : ByteArray := prog_7_method_12_code
abbrev m_wh_becomeProduct : go_M := (y_wh_becomeProduct, b_wh_becomeProduct, 11, none)
theorem g_wh_becomeProduct : go_met m_wh_becomeProduct 2 := ⟨tw_3_113, tw_1_3, by decide, by decide +kernel⟩
theorem i_wh_becomeProduct : Cond.instanceMethod m_wh_becomeProduct.1 ∈ go_T := tw_3_111
theorem v_wh_becomeProduct : Cond.selects m_wh_becomeProduct.1.cls m_wh_becomeProduct.1 m_wh_becomeProduct.1 ∈ go_T := tw_3_112
abbrev y_wh_timesPlus : MethodName := ⟨"PromotedNumbers$Whole", "timesPlus", "(II)V"⟩
abbrev b_wh_timesPlus : ByteArray := prog_7_method_13_code
abbrev m_wh_timesPlus : go_M := (y_wh_timesPlus, b_wh_timesPlus, 8, none)
theorem g_wh_timesPlus : go_met m_wh_timesPlus 2 := ⟨tw_3_84, tw_1_3, by decide, by decide +kernel⟩
theorem i_wh_timesPlus : Cond.instanceMethod m_wh_timesPlus.1 ∈ go_T := tw_3_82
theorem v_wh_timesPlus : Cond.selects m_wh_timesPlus.1.cls m_wh_timesPlus.1 m_wh_timesPlus.1 ∈ go_T := tw_3_83
abbrev y_wh_divideBy : MethodName := ⟨"PromotedNumbers$Whole", "divideBy", "(I)I"⟩
abbrev b_wh_divideBy : ByteArray := prog_7_method_14_code
abbrev m_wh_divideBy : go_M := (y_wh_divideBy, b_wh_divideBy, 7, (some .int))
theorem g_wh_divideBy : go_met m_wh_divideBy 1 := ⟨tw_3_109, tw_1_3, by decide, by decide +kernel⟩
theorem i_wh_divideBy : Cond.instanceMethod m_wh_divideBy.1 ∈ go_T := tw_3_107
theorem v_wh_divideBy : Cond.selects m_wh_divideBy.1.cls m_wh_divideBy.1 m_wh_divideBy.1 ∈ go_T := tw_3_108
abbrev y_wh_dropTwos : MethodName := ⟨"PromotedNumbers$Whole", "dropTwos", "()I"⟩
abbrev b_wh_dropTwos : ByteArray := prog_7_method_15_code
abbrev m_wh_dropTwos : go_M := (y_wh_dropTwos, b_wh_dropTwos, 6, (some .int))
theorem g_wh_dropTwos : go_met m_wh_dropTwos 0 := ⟨tw_3_59, tw_1_3, by decide, by decide +kernel⟩
theorem i_wh_dropTwos : Cond.instanceMethod m_wh_dropTwos.1 ∈ go_T := tw_3_57
theorem v_wh_dropTwos : Cond.selects m_wh_dropTwos.1.cls m_wh_dropTwos.1 m_wh_dropTwos.1 ∈ go_T := tw_3_58
abbrev y_wh_cutTo : MethodName := ⟨"PromotedNumbers$Whole", "cutTo", "(I)V"⟩
abbrev b_wh_cutTo : ByteArray := prog_7_method_16_code
abbrev m_wh_cutTo : go_M := (y_wh_cutTo, b_wh_cutTo, 2, none)
theorem g_wh_cutTo : go_met m_wh_cutTo 1 := ⟨tw_3_70, tw_1_3, by decide, by decide +kernel⟩
theorem i_wh_cutTo : Cond.instanceMethod m_wh_cutTo.1 ∈ go_T := tw_3_68
theorem v_wh_cutTo : Cond.selects m_wh_cutTo.1.cls m_wh_cutTo.1 m_wh_cutTo.1 ∈ go_T := tw_3_69
abbrev y_wr_init : MethodName := ⟨"PromotedNumbers$Writing", "<init>", "()V"⟩
abbrev b_wr_init : ByteArray := prog_8_method_1_code
abbrev m_wr_init : go_M := (y_wr_init, b_wr_init, 1, none)
theorem g_wr_init : go_met m_wr_init 0 := ⟨tw_1_89, tw_1_4, by decide, by decide +kernel⟩
theorem i_wr_init : Cond.instanceMethod m_wr_init.1 ∈ go_T := tw_1_88
abbrev y_wr_write : MethodName := ⟨"PromotedNumbers$Writing", "write", "(LPromotedNumbers$Fraction;)V"⟩
abbrev b_wr_write : ByteArray := prog_8_method_2_code
abbrev m_wr_write : go_M := (y_wr_write, b_wr_write, 2, none)
theorem g_wr_write : go_met m_wr_write 1 := ⟨tw_4_17, tw_1_4, by decide, by decide +kernel⟩
theorem i_wr_write : Cond.instanceMethod m_wr_write.1 ∈ go_T := tw_4_15
theorem v_wr_write : Cond.selects m_wr_write.1.cls m_wr_write.1 m_wr_write.1 ∈ go_T := tw_4_16
abbrev y_wr_character : MethodName := ⟨"PromotedNumbers$Writing", "character", "(I)C"⟩
abbrev b_wr_character : ByteArray := prog_8_method_3_code
abbrev m_wr_character : go_M := (y_wr_character, b_wr_character, 2, (some .char))
theorem g_wr_character : go_met m_wr_character 1 := ⟨tw_2_51, tw_1_4, by decide, by decide +kernel⟩
theorem i_wr_character : Cond.instanceMethod m_wr_character.1 ∈ go_T := tw_2_49
theorem v_wr_character : Cond.selects m_wr_character.1.cls m_wr_character.1 m_wr_character.1 ∈ go_T := tw_2_50
abbrev y_wr_putAmount : MethodName := ⟨"PromotedNumbers$Writing", "putAmount", "(LPromotedNumbers$Whole;)V"⟩
abbrev b_wr_putAmount : ByteArray := prog_8_method_4_code
abbrev m_wr_putAmount : go_M := (y_wr_putAmount, b_wr_putAmount, 3, none)
theorem g_wr_putAmount : go_met m_wr_putAmount 1 := ⟨tw_4_22, tw_1_4, by decide, by decide +kernel⟩
theorem i_wr_putAmount : Cond.instanceMethod m_wr_putAmount.1 ∈ go_T := tw_4_21
theorem v_wr_putAmount : Cond.selects m_wr_putAmount.1.cls m_wr_putAmount.1 m_wr_putAmount.1 ∈ go_T := go_p2 (List.mem_of_getElem? (i := 4) rfl)
abbrev y_wr_put : MethodName := ⟨"PromotedNumbers$Writing", "put", "(C)V"⟩
abbrev b_wr_put : ByteArray := prog_8_method_5_code
abbrev m_wr_put : go_M := (y_wr_put, b_wr_put, 2, none)
theorem g_wr_put : go_met m_wr_put 1 := ⟨tw_4_28, tw_1_4, by decide, by decide +kernel⟩
theorem i_wr_put : Cond.instanceMethod m_wr_put.1 ∈ go_T := tw_4_27
theorem v_wr_put : Cond.selects m_wr_put.1.cls m_wr_put.1 m_wr_put.1 ∈ go_T := go_p2 (List.mem_of_getElem? (i := 5) rfl)
abbrev y_jObject_init : MethodName := ⟨"java/lang/Object", "<init>", "()V"⟩
abbrev b_jObject_init : ByteArray := object_method_1_code
abbrev m_jObject_init : go_M := (y_jObject_init, b_jObject_init, 1, none)
abbrev y_jArithmeticException_init : MethodName := ⟨"java/lang/ArithmeticException", "<init>", "()V"⟩
abbrev b_jArithmeticException_init : ByteArray := prog_11_method_1_code
abbrev m_jArithmeticException_init : go_M := (y_jArithmeticException_init, b_jArithmeticException_init, 1, none)
theorem g_jArithmeticException_init : go_met m_jArithmeticException_init 0 := ⟨tw_3_226, tw_1_23, by decide, by decide +kernel⟩
theorem i_jArithmeticException_init : Cond.instanceMethod m_jArithmeticException_init.1 ∈ go_T := tw_3_225
abbrev y_jCharacter_highSurrogate : MethodName := ⟨"java/lang/Character", "highSurrogate", "(I)C"⟩
abbrev b_jCharacter_highSurrogate : ByteArray := prog_12_method_28_code
abbrev m_jCharacter_highSurrogate : go_M := (y_jCharacter_highSurrogate, b_jCharacter_highSurrogate, 1, (some .char))
theorem g_jCharacter_highSurrogate : go_met m_jCharacter_highSurrogate 1 := ⟨tw_2_182, tw_1_15, by decide, by decide +kernel⟩
theorem s_jCharacter_highSurrogate : Cond.static m_jCharacter_highSurrogate.1 ∈ go_T := tw_2_181
abbrev y_jCharacter_isValidCodePoint : MethodName := ⟨"java/lang/Character", "isValidCodePoint", "(I)Z"⟩
abbrev b_jCharacter_isValidCodePoint : ByteArray := prog_12_method_11_code
abbrev m_jCharacter_isValidCodePoint : go_M := (y_jCharacter_isValidCodePoint, b_jCharacter_isValidCodePoint, 2, (some .boolean))
theorem g_jCharacter_isValidCodePoint : go_met m_jCharacter_isValidCodePoint 1 := ⟨tw_2_179, tw_1_15, by decide, by decide +kernel⟩
theorem s_jCharacter_isValidCodePoint : Cond.static m_jCharacter_isValidCodePoint.1 ∈ go_T := tw_2_178
abbrev y_jCharacter_lowSurrogate : MethodName := ⟨"java/lang/Character", "lowSurrogate", "(I)C"⟩
abbrev b_jCharacter_lowSurrogate : ByteArray := prog_12_method_29_code
abbrev m_jCharacter_lowSurrogate : go_M := (y_jCharacter_lowSurrogate, b_jCharacter_lowSurrogate, 1, (some .char))
theorem g_jCharacter_lowSurrogate : go_met m_jCharacter_lowSurrogate 1 := ⟨tw_2_186, tw_1_15, by decide, by decide +kernel⟩
theorem s_jCharacter_lowSurrogate : Cond.static m_jCharacter_lowSurrogate.1 ∈ go_T := tw_2_185
abbrev y_jException_init : MethodName := ⟨"java/lang/Exception", "<init>", "()V"⟩
abbrev b_jException_init : ByteArray := prog_13_method_1_code
abbrev m_jException_init : go_M := (y_jException_init, b_jException_init, 1, none)
theorem g_jException_init : go_met m_jException_init 0 := ⟨tw_3_7, tw_1_17, by decide, by decide +kernel⟩
theorem i_jException_init : Cond.instanceMethod m_jException_init.1 ∈ go_T := tw_3_6
abbrev y_jIllegalArgumentException_init : MethodName := ⟨"java/lang/IllegalArgumentException", "<init>", "()V"⟩
abbrev b_jIllegalArgumentException_init : ByteArray := prog_14_method_1_code
abbrev m_jIllegalArgumentException_init : go_M := (y_jIllegalArgumentException_init, b_jIllegalArgumentException_init, 1, none)
theorem g_jIllegalArgumentException_init : go_met m_jIllegalArgumentException_init 0 := ⟨tw_3_1, tw_1_19, by decide, by decide +kernel⟩
theorem i_jIllegalArgumentException_init : Cond.instanceMethod m_jIllegalArgumentException_init.1 ∈ go_T := tw_3_0
abbrev y_jIllegalStateException_init : MethodName := ⟨"java/lang/IllegalStateException", "<init>", "()V"⟩
abbrev b_jIllegalStateException_init : ByteArray := prog_15_method_1_code
abbrev m_jIllegalStateException_init : go_M := (y_jIllegalStateException_init, b_jIllegalStateException_init, 1, none)
theorem g_jIllegalStateException_init : go_met m_jIllegalStateException_init 0 := ⟨tw_4_1, tw_1_24, by decide, by decide +kernel⟩
theorem i_jIllegalStateException_init : Cond.instanceMethod m_jIllegalStateException_init.1 ∈ go_T := tw_4_0
abbrev y_jIndexOutOfBoundsException_init : MethodName := ⟨"java/lang/IndexOutOfBoundsException", "<init>", "()V"⟩
abbrev b_jIndexOutOfBoundsException_init : ByteArray := prog_16_method_1_code
abbrev m_jIndexOutOfBoundsException_init : go_M := (y_jIndexOutOfBoundsException_init, b_jIndexOutOfBoundsException_init, 1, none)
theorem g_jIndexOutOfBoundsException_init : go_met m_jIndexOutOfBoundsException_init 0 := ⟨tw_4_52, tw_1_25, by decide, by decide +kernel⟩
theorem i_jIndexOutOfBoundsException_init : Cond.instanceMethod m_jIndexOutOfBoundsException_init.1 ∈ go_T := tw_4_51
abbrev y_jInteger_bitCount : MethodName := ⟨"java/lang/Integer", "bitCount", "(I)I"⟩
abbrev b_jInteger_bitCount : ByteArray := prog_17_method_49_code
abbrev m_jInteger_bitCount : go_M := (y_jInteger_bitCount, b_jInteger_bitCount, 1, (some .int))
theorem g_jInteger_bitCount : go_met m_jInteger_bitCount 1 := ⟨tw_3_62, tw_1_21, by decide, by decide +kernel⟩
theorem s_jInteger_bitCount : Cond.static m_jInteger_bitCount.1 ∈ go_T := tw_3_61
abbrev y_jMath_max : MethodName := ⟨"java/lang/Math", "max", "(II)I"⟩
abbrev b_jMath_max : ByteArray := prog_18_method_65_code
abbrev m_jMath_max : go_M := (y_jMath_max, b_jMath_max, 2, (some .int))
theorem g_jMath_max : go_met m_jMath_max 2 := ⟨tw_2_132, tw_1_12, by decide, by decide +kernel⟩
theorem s_jMath_max : Cond.static m_jMath_max.1 ∈ go_T := tw_2_131
abbrev y_jMath_min0 : MethodName := ⟨"java/lang/Math", "min", "(II)I"⟩
abbrev b_jMath_min0 : ByteArray := prog_18_method_69_code
abbrev m_jMath_min0 : go_M := (y_jMath_min0, b_jMath_min0, 2, (some .int))
theorem g_jMath_min0 : go_met m_jMath_min0 2 := ⟨tw_2_135, tw_1_12, by decide, by decide +kernel⟩
theorem s_jMath_min0 : Cond.static m_jMath_min0.1 ∈ go_T := tw_2_134
abbrev y_jMath_min1 : MethodName := ⟨"java/lang/Math", "min", "(JJ)J"⟩
abbrev b_jMath_min1 : ByteArray := prog_18_method_70_code
abbrev m_jMath_min1 : go_M := (y_jMath_min1, b_jMath_min1, 4, (some .long))
theorem g_jMath_min1 : go_met m_jMath_min1 2 := ⟨tw_3_99, tw_1_12, by decide, by decide +kernel⟩
theorem s_jMath_min1 : Cond.static m_jMath_min1.1 ∈ go_T := tw_3_98
abbrev y_jRuntimeException_init : MethodName := ⟨"java/lang/RuntimeException", "<init>", "()V"⟩
abbrev b_jRuntimeException_init : ByteArray := prog_19_method_1_code
abbrev m_jRuntimeException_init : go_M := (y_jRuntimeException_init, b_jRuntimeException_init, 1, none)
theorem g_jRuntimeException_init : go_met m_jRuntimeException_init 0 := ⟨tw_3_4, tw_1_18, by decide, by decide +kernel⟩
theorem i_jRuntimeException_init : Cond.instanceMethod m_jRuntimeException_init.1 ∈ go_T := tw_3_3
abbrev y_jString_checkBoundsBeginEnd : MethodName := ⟨"java/lang/String", "checkBoundsBeginEnd", "(III)V"⟩
abbrev b_jString_checkBoundsBeginEnd : ByteArray := prog_20_method_158_code
abbrev m_jString_checkBoundsBeginEnd : go_M := (y_jString_checkBoundsBeginEnd, b_jString_checkBoundsBeginEnd, 3, none)
theorem g_jString_checkBoundsBeginEnd : go_met m_jString_checkBoundsBeginEnd 3 := ⟨tw_2_156, tw_1_10, by decide, by decide +kernel⟩
theorem s_jString_checkBoundsBeginEnd : Cond.static m_jString_checkBoundsBeginEnd.1 ∈ go_T := tw_2_155
abbrev y_jString_indexOf0 : MethodName := ⟨"java/lang/String", "indexOf", "(I)I"⟩
abbrev b_jString_indexOf0 : ByteArray := prog_20_method_79_code
abbrev m_jString_indexOf0 : go_M := (y_jString_indexOf0, b_jString_indexOf0, 2, (some .int))
theorem g_jString_indexOf0 : go_met m_jString_indexOf0 1 := ⟨tw_2_105, tw_1_10, by decide, by decide +kernel⟩
theorem i_jString_indexOf0 : Cond.instanceMethod m_jString_indexOf0.1 ∈ go_T := tw_2_103
theorem v_jString_indexOf0 : Cond.selects m_jString_indexOf0.1.cls m_jString_indexOf0.1 m_jString_indexOf0.1 ∈ go_T := tw_2_104
abbrev y_jString_indexOf1 : MethodName := ⟨"java/lang/String", "indexOf", "(II)I"⟩
abbrev b_jString_indexOf1 : ByteArray := prog_20_method_80_code
abbrev m_jString_indexOf1 : go_M := (y_jString_indexOf1, b_jString_indexOf1, 3, (some .int))
theorem g_jString_indexOf1 : go_met m_jString_indexOf1 2 := ⟨tw_2_109, tw_1_10, by decide, by decide +kernel⟩
theorem i_jString_indexOf1 : Cond.instanceMethod m_jString_indexOf1.1 ∈ go_T := tw_2_107
theorem v_jString_indexOf1 : Cond.selects m_jString_indexOf1.1.cls m_jString_indexOf1.1 m_jString_indexOf1.1 ∈ go_T := tw_2_108
abbrev y_jString_isLatin1 : MethodName := ⟨"java/lang/String", "isLatin1", "()Z"⟩
abbrev b_jString_isLatin1 : ByteArray := prog_20_method_154_code
abbrev m_jString_isLatin1 : go_M := (y_jString_isLatin1, b_jString_isLatin1, 1, (some .boolean))
theorem g_jString_isLatin1 : go_met m_jString_isLatin1 0 := ⟨tw_2_113, tw_1_10, by decide, by decide +kernel⟩
theorem i_jString_isLatin1 : Cond.instanceMethod m_jString_isLatin1.1 ∈ go_T := tw_2_111
theorem v_jString_isLatin1 : Cond.selects m_jString_isLatin1.1.cls m_jString_isLatin1.1 m_jString_isLatin1.1 ∈ go_T := tw_2_112
abbrev y_jStringLatin1_canEncode : MethodName := ⟨"java/lang/StringLatin1", "canEncode", "(I)Z"⟩
abbrev b_jStringLatin1_canEncode : ByteArray := prog_21_method_4_code
abbrev m_jStringLatin1_canEncode : go_M := (y_jStringLatin1_canEncode, b_jStringLatin1_canEncode, 1, (some .boolean))
theorem g_jStringLatin1_canEncode : go_met m_jStringLatin1_canEncode 1 := ⟨tw_2_129, tw_1_11, by decide, by decide +kernel⟩
theorem s_jStringLatin1_canEncode : Cond.static m_jStringLatin1_canEncode.1 ∈ go_T := tw_2_128
abbrev y_jStringLatin1_indexOfChar : MethodName := ⟨"java/lang/StringLatin1", "indexOfChar", "([BIII)I"⟩
abbrev b_jStringLatin1_indexOfChar : ByteArray := prog_21_method_23_code
abbrev m_jStringLatin1_indexOfChar : go_M := (y_jStringLatin1_indexOfChar, b_jStringLatin1_indexOfChar, 6, (some .int))
theorem g_jStringLatin1_indexOfChar : go_met m_jStringLatin1_indexOfChar 4 := ⟨tw_2_138, tw_1_11, by decide, by decide +kernel⟩
theorem s_jStringLatin1_indexOfChar : Cond.static m_jStringLatin1_indexOfChar.1 ∈ go_T := tw_2_137
abbrev y_jStringUTF16_checkBoundsBeginEnd : MethodName := ⟨"java/lang/StringUTF16", "checkBoundsBeginEnd", "(II[B)V"⟩
abbrev b_jStringUTF16_checkBoundsBeginEnd : ByteArray := prog_22_method_93_code
abbrev m_jStringUTF16_checkBoundsBeginEnd : go_M := (y_jStringUTF16_checkBoundsBeginEnd, b_jStringUTF16_checkBoundsBeginEnd, 3, none)
theorem g_jStringUTF16_checkBoundsBeginEnd : go_met m_jStringUTF16_checkBoundsBeginEnd 3 := ⟨tw_2_150, tw_1_13, by decide, by decide +kernel⟩
theorem s_jStringUTF16_checkBoundsBeginEnd : Cond.static m_jStringUTF16_checkBoundsBeginEnd.1 ∈ go_T := tw_2_149
abbrev y_jStringUTF16_getChar : MethodName := ⟨"java/lang/StringUTF16", "getChar", "([BI)C"⟩
abbrev b_jStringUTF16_getChar : ByteArray := prog_22_method_5_code
abbrev m_jStringUTF16_getChar : go_M := (y_jStringUTF16_getChar, b_jStringUTF16_getChar, 2, (some .char))
theorem g_jStringUTF16_getChar : go_met m_jStringUTF16_getChar 2 := ⟨tw_2_167, tw_1_13, by decide, by decide +kernel⟩
theorem s_jStringUTF16_getChar : Cond.static m_jStringUTF16_getChar.1 ∈ go_T := tw_2_166
abbrev y_jStringUTF16_indexOfChar : MethodName := ⟨"java/lang/StringUTF16", "indexOfChar", "([BIII)I"⟩
abbrev b_jStringUTF16_indexOfChar : ByteArray := prog_22_method_47_code
abbrev m_jStringUTF16_indexOfChar : go_M := (y_jStringUTF16_indexOfChar, b_jStringUTF16_indexOfChar, 4, (some .int))
theorem g_jStringUTF16_indexOfChar : go_met m_jStringUTF16_indexOfChar 4 := ⟨tw_2_147, tw_1_13, by decide, by decide +kernel⟩
theorem s_jStringUTF16_indexOfChar : Cond.static m_jStringUTF16_indexOfChar.1 ∈ go_T := tw_2_146
abbrev y_jStringUTF16_indexOfCharUnsafe : MethodName := ⟨"java/lang/StringUTF16", "indexOfCharUnsafe", "([BIII)I"⟩
abbrev b_jStringUTF16_indexOfCharUnsafe : ByteArray := prog_22_method_48_code
abbrev m_jStringUTF16_indexOfCharUnsafe : go_M := (y_jStringUTF16_indexOfCharUnsafe, b_jStringUTF16_indexOfCharUnsafe, 5, (some .int))
theorem g_jStringUTF16_indexOfCharUnsafe : go_met m_jStringUTF16_indexOfCharUnsafe 4 := ⟨tw_2_164, tw_1_13, by decide, by decide +kernel⟩
theorem s_jStringUTF16_indexOfCharUnsafe : Cond.static m_jStringUTF16_indexOfCharUnsafe.1 ∈ go_T := tw_2_163
abbrev y_jStringUTF16_indexOfSupplementary : MethodName := ⟨"java/lang/StringUTF16", "indexOfSupplementary", "([BIII)I"⟩
abbrev b_jStringUTF16_indexOfSupplementary : ByteArray := prog_22_method_49_code
abbrev m_jStringUTF16_indexOfSupplementary : go_M := (y_jStringUTF16_indexOfSupplementary, b_jStringUTF16_indexOfSupplementary, 7, (some .int))
theorem g_jStringUTF16_indexOfSupplementary : go_met m_jStringUTF16_indexOfSupplementary 4 := ⟨tw_2_176, tw_1_13, by decide, by decide +kernel⟩
theorem s_jStringUTF16_indexOfSupplementary : Cond.static m_jStringUTF16_indexOfSupplementary.1 ∈ go_T := tw_2_175
abbrev y_jStringUTF16_length : MethodName := ⟨"java/lang/StringUTF16", "length", "([B)I"⟩
abbrev b_jStringUTF16_length : ByteArray := prog_22_method_6_code
abbrev m_jStringUTF16_length : go_M := (y_jStringUTF16_length, b_jStringUTF16_length, 1, (some .int))
theorem g_jStringUTF16_length : go_met m_jStringUTF16_length 1 := ⟨tw_2_153, tw_1_13, by decide, by decide +kernel⟩
theorem s_jStringUTF16_length : Cond.static m_jStringUTF16_length.1 ∈ go_T := tw_2_152
abbrev y_jThrowable_init : MethodName := ⟨"java/lang/Throwable", "<init>", "()V"⟩
abbrev b_jThrowable_init : ByteArray := prog_24_method_1_code
abbrev m_jThrowable_init : go_M := (y_jThrowable_init, b_jThrowable_init, 1, none)
theorem g_jThrowable_init : go_met m_jThrowable_init 0 := ⟨tw_2_220, tw_1_16, by decide, by decide +kernel⟩
theorem i_jThrowable_init : Cond.instanceMethod m_jThrowable_init.1 ∈ go_T := tw_2_219
abbrev y_jUnsupportedOperationException_init : MethodName := ⟨"java/lang/UnsupportedOperationException", "<init>", "()V"⟩
abbrev b_jUnsupportedOperationException_init : ByteArray := prog_25_method_1_code
abbrev m_jUnsupportedOperationException_init : go_M := (y_jUnsupportedOperationException_init, b_jUnsupportedOperationException_init, 1, none)
theorem g_jUnsupportedOperationException_init : go_met m_jUnsupportedOperationException_init 0 := ⟨tw_3_211, tw_1_22, by decide, by decide +kernel⟩
theorem i_jUnsupportedOperationException_init : Cond.instanceMethod m_jUnsupportedOperationException_init.1 ∈ go_T := tw_3_210
theorem l_la_33 : go_lnk "PromotedNumbersLaw" 33 m_pn_init := Or.inl tw_1_28
theorem l_pn_3 : go_lnk "PromotedNumbers" 3 m_jObject_init := Or.inl tw_1_31
theorem l_pn_19 : go_lnk "PromotedNumbers" 19 m_fr_init := Or.inl tw_1_36
theorem l_fr_3 : go_lnk "PromotedNumbers$Fraction" 3 m_jObject_init := Or.inl tw_1_39
theorem l_fr_11 : go_lnk "PromotedNumbers$Fraction" 11 m_wh_init := Or.inl tw_1_42
theorem l_wh_3 : go_lnk "PromotedNumbers$Whole" 3 m_jObject_init := Or.inl tw_1_45
theorem l_fr_23 : go_lnk "PromotedNumbers$Fraction" 23 m_wh_become := Or.inl tw_1_60
theorem l_pn_26 : go_lnk "PromotedNumbers" 26 m_wr_init := Or.inl tw_1_87
theorem l_wr_5 : go_lnk "PromotedNumbers$Writing" 5 m_jObject_init := Or.inl tw_1_90
theorem l_wr_17 : go_lnk "PromotedNumbers$Writing" 17 m_wh_init := Or.inl tw_1_92
theorem l_pn_33 : go_lnk "PromotedNumbers" 33 m_gr_init := Or.inr ⟨_, nw_1_105⟩
theorem l_gr_3 : go_lnk "PromotedNumbers$Grammar" 3 m_jObject_init := Or.inl tw_1_108
theorem l_pn_40 : go_lnk "PromotedNumbers" 40 m_ma_init := Or.inl tw_1_121
theorem l_ma_3 : go_lnk "PromotedNumbers$Machine" 3 m_jObject_init := Or.inl tw_1_124
theorem l_ma_11 : go_lnk "PromotedNumbers$Machine" 11 m_ca_init := Or.inr ⟨_, nw_1_127⟩
theorem l_ca_3 : go_lnk "PromotedNumbers$Calculator" 3 m_jObject_init := Or.inl tw_1_130
theorem l_ca_11 : go_lnk "PromotedNumbers$Calculator" 11 m_di_init := Or.inr ⟨_, nw_1_133⟩
theorem l_di_3 : go_lnk "PromotedNumbers$Divider" 3 m_jObject_init := Or.inl tw_1_136
theorem l_di_11 : go_lnk "PromotedNumbers$Divider" 11 m_wh_init := Or.inl tw_1_138
theorem l_ca_20 : go_lnk "PromotedNumbers$Calculator" 20 m_wh_init := Or.inl tw_1_154
theorem l_ma_27 : go_lnk "PromotedNumbers$Machine" 27 m_fr_init := Or.inl tw_1_179
theorem l_ma_34 : go_lnk "PromotedNumbers$Machine" 34 m_wh_init := Or.inl tw_1_181
theorem l_la_39 : go_lnk "PromotedNumbersLaw" 39 m_pn_type := Or.inl tw_1_237
theorem l_pn_45 : go_lnk "PromotedNumbers" 45 m_pn_characterOf := Or.inl tw_2_1
theorem l_la_44 : go_lnk "PromotedNumbersLaw" 44 m_pn_erase := Or.inl tw_2_4
theorem l_la_48 : go_lnk "PromotedNumbersLaw" 48 m_pn_fault := Or.inl tw_2_8
theorem l_la_65 : go_lnk "PromotedNumbersLaw" 65 m_pn_form := Or.inl tw_2_12
theorem l_pn_82 : go_lnk "PromotedNumbers" 82 m_fr_kind := Or.inl tw_2_16
theorem l_fr_42 : go_lnk "PromotedNumbers$Fraction" 42 m_fr_isWhole := Or.inl tw_2_20
theorem l_fr_34 : go_lnk "PromotedNumbers$Fraction" 34 m_wh_isOne := Or.inl tw_2_24
theorem l_la_69 : go_lnk "PromotedNumbersLaw" 69 m_pn_sign := Or.inl tw_2_28
theorem l_pn_86 : go_lnk "PromotedNumbers" 86 m_fr_side := Or.inl tw_2_32
theorem l_fr_41 : go_lnk "PromotedNumbers$Fraction" 41 m_fr_isZero := Or.inl tw_2_36
theorem l_fr_38 : go_lnk "PromotedNumbers$Fraction" 38 m_wh_isZero := Or.inl tw_2_40
theorem l_la_73 : go_lnk "PromotedNumbersLaw" 73 m_pn_digit := Or.inl tw_2_44
theorem l_pn_89 : go_lnk "PromotedNumbers" 89 m_wr_character := Or.inl tw_2_48
theorem l_la_78 : go_lnk "PromotedNumbersLaw" 78 m_pn_bits := Or.inl tw_2_52
theorem l_pn_97 : go_lnk "PromotedNumbers" 97 m_wh_word := Or.inl tw_2_56
theorem l_wh_25 : go_lnk "PromotedNumbers$Whole" 25 m_wh_limb := Or.inl tw_2_60
theorem l_la_7 : go_lnk "PromotedNumbersLaw" 7 m_pn_work := Or.inl tw_2_71
theorem l_pn_52 : go_lnk "PromotedNumbers" 52 m_pn_requireExpression := Or.inl tw_2_75
theorem l_pn_119 : go_lnk "PromotedNumbers" 119 m_gr_faultOf := Or.inl tw_2_79
theorem l_gr_22 : go_lnk "PromotedNumbers$Grammar" 22 m_gr_behind := Or.inl tw_2_83
theorem l_gr_26 : go_lnk "PromotedNumbers$Grammar" 26 m_gr_behindStart := Or.inl tw_2_87
theorem l_gr_33 : go_lnk "PromotedNumbers$Grammar" 33 m_pn_isDigit := Or.inr ⟨_, nw_2_91⟩
theorem l_gr_40 : go_lnk "PromotedNumbers$Grammar" 40 m_pn_isVariable := Or.inr ⟨_, nw_2_94⟩
theorem l_gr_30 : go_lnk "PromotedNumbers$Grammar" 30 m_gr_behindOperator := Or.inl tw_2_97
theorem l_gr_45 : go_lnk "PromotedNumbers$Grammar" 45 m_jString_indexOf0 := Or.inl tw_2_102
theorem l_jString_633 : go_lnk "java/lang/String" 633 m_jString_indexOf1 := Or.inl tw_2_106
theorem l_jString_492 : go_lnk "java/lang/String" 492 m_jString_isLatin1 := Or.inl tw_2_110
theorem l_jStringLatin1_88 : go_lnk "java/lang/StringLatin1" 88 m_jStringLatin1_canEncode := Or.inl tw_2_127
theorem l_jStringLatin1_92 : go_lnk "java/lang/StringLatin1" 92 m_jMath_max := Or.inl tw_2_130
theorem l_jStringLatin1_38 : go_lnk "java/lang/StringLatin1" 38 m_jMath_min0 := Or.inl tw_2_133
theorem l_jStringLatin1_95 : go_lnk "java/lang/StringLatin1" 95 m_jStringLatin1_indexOfChar := Or.inl tw_2_136
theorem l_jStringUTF16_224 : go_lnk "java/lang/StringUTF16" 224 m_jMath_max := Or.inl tw_2_142
theorem l_jStringUTF16_183 : go_lnk "java/lang/StringUTF16" 183 m_jMath_min0 := Or.inl tw_2_143
theorem l_jStringUTF16_228 : go_lnk "java/lang/StringUTF16" 228 m_jStringUTF16_indexOfChar := Or.inl tw_2_145
theorem l_jStringUTF16_96 : go_lnk "java/lang/StringUTF16" 96 m_jStringUTF16_checkBoundsBeginEnd := Or.inl tw_2_148
theorem l_jStringUTF16_48 : go_lnk "java/lang/StringUTF16" 48 m_jStringUTF16_length := Or.inl tw_2_151
theorem l_jStringUTF16_241 : go_lnk "java/lang/StringUTF16" 241 m_jString_checkBoundsBeginEnd := Or.inl tw_2_154
theorem l_jStringUTF16_244 : go_lnk "java/lang/StringUTF16" 244 m_jStringUTF16_indexOfCharUnsafe := Or.inl tw_2_162
theorem l_jStringUTF16_71 : go_lnk "java/lang/StringUTF16" 71 m_jStringUTF16_getChar := Or.inl tw_2_165
theorem l_jStringUTF16_232 : go_lnk "java/lang/StringUTF16" 232 m_jStringUTF16_indexOfSupplementary := Or.inl tw_2_174
theorem l_jStringUTF16_164 : go_lnk "java/lang/StringUTF16" 164 m_jCharacter_isValidCodePoint := Or.inl tw_2_177
theorem l_jStringUTF16_157 : go_lnk "java/lang/StringUTF16" 157 m_jCharacter_highSurrogate := Or.inl tw_2_180
theorem l_jStringUTF16_161 : go_lnk "java/lang/StringUTF16" 161 m_jCharacter_lowSurrogate := Or.inl tw_2_184
theorem l_gr_37 : go_lnk "PromotedNumbers$Grammar" 37 m_gr_behindPart := Or.inl tw_2_188
theorem l_jThrowable_1 : go_lnk "java/lang/Throwable" 1 m_jObject_init := Or.inl tw_2_221
theorem l_pn_124 : go_lnk "PromotedNumbers" 124 m_jIllegalArgumentException_init := Or.inl tw_2_239
theorem l_jIllegalArgumentException_1 : go_lnk "java/lang/IllegalArgumentException" 1 m_jRuntimeException_init := Or.inl tw_3_2
theorem l_jRuntimeException_1 : go_lnk "java/lang/RuntimeException" 1 m_jException_init := Or.inl tw_3_5
theorem l_jException_1 : go_lnk "java/lang/Exception" 1 m_jThrowable_init := Or.inl tw_3_8
theorem l_pn_55 : go_lnk "PromotedNumbers" 55 m_ma_workOut := Or.inl tw_3_22
theorem l_ma_59 : go_lnk "PromotedNumbers$Machine" 59 m_ma_openBracket := Or.inl tw_3_26
theorem l_ma_63 : go_lnk "PromotedNumbers$Machine" 63 m_ma_raise := Or.inl tw_3_30
theorem l_ma_117 : go_lnk "PromotedNumbers$Machine" 117 m_wh_limb := Or.inl tw_3_34
theorem l_ma_121 : go_lnk "PromotedNumbers$Machine" 121 m_fr_isWhole := Or.inl tw_3_35
theorem l_ma_105 : go_lnk "PromotedNumbers$Machine" 105 m_fr_become := Or.inl tw_3_36
theorem l_ma_130 : go_lnk "PromotedNumbers$Machine" 130 m_ca_multiply := Or.inl tw_3_40
theorem l_ca_47 : go_lnk "PromotedNumbers$Calculator" 47 m_di_findGreatest := Or.inl tw_3_44
theorem l_di_36 : go_lnk "PromotedNumbers$Divider" 36 m_wh_isZero := Or.inl tw_3_48
theorem l_di_29 : go_lnk "PromotedNumbers$Divider" 29 m_wh_copy := Or.inl tw_3_49
theorem l_di_79 : go_lnk "PromotedNumbers$Divider" 79 m_wh_dropTwos := Or.inl tw_3_56
theorem l_wh_42 : go_lnk "PromotedNumbers$Whole" 42 m_jInteger_bitCount := Or.inl tw_3_60
theorem l_wh_36 : go_lnk "PromotedNumbers$Whole" 36 m_wh_cutTo := Or.inl tw_3_67
theorem l_di_83 : go_lnk "PromotedNumbers$Divider" 83 m_jMath_min0 := Or.inl tw_3_71
theorem l_di_40 : go_lnk "PromotedNumbers$Divider" 40 m_wh_compare := Or.inl tw_3_72
theorem l_di_86 : go_lnk "PromotedNumbers$Divider" 86 m_wh_isOne := Or.inl tw_3_76
theorem l_di_89 : go_lnk "PromotedNumbers$Divider" 89 m_wh_subtract := Or.inl tw_3_77
theorem l_di_53 : go_lnk "PromotedNumbers$Divider" 53 m_wh_timesPlus := Or.inl tw_3_81
theorem l_ca_51 : go_lnk "PromotedNumbers$Calculator" 51 m_di_divide := Or.inl tw_3_86
theorem l_di_33 : go_lnk "PromotedNumbers$Divider" 33 m_wh_become := Or.inl tw_3_90
theorem l_di_57 : go_lnk "PromotedNumbers$Divider" 57 m_di_takeAway := Or.inl tw_3_92
theorem l_di_69 : go_lnk "PromotedNumbers$Divider" 69 m_jMath_min1 := Or.inl tw_3_97
theorem l_di_75 : go_lnk "PromotedNumbers$Divider" 75 m_di_putBack := Or.inl tw_3_100
theorem l_di_61 : go_lnk "PromotedNumbers$Divider" 61 m_wh_cutTo := Or.inl tw_3_105
theorem l_di_64 : go_lnk "PromotedNumbers$Divider" 64 m_wh_divideBy := Or.inl tw_3_106
theorem l_ca_57 : go_lnk "PromotedNumbers$Calculator" 57 m_wh_becomeProduct := Or.inl tw_3_110
theorem l_ca_69 : go_lnk "PromotedNumbers$Calculator" 69 m_ca_settleAt := Or.inl tw_3_114
theorem l_ca_100 : go_lnk "PromotedNumbers$Calculator" 100 m_wh_isTooLarge := Or.inl tw_3_118
theorem l_ca_84 : go_lnk "PromotedNumbers$Calculator" 84 m_wh_copy := Or.inl tw_3_122
theorem l_ca_103 : go_lnk "PromotedNumbers$Calculator" 103 m_wh_isZero := Or.inl tw_3_123
theorem l_ma_67 : go_lnk "PromotedNumbers$Machine" 67 m_ma_fold := Or.inl tw_3_124
theorem l_ma_134 : go_lnk "PromotedNumbers$Machine" 134 m_ma_beginsWithFirst := Or.inl tw_3_128
theorem l_ma_85 : go_lnk "PromotedNumbers$Machine" 85 m_fr_copy := Or.inl tw_3_131
theorem l_fr_30 : go_lnk "PromotedNumbers$Fraction" 30 m_wh_copy := Or.inl tw_3_135
theorem l_ma_138 : go_lnk "PromotedNumbers$Machine" 138 m_ma_step := Or.inl tw_3_136
theorem l_ma_142 : go_lnk "PromotedNumbers$Machine" 142 m_ca_add := Or.inl tw_3_140
theorem l_ca_65 : go_lnk "PromotedNumbers$Calculator" 65 m_ca_addSpare := Or.inl tw_3_144
theorem l_ca_73 : go_lnk "PromotedNumbers$Calculator" 73 m_wh_add := Or.inl tw_3_148
theorem l_wh_29 : go_lnk "PromotedNumbers$Whole" 29 m_jMath_max := Or.inl tw_3_152
theorem l_ca_77 : go_lnk "PromotedNumbers$Calculator" 77 m_wh_compare := Or.inl tw_3_153
theorem l_ca_81 : go_lnk "PromotedNumbers$Calculator" 81 m_wh_subtract := Or.inl tw_3_154
theorem l_ma_92 : go_lnk "PromotedNumbers$Machine" 92 m_fr_isZero := Or.inl tw_3_155
theorem l_ma_146 : go_lnk "PromotedNumbers$Machine" 146 m_ca_divideWhole := Or.inl tw_3_156
theorem l_ca_87 : go_lnk "PromotedNumbers$Calculator" 87 m_fr_isWhole := Or.inl tw_3_160
theorem l_ca_91 : go_lnk "PromotedNumbers$Calculator" 91 m_fr_isZero := Or.inl tw_3_161
theorem l_ca_94 : go_lnk "PromotedNumbers$Calculator" 94 m_wh_become := Or.inl tw_3_162
theorem l_ma_149 : go_lnk "PromotedNumbers$Machine" 149 m_ca_joinGreatest := Or.inl tw_3_163
theorem l_ma_153 : go_lnk "PromotedNumbers$Machine" 153 m_ma_replace := Or.inl tw_3_167
theorem l_ma_95 : go_lnk "PromotedNumbers$Machine" 95 m_wh_become := Or.inl tw_3_171
theorem l_ma_109 : go_lnk "PromotedNumbers$Machine" 109 m_wh_copy := Or.inl tw_3_172
theorem l_ma_156 : go_lnk "PromotedNumbers$Machine" 156 m_ca_compare := Or.inl tw_3_173
theorem l_ma_70 : go_lnk "PromotedNumbers$Machine" 70 m_ma_closeBracket := Or.inl tw_3_177
theorem l_ma_73 : go_lnk "PromotedNumbers$Machine" 73 m_ma_skipsArgument := Or.inl tw_3_181
theorem l_ma_77 : go_lnk "PromotedNumbers$Machine" 77 m_ma_endOfArgument := Or.inl tw_3_185
theorem l_ma_81 : go_lnk "PromotedNumbers$Machine" 81 m_pn_isVariable := Or.inr ⟨_, nw_3_189⟩
theorem l_ma_89 : go_lnk "PromotedNumbers$Machine" 89 m_ma_takeNumber := Or.inl tw_3_190
theorem l_ma_98 : go_lnk "PromotedNumbers$Machine" 98 m_wh_timesPlus := Or.inl tw_3_194
theorem l_ma_102 : go_lnk "PromotedNumbers$Machine" 102 m_wh_isTooLarge := Or.inl tw_3_195
theorem l_ma_112 : go_lnk "PromotedNumbers$Machine" 112 m_wh_isZero := Or.inl tw_3_196
theorem l_pn_59 : go_lnk "PromotedNumbers" 59 m_pn_refuse := Or.inl tw_3_197
theorem l_pn_127 : go_lnk "PromotedNumbers" 127 m_jUnsupportedOperationException_init := Or.inl tw_3_209
theorem l_jUnsupportedOperationException_1 : go_lnk "java/lang/UnsupportedOperationException" 1 m_jRuntimeException_init := Or.inl tw_3_212
theorem l_pn_130 : go_lnk "PromotedNumbers" 130 m_jArithmeticException_init := Or.inl tw_3_224
theorem l_jArithmeticException_1 : go_lnk "java/lang/ArithmeticException" 1 m_jRuntimeException_init := Or.inl tw_3_227
theorem l_pn_133 : go_lnk "PromotedNumbers" 133 m_jIllegalStateException_init := Or.inl tw_3_239
theorem l_jIllegalStateException_1 : go_lnk "java/lang/IllegalStateException" 1 m_jRuntimeException_init := Or.inl tw_4_2
theorem l_pn_63 : go_lnk "PromotedNumbers" 63 m_ma_value := Or.inl tw_4_5
theorem l_pn_67 : go_lnk "PromotedNumbers" 67 m_pn_settle := Or.inl tw_4_9
theorem l_pn_78 : go_lnk "PromotedNumbers" 78 m_fr_copy := Or.inl tw_4_13
theorem l_pn_134 : go_lnk "PromotedNumbers" 134 m_wr_write := Or.inl tw_4_14
theorem l_wr_28 : go_lnk "PromotedNumbers$Writing" 28 m_fr_isWhole := Or.inl tw_4_18
theorem l_wr_37 : go_lnk "PromotedNumbers$Writing" 37 m_wr_putAmount := Or.inl tw_4_19
theorem l_wr_52 : go_lnk "PromotedNumbers$Writing" 52 m_wh_copy := Or.inl tw_4_23
theorem l_wr_55 : go_lnk "PromotedNumbers$Writing" 55 m_wh_divideBy := Or.inl tw_4_24
theorem l_wr_41 : go_lnk "PromotedNumbers$Writing" 41 m_wr_put := Or.inl tw_4_25
theorem l_wr_59 : go_lnk "PromotedNumbers$Writing" 59 m_wh_isZero := Or.inl tw_4_29
theorem l_la_21 : go_lnk "PromotedNumbersLaw" 21 m_pn_keep := Or.inl tw_4_34
theorem l_pn_71 : go_lnk "PromotedNumbers" 71 m_pn_requireVariable := Or.inl tw_4_38
theorem l_pn_118 : go_lnk "PromotedNumbers" 118 m_jIndexOutOfBoundsException_init := Or.inl tw_4_50
theorem l_jIndexOutOfBoundsException_1 : go_lnk "java/lang/IndexOutOfBoundsException" 1 m_jRuntimeException_init := Or.inl tw_4_53
theorem l_la_27 : go_lnk "PromotedNumbersLaw" 27 m_pn_against := Or.inl tw_4_59
theorem l_pn_110 : go_lnk "PromotedNumbers" 110 m_ca_compare := Or.inl tw_4_63
theorem l_la_30 : go_lnk "PromotedNumbersLaw" 30 m_pn_fetch := Or.inl tw_4_67
theorem l_la_36 : go_lnk "PromotedNumbersLaw" 36 m_mo_init := Or.inl tw_4_73
theorem l_mo_1 : go_lnk "PromotedNumbersModel" 1 m_jObject_init := Or.inl tw_4_76
theorem l_mo_35 : go_lnk "PromotedNumbersModel" 35 m_mo_set := Or.inl tw_4_77
theorem l_mo_39 : go_lnk "PromotedNumbersModel" 39 m_mo_addTo := Or.inl tw_4_81
theorem l_mo_45 : go_lnk "PromotedNumbersModel" 45 m_mo_trim := Or.inl tw_4_85
theorem l_la_58 : go_lnk "PromotedNumbersLaw" 58 m_mo_thrown := Or.inl tw_4_129
theorem l_la_43 : go_lnk "PromotedNumbersLaw" 43 m_mo_type := Or.inl tw_4_133
theorem l_la_47 : go_lnk "PromotedNumbersLaw" 47 m_mo_erase := Or.inl tw_4_138
theorem l_la_51 : go_lnk "PromotedNumbersLaw" 51 m_mo_fault := Or.inl tw_4_142
theorem l_la_57 : go_lnk "PromotedNumbersLaw" 57 m_mo_work := Or.inl tw_4_146
theorem l_mo_176 : go_lnk "PromotedNumbersModel" 176 m_mo_faultOf := Or.inl tw_4_150
theorem l_mo_115 : go_lnk "PromotedNumbersModel" 115 m_mo_overStart := Or.inl tw_4_154
theorem l_mo_96 : go_lnk "PromotedNumbersModel" 96 m_mo_charAt := Or.inl tw_4_158
theorem l_mo_106 : go_lnk "PromotedNumbersModel" 106 m_mo_isOp := Or.inl tw_4_162
theorem l_mo_109 : go_lnk "PromotedNumbersModel" 109 m_mo_isDigit := Or.inl tw_4_165
theorem l_mo_118 : go_lnk "PromotedNumbersModel" 118 m_mo_overEnds := Or.inl tw_4_169
theorem l_mo_100 : go_lnk "PromotedNumbersModel" 100 m_mo_least := Or.inl tw_4_173
theorem l_mo_112 : go_lnk "PromotedNumbersModel" 112 m_mo_most := Or.inl tw_4_176
theorem l_mo_179 : go_lnk "PromotedNumbersModel" 179 m_mo_workOut := Or.inl tw_4_179
theorem l_mo_141 : go_lnk "PromotedNumbersModel" 141 m_mo_begin := Or.inl tw_4_183
theorem l_mo_127 : go_lnk "PromotedNumbersModel" 127 m_mo_copyValue := Or.inl tw_4_187
theorem l_mo_62 : go_lnk "PromotedNumbersModel" 62 m_mo_copy := Or.inl tw_4_191
theorem l_mo_130 : go_lnk "PromotedNumbersModel" 130 m_mo_number := Or.inl tw_4_195
theorem l_mo_51 : go_lnk "PromotedNumbersModel" 51 m_mo_times := Or.inl tw_4_199
theorem l_mo_55 : go_lnk "PromotedNumbersModel" 55 m_mo_compare := Or.inl tw_4_203
theorem l_mo_144 : go_lnk "PromotedNumbersModel" 144 m_mo_goOn := Or.inl tw_4_207
theorem l_mo_134 : go_lnk "PromotedNumbersModel" 134 m_mo_apply := Or.inl tw_4_211
theorem l_mo_147 : go_lnk "PromotedNumbersModel" 147 m_mo_chain := Or.inl tw_4_215
theorem l_mo_164 : go_lnk "PromotedNumbersModel" 164 m_mo_setValue := Or.inl tw_4_219
theorem l_mo_167 : go_lnk "PromotedNumbersModel" 167 m_mo_sum := Or.inl tw_4_223
theorem l_mo_82 : go_lnk "PromotedNumbersModel" 82 m_mo_multiply := Or.inl tw_4_227
theorem l_mo_85 : go_lnk "PromotedNumbersModel" 85 m_mo_lowest := Or.inl tw_4_231
theorem l_mo_72 : go_lnk "PromotedNumbersModel" 72 m_mo_isOne := Or.inl tw_4_235
theorem l_mo_75 : go_lnk "PromotedNumbersModel" 75 m_mo_common := Or.inl tw_4_239
theorem l_mo_65 : go_lnk "PromotedNumbersModel" 65 m_mo_isEven := Or.inl tw_5_3
theorem l_mo_69 : go_lnk "PromotedNumbersModel" 69 m_mo_divideSmall := Or.inl tw_5_7
theorem l_mo_59 : go_lnk "PromotedNumbersModel" 59 m_mo_takeOff := Or.inl tw_5_11
theorem l_mo_78 : go_lnk "PromotedNumbersModel" 78 m_mo_divide := Or.inl tw_5_15
theorem l_mo_48 : go_lnk "PromotedNumbersModel" 48 m_mo_shift := Or.inl tw_5_19
theorem l_mo_170 : go_lnk "PromotedNumbersModel" 170 m_mo_product := Or.inl tw_5_23
theorem l_mo_173 : go_lnk "PromotedNumbersModel" 173 m_mo_ratio := Or.inl tw_5_27
theorem l_mo_151 : go_lnk "PromotedNumbersModel" 151 m_mo_quotient := Or.inl tw_5_31
theorem l_mo_88 : go_lnk "PromotedNumbersModel" 88 m_mo_isWhole := Or.inl tw_5_35
theorem l_mo_155 : go_lnk "PromotedNumbersModel" 155 m_mo_divisor := Or.inl tw_5_39
theorem l_mo_158 : go_lnk "PromotedNumbersModel" 158 m_mo_power := Or.inl tw_5_43
theorem l_mo_161 : go_lnk "PromotedNumbersModel" 161 m_mo_order := Or.inl tw_5_47
theorem l_mo_138 : go_lnk "PromotedNumbersModel" 138 m_mo_skip := Or.inl tw_5_51
theorem l_mo_182 : go_lnk "PromotedNumbersModel" 182 m_mo_formOf := Or.inl tw_5_55
theorem l_la_64 : go_lnk "PromotedNumbersLaw" 64 m_mo_keep := Or.inl tw_5_59
theorem l_mo_185 : go_lnk "PromotedNumbersModel" 185 m_mo_isVariable := Or.inl tw_5_63
theorem l_mo_188 : go_lnk "PromotedNumbersModel" 188 m_mo_work := Or.inl tw_5_66
theorem l_la_68 : go_lnk "PromotedNumbersLaw" 68 m_mo_form := Or.inl tw_5_67
theorem l_la_72 : go_lnk "PromotedNumbersLaw" 72 m_mo_sign := Or.inl tw_5_71
theorem l_la_77 : go_lnk "PromotedNumbersLaw" 77 m_mo_digit := Or.inl tw_5_75
theorem l_mo_191 : go_lnk "PromotedNumbersModel" 191 m_mo_length := Or.inl tw_5_79
theorem l_mo_194 : go_lnk "PromotedNumbersModel" 194 m_mo_fromEnd := Or.inl tw_5_83
theorem l_la_82 : go_lnk "PromotedNumbersLaw" 82 m_mo_bits := Or.inl tw_5_87
theorem l_la_85 : go_lnk "PromotedNumbersLaw" 85 m_mo_against := Or.inl tw_5_92
theorem l_la_88 : go_lnk "PromotedNumbersLaw" 88 m_mo_fetch := Or.inl tw_5_96
end
section
theorem d_mo_init_0 : decode b_mo_init 0 = .ok (.aload_n 0, 1) := by decide +kernel
theorem d_mo_init_1 : decode b_mo_init 1 = .ok (.invokespecial 1, 3) := by decide +kernel
theorem d_mo_init_4 : decode b_mo_init 4 = .ok (.aload_n 0, 1) := by decide +kernel
theorem d_mo_init_5 : decode b_mo_init 5 = .ok (.bipush 121, 2) := by decide +kernel
theorem d_mo_init_7 : decode b_mo_init 7 = .ok (.newarray .int, 2) := by decide +kernel
theorem d_mo_init_9 : decode b_mo_init 9 = .ok (.putfield 7, 3) := by decide +kernel
theorem d_mo_init_12 : decode b_mo_init 12 = .ok (.aload_n 0, 1) := by decide +kernel
theorem d_mo_init_13 : decode b_mo_init 13 = .ok (.iconst (-1), 1) := by decide +kernel
theorem d_mo_init_14 : decode b_mo_init 14 = .ok (.putfield 13, 3) := by decide +kernel
theorem d_mo_init_17 : decode b_mo_init 17 = .ok (.aload_n 0, 1) := by decide +kernel
theorem d_mo_init_18 : decode b_mo_init 18 = .ok (.sipush 6400, 3) := by decide +kernel
theorem d_mo_init_21 : decode b_mo_init 21 = .ok (.newarray .int, 2) := by decide +kernel
theorem d_mo_init_23 : decode b_mo_init 23 = .ok (.putfield 17, 3) := by decide +kernel
theorem d_mo_init_26 : decode b_mo_init 26 = .ok (.aload_n 0, 1) := by decide +kernel
theorem d_mo_init_27 : decode b_mo_init 27 = .ok (.sipush 160, 3) := by decide +kernel
theorem d_mo_init_30 : decode b_mo_init 30 = .ok (.newarray .int, 2) := by decide +kernel
theorem d_mo_init_32 : decode b_mo_init 32 = .ok (.putfield 20, 3) := by decide +kernel
theorem d_mo_init_35 : decode b_mo_init 35 = .ok (.aload_n 0, 1) := by decide +kernel
theorem d_mo_init_36 : decode b_mo_init 36 = .ok (.bipush 75, 2) := by decide +kernel
theorem d_mo_init_38 : decode b_mo_init 38 = .ok (.newarray .int, 2) := by decide +kernel
theorem d_mo_init_40 : decode b_mo_init 40 = .ok (.putfield 23, 3) := by decide +kernel
theorem d_mo_init_43 : decode b_mo_init 43 = .ok (.aload_n 0, 1) := by decide +kernel
theorem d_mo_init_44 : decode b_mo_init 44 = .ok (.bipush 13, 2) := by decide +kernel
theorem d_mo_init_46 : decode b_mo_init 46 = .ok (.newarray .int, 2) := by decide +kernel
theorem d_mo_init_48 : decode b_mo_init 48 = .ok (.putfield 26, 3) := by decide +kernel
theorem d_mo_init_51 : decode b_mo_init 51 = .ok (.aload_n 0, 1) := by decide +kernel
theorem d_mo_init_52 : decode b_mo_init 52 = .ok (.bipush 13, 2) := by decide +kernel
theorem d_mo_init_54 : decode b_mo_init 54 = .ok (.newarray .int, 2) := by decide +kernel
theorem d_mo_init_56 : decode b_mo_init 56 = .ok (.putfield 29, 3) := by decide +kernel
theorem d_mo_init_59 : decode b_mo_init 59 = .ok (.aload_n 0, 1) := by decide +kernel
theorem d_mo_init_60 : decode b_mo_init 60 = .ok (.bipush 13, 2) := by decide +kernel
theorem d_mo_init_62 : decode b_mo_init 62 = .ok (.newarray .int, 2) := by decide +kernel
theorem d_mo_init_64 : decode b_mo_init 64 = .ok (.putfield 32, 3) := by decide +kernel
theorem d_mo_init_67 : decode b_mo_init 67 = .ok (.iconst 0, 1) := by decide +kernel
theorem d_mo_init_68 : decode b_mo_init 68 = .ok (.istore_n 1, 1) := by decide +kernel
theorem d_mo_init_69 : decode b_mo_init 69 = .ok (.iload_n 1, 1) := by decide +kernel
theorem d_mo_init_70 : decode b_mo_init 70 = .ok (.bipush 75, 2) := by decide +kernel
theorem d_mo_init_72 : decode b_mo_init 72 = .ok (.if_icmp .ge 19, 3) := by decide +kernel
theorem d_mo_init_75 : decode b_mo_init 75 = .ok (.aload_n 0, 1) := by decide +kernel
theorem d_mo_init_76 : decode b_mo_init 76 = .ok (.iconst 2, 1) := by decide +kernel
theorem d_mo_init_77 : decode b_mo_init 77 = .ok (.iload_n 1, 1) := by decide +kernel
theorem d_mo_init_78 : decode b_mo_init 78 = .ok (.imul, 1) := by decide +kernel
theorem d_mo_init_79 : decode b_mo_init 79 = .ok (.iconst 1, 1) := by decide +kernel
theorem d_mo_init_80 : decode b_mo_init 80 = .ok (.iadd, 1) := by decide +kernel
theorem d_mo_init_81 : decode b_mo_init 81 = .ok (.iconst 1, 1) := by decide +kernel
theorem d_mo_init_82 : decode b_mo_init 82 = .ok (.invokevirtual 35, 3) := by decide +kernel
theorem d_mo_init_85 : decode b_mo_init 85 = .ok (.iinc 1 1, 3) := by decide +kernel
theorem d_mo_init_88 : decode b_mo_init 88 = .ok (.goto (-19), 3) := by decide +kernel
theorem d_mo_init_91 : decode b_mo_init 91 = .ok (.aload_n 0, 1) := by decide +kernel
theorem d_mo_init_92 : decode b_mo_init 92 = .ok (.sipush 158, 3) := by decide +kernel
theorem d_mo_init_95 : decode b_mo_init 95 = .ok (.iconst 1, 1) := by decide +kernel
theorem d_mo_init_96 : decode b_mo_init 96 = .ok (.invokevirtual 35, 3) := by decide +kernel
theorem d_mo_init_99 : decode b_mo_init 99 = .ok (.iconst 0, 1) := by decide +kernel
theorem d_mo_init_100 : decode b_mo_init 100 = .ok (.istore_n 1, 1) := by decide +kernel
theorem d_mo_init_101 : decode b_mo_init 101 = .ok (.iload_n 1, 1) := by decide +kernel
theorem d_mo_init_102 : decode b_mo_init 102 = .ok (.sipush 240, 3) := by decide +kernel
theorem d_mo_init_105 : decode b_mo_init 105 = .ok (.if_icmp .ge 19, 3) := by decide +kernel
theorem d_mo_init_108 : decode b_mo_init 108 = .ok (.aload_n 0, 1) := by decide +kernel
theorem d_mo_init_109 : decode b_mo_init 109 = .ok (.sipush 158, 3) := by decide +kernel
theorem d_mo_init_112 : decode b_mo_init 112 = .ok (.sipush 158, 3) := by decide +kernel
theorem d_mo_init_115 : decode b_mo_init 115 = .ok (.invokevirtual 39, 3) := by decide +kernel
theorem d_mo_init_118 : decode b_mo_init 118 = .ok (.iinc 1 1, 3) := by decide +kernel
theorem d_mo_init_121 : decode b_mo_init 121 = .ok (.goto (-20), 3) := by decide +kernel
theorem d_mo_init_124 : decode b_mo_init 124 = .ok (.aload_n 0, 1) := by decide +kernel
theorem d_mo_init_125 : decode b_mo_init 125 = .ok (.sipush 159, 3) := by decide +kernel
theorem d_mo_init_128 : decode b_mo_init 128 = .ok (.iconst 1, 1) := by decide +kernel
theorem d_mo_init_129 : decode b_mo_init 129 = .ok (.invokevirtual 35, 3) := by decide +kernel
theorem d_mo_init_132 : decode b_mo_init 132 = .ok (.iconst 0, 1) := by decide +kernel
theorem d_mo_init_133 : decode b_mo_init 133 = .ok (.istore_n 1, 1) := by decide +kernel
theorem d_mo_init_134 : decode b_mo_init 134 = .ok (.iload_n 1, 1) := by decide +kernel
theorem d_mo_init_135 : decode b_mo_init 135 = .ok (.bipush 62, 2) := by decide +kernel
theorem d_mo_init_137 : decode b_mo_init 137 = .ok (.if_icmp .ge 19, 3) := by decide +kernel
theorem d_mo_init_140 : decode b_mo_init 140 = .ok (.aload_n 0, 1) := by decide +kernel
theorem d_mo_init_141 : decode b_mo_init 141 = .ok (.sipush 159, 3) := by decide +kernel
theorem d_mo_init_144 : decode b_mo_init 144 = .ok (.sipush 159, 3) := by decide +kernel
theorem d_mo_init_147 : decode b_mo_init 147 = .ok (.invokevirtual 39, 3) := by decide +kernel
theorem d_mo_init_150 : decode b_mo_init 150 = .ok (.iinc 1 1, 3) := by decide +kernel
theorem d_mo_init_153 : decode b_mo_init 153 = .ok (.goto (-19), 3) := by decide +kernel
theorem d_mo_init_156 : decode b_mo_init 156 = .ok (.return_, 1) := by decide +kernel
theorem d_mo_thrown_0 : decode b_mo_thrown 0 = .ok (.aload_n 0, 1) := by decide +kernel
theorem d_mo_thrown_1 : decode b_mo_thrown 1 = .ok (.getfield 42, 3) := by decide +kernel
theorem d_mo_thrown_4 : decode b_mo_thrown 4 = .ok (.ireturn, 1) := by decide +kernel
theorem d_mo_set_0 : decode b_mo_set 0 = .ok (.aload_n 0, 1) := by decide +kernel
theorem d_mo_set_1 : decode b_mo_set 1 = .ok (.getfield 17, 3) := by decide +kernel
theorem d_mo_set_4 : decode b_mo_set 4 = .ok (.bipush 40, 2) := by decide +kernel
theorem d_mo_set_6 : decode b_mo_set 6 = .ok (.iload_n 1, 1) := by decide +kernel
theorem d_mo_set_7 : decode b_mo_set 7 = .ok (.imul, 1) := by decide +kernel
theorem d_mo_set_8 : decode b_mo_set 8 = .ok (.iload_n 2, 1) := by decide +kernel
theorem d_mo_set_9 : decode b_mo_set 9 = .ok (.iastore, 1) := by decide +kernel
theorem d_mo_set_10 : decode b_mo_set 10 = .ok (.iconst 1, 1) := by decide +kernel
theorem d_mo_set_11 : decode b_mo_set 11 = .ok (.istore_n 3, 1) := by decide +kernel
theorem d_mo_set_12 : decode b_mo_set 12 = .ok (.iload_n 3, 1) := by decide +kernel
theorem d_mo_set_13 : decode b_mo_set 13 = .ok (.bipush 40, 2) := by decide +kernel
theorem d_mo_set_15 : decode b_mo_set 15 = .ok (.if_icmp .ge 21, 3) := by decide +kernel
theorem d_mo_set_18 : decode b_mo_set 18 = .ok (.aload_n 0, 1) := by decide +kernel
theorem d_mo_set_19 : decode b_mo_set 19 = .ok (.getfield 17, 3) := by decide +kernel
theorem d_mo_set_22 : decode b_mo_set 22 = .ok (.bipush 40, 2) := by decide +kernel
theorem d_mo_set_24 : decode b_mo_set 24 = .ok (.iload_n 1, 1) := by decide +kernel
theorem d_mo_set_25 : decode b_mo_set 25 = .ok (.imul, 1) := by decide +kernel
theorem d_mo_set_26 : decode b_mo_set 26 = .ok (.iload_n 3, 1) := by decide +kernel
theorem d_mo_set_27 : decode b_mo_set 27 = .ok (.iadd, 1) := by decide +kernel
theorem d_mo_set_28 : decode b_mo_set 28 = .ok (.iconst 0, 1) := by decide +kernel
theorem d_mo_set_29 : decode b_mo_set 29 = .ok (.iastore, 1) := by decide +kernel
theorem d_mo_set_30 : decode b_mo_set 30 = .ok (.iinc 3 1, 3) := by decide +kernel
theorem d_mo_set_33 : decode b_mo_set 33 = .ok (.goto (-21), 3) := by decide +kernel
theorem d_mo_set_36 : decode b_mo_set 36 = .ok (.aload_n 0, 1) := by decide +kernel
theorem d_mo_set_37 : decode b_mo_set 37 = .ok (.getfield 20, 3) := by decide +kernel
theorem d_mo_set_40 : decode b_mo_set 40 = .ok (.iload_n 1, 1) := by decide +kernel
theorem d_mo_set_41 : decode b_mo_set 41 = .ok (.iload_n 2, 1) := by decide +kernel
theorem d_mo_set_42 : decode b_mo_set 42 = .ok (.ifCond .ne 7, 3) := by decide +kernel
theorem d_mo_set_45 : decode b_mo_set 45 = .ok (.iconst 0, 1) := by decide +kernel
theorem d_mo_set_46 : decode b_mo_set 46 = .ok (.goto 4, 3) := by decide +kernel
theorem d_mo_set_49 : decode b_mo_set 49 = .ok (.iconst 1, 1) := by decide +kernel
theorem d_mo_set_50 : decode b_mo_set 50 = .ok (.iastore, 1) := by decide +kernel
theorem d_mo_set_51 : decode b_mo_set 51 = .ok (.return_, 1) := by decide +kernel
theorem d_mo_copy_0 : decode b_mo_copy 0 = .ok (.iconst 0, 1) := by decide +kernel
theorem d_mo_copy_1 : decode b_mo_copy 1 = .ok (.istore_n 3, 1) := by decide +kernel
theorem d_mo_copy_2 : decode b_mo_copy 2 = .ok (.iload_n 3, 1) := by decide +kernel
theorem d_mo_copy_3 : decode b_mo_copy 3 = .ok (.bipush 40, 2) := by decide +kernel
theorem d_mo_copy_5 : decode b_mo_copy 5 = .ok (.if_icmp .ge 31, 3) := by decide +kernel
theorem d_mo_copy_8 : decode b_mo_copy 8 = .ok (.aload_n 0, 1) := by decide +kernel
theorem d_mo_copy_9 : decode b_mo_copy 9 = .ok (.getfield 17, 3) := by decide +kernel
theorem d_mo_copy_12 : decode b_mo_copy 12 = .ok (.bipush 40, 2) := by decide +kernel
theorem d_mo_copy_14 : decode b_mo_copy 14 = .ok (.iload_n 2, 1) := by decide +kernel
theorem d_mo_copy_15 : decode b_mo_copy 15 = .ok (.imul, 1) := by decide +kernel
theorem d_mo_copy_16 : decode b_mo_copy 16 = .ok (.iload_n 3, 1) := by decide +kernel
theorem d_mo_copy_17 : decode b_mo_copy 17 = .ok (.iadd, 1) := by decide +kernel
theorem d_mo_copy_18 : decode b_mo_copy 18 = .ok (.aload_n 0, 1) := by decide +kernel
theorem d_mo_copy_19 : decode b_mo_copy 19 = .ok (.getfield 17, 3) := by decide +kernel
theorem d_mo_copy_22 : decode b_mo_copy 22 = .ok (.bipush 40, 2) := by decide +kernel
theorem d_mo_copy_24 : decode b_mo_copy 24 = .ok (.iload_n 1, 1) := by decide +kernel
theorem d_mo_copy_25 : decode b_mo_copy 25 = .ok (.imul, 1) := by decide +kernel
theorem d_mo_copy_26 : decode b_mo_copy 26 = .ok (.iload_n 3, 1) := by decide +kernel
theorem d_mo_copy_27 : decode b_mo_copy 27 = .ok (.iadd, 1) := by decide +kernel
theorem d_mo_copy_28 : decode b_mo_copy 28 = .ok (.iaload, 1) := by decide +kernel
theorem d_mo_copy_29 : decode b_mo_copy 29 = .ok (.iastore, 1) := by decide +kernel
theorem d_mo_copy_30 : decode b_mo_copy 30 = .ok (.iinc 3 1, 3) := by decide +kernel
theorem d_mo_copy_33 : decode b_mo_copy 33 = .ok (.goto (-31), 3) := by decide +kernel
theorem d_mo_copy_36 : decode b_mo_copy 36 = .ok (.aload_n 0, 1) := by decide +kernel
theorem d_mo_copy_37 : decode b_mo_copy 37 = .ok (.getfield 20, 3) := by decide +kernel
theorem d_mo_copy_40 : decode b_mo_copy 40 = .ok (.iload_n 2, 1) := by decide +kernel
theorem d_mo_copy_41 : decode b_mo_copy 41 = .ok (.aload_n 0, 1) := by decide +kernel
theorem d_mo_copy_42 : decode b_mo_copy 42 = .ok (.getfield 20, 3) := by decide +kernel
theorem d_mo_copy_45 : decode b_mo_copy 45 = .ok (.iload_n 1, 1) := by decide +kernel
theorem d_mo_copy_46 : decode b_mo_copy 46 = .ok (.iaload, 1) := by decide +kernel
theorem d_mo_copy_47 : decode b_mo_copy 47 = .ok (.iastore, 1) := by decide +kernel
theorem d_mo_copy_48 : decode b_mo_copy 48 = .ok (.return_, 1) := by decide +kernel
theorem d_mo_trim_0 : decode b_mo_trim 0 = .ok (.iload_n 2, 1) := by decide +kernel
theorem d_mo_trim_1 : decode b_mo_trim 1 = .ok (.istore_n 3, 1) := by decide +kernel
theorem d_mo_trim_2 : decode b_mo_trim 2 = .ok (.iload_n 3, 1) := by decide +kernel
theorem d_mo_trim_3 : decode b_mo_trim 3 = .ok (.ifCond .le 26, 3) := by decide +kernel
theorem d_mo_trim_6 : decode b_mo_trim 6 = .ok (.aload_n 0, 1) := by decide +kernel
theorem d_mo_trim_7 : decode b_mo_trim 7 = .ok (.getfield 17, 3) := by decide +kernel
theorem d_mo_trim_10 : decode b_mo_trim 10 = .ok (.bipush 40, 2) := by decide +kernel
theorem d_mo_trim_12 : decode b_mo_trim 12 = .ok (.iload_n 1, 1) := by decide +kernel
theorem d_mo_trim_13 : decode b_mo_trim 13 = .ok (.imul, 1) := by decide +kernel
theorem d_mo_trim_14 : decode b_mo_trim 14 = .ok (.iload_n 3, 1) := by decide +kernel
theorem d_mo_trim_15 : decode b_mo_trim 15 = .ok (.iadd, 1) := by decide +kernel
theorem d_mo_trim_16 : decode b_mo_trim 16 = .ok (.iconst 1, 1) := by decide +kernel
theorem d_mo_trim_17 : decode b_mo_trim 17 = .ok (.isub, 1) := by decide +kernel
theorem d_mo_trim_18 : decode b_mo_trim 18 = .ok (.iaload, 1) := by decide +kernel
theorem d_mo_trim_19 : decode b_mo_trim 19 = .ok (.ifCond .ne 10, 3) := by decide +kernel
theorem d_mo_trim_22 : decode b_mo_trim 22 = .ok (.iload_n 3, 1) := by decide +kernel
theorem d_mo_trim_23 : decode b_mo_trim 23 = .ok (.iconst 1, 1) := by decide +kernel
theorem d_mo_trim_24 : decode b_mo_trim 24 = .ok (.isub, 1) := by decide +kernel
theorem d_mo_trim_25 : decode b_mo_trim 25 = .ok (.istore_n 3, 1) := by decide +kernel
theorem d_mo_trim_26 : decode b_mo_trim 26 = .ok (.goto (-24), 3) := by decide +kernel
theorem d_mo_trim_29 : decode b_mo_trim 29 = .ok (.aload_n 0, 1) := by decide +kernel
theorem d_mo_trim_30 : decode b_mo_trim 30 = .ok (.getfield 20, 3) := by decide +kernel
theorem d_mo_trim_33 : decode b_mo_trim 33 = .ok (.iload_n 1, 1) := by decide +kernel
theorem d_mo_trim_34 : decode b_mo_trim 34 = .ok (.iload_n 3, 1) := by decide +kernel
theorem d_mo_trim_35 : decode b_mo_trim 35 = .ok (.iastore, 1) := by decide +kernel
theorem d_mo_trim_36 : decode b_mo_trim 36 = .ok (.return_, 1) := by decide +kernel
theorem d_mo_compare_0 : decode b_mo_compare 0 = .ok (.aload_n 0, 1) := by decide +kernel
theorem d_mo_compare_1 : decode b_mo_compare 1 = .ok (.getfield 20, 3) := by decide +kernel
theorem d_mo_compare_4 : decode b_mo_compare 4 = .ok (.iload_n 1, 1) := by decide +kernel
theorem d_mo_compare_5 : decode b_mo_compare 5 = .ok (.iaload, 1) := by decide +kernel
theorem d_mo_compare_6 : decode b_mo_compare 6 = .ok (.aload_n 0, 1) := by decide +kernel
theorem d_mo_compare_7 : decode b_mo_compare 7 = .ok (.getfield 20, 3) := by decide +kernel
theorem d_mo_compare_10 : decode b_mo_compare 10 = .ok (.iload_n 2, 1) := by decide +kernel
theorem d_mo_compare_11 : decode b_mo_compare 11 = .ok (.iaload, 1) := by decide +kernel
theorem d_mo_compare_12 : decode b_mo_compare 12 = .ok (.if_icmp .eq 24, 3) := by decide +kernel
theorem d_mo_compare_15 : decode b_mo_compare 15 = .ok (.aload_n 0, 1) := by decide +kernel
theorem d_mo_compare_16 : decode b_mo_compare 16 = .ok (.getfield 20, 3) := by decide +kernel
theorem d_mo_compare_19 : decode b_mo_compare 19 = .ok (.iload_n 1, 1) := by decide +kernel
theorem d_mo_compare_20 : decode b_mo_compare 20 = .ok (.iaload, 1) := by decide +kernel
theorem d_mo_compare_21 : decode b_mo_compare 21 = .ok (.aload_n 0, 1) := by decide +kernel
theorem d_mo_compare_22 : decode b_mo_compare 22 = .ok (.getfield 20, 3) := by decide +kernel
theorem d_mo_compare_25 : decode b_mo_compare 25 = .ok (.iload_n 2, 1) := by decide +kernel
theorem d_mo_compare_26 : decode b_mo_compare 26 = .ok (.iaload, 1) := by decide +kernel
theorem d_mo_compare_27 : decode b_mo_compare 27 = .ok (.if_icmp .ge 7, 3) := by decide +kernel
theorem d_mo_compare_30 : decode b_mo_compare 30 = .ok (.iconst (-1), 1) := by decide +kernel
theorem d_mo_compare_31 : decode b_mo_compare 31 = .ok (.goto 4, 3) := by decide +kernel
theorem d_mo_compare_34 : decode b_mo_compare 34 = .ok (.iconst 1, 1) := by decide +kernel
theorem d_mo_compare_35 : decode b_mo_compare 35 = .ok (.ireturn, 1) := by decide +kernel
theorem d_mo_compare_36 : decode b_mo_compare 36 = .ok (.aload_n 0, 1) := by decide +kernel
theorem d_mo_compare_37 : decode b_mo_compare 37 = .ok (.getfield 20, 3) := by decide +kernel
theorem d_mo_compare_40 : decode b_mo_compare 40 = .ok (.iload_n 1, 1) := by decide +kernel
theorem d_mo_compare_41 : decode b_mo_compare 41 = .ok (.iaload, 1) := by decide +kernel
theorem d_mo_compare_42 : decode b_mo_compare 42 = .ok (.iconst 1, 1) := by decide +kernel
theorem d_mo_compare_43 : decode b_mo_compare 43 = .ok (.isub, 1) := by decide +kernel
theorem d_mo_compare_44 : decode b_mo_compare 44 = .ok (.istore_n 3, 1) := by decide +kernel
theorem d_mo_compare_45 : decode b_mo_compare 45 = .ok (.iload_n 3, 1) := by decide +kernel
theorem d_mo_compare_46 : decode b_mo_compare 46 = .ok (.ifCond .lt 35, 3) := by decide +kernel
theorem d_mo_compare_49 : decode b_mo_compare 49 = .ok (.aload_n 0, 1) := by decide +kernel
theorem d_mo_compare_50 : decode b_mo_compare 50 = .ok (.getfield 17, 3) := by decide +kernel
theorem d_mo_compare_53 : decode b_mo_compare 53 = .ok (.bipush 40, 2) := by decide +kernel
theorem d_mo_compare_55 : decode b_mo_compare 55 = .ok (.iload_n 1, 1) := by decide +kernel
theorem d_mo_compare_56 : decode b_mo_compare 56 = .ok (.imul, 1) := by decide +kernel
theorem d_mo_compare_57 : decode b_mo_compare 57 = .ok (.iload_n 3, 1) := by decide +kernel
theorem d_mo_compare_58 : decode b_mo_compare 58 = .ok (.iadd, 1) := by decide +kernel
theorem d_mo_compare_59 : decode b_mo_compare 59 = .ok (.iaload, 1) := by decide +kernel
theorem d_mo_compare_60 : decode b_mo_compare 60 = .ok (.aload_n 0, 1) := by decide +kernel
theorem d_mo_compare_61 : decode b_mo_compare 61 = .ok (.getfield 17, 3) := by decide +kernel
theorem d_mo_compare_64 : decode b_mo_compare 64 = .ok (.bipush 40, 2) := by decide +kernel
theorem d_mo_compare_66 : decode b_mo_compare 66 = .ok (.iload_n 2, 1) := by decide +kernel
theorem d_mo_compare_67 : decode b_mo_compare 67 = .ok (.imul, 1) := by decide +kernel
theorem d_mo_compare_68 : decode b_mo_compare 68 = .ok (.iload_n 3, 1) := by decide +kernel
theorem d_mo_compare_69 : decode b_mo_compare 69 = .ok (.iadd, 1) := by decide +kernel
theorem d_mo_compare_70 : decode b_mo_compare 70 = .ok (.iaload, 1) := by decide +kernel
theorem d_mo_compare_71 : decode b_mo_compare 71 = .ok (.if_icmp .ne 10, 3) := by decide +kernel
theorem d_mo_compare_74 : decode b_mo_compare 74 = .ok (.iload_n 3, 1) := by decide +kernel
theorem d_mo_compare_75 : decode b_mo_compare 75 = .ok (.iconst 1, 1) := by decide +kernel
theorem d_mo_compare_76 : decode b_mo_compare 76 = .ok (.isub, 1) := by decide +kernel
theorem d_mo_compare_77 : decode b_mo_compare 77 = .ok (.istore_n 3, 1) := by decide +kernel
theorem d_mo_compare_78 : decode b_mo_compare 78 = .ok (.goto (-33), 3) := by decide +kernel
theorem d_mo_compare_81 : decode b_mo_compare 81 = .ok (.iload_n 3, 1) := by decide +kernel
theorem d_mo_compare_82 : decode b_mo_compare 82 = .ok (.ifCond .ge 7, 3) := by decide +kernel
theorem d_mo_compare_85 : decode b_mo_compare 85 = .ok (.iconst 0, 1) := by decide +kernel
theorem d_mo_compare_86 : decode b_mo_compare 86 = .ok (.goto 33, 3) := by decide +kernel
theorem d_mo_compare_89 : decode b_mo_compare 89 = .ok (.aload_n 0, 1) := by decide +kernel
theorem d_mo_compare_90 : decode b_mo_compare 90 = .ok (.getfield 17, 3) := by decide +kernel
theorem d_mo_compare_93 : decode b_mo_compare 93 = .ok (.bipush 40, 2) := by decide +kernel
theorem d_mo_compare_95 : decode b_mo_compare 95 = .ok (.iload_n 1, 1) := by decide +kernel
theorem d_mo_compare_96 : decode b_mo_compare 96 = .ok (.imul, 1) := by decide +kernel
theorem d_mo_compare_97 : decode b_mo_compare 97 = .ok (.iload_n 3, 1) := by decide +kernel
theorem d_mo_compare_98 : decode b_mo_compare 98 = .ok (.iadd, 1) := by decide +kernel
theorem d_mo_compare_99 : decode b_mo_compare 99 = .ok (.iaload, 1) := by decide +kernel
theorem d_mo_compare_100 : decode b_mo_compare 100 = .ok (.aload_n 0, 1) := by decide +kernel
theorem d_mo_compare_101 : decode b_mo_compare 101 = .ok (.getfield 17, 3) := by decide +kernel
theorem d_mo_compare_104 : decode b_mo_compare 104 = .ok (.bipush 40, 2) := by decide +kernel
theorem d_mo_compare_106 : decode b_mo_compare 106 = .ok (.iload_n 2, 1) := by decide +kernel
theorem d_mo_compare_107 : decode b_mo_compare 107 = .ok (.imul, 1) := by decide +kernel
theorem d_mo_compare_108 : decode b_mo_compare 108 = .ok (.iload_n 3, 1) := by decide +kernel
theorem d_mo_compare_109 : decode b_mo_compare 109 = .ok (.iadd, 1) := by decide +kernel
theorem d_mo_compare_110 : decode b_mo_compare 110 = .ok (.iaload, 1) := by decide +kernel
theorem d_mo_compare_111 : decode b_mo_compare 111 = .ok (.if_icmp .ge 7, 3) := by decide +kernel
theorem d_mo_compare_114 : decode b_mo_compare 114 = .ok (.iconst (-1), 1) := by decide +kernel
theorem d_mo_compare_115 : decode b_mo_compare 115 = .ok (.goto 4, 3) := by decide +kernel
theorem d_mo_compare_118 : decode b_mo_compare 118 = .ok (.iconst 1, 1) := by decide +kernel
theorem d_mo_compare_119 : decode b_mo_compare 119 = .ok (.ireturn, 1) := by decide +kernel
theorem d_mo_addTo_0 : decode b_mo_addTo 0 = .ok (.aload_n 0, 1) := by decide +kernel
theorem d_mo_addTo_1 : decode b_mo_addTo 1 = .ok (.getfield 20, 3) := by decide +kernel
theorem d_mo_addTo_4 : decode b_mo_addTo 4 = .ok (.iload_n 1, 1) := by decide +kernel
theorem d_mo_addTo_5 : decode b_mo_addTo 5 = .ok (.iaload, 1) := by decide +kernel
theorem d_mo_addTo_6 : decode b_mo_addTo 6 = .ok (.aload_n 0, 1) := by decide +kernel
theorem d_mo_addTo_7 : decode b_mo_addTo 7 = .ok (.getfield 20, 3) := by decide +kernel
theorem d_mo_addTo_10 : decode b_mo_addTo 10 = .ok (.iload_n 2, 1) := by decide +kernel
theorem d_mo_addTo_11 : decode b_mo_addTo 11 = .ok (.iaload, 1) := by decide +kernel
theorem d_mo_addTo_12 : decode b_mo_addTo 12 = .ok (.if_icmp .le 12, 3) := by decide +kernel
theorem d_mo_addTo_15 : decode b_mo_addTo 15 = .ok (.aload_n 0, 1) := by decide +kernel
theorem d_mo_addTo_16 : decode b_mo_addTo 16 = .ok (.getfield 20, 3) := by decide +kernel
theorem d_mo_addTo_19 : decode b_mo_addTo 19 = .ok (.iload_n 1, 1) := by decide +kernel
theorem d_mo_addTo_20 : decode b_mo_addTo 20 = .ok (.iaload, 1) := by decide +kernel
theorem d_mo_addTo_21 : decode b_mo_addTo 21 = .ok (.goto 9, 3) := by decide +kernel
theorem d_mo_addTo_24 : decode b_mo_addTo 24 = .ok (.aload_n 0, 1) := by decide +kernel
theorem d_mo_addTo_25 : decode b_mo_addTo 25 = .ok (.getfield 20, 3) := by decide +kernel
theorem d_mo_addTo_28 : decode b_mo_addTo 28 = .ok (.iload_n 2, 1) := by decide +kernel
theorem d_mo_addTo_29 : decode b_mo_addTo 29 = .ok (.iaload, 1) := by decide +kernel
theorem d_mo_addTo_30 : decode b_mo_addTo 30 = .ok (.istore_n 3, 1) := by decide +kernel
theorem d_mo_addTo_31 : decode b_mo_addTo 31 = .ok (.iconst 0, 1) := by decide +kernel
theorem d_mo_addTo_32 : decode b_mo_addTo 32 = .ok (.istore 4, 2) := by decide +kernel
theorem d_mo_addTo_34 : decode b_mo_addTo 34 = .ok (.iconst 0, 1) := by decide +kernel
theorem d_mo_addTo_35 : decode b_mo_addTo 35 = .ok (.istore 5, 2) := by decide +kernel
theorem d_mo_addTo_37 : decode b_mo_addTo 37 = .ok (.iload 5, 2) := by decide +kernel
theorem d_mo_addTo_39 : decode b_mo_addTo 39 = .ok (.iload_n 3, 1) := by decide +kernel
theorem d_mo_addTo_40 : decode b_mo_addTo 40 = .ok (.if_icmp .gt 72, 3) := by decide +kernel
theorem d_mo_addTo_43 : decode b_mo_addTo 43 = .ok (.iload 5, 2) := by decide +kernel
theorem d_mo_addTo_45 : decode b_mo_addTo 45 = .ok (.bipush 40, 2) := by decide +kernel
theorem d_mo_addTo_47 : decode b_mo_addTo 47 = .ok (.if_icmp .ge 65, 3) := by decide +kernel
theorem d_mo_addTo_50 : decode b_mo_addTo 50 = .ok (.aload_n 0, 1) := by decide +kernel
theorem d_mo_addTo_51 : decode b_mo_addTo 51 = .ok (.getfield 17, 3) := by decide +kernel
theorem d_mo_addTo_54 : decode b_mo_addTo 54 = .ok (.bipush 40, 2) := by decide +kernel
theorem d_mo_addTo_56 : decode b_mo_addTo 56 = .ok (.iload_n 1, 1) := by decide +kernel
theorem d_mo_addTo_57 : decode b_mo_addTo 57 = .ok (.imul, 1) := by decide +kernel
theorem d_mo_addTo_58 : decode b_mo_addTo 58 = .ok (.iload 5, 2) := by decide +kernel
theorem d_mo_addTo_60 : decode b_mo_addTo 60 = .ok (.iadd, 1) := by decide +kernel
theorem d_mo_addTo_61 : decode b_mo_addTo 61 = .ok (.iaload, 1) := by decide +kernel
theorem d_mo_addTo_62 : decode b_mo_addTo 62 = .ok (.aload_n 0, 1) := by decide +kernel
theorem d_mo_addTo_63 : decode b_mo_addTo 63 = .ok (.getfield 17, 3) := by decide +kernel
theorem d_mo_addTo_66 : decode b_mo_addTo 66 = .ok (.bipush 40, 2) := by decide +kernel
theorem d_mo_addTo_68 : decode b_mo_addTo 68 = .ok (.iload_n 2, 1) := by decide +kernel
theorem d_mo_addTo_69 : decode b_mo_addTo 69 = .ok (.imul, 1) := by decide +kernel
theorem d_mo_addTo_70 : decode b_mo_addTo 70 = .ok (.iload 5, 2) := by decide +kernel
theorem d_mo_addTo_72 : decode b_mo_addTo 72 = .ok (.iadd, 1) := by decide +kernel
theorem d_mo_addTo_73 : decode b_mo_addTo 73 = .ok (.iaload, 1) := by decide +kernel
theorem d_mo_addTo_74 : decode b_mo_addTo 74 = .ok (.iadd, 1) := by decide +kernel
theorem d_mo_addTo_75 : decode b_mo_addTo 75 = .ok (.iload 4, 2) := by decide +kernel
theorem d_mo_addTo_77 : decode b_mo_addTo 77 = .ok (.iadd, 1) := by decide +kernel
theorem d_mo_addTo_78 : decode b_mo_addTo 78 = .ok (.istore 6, 2) := by decide +kernel
theorem d_mo_addTo_80 : decode b_mo_addTo 80 = .ok (.aload_n 0, 1) := by decide +kernel
theorem d_mo_addTo_81 : decode b_mo_addTo 81 = .ok (.getfield 17, 3) := by decide +kernel
theorem d_mo_addTo_84 : decode b_mo_addTo 84 = .ok (.bipush 40, 2) := by decide +kernel
theorem d_mo_addTo_86 : decode b_mo_addTo 86 = .ok (.iload_n 1, 1) := by decide +kernel
theorem d_mo_addTo_87 : decode b_mo_addTo 87 = .ok (.imul, 1) := by decide +kernel
theorem d_mo_addTo_88 : decode b_mo_addTo 88 = .ok (.iload 5, 2) := by decide +kernel
theorem d_mo_addTo_90 : decode b_mo_addTo 90 = .ok (.iadd, 1) := by decide +kernel
theorem d_mo_addTo_91 : decode b_mo_addTo 91 = .ok (.iload 6, 2) := by decide +kernel
theorem d_mo_addTo_93 : decode b_mo_addTo 93 = .ok (.sipush 10000, 3) := by decide +kernel
theorem d_mo_addTo_96 : decode b_mo_addTo 96 = .ok (.irem, 1) := by decide +kernel
theorem d_mo_addTo_97 : decode b_mo_addTo 97 = .ok (.iastore, 1) := by decide +kernel
theorem d_mo_addTo_98 : decode b_mo_addTo 98 = .ok (.iload 6, 2) := by decide +kernel
theorem d_mo_addTo_100 : decode b_mo_addTo 100 = .ok (.sipush 10000, 3) := by decide +kernel
theorem d_mo_addTo_103 : decode b_mo_addTo 103 = .ok (.idiv, 1) := by decide +kernel
theorem d_mo_addTo_104 : decode b_mo_addTo 104 = .ok (.istore 4, 2) := by decide +kernel
theorem d_mo_addTo_106 : decode b_mo_addTo 106 = .ok (.iinc 5 1, 3) := by decide +kernel
theorem d_mo_addTo_109 : decode b_mo_addTo 109 = .ok (.goto (-72), 3) := by decide +kernel
theorem d_mo_addTo_112 : decode b_mo_addTo 112 = .ok (.aload_n 0, 1) := by decide +kernel
theorem d_mo_addTo_113 : decode b_mo_addTo 113 = .ok (.iload_n 1, 1) := by decide +kernel
theorem d_mo_addTo_114 : decode b_mo_addTo 114 = .ok (.iload_n 3, 1) := by decide +kernel
theorem d_mo_addTo_115 : decode b_mo_addTo 115 = .ok (.bipush 40, 2) := by decide +kernel
theorem d_mo_addTo_117 : decode b_mo_addTo 117 = .ok (.if_icmp .ge 9, 3) := by decide +kernel
theorem d_mo_addTo_120 : decode b_mo_addTo 120 = .ok (.iload_n 3, 1) := by decide +kernel
theorem d_mo_addTo_121 : decode b_mo_addTo 121 = .ok (.iconst 1, 1) := by decide +kernel
theorem d_mo_addTo_122 : decode b_mo_addTo 122 = .ok (.iadd, 1) := by decide +kernel
theorem d_mo_addTo_123 : decode b_mo_addTo 123 = .ok (.goto 5, 3) := by decide +kernel
theorem d_mo_addTo_126 : decode b_mo_addTo 126 = .ok (.bipush 40, 2) := by decide +kernel
theorem d_mo_addTo_128 : decode b_mo_addTo 128 = .ok (.invokevirtual 45, 3) := by decide +kernel
theorem d_mo_addTo_131 : decode b_mo_addTo 131 = .ok (.return_, 1) := by decide +kernel
theorem d_mo_takeOff_0 : decode b_mo_takeOff 0 = .ok (.iconst 0, 1) := by decide +kernel
theorem d_mo_takeOff_1 : decode b_mo_takeOff 1 = .ok (.istore_n 3, 1) := by decide +kernel
theorem d_mo_takeOff_2 : decode b_mo_takeOff 2 = .ok (.iconst 0, 1) := by decide +kernel
theorem d_mo_takeOff_3 : decode b_mo_takeOff 3 = .ok (.istore 4, 2) := by decide +kernel
theorem d_mo_takeOff_5 : decode b_mo_takeOff 5 = .ok (.iload 4, 2) := by decide +kernel
theorem d_mo_takeOff_7 : decode b_mo_takeOff 7 = .ok (.aload_n 0, 1) := by decide +kernel
theorem d_mo_takeOff_8 : decode b_mo_takeOff 8 = .ok (.getfield 20, 3) := by decide +kernel
theorem d_mo_takeOff_11 : decode b_mo_takeOff 11 = .ok (.iload_n 1, 1) := by decide +kernel
theorem d_mo_takeOff_12 : decode b_mo_takeOff 12 = .ok (.iaload, 1) := by decide +kernel
theorem d_mo_takeOff_13 : decode b_mo_takeOff 13 = .ok (.if_icmp .ge 77, 3) := by decide +kernel
theorem d_mo_takeOff_16 : decode b_mo_takeOff 16 = .ok (.aload_n 0, 1) := by decide +kernel
theorem d_mo_takeOff_17 : decode b_mo_takeOff 17 = .ok (.getfield 17, 3) := by decide +kernel
theorem d_mo_takeOff_20 : decode b_mo_takeOff 20 = .ok (.bipush 40, 2) := by decide +kernel
theorem d_mo_takeOff_22 : decode b_mo_takeOff 22 = .ok (.iload_n 1, 1) := by decide +kernel
theorem d_mo_takeOff_23 : decode b_mo_takeOff 23 = .ok (.imul, 1) := by decide +kernel
theorem d_mo_takeOff_24 : decode b_mo_takeOff 24 = .ok (.iload 4, 2) := by decide +kernel
theorem d_mo_takeOff_26 : decode b_mo_takeOff 26 = .ok (.iadd, 1) := by decide +kernel
theorem d_mo_takeOff_27 : decode b_mo_takeOff 27 = .ok (.iaload, 1) := by decide +kernel
theorem d_mo_takeOff_28 : decode b_mo_takeOff 28 = .ok (.aload_n 0, 1) := by decide +kernel
theorem d_mo_takeOff_29 : decode b_mo_takeOff 29 = .ok (.getfield 17, 3) := by decide +kernel
theorem d_mo_takeOff_32 : decode b_mo_takeOff 32 = .ok (.bipush 40, 2) := by decide +kernel
theorem d_mo_takeOff_34 : decode b_mo_takeOff 34 = .ok (.iload_n 2, 1) := by decide +kernel
theorem d_mo_takeOff_35 : decode b_mo_takeOff 35 = .ok (.imul, 1) := by decide +kernel
theorem d_mo_takeOff_36 : decode b_mo_takeOff 36 = .ok (.iload 4, 2) := by decide +kernel
theorem d_mo_takeOff_38 : decode b_mo_takeOff 38 = .ok (.iadd, 1) := by decide +kernel
theorem d_mo_takeOff_39 : decode b_mo_takeOff 39 = .ok (.iaload, 1) := by decide +kernel
theorem d_mo_takeOff_40 : decode b_mo_takeOff 40 = .ok (.isub, 1) := by decide +kernel
theorem d_mo_takeOff_41 : decode b_mo_takeOff 41 = .ok (.iload_n 3, 1) := by decide +kernel
theorem d_mo_takeOff_42 : decode b_mo_takeOff 42 = .ok (.isub, 1) := by decide +kernel
theorem d_mo_takeOff_43 : decode b_mo_takeOff 43 = .ok (.istore 5, 2) := by decide +kernel
theorem d_mo_takeOff_45 : decode b_mo_takeOff 45 = .ok (.iload 5, 2) := by decide +kernel
theorem d_mo_takeOff_47 : decode b_mo_takeOff 47 = .ok (.ifCond .ge 7, 3) := by decide +kernel
theorem d_mo_takeOff_50 : decode b_mo_takeOff 50 = .ok (.iconst 1, 1) := by decide +kernel
theorem d_mo_takeOff_51 : decode b_mo_takeOff 51 = .ok (.goto 4, 3) := by decide +kernel
theorem d_mo_takeOff_54 : decode b_mo_takeOff 54 = .ok (.iconst 0, 1) := by decide +kernel
theorem d_mo_takeOff_55 : decode b_mo_takeOff 55 = .ok (.istore_n 3, 1) := by decide +kernel
theorem d_mo_takeOff_56 : decode b_mo_takeOff 56 = .ok (.aload_n 0, 1) := by decide +kernel
theorem d_mo_takeOff_57 : decode b_mo_takeOff 57 = .ok (.getfield 17, 3) := by decide +kernel
theorem d_mo_takeOff_60 : decode b_mo_takeOff 60 = .ok (.bipush 40, 2) := by decide +kernel
theorem d_mo_takeOff_62 : decode b_mo_takeOff 62 = .ok (.iload_n 1, 1) := by decide +kernel
theorem d_mo_takeOff_63 : decode b_mo_takeOff 63 = .ok (.imul, 1) := by decide +kernel
theorem d_mo_takeOff_64 : decode b_mo_takeOff 64 = .ok (.iload 4, 2) := by decide +kernel
theorem d_mo_takeOff_66 : decode b_mo_takeOff 66 = .ok (.iadd, 1) := by decide +kernel
theorem d_mo_takeOff_67 : decode b_mo_takeOff 67 = .ok (.iload 5, 2) := by decide +kernel
theorem d_mo_takeOff_69 : decode b_mo_takeOff 69 = .ok (.ifCond .ge 12, 3) := by decide +kernel
theorem d_mo_takeOff_72 : decode b_mo_takeOff 72 = .ok (.iload 5, 2) := by decide +kernel
theorem d_mo_takeOff_74 : decode b_mo_takeOff 74 = .ok (.sipush 10000, 3) := by decide +kernel
theorem d_mo_takeOff_77 : decode b_mo_takeOff 77 = .ok (.iadd, 1) := by decide +kernel
theorem d_mo_takeOff_78 : decode b_mo_takeOff 78 = .ok (.goto 5, 3) := by decide +kernel
theorem d_mo_takeOff_81 : decode b_mo_takeOff 81 = .ok (.iload 5, 2) := by decide +kernel
theorem d_mo_takeOff_83 : decode b_mo_takeOff 83 = .ok (.iastore, 1) := by decide +kernel
theorem d_mo_takeOff_84 : decode b_mo_takeOff 84 = .ok (.iinc 4 1, 3) := by decide +kernel
theorem d_mo_takeOff_87 : decode b_mo_takeOff 87 = .ok (.goto (-82), 3) := by decide +kernel
theorem d_mo_takeOff_90 : decode b_mo_takeOff 90 = .ok (.aload_n 0, 1) := by decide +kernel
theorem d_mo_takeOff_91 : decode b_mo_takeOff 91 = .ok (.iload_n 1, 1) := by decide +kernel
theorem d_mo_takeOff_92 : decode b_mo_takeOff 92 = .ok (.aload_n 0, 1) := by decide +kernel
theorem d_mo_takeOff_93 : decode b_mo_takeOff 93 = .ok (.getfield 20, 3) := by decide +kernel
theorem d_mo_takeOff_96 : decode b_mo_takeOff 96 = .ok (.iload_n 1, 1) := by decide +kernel
theorem d_mo_takeOff_97 : decode b_mo_takeOff 97 = .ok (.iaload, 1) := by decide +kernel
theorem d_mo_takeOff_98 : decode b_mo_takeOff 98 = .ok (.invokevirtual 45, 3) := by decide +kernel
theorem d_mo_takeOff_101 : decode b_mo_takeOff 101 = .ok (.return_, 1) := by decide +kernel
theorem d_mo_multiply_0 : decode b_mo_multiply 0 = .ok (.aload_n 0, 1) := by decide +kernel
theorem d_mo_multiply_1 : decode b_mo_multiply 1 = .ok (.iload_n 3, 1) := by decide +kernel
theorem d_mo_multiply_2 : decode b_mo_multiply 2 = .ok (.iconst 0, 1) := by decide +kernel
theorem d_mo_multiply_3 : decode b_mo_multiply 3 = .ok (.invokevirtual 35, 3) := by decide +kernel
theorem d_mo_multiply_6 : decode b_mo_multiply 6 = .ok (.iconst 0, 1) := by decide +kernel
theorem d_mo_multiply_7 : decode b_mo_multiply 7 = .ok (.istore 4, 2) := by decide +kernel
theorem d_mo_multiply_9 : decode b_mo_multiply 9 = .ok (.iload 4, 2) := by decide +kernel
theorem d_mo_multiply_11 : decode b_mo_multiply 11 = .ok (.aload_n 0, 1) := by decide +kernel
theorem d_mo_multiply_12 : decode b_mo_multiply 12 = .ok (.getfield 20, 3) := by decide +kernel
theorem d_mo_multiply_15 : decode b_mo_multiply 15 = .ok (.iload_n 1, 1) := by decide +kernel
theorem d_mo_multiply_16 : decode b_mo_multiply 16 = .ok (.iaload, 1) := by decide +kernel
theorem d_mo_multiply_17 : decode b_mo_multiply 17 = .ok (.if_icmp .ge 123, 3) := by decide +kernel
theorem d_mo_multiply_20 : decode b_mo_multiply 20 = .ok (.iconst 0, 1) := by decide +kernel
theorem d_mo_multiply_21 : decode b_mo_multiply 21 = .ok (.istore 5, 2) := by decide +kernel
theorem d_mo_multiply_23 : decode b_mo_multiply 23 = .ok (.iconst 0, 1) := by decide +kernel
theorem d_mo_multiply_24 : decode b_mo_multiply 24 = .ok (.istore 6, 2) := by decide +kernel
theorem d_mo_multiply_26 : decode b_mo_multiply 26 = .ok (.iload 6, 2) := by decide +kernel
theorem d_mo_multiply_28 : decode b_mo_multiply 28 = .ok (.aload_n 0, 1) := by decide +kernel
theorem d_mo_multiply_29 : decode b_mo_multiply 29 = .ok (.getfield 20, 3) := by decide +kernel
theorem d_mo_multiply_32 : decode b_mo_multiply 32 = .ok (.iload_n 2, 1) := by decide +kernel
theorem d_mo_multiply_33 : decode b_mo_multiply 33 = .ok (.iaload, 1) := by decide +kernel
theorem d_mo_multiply_34 : decode b_mo_multiply 34 = .ok (.if_icmp .lt 8, 3) := by decide +kernel
theorem d_mo_multiply_37 : decode b_mo_multiply 37 = .ok (.iload 5, 2) := by decide +kernel
theorem d_mo_multiply_39 : decode b_mo_multiply 39 = .ok (.ifCond .le 95, 3) := by decide +kernel
theorem d_mo_multiply_42 : decode b_mo_multiply 42 = .ok (.bipush 40, 2) := by decide +kernel
theorem d_mo_multiply_44 : decode b_mo_multiply 44 = .ok (.iload_n 3, 1) := by decide +kernel
theorem d_mo_multiply_45 : decode b_mo_multiply 45 = .ok (.imul, 1) := by decide +kernel
theorem d_mo_multiply_46 : decode b_mo_multiply 46 = .ok (.iload 4, 2) := by decide +kernel
theorem d_mo_multiply_48 : decode b_mo_multiply 48 = .ok (.iadd, 1) := by decide +kernel
theorem d_mo_multiply_49 : decode b_mo_multiply 49 = .ok (.iload 6, 2) := by decide +kernel
theorem d_mo_multiply_51 : decode b_mo_multiply 51 = .ok (.iadd, 1) := by decide +kernel
theorem d_mo_multiply_52 : decode b_mo_multiply 52 = .ok (.istore 7, 2) := by decide +kernel
theorem d_mo_multiply_54 : decode b_mo_multiply 54 = .ok (.aload_n 0, 1) := by decide +kernel
theorem d_mo_multiply_55 : decode b_mo_multiply 55 = .ok (.getfield 17, 3) := by decide +kernel
theorem d_mo_multiply_58 : decode b_mo_multiply 58 = .ok (.iload 7, 2) := by decide +kernel
theorem d_mo_multiply_60 : decode b_mo_multiply 60 = .ok (.iaload, 1) := by decide +kernel
theorem d_mo_multiply_61 : decode b_mo_multiply 61 = .ok (.aload_n 0, 1) := by decide +kernel
theorem d_mo_multiply_62 : decode b_mo_multiply 62 = .ok (.getfield 17, 3) := by decide +kernel
theorem d_mo_multiply_65 : decode b_mo_multiply 65 = .ok (.bipush 40, 2) := by decide +kernel
theorem d_mo_multiply_67 : decode b_mo_multiply 67 = .ok (.iload_n 1, 1) := by decide +kernel
theorem d_mo_multiply_68 : decode b_mo_multiply 68 = .ok (.imul, 1) := by decide +kernel
theorem d_mo_multiply_69 : decode b_mo_multiply 69 = .ok (.iload 4, 2) := by decide +kernel
theorem d_mo_multiply_71 : decode b_mo_multiply 71 = .ok (.iadd, 1) := by decide +kernel
theorem d_mo_multiply_72 : decode b_mo_multiply 72 = .ok (.iaload, 1) := by decide +kernel
theorem d_mo_multiply_73 : decode b_mo_multiply 73 = .ok (.iload 6, 2) := by decide +kernel
theorem d_mo_multiply_75 : decode b_mo_multiply 75 = .ok (.aload_n 0, 1) := by decide +kernel
theorem d_mo_multiply_76 : decode b_mo_multiply 76 = .ok (.getfield 20, 3) := by decide +kernel
theorem d_mo_multiply_79 : decode b_mo_multiply 79 = .ok (.iload_n 2, 1) := by decide +kernel
theorem d_mo_multiply_80 : decode b_mo_multiply 80 = .ok (.iaload, 1) := by decide +kernel
theorem d_mo_multiply_81 : decode b_mo_multiply 81 = .ok (.if_icmp .ge 18, 3) := by decide +kernel
theorem d_mo_multiply_84 : decode b_mo_multiply 84 = .ok (.aload_n 0, 1) := by decide +kernel
theorem d_mo_multiply_85 : decode b_mo_multiply 85 = .ok (.getfield 17, 3) := by decide +kernel
theorem d_mo_multiply_88 : decode b_mo_multiply 88 = .ok (.bipush 40, 2) := by decide +kernel
theorem d_mo_multiply_90 : decode b_mo_multiply 90 = .ok (.iload_n 2, 1) := by decide +kernel
theorem d_mo_multiply_91 : decode b_mo_multiply 91 = .ok (.imul, 1) := by decide +kernel
theorem d_mo_multiply_92 : decode b_mo_multiply 92 = .ok (.iload 6, 2) := by decide +kernel
theorem d_mo_multiply_94 : decode b_mo_multiply 94 = .ok (.iadd, 1) := by decide +kernel
theorem d_mo_multiply_95 : decode b_mo_multiply 95 = .ok (.iaload, 1) := by decide +kernel
theorem d_mo_multiply_96 : decode b_mo_multiply 96 = .ok (.goto 4, 3) := by decide +kernel
theorem d_mo_multiply_99 : decode b_mo_multiply 99 = .ok (.iconst 0, 1) := by decide +kernel
theorem d_mo_multiply_100 : decode b_mo_multiply 100 = .ok (.imul, 1) := by decide +kernel
theorem d_mo_multiply_101 : decode b_mo_multiply 101 = .ok (.iadd, 1) := by decide +kernel
theorem d_mo_multiply_102 : decode b_mo_multiply 102 = .ok (.iload 5, 2) := by decide +kernel
theorem d_mo_multiply_104 : decode b_mo_multiply 104 = .ok (.iadd, 1) := by decide +kernel
theorem d_mo_multiply_105 : decode b_mo_multiply 105 = .ok (.istore 8, 2) := by decide +kernel
theorem d_mo_multiply_107 : decode b_mo_multiply 107 = .ok (.aload_n 0, 1) := by decide +kernel
theorem d_mo_multiply_108 : decode b_mo_multiply 108 = .ok (.getfield 17, 3) := by decide +kernel
theorem d_mo_multiply_111 : decode b_mo_multiply 111 = .ok (.iload 7, 2) := by decide +kernel
theorem d_mo_multiply_113 : decode b_mo_multiply 113 = .ok (.iload 8, 2) := by decide +kernel
theorem d_mo_multiply_115 : decode b_mo_multiply 115 = .ok (.sipush 10000, 3) := by decide +kernel
theorem d_mo_multiply_118 : decode b_mo_multiply 118 = .ok (.irem, 1) := by decide +kernel
theorem d_mo_multiply_119 : decode b_mo_multiply 119 = .ok (.iastore, 1) := by decide +kernel
theorem d_mo_multiply_120 : decode b_mo_multiply 120 = .ok (.iload 8, 2) := by decide +kernel
theorem d_mo_multiply_122 : decode b_mo_multiply 122 = .ok (.sipush 10000, 3) := by decide +kernel
theorem d_mo_multiply_125 : decode b_mo_multiply 125 = .ok (.idiv, 1) := by decide +kernel
theorem d_mo_multiply_126 : decode b_mo_multiply 126 = .ok (.istore 5, 2) := by decide +kernel
theorem d_mo_multiply_128 : decode b_mo_multiply 128 = .ok (.iinc 6 1, 3) := by decide +kernel
theorem d_mo_multiply_131 : decode b_mo_multiply 131 = .ok (.goto (-105), 3) := by decide +kernel
theorem d_mo_multiply_134 : decode b_mo_multiply 134 = .ok (.iinc 4 1, 3) := by decide +kernel
theorem d_mo_multiply_137 : decode b_mo_multiply 137 = .ok (.goto (-128), 3) := by decide +kernel
theorem d_mo_multiply_140 : decode b_mo_multiply 140 = .ok (.aload_n 0, 1) := by decide +kernel
theorem d_mo_multiply_141 : decode b_mo_multiply 141 = .ok (.iload_n 3, 1) := by decide +kernel
theorem d_mo_multiply_142 : decode b_mo_multiply 142 = .ok (.bipush 40, 2) := by decide +kernel
theorem d_mo_multiply_144 : decode b_mo_multiply 144 = .ok (.invokevirtual 45, 3) := by decide +kernel
theorem d_mo_multiply_147 : decode b_mo_multiply 147 = .ok (.return_, 1) := by decide +kernel
theorem d_mo_shift_0 : decode b_mo_shift 0 = .ok (.aload_n 0, 1) := by decide +kernel
theorem d_mo_shift_1 : decode b_mo_shift 1 = .ok (.getfield 20, 3) := by decide +kernel
theorem d_mo_shift_4 : decode b_mo_shift 4 = .ok (.iload_n 1, 1) := by decide +kernel
theorem d_mo_shift_5 : decode b_mo_shift 5 = .ok (.iaload, 1) := by decide +kernel
theorem d_mo_shift_6 : decode b_mo_shift 6 = .ok (.istore_n 3, 1) := by decide +kernel
theorem d_mo_shift_7 : decode b_mo_shift 7 = .ok (.iload_n 3, 1) := by decide +kernel
theorem d_mo_shift_8 : decode b_mo_shift 8 = .ok (.ifCond .le 33, 3) := by decide +kernel
theorem d_mo_shift_11 : decode b_mo_shift 11 = .ok (.aload_n 0, 1) := by decide +kernel
theorem d_mo_shift_12 : decode b_mo_shift 12 = .ok (.getfield 17, 3) := by decide +kernel
theorem d_mo_shift_15 : decode b_mo_shift 15 = .ok (.bipush 40, 2) := by decide +kernel
theorem d_mo_shift_17 : decode b_mo_shift 17 = .ok (.iload_n 1, 1) := by decide +kernel
theorem d_mo_shift_18 : decode b_mo_shift 18 = .ok (.imul, 1) := by decide +kernel
theorem d_mo_shift_19 : decode b_mo_shift 19 = .ok (.iload_n 3, 1) := by decide +kernel
theorem d_mo_shift_20 : decode b_mo_shift 20 = .ok (.iadd, 1) := by decide +kernel
theorem d_mo_shift_21 : decode b_mo_shift 21 = .ok (.aload_n 0, 1) := by decide +kernel
theorem d_mo_shift_22 : decode b_mo_shift 22 = .ok (.getfield 17, 3) := by decide +kernel
theorem d_mo_shift_25 : decode b_mo_shift 25 = .ok (.bipush 40, 2) := by decide +kernel
theorem d_mo_shift_27 : decode b_mo_shift 27 = .ok (.iload_n 1, 1) := by decide +kernel
theorem d_mo_shift_28 : decode b_mo_shift 28 = .ok (.imul, 1) := by decide +kernel
theorem d_mo_shift_29 : decode b_mo_shift 29 = .ok (.iload_n 3, 1) := by decide +kernel
theorem d_mo_shift_30 : decode b_mo_shift 30 = .ok (.iadd, 1) := by decide +kernel
theorem d_mo_shift_31 : decode b_mo_shift 31 = .ok (.iconst 1, 1) := by decide +kernel
theorem d_mo_shift_32 : decode b_mo_shift 32 = .ok (.isub, 1) := by decide +kernel
theorem d_mo_shift_33 : decode b_mo_shift 33 = .ok (.iaload, 1) := by decide +kernel
theorem d_mo_shift_34 : decode b_mo_shift 34 = .ok (.iastore, 1) := by decide +kernel
theorem d_mo_shift_35 : decode b_mo_shift 35 = .ok (.iinc 3 (-1), 3) := by decide +kernel
theorem d_mo_shift_38 : decode b_mo_shift 38 = .ok (.goto (-31), 3) := by decide +kernel
theorem d_mo_shift_41 : decode b_mo_shift 41 = .ok (.aload_n 0, 1) := by decide +kernel
theorem d_mo_shift_42 : decode b_mo_shift 42 = .ok (.getfield 17, 3) := by decide +kernel
theorem d_mo_shift_45 : decode b_mo_shift 45 = .ok (.bipush 40, 2) := by decide +kernel
theorem d_mo_shift_47 : decode b_mo_shift 47 = .ok (.iload_n 1, 1) := by decide +kernel
theorem d_mo_shift_48 : decode b_mo_shift 48 = .ok (.imul, 1) := by decide +kernel
theorem d_mo_shift_49 : decode b_mo_shift 49 = .ok (.iload_n 2, 1) := by decide +kernel
theorem d_mo_shift_50 : decode b_mo_shift 50 = .ok (.iastore, 1) := by decide +kernel
theorem d_mo_shift_51 : decode b_mo_shift 51 = .ok (.aload_n 0, 1) := by decide +kernel
theorem d_mo_shift_52 : decode b_mo_shift 52 = .ok (.iload_n 1, 1) := by decide +kernel
theorem d_mo_shift_53 : decode b_mo_shift 53 = .ok (.aload_n 0, 1) := by decide +kernel
theorem d_mo_shift_54 : decode b_mo_shift 54 = .ok (.getfield 20, 3) := by decide +kernel
theorem d_mo_shift_57 : decode b_mo_shift 57 = .ok (.iload_n 1, 1) := by decide +kernel
theorem d_mo_shift_58 : decode b_mo_shift 58 = .ok (.iaload, 1) := by decide +kernel
theorem d_mo_shift_59 : decode b_mo_shift 59 = .ok (.iconst 1, 1) := by decide +kernel
theorem d_mo_shift_60 : decode b_mo_shift 60 = .ok (.iadd, 1) := by decide +kernel
theorem d_mo_shift_61 : decode b_mo_shift 61 = .ok (.invokevirtual 45, 3) := by decide +kernel
theorem d_mo_shift_64 : decode b_mo_shift 64 = .ok (.return_, 1) := by decide +kernel
theorem d_mo_divideSmall_0 : decode b_mo_divideSmall 0 = .ok (.iconst 0, 1) := by decide +kernel
theorem d_mo_divideSmall_1 : decode b_mo_divideSmall 1 = .ok (.istore_n 3, 1) := by decide +kernel
theorem d_mo_divideSmall_2 : decode b_mo_divideSmall 2 = .ok (.aload_n 0, 1) := by decide +kernel
theorem d_mo_divideSmall_3 : decode b_mo_divideSmall 3 = .ok (.getfield 20, 3) := by decide +kernel
theorem d_mo_divideSmall_6 : decode b_mo_divideSmall 6 = .ok (.iload_n 1, 1) := by decide +kernel
theorem d_mo_divideSmall_7 : decode b_mo_divideSmall 7 = .ok (.iaload, 1) := by decide +kernel
theorem d_mo_divideSmall_8 : decode b_mo_divideSmall 8 = .ok (.iconst 1, 1) := by decide +kernel
theorem d_mo_divideSmall_9 : decode b_mo_divideSmall 9 = .ok (.isub, 1) := by decide +kernel
theorem d_mo_divideSmall_10 : decode b_mo_divideSmall 10 = .ok (.istore 4, 2) := by decide +kernel
theorem d_mo_divideSmall_12 : decode b_mo_divideSmall 12 = .ok (.iload 4, 2) := by decide +kernel
theorem d_mo_divideSmall_14 : decode b_mo_divideSmall 14 = .ok (.ifCond .lt 50, 3) := by decide +kernel
theorem d_mo_divideSmall_17 : decode b_mo_divideSmall 17 = .ok (.iload_n 3, 1) := by decide +kernel
theorem d_mo_divideSmall_18 : decode b_mo_divideSmall 18 = .ok (.sipush 10000, 3) := by decide +kernel
theorem d_mo_divideSmall_21 : decode b_mo_divideSmall 21 = .ok (.imul, 1) := by decide +kernel
theorem d_mo_divideSmall_22 : decode b_mo_divideSmall 22 = .ok (.aload_n 0, 1) := by decide +kernel
theorem d_mo_divideSmall_23 : decode b_mo_divideSmall 23 = .ok (.getfield 17, 3) := by decide +kernel
theorem d_mo_divideSmall_26 : decode b_mo_divideSmall 26 = .ok (.bipush 40, 2) := by decide +kernel
theorem d_mo_divideSmall_28 : decode b_mo_divideSmall 28 = .ok (.iload_n 1, 1) := by decide +kernel
theorem d_mo_divideSmall_29 : decode b_mo_divideSmall 29 = .ok (.imul, 1) := by decide +kernel
theorem d_mo_divideSmall_30 : decode b_mo_divideSmall 30 = .ok (.iload 4, 2) := by decide +kernel
theorem d_mo_divideSmall_32 : decode b_mo_divideSmall 32 = .ok (.iadd, 1) := by decide +kernel
theorem d_mo_divideSmall_33 : decode b_mo_divideSmall 33 = .ok (.iaload, 1) := by decide +kernel
theorem d_mo_divideSmall_34 : decode b_mo_divideSmall 34 = .ok (.iadd, 1) := by decide +kernel
theorem d_mo_divideSmall_35 : decode b_mo_divideSmall 35 = .ok (.istore 5, 2) := by decide +kernel
theorem d_mo_divideSmall_37 : decode b_mo_divideSmall 37 = .ok (.aload_n 0, 1) := by decide +kernel
theorem d_mo_divideSmall_38 : decode b_mo_divideSmall 38 = .ok (.getfield 17, 3) := by decide +kernel
theorem d_mo_divideSmall_41 : decode b_mo_divideSmall 41 = .ok (.bipush 40, 2) := by decide +kernel
theorem d_mo_divideSmall_43 : decode b_mo_divideSmall 43 = .ok (.iload_n 1, 1) := by decide +kernel
theorem d_mo_divideSmall_44 : decode b_mo_divideSmall 44 = .ok (.imul, 1) := by decide +kernel
theorem d_mo_divideSmall_45 : decode b_mo_divideSmall 45 = .ok (.iload 4, 2) := by decide +kernel
theorem d_mo_divideSmall_47 : decode b_mo_divideSmall 47 = .ok (.iadd, 1) := by decide +kernel
theorem d_mo_divideSmall_48 : decode b_mo_divideSmall 48 = .ok (.iload 5, 2) := by decide +kernel
theorem d_mo_divideSmall_50 : decode b_mo_divideSmall 50 = .ok (.iload_n 2, 1) := by decide +kernel
theorem d_mo_divideSmall_51 : decode b_mo_divideSmall 51 = .ok (.idiv, 1) := by decide +kernel
theorem d_mo_divideSmall_52 : decode b_mo_divideSmall 52 = .ok (.iastore, 1) := by decide +kernel
theorem d_mo_divideSmall_53 : decode b_mo_divideSmall 53 = .ok (.iload 5, 2) := by decide +kernel
theorem d_mo_divideSmall_55 : decode b_mo_divideSmall 55 = .ok (.iload_n 2, 1) := by decide +kernel
theorem d_mo_divideSmall_56 : decode b_mo_divideSmall 56 = .ok (.irem, 1) := by decide +kernel
theorem d_mo_divideSmall_57 : decode b_mo_divideSmall 57 = .ok (.istore_n 3, 1) := by decide +kernel
theorem d_mo_divideSmall_58 : decode b_mo_divideSmall 58 = .ok (.iinc 4 (-1), 3) := by decide +kernel
theorem d_mo_divideSmall_61 : decode b_mo_divideSmall 61 = .ok (.goto (-49), 3) := by decide +kernel
theorem d_mo_divideSmall_64 : decode b_mo_divideSmall 64 = .ok (.aload_n 0, 1) := by decide +kernel
theorem d_mo_divideSmall_65 : decode b_mo_divideSmall 65 = .ok (.iload_n 1, 1) := by decide +kernel
theorem d_mo_divideSmall_66 : decode b_mo_divideSmall 66 = .ok (.aload_n 0, 1) := by decide +kernel
theorem d_mo_divideSmall_67 : decode b_mo_divideSmall 67 = .ok (.getfield 20, 3) := by decide +kernel
theorem d_mo_divideSmall_70 : decode b_mo_divideSmall 70 = .ok (.iload_n 1, 1) := by decide +kernel
theorem d_mo_divideSmall_71 : decode b_mo_divideSmall 71 = .ok (.iaload, 1) := by decide +kernel
theorem d_mo_divideSmall_72 : decode b_mo_divideSmall 72 = .ok (.invokevirtual 45, 3) := by decide +kernel
theorem d_mo_divideSmall_75 : decode b_mo_divideSmall 75 = .ok (.iload_n 3, 1) := by decide +kernel
theorem d_mo_divideSmall_76 : decode b_mo_divideSmall 76 = .ok (.ireturn, 1) := by decide +kernel
theorem d_mo_times_0 : decode b_mo_times 0 = .ok (.aload_n 0, 1) := by decide +kernel
theorem d_mo_times_1 : decode b_mo_times 1 = .ok (.iload_n 3, 1) := by decide +kernel
theorem d_mo_times_2 : decode b_mo_times 2 = .ok (.iconst 0, 1) := by decide +kernel
theorem d_mo_times_3 : decode b_mo_times 3 = .ok (.invokevirtual 35, 3) := by decide +kernel
theorem d_mo_times_6 : decode b_mo_times 6 = .ok (.iconst 0, 1) := by decide +kernel
theorem d_mo_times_7 : decode b_mo_times 7 = .ok (.istore 4, 2) := by decide +kernel
theorem d_mo_times_9 : decode b_mo_times 9 = .ok (.iconst 0, 1) := by decide +kernel
theorem d_mo_times_10 : decode b_mo_times 10 = .ok (.istore 5, 2) := by decide +kernel
theorem d_mo_times_12 : decode b_mo_times 12 = .ok (.iload 5, 2) := by decide +kernel
theorem d_mo_times_14 : decode b_mo_times 14 = .ok (.aload_n 0, 1) := by decide +kernel
theorem d_mo_times_15 : decode b_mo_times 15 = .ok (.getfield 20, 3) := by decide +kernel
theorem d_mo_times_18 : decode b_mo_times 18 = .ok (.iload_n 1, 1) := by decide +kernel
theorem d_mo_times_19 : decode b_mo_times 19 = .ok (.iaload, 1) := by decide +kernel
theorem d_mo_times_20 : decode b_mo_times 20 = .ok (.if_icmp .lt 8, 3) := by decide +kernel
theorem d_mo_times_23 : decode b_mo_times 23 = .ok (.iload 4, 2) := by decide +kernel
theorem d_mo_times_25 : decode b_mo_times 25 = .ok (.ifCond .le 69, 3) := by decide +kernel
theorem d_mo_times_28 : decode b_mo_times 28 = .ok (.iload 5, 2) := by decide +kernel
theorem d_mo_times_30 : decode b_mo_times 30 = .ok (.aload_n 0, 1) := by decide +kernel
theorem d_mo_times_31 : decode b_mo_times 31 = .ok (.getfield 20, 3) := by decide +kernel
theorem d_mo_times_34 : decode b_mo_times 34 = .ok (.iload_n 1, 1) := by decide +kernel
theorem d_mo_times_35 : decode b_mo_times 35 = .ok (.iaload, 1) := by decide +kernel
theorem d_mo_times_36 : decode b_mo_times 36 = .ok (.if_icmp .ge 20, 3) := by decide +kernel
theorem d_mo_times_39 : decode b_mo_times 39 = .ok (.aload_n 0, 1) := by decide +kernel
theorem d_mo_times_40 : decode b_mo_times 40 = .ok (.getfield 17, 3) := by decide +kernel
theorem d_mo_times_43 : decode b_mo_times 43 = .ok (.bipush 40, 2) := by decide +kernel
theorem d_mo_times_45 : decode b_mo_times 45 = .ok (.iload_n 1, 1) := by decide +kernel
theorem d_mo_times_46 : decode b_mo_times 46 = .ok (.imul, 1) := by decide +kernel
theorem d_mo_times_47 : decode b_mo_times 47 = .ok (.iload 5, 2) := by decide +kernel
theorem d_mo_times_49 : decode b_mo_times 49 = .ok (.iadd, 1) := by decide +kernel
theorem d_mo_times_50 : decode b_mo_times 50 = .ok (.iaload, 1) := by decide +kernel
theorem d_mo_times_51 : decode b_mo_times 51 = .ok (.iload_n 2, 1) := by decide +kernel
theorem d_mo_times_52 : decode b_mo_times 52 = .ok (.imul, 1) := by decide +kernel
theorem d_mo_times_53 : decode b_mo_times 53 = .ok (.goto 4, 3) := by decide +kernel
theorem d_mo_times_56 : decode b_mo_times 56 = .ok (.iconst 0, 1) := by decide +kernel
theorem d_mo_times_57 : decode b_mo_times 57 = .ok (.iload 4, 2) := by decide +kernel
theorem d_mo_times_59 : decode b_mo_times 59 = .ok (.iadd, 1) := by decide +kernel
theorem d_mo_times_60 : decode b_mo_times 60 = .ok (.istore 6, 2) := by decide +kernel
theorem d_mo_times_62 : decode b_mo_times 62 = .ok (.aload_n 0, 1) := by decide +kernel
theorem d_mo_times_63 : decode b_mo_times 63 = .ok (.getfield 17, 3) := by decide +kernel
theorem d_mo_times_66 : decode b_mo_times 66 = .ok (.bipush 40, 2) := by decide +kernel
theorem d_mo_times_68 : decode b_mo_times 68 = .ok (.iload_n 3, 1) := by decide +kernel
theorem d_mo_times_69 : decode b_mo_times 69 = .ok (.imul, 1) := by decide +kernel
theorem d_mo_times_70 : decode b_mo_times 70 = .ok (.iload 5, 2) := by decide +kernel
theorem d_mo_times_72 : decode b_mo_times 72 = .ok (.iadd, 1) := by decide +kernel
theorem d_mo_times_73 : decode b_mo_times 73 = .ok (.iload 6, 2) := by decide +kernel
theorem d_mo_times_75 : decode b_mo_times 75 = .ok (.sipush 10000, 3) := by decide +kernel
theorem d_mo_times_78 : decode b_mo_times 78 = .ok (.irem, 1) := by decide +kernel
theorem d_mo_times_79 : decode b_mo_times 79 = .ok (.iastore, 1) := by decide +kernel
theorem d_mo_times_80 : decode b_mo_times 80 = .ok (.iload 6, 2) := by decide +kernel
theorem d_mo_times_82 : decode b_mo_times 82 = .ok (.sipush 10000, 3) := by decide +kernel
theorem d_mo_times_85 : decode b_mo_times 85 = .ok (.idiv, 1) := by decide +kernel
theorem d_mo_times_86 : decode b_mo_times 86 = .ok (.istore 4, 2) := by decide +kernel
theorem d_mo_times_88 : decode b_mo_times 88 = .ok (.iinc 5 1, 3) := by decide +kernel
theorem d_mo_times_91 : decode b_mo_times 91 = .ok (.goto (-79), 3) := by decide +kernel
theorem d_mo_times_94 : decode b_mo_times 94 = .ok (.aload_n 0, 1) := by decide +kernel
theorem d_mo_times_95 : decode b_mo_times 95 = .ok (.iload_n 3, 1) := by decide +kernel
theorem d_mo_times_96 : decode b_mo_times 96 = .ok (.bipush 40, 2) := by decide +kernel
theorem d_mo_times_98 : decode b_mo_times 98 = .ok (.invokevirtual 45, 3) := by decide +kernel
theorem d_mo_times_101 : decode b_mo_times 101 = .ok (.return_, 1) := by decide +kernel
theorem d_mo_divide_0 : decode b_mo_divide 0 = .ok (.aload_n 0, 1) := by decide +kernel
theorem d_mo_divide_1 : decode b_mo_divide 1 = .ok (.iload_n 3, 1) := by decide +kernel
theorem d_mo_divide_2 : decode b_mo_divide 2 = .ok (.iconst 0, 1) := by decide +kernel
theorem d_mo_divide_3 : decode b_mo_divide 3 = .ok (.invokevirtual 35, 3) := by decide +kernel
theorem d_mo_divide_6 : decode b_mo_divide 6 = .ok (.aload_n 0, 1) := by decide +kernel
theorem d_mo_divide_7 : decode b_mo_divide 7 = .ok (.iload 4, 2) := by decide +kernel
theorem d_mo_divide_9 : decode b_mo_divide 9 = .ok (.iconst 0, 1) := by decide +kernel
theorem d_mo_divide_10 : decode b_mo_divide 10 = .ok (.invokevirtual 35, 3) := by decide +kernel
theorem d_mo_divide_13 : decode b_mo_divide 13 = .ok (.aload_n 0, 1) := by decide +kernel
theorem d_mo_divide_14 : decode b_mo_divide 14 = .ok (.getfield 20, 3) := by decide +kernel
theorem d_mo_divide_17 : decode b_mo_divide 17 = .ok (.iload_n 1, 1) := by decide +kernel
theorem d_mo_divide_18 : decode b_mo_divide 18 = .ok (.iaload, 1) := by decide +kernel
theorem d_mo_divide_19 : decode b_mo_divide 19 = .ok (.iconst 1, 1) := by decide +kernel
theorem d_mo_divide_20 : decode b_mo_divide 20 = .ok (.isub, 1) := by decide +kernel
theorem d_mo_divide_21 : decode b_mo_divide 21 = .ok (.istore 5, 2) := by decide +kernel
theorem d_mo_divide_23 : decode b_mo_divide 23 = .ok (.iload 5, 2) := by decide +kernel
theorem d_mo_divide_25 : decode b_mo_divide 25 = .ok (.ifCond .lt 117, 3) := by decide +kernel
theorem d_mo_divide_28 : decode b_mo_divide 28 = .ok (.aload_n 0, 1) := by decide +kernel
theorem d_mo_divide_29 : decode b_mo_divide 29 = .ok (.iload 4, 2) := by decide +kernel
theorem d_mo_divide_31 : decode b_mo_divide 31 = .ok (.aload_n 0, 1) := by decide +kernel
theorem d_mo_divide_32 : decode b_mo_divide 32 = .ok (.getfield 17, 3) := by decide +kernel
theorem d_mo_divide_35 : decode b_mo_divide 35 = .ok (.bipush 40, 2) := by decide +kernel
theorem d_mo_divide_37 : decode b_mo_divide 37 = .ok (.iload_n 1, 1) := by decide +kernel
theorem d_mo_divide_38 : decode b_mo_divide 38 = .ok (.imul, 1) := by decide +kernel
theorem d_mo_divide_39 : decode b_mo_divide 39 = .ok (.iload 5, 2) := by decide +kernel
theorem d_mo_divide_41 : decode b_mo_divide 41 = .ok (.iadd, 1) := by decide +kernel
theorem d_mo_divide_42 : decode b_mo_divide 42 = .ok (.iaload, 1) := by decide +kernel
theorem d_mo_divide_43 : decode b_mo_divide 43 = .ok (.invokevirtual 48, 3) := by decide +kernel
theorem d_mo_divide_46 : decode b_mo_divide 46 = .ok (.iconst 0, 1) := by decide +kernel
theorem d_mo_divide_47 : decode b_mo_divide 47 = .ok (.istore 6, 2) := by decide +kernel
theorem d_mo_divide_49 : decode b_mo_divide 49 = .ok (.sipush 9999, 3) := by decide +kernel
theorem d_mo_divide_52 : decode b_mo_divide 52 = .ok (.istore 7, 2) := by decide +kernel
theorem d_mo_divide_54 : decode b_mo_divide 54 = .ok (.iload 6, 2) := by decide +kernel
theorem d_mo_divide_56 : decode b_mo_divide 56 = .ok (.iload 7, 2) := by decide +kernel
theorem d_mo_divide_58 : decode b_mo_divide 58 = .ok (.if_icmp .ge 52, 3) := by decide +kernel
theorem d_mo_divide_61 : decode b_mo_divide 61 = .ok (.iload 6, 2) := by decide +kernel
theorem d_mo_divide_63 : decode b_mo_divide 63 = .ok (.iload 7, 2) := by decide +kernel
theorem d_mo_divide_65 : decode b_mo_divide 65 = .ok (.iadd, 1) := by decide +kernel
theorem d_mo_divide_66 : decode b_mo_divide 66 = .ok (.iconst 1, 1) := by decide +kernel
theorem d_mo_divide_67 : decode b_mo_divide 67 = .ok (.iadd, 1) := by decide +kernel
theorem d_mo_divide_68 : decode b_mo_divide 68 = .ok (.iconst 2, 1) := by decide +kernel
theorem d_mo_divide_69 : decode b_mo_divide 69 = .ok (.idiv, 1) := by decide +kernel
theorem d_mo_divide_70 : decode b_mo_divide 70 = .ok (.istore 8, 2) := by decide +kernel
theorem d_mo_divide_72 : decode b_mo_divide 72 = .ok (.aload_n 0, 1) := by decide +kernel
theorem d_mo_divide_73 : decode b_mo_divide 73 = .ok (.iload_n 2, 1) := by decide +kernel
theorem d_mo_divide_74 : decode b_mo_divide 74 = .ok (.iload 8, 2) := by decide +kernel
theorem d_mo_divide_76 : decode b_mo_divide 76 = .ok (.sipush 157, 3) := by decide +kernel
theorem d_mo_divide_79 : decode b_mo_divide 79 = .ok (.invokevirtual 51, 3) := by decide +kernel
theorem d_mo_divide_82 : decode b_mo_divide 82 = .ok (.aload_n 0, 1) := by decide +kernel
theorem d_mo_divide_83 : decode b_mo_divide 83 = .ok (.sipush 157, 3) := by decide +kernel
theorem d_mo_divide_86 : decode b_mo_divide 86 = .ok (.iload 4, 2) := by decide +kernel
theorem d_mo_divide_88 : decode b_mo_divide 88 = .ok (.invokevirtual 55, 3) := by decide +kernel
theorem d_mo_divide_91 : decode b_mo_divide 91 = .ok (.ifCond .gt 10, 3) := by decide +kernel
theorem d_mo_divide_94 : decode b_mo_divide 94 = .ok (.iload 8, 2) := by decide +kernel
theorem d_mo_divide_96 : decode b_mo_divide 96 = .ok (.istore 6, 2) := by decide +kernel
theorem d_mo_divide_98 : decode b_mo_divide 98 = .ok (.goto 9, 3) := by decide +kernel
theorem d_mo_divide_101 : decode b_mo_divide 101 = .ok (.iload 8, 2) := by decide +kernel
theorem d_mo_divide_103 : decode b_mo_divide 103 = .ok (.iconst 1, 1) := by decide +kernel
theorem d_mo_divide_104 : decode b_mo_divide 104 = .ok (.isub, 1) := by decide +kernel
theorem d_mo_divide_105 : decode b_mo_divide 105 = .ok (.istore 7, 2) := by decide +kernel
theorem d_mo_divide_107 : decode b_mo_divide 107 = .ok (.goto (-53), 3) := by decide +kernel
theorem d_mo_divide_110 : decode b_mo_divide 110 = .ok (.aload_n 0, 1) := by decide +kernel
theorem d_mo_divide_111 : decode b_mo_divide 111 = .ok (.iload_n 2, 1) := by decide +kernel
theorem d_mo_divide_112 : decode b_mo_divide 112 = .ok (.iload 6, 2) := by decide +kernel
theorem d_mo_divide_114 : decode b_mo_divide 114 = .ok (.sipush 157, 3) := by decide +kernel
theorem d_mo_divide_117 : decode b_mo_divide 117 = .ok (.invokevirtual 51, 3) := by decide +kernel
theorem d_mo_divide_120 : decode b_mo_divide 120 = .ok (.aload_n 0, 1) := by decide +kernel
theorem d_mo_divide_121 : decode b_mo_divide 121 = .ok (.iload 4, 2) := by decide +kernel
theorem d_mo_divide_123 : decode b_mo_divide 123 = .ok (.sipush 157, 3) := by decide +kernel
theorem d_mo_divide_126 : decode b_mo_divide 126 = .ok (.invokevirtual 59, 3) := by decide +kernel
theorem d_mo_divide_129 : decode b_mo_divide 129 = .ok (.aload_n 0, 1) := by decide +kernel
theorem d_mo_divide_130 : decode b_mo_divide 130 = .ok (.iload_n 3, 1) := by decide +kernel
theorem d_mo_divide_131 : decode b_mo_divide 131 = .ok (.iload 6, 2) := by decide +kernel
theorem d_mo_divide_133 : decode b_mo_divide 133 = .ok (.invokevirtual 48, 3) := by decide +kernel
theorem d_mo_divide_136 : decode b_mo_divide 136 = .ok (.iinc 5 (-1), 3) := by decide +kernel
theorem d_mo_divide_139 : decode b_mo_divide 139 = .ok (.goto (-116), 3) := by decide +kernel
theorem d_mo_divide_142 : decode b_mo_divide 142 = .ok (.return_, 1) := by decide +kernel
theorem d_mo_isEven_0 : decode b_mo_isEven 0 = .ok (.aload_n 0, 1) := by decide +kernel
theorem d_mo_isEven_1 : decode b_mo_isEven 1 = .ok (.getfield 17, 3) := by decide +kernel
theorem d_mo_isEven_4 : decode b_mo_isEven 4 = .ok (.bipush 40, 2) := by decide +kernel
theorem d_mo_isEven_6 : decode b_mo_isEven 6 = .ok (.iload_n 1, 1) := by decide +kernel
theorem d_mo_isEven_7 : decode b_mo_isEven 7 = .ok (.imul, 1) := by decide +kernel
theorem d_mo_isEven_8 : decode b_mo_isEven 8 = .ok (.iaload, 1) := by decide +kernel
theorem d_mo_isEven_9 : decode b_mo_isEven 9 = .ok (.iconst 2, 1) := by decide +kernel
theorem d_mo_isEven_10 : decode b_mo_isEven 10 = .ok (.irem, 1) := by decide +kernel
theorem d_mo_isEven_11 : decode b_mo_isEven 11 = .ok (.ifCond .ne 7, 3) := by decide +kernel
theorem d_mo_isEven_14 : decode b_mo_isEven 14 = .ok (.iconst 1, 1) := by decide +kernel
theorem d_mo_isEven_15 : decode b_mo_isEven 15 = .ok (.goto 4, 3) := by decide +kernel
theorem d_mo_isEven_18 : decode b_mo_isEven 18 = .ok (.iconst 0, 1) := by decide +kernel
theorem d_mo_isEven_19 : decode b_mo_isEven 19 = .ok (.ireturn, 1) := by decide +kernel
theorem d_mo_common_0 : decode b_mo_common 0 = .ok (.aload_n 0, 1) := by decide +kernel
theorem d_mo_common_1 : decode b_mo_common 1 = .ok (.iload_n 1, 1) := by decide +kernel
theorem d_mo_common_2 : decode b_mo_common 2 = .ok (.sipush 154, 3) := by decide +kernel
theorem d_mo_common_5 : decode b_mo_common 5 = .ok (.invokevirtual 62, 3) := by decide +kernel
theorem d_mo_common_8 : decode b_mo_common 8 = .ok (.aload_n 0, 1) := by decide +kernel
theorem d_mo_common_9 : decode b_mo_common 9 = .ok (.iload_n 2, 1) := by decide +kernel
theorem d_mo_common_10 : decode b_mo_common 10 = .ok (.sipush 155, 3) := by decide +kernel
theorem d_mo_common_13 : decode b_mo_common 13 = .ok (.invokevirtual 62, 3) := by decide +kernel
theorem d_mo_common_16 : decode b_mo_common 16 = .ok (.iconst 0, 1) := by decide +kernel
theorem d_mo_common_17 : decode b_mo_common 17 = .ok (.istore_n 3, 1) := by decide +kernel
theorem d_mo_common_18 : decode b_mo_common 18 = .ok (.aload_n 0, 1) := by decide +kernel
theorem d_mo_common_19 : decode b_mo_common 19 = .ok (.getfield 20, 3) := by decide +kernel
theorem d_mo_common_22 : decode b_mo_common 22 = .ok (.sipush 154, 3) := by decide +kernel
theorem d_mo_common_25 : decode b_mo_common 25 = .ok (.iaload, 1) := by decide +kernel
theorem d_mo_common_26 : decode b_mo_common 26 = .ok (.ifCond .le 130, 3) := by decide +kernel
theorem d_mo_common_29 : decode b_mo_common 29 = .ok (.aload_n 0, 1) := by decide +kernel
theorem d_mo_common_30 : decode b_mo_common 30 = .ok (.getfield 20, 3) := by decide +kernel
theorem d_mo_common_33 : decode b_mo_common 33 = .ok (.sipush 155, 3) := by decide +kernel
theorem d_mo_common_36 : decode b_mo_common 36 = .ok (.iaload, 1) := by decide +kernel
theorem d_mo_common_37 : decode b_mo_common 37 = .ok (.ifCond .le 119, 3) := by decide +kernel
theorem d_mo_common_40 : decode b_mo_common 40 = .ok (.aload_n 0, 1) := by decide +kernel
theorem d_mo_common_41 : decode b_mo_common 41 = .ok (.sipush 154, 3) := by decide +kernel
theorem d_mo_common_44 : decode b_mo_common 44 = .ok (.invokevirtual 65, 3) := by decide +kernel
theorem d_mo_common_47 : decode b_mo_common 47 = .ok (.istore 4, 2) := by decide +kernel
theorem d_mo_common_49 : decode b_mo_common 49 = .ok (.aload_n 0, 1) := by decide +kernel
theorem d_mo_common_50 : decode b_mo_common 50 = .ok (.sipush 155, 3) := by decide +kernel
theorem d_mo_common_53 : decode b_mo_common 53 = .ok (.invokevirtual 65, 3) := by decide +kernel
theorem d_mo_common_56 : decode b_mo_common 56 = .ok (.istore 5, 2) := by decide +kernel
theorem d_mo_common_58 : decode b_mo_common 58 = .ok (.iload 4, 2) := by decide +kernel
theorem d_mo_common_60 : decode b_mo_common 60 = .ok (.ifCond .ne 8, 3) := by decide +kernel
theorem d_mo_common_63 : decode b_mo_common 63 = .ok (.iload 5, 2) := by decide +kernel
theorem d_mo_common_65 : decode b_mo_common 65 = .ok (.ifCond .eq 52, 3) := by decide +kernel
theorem d_mo_common_68 : decode b_mo_common 68 = .ok (.iload 4, 2) := by decide +kernel
theorem d_mo_common_70 : decode b_mo_common 70 = .ok (.ifCond .eq 14, 3) := by decide +kernel
theorem d_mo_common_73 : decode b_mo_common 73 = .ok (.iload 5, 2) := by decide +kernel
theorem d_mo_common_75 : decode b_mo_common 75 = .ok (.ifCond .eq 9, 3) := by decide +kernel
theorem d_mo_common_78 : decode b_mo_common 78 = .ok (.iload_n 3, 1) := by decide +kernel
theorem d_mo_common_79 : decode b_mo_common 79 = .ok (.iconst 1, 1) := by decide +kernel
theorem d_mo_common_80 : decode b_mo_common 80 = .ok (.iadd, 1) := by decide +kernel
theorem d_mo_common_81 : decode b_mo_common 81 = .ok (.goto 4, 3) := by decide +kernel
theorem d_mo_common_84 : decode b_mo_common 84 = .ok (.iload_n 3, 1) := by decide +kernel
theorem d_mo_common_85 : decode b_mo_common 85 = .ok (.istore_n 3, 1) := by decide +kernel
theorem d_mo_common_86 : decode b_mo_common 86 = .ok (.iload 4, 2) := by decide +kernel
theorem d_mo_common_88 : decode b_mo_common 88 = .ok (.ifCond .eq 12, 3) := by decide +kernel
theorem d_mo_common_91 : decode b_mo_common 91 = .ok (.aload_n 0, 1) := by decide +kernel
theorem d_mo_common_92 : decode b_mo_common 92 = .ok (.sipush 154, 3) := by decide +kernel
theorem d_mo_common_95 : decode b_mo_common 95 = .ok (.iconst 2, 1) := by decide +kernel
theorem d_mo_common_96 : decode b_mo_common 96 = .ok (.invokevirtual 69, 3) := by decide +kernel
theorem d_mo_common_99 : decode b_mo_common 99 = .ok (.pop, 1) := by decide +kernel
theorem d_mo_common_100 : decode b_mo_common 100 = .ok (.iload 5, 2) := by decide +kernel
theorem d_mo_common_102 : decode b_mo_common 102 = .ok (.ifCond .eq 51, 3) := by decide +kernel
theorem d_mo_common_105 : decode b_mo_common 105 = .ok (.aload_n 0, 1) := by decide +kernel
theorem d_mo_common_106 : decode b_mo_common 106 = .ok (.sipush 155, 3) := by decide +kernel
theorem d_mo_common_109 : decode b_mo_common 109 = .ok (.iconst 2, 1) := by decide +kernel
theorem d_mo_common_110 : decode b_mo_common 110 = .ok (.invokevirtual 69, 3) := by decide +kernel
theorem d_mo_common_113 : decode b_mo_common 113 = .ok (.pop, 1) := by decide +kernel
theorem d_mo_common_114 : decode b_mo_common 114 = .ok (.goto 39, 3) := by decide +kernel
theorem d_mo_common_117 : decode b_mo_common 117 = .ok (.aload_n 0, 1) := by decide +kernel
theorem d_mo_common_118 : decode b_mo_common 118 = .ok (.sipush 154, 3) := by decide +kernel
theorem d_mo_common_121 : decode b_mo_common 121 = .ok (.sipush 155, 3) := by decide +kernel
theorem d_mo_common_124 : decode b_mo_common 124 = .ok (.invokevirtual 55, 3) := by decide +kernel
theorem d_mo_common_127 : decode b_mo_common 127 = .ok (.ifCond .ge 16, 3) := by decide +kernel
theorem d_mo_common_130 : decode b_mo_common 130 = .ok (.aload_n 0, 1) := by decide +kernel
theorem d_mo_common_131 : decode b_mo_common 131 = .ok (.sipush 155, 3) := by decide +kernel
theorem d_mo_common_134 : decode b_mo_common 134 = .ok (.sipush 154, 3) := by decide +kernel
theorem d_mo_common_137 : decode b_mo_common 137 = .ok (.invokevirtual 59, 3) := by decide +kernel
theorem d_mo_common_140 : decode b_mo_common 140 = .ok (.goto 13, 3) := by decide +kernel
theorem d_mo_common_143 : decode b_mo_common 143 = .ok (.aload_n 0, 1) := by decide +kernel
theorem d_mo_common_144 : decode b_mo_common 144 = .ok (.sipush 154, 3) := by decide +kernel
theorem d_mo_common_147 : decode b_mo_common 147 = .ok (.sipush 155, 3) := by decide +kernel
theorem d_mo_common_150 : decode b_mo_common 150 = .ok (.invokevirtual 59, 3) := by decide +kernel
theorem d_mo_common_153 : decode b_mo_common 153 = .ok (.goto (-135), 3) := by decide +kernel
theorem d_mo_common_156 : decode b_mo_common 156 = .ok (.aload_n 0, 1) := by decide +kernel
theorem d_mo_common_157 : decode b_mo_common 157 = .ok (.getfield 20, 3) := by decide +kernel
theorem d_mo_common_160 : decode b_mo_common 160 = .ok (.sipush 154, 3) := by decide +kernel
theorem d_mo_common_163 : decode b_mo_common 163 = .ok (.iaload, 1) := by decide +kernel
theorem d_mo_common_164 : decode b_mo_common 164 = .ok (.ifCond .ne 13, 3) := by decide +kernel
theorem d_mo_common_167 : decode b_mo_common 167 = .ok (.aload_n 0, 1) := by decide +kernel
theorem d_mo_common_168 : decode b_mo_common 168 = .ok (.sipush 155, 3) := by decide +kernel
theorem d_mo_common_171 : decode b_mo_common 171 = .ok (.sipush 154, 3) := by decide +kernel
theorem d_mo_common_174 : decode b_mo_common 174 = .ok (.invokevirtual 62, 3) := by decide +kernel
theorem d_mo_common_177 : decode b_mo_common 177 = .ok (.iconst 0, 1) := by decide +kernel
theorem d_mo_common_178 : decode b_mo_common 178 = .ok (.istore 4, 2) := by decide +kernel
theorem d_mo_common_180 : decode b_mo_common 180 = .ok (.iload 4, 2) := by decide +kernel
theorem d_mo_common_182 : decode b_mo_common 182 = .ok (.iload_n 3, 1) := by decide +kernel
theorem d_mo_common_183 : decode b_mo_common 183 = .ok (.if_icmp .ge 19, 3) := by decide +kernel
theorem d_mo_common_186 : decode b_mo_common 186 = .ok (.aload_n 0, 1) := by decide +kernel
theorem d_mo_common_187 : decode b_mo_common 187 = .ok (.sipush 154, 3) := by decide +kernel
theorem d_mo_common_190 : decode b_mo_common 190 = .ok (.sipush 154, 3) := by decide +kernel
theorem d_mo_common_193 : decode b_mo_common 193 = .ok (.invokevirtual 39, 3) := by decide +kernel
theorem d_mo_common_196 : decode b_mo_common 196 = .ok (.iinc 4 1, 3) := by decide +kernel
theorem d_mo_common_199 : decode b_mo_common 199 = .ok (.goto (-19), 3) := by decide +kernel
theorem d_mo_common_202 : decode b_mo_common 202 = .ok (.return_, 1) := by decide +kernel
theorem d_mo_copyValue_0 : decode b_mo_copyValue 0 = .ok (.aload_n 0, 1) := by decide +kernel
theorem d_mo_copyValue_1 : decode b_mo_copyValue 1 = .ok (.iconst 2, 1) := by decide +kernel
theorem d_mo_copyValue_2 : decode b_mo_copyValue 2 = .ok (.iload_n 1, 1) := by decide +kernel
theorem d_mo_copyValue_3 : decode b_mo_copyValue 3 = .ok (.imul, 1) := by decide +kernel
theorem d_mo_copyValue_4 : decode b_mo_copyValue 4 = .ok (.iconst 2, 1) := by decide +kernel
theorem d_mo_copyValue_5 : decode b_mo_copyValue 5 = .ok (.iload_n 2, 1) := by decide +kernel
theorem d_mo_copyValue_6 : decode b_mo_copyValue 6 = .ok (.imul, 1) := by decide +kernel
theorem d_mo_copyValue_7 : decode b_mo_copyValue 7 = .ok (.invokevirtual 62, 3) := by decide +kernel
theorem d_mo_copyValue_10 : decode b_mo_copyValue 10 = .ok (.aload_n 0, 1) := by decide +kernel
theorem d_mo_copyValue_11 : decode b_mo_copyValue 11 = .ok (.iconst 2, 1) := by decide +kernel
theorem d_mo_copyValue_12 : decode b_mo_copyValue 12 = .ok (.iload_n 1, 1) := by decide +kernel
theorem d_mo_copyValue_13 : decode b_mo_copyValue 13 = .ok (.imul, 1) := by decide +kernel
theorem d_mo_copyValue_14 : decode b_mo_copyValue 14 = .ok (.iconst 1, 1) := by decide +kernel
theorem d_mo_copyValue_15 : decode b_mo_copyValue 15 = .ok (.iadd, 1) := by decide +kernel
theorem d_mo_copyValue_16 : decode b_mo_copyValue 16 = .ok (.iconst 2, 1) := by decide +kernel
theorem d_mo_copyValue_17 : decode b_mo_copyValue 17 = .ok (.iload_n 2, 1) := by decide +kernel
theorem d_mo_copyValue_18 : decode b_mo_copyValue 18 = .ok (.imul, 1) := by decide +kernel
theorem d_mo_copyValue_19 : decode b_mo_copyValue 19 = .ok (.iconst 1, 1) := by decide +kernel
theorem d_mo_copyValue_20 : decode b_mo_copyValue 20 = .ok (.iadd, 1) := by decide +kernel
theorem d_mo_copyValue_21 : decode b_mo_copyValue 21 = .ok (.invokevirtual 62, 3) := by decide +kernel
theorem d_mo_copyValue_24 : decode b_mo_copyValue 24 = .ok (.aload_n 0, 1) := by decide +kernel
theorem d_mo_copyValue_25 : decode b_mo_copyValue 25 = .ok (.getfield 23, 3) := by decide +kernel
theorem d_mo_copyValue_28 : decode b_mo_copyValue 28 = .ok (.iload_n 2, 1) := by decide +kernel
theorem d_mo_copyValue_29 : decode b_mo_copyValue 29 = .ok (.aload_n 0, 1) := by decide +kernel
theorem d_mo_copyValue_30 : decode b_mo_copyValue 30 = .ok (.getfield 23, 3) := by decide +kernel
theorem d_mo_copyValue_33 : decode b_mo_copyValue 33 = .ok (.iload_n 1, 1) := by decide +kernel
theorem d_mo_copyValue_34 : decode b_mo_copyValue 34 = .ok (.iaload, 1) := by decide +kernel
theorem d_mo_copyValue_35 : decode b_mo_copyValue 35 = .ok (.iastore, 1) := by decide +kernel
theorem d_mo_copyValue_36 : decode b_mo_copyValue 36 = .ok (.return_, 1) := by decide +kernel
theorem d_mo_setValue_0 : decode b_mo_setValue 0 = .ok (.aload_n 0, 1) := by decide +kernel
theorem d_mo_setValue_1 : decode b_mo_setValue 1 = .ok (.iconst 2, 1) := by decide +kernel
theorem d_mo_setValue_2 : decode b_mo_setValue 2 = .ok (.iload_n 1, 1) := by decide +kernel
theorem d_mo_setValue_3 : decode b_mo_setValue 3 = .ok (.imul, 1) := by decide +kernel
theorem d_mo_setValue_4 : decode b_mo_setValue 4 = .ok (.iload_n 2, 1) := by decide +kernel
theorem d_mo_setValue_5 : decode b_mo_setValue 5 = .ok (.invokevirtual 35, 3) := by decide +kernel
theorem d_mo_setValue_8 : decode b_mo_setValue 8 = .ok (.aload_n 0, 1) := by decide +kernel
theorem d_mo_setValue_9 : decode b_mo_setValue 9 = .ok (.iconst 2, 1) := by decide +kernel
theorem d_mo_setValue_10 : decode b_mo_setValue 10 = .ok (.iload_n 1, 1) := by decide +kernel
theorem d_mo_setValue_11 : decode b_mo_setValue 11 = .ok (.imul, 1) := by decide +kernel
theorem d_mo_setValue_12 : decode b_mo_setValue 12 = .ok (.iconst 1, 1) := by decide +kernel
theorem d_mo_setValue_13 : decode b_mo_setValue 13 = .ok (.iadd, 1) := by decide +kernel
theorem d_mo_setValue_14 : decode b_mo_setValue 14 = .ok (.iconst 1, 1) := by decide +kernel
theorem d_mo_setValue_15 : decode b_mo_setValue 15 = .ok (.invokevirtual 35, 3) := by decide +kernel
theorem d_mo_setValue_18 : decode b_mo_setValue 18 = .ok (.aload_n 0, 1) := by decide +kernel
theorem d_mo_setValue_19 : decode b_mo_setValue 19 = .ok (.getfield 23, 3) := by decide +kernel
theorem d_mo_setValue_22 : decode b_mo_setValue 22 = .ok (.iload_n 1, 1) := by decide +kernel
theorem d_mo_setValue_23 : decode b_mo_setValue 23 = .ok (.iload_n 2, 1) := by decide +kernel
theorem d_mo_setValue_24 : decode b_mo_setValue 24 = .ok (.ifCond .le 7, 3) := by decide +kernel
theorem d_mo_setValue_27 : decode b_mo_setValue 27 = .ok (.iconst 1, 1) := by decide +kernel
theorem d_mo_setValue_28 : decode b_mo_setValue 28 = .ok (.goto 4, 3) := by decide +kernel
theorem d_mo_setValue_31 : decode b_mo_setValue 31 = .ok (.iconst 0, 1) := by decide +kernel
theorem d_mo_setValue_32 : decode b_mo_setValue 32 = .ok (.iastore, 1) := by decide +kernel
theorem d_mo_setValue_33 : decode b_mo_setValue 33 = .ok (.return_, 1) := by decide +kernel
theorem d_mo_isOne_0 : decode b_mo_isOne 0 = .ok (.aload_n 0, 1) := by decide +kernel
theorem d_mo_isOne_1 : decode b_mo_isOne 1 = .ok (.getfield 20, 3) := by decide +kernel
theorem d_mo_isOne_4 : decode b_mo_isOne 4 = .ok (.iload_n 1, 1) := by decide +kernel
theorem d_mo_isOne_5 : decode b_mo_isOne 5 = .ok (.iaload, 1) := by decide +kernel
theorem d_mo_isOne_6 : decode b_mo_isOne 6 = .ok (.iconst 1, 1) := by decide +kernel
theorem d_mo_isOne_7 : decode b_mo_isOne 7 = .ok (.if_icmp .ne 20, 3) := by decide +kernel
theorem d_mo_isOne_10 : decode b_mo_isOne 10 = .ok (.aload_n 0, 1) := by decide +kernel
theorem d_mo_isOne_11 : decode b_mo_isOne 11 = .ok (.getfield 17, 3) := by decide +kernel
theorem d_mo_isOne_14 : decode b_mo_isOne 14 = .ok (.bipush 40, 2) := by decide +kernel
theorem d_mo_isOne_16 : decode b_mo_isOne 16 = .ok (.iload_n 1, 1) := by decide +kernel
theorem d_mo_isOne_17 : decode b_mo_isOne 17 = .ok (.imul, 1) := by decide +kernel
theorem d_mo_isOne_18 : decode b_mo_isOne 18 = .ok (.iaload, 1) := by decide +kernel
theorem d_mo_isOne_19 : decode b_mo_isOne 19 = .ok (.iconst 1, 1) := by decide +kernel
theorem d_mo_isOne_20 : decode b_mo_isOne 20 = .ok (.if_icmp .ne 7, 3) := by decide +kernel
theorem d_mo_isOne_23 : decode b_mo_isOne 23 = .ok (.iconst 1, 1) := by decide +kernel
theorem d_mo_isOne_24 : decode b_mo_isOne 24 = .ok (.goto 4, 3) := by decide +kernel
theorem d_mo_isOne_27 : decode b_mo_isOne 27 = .ok (.iconst 0, 1) := by decide +kernel
theorem d_mo_isOne_28 : decode b_mo_isOne 28 = .ok (.ireturn, 1) := by decide +kernel
theorem d_mo_isWhole_0 : decode b_mo_isWhole 0 = .ok (.aload_n 0, 1) := by decide +kernel
theorem d_mo_isWhole_1 : decode b_mo_isWhole 1 = .ok (.iconst 2, 1) := by decide +kernel
theorem d_mo_isWhole_2 : decode b_mo_isWhole 2 = .ok (.iload_n 1, 1) := by decide +kernel
theorem d_mo_isWhole_3 : decode b_mo_isWhole 3 = .ok (.imul, 1) := by decide +kernel
theorem d_mo_isWhole_4 : decode b_mo_isWhole 4 = .ok (.iconst 1, 1) := by decide +kernel
theorem d_mo_isWhole_5 : decode b_mo_isWhole 5 = .ok (.iadd, 1) := by decide +kernel
theorem d_mo_isWhole_6 : decode b_mo_isWhole 6 = .ok (.invokevirtual 72, 3) := by decide +kernel
theorem d_mo_isWhole_9 : decode b_mo_isWhole 9 = .ok (.ireturn, 1) := by decide +kernel
theorem d_mo_lowest_0 : decode b_mo_lowest 0 = .ok (.aload_n 0, 1) := by decide +kernel
theorem d_mo_lowest_1 : decode b_mo_lowest 1 = .ok (.sipush 152, 3) := by decide +kernel
theorem d_mo_lowest_4 : decode b_mo_lowest 4 = .ok (.invokevirtual 72, 3) := by decide +kernel
theorem d_mo_lowest_7 : decode b_mo_lowest 7 = .ok (.ifCond .ne 14, 3) := by decide +kernel
theorem d_mo_lowest_10 : decode b_mo_lowest 10 = .ok (.aload_n 0, 1) := by decide +kernel
theorem d_mo_lowest_11 : decode b_mo_lowest 11 = .ok (.getfield 20, 3) := by decide +kernel
theorem d_mo_lowest_14 : decode b_mo_lowest 14 = .ok (.sipush 150, 3) := by decide +kernel
theorem d_mo_lowest_17 : decode b_mo_lowest 17 = .ok (.iaload, 1) := by decide +kernel
theorem d_mo_lowest_18 : decode b_mo_lowest 18 = .ok (.ifCond .ne 26, 3) := by decide +kernel
theorem d_mo_lowest_21 : decode b_mo_lowest 21 = .ok (.aload_n 0, 1) := by decide +kernel
theorem d_mo_lowest_22 : decode b_mo_lowest 22 = .ok (.sipush 150, 3) := by decide +kernel
theorem d_mo_lowest_25 : decode b_mo_lowest 25 = .ok (.iconst 2, 1) := by decide +kernel
theorem d_mo_lowest_26 : decode b_mo_lowest 26 = .ok (.iload_n 1, 1) := by decide +kernel
theorem d_mo_lowest_27 : decode b_mo_lowest 27 = .ok (.imul, 1) := by decide +kernel
theorem d_mo_lowest_28 : decode b_mo_lowest 28 = .ok (.invokevirtual 62, 3) := by decide +kernel
theorem d_mo_lowest_31 : decode b_mo_lowest 31 = .ok (.aload_n 0, 1) := by decide +kernel
theorem d_mo_lowest_32 : decode b_mo_lowest 32 = .ok (.iconst 2, 1) := by decide +kernel
theorem d_mo_lowest_33 : decode b_mo_lowest 33 = .ok (.iload_n 1, 1) := by decide +kernel
theorem d_mo_lowest_34 : decode b_mo_lowest 34 = .ok (.imul, 1) := by decide +kernel
theorem d_mo_lowest_35 : decode b_mo_lowest 35 = .ok (.iconst 1, 1) := by decide +kernel
theorem d_mo_lowest_36 : decode b_mo_lowest 36 = .ok (.iadd, 1) := by decide +kernel
theorem d_mo_lowest_37 : decode b_mo_lowest 37 = .ok (.iconst 1, 1) := by decide +kernel
theorem d_mo_lowest_38 : decode b_mo_lowest 38 = .ok (.invokevirtual 35, 3) := by decide +kernel
theorem d_mo_lowest_41 : decode b_mo_lowest 41 = .ok (.goto 47, 3) := by decide +kernel
theorem d_mo_lowest_44 : decode b_mo_lowest 44 = .ok (.aload_n 0, 1) := by decide +kernel
theorem d_mo_lowest_45 : decode b_mo_lowest 45 = .ok (.sipush 150, 3) := by decide +kernel
theorem d_mo_lowest_48 : decode b_mo_lowest 48 = .ok (.sipush 152, 3) := by decide +kernel
theorem d_mo_lowest_51 : decode b_mo_lowest 51 = .ok (.invokevirtual 75, 3) := by decide +kernel
theorem d_mo_lowest_54 : decode b_mo_lowest 54 = .ok (.aload_n 0, 1) := by decide +kernel
theorem d_mo_lowest_55 : decode b_mo_lowest 55 = .ok (.sipush 150, 3) := by decide +kernel
theorem d_mo_lowest_58 : decode b_mo_lowest 58 = .ok (.sipush 154, 3) := by decide +kernel
theorem d_mo_lowest_61 : decode b_mo_lowest 61 = .ok (.iconst 2, 1) := by decide +kernel
theorem d_mo_lowest_62 : decode b_mo_lowest 62 = .ok (.iload_n 1, 1) := by decide +kernel
theorem d_mo_lowest_63 : decode b_mo_lowest 63 = .ok (.imul, 1) := by decide +kernel
theorem d_mo_lowest_64 : decode b_mo_lowest 64 = .ok (.sipush 156, 3) := by decide +kernel
theorem d_mo_lowest_67 : decode b_mo_lowest 67 = .ok (.invokevirtual 78, 3) := by decide +kernel
theorem d_mo_lowest_70 : decode b_mo_lowest 70 = .ok (.aload_n 0, 1) := by decide +kernel
theorem d_mo_lowest_71 : decode b_mo_lowest 71 = .ok (.sipush 152, 3) := by decide +kernel
theorem d_mo_lowest_74 : decode b_mo_lowest 74 = .ok (.sipush 154, 3) := by decide +kernel
theorem d_mo_lowest_77 : decode b_mo_lowest 77 = .ok (.iconst 2, 1) := by decide +kernel
theorem d_mo_lowest_78 : decode b_mo_lowest 78 = .ok (.iload_n 1, 1) := by decide +kernel
theorem d_mo_lowest_79 : decode b_mo_lowest 79 = .ok (.imul, 1) := by decide +kernel
theorem d_mo_lowest_80 : decode b_mo_lowest 80 = .ok (.iconst 1, 1) := by decide +kernel
theorem d_mo_lowest_81 : decode b_mo_lowest 81 = .ok (.iadd, 1) := by decide +kernel
theorem d_mo_lowest_82 : decode b_mo_lowest 82 = .ok (.sipush 156, 3) := by decide +kernel
theorem d_mo_lowest_85 : decode b_mo_lowest 85 = .ok (.invokevirtual 78, 3) := by decide +kernel
theorem d_mo_lowest_88 : decode b_mo_lowest 88 = .ok (.aload_n 0, 1) := by decide +kernel
theorem d_mo_lowest_89 : decode b_mo_lowest 89 = .ok (.getfield 23, 3) := by decide +kernel
theorem d_mo_lowest_92 : decode b_mo_lowest 92 = .ok (.iload_n 1, 1) := by decide +kernel
theorem d_mo_lowest_93 : decode b_mo_lowest 93 = .ok (.aload_n 0, 1) := by decide +kernel
theorem d_mo_lowest_94 : decode b_mo_lowest 94 = .ok (.getfield 20, 3) := by decide +kernel
theorem d_mo_lowest_97 : decode b_mo_lowest 97 = .ok (.iconst 2, 1) := by decide +kernel
theorem d_mo_lowest_98 : decode b_mo_lowest 98 = .ok (.iload_n 1, 1) := by decide +kernel
theorem d_mo_lowest_99 : decode b_mo_lowest 99 = .ok (.imul, 1) := by decide +kernel
theorem d_mo_lowest_100 : decode b_mo_lowest 100 = .ok (.iaload, 1) := by decide +kernel
theorem d_mo_lowest_101 : decode b_mo_lowest 101 = .ok (.ifCond .ne 7, 3) := by decide +kernel
theorem d_mo_lowest_104 : decode b_mo_lowest 104 = .ok (.iconst 0, 1) := by decide +kernel
theorem d_mo_lowest_105 : decode b_mo_lowest 105 = .ok (.goto 4, 3) := by decide +kernel
theorem d_mo_lowest_108 : decode b_mo_lowest 108 = .ok (.iload_n 2, 1) := by decide +kernel
theorem d_mo_lowest_109 : decode b_mo_lowest 109 = .ok (.iastore, 1) := by decide +kernel
theorem d_mo_lowest_110 : decode b_mo_lowest 110 = .ok (.aload_n 0, 1) := by decide +kernel
theorem d_mo_lowest_111 : decode b_mo_lowest 111 = .ok (.iconst 2, 1) := by decide +kernel
theorem d_mo_lowest_112 : decode b_mo_lowest 112 = .ok (.iload_n 1, 1) := by decide +kernel
theorem d_mo_lowest_113 : decode b_mo_lowest 113 = .ok (.imul, 1) := by decide +kernel
theorem d_mo_lowest_114 : decode b_mo_lowest 114 = .ok (.sipush 158, 3) := by decide +kernel
theorem d_mo_lowest_117 : decode b_mo_lowest 117 = .ok (.invokevirtual 55, 3) := by decide +kernel
theorem d_mo_lowest_120 : decode b_mo_lowest 120 = .ok (.ifCond .ge 22, 3) := by decide +kernel
theorem d_mo_lowest_123 : decode b_mo_lowest 123 = .ok (.aload_n 0, 1) := by decide +kernel
theorem d_mo_lowest_124 : decode b_mo_lowest 124 = .ok (.iconst 2, 1) := by decide +kernel
theorem d_mo_lowest_125 : decode b_mo_lowest 125 = .ok (.iload_n 1, 1) := by decide +kernel
theorem d_mo_lowest_126 : decode b_mo_lowest 126 = .ok (.imul, 1) := by decide +kernel
theorem d_mo_lowest_127 : decode b_mo_lowest 127 = .ok (.iconst 1, 1) := by decide +kernel
theorem d_mo_lowest_128 : decode b_mo_lowest 128 = .ok (.iadd, 1) := by decide +kernel
theorem d_mo_lowest_129 : decode b_mo_lowest 129 = .ok (.sipush 158, 3) := by decide +kernel
theorem d_mo_lowest_132 : decode b_mo_lowest 132 = .ok (.invokevirtual 55, 3) := by decide +kernel
theorem d_mo_lowest_135 : decode b_mo_lowest 135 = .ok (.ifCond .ge 7, 3) := by decide +kernel
theorem d_mo_lowest_138 : decode b_mo_lowest 138 = .ok (.iconst 0, 1) := by decide +kernel
theorem d_mo_lowest_139 : decode b_mo_lowest 139 = .ok (.goto 4, 3) := by decide +kernel
theorem d_mo_lowest_142 : decode b_mo_lowest 142 = .ok (.iconst 1, 1) := by decide +kernel
theorem d_mo_lowest_143 : decode b_mo_lowest 143 = .ok (.ireturn, 1) := by decide +kernel
theorem d_mo_sum_0 : decode b_mo_sum 0 = .ok (.aload_n 0, 1) := by decide +kernel
theorem d_mo_sum_1 : decode b_mo_sum 1 = .ok (.iconst 2, 1) := by decide +kernel
theorem d_mo_sum_2 : decode b_mo_sum 2 = .ok (.iload_n 1, 1) := by decide +kernel
theorem d_mo_sum_3 : decode b_mo_sum 3 = .ok (.imul, 1) := by decide +kernel
theorem d_mo_sum_4 : decode b_mo_sum 4 = .ok (.iconst 2, 1) := by decide +kernel
theorem d_mo_sum_5 : decode b_mo_sum 5 = .ok (.iload_n 2, 1) := by decide +kernel
theorem d_mo_sum_6 : decode b_mo_sum 6 = .ok (.imul, 1) := by decide +kernel
theorem d_mo_sum_7 : decode b_mo_sum 7 = .ok (.iconst 1, 1) := by decide +kernel
theorem d_mo_sum_8 : decode b_mo_sum 8 = .ok (.iadd, 1) := by decide +kernel
theorem d_mo_sum_9 : decode b_mo_sum 9 = .ok (.sipush 150, 3) := by decide +kernel
theorem d_mo_sum_12 : decode b_mo_sum 12 = .ok (.invokevirtual 82, 3) := by decide +kernel
theorem d_mo_sum_15 : decode b_mo_sum 15 = .ok (.aload_n 0, 1) := by decide +kernel
theorem d_mo_sum_16 : decode b_mo_sum 16 = .ok (.iconst 2, 1) := by decide +kernel
theorem d_mo_sum_17 : decode b_mo_sum 17 = .ok (.iload_n 2, 1) := by decide +kernel
theorem d_mo_sum_18 : decode b_mo_sum 18 = .ok (.imul, 1) := by decide +kernel
theorem d_mo_sum_19 : decode b_mo_sum 19 = .ok (.iconst 2, 1) := by decide +kernel
theorem d_mo_sum_20 : decode b_mo_sum 20 = .ok (.iload_n 1, 1) := by decide +kernel
theorem d_mo_sum_21 : decode b_mo_sum 21 = .ok (.imul, 1) := by decide +kernel
theorem d_mo_sum_22 : decode b_mo_sum 22 = .ok (.iconst 1, 1) := by decide +kernel
theorem d_mo_sum_23 : decode b_mo_sum 23 = .ok (.iadd, 1) := by decide +kernel
theorem d_mo_sum_24 : decode b_mo_sum 24 = .ok (.sipush 151, 3) := by decide +kernel
theorem d_mo_sum_27 : decode b_mo_sum 27 = .ok (.invokevirtual 82, 3) := by decide +kernel
theorem d_mo_sum_30 : decode b_mo_sum 30 = .ok (.aload_n 0, 1) := by decide +kernel
theorem d_mo_sum_31 : decode b_mo_sum 31 = .ok (.iconst 2, 1) := by decide +kernel
theorem d_mo_sum_32 : decode b_mo_sum 32 = .ok (.iload_n 1, 1) := by decide +kernel
theorem d_mo_sum_33 : decode b_mo_sum 33 = .ok (.imul, 1) := by decide +kernel
theorem d_mo_sum_34 : decode b_mo_sum 34 = .ok (.iconst 1, 1) := by decide +kernel
theorem d_mo_sum_35 : decode b_mo_sum 35 = .ok (.iadd, 1) := by decide +kernel
theorem d_mo_sum_36 : decode b_mo_sum 36 = .ok (.iconst 2, 1) := by decide +kernel
theorem d_mo_sum_37 : decode b_mo_sum 37 = .ok (.iload_n 2, 1) := by decide +kernel
theorem d_mo_sum_38 : decode b_mo_sum 38 = .ok (.imul, 1) := by decide +kernel
theorem d_mo_sum_39 : decode b_mo_sum 39 = .ok (.iconst 1, 1) := by decide +kernel
theorem d_mo_sum_40 : decode b_mo_sum 40 = .ok (.iadd, 1) := by decide +kernel
theorem d_mo_sum_41 : decode b_mo_sum 41 = .ok (.sipush 152, 3) := by decide +kernel
theorem d_mo_sum_44 : decode b_mo_sum 44 = .ok (.invokevirtual 82, 3) := by decide +kernel
theorem d_mo_sum_47 : decode b_mo_sum 47 = .ok (.aload_n 0, 1) := by decide +kernel
theorem d_mo_sum_48 : decode b_mo_sum 48 = .ok (.getfield 23, 3) := by decide +kernel
theorem d_mo_sum_51 : decode b_mo_sum 51 = .ok (.iload_n 1, 1) := by decide +kernel
theorem d_mo_sum_52 : decode b_mo_sum 52 = .ok (.iaload, 1) := by decide +kernel
theorem d_mo_sum_53 : decode b_mo_sum 53 = .ok (.istore 4, 2) := by decide +kernel
theorem d_mo_sum_55 : decode b_mo_sum 55 = .ok (.aload_n 0, 1) := by decide +kernel
theorem d_mo_sum_56 : decode b_mo_sum 56 = .ok (.getfield 23, 3) := by decide +kernel
theorem d_mo_sum_59 : decode b_mo_sum 59 = .ok (.iload_n 2, 1) := by decide +kernel
theorem d_mo_sum_60 : decode b_mo_sum 60 = .ok (.iaload, 1) := by decide +kernel
theorem d_mo_sum_61 : decode b_mo_sum 61 = .ok (.iload_n 3, 1) := by decide +kernel
theorem d_mo_sum_62 : decode b_mo_sum 62 = .ok (.imul, 1) := by decide +kernel
theorem d_mo_sum_63 : decode b_mo_sum 63 = .ok (.istore 5, 2) := by decide +kernel
theorem d_mo_sum_65 : decode b_mo_sum 65 = .ok (.iload 4, 2) := by decide +kernel
theorem d_mo_sum_67 : decode b_mo_sum 67 = .ok (.iload 5, 2) := by decide +kernel
theorem d_mo_sum_69 : decode b_mo_sum 69 = .ok (.imul, 1) := by decide +kernel
theorem d_mo_sum_70 : decode b_mo_sum 70 = .ok (.ifCond .lt 31, 3) := by decide +kernel
theorem d_mo_sum_73 : decode b_mo_sum 73 = .ok (.aload_n 0, 1) := by decide +kernel
theorem d_mo_sum_74 : decode b_mo_sum 74 = .ok (.sipush 150, 3) := by decide +kernel
theorem d_mo_sum_77 : decode b_mo_sum 77 = .ok (.sipush 151, 3) := by decide +kernel
theorem d_mo_sum_80 : decode b_mo_sum 80 = .ok (.invokevirtual 39, 3) := by decide +kernel
theorem d_mo_sum_83 : decode b_mo_sum 83 = .ok (.aload_n 0, 1) := by decide +kernel
theorem d_mo_sum_84 : decode b_mo_sum 84 = .ok (.iload_n 1, 1) := by decide +kernel
theorem d_mo_sum_85 : decode b_mo_sum 85 = .ok (.iload 4, 2) := by decide +kernel
theorem d_mo_sum_87 : decode b_mo_sum 87 = .ok (.ifCond .ne 8, 3) := by decide +kernel
theorem d_mo_sum_90 : decode b_mo_sum 90 = .ok (.iload 5, 2) := by decide +kernel
theorem d_mo_sum_92 : decode b_mo_sum 92 = .ok (.goto 5, 3) := by decide +kernel
theorem d_mo_sum_95 : decode b_mo_sum 95 = .ok (.iload 4, 2) := by decide +kernel
theorem d_mo_sum_97 : decode b_mo_sum 97 = .ok (.invokevirtual 85, 3) := by decide +kernel
theorem d_mo_sum_100 : decode b_mo_sum 100 = .ok (.ireturn, 1) := by decide +kernel
theorem d_mo_sum_101 : decode b_mo_sum 101 = .ok (.aload_n 0, 1) := by decide +kernel
theorem d_mo_sum_102 : decode b_mo_sum 102 = .ok (.sipush 150, 3) := by decide +kernel
theorem d_mo_sum_105 : decode b_mo_sum 105 = .ok (.sipush 151, 3) := by decide +kernel
theorem d_mo_sum_108 : decode b_mo_sum 108 = .ok (.invokevirtual 55, 3) := by decide +kernel
theorem d_mo_sum_111 : decode b_mo_sum 111 = .ok (.ifCond .lt 21, 3) := by decide +kernel
theorem d_mo_sum_114 : decode b_mo_sum 114 = .ok (.aload_n 0, 1) := by decide +kernel
theorem d_mo_sum_115 : decode b_mo_sum 115 = .ok (.sipush 150, 3) := by decide +kernel
theorem d_mo_sum_118 : decode b_mo_sum 118 = .ok (.sipush 151, 3) := by decide +kernel
theorem d_mo_sum_121 : decode b_mo_sum 121 = .ok (.invokevirtual 59, 3) := by decide +kernel
theorem d_mo_sum_124 : decode b_mo_sum 124 = .ok (.aload_n 0, 1) := by decide +kernel
theorem d_mo_sum_125 : decode b_mo_sum 125 = .ok (.iload_n 1, 1) := by decide +kernel
theorem d_mo_sum_126 : decode b_mo_sum 126 = .ok (.iload 4, 2) := by decide +kernel
theorem d_mo_sum_128 : decode b_mo_sum 128 = .ok (.invokevirtual 85, 3) := by decide +kernel
theorem d_mo_sum_131 : decode b_mo_sum 131 = .ok (.ireturn, 1) := by decide +kernel
theorem d_mo_sum_132 : decode b_mo_sum 132 = .ok (.aload_n 0, 1) := by decide +kernel
theorem d_mo_sum_133 : decode b_mo_sum 133 = .ok (.sipush 151, 3) := by decide +kernel
theorem d_mo_sum_136 : decode b_mo_sum 136 = .ok (.sipush 150, 3) := by decide +kernel
theorem d_mo_sum_139 : decode b_mo_sum 139 = .ok (.invokevirtual 59, 3) := by decide +kernel
theorem d_mo_sum_142 : decode b_mo_sum 142 = .ok (.aload_n 0, 1) := by decide +kernel
theorem d_mo_sum_143 : decode b_mo_sum 143 = .ok (.sipush 151, 3) := by decide +kernel
theorem d_mo_sum_146 : decode b_mo_sum 146 = .ok (.sipush 150, 3) := by decide +kernel
theorem d_mo_sum_149 : decode b_mo_sum 149 = .ok (.invokevirtual 62, 3) := by decide +kernel
theorem d_mo_sum_152 : decode b_mo_sum 152 = .ok (.aload_n 0, 1) := by decide +kernel
theorem d_mo_sum_153 : decode b_mo_sum 153 = .ok (.iload_n 1, 1) := by decide +kernel
theorem d_mo_sum_154 : decode b_mo_sum 154 = .ok (.iload 5, 2) := by decide +kernel
theorem d_mo_sum_156 : decode b_mo_sum 156 = .ok (.invokevirtual 85, 3) := by decide +kernel
theorem d_mo_sum_159 : decode b_mo_sum 159 = .ok (.ireturn, 1) := by decide +kernel
theorem d_mo_product_0 : decode b_mo_product 0 = .ok (.aload_n 0, 1) := by decide +kernel
theorem d_mo_product_1 : decode b_mo_product 1 = .ok (.getfield 23, 3) := by decide +kernel
theorem d_mo_product_4 : decode b_mo_product 4 = .ok (.iload_n 1, 1) := by decide +kernel
theorem d_mo_product_5 : decode b_mo_product 5 = .ok (.iaload, 1) := by decide +kernel
theorem d_mo_product_6 : decode b_mo_product 6 = .ok (.aload_n 0, 1) := by decide +kernel
theorem d_mo_product_7 : decode b_mo_product 7 = .ok (.getfield 23, 3) := by decide +kernel
theorem d_mo_product_10 : decode b_mo_product 10 = .ok (.iload_n 2, 1) := by decide +kernel
theorem d_mo_product_11 : decode b_mo_product 11 = .ok (.iaload, 1) := by decide +kernel
theorem d_mo_product_12 : decode b_mo_product 12 = .ok (.imul, 1) := by decide +kernel
theorem d_mo_product_13 : decode b_mo_product 13 = .ok (.istore_n 3, 1) := by decide +kernel
theorem d_mo_product_14 : decode b_mo_product 14 = .ok (.aload_n 0, 1) := by decide +kernel
theorem d_mo_product_15 : decode b_mo_product 15 = .ok (.iconst 2, 1) := by decide +kernel
theorem d_mo_product_16 : decode b_mo_product 16 = .ok (.iload_n 1, 1) := by decide +kernel
theorem d_mo_product_17 : decode b_mo_product 17 = .ok (.imul, 1) := by decide +kernel
theorem d_mo_product_18 : decode b_mo_product 18 = .ok (.iconst 2, 1) := by decide +kernel
theorem d_mo_product_19 : decode b_mo_product 19 = .ok (.iload_n 2, 1) := by decide +kernel
theorem d_mo_product_20 : decode b_mo_product 20 = .ok (.imul, 1) := by decide +kernel
theorem d_mo_product_21 : decode b_mo_product 21 = .ok (.sipush 150, 3) := by decide +kernel
theorem d_mo_product_24 : decode b_mo_product 24 = .ok (.invokevirtual 82, 3) := by decide +kernel
theorem d_mo_product_27 : decode b_mo_product 27 = .ok (.aload_n 0, 1) := by decide +kernel
theorem d_mo_product_28 : decode b_mo_product 28 = .ok (.iconst 2, 1) := by decide +kernel
theorem d_mo_product_29 : decode b_mo_product 29 = .ok (.iload_n 1, 1) := by decide +kernel
theorem d_mo_product_30 : decode b_mo_product 30 = .ok (.imul, 1) := by decide +kernel
theorem d_mo_product_31 : decode b_mo_product 31 = .ok (.iconst 1, 1) := by decide +kernel
theorem d_mo_product_32 : decode b_mo_product 32 = .ok (.iadd, 1) := by decide +kernel
theorem d_mo_product_33 : decode b_mo_product 33 = .ok (.iconst 2, 1) := by decide +kernel
theorem d_mo_product_34 : decode b_mo_product 34 = .ok (.iload_n 2, 1) := by decide +kernel
theorem d_mo_product_35 : decode b_mo_product 35 = .ok (.imul, 1) := by decide +kernel
theorem d_mo_product_36 : decode b_mo_product 36 = .ok (.iconst 1, 1) := by decide +kernel
theorem d_mo_product_37 : decode b_mo_product 37 = .ok (.iadd, 1) := by decide +kernel
theorem d_mo_product_38 : decode b_mo_product 38 = .ok (.sipush 152, 3) := by decide +kernel
theorem d_mo_product_41 : decode b_mo_product 41 = .ok (.invokevirtual 82, 3) := by decide +kernel
theorem d_mo_product_44 : decode b_mo_product 44 = .ok (.aload_n 0, 1) := by decide +kernel
theorem d_mo_product_45 : decode b_mo_product 45 = .ok (.iload_n 1, 1) := by decide +kernel
theorem d_mo_product_46 : decode b_mo_product 46 = .ok (.iload_n 3, 1) := by decide +kernel
theorem d_mo_product_47 : decode b_mo_product 47 = .ok (.invokevirtual 85, 3) := by decide +kernel
theorem d_mo_product_50 : decode b_mo_product 50 = .ok (.ireturn, 1) := by decide +kernel
theorem d_mo_ratio_0 : decode b_mo_ratio 0 = .ok (.aload_n 0, 1) := by decide +kernel
theorem d_mo_ratio_1 : decode b_mo_ratio 1 = .ok (.getfield 23, 3) := by decide +kernel
theorem d_mo_ratio_4 : decode b_mo_ratio 4 = .ok (.iload_n 2, 1) := by decide +kernel
theorem d_mo_ratio_5 : decode b_mo_ratio 5 = .ok (.iaload, 1) := by decide +kernel
theorem d_mo_ratio_6 : decode b_mo_ratio 6 = .ok (.ifCond .ne 5, 3) := by decide +kernel
theorem d_mo_ratio_9 : decode b_mo_ratio 9 = .ok (.iconst 2, 1) := by decide +kernel
theorem d_mo_ratio_10 : decode b_mo_ratio 10 = .ok (.ireturn, 1) := by decide +kernel
theorem d_mo_ratio_11 : decode b_mo_ratio 11 = .ok (.aload_n 0, 1) := by decide +kernel
theorem d_mo_ratio_12 : decode b_mo_ratio 12 = .ok (.getfield 23, 3) := by decide +kernel
theorem d_mo_ratio_15 : decode b_mo_ratio 15 = .ok (.iload_n 1, 1) := by decide +kernel
theorem d_mo_ratio_16 : decode b_mo_ratio 16 = .ok (.iaload, 1) := by decide +kernel
theorem d_mo_ratio_17 : decode b_mo_ratio 17 = .ok (.aload_n 0, 1) := by decide +kernel
theorem d_mo_ratio_18 : decode b_mo_ratio 18 = .ok (.getfield 23, 3) := by decide +kernel
theorem d_mo_ratio_21 : decode b_mo_ratio 21 = .ok (.iload_n 2, 1) := by decide +kernel
theorem d_mo_ratio_22 : decode b_mo_ratio 22 = .ok (.iaload, 1) := by decide +kernel
theorem d_mo_ratio_23 : decode b_mo_ratio 23 = .ok (.imul, 1) := by decide +kernel
theorem d_mo_ratio_24 : decode b_mo_ratio 24 = .ok (.istore_n 3, 1) := by decide +kernel
theorem d_mo_ratio_25 : decode b_mo_ratio 25 = .ok (.aload_n 0, 1) := by decide +kernel
theorem d_mo_ratio_26 : decode b_mo_ratio 26 = .ok (.iconst 2, 1) := by decide +kernel
theorem d_mo_ratio_27 : decode b_mo_ratio 27 = .ok (.iload_n 1, 1) := by decide +kernel
theorem d_mo_ratio_28 : decode b_mo_ratio 28 = .ok (.imul, 1) := by decide +kernel
theorem d_mo_ratio_29 : decode b_mo_ratio 29 = .ok (.iconst 2, 1) := by decide +kernel
theorem d_mo_ratio_30 : decode b_mo_ratio 30 = .ok (.iload_n 2, 1) := by decide +kernel
theorem d_mo_ratio_31 : decode b_mo_ratio 31 = .ok (.imul, 1) := by decide +kernel
theorem d_mo_ratio_32 : decode b_mo_ratio 32 = .ok (.iconst 1, 1) := by decide +kernel
theorem d_mo_ratio_33 : decode b_mo_ratio 33 = .ok (.iadd, 1) := by decide +kernel
theorem d_mo_ratio_34 : decode b_mo_ratio 34 = .ok (.sipush 150, 3) := by decide +kernel
theorem d_mo_ratio_37 : decode b_mo_ratio 37 = .ok (.invokevirtual 82, 3) := by decide +kernel
theorem d_mo_ratio_40 : decode b_mo_ratio 40 = .ok (.aload_n 0, 1) := by decide +kernel
theorem d_mo_ratio_41 : decode b_mo_ratio 41 = .ok (.iconst 2, 1) := by decide +kernel
theorem d_mo_ratio_42 : decode b_mo_ratio 42 = .ok (.iload_n 1, 1) := by decide +kernel
theorem d_mo_ratio_43 : decode b_mo_ratio 43 = .ok (.imul, 1) := by decide +kernel
theorem d_mo_ratio_44 : decode b_mo_ratio 44 = .ok (.iconst 1, 1) := by decide +kernel
theorem d_mo_ratio_45 : decode b_mo_ratio 45 = .ok (.iadd, 1) := by decide +kernel
theorem d_mo_ratio_46 : decode b_mo_ratio 46 = .ok (.iconst 2, 1) := by decide +kernel
theorem d_mo_ratio_47 : decode b_mo_ratio 47 = .ok (.iload_n 2, 1) := by decide +kernel
theorem d_mo_ratio_48 : decode b_mo_ratio 48 = .ok (.imul, 1) := by decide +kernel
theorem d_mo_ratio_49 : decode b_mo_ratio 49 = .ok (.sipush 152, 3) := by decide +kernel
theorem d_mo_ratio_52 : decode b_mo_ratio 52 = .ok (.invokevirtual 82, 3) := by decide +kernel
theorem d_mo_ratio_55 : decode b_mo_ratio 55 = .ok (.aload_n 0, 1) := by decide +kernel
theorem d_mo_ratio_56 : decode b_mo_ratio 56 = .ok (.iload_n 1, 1) := by decide +kernel
theorem d_mo_ratio_57 : decode b_mo_ratio 57 = .ok (.iload_n 3, 1) := by decide +kernel
theorem d_mo_ratio_58 : decode b_mo_ratio 58 = .ok (.invokevirtual 85, 3) := by decide +kernel
theorem d_mo_ratio_61 : decode b_mo_ratio 61 = .ok (.ireturn, 1) := by decide +kernel
theorem d_mo_order_0 : decode b_mo_order 0 = .ok (.aload_n 0, 1) := by decide +kernel
theorem d_mo_order_1 : decode b_mo_order 1 = .ok (.getfield 23, 3) := by decide +kernel
theorem d_mo_order_4 : decode b_mo_order 4 = .ok (.iload_n 1, 1) := by decide +kernel
theorem d_mo_order_5 : decode b_mo_order 5 = .ok (.iaload, 1) := by decide +kernel
theorem d_mo_order_6 : decode b_mo_order 6 = .ok (.aload_n 0, 1) := by decide +kernel
theorem d_mo_order_7 : decode b_mo_order 7 = .ok (.getfield 23, 3) := by decide +kernel
theorem d_mo_order_10 : decode b_mo_order 10 = .ok (.iload_n 2, 1) := by decide +kernel
theorem d_mo_order_11 : decode b_mo_order 11 = .ok (.iaload, 1) := by decide +kernel
theorem d_mo_order_12 : decode b_mo_order 12 = .ok (.if_icmp .eq 24, 3) := by decide +kernel
theorem d_mo_order_15 : decode b_mo_order 15 = .ok (.aload_n 0, 1) := by decide +kernel
theorem d_mo_order_16 : decode b_mo_order 16 = .ok (.getfield 23, 3) := by decide +kernel
theorem d_mo_order_19 : decode b_mo_order 19 = .ok (.iload_n 1, 1) := by decide +kernel
theorem d_mo_order_20 : decode b_mo_order 20 = .ok (.iaload, 1) := by decide +kernel
theorem d_mo_order_21 : decode b_mo_order 21 = .ok (.aload_n 0, 1) := by decide +kernel
theorem d_mo_order_22 : decode b_mo_order 22 = .ok (.getfield 23, 3) := by decide +kernel
theorem d_mo_order_25 : decode b_mo_order 25 = .ok (.iload_n 2, 1) := by decide +kernel
theorem d_mo_order_26 : decode b_mo_order 26 = .ok (.iaload, 1) := by decide +kernel
theorem d_mo_order_27 : decode b_mo_order 27 = .ok (.if_icmp .ge 7, 3) := by decide +kernel
theorem d_mo_order_30 : decode b_mo_order 30 = .ok (.iconst (-1), 1) := by decide +kernel
theorem d_mo_order_31 : decode b_mo_order 31 = .ok (.goto 4, 3) := by decide +kernel
theorem d_mo_order_34 : decode b_mo_order 34 = .ok (.iconst 1, 1) := by decide +kernel
theorem d_mo_order_35 : decode b_mo_order 35 = .ok (.ireturn, 1) := by decide +kernel
theorem d_mo_order_36 : decode b_mo_order 36 = .ok (.aload_n 0, 1) := by decide +kernel
theorem d_mo_order_37 : decode b_mo_order 37 = .ok (.iconst 2, 1) := by decide +kernel
theorem d_mo_order_38 : decode b_mo_order 38 = .ok (.iload_n 1, 1) := by decide +kernel
theorem d_mo_order_39 : decode b_mo_order 39 = .ok (.imul, 1) := by decide +kernel
theorem d_mo_order_40 : decode b_mo_order 40 = .ok (.iconst 2, 1) := by decide +kernel
theorem d_mo_order_41 : decode b_mo_order 41 = .ok (.iload_n 2, 1) := by decide +kernel
theorem d_mo_order_42 : decode b_mo_order 42 = .ok (.imul, 1) := by decide +kernel
theorem d_mo_order_43 : decode b_mo_order 43 = .ok (.iconst 1, 1) := by decide +kernel
theorem d_mo_order_44 : decode b_mo_order 44 = .ok (.iadd, 1) := by decide +kernel
theorem d_mo_order_45 : decode b_mo_order 45 = .ok (.sipush 150, 3) := by decide +kernel
theorem d_mo_order_48 : decode b_mo_order 48 = .ok (.invokevirtual 82, 3) := by decide +kernel
theorem d_mo_order_51 : decode b_mo_order 51 = .ok (.aload_n 0, 1) := by decide +kernel
theorem d_mo_order_52 : decode b_mo_order 52 = .ok (.iconst 2, 1) := by decide +kernel
theorem d_mo_order_53 : decode b_mo_order 53 = .ok (.iload_n 2, 1) := by decide +kernel
theorem d_mo_order_54 : decode b_mo_order 54 = .ok (.imul, 1) := by decide +kernel
theorem d_mo_order_55 : decode b_mo_order 55 = .ok (.iconst 2, 1) := by decide +kernel
theorem d_mo_order_56 : decode b_mo_order 56 = .ok (.iload_n 1, 1) := by decide +kernel
theorem d_mo_order_57 : decode b_mo_order 57 = .ok (.imul, 1) := by decide +kernel
theorem d_mo_order_58 : decode b_mo_order 58 = .ok (.iconst 1, 1) := by decide +kernel
theorem d_mo_order_59 : decode b_mo_order 59 = .ok (.iadd, 1) := by decide +kernel
theorem d_mo_order_60 : decode b_mo_order 60 = .ok (.sipush 151, 3) := by decide +kernel
theorem d_mo_order_63 : decode b_mo_order 63 = .ok (.invokevirtual 82, 3) := by decide +kernel
theorem d_mo_order_66 : decode b_mo_order 66 = .ok (.aload_n 0, 1) := by decide +kernel
theorem d_mo_order_67 : decode b_mo_order 67 = .ok (.getfield 23, 3) := by decide +kernel
theorem d_mo_order_70 : decode b_mo_order 70 = .ok (.iload_n 1, 1) := by decide +kernel
theorem d_mo_order_71 : decode b_mo_order 71 = .ok (.iaload, 1) := by decide +kernel
theorem d_mo_order_72 : decode b_mo_order 72 = .ok (.aload_n 0, 1) := by decide +kernel
theorem d_mo_order_73 : decode b_mo_order 73 = .ok (.sipush 150, 3) := by decide +kernel
theorem d_mo_order_76 : decode b_mo_order 76 = .ok (.sipush 151, 3) := by decide +kernel
theorem d_mo_order_79 : decode b_mo_order 79 = .ok (.invokevirtual 55, 3) := by decide +kernel
theorem d_mo_order_82 : decode b_mo_order 82 = .ok (.imul, 1) := by decide +kernel
theorem d_mo_order_83 : decode b_mo_order 83 = .ok (.ireturn, 1) := by decide +kernel
theorem d_mo_formOf_0 : decode b_mo_formOf 0 = .ok (.aload_n 0, 1) := by decide +kernel
theorem d_mo_formOf_1 : decode b_mo_formOf 1 = .ok (.iload_n 1, 1) := by decide +kernel
theorem d_mo_formOf_2 : decode b_mo_formOf 2 = .ok (.invokevirtual 88, 3) := by decide +kernel
theorem d_mo_formOf_5 : decode b_mo_formOf 5 = .ok (.ifCond .ne 7, 3) := by decide +kernel
theorem d_mo_formOf_8 : decode b_mo_formOf 8 = .ok (.iconst 2, 1) := by decide +kernel
theorem d_mo_formOf_9 : decode b_mo_formOf 9 = .ok (.goto 21, 3) := by decide +kernel
theorem d_mo_formOf_12 : decode b_mo_formOf 12 = .ok (.aload_n 0, 1) := by decide +kernel
theorem d_mo_formOf_13 : decode b_mo_formOf 13 = .ok (.iconst 2, 1) := by decide +kernel
theorem d_mo_formOf_14 : decode b_mo_formOf 14 = .ok (.iload_n 1, 1) := by decide +kernel
theorem d_mo_formOf_15 : decode b_mo_formOf 15 = .ok (.imul, 1) := by decide +kernel
theorem d_mo_formOf_16 : decode b_mo_formOf 16 = .ok (.sipush 159, 3) := by decide +kernel
theorem d_mo_formOf_19 : decode b_mo_formOf 19 = .ok (.invokevirtual 55, 3) := by decide +kernel
theorem d_mo_formOf_22 : decode b_mo_formOf 22 = .ok (.ifCond .ge 7, 3) := by decide +kernel
theorem d_mo_formOf_25 : decode b_mo_formOf 25 = .ok (.iconst 0, 1) := by decide +kernel
theorem d_mo_formOf_26 : decode b_mo_formOf 26 = .ok (.goto 4, 3) := by decide +kernel
theorem d_mo_formOf_29 : decode b_mo_formOf 29 = .ok (.iconst 1, 1) := by decide +kernel
theorem d_mo_formOf_30 : decode b_mo_formOf 30 = .ok (.ireturn, 1) := by decide +kernel
theorem d_mo_type_0 : decode b_mo_type 0 = .ok (.aload_n 0, 1) := by decide +kernel
theorem d_mo_type_1 : decode b_mo_type 1 = .ok (.iconst 0, 1) := by decide +kernel
theorem d_mo_type_2 : decode b_mo_type 2 = .ok (.putfield 42, 3) := by decide +kernel
theorem d_mo_type_5 : decode b_mo_type 5 = .ok (.iconst 0, 1) := by decide +kernel
theorem d_mo_type_6 : decode b_mo_type 6 = .ok (.istore_n 3, 1) := by decide +kernel
theorem d_mo_type_7 : decode b_mo_type 7 = .ok (.iconst 1, 1) := by decide +kernel
theorem d_mo_type_8 : decode b_mo_type 8 = .ok (.istore 4, 2) := by decide +kernel
theorem d_mo_type_10 : decode b_mo_type 10 = .ok (.iload_n 3, 1) := by decide +kernel
theorem d_mo_type_11 : decode b_mo_type 11 = .ok (.bipush 8, 2) := by decide +kernel
theorem d_mo_type_13 : decode b_mo_type 13 = .ok (.if_icmp .ge 64, 3) := by decide +kernel
theorem d_mo_type_16 : decode b_mo_type 16 = .ok (.lload_n 1, 1) := by decide +kernel
theorem d_mo_type_17 : decode b_mo_type 17 = .ok (.bipush 8, 2) := by decide +kernel
theorem d_mo_type_19 : decode b_mo_type 19 = .ok (.iload_n 3, 1) := by decide +kernel
theorem d_mo_type_20 : decode b_mo_type 20 = .ok (.imul, 1) := by decide +kernel
theorem d_mo_type_21 : decode b_mo_type 21 = .ok (.lshr, 1) := by decide +kernel
theorem d_mo_type_22 : decode b_mo_type 22 = .ok (.ldc2_w 91, 3) := by decide +kernel
theorem d_mo_type_25 : decode b_mo_type 25 = .ok (.land, 1) := by decide +kernel
theorem d_mo_type_26 : decode b_mo_type 26 = .ok (.lconst 0, 1) := by decide +kernel
theorem d_mo_type_27 : decode b_mo_type 27 = .ok (.lcmp, 1) := by decide +kernel
theorem d_mo_type_28 : decode b_mo_type 28 = .ok (.ifCond .eq 49, 3) := by decide +kernel
theorem d_mo_type_31 : decode b_mo_type 31 = .ok (.lload_n 1, 1) := by decide +kernel
theorem d_mo_type_32 : decode b_mo_type 32 = .ok (.bipush 8, 2) := by decide +kernel
theorem d_mo_type_34 : decode b_mo_type 34 = .ok (.iload_n 3, 1) := by decide +kernel
theorem d_mo_type_35 : decode b_mo_type 35 = .ok (.imul, 1) := by decide +kernel
theorem d_mo_type_36 : decode b_mo_type 36 = .ok (.lshr, 1) := by decide +kernel
theorem d_mo_type_37 : decode b_mo_type 37 = .ok (.ldc2_w 91, 3) := by decide +kernel
theorem d_mo_type_40 : decode b_mo_type 40 = .ok (.land, 1) := by decide +kernel
theorem d_mo_type_41 : decode b_mo_type 41 = .ok (.l2i, 1) := by decide +kernel
theorem d_mo_type_42 : decode b_mo_type 42 = .ok (.istore 5, 2) := by decide +kernel
theorem d_mo_type_44 : decode b_mo_type 44 = .ok (.iload 4, 2) := by decide +kernel
theorem d_mo_type_46 : decode b_mo_type 46 = .ok (.ifCond .eq 21, 3) := by decide +kernel
theorem d_mo_type_49 : decode b_mo_type 49 = .ok (.iload 5, 2) := by decide +kernel
theorem d_mo_type_51 : decode b_mo_type 51 = .ok (.bipush 32, 2) := by decide +kernel
theorem d_mo_type_53 : decode b_mo_type 53 = .ok (.if_icmp .lt 14, 3) := by decide +kernel
theorem d_mo_type_56 : decode b_mo_type 56 = .ok (.iload 5, 2) := by decide +kernel
theorem d_mo_type_58 : decode b_mo_type 58 = .ok (.bipush 126, 2) := by decide +kernel
theorem d_mo_type_60 : decode b_mo_type 60 = .ok (.if_icmp .gt 7, 3) := by decide +kernel
theorem d_mo_type_63 : decode b_mo_type 63 = .ok (.iconst 1, 1) := by decide +kernel
theorem d_mo_type_64 : decode b_mo_type 64 = .ok (.goto 4, 3) := by decide +kernel
theorem d_mo_type_67 : decode b_mo_type 67 = .ok (.iconst 0, 1) := by decide +kernel
theorem d_mo_type_68 : decode b_mo_type 68 = .ok (.istore 4, 2) := by decide +kernel
theorem d_mo_type_70 : decode b_mo_type 70 = .ok (.iload_n 3, 1) := by decide +kernel
theorem d_mo_type_71 : decode b_mo_type 71 = .ok (.iconst 1, 1) := by decide +kernel
theorem d_mo_type_72 : decode b_mo_type 72 = .ok (.iadd, 1) := by decide +kernel
theorem d_mo_type_73 : decode b_mo_type 73 = .ok (.istore_n 3, 1) := by decide +kernel
theorem d_mo_type_74 : decode b_mo_type 74 = .ok (.goto (-64), 3) := by decide +kernel
theorem d_mo_type_77 : decode b_mo_type 77 = .ok (.iload 4, 2) := by decide +kernel
theorem d_mo_type_79 : decode b_mo_type 79 = .ok (.ifCond .eq 14, 3) := by decide +kernel
theorem d_mo_type_82 : decode b_mo_type 82 = .ok (.aload_n 0, 1) := by decide +kernel
theorem d_mo_type_83 : decode b_mo_type 83 = .ok (.getfield 93, 3) := by decide +kernel
theorem d_mo_type_86 : decode b_mo_type 86 = .ok (.iload_n 3, 1) := by decide +kernel
theorem d_mo_type_87 : decode b_mo_type 87 = .ok (.iadd, 1) := by decide +kernel
theorem d_mo_type_88 : decode b_mo_type 88 = .ok (.bipush 120, 2) := by decide +kernel
theorem d_mo_type_90 : decode b_mo_type 90 = .ok (.if_icmp .le 5, 3) := by decide +kernel
theorem d_mo_type_93 : decode b_mo_type 93 = .ok (.iconst 0, 1) := by decide +kernel
theorem d_mo_type_94 : decode b_mo_type 94 = .ok (.ireturn, 1) := by decide +kernel
theorem d_mo_type_95 : decode b_mo_type 95 = .ok (.iconst 0, 1) := by decide +kernel
theorem d_mo_type_96 : decode b_mo_type 96 = .ok (.istore 5, 2) := by decide +kernel
theorem d_mo_type_98 : decode b_mo_type 98 = .ok (.iload 5, 2) := by decide +kernel
theorem d_mo_type_100 : decode b_mo_type 100 = .ok (.iload_n 3, 1) := by decide +kernel
theorem d_mo_type_101 : decode b_mo_type 101 = .ok (.if_icmp .ge 33, 3) := by decide +kernel
theorem d_mo_type_104 : decode b_mo_type 104 = .ok (.aload_n 0, 1) := by decide +kernel
theorem d_mo_type_105 : decode b_mo_type 105 = .ok (.getfield 7, 3) := by decide +kernel
theorem d_mo_type_108 : decode b_mo_type 108 = .ok (.aload_n 0, 1) := by decide +kernel
theorem d_mo_type_109 : decode b_mo_type 109 = .ok (.getfield 93, 3) := by decide +kernel
theorem d_mo_type_112 : decode b_mo_type 112 = .ok (.iload 5, 2) := by decide +kernel
theorem d_mo_type_114 : decode b_mo_type 114 = .ok (.iadd, 1) := by decide +kernel
theorem d_mo_type_115 : decode b_mo_type 115 = .ok (.lload_n 1, 1) := by decide +kernel
theorem d_mo_type_116 : decode b_mo_type 116 = .ok (.bipush 8, 2) := by decide +kernel
theorem d_mo_type_118 : decode b_mo_type 118 = .ok (.iload 5, 2) := by decide +kernel
theorem d_mo_type_120 : decode b_mo_type 120 = .ok (.imul, 1) := by decide +kernel
theorem d_mo_type_121 : decode b_mo_type 121 = .ok (.lshr, 1) := by decide +kernel
theorem d_mo_type_122 : decode b_mo_type 122 = .ok (.ldc2_w 91, 3) := by decide +kernel
theorem d_mo_type_125 : decode b_mo_type 125 = .ok (.land, 1) := by decide +kernel
theorem d_mo_type_126 : decode b_mo_type 126 = .ok (.l2i, 1) := by decide +kernel
theorem d_mo_type_127 : decode b_mo_type 127 = .ok (.iastore, 1) := by decide +kernel
theorem d_mo_type_128 : decode b_mo_type 128 = .ok (.iinc 5 1, 3) := by decide +kernel
theorem d_mo_type_131 : decode b_mo_type 131 = .ok (.goto (-33), 3) := by decide +kernel
theorem d_mo_type_134 : decode b_mo_type 134 = .ok (.aload_n 0, 1) := by decide +kernel
theorem d_mo_type_135 : decode b_mo_type 135 = .ok (.aload_n 0, 1) := by decide +kernel
theorem d_mo_type_136 : decode b_mo_type 136 = .ok (.getfield 93, 3) := by decide +kernel
theorem d_mo_type_139 : decode b_mo_type 139 = .ok (.iload_n 3, 1) := by decide +kernel
theorem d_mo_type_140 : decode b_mo_type 140 = .ok (.iadd, 1) := by decide +kernel
theorem d_mo_type_141 : decode b_mo_type 141 = .ok (.putfield 93, 3) := by decide +kernel
theorem d_mo_type_144 : decode b_mo_type 144 = .ok (.iconst 1, 1) := by decide +kernel
theorem d_mo_type_145 : decode b_mo_type 145 = .ok (.ireturn, 1) := by decide +kernel
theorem d_mo_erase_0 : decode b_mo_erase 0 = .ok (.aload_n 0, 1) := by decide +kernel
theorem d_mo_erase_1 : decode b_mo_erase 1 = .ok (.iconst 0, 1) := by decide +kernel
theorem d_mo_erase_2 : decode b_mo_erase 2 = .ok (.putfield 42, 3) := by decide +kernel
theorem d_mo_erase_5 : decode b_mo_erase 5 = .ok (.aload_n 0, 1) := by decide +kernel
theorem d_mo_erase_6 : decode b_mo_erase 6 = .ok (.getfield 93, 3) := by decide +kernel
theorem d_mo_erase_9 : decode b_mo_erase 9 = .ok (.istore_n 1, 1) := by decide +kernel
theorem d_mo_erase_10 : decode b_mo_erase 10 = .ok (.aload_n 0, 1) := by decide +kernel
theorem d_mo_erase_11 : decode b_mo_erase 11 = .ok (.iconst 0, 1) := by decide +kernel
theorem d_mo_erase_12 : decode b_mo_erase 12 = .ok (.putfield 93, 3) := by decide +kernel
theorem d_mo_erase_15 : decode b_mo_erase 15 = .ok (.iload_n 1, 1) := by decide +kernel
theorem d_mo_erase_16 : decode b_mo_erase 16 = .ok (.ireturn, 1) := by decide +kernel
theorem d_mo_fault_0 : decode b_mo_fault 0 = .ok (.aload_n 0, 1) := by decide +kernel
theorem d_mo_fault_1 : decode b_mo_fault 1 = .ok (.iconst 0, 1) := by decide +kernel
theorem d_mo_fault_2 : decode b_mo_fault 2 = .ok (.putfield 42, 3) := by decide +kernel
theorem d_mo_fault_5 : decode b_mo_fault 5 = .ok (.aload_n 0, 1) := by decide +kernel
theorem d_mo_fault_6 : decode b_mo_fault 6 = .ok (.getfield 13, 3) := by decide +kernel
theorem d_mo_fault_9 : decode b_mo_fault 9 = .ok (.ireturn, 1) := by decide +kernel
theorem d_mo_charAt_0 : decode b_mo_charAt 0 = .ok (.iload_n 1, 1) := by decide +kernel
theorem d_mo_charAt_1 : decode b_mo_charAt 1 = .ok (.aload_n 0, 1) := by decide +kernel
theorem d_mo_charAt_2 : decode b_mo_charAt 2 = .ok (.getfield 93, 3) := by decide +kernel
theorem d_mo_charAt_5 : decode b_mo_charAt 5 = .ok (.if_icmp .ge 12, 3) := by decide +kernel
theorem d_mo_charAt_8 : decode b_mo_charAt 8 = .ok (.aload_n 0, 1) := by decide +kernel
theorem d_mo_charAt_9 : decode b_mo_charAt 9 = .ok (.getfield 7, 3) := by decide +kernel
theorem d_mo_charAt_12 : decode b_mo_charAt 12 = .ok (.iload_n 1, 1) := by decide +kernel
theorem d_mo_charAt_13 : decode b_mo_charAt 13 = .ok (.iaload, 1) := by decide +kernel
theorem d_mo_charAt_14 : decode b_mo_charAt 14 = .ok (.goto 4, 3) := by decide +kernel
theorem d_mo_charAt_17 : decode b_mo_charAt 17 = .ok (.iconst 0, 1) := by decide +kernel
theorem d_mo_charAt_18 : decode b_mo_charAt 18 = .ok (.ireturn, 1) := by decide +kernel
theorem d_mo_isDigit_0 : decode b_mo_isDigit 0 = .ok (.aload_n 0, 1) := by decide +kernel
theorem d_mo_isDigit_1 : decode b_mo_isDigit 1 = .ok (.iload_n 1, 1) := by decide +kernel
theorem d_mo_isDigit_2 : decode b_mo_isDigit 2 = .ok (.invokevirtual 96, 3) := by decide +kernel
theorem d_mo_isDigit_5 : decode b_mo_isDigit 5 = .ok (.bipush 48, 2) := by decide +kernel
theorem d_mo_isDigit_7 : decode b_mo_isDigit 7 = .ok (.if_icmp .lt 17, 3) := by decide +kernel
theorem d_mo_isDigit_10 : decode b_mo_isDigit 10 = .ok (.aload_n 0, 1) := by decide +kernel
theorem d_mo_isDigit_11 : decode b_mo_isDigit 11 = .ok (.iload_n 1, 1) := by decide +kernel
theorem d_mo_isDigit_12 : decode b_mo_isDigit 12 = .ok (.invokevirtual 96, 3) := by decide +kernel
theorem d_mo_isDigit_15 : decode b_mo_isDigit 15 = .ok (.bipush 57, 2) := by decide +kernel
theorem d_mo_isDigit_17 : decode b_mo_isDigit 17 = .ok (.if_icmp .gt 7, 3) := by decide +kernel
theorem d_mo_isDigit_20 : decode b_mo_isDigit 20 = .ok (.iconst 1, 1) := by decide +kernel
theorem d_mo_isDigit_21 : decode b_mo_isDigit 21 = .ok (.goto 4, 3) := by decide +kernel
theorem d_mo_isDigit_24 : decode b_mo_isDigit 24 = .ok (.iconst 0, 1) := by decide +kernel
theorem d_mo_isDigit_25 : decode b_mo_isDigit 25 = .ok (.ireturn, 1) := by decide +kernel
theorem d_mo_least_0 : decode b_mo_least 0 = .ok (.iload_n 0, 1) := by decide +kernel
theorem d_mo_least_1 : decode b_mo_least 1 = .ok (.lookupswitch 81 #[(42, 75), (43, 75), (45, 77), (47, 77), (63, 79), (100, 77), (103, 75), (110, 77)], 75) := by decide +kernel
theorem d_mo_least_76 : decode b_mo_least 76 = .ok (.iconst 0, 1) := by decide +kernel
theorem d_mo_least_77 : decode b_mo_least 77 = .ok (.ireturn, 1) := by decide +kernel
theorem d_mo_least_78 : decode b_mo_least 78 = .ok (.iconst 1, 1) := by decide +kernel
theorem d_mo_least_79 : decode b_mo_least 79 = .ok (.ireturn, 1) := by decide +kernel
theorem d_mo_least_80 : decode b_mo_least 80 = .ok (.iconst 3, 1) := by decide +kernel
theorem d_mo_least_81 : decode b_mo_least 81 = .ok (.ireturn, 1) := by decide +kernel
theorem d_mo_least_82 : decode b_mo_least 82 = .ok (.iconst 2, 1) := by decide +kernel
theorem d_mo_least_83 : decode b_mo_least 83 = .ok (.ireturn, 1) := by decide +kernel
theorem d_mo_most_0 : decode b_mo_most 0 = .ok (.iload_n 0, 1) := by decide +kernel
theorem d_mo_most_1 : decode b_mo_most 1 = .ok (.bipush 43, 2) := by decide +kernel
theorem d_mo_most_3 : decode b_mo_most 3 = .ok (.if_icmp .eq 27, 3) := by decide +kernel
theorem d_mo_most_6 : decode b_mo_most 6 = .ok (.iload_n 0, 1) := by decide +kernel
theorem d_mo_most_7 : decode b_mo_most 7 = .ok (.bipush 42, 2) := by decide +kernel
theorem d_mo_most_9 : decode b_mo_most 9 = .ok (.if_icmp .eq 21, 3) := by decide +kernel
theorem d_mo_most_12 : decode b_mo_most 12 = .ok (.iload_n 0, 1) := by decide +kernel
theorem d_mo_most_13 : decode b_mo_most 13 = .ok (.bipush 103, 2) := by decide +kernel
theorem d_mo_most_15 : decode b_mo_most 15 = .ok (.if_icmp .eq 15, 3) := by decide +kernel
theorem d_mo_most_18 : decode b_mo_most 18 = .ok (.iload_n 0, 1) := by decide +kernel
theorem d_mo_most_19 : decode b_mo_most 19 = .ok (.bipush 45, 2) := by decide +kernel
theorem d_mo_most_21 : decode b_mo_most 21 = .ok (.if_icmp .eq 9, 3) := by decide +kernel
theorem d_mo_most_24 : decode b_mo_most 24 = .ok (.iload_n 0, 1) := by decide +kernel
theorem d_mo_most_25 : decode b_mo_most 25 = .ok (.bipush 47, 2) := by decide +kernel
theorem d_mo_most_27 : decode b_mo_most 27 = .ok (.if_icmp .ne 9, 3) := by decide +kernel
theorem d_mo_most_30 : decode b_mo_most 30 = .ok (.sipush 200, 3) := by decide +kernel
theorem d_mo_most_33 : decode b_mo_most 33 = .ok (.goto 7, 3) := by decide +kernel
theorem d_mo_most_36 : decode b_mo_most 36 = .ok (.iload_n 0, 1) := by decide +kernel
theorem d_mo_most_37 : decode b_mo_most 37 = .ok (.invokestatic 100, 3) := by decide +kernel
theorem d_mo_most_40 : decode b_mo_most 40 = .ok (.ireturn, 1) := by decide +kernel
theorem d_mo_isOp_0 : decode b_mo_isOp 0 = .ok (.iload_n 0, 1) := by decide +kernel
theorem d_mo_isOp_1 : decode b_mo_isOp 1 = .ok (.bipush 43, 2) := by decide +kernel
theorem d_mo_isOp_3 : decode b_mo_isOp 3 = .ok (.if_icmp .eq 39, 3) := by decide +kernel
theorem d_mo_isOp_6 : decode b_mo_isOp 6 = .ok (.iload_n 0, 1) := by decide +kernel
theorem d_mo_isOp_7 : decode b_mo_isOp 7 = .ok (.bipush 45, 2) := by decide +kernel
theorem d_mo_isOp_9 : decode b_mo_isOp 9 = .ok (.if_icmp .eq 33, 3) := by decide +kernel
theorem d_mo_isOp_12 : decode b_mo_isOp 12 = .ok (.iload_n 0, 1) := by decide +kernel
theorem d_mo_isOp_13 : decode b_mo_isOp 13 = .ok (.bipush 42, 2) := by decide +kernel
theorem d_mo_isOp_15 : decode b_mo_isOp 15 = .ok (.if_icmp .eq 27, 3) := by decide +kernel
theorem d_mo_isOp_18 : decode b_mo_isOp 18 = .ok (.iload_n 0, 1) := by decide +kernel
theorem d_mo_isOp_19 : decode b_mo_isOp 19 = .ok (.bipush 47, 2) := by decide +kernel
theorem d_mo_isOp_21 : decode b_mo_isOp 21 = .ok (.if_icmp .eq 21, 3) := by decide +kernel
theorem d_mo_isOp_24 : decode b_mo_isOp 24 = .ok (.iload_n 0, 1) := by decide +kernel
theorem d_mo_isOp_25 : decode b_mo_isOp 25 = .ok (.bipush 113, 2) := by decide +kernel
theorem d_mo_isOp_27 : decode b_mo_isOp 27 = .ok (.if_icmp .eq 15, 3) := by decide +kernel
theorem d_mo_isOp_30 : decode b_mo_isOp 30 = .ok (.iload_n 0, 1) := by decide +kernel
theorem d_mo_isOp_31 : decode b_mo_isOp 31 = .ok (.bipush 114, 2) := by decide +kernel
theorem d_mo_isOp_33 : decode b_mo_isOp 33 = .ok (.if_icmp .eq 9, 3) := by decide +kernel
theorem d_mo_isOp_36 : decode b_mo_isOp 36 = .ok (.iload_n 0, 1) := by decide +kernel
theorem d_mo_isOp_37 : decode b_mo_isOp 37 = .ok (.bipush 103, 2) := by decide +kernel
theorem d_mo_isOp_39 : decode b_mo_isOp 39 = .ok (.if_icmp .ne 7, 3) := by decide +kernel
theorem d_mo_isOp_42 : decode b_mo_isOp 42 = .ok (.iconst 1, 1) := by decide +kernel
theorem d_mo_isOp_43 : decode b_mo_isOp 43 = .ok (.goto 4, 3) := by decide +kernel
theorem d_mo_isOp_46 : decode b_mo_isOp 46 = .ok (.iconst 0, 1) := by decide +kernel
theorem d_mo_isOp_47 : decode b_mo_isOp 47 = .ok (.istore_n 1, 1) := by decide +kernel
theorem d_mo_isOp_48 : decode b_mo_isOp 48 = .ok (.iload_n 1, 1) := by decide +kernel
theorem d_mo_isOp_49 : decode b_mo_isOp 49 = .ok (.ifCond .ne 39, 3) := by decide +kernel
theorem d_mo_isOp_52 : decode b_mo_isOp 52 = .ok (.iload_n 0, 1) := by decide +kernel
theorem d_mo_isOp_53 : decode b_mo_isOp 53 = .ok (.bipush 94, 2) := by decide +kernel
theorem d_mo_isOp_55 : decode b_mo_isOp 55 = .ok (.if_icmp .eq 33, 3) := by decide +kernel
theorem d_mo_isOp_58 : decode b_mo_isOp 58 = .ok (.iload_n 0, 1) := by decide +kernel
theorem d_mo_isOp_59 : decode b_mo_isOp 59 = .ok (.bipush 110, 2) := by decide +kernel
theorem d_mo_isOp_61 : decode b_mo_isOp 61 = .ok (.if_icmp .eq 27, 3) := by decide +kernel
theorem d_mo_isOp_64 : decode b_mo_isOp 64 = .ok (.iload_n 0, 1) := by decide +kernel
theorem d_mo_isOp_65 : decode b_mo_isOp 65 = .ok (.bipush 100, 2) := by decide +kernel
theorem d_mo_isOp_67 : decode b_mo_isOp 67 = .ok (.if_icmp .eq 21, 3) := by decide +kernel
theorem d_mo_isOp_70 : decode b_mo_isOp 70 = .ok (.iload_n 0, 1) := by decide +kernel
theorem d_mo_isOp_71 : decode b_mo_isOp 71 = .ok (.bipush 60, 2) := by decide +kernel
theorem d_mo_isOp_73 : decode b_mo_isOp 73 = .ok (.if_icmp .eq 15, 3) := by decide +kernel
theorem d_mo_isOp_76 : decode b_mo_isOp 76 = .ok (.iload_n 0, 1) := by decide +kernel
theorem d_mo_isOp_77 : decode b_mo_isOp 77 = .ok (.bipush 61, 2) := by decide +kernel
theorem d_mo_isOp_79 : decode b_mo_isOp 79 = .ok (.if_icmp .eq 9, 3) := by decide +kernel
theorem d_mo_isOp_82 : decode b_mo_isOp 82 = .ok (.iload_n 0, 1) := by decide +kernel
theorem d_mo_isOp_83 : decode b_mo_isOp 83 = .ok (.bipush 63, 2) := by decide +kernel
theorem d_mo_isOp_85 : decode b_mo_isOp 85 = .ok (.if_icmp .ne 7, 3) := by decide +kernel
theorem d_mo_isOp_88 : decode b_mo_isOp 88 = .ok (.iconst 1, 1) := by decide +kernel
theorem d_mo_isOp_89 : decode b_mo_isOp 89 = .ok (.goto 4, 3) := by decide +kernel
theorem d_mo_isOp_92 : decode b_mo_isOp 92 = .ok (.iconst 0, 1) := by decide +kernel
theorem d_mo_isOp_93 : decode b_mo_isOp 93 = .ok (.ireturn, 1) := by decide +kernel
theorem d_mo_overStart_0 : decode b_mo_overStart 0 = .ok (.aload_n 0, 1) := by decide +kernel
theorem d_mo_overStart_1 : decode b_mo_overStart 1 = .ok (.iload_n 1, 1) := by decide +kernel
theorem d_mo_overStart_2 : decode b_mo_overStart 2 = .ok (.invokevirtual 96, 3) := by decide +kernel
theorem d_mo_overStart_5 : decode b_mo_overStart 5 = .ok (.istore_n 2, 1) := by decide +kernel
theorem d_mo_overStart_6 : decode b_mo_overStart 6 = .ok (.iload_n 2, 1) := by decide +kernel
theorem d_mo_overStart_7 : decode b_mo_overStart 7 = .ok (.bipush 40, 2) := by decide +kernel
theorem d_mo_overStart_9 : decode b_mo_overStart 9 = .ok (.if_icmp .ne 74, 3) := by decide +kernel
theorem d_mo_overStart_12 : decode b_mo_overStart 12 = .ok (.aload_n 0, 1) := by decide +kernel
theorem d_mo_overStart_13 : decode b_mo_overStart 13 = .ok (.getfield 103, 3) := by decide +kernel
theorem d_mo_overStart_16 : decode b_mo_overStart 16 = .ok (.bipush 12, 2) := by decide +kernel
theorem d_mo_overStart_18 : decode b_mo_overStart 18 = .ok (.if_icmp .ne 7, 3) := by decide +kernel
theorem d_mo_overStart_21 : decode b_mo_overStart 21 = .ok (.iconst (-1), 1) := by decide +kernel
theorem d_mo_overStart_22 : decode b_mo_overStart 22 = .ok (.iload_n 1, 1) := by decide +kernel
theorem d_mo_overStart_23 : decode b_mo_overStart 23 = .ok (.isub, 1) := by decide +kernel
theorem d_mo_overStart_24 : decode b_mo_overStart 24 = .ok (.ireturn, 1) := by decide +kernel
theorem d_mo_overStart_25 : decode b_mo_overStart 25 = .ok (.aload_n 0, 1) := by decide +kernel
theorem d_mo_overStart_26 : decode b_mo_overStart 26 = .ok (.iload_n 1, 1) := by decide +kernel
theorem d_mo_overStart_27 : decode b_mo_overStart 27 = .ok (.iconst 1, 1) := by decide +kernel
theorem d_mo_overStart_28 : decode b_mo_overStart 28 = .ok (.iadd, 1) := by decide +kernel
theorem d_mo_overStart_29 : decode b_mo_overStart 29 = .ok (.invokevirtual 96, 3) := by decide +kernel
theorem d_mo_overStart_32 : decode b_mo_overStart 32 = .ok (.invokestatic 106, 3) := by decide +kernel
theorem d_mo_overStart_35 : decode b_mo_overStart 35 = .ok (.ifCond .ne 8, 3) := by decide +kernel
theorem d_mo_overStart_38 : decode b_mo_overStart 38 = .ok (.bipush (-2), 2) := by decide +kernel
theorem d_mo_overStart_40 : decode b_mo_overStart 40 = .ok (.iload_n 1, 1) := by decide +kernel
theorem d_mo_overStart_41 : decode b_mo_overStart 41 = .ok (.isub, 1) := by decide +kernel
theorem d_mo_overStart_42 : decode b_mo_overStart 42 = .ok (.ireturn, 1) := by decide +kernel
theorem d_mo_overStart_43 : decode b_mo_overStart 43 = .ok (.aload_n 0, 1) := by decide +kernel
theorem d_mo_overStart_44 : decode b_mo_overStart 44 = .ok (.aload_n 0, 1) := by decide +kernel
theorem d_mo_overStart_45 : decode b_mo_overStart 45 = .ok (.getfield 103, 3) := by decide +kernel
theorem d_mo_overStart_48 : decode b_mo_overStart 48 = .ok (.iconst 1, 1) := by decide +kernel
theorem d_mo_overStart_49 : decode b_mo_overStart 49 = .ok (.iadd, 1) := by decide +kernel
theorem d_mo_overStart_50 : decode b_mo_overStart 50 = .ok (.putfield 103, 3) := by decide +kernel
theorem d_mo_overStart_53 : decode b_mo_overStart 53 = .ok (.aload_n 0, 1) := by decide +kernel
theorem d_mo_overStart_54 : decode b_mo_overStart 54 = .ok (.getfield 26, 3) := by decide +kernel
theorem d_mo_overStart_57 : decode b_mo_overStart 57 = .ok (.aload_n 0, 1) := by decide +kernel
theorem d_mo_overStart_58 : decode b_mo_overStart 58 = .ok (.getfield 103, 3) := by decide +kernel
theorem d_mo_overStart_61 : decode b_mo_overStart 61 = .ok (.aload_n 0, 1) := by decide +kernel
theorem d_mo_overStart_62 : decode b_mo_overStart 62 = .ok (.iload_n 1, 1) := by decide +kernel
theorem d_mo_overStart_63 : decode b_mo_overStart 63 = .ok (.iconst 1, 1) := by decide +kernel
theorem d_mo_overStart_64 : decode b_mo_overStart 64 = .ok (.iadd, 1) := by decide +kernel
theorem d_mo_overStart_65 : decode b_mo_overStart 65 = .ok (.invokevirtual 96, 3) := by decide +kernel
theorem d_mo_overStart_68 : decode b_mo_overStart 68 = .ok (.iastore, 1) := by decide +kernel
theorem d_mo_overStart_69 : decode b_mo_overStart 69 = .ok (.aload_n 0, 1) := by decide +kernel
theorem d_mo_overStart_70 : decode b_mo_overStart 70 = .ok (.getfield 29, 3) := by decide +kernel
theorem d_mo_overStart_73 : decode b_mo_overStart 73 = .ok (.aload_n 0, 1) := by decide +kernel
theorem d_mo_overStart_74 : decode b_mo_overStart 74 = .ok (.getfield 103, 3) := by decide +kernel
theorem d_mo_overStart_77 : decode b_mo_overStart 77 = .ok (.iconst 0, 1) := by decide +kernel
theorem d_mo_overStart_78 : decode b_mo_overStart 78 = .ok (.iastore, 1) := by decide +kernel
theorem d_mo_overStart_79 : decode b_mo_overStart 79 = .ok (.iload_n 1, 1) := by decide +kernel
theorem d_mo_overStart_80 : decode b_mo_overStart 80 = .ok (.iconst 2, 1) := by decide +kernel
theorem d_mo_overStart_81 : decode b_mo_overStart 81 = .ok (.iadd, 1) := by decide +kernel
theorem d_mo_overStart_82 : decode b_mo_overStart 82 = .ok (.ireturn, 1) := by decide +kernel
theorem d_mo_overStart_83 : decode b_mo_overStart 83 = .ok (.iload_n 2, 1) := by decide +kernel
theorem d_mo_overStart_84 : decode b_mo_overStart 84 = .ok (.bipush 97, 2) := by decide +kernel
theorem d_mo_overStart_86 : decode b_mo_overStart 86 = .ok (.if_icmp .lt 13, 3) := by decide +kernel
theorem d_mo_overStart_89 : decode b_mo_overStart 89 = .ok (.iload_n 2, 1) := by decide +kernel
theorem d_mo_overStart_90 : decode b_mo_overStart 90 = .ok (.bipush 104, 2) := by decide +kernel
theorem d_mo_overStart_92 : decode b_mo_overStart 92 = .ok (.if_icmp .gt 7, 3) := by decide +kernel
theorem d_mo_overStart_95 : decode b_mo_overStart 95 = .ok (.iload_n 1, 1) := by decide +kernel
theorem d_mo_overStart_96 : decode b_mo_overStart 96 = .ok (.iconst 1, 1) := by decide +kernel
theorem d_mo_overStart_97 : decode b_mo_overStart 97 = .ok (.iadd, 1) := by decide +kernel
theorem d_mo_overStart_98 : decode b_mo_overStart 98 = .ok (.ireturn, 1) := by decide +kernel
theorem d_mo_overStart_99 : decode b_mo_overStart 99 = .ok (.iload_n 2, 1) := by decide +kernel
theorem d_mo_overStart_100 : decode b_mo_overStart 100 = .ok (.bipush 45, 2) := by decide +kernel
theorem d_mo_overStart_102 : decode b_mo_overStart 102 = .ok (.if_icmp .ne 9, 3) := by decide +kernel
theorem d_mo_overStart_105 : decode b_mo_overStart 105 = .ok (.iload_n 1, 1) := by decide +kernel
theorem d_mo_overStart_106 : decode b_mo_overStart 106 = .ok (.iconst 1, 1) := by decide +kernel
theorem d_mo_overStart_107 : decode b_mo_overStart 107 = .ok (.iadd, 1) := by decide +kernel
theorem d_mo_overStart_108 : decode b_mo_overStart 108 = .ok (.goto 4, 3) := by decide +kernel
theorem d_mo_overStart_111 : decode b_mo_overStart 111 = .ok (.iload_n 1, 1) := by decide +kernel
theorem d_mo_overStart_112 : decode b_mo_overStart 112 = .ok (.istore_n 3, 1) := by decide +kernel
theorem d_mo_overStart_113 : decode b_mo_overStart 113 = .ok (.aload_n 0, 1) := by decide +kernel
theorem d_mo_overStart_114 : decode b_mo_overStart 114 = .ok (.iload_n 3, 1) := by decide +kernel
theorem d_mo_overStart_115 : decode b_mo_overStart 115 = .ok (.invokevirtual 109, 3) := by decide +kernel
theorem d_mo_overStart_118 : decode b_mo_overStart 118 = .ok (.ifCond .ne 7, 3) := by decide +kernel
theorem d_mo_overStart_121 : decode b_mo_overStart 121 = .ok (.iconst (-1), 1) := by decide +kernel
theorem d_mo_overStart_122 : decode b_mo_overStart 122 = .ok (.iload_n 3, 1) := by decide +kernel
theorem d_mo_overStart_123 : decode b_mo_overStart 123 = .ok (.isub, 1) := by decide +kernel
theorem d_mo_overStart_124 : decode b_mo_overStart 124 = .ok (.ireturn, 1) := by decide +kernel
theorem d_mo_overStart_125 : decode b_mo_overStart 125 = .ok (.aload_n 0, 1) := by decide +kernel
theorem d_mo_overStart_126 : decode b_mo_overStart 126 = .ok (.iload_n 3, 1) := by decide +kernel
theorem d_mo_overStart_127 : decode b_mo_overStart 127 = .ok (.invokevirtual 109, 3) := by decide +kernel
theorem d_mo_overStart_130 : decode b_mo_overStart 130 = .ok (.ifCond .eq 10, 3) := by decide +kernel
theorem d_mo_overStart_133 : decode b_mo_overStart 133 = .ok (.iload_n 3, 1) := by decide +kernel
theorem d_mo_overStart_134 : decode b_mo_overStart 134 = .ok (.iconst 1, 1) := by decide +kernel
theorem d_mo_overStart_135 : decode b_mo_overStart 135 = .ok (.iadd, 1) := by decide +kernel
theorem d_mo_overStart_136 : decode b_mo_overStart 136 = .ok (.istore_n 3, 1) := by decide +kernel
theorem d_mo_overStart_137 : decode b_mo_overStart 137 = .ok (.goto (-12), 3) := by decide +kernel
theorem d_mo_overStart_140 : decode b_mo_overStart 140 = .ok (.iload_n 3, 1) := by decide +kernel
theorem d_mo_overStart_141 : decode b_mo_overStart 141 = .ok (.ireturn, 1) := by decide +kernel
theorem d_mo_overEnds_0 : decode b_mo_overEnds 0 = .ok (.iload_n 1, 1) := by decide +kernel
theorem d_mo_overEnds_1 : decode b_mo_overEnds 1 = .ok (.istore_n 2, 1) := by decide +kernel
theorem d_mo_overEnds_2 : decode b_mo_overEnds 2 = .ok (.aload_n 0, 1) := by decide +kernel
theorem d_mo_overEnds_3 : decode b_mo_overEnds 3 = .ok (.getfield 103, 3) := by decide +kernel
theorem d_mo_overEnds_6 : decode b_mo_overEnds 6 = .ok (.ifCond .le 58, 3) := by decide +kernel
theorem d_mo_overEnds_9 : decode b_mo_overEnds 9 = .ok (.aload_n 0, 1) := by decide +kernel
theorem d_mo_overEnds_10 : decode b_mo_overEnds 10 = .ok (.iload_n 2, 1) := by decide +kernel
theorem d_mo_overEnds_11 : decode b_mo_overEnds 11 = .ok (.invokevirtual 96, 3) := by decide +kernel
theorem d_mo_overEnds_14 : decode b_mo_overEnds 14 = .ok (.bipush 41, 2) := by decide +kernel
theorem d_mo_overEnds_16 : decode b_mo_overEnds 16 = .ok (.if_icmp .ne 48, 3) := by decide +kernel
theorem d_mo_overEnds_19 : decode b_mo_overEnds 19 = .ok (.aload_n 0, 1) := by decide +kernel
theorem d_mo_overEnds_20 : decode b_mo_overEnds 20 = .ok (.getfield 29, 3) := by decide +kernel
theorem d_mo_overEnds_23 : decode b_mo_overEnds 23 = .ok (.aload_n 0, 1) := by decide +kernel
theorem d_mo_overEnds_24 : decode b_mo_overEnds 24 = .ok (.getfield 103, 3) := by decide +kernel
theorem d_mo_overEnds_27 : decode b_mo_overEnds 27 = .ok (.iaload, 1) := by decide +kernel
theorem d_mo_overEnds_28 : decode b_mo_overEnds 28 = .ok (.aload_n 0, 1) := by decide +kernel
theorem d_mo_overEnds_29 : decode b_mo_overEnds 29 = .ok (.getfield 26, 3) := by decide +kernel
theorem d_mo_overEnds_32 : decode b_mo_overEnds 32 = .ok (.aload_n 0, 1) := by decide +kernel
theorem d_mo_overEnds_33 : decode b_mo_overEnds 33 = .ok (.getfield 103, 3) := by decide +kernel
theorem d_mo_overEnds_36 : decode b_mo_overEnds 36 = .ok (.iaload, 1) := by decide +kernel
theorem d_mo_overEnds_37 : decode b_mo_overEnds 37 = .ok (.invokestatic 100, 3) := by decide +kernel
theorem d_mo_overEnds_40 : decode b_mo_overEnds 40 = .ok (.if_icmp .ge 7, 3) := by decide +kernel
theorem d_mo_overEnds_43 : decode b_mo_overEnds 43 = .ok (.iconst (-1), 1) := by decide +kernel
theorem d_mo_overEnds_44 : decode b_mo_overEnds 44 = .ok (.iload_n 2, 1) := by decide +kernel
theorem d_mo_overEnds_45 : decode b_mo_overEnds 45 = .ok (.isub, 1) := by decide +kernel
theorem d_mo_overEnds_46 : decode b_mo_overEnds 46 = .ok (.ireturn, 1) := by decide +kernel
theorem d_mo_overEnds_47 : decode b_mo_overEnds 47 = .ok (.aload_n 0, 1) := by decide +kernel
theorem d_mo_overEnds_48 : decode b_mo_overEnds 48 = .ok (.aload_n 0, 1) := by decide +kernel
theorem d_mo_overEnds_49 : decode b_mo_overEnds 49 = .ok (.getfield 103, 3) := by decide +kernel
theorem d_mo_overEnds_52 : decode b_mo_overEnds 52 = .ok (.iconst 1, 1) := by decide +kernel
theorem d_mo_overEnds_53 : decode b_mo_overEnds 53 = .ok (.isub, 1) := by decide +kernel
theorem d_mo_overEnds_54 : decode b_mo_overEnds 54 = .ok (.putfield 103, 3) := by decide +kernel
theorem d_mo_overEnds_57 : decode b_mo_overEnds 57 = .ok (.iload_n 2, 1) := by decide +kernel
theorem d_mo_overEnds_58 : decode b_mo_overEnds 58 = .ok (.iconst 1, 1) := by decide +kernel
theorem d_mo_overEnds_59 : decode b_mo_overEnds 59 = .ok (.iadd, 1) := by decide +kernel
theorem d_mo_overEnds_60 : decode b_mo_overEnds 60 = .ok (.istore_n 2, 1) := by decide +kernel
theorem d_mo_overEnds_61 : decode b_mo_overEnds 61 = .ok (.goto (-59), 3) := by decide +kernel
theorem d_mo_overEnds_64 : decode b_mo_overEnds 64 = .ok (.aload_n 0, 1) := by decide +kernel
theorem d_mo_overEnds_65 : decode b_mo_overEnds 65 = .ok (.getfield 103, 3) := by decide +kernel
theorem d_mo_overEnds_68 : decode b_mo_overEnds 68 = .ok (.ifCond .ne 21, 3) := by decide +kernel
theorem d_mo_overEnds_71 : decode b_mo_overEnds 71 = .ok (.iload_n 2, 1) := by decide +kernel
theorem d_mo_overEnds_72 : decode b_mo_overEnds 72 = .ok (.aload_n 0, 1) := by decide +kernel
theorem d_mo_overEnds_73 : decode b_mo_overEnds 73 = .ok (.getfield 93, 3) := by decide +kernel
theorem d_mo_overEnds_76 : decode b_mo_overEnds 76 = .ok (.if_icmp .ne 9, 3) := by decide +kernel
theorem d_mo_overEnds_79 : decode b_mo_overEnds 79 = .ok (.sipush 1000, 3) := by decide +kernel
theorem d_mo_overEnds_82 : decode b_mo_overEnds 82 = .ok (.goto 6, 3) := by decide +kernel
theorem d_mo_overEnds_85 : decode b_mo_overEnds 85 = .ok (.iconst (-1), 1) := by decide +kernel
theorem d_mo_overEnds_86 : decode b_mo_overEnds 86 = .ok (.iload_n 2, 1) := by decide +kernel
theorem d_mo_overEnds_87 : decode b_mo_overEnds 87 = .ok (.isub, 1) := by decide +kernel
theorem d_mo_overEnds_88 : decode b_mo_overEnds 88 = .ok (.ireturn, 1) := by decide +kernel
theorem d_mo_overEnds_89 : decode b_mo_overEnds 89 = .ok (.aload_n 0, 1) := by decide +kernel
theorem d_mo_overEnds_90 : decode b_mo_overEnds 90 = .ok (.iload_n 2, 1) := by decide +kernel
theorem d_mo_overEnds_91 : decode b_mo_overEnds 91 = .ok (.invokevirtual 96, 3) := by decide +kernel
theorem d_mo_overEnds_94 : decode b_mo_overEnds 94 = .ok (.bipush 32, 2) := by decide +kernel
theorem d_mo_overEnds_96 : decode b_mo_overEnds 96 = .ok (.if_icmp .ne 27, 3) := by decide +kernel
theorem d_mo_overEnds_99 : decode b_mo_overEnds 99 = .ok (.aload_n 0, 1) := by decide +kernel
theorem d_mo_overEnds_100 : decode b_mo_overEnds 100 = .ok (.getfield 29, 3) := by decide +kernel
theorem d_mo_overEnds_103 : decode b_mo_overEnds 103 = .ok (.aload_n 0, 1) := by decide +kernel
theorem d_mo_overEnds_104 : decode b_mo_overEnds 104 = .ok (.getfield 103, 3) := by decide +kernel
theorem d_mo_overEnds_107 : decode b_mo_overEnds 107 = .ok (.iaload, 1) := by decide +kernel
theorem d_mo_overEnds_108 : decode b_mo_overEnds 108 = .ok (.aload_n 0, 1) := by decide +kernel
theorem d_mo_overEnds_109 : decode b_mo_overEnds 109 = .ok (.getfield 26, 3) := by decide +kernel
theorem d_mo_overEnds_112 : decode b_mo_overEnds 112 = .ok (.aload_n 0, 1) := by decide +kernel
theorem d_mo_overEnds_113 : decode b_mo_overEnds 113 = .ok (.getfield 103, 3) := by decide +kernel
theorem d_mo_overEnds_116 : decode b_mo_overEnds 116 = .ok (.iaload, 1) := by decide +kernel
theorem d_mo_overEnds_117 : decode b_mo_overEnds 117 = .ok (.invokestatic 112, 3) := by decide +kernel
theorem d_mo_overEnds_120 : decode b_mo_overEnds 120 = .ok (.if_icmp .ne 7, 3) := by decide +kernel
theorem d_mo_overEnds_123 : decode b_mo_overEnds 123 = .ok (.iconst (-1), 1) := by decide +kernel
theorem d_mo_overEnds_124 : decode b_mo_overEnds 124 = .ok (.iload_n 2, 1) := by decide +kernel
theorem d_mo_overEnds_125 : decode b_mo_overEnds 125 = .ok (.isub, 1) := by decide +kernel
theorem d_mo_overEnds_126 : decode b_mo_overEnds 126 = .ok (.ireturn, 1) := by decide +kernel
theorem d_mo_overEnds_127 : decode b_mo_overEnds 127 = .ok (.aload_n 0, 1) := by decide +kernel
theorem d_mo_overEnds_128 : decode b_mo_overEnds 128 = .ok (.getfield 29, 3) := by decide +kernel
theorem d_mo_overEnds_131 : decode b_mo_overEnds 131 = .ok (.aload_n 0, 1) := by decide +kernel
theorem d_mo_overEnds_132 : decode b_mo_overEnds 132 = .ok (.getfield 103, 3) := by decide +kernel
theorem d_mo_overEnds_135 : decode b_mo_overEnds 135 = .ok (.aload_n 0, 1) := by decide +kernel
theorem d_mo_overEnds_136 : decode b_mo_overEnds 136 = .ok (.getfield 29, 3) := by decide +kernel
theorem d_mo_overEnds_139 : decode b_mo_overEnds 139 = .ok (.aload_n 0, 1) := by decide +kernel
theorem d_mo_overEnds_140 : decode b_mo_overEnds 140 = .ok (.getfield 103, 3) := by decide +kernel
theorem d_mo_overEnds_143 : decode b_mo_overEnds 143 = .ok (.iaload, 1) := by decide +kernel
theorem d_mo_overEnds_144 : decode b_mo_overEnds 144 = .ok (.iconst 1, 1) := by decide +kernel
theorem d_mo_overEnds_145 : decode b_mo_overEnds 145 = .ok (.iadd, 1) := by decide +kernel
theorem d_mo_overEnds_146 : decode b_mo_overEnds 146 = .ok (.iastore, 1) := by decide +kernel
theorem d_mo_overEnds_147 : decode b_mo_overEnds 147 = .ok (.iload_n 2, 1) := by decide +kernel
theorem d_mo_overEnds_148 : decode b_mo_overEnds 148 = .ok (.iconst 1, 1) := by decide +kernel
theorem d_mo_overEnds_149 : decode b_mo_overEnds 149 = .ok (.iadd, 1) := by decide +kernel
theorem d_mo_overEnds_150 : decode b_mo_overEnds 150 = .ok (.ireturn, 1) := by decide +kernel
theorem d_mo_faultOf_0 : decode b_mo_faultOf 0 = .ok (.aload_n 0, 1) := by decide +kernel
theorem d_mo_faultOf_1 : decode b_mo_faultOf 1 = .ok (.iconst 0, 1) := by decide +kernel
theorem d_mo_faultOf_2 : decode b_mo_faultOf 2 = .ok (.putfield 103, 3) := by decide +kernel
theorem d_mo_faultOf_5 : decode b_mo_faultOf 5 = .ok (.iconst 0, 1) := by decide +kernel
theorem d_mo_faultOf_6 : decode b_mo_faultOf 6 = .ok (.istore_n 1, 1) := by decide +kernel
theorem d_mo_faultOf_7 : decode b_mo_faultOf 7 = .ok (.iload_n 1, 1) := by decide +kernel
theorem d_mo_faultOf_8 : decode b_mo_faultOf 8 = .ok (.ifCond .lt 33, 3) := by decide +kernel
theorem d_mo_faultOf_11 : decode b_mo_faultOf 11 = .ok (.iload_n 1, 1) := by decide +kernel
theorem d_mo_faultOf_12 : decode b_mo_faultOf 12 = .ok (.sipush 1000, 3) := by decide +kernel
theorem d_mo_faultOf_15 : decode b_mo_faultOf 15 = .ok (.if_icmp .ge 26, 3) := by decide +kernel
theorem d_mo_faultOf_18 : decode b_mo_faultOf 18 = .ok (.aload_n 0, 1) := by decide +kernel
theorem d_mo_faultOf_19 : decode b_mo_faultOf 19 = .ok (.iload_n 1, 1) := by decide +kernel
theorem d_mo_faultOf_20 : decode b_mo_faultOf 20 = .ok (.invokevirtual 115, 3) := by decide +kernel
theorem d_mo_faultOf_23 : decode b_mo_faultOf 23 = .ok (.istore_n 1, 1) := by decide +kernel
theorem d_mo_faultOf_24 : decode b_mo_faultOf 24 = .ok (.iload_n 1, 1) := by decide +kernel
theorem d_mo_faultOf_25 : decode b_mo_faultOf 25 = .ok (.ifCond .ge 7, 3) := by decide +kernel
theorem d_mo_faultOf_28 : decode b_mo_faultOf 28 = .ok (.iload_n 1, 1) := by decide +kernel
theorem d_mo_faultOf_29 : decode b_mo_faultOf 29 = .ok (.goto 8, 3) := by decide +kernel
theorem d_mo_faultOf_32 : decode b_mo_faultOf 32 = .ok (.aload_n 0, 1) := by decide +kernel
theorem d_mo_faultOf_33 : decode b_mo_faultOf 33 = .ok (.iload_n 1, 1) := by decide +kernel
theorem d_mo_faultOf_34 : decode b_mo_faultOf 34 = .ok (.invokevirtual 118, 3) := by decide +kernel
theorem d_mo_faultOf_37 : decode b_mo_faultOf 37 = .ok (.istore_n 1, 1) := by decide +kernel
theorem d_mo_faultOf_38 : decode b_mo_faultOf 38 = .ok (.goto (-31), 3) := by decide +kernel
theorem d_mo_faultOf_41 : decode b_mo_faultOf 41 = .ok (.iload_n 1, 1) := by decide +kernel
theorem d_mo_faultOf_42 : decode b_mo_faultOf 42 = .ok (.ifCond .ge 9, 3) := by decide +kernel
theorem d_mo_faultOf_45 : decode b_mo_faultOf 45 = .ok (.iconst (-1), 1) := by decide +kernel
theorem d_mo_faultOf_46 : decode b_mo_faultOf 46 = .ok (.iload_n 1, 1) := by decide +kernel
theorem d_mo_faultOf_47 : decode b_mo_faultOf 47 = .ok (.isub, 1) := by decide +kernel
theorem d_mo_faultOf_48 : decode b_mo_faultOf 48 = .ok (.goto 4, 3) := by decide +kernel
theorem d_mo_faultOf_51 : decode b_mo_faultOf 51 = .ok (.iconst (-1), 1) := by decide +kernel
theorem d_mo_faultOf_52 : decode b_mo_faultOf 52 = .ok (.ireturn, 1) := by decide +kernel
theorem d_mo_skip_0 : decode b_mo_skip 0 = .ok (.iconst 0, 1) := by decide +kernel
theorem d_mo_skip_1 : decode b_mo_skip 1 = .ok (.istore_n 2, 1) := by decide +kernel
theorem d_mo_skip_2 : decode b_mo_skip 2 = .ok (.iload_n 1, 1) := by decide +kernel
theorem d_mo_skip_3 : decode b_mo_skip 3 = .ok (.istore_n 3, 1) := by decide +kernel
theorem d_mo_skip_4 : decode b_mo_skip 4 = .ok (.iconst 1, 1) := by decide +kernel
theorem d_mo_skip_5 : decode b_mo_skip 5 = .ok (.istore 4, 2) := by decide +kernel
theorem d_mo_skip_7 : decode b_mo_skip 7 = .ok (.iload 4, 2) := by decide +kernel
theorem d_mo_skip_9 : decode b_mo_skip 9 = .ok (.ifCond .eq 81, 3) := by decide +kernel
theorem d_mo_skip_12 : decode b_mo_skip 12 = .ok (.aload_n 0, 1) := by decide +kernel
theorem d_mo_skip_13 : decode b_mo_skip 13 = .ok (.iload_n 3, 1) := by decide +kernel
theorem d_mo_skip_14 : decode b_mo_skip 14 = .ok (.invokevirtual 96, 3) := by decide +kernel
theorem d_mo_skip_17 : decode b_mo_skip 17 = .ok (.bipush 40, 2) := by decide +kernel
theorem d_mo_skip_19 : decode b_mo_skip 19 = .ok (.if_icmp .ne 9, 3) := by decide +kernel
theorem d_mo_skip_22 : decode b_mo_skip 22 = .ok (.iload_n 2, 1) := by decide +kernel
theorem d_mo_skip_23 : decode b_mo_skip 23 = .ok (.iconst 1, 1) := by decide +kernel
theorem d_mo_skip_24 : decode b_mo_skip 24 = .ok (.iadd, 1) := by decide +kernel
theorem d_mo_skip_25 : decode b_mo_skip 25 = .ok (.goto 20, 3) := by decide +kernel
theorem d_mo_skip_28 : decode b_mo_skip 28 = .ok (.aload_n 0, 1) := by decide +kernel
theorem d_mo_skip_29 : decode b_mo_skip 29 = .ok (.iload_n 3, 1) := by decide +kernel
theorem d_mo_skip_30 : decode b_mo_skip 30 = .ok (.invokevirtual 96, 3) := by decide +kernel
theorem d_mo_skip_33 : decode b_mo_skip 33 = .ok (.bipush 41, 2) := by decide +kernel
theorem d_mo_skip_35 : decode b_mo_skip 35 = .ok (.if_icmp .ne 9, 3) := by decide +kernel
theorem d_mo_skip_38 : decode b_mo_skip 38 = .ok (.iload_n 2, 1) := by decide +kernel
theorem d_mo_skip_39 : decode b_mo_skip 39 = .ok (.iconst 1, 1) := by decide +kernel
theorem d_mo_skip_40 : decode b_mo_skip 40 = .ok (.isub, 1) := by decide +kernel
theorem d_mo_skip_41 : decode b_mo_skip 41 = .ok (.goto 4, 3) := by decide +kernel
theorem d_mo_skip_44 : decode b_mo_skip 44 = .ok (.iload_n 2, 1) := by decide +kernel
theorem d_mo_skip_45 : decode b_mo_skip 45 = .ok (.istore_n 2, 1) := by decide +kernel
theorem d_mo_skip_46 : decode b_mo_skip 46 = .ok (.iload_n 3, 1) := by decide +kernel
theorem d_mo_skip_47 : decode b_mo_skip 47 = .ok (.iconst 1, 1) := by decide +kernel
theorem d_mo_skip_48 : decode b_mo_skip 48 = .ok (.iadd, 1) := by decide +kernel
theorem d_mo_skip_49 : decode b_mo_skip 49 = .ok (.istore_n 3, 1) := by decide +kernel
theorem d_mo_skip_50 : decode b_mo_skip 50 = .ok (.aload_n 0, 1) := by decide +kernel
theorem d_mo_skip_51 : decode b_mo_skip 51 = .ok (.iload_n 3, 1) := by decide +kernel
theorem d_mo_skip_52 : decode b_mo_skip 52 = .ok (.invokevirtual 96, 3) := by decide +kernel
theorem d_mo_skip_55 : decode b_mo_skip 55 = .ok (.istore 5, 2) := by decide +kernel
theorem d_mo_skip_57 : decode b_mo_skip 57 = .ok (.iload_n 2, 1) := by decide +kernel
theorem d_mo_skip_58 : decode b_mo_skip 58 = .ok (.ifCond .gt 22, 3) := by decide +kernel
theorem d_mo_skip_61 : decode b_mo_skip 61 = .ok (.iload 5, 2) := by decide +kernel
theorem d_mo_skip_63 : decode b_mo_skip 63 = .ok (.bipush 32, 2) := by decide +kernel
theorem d_mo_skip_65 : decode b_mo_skip 65 = .ok (.if_icmp .eq 19, 3) := by decide +kernel
theorem d_mo_skip_68 : decode b_mo_skip 68 = .ok (.iload 5, 2) := by decide +kernel
theorem d_mo_skip_70 : decode b_mo_skip 70 = .ok (.bipush 41, 2) := by decide +kernel
theorem d_mo_skip_72 : decode b_mo_skip 72 = .ok (.if_icmp .eq 12, 3) := by decide +kernel
theorem d_mo_skip_75 : decode b_mo_skip 75 = .ok (.iload 5, 2) := by decide +kernel
theorem d_mo_skip_77 : decode b_mo_skip 77 = .ok (.ifCond .eq 7, 3) := by decide +kernel
theorem d_mo_skip_80 : decode b_mo_skip 80 = .ok (.iconst 1, 1) := by decide +kernel
theorem d_mo_skip_81 : decode b_mo_skip 81 = .ok (.goto 4, 3) := by decide +kernel
theorem d_mo_skip_84 : decode b_mo_skip 84 = .ok (.iconst 0, 1) := by decide +kernel
theorem d_mo_skip_85 : decode b_mo_skip 85 = .ok (.istore 4, 2) := by decide +kernel
theorem d_mo_skip_87 : decode b_mo_skip 87 = .ok (.goto (-80), 3) := by decide +kernel
theorem d_mo_skip_90 : decode b_mo_skip 90 = .ok (.iload_n 3, 1) := by decide +kernel
theorem d_mo_skip_91 : decode b_mo_skip 91 = .ok (.ireturn, 1) := by decide +kernel
theorem d_mo_number_0 : decode b_mo_number 0 = .ok (.aload_n 0, 1) := by decide +kernel
theorem d_mo_number_1 : decode b_mo_number 1 = .ok (.aload_n 0, 1) := by decide +kernel
theorem d_mo_number_2 : decode b_mo_number 2 = .ok (.getfield 121, 3) := by decide +kernel
theorem d_mo_number_5 : decode b_mo_number 5 = .ok (.invokevirtual 96, 3) := by decide +kernel
theorem d_mo_number_8 : decode b_mo_number 8 = .ok (.bipush 45, 2) := by decide +kernel
theorem d_mo_number_10 : decode b_mo_number 10 = .ok (.if_icmp .ne 7, 3) := by decide +kernel
theorem d_mo_number_13 : decode b_mo_number 13 = .ok (.iconst 1, 1) := by decide +kernel
theorem d_mo_number_14 : decode b_mo_number 14 = .ok (.goto 4, 3) := by decide +kernel
theorem d_mo_number_17 : decode b_mo_number 17 = .ok (.iconst 0, 1) := by decide +kernel
theorem d_mo_number_18 : decode b_mo_number 18 = .ok (.istore_n 1, 1) := by decide +kernel
theorem d_mo_number_19 : decode b_mo_number 19 = .ok (.aload_n 0, 1) := by decide +kernel
theorem d_mo_number_20 : decode b_mo_number 20 = .ok (.iload_n 1, 1) := by decide +kernel
theorem d_mo_number_21 : decode b_mo_number 21 = .ok (.ifCond .eq 12, 3) := by decide +kernel
theorem d_mo_number_24 : decode b_mo_number 24 = .ok (.aload_n 0, 1) := by decide +kernel
theorem d_mo_number_25 : decode b_mo_number 25 = .ok (.getfield 121, 3) := by decide +kernel
theorem d_mo_number_28 : decode b_mo_number 28 = .ok (.iconst 1, 1) := by decide +kernel
theorem d_mo_number_29 : decode b_mo_number 29 = .ok (.iadd, 1) := by decide +kernel
theorem d_mo_number_30 : decode b_mo_number 30 = .ok (.goto 7, 3) := by decide +kernel
theorem d_mo_number_33 : decode b_mo_number 33 = .ok (.aload_n 0, 1) := by decide +kernel
theorem d_mo_number_34 : decode b_mo_number 34 = .ok (.getfield 121, 3) := by decide +kernel
theorem d_mo_number_37 : decode b_mo_number 37 = .ok (.putfield 121, 3) := by decide +kernel
theorem d_mo_number_40 : decode b_mo_number 40 = .ok (.aload_n 0, 1) := by decide +kernel
theorem d_mo_number_41 : decode b_mo_number 41 = .ok (.iconst 2, 1) := by decide +kernel
theorem d_mo_number_42 : decode b_mo_number 42 = .ok (.aload_n 0, 1) := by decide +kernel
theorem d_mo_number_43 : decode b_mo_number 43 = .ok (.getfield 124, 3) := by decide +kernel
theorem d_mo_number_46 : decode b_mo_number 46 = .ok (.imul, 1) := by decide +kernel
theorem d_mo_number_47 : decode b_mo_number 47 = .ok (.iconst 0, 1) := by decide +kernel
theorem d_mo_number_48 : decode b_mo_number 48 = .ok (.invokevirtual 35, 3) := by decide +kernel
theorem d_mo_number_51 : decode b_mo_number 51 = .ok (.aload_n 0, 1) := by decide +kernel
theorem d_mo_number_52 : decode b_mo_number 52 = .ok (.iconst 2, 1) := by decide +kernel
theorem d_mo_number_53 : decode b_mo_number 53 = .ok (.aload_n 0, 1) := by decide +kernel
theorem d_mo_number_54 : decode b_mo_number 54 = .ok (.getfield 124, 3) := by decide +kernel
theorem d_mo_number_57 : decode b_mo_number 57 = .ok (.imul, 1) := by decide +kernel
theorem d_mo_number_58 : decode b_mo_number 58 = .ok (.iconst 1, 1) := by decide +kernel
theorem d_mo_number_59 : decode b_mo_number 59 = .ok (.iadd, 1) := by decide +kernel
theorem d_mo_number_60 : decode b_mo_number 60 = .ok (.iconst 1, 1) := by decide +kernel
theorem d_mo_number_61 : decode b_mo_number 61 = .ok (.invokevirtual 35, 3) := by decide +kernel
theorem d_mo_number_64 : decode b_mo_number 64 = .ok (.aload_n 0, 1) := by decide +kernel
theorem d_mo_number_65 : decode b_mo_number 65 = .ok (.sipush 151, 3) := by decide +kernel
theorem d_mo_number_68 : decode b_mo_number 68 = .ok (.iconst 0, 1) := by decide +kernel
theorem d_mo_number_69 : decode b_mo_number 69 = .ok (.invokevirtual 35, 3) := by decide +kernel
theorem d_mo_number_72 : decode b_mo_number 72 = .ok (.aload_n 0, 1) := by decide +kernel
theorem d_mo_number_73 : decode b_mo_number 73 = .ok (.aload_n 0, 1) := by decide +kernel
theorem d_mo_number_74 : decode b_mo_number 74 = .ok (.getfield 121, 3) := by decide +kernel
theorem d_mo_number_77 : decode b_mo_number 77 = .ok (.invokevirtual 109, 3) := by decide +kernel
theorem d_mo_number_80 : decode b_mo_number 80 = .ok (.ifCond .eq 72, 3) := by decide +kernel
theorem d_mo_number_83 : decode b_mo_number 83 = .ok (.aload_n 0, 1) := by decide +kernel
theorem d_mo_number_84 : decode b_mo_number 84 = .ok (.iconst 2, 1) := by decide +kernel
theorem d_mo_number_85 : decode b_mo_number 85 = .ok (.aload_n 0, 1) := by decide +kernel
theorem d_mo_number_86 : decode b_mo_number 86 = .ok (.getfield 124, 3) := by decide +kernel
theorem d_mo_number_89 : decode b_mo_number 89 = .ok (.imul, 1) := by decide +kernel
theorem d_mo_number_90 : decode b_mo_number 90 = .ok (.bipush 10, 2) := by decide +kernel
theorem d_mo_number_92 : decode b_mo_number 92 = .ok (.sipush 150, 3) := by decide +kernel
theorem d_mo_number_95 : decode b_mo_number 95 = .ok (.invokevirtual 51, 3) := by decide +kernel
theorem d_mo_number_98 : decode b_mo_number 98 = .ok (.aload_n 0, 1) := by decide +kernel
theorem d_mo_number_99 : decode b_mo_number 99 = .ok (.sipush 151, 3) := by decide +kernel
theorem d_mo_number_102 : decode b_mo_number 102 = .ok (.aload_n 0, 1) := by decide +kernel
theorem d_mo_number_103 : decode b_mo_number 103 = .ok (.aload_n 0, 1) := by decide +kernel
theorem d_mo_number_104 : decode b_mo_number 104 = .ok (.getfield 121, 3) := by decide +kernel
theorem d_mo_number_107 : decode b_mo_number 107 = .ok (.invokevirtual 96, 3) := by decide +kernel
theorem d_mo_number_110 : decode b_mo_number 110 = .ok (.bipush 48, 2) := by decide +kernel
theorem d_mo_number_112 : decode b_mo_number 112 = .ok (.isub, 1) := by decide +kernel
theorem d_mo_number_113 : decode b_mo_number 113 = .ok (.invokevirtual 35, 3) := by decide +kernel
theorem d_mo_number_116 : decode b_mo_number 116 = .ok (.aload_n 0, 1) := by decide +kernel
theorem d_mo_number_117 : decode b_mo_number 117 = .ok (.sipush 150, 3) := by decide +kernel
theorem d_mo_number_120 : decode b_mo_number 120 = .ok (.sipush 151, 3) := by decide +kernel
theorem d_mo_number_123 : decode b_mo_number 123 = .ok (.invokevirtual 39, 3) := by decide +kernel
theorem d_mo_number_126 : decode b_mo_number 126 = .ok (.aload_n 0, 1) := by decide +kernel
theorem d_mo_number_127 : decode b_mo_number 127 = .ok (.sipush 150, 3) := by decide +kernel
theorem d_mo_number_130 : decode b_mo_number 130 = .ok (.iconst 2, 1) := by decide +kernel
theorem d_mo_number_131 : decode b_mo_number 131 = .ok (.aload_n 0, 1) := by decide +kernel
theorem d_mo_number_132 : decode b_mo_number 132 = .ok (.getfield 124, 3) := by decide +kernel
theorem d_mo_number_135 : decode b_mo_number 135 = .ok (.imul, 1) := by decide +kernel
theorem d_mo_number_136 : decode b_mo_number 136 = .ok (.invokevirtual 62, 3) := by decide +kernel
theorem d_mo_number_139 : decode b_mo_number 139 = .ok (.aload_n 0, 1) := by decide +kernel
theorem d_mo_number_140 : decode b_mo_number 140 = .ok (.aload_n 0, 1) := by decide +kernel
theorem d_mo_number_141 : decode b_mo_number 141 = .ok (.getfield 121, 3) := by decide +kernel
theorem d_mo_number_144 : decode b_mo_number 144 = .ok (.iconst 1, 1) := by decide +kernel
theorem d_mo_number_145 : decode b_mo_number 145 = .ok (.iadd, 1) := by decide +kernel
theorem d_mo_number_146 : decode b_mo_number 146 = .ok (.putfield 121, 3) := by decide +kernel
theorem d_mo_number_149 : decode b_mo_number 149 = .ok (.goto (-77), 3) := by decide +kernel
theorem d_mo_number_152 : decode b_mo_number 152 = .ok (.aload_n 0, 1) := by decide +kernel
theorem d_mo_number_153 : decode b_mo_number 153 = .ok (.getfield 23, 3) := by decide +kernel
theorem d_mo_number_156 : decode b_mo_number 156 = .ok (.aload_n 0, 1) := by decide +kernel
theorem d_mo_number_157 : decode b_mo_number 157 = .ok (.getfield 124, 3) := by decide +kernel
theorem d_mo_number_160 : decode b_mo_number 160 = .ok (.aload_n 0, 1) := by decide +kernel
theorem d_mo_number_161 : decode b_mo_number 161 = .ok (.getfield 20, 3) := by decide +kernel
theorem d_mo_number_164 : decode b_mo_number 164 = .ok (.iconst 2, 1) := by decide +kernel
theorem d_mo_number_165 : decode b_mo_number 165 = .ok (.aload_n 0, 1) := by decide +kernel
theorem d_mo_number_166 : decode b_mo_number 166 = .ok (.getfield 124, 3) := by decide +kernel
theorem d_mo_number_169 : decode b_mo_number 169 = .ok (.imul, 1) := by decide +kernel
theorem d_mo_number_170 : decode b_mo_number 170 = .ok (.iaload, 1) := by decide +kernel
theorem d_mo_number_171 : decode b_mo_number 171 = .ok (.ifCond .ne 7, 3) := by decide +kernel
theorem d_mo_number_174 : decode b_mo_number 174 = .ok (.iconst 0, 1) := by decide +kernel
theorem d_mo_number_175 : decode b_mo_number 175 = .ok (.goto 12, 3) := by decide +kernel
theorem d_mo_number_178 : decode b_mo_number 178 = .ok (.iload_n 1, 1) := by decide +kernel
theorem d_mo_number_179 : decode b_mo_number 179 = .ok (.ifCond .eq 7, 3) := by decide +kernel
theorem d_mo_number_182 : decode b_mo_number 182 = .ok (.iconst (-1), 1) := by decide +kernel
theorem d_mo_number_183 : decode b_mo_number 183 = .ok (.goto 4, 3) := by decide +kernel
theorem d_mo_number_186 : decode b_mo_number 186 = .ok (.iconst 1, 1) := by decide +kernel
theorem d_mo_number_187 : decode b_mo_number 187 = .ok (.iastore, 1) := by decide +kernel
theorem d_mo_number_188 : decode b_mo_number 188 = .ok (.aload_n 0, 1) := by decide +kernel
theorem d_mo_number_189 : decode b_mo_number 189 = .ok (.aload_n 0, 1) := by decide +kernel
theorem d_mo_number_190 : decode b_mo_number 190 = .ok (.getfield 124, 3) := by decide +kernel
theorem d_mo_number_193 : decode b_mo_number 193 = .ok (.iconst 1, 1) := by decide +kernel
theorem d_mo_number_194 : decode b_mo_number 194 = .ok (.iadd, 1) := by decide +kernel
theorem d_mo_number_195 : decode b_mo_number 195 = .ok (.putfield 124, 3) := by decide +kernel
theorem d_mo_number_198 : decode b_mo_number 198 = .ok (.aload_n 0, 1) := by decide +kernel
theorem d_mo_number_199 : decode b_mo_number 199 = .ok (.iconst 2, 1) := by decide +kernel
theorem d_mo_number_200 : decode b_mo_number 200 = .ok (.aload_n 0, 1) := by decide +kernel
theorem d_mo_number_201 : decode b_mo_number 201 = .ok (.getfield 124, 3) := by decide +kernel
theorem d_mo_number_204 : decode b_mo_number 204 = .ok (.imul, 1) := by decide +kernel
theorem d_mo_number_205 : decode b_mo_number 205 = .ok (.iconst 2, 1) := by decide +kernel
theorem d_mo_number_206 : decode b_mo_number 206 = .ok (.isub, 1) := by decide +kernel
theorem d_mo_number_207 : decode b_mo_number 207 = .ok (.sipush 158, 3) := by decide +kernel
theorem d_mo_number_210 : decode b_mo_number 210 = .ok (.invokevirtual 55, 3) := by decide +kernel
theorem d_mo_number_213 : decode b_mo_number 213 = .ok (.ifCond .ge 7, 3) := by decide +kernel
theorem d_mo_number_216 : decode b_mo_number 216 = .ok (.iconst 0, 1) := by decide +kernel
theorem d_mo_number_217 : decode b_mo_number 217 = .ok (.goto 4, 3) := by decide +kernel
theorem d_mo_number_220 : decode b_mo_number 220 = .ok (.iconst 1, 1) := by decide +kernel
theorem d_mo_number_221 : decode b_mo_number 221 = .ok (.ireturn, 1) := by decide +kernel
theorem d_mo_begin_0 : decode b_mo_begin 0 = .ok (.aload_n 0, 1) := by decide +kernel
theorem d_mo_begin_1 : decode b_mo_begin 1 = .ok (.aload_n 0, 1) := by decide +kernel
theorem d_mo_begin_2 : decode b_mo_begin 2 = .ok (.getfield 121, 3) := by decide +kernel
theorem d_mo_begin_5 : decode b_mo_begin 5 = .ok (.invokevirtual 96, 3) := by decide +kernel
theorem d_mo_begin_8 : decode b_mo_begin 8 = .ok (.istore_n 1, 1) := by decide +kernel
theorem d_mo_begin_9 : decode b_mo_begin 9 = .ok (.iload_n 1, 1) := by decide +kernel
theorem d_mo_begin_10 : decode b_mo_begin 10 = .ok (.bipush 40, 2) := by decide +kernel
theorem d_mo_begin_12 : decode b_mo_begin 12 = .ok (.if_icmp .ne 57, 3) := by decide +kernel
theorem d_mo_begin_15 : decode b_mo_begin 15 = .ok (.aload_n 0, 1) := by decide +kernel
theorem d_mo_begin_16 : decode b_mo_begin 16 = .ok (.aload_n 0, 1) := by decide +kernel
theorem d_mo_begin_17 : decode b_mo_begin 17 = .ok (.getfield 103, 3) := by decide +kernel
theorem d_mo_begin_20 : decode b_mo_begin 20 = .ok (.iconst 1, 1) := by decide +kernel
theorem d_mo_begin_21 : decode b_mo_begin 21 = .ok (.iadd, 1) := by decide +kernel
theorem d_mo_begin_22 : decode b_mo_begin 22 = .ok (.putfield 103, 3) := by decide +kernel
theorem d_mo_begin_25 : decode b_mo_begin 25 = .ok (.aload_n 0, 1) := by decide +kernel
theorem d_mo_begin_26 : decode b_mo_begin 26 = .ok (.getfield 26, 3) := by decide +kernel
theorem d_mo_begin_29 : decode b_mo_begin 29 = .ok (.aload_n 0, 1) := by decide +kernel
theorem d_mo_begin_30 : decode b_mo_begin 30 = .ok (.getfield 103, 3) := by decide +kernel
theorem d_mo_begin_33 : decode b_mo_begin 33 = .ok (.aload_n 0, 1) := by decide +kernel
theorem d_mo_begin_34 : decode b_mo_begin 34 = .ok (.aload_n 0, 1) := by decide +kernel
theorem d_mo_begin_35 : decode b_mo_begin 35 = .ok (.getfield 121, 3) := by decide +kernel
theorem d_mo_begin_38 : decode b_mo_begin 38 = .ok (.iconst 1, 1) := by decide +kernel
theorem d_mo_begin_39 : decode b_mo_begin 39 = .ok (.iadd, 1) := by decide +kernel
theorem d_mo_begin_40 : decode b_mo_begin 40 = .ok (.invokevirtual 96, 3) := by decide +kernel
theorem d_mo_begin_43 : decode b_mo_begin 43 = .ok (.iastore, 1) := by decide +kernel
theorem d_mo_begin_44 : decode b_mo_begin 44 = .ok (.aload_n 0, 1) := by decide +kernel
theorem d_mo_begin_45 : decode b_mo_begin 45 = .ok (.getfield 32, 3) := by decide +kernel
theorem d_mo_begin_48 : decode b_mo_begin 48 = .ok (.aload_n 0, 1) := by decide +kernel
theorem d_mo_begin_49 : decode b_mo_begin 49 = .ok (.getfield 103, 3) := by decide +kernel
theorem d_mo_begin_52 : decode b_mo_begin 52 = .ok (.aload_n 0, 1) := by decide +kernel
theorem d_mo_begin_53 : decode b_mo_begin 53 = .ok (.getfield 124, 3) := by decide +kernel
theorem d_mo_begin_56 : decode b_mo_begin 56 = .ok (.iastore, 1) := by decide +kernel
theorem d_mo_begin_57 : decode b_mo_begin 57 = .ok (.aload_n 0, 1) := by decide +kernel
theorem d_mo_begin_58 : decode b_mo_begin 58 = .ok (.aload_n 0, 1) := by decide +kernel
theorem d_mo_begin_59 : decode b_mo_begin 59 = .ok (.getfield 121, 3) := by decide +kernel
theorem d_mo_begin_62 : decode b_mo_begin 62 = .ok (.iconst 2, 1) := by decide +kernel
theorem d_mo_begin_63 : decode b_mo_begin 63 = .ok (.iadd, 1) := by decide +kernel
theorem d_mo_begin_64 : decode b_mo_begin 64 = .ok (.putfield 121, 3) := by decide +kernel
theorem d_mo_begin_67 : decode b_mo_begin 67 = .ok (.iconst 0, 1) := by decide +kernel
theorem d_mo_begin_68 : decode b_mo_begin 68 = .ok (.ireturn, 1) := by decide +kernel
theorem d_mo_begin_69 : decode b_mo_begin 69 = .ok (.iload_n 1, 1) := by decide +kernel
theorem d_mo_begin_70 : decode b_mo_begin 70 = .ok (.bipush 97, 2) := by decide +kernel
theorem d_mo_begin_72 : decode b_mo_begin 72 = .ok (.if_icmp .lt 46, 3) := by decide +kernel
theorem d_mo_begin_75 : decode b_mo_begin 75 = .ok (.iload_n 1, 1) := by decide +kernel
theorem d_mo_begin_76 : decode b_mo_begin 76 = .ok (.bipush 104, 2) := by decide +kernel
theorem d_mo_begin_78 : decode b_mo_begin 78 = .ok (.if_icmp .gt 40, 3) := by decide +kernel
theorem d_mo_begin_81 : decode b_mo_begin 81 = .ok (.aload_n 0, 1) := by decide +kernel
theorem d_mo_begin_82 : decode b_mo_begin 82 = .ok (.bipush 64, 2) := by decide +kernel
theorem d_mo_begin_84 : decode b_mo_begin 84 = .ok (.iload_n 1, 1) := by decide +kernel
theorem d_mo_begin_85 : decode b_mo_begin 85 = .ok (.iadd, 1) := by decide +kernel
theorem d_mo_begin_86 : decode b_mo_begin 86 = .ok (.bipush 97, 2) := by decide +kernel
theorem d_mo_begin_88 : decode b_mo_begin 88 = .ok (.isub, 1) := by decide +kernel
theorem d_mo_begin_89 : decode b_mo_begin 89 = .ok (.aload_n 0, 1) := by decide +kernel
theorem d_mo_begin_90 : decode b_mo_begin 90 = .ok (.getfield 124, 3) := by decide +kernel
theorem d_mo_begin_93 : decode b_mo_begin 93 = .ok (.invokevirtual 127, 3) := by decide +kernel
theorem d_mo_begin_96 : decode b_mo_begin 96 = .ok (.aload_n 0, 1) := by decide +kernel
theorem d_mo_begin_97 : decode b_mo_begin 97 = .ok (.aload_n 0, 1) := by decide +kernel
theorem d_mo_begin_98 : decode b_mo_begin 98 = .ok (.getfield 124, 3) := by decide +kernel
theorem d_mo_begin_101 : decode b_mo_begin 101 = .ok (.iconst 1, 1) := by decide +kernel
theorem d_mo_begin_102 : decode b_mo_begin 102 = .ok (.iadd, 1) := by decide +kernel
theorem d_mo_begin_103 : decode b_mo_begin 103 = .ok (.putfield 124, 3) := by decide +kernel
theorem d_mo_begin_106 : decode b_mo_begin 106 = .ok (.aload_n 0, 1) := by decide +kernel
theorem d_mo_begin_107 : decode b_mo_begin 107 = .ok (.aload_n 0, 1) := by decide +kernel
theorem d_mo_begin_108 : decode b_mo_begin 108 = .ok (.getfield 121, 3) := by decide +kernel
theorem d_mo_begin_111 : decode b_mo_begin 111 = .ok (.iconst 1, 1) := by decide +kernel
theorem d_mo_begin_112 : decode b_mo_begin 112 = .ok (.iadd, 1) := by decide +kernel
theorem d_mo_begin_113 : decode b_mo_begin 113 = .ok (.putfield 121, 3) := by decide +kernel
theorem d_mo_begin_116 : decode b_mo_begin 116 = .ok (.iconst 0, 1) := by decide +kernel
theorem d_mo_begin_117 : decode b_mo_begin 117 = .ok (.ireturn, 1) := by decide +kernel
theorem d_mo_begin_118 : decode b_mo_begin 118 = .ok (.aload_n 0, 1) := by decide +kernel
theorem d_mo_begin_119 : decode b_mo_begin 119 = .ok (.invokevirtual 130, 3) := by decide +kernel
theorem d_mo_begin_122 : decode b_mo_begin 122 = .ok (.ireturn, 1) := by decide +kernel
theorem d_mo_goOn_0 : decode b_mo_goOn 0 = .ok (.iconst 0, 1) := by decide +kernel
theorem d_mo_goOn_1 : decode b_mo_goOn 1 = .ok (.istore_n 1, 1) := by decide +kernel
theorem d_mo_goOn_2 : decode b_mo_goOn 2 = .ok (.iload_n 1, 1) := by decide +kernel
theorem d_mo_goOn_3 : decode b_mo_goOn 3 = .ok (.ifCond .ne 183, 3) := by decide +kernel
theorem d_mo_goOn_6 : decode b_mo_goOn 6 = .ok (.aload_n 0, 1) := by decide +kernel
theorem d_mo_goOn_7 : decode b_mo_goOn 7 = .ok (.getfield 103, 3) := by decide +kernel
theorem d_mo_goOn_10 : decode b_mo_goOn 10 = .ok (.ifCond .le 176, 3) := by decide +kernel
theorem d_mo_goOn_13 : decode b_mo_goOn 13 = .ok (.aload_n 0, 1) := by decide +kernel
theorem d_mo_goOn_14 : decode b_mo_goOn 14 = .ok (.getfield 32, 3) := by decide +kernel
theorem d_mo_goOn_17 : decode b_mo_goOn 17 = .ok (.aload_n 0, 1) := by decide +kernel
theorem d_mo_goOn_18 : decode b_mo_goOn 18 = .ok (.getfield 103, 3) := by decide +kernel
theorem d_mo_goOn_21 : decode b_mo_goOn 21 = .ok (.iaload, 1) := by decide +kernel
theorem d_mo_goOn_22 : decode b_mo_goOn 22 = .ok (.istore_n 2, 1) := by decide +kernel
theorem d_mo_goOn_23 : decode b_mo_goOn 23 = .ok (.aload_n 0, 1) := by decide +kernel
theorem d_mo_goOn_24 : decode b_mo_goOn 24 = .ok (.getfield 124, 3) := by decide +kernel
theorem d_mo_goOn_27 : decode b_mo_goOn 27 = .ok (.iload_n 2, 1) := by decide +kernel
theorem d_mo_goOn_28 : decode b_mo_goOn 28 = .ok (.isub, 1) := by decide +kernel
theorem d_mo_goOn_29 : decode b_mo_goOn 29 = .ok (.istore_n 3, 1) := by decide +kernel
theorem d_mo_goOn_30 : decode b_mo_goOn 30 = .ok (.aload_n 0, 1) := by decide +kernel
theorem d_mo_goOn_31 : decode b_mo_goOn 31 = .ok (.getfield 26, 3) := by decide +kernel
theorem d_mo_goOn_34 : decode b_mo_goOn 34 = .ok (.aload_n 0, 1) := by decide +kernel
theorem d_mo_goOn_35 : decode b_mo_goOn 35 = .ok (.getfield 103, 3) := by decide +kernel
theorem d_mo_goOn_38 : decode b_mo_goOn 38 = .ok (.iaload, 1) := by decide +kernel
theorem d_mo_goOn_39 : decode b_mo_goOn 39 = .ok (.bipush 63, 2) := by decide +kernel
theorem d_mo_goOn_41 : decode b_mo_goOn 41 = .ok (.if_icmp .ne 7, 3) := by decide +kernel
theorem d_mo_goOn_44 : decode b_mo_goOn 44 = .ok (.iconst 1, 1) := by decide +kernel
theorem d_mo_goOn_45 : decode b_mo_goOn 45 = .ok (.goto 4, 3) := by decide +kernel
theorem d_mo_goOn_48 : decode b_mo_goOn 48 = .ok (.iconst 0, 1) := by decide +kernel
theorem d_mo_goOn_49 : decode b_mo_goOn 49 = .ok (.istore 4, 2) := by decide +kernel
theorem d_mo_goOn_51 : decode b_mo_goOn 51 = .ok (.aload_n 0, 1) := by decide +kernel
theorem d_mo_goOn_52 : decode b_mo_goOn 52 = .ok (.aload_n 0, 1) := by decide +kernel
theorem d_mo_goOn_53 : decode b_mo_goOn 53 = .ok (.getfield 121, 3) := by decide +kernel
theorem d_mo_goOn_56 : decode b_mo_goOn 56 = .ok (.invokevirtual 96, 3) := by decide +kernel
theorem d_mo_goOn_59 : decode b_mo_goOn 59 = .ok (.bipush 41, 2) := by decide +kernel
theorem d_mo_goOn_61 : decode b_mo_goOn 61 = .ok (.if_icmp .ne 49, 3) := by decide +kernel
theorem d_mo_goOn_64 : decode b_mo_goOn 64 = .ok (.aload_n 0, 1) := by decide +kernel
theorem d_mo_goOn_65 : decode b_mo_goOn 65 = .ok (.aload_n 0, 1) := by decide +kernel
theorem d_mo_goOn_66 : decode b_mo_goOn 66 = .ok (.getfield 26, 3) := by decide +kernel
theorem d_mo_goOn_69 : decode b_mo_goOn 69 = .ok (.aload_n 0, 1) := by decide +kernel
theorem d_mo_goOn_70 : decode b_mo_goOn 70 = .ok (.getfield 103, 3) := by decide +kernel
theorem d_mo_goOn_73 : decode b_mo_goOn 73 = .ok (.iaload, 1) := by decide +kernel
theorem d_mo_goOn_74 : decode b_mo_goOn 74 = .ok (.iload_n 2, 1) := by decide +kernel
theorem d_mo_goOn_75 : decode b_mo_goOn 75 = .ok (.iload_n 3, 1) := by decide +kernel
theorem d_mo_goOn_76 : decode b_mo_goOn 76 = .ok (.invokevirtual 134, 3) := by decide +kernel
theorem d_mo_goOn_79 : decode b_mo_goOn 79 = .ok (.istore_n 1, 1) := by decide +kernel
theorem d_mo_goOn_80 : decode b_mo_goOn 80 = .ok (.aload_n 0, 1) := by decide +kernel
theorem d_mo_goOn_81 : decode b_mo_goOn 81 = .ok (.iload_n 2, 1) := by decide +kernel
theorem d_mo_goOn_82 : decode b_mo_goOn 82 = .ok (.iconst 1, 1) := by decide +kernel
theorem d_mo_goOn_83 : decode b_mo_goOn 83 = .ok (.iadd, 1) := by decide +kernel
theorem d_mo_goOn_84 : decode b_mo_goOn 84 = .ok (.putfield 124, 3) := by decide +kernel
theorem d_mo_goOn_87 : decode b_mo_goOn 87 = .ok (.aload_n 0, 1) := by decide +kernel
theorem d_mo_goOn_88 : decode b_mo_goOn 88 = .ok (.aload_n 0, 1) := by decide +kernel
theorem d_mo_goOn_89 : decode b_mo_goOn 89 = .ok (.getfield 103, 3) := by decide +kernel
theorem d_mo_goOn_92 : decode b_mo_goOn 92 = .ok (.iconst 1, 1) := by decide +kernel
theorem d_mo_goOn_93 : decode b_mo_goOn 93 = .ok (.isub, 1) := by decide +kernel
theorem d_mo_goOn_94 : decode b_mo_goOn 94 = .ok (.putfield 103, 3) := by decide +kernel
theorem d_mo_goOn_97 : decode b_mo_goOn 97 = .ok (.aload_n 0, 1) := by decide +kernel
theorem d_mo_goOn_98 : decode b_mo_goOn 98 = .ok (.aload_n 0, 1) := by decide +kernel
theorem d_mo_goOn_99 : decode b_mo_goOn 99 = .ok (.getfield 121, 3) := by decide +kernel
theorem d_mo_goOn_102 : decode b_mo_goOn 102 = .ok (.iconst 1, 1) := by decide +kernel
theorem d_mo_goOn_103 : decode b_mo_goOn 103 = .ok (.iadd, 1) := by decide +kernel
theorem d_mo_goOn_104 : decode b_mo_goOn 104 = .ok (.putfield 121, 3) := by decide +kernel
theorem d_mo_goOn_107 : decode b_mo_goOn 107 = .ok (.goto 76, 3) := by decide +kernel
theorem d_mo_goOn_110 : decode b_mo_goOn 110 = .ok (.iload 4, 2) := by decide +kernel
theorem d_mo_goOn_112 : decode b_mo_goOn 112 = .ok (.ifCond .eq 25, 3) := by decide +kernel
theorem d_mo_goOn_115 : decode b_mo_goOn 115 = .ok (.iload_n 3, 1) := by decide +kernel
theorem d_mo_goOn_116 : decode b_mo_goOn 116 = .ok (.iconst 2, 1) := by decide +kernel
theorem d_mo_goOn_117 : decode b_mo_goOn 117 = .ok (.if_icmp .ne 20, 3) := by decide +kernel
theorem d_mo_goOn_120 : decode b_mo_goOn 120 = .ok (.aload_n 0, 1) := by decide +kernel
theorem d_mo_goOn_121 : decode b_mo_goOn 121 = .ok (.aload_n 0, 1) := by decide +kernel
theorem d_mo_goOn_122 : decode b_mo_goOn 122 = .ok (.aload_n 0, 1) := by decide +kernel
theorem d_mo_goOn_123 : decode b_mo_goOn 123 = .ok (.getfield 121, 3) := by decide +kernel
theorem d_mo_goOn_126 : decode b_mo_goOn 126 = .ok (.iconst 1, 1) := by decide +kernel
theorem d_mo_goOn_127 : decode b_mo_goOn 127 = .ok (.iadd, 1) := by decide +kernel
theorem d_mo_goOn_128 : decode b_mo_goOn 128 = .ok (.invokevirtual 138, 3) := by decide +kernel
theorem d_mo_goOn_131 : decode b_mo_goOn 131 = .ok (.putfield 121, 3) := by decide +kernel
theorem d_mo_goOn_134 : decode b_mo_goOn 134 = .ok (.goto 49, 3) := by decide +kernel
theorem d_mo_goOn_137 : decode b_mo_goOn 137 = .ok (.aload_n 0, 1) := by decide +kernel
theorem d_mo_goOn_138 : decode b_mo_goOn 138 = .ok (.iload 4, 2) := by decide +kernel
theorem d_mo_goOn_140 : decode b_mo_goOn 140 = .ok (.ifCond .eq 32, 3) := by decide +kernel
theorem d_mo_goOn_143 : decode b_mo_goOn 143 = .ok (.iload_n 3, 1) := by decide +kernel
theorem d_mo_goOn_144 : decode b_mo_goOn 144 = .ok (.iconst 1, 1) := by decide +kernel
theorem d_mo_goOn_145 : decode b_mo_goOn 145 = .ok (.if_icmp .ne 27, 3) := by decide +kernel
theorem d_mo_goOn_148 : decode b_mo_goOn 148 = .ok (.aload_n 0, 1) := by decide +kernel
theorem d_mo_goOn_149 : decode b_mo_goOn 149 = .ok (.getfield 23, 3) := by decide +kernel
theorem d_mo_goOn_152 : decode b_mo_goOn 152 = .ok (.iload_n 2, 1) := by decide +kernel
theorem d_mo_goOn_153 : decode b_mo_goOn 153 = .ok (.iaload, 1) := by decide +kernel
theorem d_mo_goOn_154 : decode b_mo_goOn 154 = .ok (.ifCond .ne 18, 3) := by decide +kernel
theorem d_mo_goOn_157 : decode b_mo_goOn 157 = .ok (.aload_n 0, 1) := by decide +kernel
theorem d_mo_goOn_158 : decode b_mo_goOn 158 = .ok (.aload_n 0, 1) := by decide +kernel
theorem d_mo_goOn_159 : decode b_mo_goOn 159 = .ok (.getfield 121, 3) := by decide +kernel
theorem d_mo_goOn_162 : decode b_mo_goOn 162 = .ok (.iconst 1, 1) := by decide +kernel
theorem d_mo_goOn_163 : decode b_mo_goOn 163 = .ok (.iadd, 1) := by decide +kernel
theorem d_mo_goOn_164 : decode b_mo_goOn 164 = .ok (.invokevirtual 138, 3) := by decide +kernel
theorem d_mo_goOn_167 : decode b_mo_goOn 167 = .ok (.iconst 1, 1) := by decide +kernel
theorem d_mo_goOn_168 : decode b_mo_goOn 168 = .ok (.iadd, 1) := by decide +kernel
theorem d_mo_goOn_169 : decode b_mo_goOn 169 = .ok (.goto 9, 3) := by decide +kernel
theorem d_mo_goOn_172 : decode b_mo_goOn 172 = .ok (.aload_n 0, 1) := by decide +kernel
theorem d_mo_goOn_173 : decode b_mo_goOn 173 = .ok (.getfield 121, 3) := by decide +kernel
theorem d_mo_goOn_176 : decode b_mo_goOn 176 = .ok (.iconst 1, 1) := by decide +kernel
theorem d_mo_goOn_177 : decode b_mo_goOn 177 = .ok (.iadd, 1) := by decide +kernel
theorem d_mo_goOn_178 : decode b_mo_goOn 178 = .ok (.putfield 121, 3) := by decide +kernel
theorem d_mo_goOn_181 : decode b_mo_goOn 181 = .ok (.iconst 0, 1) := by decide +kernel
theorem d_mo_goOn_182 : decode b_mo_goOn 182 = .ok (.ireturn, 1) := by decide +kernel
theorem d_mo_goOn_183 : decode b_mo_goOn 183 = .ok (.goto (-181), 3) := by decide +kernel
theorem d_mo_goOn_186 : decode b_mo_goOn 186 = .ok (.iload_n 1, 1) := by decide +kernel
theorem d_mo_goOn_187 : decode b_mo_goOn 187 = .ok (.ireturn, 1) := by decide +kernel
theorem d_mo_workOut_0 : decode b_mo_workOut 0 = .ok (.aload_n 0, 1) := by decide +kernel
theorem d_mo_workOut_1 : decode b_mo_workOut 1 = .ok (.iconst 0, 1) := by decide +kernel
theorem d_mo_workOut_2 : decode b_mo_workOut 2 = .ok (.putfield 103, 3) := by decide +kernel
theorem d_mo_workOut_5 : decode b_mo_workOut 5 = .ok (.aload_n 0, 1) := by decide +kernel
theorem d_mo_workOut_6 : decode b_mo_workOut 6 = .ok (.iconst 0, 1) := by decide +kernel
theorem d_mo_workOut_7 : decode b_mo_workOut 7 = .ok (.putfield 124, 3) := by decide +kernel
theorem d_mo_workOut_10 : decode b_mo_workOut 10 = .ok (.aload_n 0, 1) := by decide +kernel
theorem d_mo_workOut_11 : decode b_mo_workOut 11 = .ok (.iconst 0, 1) := by decide +kernel
theorem d_mo_workOut_12 : decode b_mo_workOut 12 = .ok (.putfield 121, 3) := by decide +kernel
theorem d_mo_workOut_15 : decode b_mo_workOut 15 = .ok (.iconst 0, 1) := by decide +kernel
theorem d_mo_workOut_16 : decode b_mo_workOut 16 = .ok (.istore_n 1, 1) := by decide +kernel
theorem d_mo_workOut_17 : decode b_mo_workOut 17 = .ok (.iload_n 1, 1) := by decide +kernel
theorem d_mo_workOut_18 : decode b_mo_workOut 18 = .ok (.ifCond .ne 35, 3) := by decide +kernel
theorem d_mo_workOut_21 : decode b_mo_workOut 21 = .ok (.aload_n 0, 1) := by decide +kernel
theorem d_mo_workOut_22 : decode b_mo_workOut 22 = .ok (.getfield 121, 3) := by decide +kernel
theorem d_mo_workOut_25 : decode b_mo_workOut 25 = .ok (.aload_n 0, 1) := by decide +kernel
theorem d_mo_workOut_26 : decode b_mo_workOut 26 = .ok (.getfield 93, 3) := by decide +kernel
theorem d_mo_workOut_29 : decode b_mo_workOut 29 = .ok (.if_icmp .ge 24, 3) := by decide +kernel
theorem d_mo_workOut_32 : decode b_mo_workOut 32 = .ok (.aload_n 0, 1) := by decide +kernel
theorem d_mo_workOut_33 : decode b_mo_workOut 33 = .ok (.invokevirtual 141, 3) := by decide +kernel
theorem d_mo_workOut_36 : decode b_mo_workOut 36 = .ok (.istore_n 1, 1) := by decide +kernel
theorem d_mo_workOut_37 : decode b_mo_workOut 37 = .ok (.iload_n 1, 1) := by decide +kernel
theorem d_mo_workOut_38 : decode b_mo_workOut 38 = .ok (.ifCond .le 7, 3) := by decide +kernel
theorem d_mo_workOut_41 : decode b_mo_workOut 41 = .ok (.iload_n 1, 1) := by decide +kernel
theorem d_mo_workOut_42 : decode b_mo_workOut 42 = .ok (.goto 7, 3) := by decide +kernel
theorem d_mo_workOut_45 : decode b_mo_workOut 45 = .ok (.aload_n 0, 1) := by decide +kernel
theorem d_mo_workOut_46 : decode b_mo_workOut 46 = .ok (.invokevirtual 144, 3) := by decide +kernel
theorem d_mo_workOut_49 : decode b_mo_workOut 49 = .ok (.istore_n 1, 1) := by decide +kernel
theorem d_mo_workOut_50 : decode b_mo_workOut 50 = .ok (.goto (-33), 3) := by decide +kernel
theorem d_mo_workOut_53 : decode b_mo_workOut 53 = .ok (.iload_n 1, 1) := by decide +kernel
theorem d_mo_workOut_54 : decode b_mo_workOut 54 = .ok (.ireturn, 1) := by decide +kernel
theorem d_mo_apply_0 : decode b_mo_apply 0 = .ok (.iload_n 1, 1) := by decide +kernel
theorem d_mo_apply_1 : decode b_mo_apply 1 = .ok (.lookupswitch 239 #[(42, 109), (43, 99), (45, 119), (47, 119), (63, 229), (94, 180), (100, 198), (103, 173), (110, 186), (113, 156), (114, 156)], 99) := by decide +kernel
theorem d_mo_apply_100 : decode b_mo_apply 100 = .ok (.aload_n 0, 1) := by decide +kernel
theorem d_mo_apply_101 : decode b_mo_apply 101 = .ok (.iload_n 2, 1) := by decide +kernel
theorem d_mo_apply_102 : decode b_mo_apply 102 = .ok (.iload_n 3, 1) := by decide +kernel
theorem d_mo_apply_103 : decode b_mo_apply 103 = .ok (.iconst 0, 1) := by decide +kernel
theorem d_mo_apply_104 : decode b_mo_apply 104 = .ok (.iconst 0, 1) := by decide +kernel
theorem d_mo_apply_105 : decode b_mo_apply 105 = .ok (.iload_n 1, 1) := by decide +kernel
theorem d_mo_apply_106 : decode b_mo_apply 106 = .ok (.invokevirtual 147, 3) := by decide +kernel
theorem d_mo_apply_109 : decode b_mo_apply 109 = .ok (.ireturn, 1) := by decide +kernel
theorem d_mo_apply_110 : decode b_mo_apply 110 = .ok (.aload_n 0, 1) := by decide +kernel
theorem d_mo_apply_111 : decode b_mo_apply 111 = .ok (.iload_n 2, 1) := by decide +kernel
theorem d_mo_apply_112 : decode b_mo_apply 112 = .ok (.iload_n 3, 1) := by decide +kernel
theorem d_mo_apply_113 : decode b_mo_apply 113 = .ok (.iconst 0, 1) := by decide +kernel
theorem d_mo_apply_114 : decode b_mo_apply 114 = .ok (.iconst 1, 1) := by decide +kernel
theorem d_mo_apply_115 : decode b_mo_apply 115 = .ok (.iload_n 1, 1) := by decide +kernel
theorem d_mo_apply_116 : decode b_mo_apply 116 = .ok (.invokevirtual 147, 3) := by decide +kernel
theorem d_mo_apply_119 : decode b_mo_apply 119 = .ok (.ireturn, 1) := by decide +kernel
theorem d_mo_apply_120 : decode b_mo_apply 120 = .ok (.iload_n 3, 1) := by decide +kernel
theorem d_mo_apply_121 : decode b_mo_apply 121 = .ok (.iconst 1, 1) := by decide +kernel
theorem d_mo_apply_122 : decode b_mo_apply 122 = .ok (.if_icmp .ne 25, 3) := by decide +kernel
theorem d_mo_apply_125 : decode b_mo_apply 125 = .ok (.aload_n 0, 1) := by decide +kernel
theorem d_mo_apply_126 : decode b_mo_apply 126 = .ok (.iload_n 2, 1) := by decide +kernel
theorem d_mo_apply_127 : decode b_mo_apply 127 = .ok (.iconst 1, 1) := by decide +kernel
theorem d_mo_apply_128 : decode b_mo_apply 128 = .ok (.iconst 0, 1) := by decide +kernel
theorem d_mo_apply_129 : decode b_mo_apply 129 = .ok (.iload_n 1, 1) := by decide +kernel
theorem d_mo_apply_130 : decode b_mo_apply 130 = .ok (.bipush 45, 2) := by decide +kernel
theorem d_mo_apply_132 : decode b_mo_apply 132 = .ok (.if_icmp .ne 7, 3) := by decide +kernel
theorem d_mo_apply_135 : decode b_mo_apply 135 = .ok (.iconst 0, 1) := by decide +kernel
theorem d_mo_apply_136 : decode b_mo_apply 136 = .ok (.goto 4, 3) := by decide +kernel
theorem d_mo_apply_139 : decode b_mo_apply 139 = .ok (.iconst 1, 1) := by decide +kernel
theorem d_mo_apply_140 : decode b_mo_apply 140 = .ok (.iload_n 1, 1) := by decide +kernel
theorem d_mo_apply_141 : decode b_mo_apply 141 = .ok (.invokevirtual 147, 3) := by decide +kernel
theorem d_mo_apply_144 : decode b_mo_apply 144 = .ok (.goto 12, 3) := by decide +kernel
theorem d_mo_apply_147 : decode b_mo_apply 147 = .ok (.aload_n 0, 1) := by decide +kernel
theorem d_mo_apply_148 : decode b_mo_apply 148 = .ok (.iload_n 2, 1) := by decide +kernel
theorem d_mo_apply_149 : decode b_mo_apply 149 = .ok (.iload_n 3, 1) := by decide +kernel
theorem d_mo_apply_150 : decode b_mo_apply 150 = .ok (.iconst 1, 1) := by decide +kernel
theorem d_mo_apply_151 : decode b_mo_apply 151 = .ok (.iconst 0, 1) := by decide +kernel
theorem d_mo_apply_152 : decode b_mo_apply 152 = .ok (.iload_n 1, 1) := by decide +kernel
theorem d_mo_apply_153 : decode b_mo_apply 153 = .ok (.invokevirtual 147, 3) := by decide +kernel
theorem d_mo_apply_156 : decode b_mo_apply 156 = .ok (.ireturn, 1) := by decide +kernel
theorem d_mo_apply_157 : decode b_mo_apply 157 = .ok (.aload_n 0, 1) := by decide +kernel
theorem d_mo_apply_158 : decode b_mo_apply 158 = .ok (.iload_n 2, 1) := by decide +kernel
theorem d_mo_apply_159 : decode b_mo_apply 159 = .ok (.iload_n 1, 1) := by decide +kernel
theorem d_mo_apply_160 : decode b_mo_apply 160 = .ok (.bipush 113, 2) := by decide +kernel
theorem d_mo_apply_162 : decode b_mo_apply 162 = .ok (.if_icmp .ne 7, 3) := by decide +kernel
theorem d_mo_apply_165 : decode b_mo_apply 165 = .ok (.iconst 1, 1) := by decide +kernel
theorem d_mo_apply_166 : decode b_mo_apply 166 = .ok (.goto 4, 3) := by decide +kernel
theorem d_mo_apply_169 : decode b_mo_apply 169 = .ok (.iconst 0, 1) := by decide +kernel
theorem d_mo_apply_170 : decode b_mo_apply 170 = .ok (.invokevirtual 151, 3) := by decide +kernel
theorem d_mo_apply_173 : decode b_mo_apply 173 = .ok (.ireturn, 1) := by decide +kernel
theorem d_mo_apply_174 : decode b_mo_apply 174 = .ok (.aload_n 0, 1) := by decide +kernel
theorem d_mo_apply_175 : decode b_mo_apply 175 = .ok (.iload_n 2, 1) := by decide +kernel
theorem d_mo_apply_176 : decode b_mo_apply 176 = .ok (.iload_n 3, 1) := by decide +kernel
theorem d_mo_apply_177 : decode b_mo_apply 177 = .ok (.invokevirtual 155, 3) := by decide +kernel
theorem d_mo_apply_180 : decode b_mo_apply 180 = .ok (.ireturn, 1) := by decide +kernel
theorem d_mo_apply_181 : decode b_mo_apply 181 = .ok (.aload_n 0, 1) := by decide +kernel
theorem d_mo_apply_182 : decode b_mo_apply 182 = .ok (.iload_n 2, 1) := by decide +kernel
theorem d_mo_apply_183 : decode b_mo_apply 183 = .ok (.invokevirtual 158, 3) := by decide +kernel
theorem d_mo_apply_186 : decode b_mo_apply 186 = .ok (.ireturn, 1) := by decide +kernel
theorem d_mo_apply_187 : decode b_mo_apply 187 = .ok (.aload_n 0, 1) := by decide +kernel
theorem d_mo_apply_188 : decode b_mo_apply 188 = .ok (.iconst 2, 1) := by decide +kernel
theorem d_mo_apply_189 : decode b_mo_apply 189 = .ok (.iload_n 2, 1) := by decide +kernel
theorem d_mo_apply_190 : decode b_mo_apply 190 = .ok (.imul, 1) := by decide +kernel
theorem d_mo_apply_191 : decode b_mo_apply 191 = .ok (.iconst 1, 1) := by decide +kernel
theorem d_mo_apply_192 : decode b_mo_apply 192 = .ok (.iadd, 1) := by decide +kernel
theorem d_mo_apply_193 : decode b_mo_apply 193 = .ok (.iconst 1, 1) := by decide +kernel
theorem d_mo_apply_194 : decode b_mo_apply 194 = .ok (.invokevirtual 35, 3) := by decide +kernel
theorem d_mo_apply_197 : decode b_mo_apply 197 = .ok (.iconst 0, 1) := by decide +kernel
theorem d_mo_apply_198 : decode b_mo_apply 198 = .ok (.ireturn, 1) := by decide +kernel
theorem d_mo_apply_199 : decode b_mo_apply 199 = .ok (.aload_n 0, 1) := by decide +kernel
theorem d_mo_apply_200 : decode b_mo_apply 200 = .ok (.iconst 2, 1) := by decide +kernel
theorem d_mo_apply_201 : decode b_mo_apply 201 = .ok (.iload_n 2, 1) := by decide +kernel
theorem d_mo_apply_202 : decode b_mo_apply 202 = .ok (.imul, 1) := by decide +kernel
theorem d_mo_apply_203 : decode b_mo_apply 203 = .ok (.iconst 1, 1) := by decide +kernel
theorem d_mo_apply_204 : decode b_mo_apply 204 = .ok (.iadd, 1) := by decide +kernel
theorem d_mo_apply_205 : decode b_mo_apply 205 = .ok (.iconst 2, 1) := by decide +kernel
theorem d_mo_apply_206 : decode b_mo_apply 206 = .ok (.iload_n 2, 1) := by decide +kernel
theorem d_mo_apply_207 : decode b_mo_apply 207 = .ok (.imul, 1) := by decide +kernel
theorem d_mo_apply_208 : decode b_mo_apply 208 = .ok (.invokevirtual 62, 3) := by decide +kernel
theorem d_mo_apply_211 : decode b_mo_apply 211 = .ok (.aload_n 0, 1) := by decide +kernel
theorem d_mo_apply_212 : decode b_mo_apply 212 = .ok (.iconst 2, 1) := by decide +kernel
theorem d_mo_apply_213 : decode b_mo_apply 213 = .ok (.iload_n 2, 1) := by decide +kernel
theorem d_mo_apply_214 : decode b_mo_apply 214 = .ok (.imul, 1) := by decide +kernel
theorem d_mo_apply_215 : decode b_mo_apply 215 = .ok (.iconst 1, 1) := by decide +kernel
theorem d_mo_apply_216 : decode b_mo_apply 216 = .ok (.iadd, 1) := by decide +kernel
theorem d_mo_apply_217 : decode b_mo_apply 217 = .ok (.iconst 1, 1) := by decide +kernel
theorem d_mo_apply_218 : decode b_mo_apply 218 = .ok (.invokevirtual 35, 3) := by decide +kernel
theorem d_mo_apply_221 : decode b_mo_apply 221 = .ok (.aload_n 0, 1) := by decide +kernel
theorem d_mo_apply_222 : decode b_mo_apply 222 = .ok (.getfield 23, 3) := by decide +kernel
theorem d_mo_apply_225 : decode b_mo_apply 225 = .ok (.iload_n 2, 1) := by decide +kernel
theorem d_mo_apply_226 : decode b_mo_apply 226 = .ok (.iconst 1, 1) := by decide +kernel
theorem d_mo_apply_227 : decode b_mo_apply 227 = .ok (.iastore, 1) := by decide +kernel
theorem d_mo_apply_228 : decode b_mo_apply 228 = .ok (.iconst 0, 1) := by decide +kernel
theorem d_mo_apply_229 : decode b_mo_apply 229 = .ok (.ireturn, 1) := by decide +kernel
theorem d_mo_apply_230 : decode b_mo_apply 230 = .ok (.aload_n 0, 1) := by decide +kernel
theorem d_mo_apply_231 : decode b_mo_apply 231 = .ok (.iload_n 2, 1) := by decide +kernel
theorem d_mo_apply_232 : decode b_mo_apply 232 = .ok (.iconst 1, 1) := by decide +kernel
theorem d_mo_apply_233 : decode b_mo_apply 233 = .ok (.iadd, 1) := by decide +kernel
theorem d_mo_apply_234 : decode b_mo_apply 234 = .ok (.iload_n 2, 1) := by decide +kernel
theorem d_mo_apply_235 : decode b_mo_apply 235 = .ok (.invokevirtual 127, 3) := by decide +kernel
theorem d_mo_apply_238 : decode b_mo_apply 238 = .ok (.iconst 0, 1) := by decide +kernel
theorem d_mo_apply_239 : decode b_mo_apply 239 = .ok (.ireturn, 1) := by decide +kernel
theorem d_mo_apply_240 : decode b_mo_apply 240 = .ok (.aload_n 0, 1) := by decide +kernel
theorem d_mo_apply_241 : decode b_mo_apply 241 = .ok (.iload_n 2, 1) := by decide +kernel
theorem d_mo_apply_242 : decode b_mo_apply 242 = .ok (.iload_n 2, 1) := by decide +kernel
theorem d_mo_apply_243 : decode b_mo_apply 243 = .ok (.iconst 1, 1) := by decide +kernel
theorem d_mo_apply_244 : decode b_mo_apply 244 = .ok (.iadd, 1) := by decide +kernel
theorem d_mo_apply_245 : decode b_mo_apply 245 = .ok (.invokevirtual 161, 3) := by decide +kernel
theorem d_mo_apply_248 : decode b_mo_apply 248 = .ok (.istore 4, 2) := by decide +kernel
theorem d_mo_apply_250 : decode b_mo_apply 250 = .ok (.aload_n 0, 1) := by decide +kernel
theorem d_mo_apply_251 : decode b_mo_apply 251 = .ok (.iload_n 2, 1) := by decide +kernel
theorem d_mo_apply_252 : decode b_mo_apply 252 = .ok (.iload_n 1, 1) := by decide +kernel
theorem d_mo_apply_253 : decode b_mo_apply 253 = .ok (.bipush 60, 2) := by decide +kernel
theorem d_mo_apply_255 : decode b_mo_apply 255 = .ok (.if_icmp .ne 16, 3) := by decide +kernel
theorem d_mo_apply_258 : decode b_mo_apply 258 = .ok (.iload 4, 2) := by decide +kernel
theorem d_mo_apply_260 : decode b_mo_apply 260 = .ok (.ifCond .ge 7, 3) := by decide +kernel
theorem d_mo_apply_263 : decode b_mo_apply 263 = .ok (.iconst 1, 1) := by decide +kernel
theorem d_mo_apply_264 : decode b_mo_apply 264 = .ok (.goto 17, 3) := by decide +kernel
theorem d_mo_apply_267 : decode b_mo_apply 267 = .ok (.iconst 0, 1) := by decide +kernel
theorem d_mo_apply_268 : decode b_mo_apply 268 = .ok (.goto 13, 3) := by decide +kernel
theorem d_mo_apply_271 : decode b_mo_apply 271 = .ok (.iload 4, 2) := by decide +kernel
theorem d_mo_apply_273 : decode b_mo_apply 273 = .ok (.ifCond .ne 7, 3) := by decide +kernel
theorem d_mo_apply_276 : decode b_mo_apply 276 = .ok (.iconst 1, 1) := by decide +kernel
theorem d_mo_apply_277 : decode b_mo_apply 277 = .ok (.goto 4, 3) := by decide +kernel
theorem d_mo_apply_280 : decode b_mo_apply 280 = .ok (.iconst 0, 1) := by decide +kernel
theorem d_mo_apply_281 : decode b_mo_apply 281 = .ok (.invokevirtual 164, 3) := by decide +kernel
theorem d_mo_apply_284 : decode b_mo_apply 284 = .ok (.iconst 0, 1) := by decide +kernel
theorem d_mo_apply_285 : decode b_mo_apply 285 = .ok (.ireturn, 1) := by decide +kernel
theorem d_mo_chain_0 : decode b_mo_chain 0 = .ok (.aload_n 0, 1) := by decide +kernel
theorem d_mo_chain_1 : decode b_mo_chain 1 = .ok (.bipush 73, 2) := by decide +kernel
theorem d_mo_chain_3 : decode b_mo_chain 3 = .ok (.iload 4, 2) := by decide +kernel
theorem d_mo_chain_5 : decode b_mo_chain 5 = .ok (.invokevirtual 164, 3) := by decide +kernel
theorem d_mo_chain_8 : decode b_mo_chain 8 = .ok (.iload_n 3, 1) := by decide +kernel
theorem d_mo_chain_9 : decode b_mo_chain 9 = .ok (.iconst 1, 1) := by decide +kernel
theorem d_mo_chain_10 : decode b_mo_chain 10 = .ok (.if_icmp .ne 10, 3) := by decide +kernel
theorem d_mo_chain_13 : decode b_mo_chain 13 = .ok (.aload_n 0, 1) := by decide +kernel
theorem d_mo_chain_14 : decode b_mo_chain 14 = .ok (.iload_n 1, 1) := by decide +kernel
theorem d_mo_chain_15 : decode b_mo_chain 15 = .ok (.bipush 73, 2) := by decide +kernel
theorem d_mo_chain_17 : decode b_mo_chain 17 = .ok (.invokevirtual 127, 3) := by decide +kernel
theorem d_mo_chain_20 : decode b_mo_chain 20 = .ok (.iconst 0, 1) := by decide +kernel
theorem d_mo_chain_21 : decode b_mo_chain 21 = .ok (.istore 6, 2) := by decide +kernel
theorem d_mo_chain_23 : decode b_mo_chain 23 = .ok (.iload_n 3, 1) := by decide +kernel
theorem d_mo_chain_24 : decode b_mo_chain 24 = .ok (.istore 7, 2) := by decide +kernel
theorem d_mo_chain_26 : decode b_mo_chain 26 = .ok (.iload 7, 2) := by decide +kernel
theorem d_mo_chain_28 : decode b_mo_chain 28 = .ok (.iload_n 2, 1) := by decide +kernel
theorem d_mo_chain_29 : decode b_mo_chain 29 = .ok (.if_icmp .ge 86, 3) := by decide +kernel
theorem d_mo_chain_32 : decode b_mo_chain 32 = .ok (.iload 6, 2) := by decide +kernel
theorem d_mo_chain_34 : decode b_mo_chain 34 = .ok (.ifCond .ne 81, 3) := by decide +kernel
theorem d_mo_chain_37 : decode b_mo_chain 37 = .ok (.iload_n 1, 1) := by decide +kernel
theorem d_mo_chain_38 : decode b_mo_chain 38 = .ok (.iload 7, 2) := by decide +kernel
theorem d_mo_chain_40 : decode b_mo_chain 40 = .ok (.iadd, 1) := by decide +kernel
theorem d_mo_chain_41 : decode b_mo_chain 41 = .ok (.istore 8, 2) := by decide +kernel
theorem d_mo_chain_43 : decode b_mo_chain 43 = .ok (.iload 5, 2) := by decide +kernel
theorem d_mo_chain_45 : decode b_mo_chain 45 = .ok (.bipush 43, 2) := by decide +kernel
theorem d_mo_chain_47 : decode b_mo_chain 47 = .ok (.if_icmp .ne 15, 3) := by decide +kernel
theorem d_mo_chain_50 : decode b_mo_chain 50 = .ok (.aload_n 0, 1) := by decide +kernel
theorem d_mo_chain_51 : decode b_mo_chain 51 = .ok (.bipush 73, 2) := by decide +kernel
theorem d_mo_chain_53 : decode b_mo_chain 53 = .ok (.iload 8, 2) := by decide +kernel
theorem d_mo_chain_55 : decode b_mo_chain 55 = .ok (.iconst 1, 1) := by decide +kernel
theorem d_mo_chain_56 : decode b_mo_chain 56 = .ok (.invokevirtual 167, 3) := by decide +kernel
theorem d_mo_chain_59 : decode b_mo_chain 59 = .ok (.goto 48, 3) := by decide +kernel
theorem d_mo_chain_62 : decode b_mo_chain 62 = .ok (.iload 5, 2) := by decide +kernel
theorem d_mo_chain_64 : decode b_mo_chain 64 = .ok (.bipush 45, 2) := by decide +kernel
theorem d_mo_chain_66 : decode b_mo_chain 66 = .ok (.if_icmp .ne 15, 3) := by decide +kernel
theorem d_mo_chain_69 : decode b_mo_chain 69 = .ok (.aload_n 0, 1) := by decide +kernel
theorem d_mo_chain_70 : decode b_mo_chain 70 = .ok (.bipush 73, 2) := by decide +kernel
theorem d_mo_chain_72 : decode b_mo_chain 72 = .ok (.iload 8, 2) := by decide +kernel
theorem d_mo_chain_74 : decode b_mo_chain 74 = .ok (.iconst (-1), 1) := by decide +kernel
theorem d_mo_chain_75 : decode b_mo_chain 75 = .ok (.invokevirtual 167, 3) := by decide +kernel
theorem d_mo_chain_78 : decode b_mo_chain 78 = .ok (.goto 29, 3) := by decide +kernel
theorem d_mo_chain_81 : decode b_mo_chain 81 = .ok (.iload 5, 2) := by decide +kernel
theorem d_mo_chain_83 : decode b_mo_chain 83 = .ok (.bipush 42, 2) := by decide +kernel
theorem d_mo_chain_85 : decode b_mo_chain 85 = .ok (.if_icmp .ne 14, 3) := by decide +kernel
theorem d_mo_chain_88 : decode b_mo_chain 88 = .ok (.aload_n 0, 1) := by decide +kernel
theorem d_mo_chain_89 : decode b_mo_chain 89 = .ok (.bipush 73, 2) := by decide +kernel
theorem d_mo_chain_91 : decode b_mo_chain 91 = .ok (.iload 8, 2) := by decide +kernel
theorem d_mo_chain_93 : decode b_mo_chain 93 = .ok (.invokevirtual 170, 3) := by decide +kernel
theorem d_mo_chain_96 : decode b_mo_chain 96 = .ok (.goto 11, 3) := by decide +kernel
theorem d_mo_chain_99 : decode b_mo_chain 99 = .ok (.aload_n 0, 1) := by decide +kernel
theorem d_mo_chain_100 : decode b_mo_chain 100 = .ok (.bipush 73, 2) := by decide +kernel
theorem d_mo_chain_102 : decode b_mo_chain 102 = .ok (.iload 8, 2) := by decide +kernel
theorem d_mo_chain_104 : decode b_mo_chain 104 = .ok (.invokevirtual 173, 3) := by decide +kernel
theorem d_mo_chain_107 : decode b_mo_chain 107 = .ok (.istore 6, 2) := by decide +kernel
theorem d_mo_chain_109 : decode b_mo_chain 109 = .ok (.iinc 7 1, 3) := by decide +kernel
theorem d_mo_chain_112 : decode b_mo_chain 112 = .ok (.goto (-86), 3) := by decide +kernel
theorem d_mo_chain_115 : decode b_mo_chain 115 = .ok (.aload_n 0, 1) := by decide +kernel
theorem d_mo_chain_116 : decode b_mo_chain 116 = .ok (.bipush 73, 2) := by decide +kernel
theorem d_mo_chain_118 : decode b_mo_chain 118 = .ok (.iload_n 1, 1) := by decide +kernel
theorem d_mo_chain_119 : decode b_mo_chain 119 = .ok (.invokevirtual 127, 3) := by decide +kernel
theorem d_mo_chain_122 : decode b_mo_chain 122 = .ok (.iload 6, 2) := by decide +kernel
theorem d_mo_chain_124 : decode b_mo_chain 124 = .ok (.ireturn, 1) := by decide +kernel
theorem d_mo_quotient_0 : decode b_mo_quotient 0 = .ok (.aload_n 0, 1) := by decide +kernel
theorem d_mo_quotient_1 : decode b_mo_quotient 1 = .ok (.iload_n 1, 1) := by decide +kernel
theorem d_mo_quotient_2 : decode b_mo_quotient 2 = .ok (.invokevirtual 88, 3) := by decide +kernel
theorem d_mo_quotient_5 : decode b_mo_quotient 5 = .ok (.ifCond .eq 13, 3) := by decide +kernel
theorem d_mo_quotient_8 : decode b_mo_quotient 8 = .ok (.aload_n 0, 1) := by decide +kernel
theorem d_mo_quotient_9 : decode b_mo_quotient 9 = .ok (.iload_n 1, 1) := by decide +kernel
theorem d_mo_quotient_10 : decode b_mo_quotient 10 = .ok (.iconst 1, 1) := by decide +kernel
theorem d_mo_quotient_11 : decode b_mo_quotient 11 = .ok (.iadd, 1) := by decide +kernel
theorem d_mo_quotient_12 : decode b_mo_quotient 12 = .ok (.invokevirtual 88, 3) := by decide +kernel
theorem d_mo_quotient_15 : decode b_mo_quotient 15 = .ok (.ifCond .ne 5, 3) := by decide +kernel
theorem d_mo_quotient_18 : decode b_mo_quotient 18 = .ok (.iconst 3, 1) := by decide +kernel
theorem d_mo_quotient_19 : decode b_mo_quotient 19 = .ok (.ireturn, 1) := by decide +kernel
theorem d_mo_quotient_20 : decode b_mo_quotient 20 = .ok (.aload_n 0, 1) := by decide +kernel
theorem d_mo_quotient_21 : decode b_mo_quotient 21 = .ok (.getfield 23, 3) := by decide +kernel
theorem d_mo_quotient_24 : decode b_mo_quotient 24 = .ok (.iload_n 1, 1) := by decide +kernel
theorem d_mo_quotient_25 : decode b_mo_quotient 25 = .ok (.iconst 1, 1) := by decide +kernel
theorem d_mo_quotient_26 : decode b_mo_quotient 26 = .ok (.iadd, 1) := by decide +kernel
theorem d_mo_quotient_27 : decode b_mo_quotient 27 = .ok (.iaload, 1) := by decide +kernel
theorem d_mo_quotient_28 : decode b_mo_quotient 28 = .ok (.ifCond .ne 5, 3) := by decide +kernel
theorem d_mo_quotient_31 : decode b_mo_quotient 31 = .ok (.iconst 2, 1) := by decide +kernel
theorem d_mo_quotient_32 : decode b_mo_quotient 32 = .ok (.ireturn, 1) := by decide +kernel
theorem d_mo_quotient_33 : decode b_mo_quotient 33 = .ok (.aload_n 0, 1) := by decide +kernel
theorem d_mo_quotient_34 : decode b_mo_quotient 34 = .ok (.getfield 23, 3) := by decide +kernel
theorem d_mo_quotient_37 : decode b_mo_quotient 37 = .ok (.iload_n 1, 1) := by decide +kernel
theorem d_mo_quotient_38 : decode b_mo_quotient 38 = .ok (.iaload, 1) := by decide +kernel
theorem d_mo_quotient_39 : decode b_mo_quotient 39 = .ok (.istore_n 3, 1) := by decide +kernel
theorem d_mo_quotient_40 : decode b_mo_quotient 40 = .ok (.iload_n 3, 1) := by decide +kernel
theorem d_mo_quotient_41 : decode b_mo_quotient 41 = .ok (.aload_n 0, 1) := by decide +kernel
theorem d_mo_quotient_42 : decode b_mo_quotient 42 = .ok (.getfield 23, 3) := by decide +kernel
theorem d_mo_quotient_45 : decode b_mo_quotient 45 = .ok (.iload_n 1, 1) := by decide +kernel
theorem d_mo_quotient_46 : decode b_mo_quotient 46 = .ok (.iconst 1, 1) := by decide +kernel
theorem d_mo_quotient_47 : decode b_mo_quotient 47 = .ok (.iadd, 1) := by decide +kernel
theorem d_mo_quotient_48 : decode b_mo_quotient 48 = .ok (.iaload, 1) := by decide +kernel
theorem d_mo_quotient_49 : decode b_mo_quotient 49 = .ok (.imul, 1) := by decide +kernel
theorem d_mo_quotient_50 : decode b_mo_quotient 50 = .ok (.istore 4, 2) := by decide +kernel
theorem d_mo_quotient_52 : decode b_mo_quotient 52 = .ok (.aload_n 0, 1) := by decide +kernel
theorem d_mo_quotient_53 : decode b_mo_quotient 53 = .ok (.iconst 2, 1) := by decide +kernel
theorem d_mo_quotient_54 : decode b_mo_quotient 54 = .ok (.iload_n 1, 1) := by decide +kernel
theorem d_mo_quotient_55 : decode b_mo_quotient 55 = .ok (.imul, 1) := by decide +kernel
theorem d_mo_quotient_56 : decode b_mo_quotient 56 = .ok (.iconst 2, 1) := by decide +kernel
theorem d_mo_quotient_57 : decode b_mo_quotient 57 = .ok (.iload_n 1, 1) := by decide +kernel
theorem d_mo_quotient_58 : decode b_mo_quotient 58 = .ok (.imul, 1) := by decide +kernel
theorem d_mo_quotient_59 : decode b_mo_quotient 59 = .ok (.iconst 2, 1) := by decide +kernel
theorem d_mo_quotient_60 : decode b_mo_quotient 60 = .ok (.iadd, 1) := by decide +kernel
theorem d_mo_quotient_61 : decode b_mo_quotient 61 = .ok (.sipush 152, 3) := by decide +kernel
theorem d_mo_quotient_64 : decode b_mo_quotient 64 = .ok (.sipush 153, 3) := by decide +kernel
theorem d_mo_quotient_67 : decode b_mo_quotient 67 = .ok (.invokevirtual 78, 3) := by decide +kernel
theorem d_mo_quotient_70 : decode b_mo_quotient 70 = .ok (.aload_n 0, 1) := by decide +kernel
theorem d_mo_quotient_71 : decode b_mo_quotient 71 = .ok (.iload_n 2, 1) := by decide +kernel
theorem d_mo_quotient_72 : decode b_mo_quotient 72 = .ok (.ifCond .eq 9, 3) := by decide +kernel
theorem d_mo_quotient_75 : decode b_mo_quotient 75 = .ok (.sipush 152, 3) := by decide +kernel
theorem d_mo_quotient_78 : decode b_mo_quotient 78 = .ok (.goto 6, 3) := by decide +kernel
theorem d_mo_quotient_81 : decode b_mo_quotient 81 = .ok (.sipush 153, 3) := by decide +kernel
theorem d_mo_quotient_84 : decode b_mo_quotient 84 = .ok (.iconst 2, 1) := by decide +kernel
theorem d_mo_quotient_85 : decode b_mo_quotient 85 = .ok (.iload_n 1, 1) := by decide +kernel
theorem d_mo_quotient_86 : decode b_mo_quotient 86 = .ok (.imul, 1) := by decide +kernel
theorem d_mo_quotient_87 : decode b_mo_quotient 87 = .ok (.invokevirtual 62, 3) := by decide +kernel
theorem d_mo_quotient_90 : decode b_mo_quotient 90 = .ok (.aload_n 0, 1) := by decide +kernel
theorem d_mo_quotient_91 : decode b_mo_quotient 91 = .ok (.getfield 23, 3) := by decide +kernel
theorem d_mo_quotient_94 : decode b_mo_quotient 94 = .ok (.iload_n 1, 1) := by decide +kernel
theorem d_mo_quotient_95 : decode b_mo_quotient 95 = .ok (.aload_n 0, 1) := by decide +kernel
theorem d_mo_quotient_96 : decode b_mo_quotient 96 = .ok (.getfield 20, 3) := by decide +kernel
theorem d_mo_quotient_99 : decode b_mo_quotient 99 = .ok (.iconst 2, 1) := by decide +kernel
theorem d_mo_quotient_100 : decode b_mo_quotient 100 = .ok (.iload_n 1, 1) := by decide +kernel
theorem d_mo_quotient_101 : decode b_mo_quotient 101 = .ok (.imul, 1) := by decide +kernel
theorem d_mo_quotient_102 : decode b_mo_quotient 102 = .ok (.iaload, 1) := by decide +kernel
theorem d_mo_quotient_103 : decode b_mo_quotient 103 = .ok (.ifCond .ne 7, 3) := by decide +kernel
theorem d_mo_quotient_106 : decode b_mo_quotient 106 = .ok (.iconst 0, 1) := by decide +kernel
theorem d_mo_quotient_107 : decode b_mo_quotient 107 = .ok (.goto 13, 3) := by decide +kernel
theorem d_mo_quotient_110 : decode b_mo_quotient 110 = .ok (.iload_n 2, 1) := by decide +kernel
theorem d_mo_quotient_111 : decode b_mo_quotient 111 = .ok (.ifCond .eq 8, 3) := by decide +kernel
theorem d_mo_quotient_114 : decode b_mo_quotient 114 = .ok (.iload 4, 2) := by decide +kernel
theorem d_mo_quotient_116 : decode b_mo_quotient 116 = .ok (.goto 4, 3) := by decide +kernel
theorem d_mo_quotient_119 : decode b_mo_quotient 119 = .ok (.iload_n 3, 1) := by decide +kernel
theorem d_mo_quotient_120 : decode b_mo_quotient 120 = .ok (.iastore, 1) := by decide +kernel
theorem d_mo_quotient_121 : decode b_mo_quotient 121 = .ok (.iconst 0, 1) := by decide +kernel
theorem d_mo_quotient_122 : decode b_mo_quotient 122 = .ok (.ireturn, 1) := by decide +kernel
theorem d_mo_divisor_0 : decode b_mo_divisor 0 = .ok (.iconst 0, 1) := by decide +kernel
theorem d_mo_divisor_1 : decode b_mo_divisor 1 = .ok (.istore_n 3, 1) := by decide +kernel
theorem d_mo_divisor_2 : decode b_mo_divisor 2 = .ok (.iload_n 3, 1) := by decide +kernel
theorem d_mo_divisor_3 : decode b_mo_divisor 3 = .ok (.iload_n 2, 1) := by decide +kernel
theorem d_mo_divisor_4 : decode b_mo_divisor 4 = .ok (.if_icmp .ge 21, 3) := by decide +kernel
theorem d_mo_divisor_7 : decode b_mo_divisor 7 = .ok (.aload_n 0, 1) := by decide +kernel
theorem d_mo_divisor_8 : decode b_mo_divisor 8 = .ok (.iload_n 1, 1) := by decide +kernel
theorem d_mo_divisor_9 : decode b_mo_divisor 9 = .ok (.iload_n 3, 1) := by decide +kernel
theorem d_mo_divisor_10 : decode b_mo_divisor 10 = .ok (.iadd, 1) := by decide +kernel
theorem d_mo_divisor_11 : decode b_mo_divisor 11 = .ok (.invokevirtual 88, 3) := by decide +kernel
theorem d_mo_divisor_14 : decode b_mo_divisor 14 = .ok (.ifCond .ne 5, 3) := by decide +kernel
theorem d_mo_divisor_17 : decode b_mo_divisor 17 = .ok (.iconst 3, 1) := by decide +kernel
theorem d_mo_divisor_18 : decode b_mo_divisor 18 = .ok (.ireturn, 1) := by decide +kernel
theorem d_mo_divisor_19 : decode b_mo_divisor 19 = .ok (.iinc 3 1, 3) := by decide +kernel
theorem d_mo_divisor_22 : decode b_mo_divisor 22 = .ok (.goto (-20), 3) := by decide +kernel
theorem d_mo_divisor_25 : decode b_mo_divisor 25 = .ok (.aload_n 0, 1) := by decide +kernel
theorem d_mo_divisor_26 : decode b_mo_divisor 26 = .ok (.bipush 73, 2) := by decide +kernel
theorem d_mo_divisor_28 : decode b_mo_divisor 28 = .ok (.iconst 0, 1) := by decide +kernel
theorem d_mo_divisor_29 : decode b_mo_divisor 29 = .ok (.invokevirtual 164, 3) := by decide +kernel
theorem d_mo_divisor_32 : decode b_mo_divisor 32 = .ok (.iconst 0, 1) := by decide +kernel
theorem d_mo_divisor_33 : decode b_mo_divisor 33 = .ok (.istore_n 3, 1) := by decide +kernel
theorem d_mo_divisor_34 : decode b_mo_divisor 34 = .ok (.iload_n 3, 1) := by decide +kernel
theorem d_mo_divisor_35 : decode b_mo_divisor 35 = .ok (.iload_n 2, 1) := by decide +kernel
theorem d_mo_divisor_36 : decode b_mo_divisor 36 = .ok (.if_icmp .ge 31, 3) := by decide +kernel
theorem d_mo_divisor_39 : decode b_mo_divisor 39 = .ok (.aload_n 0, 1) := by decide +kernel
theorem d_mo_divisor_40 : decode b_mo_divisor 40 = .ok (.sipush 146, 3) := by decide +kernel
theorem d_mo_divisor_43 : decode b_mo_divisor 43 = .ok (.iconst 2, 1) := by decide +kernel
theorem d_mo_divisor_44 : decode b_mo_divisor 44 = .ok (.iload_n 1, 1) := by decide +kernel
theorem d_mo_divisor_45 : decode b_mo_divisor 45 = .ok (.iload_n 3, 1) := by decide +kernel
theorem d_mo_divisor_46 : decode b_mo_divisor 46 = .ok (.iadd, 1) := by decide +kernel
theorem d_mo_divisor_47 : decode b_mo_divisor 47 = .ok (.imul, 1) := by decide +kernel
theorem d_mo_divisor_48 : decode b_mo_divisor 48 = .ok (.invokevirtual 75, 3) := by decide +kernel
theorem d_mo_divisor_51 : decode b_mo_divisor 51 = .ok (.aload_n 0, 1) := by decide +kernel
theorem d_mo_divisor_52 : decode b_mo_divisor 52 = .ok (.sipush 154, 3) := by decide +kernel
theorem d_mo_divisor_55 : decode b_mo_divisor 55 = .ok (.sipush 146, 3) := by decide +kernel
theorem d_mo_divisor_58 : decode b_mo_divisor 58 = .ok (.invokevirtual 62, 3) := by decide +kernel
theorem d_mo_divisor_61 : decode b_mo_divisor 61 = .ok (.iinc 3 1, 3) := by decide +kernel
theorem d_mo_divisor_64 : decode b_mo_divisor 64 = .ok (.goto (-30), 3) := by decide +kernel
theorem d_mo_divisor_67 : decode b_mo_divisor 67 = .ok (.aload_n 0, 1) := by decide +kernel
theorem d_mo_divisor_68 : decode b_mo_divisor 68 = .ok (.getfield 23, 3) := by decide +kernel
theorem d_mo_divisor_71 : decode b_mo_divisor 71 = .ok (.bipush 73, 2) := by decide +kernel
theorem d_mo_divisor_73 : decode b_mo_divisor 73 = .ok (.aload_n 0, 1) := by decide +kernel
theorem d_mo_divisor_74 : decode b_mo_divisor 74 = .ok (.getfield 20, 3) := by decide +kernel
theorem d_mo_divisor_77 : decode b_mo_divisor 77 = .ok (.sipush 146, 3) := by decide +kernel
theorem d_mo_divisor_80 : decode b_mo_divisor 80 = .ok (.iaload, 1) := by decide +kernel
theorem d_mo_divisor_81 : decode b_mo_divisor 81 = .ok (.ifCond .ne 7, 3) := by decide +kernel
theorem d_mo_divisor_84 : decode b_mo_divisor 84 = .ok (.iconst 0, 1) := by decide +kernel
theorem d_mo_divisor_85 : decode b_mo_divisor 85 = .ok (.goto 4, 3) := by decide +kernel
theorem d_mo_divisor_88 : decode b_mo_divisor 88 = .ok (.iconst 1, 1) := by decide +kernel
theorem d_mo_divisor_89 : decode b_mo_divisor 89 = .ok (.iastore, 1) := by decide +kernel
theorem d_mo_divisor_90 : decode b_mo_divisor 90 = .ok (.aload_n 0, 1) := by decide +kernel
theorem d_mo_divisor_91 : decode b_mo_divisor 91 = .ok (.bipush 73, 2) := by decide +kernel
theorem d_mo_divisor_93 : decode b_mo_divisor 93 = .ok (.iload_n 1, 1) := by decide +kernel
theorem d_mo_divisor_94 : decode b_mo_divisor 94 = .ok (.invokevirtual 127, 3) := by decide +kernel
theorem d_mo_divisor_97 : decode b_mo_divisor 97 = .ok (.iconst 0, 1) := by decide +kernel
theorem d_mo_divisor_98 : decode b_mo_divisor 98 = .ok (.ireturn, 1) := by decide +kernel
theorem d_mo_power_0 : decode b_mo_power 0 = .ok (.iload_n 1, 1) := by decide +kernel
theorem d_mo_power_1 : decode b_mo_power 1 = .ok (.iconst 1, 1) := by decide +kernel
theorem d_mo_power_2 : decode b_mo_power 2 = .ok (.iadd, 1) := by decide +kernel
theorem d_mo_power_3 : decode b_mo_power 3 = .ok (.istore_n 2, 1) := by decide +kernel
theorem d_mo_power_4 : decode b_mo_power 4 = .ok (.aload_n 0, 1) := by decide +kernel
theorem d_mo_power_5 : decode b_mo_power 5 = .ok (.getfield 20, 3) := by decide +kernel
theorem d_mo_power_8 : decode b_mo_power 8 = .ok (.iconst 2, 1) := by decide +kernel
theorem d_mo_power_9 : decode b_mo_power 9 = .ok (.iload_n 2, 1) := by decide +kernel
theorem d_mo_power_10 : decode b_mo_power 10 = .ok (.imul, 1) := by decide +kernel
theorem d_mo_power_11 : decode b_mo_power 11 = .ok (.iaload, 1) := by decide +kernel
theorem d_mo_power_12 : decode b_mo_power 12 = .ok (.ifCond .ne 7, 3) := by decide +kernel
theorem d_mo_power_15 : decode b_mo_power 15 = .ok (.iconst 0, 1) := by decide +kernel
theorem d_mo_power_16 : decode b_mo_power 16 = .ok (.goto 12, 3) := by decide +kernel
theorem d_mo_power_19 : decode b_mo_power 19 = .ok (.aload_n 0, 1) := by decide +kernel
theorem d_mo_power_20 : decode b_mo_power 20 = .ok (.getfield 17, 3) := by decide +kernel
theorem d_mo_power_23 : decode b_mo_power 23 = .ok (.bipush 80, 2) := by decide +kernel
theorem d_mo_power_25 : decode b_mo_power 25 = .ok (.iload_n 2, 1) := by decide +kernel
theorem d_mo_power_26 : decode b_mo_power 26 = .ok (.imul, 1) := by decide +kernel
theorem d_mo_power_27 : decode b_mo_power 27 = .ok (.iaload, 1) := by decide +kernel
theorem d_mo_power_28 : decode b_mo_power 28 = .ok (.istore_n 3, 1) := by decide +kernel
theorem d_mo_power_29 : decode b_mo_power 29 = .ok (.aload_n 0, 1) := by decide +kernel
theorem d_mo_power_30 : decode b_mo_power 30 = .ok (.iload_n 2, 1) := by decide +kernel
theorem d_mo_power_31 : decode b_mo_power 31 = .ok (.invokevirtual 88, 3) := by decide +kernel
theorem d_mo_power_34 : decode b_mo_power 34 = .ok (.ifCond .eq 30, 3) := by decide +kernel
theorem d_mo_power_37 : decode b_mo_power 37 = .ok (.aload_n 0, 1) := by decide +kernel
theorem d_mo_power_38 : decode b_mo_power 38 = .ok (.getfield 23, 3) := by decide +kernel
theorem d_mo_power_41 : decode b_mo_power 41 = .ok (.iload_n 2, 1) := by decide +kernel
theorem d_mo_power_42 : decode b_mo_power 42 = .ok (.iaload, 1) := by decide +kernel
theorem d_mo_power_43 : decode b_mo_power 43 = .ok (.ifCond .lt 21, 3) := by decide +kernel
theorem d_mo_power_46 : decode b_mo_power 46 = .ok (.aload_n 0, 1) := by decide +kernel
theorem d_mo_power_47 : decode b_mo_power 47 = .ok (.getfield 20, 3) := by decide +kernel
theorem d_mo_power_50 : decode b_mo_power 50 = .ok (.iconst 2, 1) := by decide +kernel
theorem d_mo_power_51 : decode b_mo_power 51 = .ok (.iload_n 2, 1) := by decide +kernel
theorem d_mo_power_52 : decode b_mo_power 52 = .ok (.imul, 1) := by decide +kernel
theorem d_mo_power_53 : decode b_mo_power 53 = .ok (.iaload, 1) := by decide +kernel
theorem d_mo_power_54 : decode b_mo_power 54 = .ok (.iconst 1, 1) := by decide +kernel
theorem d_mo_power_55 : decode b_mo_power 55 = .ok (.if_icmp .gt 9, 3) := by decide +kernel
theorem d_mo_power_58 : decode b_mo_power 58 = .ok (.iload_n 3, 1) := by decide +kernel
theorem d_mo_power_59 : decode b_mo_power 59 = .ok (.bipush 64, 2) := by decide +kernel
theorem d_mo_power_61 : decode b_mo_power 61 = .ok (.if_icmp .le 5, 3) := by decide +kernel
theorem d_mo_power_64 : decode b_mo_power 64 = .ok (.iconst 3, 1) := by decide +kernel
theorem d_mo_power_65 : decode b_mo_power 65 = .ok (.ireturn, 1) := by decide +kernel
theorem d_mo_power_66 : decode b_mo_power 66 = .ok (.aload_n 0, 1) := by decide +kernel
theorem d_mo_power_67 : decode b_mo_power 67 = .ok (.bipush 73, 2) := by decide +kernel
theorem d_mo_power_69 : decode b_mo_power 69 = .ok (.iconst 1, 1) := by decide +kernel
theorem d_mo_power_70 : decode b_mo_power 70 = .ok (.invokevirtual 164, 3) := by decide +kernel
theorem d_mo_power_73 : decode b_mo_power 73 = .ok (.aload_n 0, 1) := by decide +kernel
theorem d_mo_power_74 : decode b_mo_power 74 = .ok (.iload_n 1, 1) := by decide +kernel
theorem d_mo_power_75 : decode b_mo_power 75 = .ok (.bipush 74, 2) := by decide +kernel
theorem d_mo_power_77 : decode b_mo_power 77 = .ok (.invokevirtual 127, 3) := by decide +kernel
theorem d_mo_power_80 : decode b_mo_power 80 = .ok (.iconst 0, 1) := by decide +kernel
theorem d_mo_power_81 : decode b_mo_power 81 = .ok (.istore 4, 2) := by decide +kernel
theorem d_mo_power_83 : decode b_mo_power 83 = .ok (.iconst 0, 1) := by decide +kernel
theorem d_mo_power_84 : decode b_mo_power 84 = .ok (.istore 5, 2) := by decide +kernel
theorem d_mo_power_86 : decode b_mo_power 86 = .ok (.iload 5, 2) := by decide +kernel
theorem d_mo_power_88 : decode b_mo_power 88 = .ok (.iload_n 3, 1) := by decide +kernel
theorem d_mo_power_89 : decode b_mo_power 89 = .ok (.if_icmp .ge 24, 3) := by decide +kernel
theorem d_mo_power_92 : decode b_mo_power 92 = .ok (.iload 4, 2) := by decide +kernel
theorem d_mo_power_94 : decode b_mo_power 94 = .ok (.ifCond .ne 19, 3) := by decide +kernel
theorem d_mo_power_97 : decode b_mo_power 97 = .ok (.aload_n 0, 1) := by decide +kernel
theorem d_mo_power_98 : decode b_mo_power 98 = .ok (.bipush 73, 2) := by decide +kernel
theorem d_mo_power_100 : decode b_mo_power 100 = .ok (.bipush 74, 2) := by decide +kernel
theorem d_mo_power_102 : decode b_mo_power 102 = .ok (.invokevirtual 170, 3) := by decide +kernel
theorem d_mo_power_105 : decode b_mo_power 105 = .ok (.istore 4, 2) := by decide +kernel
theorem d_mo_power_107 : decode b_mo_power 107 = .ok (.iinc 5 1, 3) := by decide +kernel
theorem d_mo_power_110 : decode b_mo_power 110 = .ok (.goto (-24), 3) := by decide +kernel
theorem d_mo_power_113 : decode b_mo_power 113 = .ok (.aload_n 0, 1) := by decide +kernel
theorem d_mo_power_114 : decode b_mo_power 114 = .ok (.bipush 73, 2) := by decide +kernel
theorem d_mo_power_116 : decode b_mo_power 116 = .ok (.iload_n 1, 1) := by decide +kernel
theorem d_mo_power_117 : decode b_mo_power 117 = .ok (.invokevirtual 127, 3) := by decide +kernel
theorem d_mo_power_120 : decode b_mo_power 120 = .ok (.iload 4, 2) := by decide +kernel
theorem d_mo_power_122 : decode b_mo_power 122 = .ok (.ireturn, 1) := by decide +kernel
theorem d_mo_work_0 : decode b_mo_work 0 = .ok (.aload_n 0, 1) := by decide +kernel
theorem d_mo_work_1 : decode b_mo_work 1 = .ok (.aload_n 0, 1) := by decide +kernel
theorem d_mo_work_2 : decode b_mo_work 2 = .ok (.invokevirtual 176, 3) := by decide +kernel
theorem d_mo_work_5 : decode b_mo_work 5 = .ok (.putfield 13, 3) := by decide +kernel
theorem d_mo_work_8 : decode b_mo_work 8 = .ok (.aload_n 0, 1) := by decide +kernel
theorem d_mo_work_9 : decode b_mo_work 9 = .ok (.aload_n 0, 1) := by decide +kernel
theorem d_mo_work_10 : decode b_mo_work 10 = .ok (.getfield 13, 3) := by decide +kernel
theorem d_mo_work_13 : decode b_mo_work 13 = .ok (.ifCond .lt 7, 3) := by decide +kernel
theorem d_mo_work_16 : decode b_mo_work 16 = .ok (.iconst 1, 1) := by decide +kernel
theorem d_mo_work_17 : decode b_mo_work 17 = .ok (.goto 4, 3) := by decide +kernel
theorem d_mo_work_20 : decode b_mo_work 20 = .ok (.iconst 0, 1) := by decide +kernel
theorem d_mo_work_21 : decode b_mo_work 21 = .ok (.putfield 42, 3) := by decide +kernel
theorem d_mo_work_24 : decode b_mo_work 24 = .ok (.aload_n 0, 1) := by decide +kernel
theorem d_mo_work_25 : decode b_mo_work 25 = .ok (.getfield 42, 3) := by decide +kernel
theorem d_mo_work_28 : decode b_mo_work 28 = .ok (.ifCond .le 5, 3) := by decide +kernel
theorem d_mo_work_31 : decode b_mo_work 31 = .ok (.iconst 0, 1) := by decide +kernel
theorem d_mo_work_32 : decode b_mo_work 32 = .ok (.ireturn, 1) := by decide +kernel
theorem d_mo_work_33 : decode b_mo_work 33 = .ok (.aload_n 0, 1) := by decide +kernel
theorem d_mo_work_34 : decode b_mo_work 34 = .ok (.invokevirtual 179, 3) := by decide +kernel
theorem d_mo_work_37 : decode b_mo_work 37 = .ok (.istore_n 1, 1) := by decide +kernel
theorem d_mo_work_38 : decode b_mo_work 38 = .ok (.aload_n 0, 1) := by decide +kernel
theorem d_mo_work_39 : decode b_mo_work 39 = .ok (.iload_n 1, 1) := by decide +kernel
theorem d_mo_work_40 : decode b_mo_work 40 = .ok (.ifCond .le 9, 3) := by decide +kernel
theorem d_mo_work_43 : decode b_mo_work 43 = .ok (.iload_n 1, 1) := by decide +kernel
theorem d_mo_work_44 : decode b_mo_work 44 = .ok (.iconst 1, 1) := by decide +kernel
theorem d_mo_work_45 : decode b_mo_work 45 = .ok (.iadd, 1) := by decide +kernel
theorem d_mo_work_46 : decode b_mo_work 46 = .ok (.goto 4, 3) := by decide +kernel
theorem d_mo_work_49 : decode b_mo_work 49 = .ok (.iconst 0, 1) := by decide +kernel
theorem d_mo_work_50 : decode b_mo_work 50 = .ok (.putfield 42, 3) := by decide +kernel
theorem d_mo_work_53 : decode b_mo_work 53 = .ok (.aload_n 0, 1) := by decide +kernel
theorem d_mo_work_54 : decode b_mo_work 54 = .ok (.getfield 42, 3) := by decide +kernel
theorem d_mo_work_57 : decode b_mo_work 57 = .ok (.ifCond .le 5, 3) := by decide +kernel
theorem d_mo_work_60 : decode b_mo_work 60 = .ok (.iconst 0, 1) := by decide +kernel
theorem d_mo_work_61 : decode b_mo_work 61 = .ok (.ireturn, 1) := by decide +kernel
theorem d_mo_work_62 : decode b_mo_work 62 = .ok (.aload_n 0, 1) := by decide +kernel
theorem d_mo_work_63 : decode b_mo_work 63 = .ok (.iconst 0, 1) := by decide +kernel
theorem d_mo_work_64 : decode b_mo_work 64 = .ok (.bipush 72, 2) := by decide +kernel
theorem d_mo_work_66 : decode b_mo_work 66 = .ok (.invokevirtual 127, 3) := by decide +kernel
theorem d_mo_work_69 : decode b_mo_work 69 = .ok (.aload_n 0, 1) := by decide +kernel
theorem d_mo_work_70 : decode b_mo_work 70 = .ok (.bipush 72, 2) := by decide +kernel
theorem d_mo_work_72 : decode b_mo_work 72 = .ok (.invokevirtual 182, 3) := by decide +kernel
theorem d_mo_work_75 : decode b_mo_work 75 = .ok (.ireturn, 1) := by decide +kernel
theorem d_mo_isVariable_0 : decode b_mo_isVariable 0 = .ok (.iload_n 0, 1) := by decide +kernel
theorem d_mo_isVariable_1 : decode b_mo_isVariable 1 = .ok (.ifCond .lt 13, 3) := by decide +kernel
theorem d_mo_isVariable_4 : decode b_mo_isVariable 4 = .ok (.iload_n 0, 1) := by decide +kernel
theorem d_mo_isVariable_5 : decode b_mo_isVariable 5 = .ok (.bipush 8, 2) := by decide +kernel
theorem d_mo_isVariable_7 : decode b_mo_isVariable 7 = .ok (.if_icmp .ge 7, 3) := by decide +kernel
theorem d_mo_isVariable_10 : decode b_mo_isVariable 10 = .ok (.iconst 1, 1) := by decide +kernel
theorem d_mo_isVariable_11 : decode b_mo_isVariable 11 = .ok (.goto 4, 3) := by decide +kernel
theorem d_mo_isVariable_14 : decode b_mo_isVariable 14 = .ok (.iconst 0, 1) := by decide +kernel
theorem d_mo_isVariable_15 : decode b_mo_isVariable 15 = .ok (.ireturn, 1) := by decide +kernel
theorem d_mo_keep_0 : decode b_mo_keep 0 = .ok (.aload_n 0, 1) := by decide +kernel
theorem d_mo_keep_1 : decode b_mo_keep 1 = .ok (.iload_n 1, 1) := by decide +kernel
theorem d_mo_keep_2 : decode b_mo_keep 2 = .ok (.invokestatic 185, 3) := by decide +kernel
theorem d_mo_keep_5 : decode b_mo_keep 5 = .ok (.ifCond .eq 7, 3) := by decide +kernel
theorem d_mo_keep_8 : decode b_mo_keep 8 = .ok (.iconst 0, 1) := by decide +kernel
theorem d_mo_keep_9 : decode b_mo_keep 9 = .ok (.goto 4, 3) := by decide +kernel
theorem d_mo_keep_12 : decode b_mo_keep 12 = .ok (.iconst 1, 1) := by decide +kernel
theorem d_mo_keep_13 : decode b_mo_keep 13 = .ok (.putfield 42, 3) := by decide +kernel
theorem d_mo_keep_16 : decode b_mo_keep 16 = .ok (.aload_n 0, 1) := by decide +kernel
theorem d_mo_keep_17 : decode b_mo_keep 17 = .ok (.getfield 42, 3) := by decide +kernel
theorem d_mo_keep_20 : decode b_mo_keep 20 = .ok (.ifCond .le 5, 3) := by decide +kernel
theorem d_mo_keep_23 : decode b_mo_keep 23 = .ok (.iconst 0, 1) := by decide +kernel
theorem d_mo_keep_24 : decode b_mo_keep 24 = .ok (.ireturn, 1) := by decide +kernel
theorem d_mo_keep_25 : decode b_mo_keep 25 = .ok (.aload_n 0, 1) := by decide +kernel
theorem d_mo_keep_26 : decode b_mo_keep 26 = .ok (.invokevirtual 188, 3) := by decide +kernel
theorem d_mo_keep_29 : decode b_mo_keep 29 = .ok (.istore_n 2, 1) := by decide +kernel
theorem d_mo_keep_30 : decode b_mo_keep 30 = .ok (.aload_n 0, 1) := by decide +kernel
theorem d_mo_keep_31 : decode b_mo_keep 31 = .ok (.getfield 42, 3) := by decide +kernel
theorem d_mo_keep_34 : decode b_mo_keep 34 = .ok (.ifCond .le 15, 3) := by decide +kernel
theorem d_mo_keep_37 : decode b_mo_keep 37 = .ok (.aload_n 0, 1) := by decide +kernel
theorem d_mo_keep_38 : decode b_mo_keep 38 = .ok (.aload_n 0, 1) := by decide +kernel
theorem d_mo_keep_39 : decode b_mo_keep 39 = .ok (.getfield 42, 3) := by decide +kernel
theorem d_mo_keep_42 : decode b_mo_keep 42 = .ok (.iconst 1, 1) := by decide +kernel
theorem d_mo_keep_43 : decode b_mo_keep 43 = .ok (.iadd, 1) := by decide +kernel
theorem d_mo_keep_44 : decode b_mo_keep 44 = .ok (.putfield 42, 3) := by decide +kernel
theorem d_mo_keep_47 : decode b_mo_keep 47 = .ok (.iconst 0, 1) := by decide +kernel
theorem d_mo_keep_48 : decode b_mo_keep 48 = .ok (.ireturn, 1) := by decide +kernel
theorem d_mo_keep_49 : decode b_mo_keep 49 = .ok (.aload_n 0, 1) := by decide +kernel
theorem d_mo_keep_50 : decode b_mo_keep 50 = .ok (.bipush 72, 2) := by decide +kernel
theorem d_mo_keep_52 : decode b_mo_keep 52 = .ok (.bipush 64, 2) := by decide +kernel
theorem d_mo_keep_54 : decode b_mo_keep 54 = .ok (.iload_n 1, 1) := by decide +kernel
theorem d_mo_keep_55 : decode b_mo_keep 55 = .ok (.iadd, 1) := by decide +kernel
theorem d_mo_keep_56 : decode b_mo_keep 56 = .ok (.invokevirtual 127, 3) := by decide +kernel
theorem d_mo_keep_59 : decode b_mo_keep 59 = .ok (.aload_n 0, 1) := by decide +kernel
theorem d_mo_keep_60 : decode b_mo_keep 60 = .ok (.iconst 0, 1) := by decide +kernel
theorem d_mo_keep_61 : decode b_mo_keep 61 = .ok (.putfield 93, 3) := by decide +kernel
theorem d_mo_keep_64 : decode b_mo_keep 64 = .ok (.iload_n 2, 1) := by decide +kernel
theorem d_mo_keep_65 : decode b_mo_keep 65 = .ok (.ireturn, 1) := by decide +kernel
theorem d_mo_form_0 : decode b_mo_form 0 = .ok (.aload_n 0, 1) := by decide +kernel
theorem d_mo_form_1 : decode b_mo_form 1 = .ok (.iconst 0, 1) := by decide +kernel
theorem d_mo_form_2 : decode b_mo_form 2 = .ok (.putfield 42, 3) := by decide +kernel
theorem d_mo_form_5 : decode b_mo_form 5 = .ok (.aload_n 0, 1) := by decide +kernel
theorem d_mo_form_6 : decode b_mo_form 6 = .ok (.bipush 72, 2) := by decide +kernel
theorem d_mo_form_8 : decode b_mo_form 8 = .ok (.invokevirtual 182, 3) := by decide +kernel
theorem d_mo_form_11 : decode b_mo_form 11 = .ok (.ireturn, 1) := by decide +kernel
theorem d_mo_sign_0 : decode b_mo_sign 0 = .ok (.aload_n 0, 1) := by decide +kernel
theorem d_mo_sign_1 : decode b_mo_sign 1 = .ok (.iconst 0, 1) := by decide +kernel
theorem d_mo_sign_2 : decode b_mo_sign 2 = .ok (.putfield 42, 3) := by decide +kernel
theorem d_mo_sign_5 : decode b_mo_sign 5 = .ok (.aload_n 0, 1) := by decide +kernel
theorem d_mo_sign_6 : decode b_mo_sign 6 = .ok (.getfield 23, 3) := by decide +kernel
theorem d_mo_sign_9 : decode b_mo_sign 9 = .ok (.bipush 72, 2) := by decide +kernel
theorem d_mo_sign_11 : decode b_mo_sign 11 = .ok (.iaload, 1) := by decide +kernel
theorem d_mo_sign_12 : decode b_mo_sign 12 = .ok (.ireturn, 1) := by decide +kernel
theorem d_mo_length_0 : decode b_mo_length 0 = .ok (.aload_n 0, 1) := by decide +kernel
theorem d_mo_length_1 : decode b_mo_length 1 = .ok (.getfield 20, 3) := by decide +kernel
theorem d_mo_length_4 : decode b_mo_length 4 = .ok (.iload_n 1, 1) := by decide +kernel
theorem d_mo_length_5 : decode b_mo_length 5 = .ok (.iaload, 1) := by decide +kernel
theorem d_mo_length_6 : decode b_mo_length 6 = .ok (.ifCond .ne 5, 3) := by decide +kernel
theorem d_mo_length_9 : decode b_mo_length 9 = .ok (.iconst 1, 1) := by decide +kernel
theorem d_mo_length_10 : decode b_mo_length 10 = .ok (.ireturn, 1) := by decide +kernel
theorem d_mo_length_11 : decode b_mo_length 11 = .ok (.aload_n 0, 1) := by decide +kernel
theorem d_mo_length_12 : decode b_mo_length 12 = .ok (.getfield 17, 3) := by decide +kernel
theorem d_mo_length_15 : decode b_mo_length 15 = .ok (.bipush 40, 2) := by decide +kernel
theorem d_mo_length_17 : decode b_mo_length 17 = .ok (.iload_n 1, 1) := by decide +kernel
theorem d_mo_length_18 : decode b_mo_length 18 = .ok (.imul, 1) := by decide +kernel
theorem d_mo_length_19 : decode b_mo_length 19 = .ok (.aload_n 0, 1) := by decide +kernel
theorem d_mo_length_20 : decode b_mo_length 20 = .ok (.getfield 20, 3) := by decide +kernel
theorem d_mo_length_23 : decode b_mo_length 23 = .ok (.iload_n 1, 1) := by decide +kernel
theorem d_mo_length_24 : decode b_mo_length 24 = .ok (.iaload, 1) := by decide +kernel
theorem d_mo_length_25 : decode b_mo_length 25 = .ok (.iadd, 1) := by decide +kernel
theorem d_mo_length_26 : decode b_mo_length 26 = .ok (.iconst 1, 1) := by decide +kernel
theorem d_mo_length_27 : decode b_mo_length 27 = .ok (.isub, 1) := by decide +kernel
theorem d_mo_length_28 : decode b_mo_length 28 = .ok (.iaload, 1) := by decide +kernel
theorem d_mo_length_29 : decode b_mo_length 29 = .ok (.istore_n 2, 1) := by decide +kernel
theorem d_mo_length_30 : decode b_mo_length 30 = .ok (.iconst 4, 1) := by decide +kernel
theorem d_mo_length_31 : decode b_mo_length 31 = .ok (.aload_n 0, 1) := by decide +kernel
theorem d_mo_length_32 : decode b_mo_length 32 = .ok (.getfield 20, 3) := by decide +kernel
theorem d_mo_length_35 : decode b_mo_length 35 = .ok (.iload_n 1, 1) := by decide +kernel
theorem d_mo_length_36 : decode b_mo_length 36 = .ok (.iaload, 1) := by decide +kernel
theorem d_mo_length_37 : decode b_mo_length 37 = .ok (.imul, 1) := by decide +kernel
theorem d_mo_length_38 : decode b_mo_length 38 = .ok (.iconst 4, 1) := by decide +kernel
theorem d_mo_length_39 : decode b_mo_length 39 = .ok (.isub, 1) := by decide +kernel
theorem d_mo_length_40 : decode b_mo_length 40 = .ok (.iload_n 2, 1) := by decide +kernel
theorem d_mo_length_41 : decode b_mo_length 41 = .ok (.sipush 999, 3) := by decide +kernel
theorem d_mo_length_44 : decode b_mo_length 44 = .ok (.if_icmp .le 7, 3) := by decide +kernel
theorem d_mo_length_47 : decode b_mo_length 47 = .ok (.iconst 4, 1) := by decide +kernel
theorem d_mo_length_48 : decode b_mo_length 48 = .ok (.goto 24, 3) := by decide +kernel
theorem d_mo_length_51 : decode b_mo_length 51 = .ok (.iload_n 2, 1) := by decide +kernel
theorem d_mo_length_52 : decode b_mo_length 52 = .ok (.bipush 99, 2) := by decide +kernel
theorem d_mo_length_54 : decode b_mo_length 54 = .ok (.if_icmp .le 7, 3) := by decide +kernel
theorem d_mo_length_57 : decode b_mo_length 57 = .ok (.iconst 3, 1) := by decide +kernel
theorem d_mo_length_58 : decode b_mo_length 58 = .ok (.goto 14, 3) := by decide +kernel
theorem d_mo_length_61 : decode b_mo_length 61 = .ok (.iload_n 2, 1) := by decide +kernel
theorem d_mo_length_62 : decode b_mo_length 62 = .ok (.bipush 9, 2) := by decide +kernel
theorem d_mo_length_64 : decode b_mo_length 64 = .ok (.if_icmp .le 7, 3) := by decide +kernel
theorem d_mo_length_67 : decode b_mo_length 67 = .ok (.iconst 2, 1) := by decide +kernel
theorem d_mo_length_68 : decode b_mo_length 68 = .ok (.goto 4, 3) := by decide +kernel
theorem d_mo_length_71 : decode b_mo_length 71 = .ok (.iconst 1, 1) := by decide +kernel
theorem d_mo_length_72 : decode b_mo_length 72 = .ok (.iadd, 1) := by decide +kernel
theorem d_mo_length_73 : decode b_mo_length 73 = .ok (.ireturn, 1) := by decide +kernel
theorem d_mo_fromEnd_0 : decode b_mo_fromEnd 0 = .ok (.aload_n 0, 1) := by decide +kernel
theorem d_mo_fromEnd_1 : decode b_mo_fromEnd 1 = .ok (.getfield 17, 3) := by decide +kernel
theorem d_mo_fromEnd_4 : decode b_mo_fromEnd 4 = .ok (.bipush 40, 2) := by decide +kernel
theorem d_mo_fromEnd_6 : decode b_mo_fromEnd 6 = .ok (.iload_n 1, 1) := by decide +kernel
theorem d_mo_fromEnd_7 : decode b_mo_fromEnd 7 = .ok (.imul, 1) := by decide +kernel
theorem d_mo_fromEnd_8 : decode b_mo_fromEnd 8 = .ok (.iload_n 2, 1) := by decide +kernel
theorem d_mo_fromEnd_9 : decode b_mo_fromEnd 9 = .ok (.iconst 4, 1) := by decide +kernel
theorem d_mo_fromEnd_10 : decode b_mo_fromEnd 10 = .ok (.idiv, 1) := by decide +kernel
theorem d_mo_fromEnd_11 : decode b_mo_fromEnd 11 = .ok (.iadd, 1) := by decide +kernel
theorem d_mo_fromEnd_12 : decode b_mo_fromEnd 12 = .ok (.iaload, 1) := by decide +kernel
theorem d_mo_fromEnd_13 : decode b_mo_fromEnd 13 = .ok (.istore_n 3, 1) := by decide +kernel
theorem d_mo_fromEnd_14 : decode b_mo_fromEnd 14 = .ok (.iload_n 2, 1) := by decide +kernel
theorem d_mo_fromEnd_15 : decode b_mo_fromEnd 15 = .ok (.iconst 4, 1) := by decide +kernel
theorem d_mo_fromEnd_16 : decode b_mo_fromEnd 16 = .ok (.irem, 1) := by decide +kernel
theorem d_mo_fromEnd_17 : decode b_mo_fromEnd 17 = .ok (.istore 4, 2) := by decide +kernel
theorem d_mo_fromEnd_19 : decode b_mo_fromEnd 19 = .ok (.iload 4, 2) := by decide +kernel
theorem d_mo_fromEnd_21 : decode b_mo_fromEnd 21 = .ok (.ifCond .ne 10, 3) := by decide +kernel
theorem d_mo_fromEnd_24 : decode b_mo_fromEnd 24 = .ok (.iload_n 3, 1) := by decide +kernel
theorem d_mo_fromEnd_25 : decode b_mo_fromEnd 25 = .ok (.bipush 10, 2) := by decide +kernel
theorem d_mo_fromEnd_27 : decode b_mo_fromEnd 27 = .ok (.irem, 1) := by decide +kernel
theorem d_mo_fromEnd_28 : decode b_mo_fromEnd 28 = .ok (.goto 40, 3) := by decide +kernel
theorem d_mo_fromEnd_31 : decode b_mo_fromEnd 31 = .ok (.iload 4, 2) := by decide +kernel
theorem d_mo_fromEnd_33 : decode b_mo_fromEnd 33 = .ok (.iconst 1, 1) := by decide +kernel
theorem d_mo_fromEnd_34 : decode b_mo_fromEnd 34 = .ok (.if_icmp .ne 13, 3) := by decide +kernel
theorem d_mo_fromEnd_37 : decode b_mo_fromEnd 37 = .ok (.iload_n 3, 1) := by decide +kernel
theorem d_mo_fromEnd_38 : decode b_mo_fromEnd 38 = .ok (.bipush 10, 2) := by decide +kernel
theorem d_mo_fromEnd_40 : decode b_mo_fromEnd 40 = .ok (.idiv, 1) := by decide +kernel
theorem d_mo_fromEnd_41 : decode b_mo_fromEnd 41 = .ok (.bipush 10, 2) := by decide +kernel
theorem d_mo_fromEnd_43 : decode b_mo_fromEnd 43 = .ok (.irem, 1) := by decide +kernel
theorem d_mo_fromEnd_44 : decode b_mo_fromEnd 44 = .ok (.goto 24, 3) := by decide +kernel
theorem d_mo_fromEnd_47 : decode b_mo_fromEnd 47 = .ok (.iload 4, 2) := by decide +kernel
theorem d_mo_fromEnd_49 : decode b_mo_fromEnd 49 = .ok (.iconst 2, 1) := by decide +kernel
theorem d_mo_fromEnd_50 : decode b_mo_fromEnd 50 = .ok (.if_icmp .ne 13, 3) := by decide +kernel
theorem d_mo_fromEnd_53 : decode b_mo_fromEnd 53 = .ok (.iload_n 3, 1) := by decide +kernel
theorem d_mo_fromEnd_54 : decode b_mo_fromEnd 54 = .ok (.bipush 100, 2) := by decide +kernel
theorem d_mo_fromEnd_56 : decode b_mo_fromEnd 56 = .ok (.idiv, 1) := by decide +kernel
theorem d_mo_fromEnd_57 : decode b_mo_fromEnd 57 = .ok (.bipush 10, 2) := by decide +kernel
theorem d_mo_fromEnd_59 : decode b_mo_fromEnd 59 = .ok (.irem, 1) := by decide +kernel
theorem d_mo_fromEnd_60 : decode b_mo_fromEnd 60 = .ok (.goto 8, 3) := by decide +kernel
theorem d_mo_fromEnd_63 : decode b_mo_fromEnd 63 = .ok (.iload_n 3, 1) := by decide +kernel
theorem d_mo_fromEnd_64 : decode b_mo_fromEnd 64 = .ok (.sipush 1000, 3) := by decide +kernel
theorem d_mo_fromEnd_67 : decode b_mo_fromEnd 67 = .ok (.idiv, 1) := by decide +kernel
theorem d_mo_fromEnd_68 : decode b_mo_fromEnd 68 = .ok (.ireturn, 1) := by decide +kernel
theorem d_mo_digit_0 : decode b_mo_digit 0 = .ok (.aload_n 0, 1) := by decide +kernel
theorem d_mo_digit_1 : decode b_mo_digit 1 = .ok (.iconst 0, 1) := by decide +kernel
theorem d_mo_digit_2 : decode b_mo_digit 2 = .ok (.putfield 42, 3) := by decide +kernel
theorem d_mo_digit_5 : decode b_mo_digit 5 = .ok (.aload_n 0, 1) := by decide +kernel
theorem d_mo_digit_6 : decode b_mo_digit 6 = .ok (.sipush 144, 3) := by decide +kernel
theorem d_mo_digit_9 : decode b_mo_digit 9 = .ok (.invokevirtual 191, 3) := by decide +kernel
theorem d_mo_digit_12 : decode b_mo_digit 12 = .ok (.istore_n 2, 1) := by decide +kernel
theorem d_mo_digit_13 : decode b_mo_digit 13 = .ok (.aload_n 0, 1) := by decide +kernel
theorem d_mo_digit_14 : decode b_mo_digit 14 = .ok (.sipush 145, 3) := by decide +kernel
theorem d_mo_digit_17 : decode b_mo_digit 17 = .ok (.invokevirtual 191, 3) := by decide +kernel
theorem d_mo_digit_20 : decode b_mo_digit 20 = .ok (.istore_n 3, 1) := by decide +kernel
theorem d_mo_digit_21 : decode b_mo_digit 21 = .ok (.aload_n 0, 1) := by decide +kernel
theorem d_mo_digit_22 : decode b_mo_digit 22 = .ok (.getfield 23, 3) := by decide +kernel
theorem d_mo_digit_25 : decode b_mo_digit 25 = .ok (.bipush 72, 2) := by decide +kernel
theorem d_mo_digit_27 : decode b_mo_digit 27 = .ok (.iaload, 1) := by decide +kernel
theorem d_mo_digit_28 : decode b_mo_digit 28 = .ok (.ifCond .ge 9, 3) := by decide +kernel
theorem d_mo_digit_31 : decode b_mo_digit 31 = .ok (.iload_n 1, 1) := by decide +kernel
theorem d_mo_digit_32 : decode b_mo_digit 32 = .ok (.iconst 1, 1) := by decide +kernel
theorem d_mo_digit_33 : decode b_mo_digit 33 = .ok (.isub, 1) := by decide +kernel
theorem d_mo_digit_34 : decode b_mo_digit 34 = .ok (.goto 4, 3) := by decide +kernel
theorem d_mo_digit_37 : decode b_mo_digit 37 = .ok (.iload_n 1, 1) := by decide +kernel
theorem d_mo_digit_38 : decode b_mo_digit 38 = .ok (.istore 4, 2) := by decide +kernel
theorem d_mo_digit_40 : decode b_mo_digit 40 = .ok (.iload_n 1, 1) := by decide +kernel
theorem d_mo_digit_41 : decode b_mo_digit 41 = .ok (.ifCond .ge 5, 3) := by decide +kernel
theorem d_mo_digit_44 : decode b_mo_digit 44 = .ok (.iconst 0, 1) := by decide +kernel
theorem d_mo_digit_45 : decode b_mo_digit 45 = .ok (.ireturn, 1) := by decide +kernel
theorem d_mo_digit_46 : decode b_mo_digit 46 = .ok (.iload 4, 2) := by decide +kernel
theorem d_mo_digit_48 : decode b_mo_digit 48 = .ok (.ifCond .ge 6, 3) := by decide +kernel
theorem d_mo_digit_51 : decode b_mo_digit 51 = .ok (.bipush 45, 2) := by decide +kernel
theorem d_mo_digit_53 : decode b_mo_digit 53 = .ok (.ireturn, 1) := by decide +kernel
theorem d_mo_digit_54 : decode b_mo_digit 54 = .ok (.iload 4, 2) := by decide +kernel
theorem d_mo_digit_56 : decode b_mo_digit 56 = .ok (.iload_n 2, 1) := by decide +kernel
theorem d_mo_digit_57 : decode b_mo_digit 57 = .ok (.if_icmp .ge 21, 3) := by decide +kernel
theorem d_mo_digit_60 : decode b_mo_digit 60 = .ok (.bipush 48, 2) := by decide +kernel
theorem d_mo_digit_62 : decode b_mo_digit 62 = .ok (.aload_n 0, 1) := by decide +kernel
theorem d_mo_digit_63 : decode b_mo_digit 63 = .ok (.sipush 144, 3) := by decide +kernel
theorem d_mo_digit_66 : decode b_mo_digit 66 = .ok (.iload_n 2, 1) := by decide +kernel
theorem d_mo_digit_67 : decode b_mo_digit 67 = .ok (.iconst 1, 1) := by decide +kernel
theorem d_mo_digit_68 : decode b_mo_digit 68 = .ok (.isub, 1) := by decide +kernel
theorem d_mo_digit_69 : decode b_mo_digit 69 = .ok (.iload 4, 2) := by decide +kernel
theorem d_mo_digit_71 : decode b_mo_digit 71 = .ok (.isub, 1) := by decide +kernel
theorem d_mo_digit_72 : decode b_mo_digit 72 = .ok (.invokevirtual 194, 3) := by decide +kernel
theorem d_mo_digit_75 : decode b_mo_digit 75 = .ok (.iadd, 1) := by decide +kernel
theorem d_mo_digit_76 : decode b_mo_digit 76 = .ok (.i2c, 1) := by decide +kernel
theorem d_mo_digit_77 : decode b_mo_digit 77 = .ok (.ireturn, 1) := by decide +kernel
theorem d_mo_digit_78 : decode b_mo_digit 78 = .ok (.aload_n 0, 1) := by decide +kernel
theorem d_mo_digit_79 : decode b_mo_digit 79 = .ok (.bipush 72, 2) := by decide +kernel
theorem d_mo_digit_81 : decode b_mo_digit 81 = .ok (.invokevirtual 88, 3) := by decide +kernel
theorem d_mo_digit_84 : decode b_mo_digit 84 = .ok (.ifCond .ne 11, 3) := by decide +kernel
theorem d_mo_digit_87 : decode b_mo_digit 87 = .ok (.iload 4, 2) := by decide +kernel
theorem d_mo_digit_89 : decode b_mo_digit 89 = .ok (.iload_n 2, 1) := by decide +kernel
theorem d_mo_digit_90 : decode b_mo_digit 90 = .ok (.iload_n 3, 1) := by decide +kernel
theorem d_mo_digit_91 : decode b_mo_digit 91 = .ok (.iadd, 1) := by decide +kernel
theorem d_mo_digit_92 : decode b_mo_digit 92 = .ok (.if_icmp .le 5, 3) := by decide +kernel
theorem d_mo_digit_95 : decode b_mo_digit 95 = .ok (.iconst 0, 1) := by decide +kernel
theorem d_mo_digit_96 : decode b_mo_digit 96 = .ok (.ireturn, 1) := by decide +kernel
theorem d_mo_digit_97 : decode b_mo_digit 97 = .ok (.iload 4, 2) := by decide +kernel
theorem d_mo_digit_99 : decode b_mo_digit 99 = .ok (.iload_n 2, 1) := by decide +kernel
theorem d_mo_digit_100 : decode b_mo_digit 100 = .ok (.if_icmp .ne 8, 3) := by decide +kernel
theorem d_mo_digit_103 : decode b_mo_digit 103 = .ok (.bipush 47, 2) := by decide +kernel
theorem d_mo_digit_105 : decode b_mo_digit 105 = .ok (.goto 20, 3) := by decide +kernel
theorem d_mo_digit_108 : decode b_mo_digit 108 = .ok (.bipush 48, 2) := by decide +kernel
theorem d_mo_digit_110 : decode b_mo_digit 110 = .ok (.aload_n 0, 1) := by decide +kernel
theorem d_mo_digit_111 : decode b_mo_digit 111 = .ok (.sipush 145, 3) := by decide +kernel
theorem d_mo_digit_114 : decode b_mo_digit 114 = .ok (.iload_n 2, 1) := by decide +kernel
theorem d_mo_digit_115 : decode b_mo_digit 115 = .ok (.iload_n 3, 1) := by decide +kernel
theorem d_mo_digit_116 : decode b_mo_digit 116 = .ok (.iadd, 1) := by decide +kernel
theorem d_mo_digit_117 : decode b_mo_digit 117 = .ok (.iload 4, 2) := by decide +kernel
theorem d_mo_digit_119 : decode b_mo_digit 119 = .ok (.isub, 1) := by decide +kernel
theorem d_mo_digit_120 : decode b_mo_digit 120 = .ok (.invokevirtual 194, 3) := by decide +kernel
theorem d_mo_digit_123 : decode b_mo_digit 123 = .ok (.iadd, 1) := by decide +kernel
theorem d_mo_digit_124 : decode b_mo_digit 124 = .ok (.i2c, 1) := by decide +kernel
theorem d_mo_digit_125 : decode b_mo_digit 125 = .ok (.ireturn, 1) := by decide +kernel
theorem d_mo_bits_0 : decode b_mo_bits 0 = .ok (.aload_n 0, 1) := by decide +kernel
theorem d_mo_bits_1 : decode b_mo_bits 1 = .ok (.iconst 0, 1) := by decide +kernel
theorem d_mo_bits_2 : decode b_mo_bits 2 = .ok (.putfield 42, 3) := by decide +kernel
theorem d_mo_bits_5 : decode b_mo_bits 5 = .ok (.iload_n 2, 1) := by decide +kernel
theorem d_mo_bits_6 : decode b_mo_bits 6 = .ok (.ifCond .lt 9, 3) := by decide +kernel
theorem d_mo_bits_9 : decode b_mo_bits 9 = .ok (.iload_n 2, 1) := by decide +kernel
theorem d_mo_bits_10 : decode b_mo_bits 10 = .ok (.bipush 7, 2) := by decide +kernel
theorem d_mo_bits_12 : decode b_mo_bits 12 = .ok (.if_icmp .le 5, 3) := by decide +kernel
theorem d_mo_bits_15 : decode b_mo_bits 15 = .ok (.iconst 0, 1) := by decide +kernel
theorem d_mo_bits_16 : decode b_mo_bits 16 = .ok (.ireturn, 1) := by decide +kernel
theorem d_mo_bits_17 : decode b_mo_bits 17 = .ok (.aload_n 0, 1) := by decide +kernel
theorem d_mo_bits_18 : decode b_mo_bits 18 = .ok (.iload_n 1, 1) := by decide +kernel
theorem d_mo_bits_19 : decode b_mo_bits 19 = .ok (.ifCond .ne 9, 3) := by decide +kernel
theorem d_mo_bits_22 : decode b_mo_bits 22 = .ok (.sipush 144, 3) := by decide +kernel
theorem d_mo_bits_25 : decode b_mo_bits 25 = .ok (.goto 6, 3) := by decide +kernel
theorem d_mo_bits_28 : decode b_mo_bits 28 = .ok (.sipush 145, 3) := by decide +kernel
theorem d_mo_bits_31 : decode b_mo_bits 31 = .ok (.sipush 150, 3) := by decide +kernel
theorem d_mo_bits_34 : decode b_mo_bits 34 = .ok (.invokevirtual 62, 3) := by decide +kernel
theorem d_mo_bits_37 : decode b_mo_bits 37 = .ok (.iconst 0, 1) := by decide +kernel
theorem d_mo_bits_38 : decode b_mo_bits 38 = .ok (.istore_n 3, 1) := by decide +kernel
theorem d_mo_bits_39 : decode b_mo_bits 39 = .ok (.iload_n 3, 1) := by decide +kernel
theorem d_mo_bits_40 : decode b_mo_bits 40 = .ok (.iconst 2, 1) := by decide +kernel
theorem d_mo_bits_41 : decode b_mo_bits 41 = .ok (.iload_n 2, 1) := by decide +kernel
theorem d_mo_bits_42 : decode b_mo_bits 42 = .ok (.imul, 1) := by decide +kernel
theorem d_mo_bits_43 : decode b_mo_bits 43 = .ok (.if_icmp .ge 19, 3) := by decide +kernel
theorem d_mo_bits_46 : decode b_mo_bits 46 = .ok (.aload_n 0, 1) := by decide +kernel
theorem d_mo_bits_47 : decode b_mo_bits 47 = .ok (.sipush 150, 3) := by decide +kernel
theorem d_mo_bits_50 : decode b_mo_bits 50 = .ok (.ldc 197, 2) := by decide +kernel
theorem d_mo_bits_52 : decode b_mo_bits 52 = .ok (.invokevirtual 69, 3) := by decide +kernel
theorem d_mo_bits_55 : decode b_mo_bits 55 = .ok (.pop, 1) := by decide +kernel
theorem d_mo_bits_56 : decode b_mo_bits 56 = .ok (.iinc 3 1, 3) := by decide +kernel
theorem d_mo_bits_59 : decode b_mo_bits 59 = .ok (.goto (-20), 3) := by decide +kernel
theorem d_mo_bits_62 : decode b_mo_bits 62 = .ok (.iconst 0, 1) := by decide +kernel
theorem d_mo_bits_63 : decode b_mo_bits 63 = .ok (.istore_n 3, 1) := by decide +kernel
theorem d_mo_bits_64 : decode b_mo_bits 64 = .ok (.aload_n 0, 1) := by decide +kernel
theorem d_mo_bits_65 : decode b_mo_bits 65 = .ok (.getfield 20, 3) := by decide +kernel
theorem d_mo_bits_68 : decode b_mo_bits 68 = .ok (.sipush 150, 3) := by decide +kernel
theorem d_mo_bits_71 : decode b_mo_bits 71 = .ok (.iaload, 1) := by decide +kernel
theorem d_mo_bits_72 : decode b_mo_bits 72 = .ok (.iconst 1, 1) := by decide +kernel
theorem d_mo_bits_73 : decode b_mo_bits 73 = .ok (.isub, 1) := by decide +kernel
theorem d_mo_bits_74 : decode b_mo_bits 74 = .ok (.istore 4, 2) := by decide +kernel
theorem d_mo_bits_76 : decode b_mo_bits 76 = .ok (.iload 4, 2) := by decide +kernel
theorem d_mo_bits_78 : decode b_mo_bits 78 = .ok (.ifCond .lt 27, 3) := by decide +kernel
theorem d_mo_bits_81 : decode b_mo_bits 81 = .ok (.iload_n 3, 1) := by decide +kernel
theorem d_mo_bits_82 : decode b_mo_bits 82 = .ok (.sipush 10000, 3) := by decide +kernel
theorem d_mo_bits_85 : decode b_mo_bits 85 = .ok (.imul, 1) := by decide +kernel
theorem d_mo_bits_86 : decode b_mo_bits 86 = .ok (.aload_n 0, 1) := by decide +kernel
theorem d_mo_bits_87 : decode b_mo_bits 87 = .ok (.getfield 17, 3) := by decide +kernel
theorem d_mo_bits_90 : decode b_mo_bits 90 = .ok (.sipush 6000, 3) := by decide +kernel
theorem d_mo_bits_93 : decode b_mo_bits 93 = .ok (.iload 4, 2) := by decide +kernel
theorem d_mo_bits_95 : decode b_mo_bits 95 = .ok (.iadd, 1) := by decide +kernel
theorem d_mo_bits_96 : decode b_mo_bits 96 = .ok (.iaload, 1) := by decide +kernel
theorem d_mo_bits_97 : decode b_mo_bits 97 = .ok (.iadd, 1) := by decide +kernel
theorem d_mo_bits_98 : decode b_mo_bits 98 = .ok (.istore_n 3, 1) := by decide +kernel
theorem d_mo_bits_99 : decode b_mo_bits 99 = .ok (.iinc 4 (-1), 3) := by decide +kernel
theorem d_mo_bits_102 : decode b_mo_bits 102 = .ok (.goto (-26), 3) := by decide +kernel
theorem d_mo_bits_105 : decode b_mo_bits 105 = .ok (.iload_n 3, 1) := by decide +kernel
theorem d_mo_bits_106 : decode b_mo_bits 106 = .ok (.ireturn, 1) := by decide +kernel
theorem d_mo_against_0 : decode b_mo_against 0 = .ok (.aload_n 0, 1) := by decide +kernel
theorem d_mo_against_1 : decode b_mo_against 1 = .ok (.iload_n 1, 1) := by decide +kernel
theorem d_mo_against_2 : decode b_mo_against 2 = .ok (.invokestatic 185, 3) := by decide +kernel
theorem d_mo_against_5 : decode b_mo_against 5 = .ok (.ifCond .eq 7, 3) := by decide +kernel
theorem d_mo_against_8 : decode b_mo_against 8 = .ok (.iconst 0, 1) := by decide +kernel
theorem d_mo_against_9 : decode b_mo_against 9 = .ok (.goto 4, 3) := by decide +kernel
theorem d_mo_against_12 : decode b_mo_against 12 = .ok (.iconst 1, 1) := by decide +kernel
theorem d_mo_against_13 : decode b_mo_against 13 = .ok (.putfield 42, 3) := by decide +kernel
theorem d_mo_against_16 : decode b_mo_against 16 = .ok (.aload_n 0, 1) := by decide +kernel
theorem d_mo_against_17 : decode b_mo_against 17 = .ok (.getfield 42, 3) := by decide +kernel
theorem d_mo_against_20 : decode b_mo_against 20 = .ok (.ifCond .le 7, 3) := by decide +kernel
theorem d_mo_against_23 : decode b_mo_against 23 = .ok (.iconst 0, 1) := by decide +kernel
theorem d_mo_against_24 : decode b_mo_against 24 = .ok (.goto 13, 3) := by decide +kernel
theorem d_mo_against_27 : decode b_mo_against 27 = .ok (.aload_n 0, 1) := by decide +kernel
theorem d_mo_against_28 : decode b_mo_against 28 = .ok (.bipush 72, 2) := by decide +kernel
theorem d_mo_against_30 : decode b_mo_against 30 = .ok (.bipush 64, 2) := by decide +kernel
theorem d_mo_against_32 : decode b_mo_against 32 = .ok (.iload_n 1, 1) := by decide +kernel
theorem d_mo_against_33 : decode b_mo_against 33 = .ok (.iadd, 1) := by decide +kernel
theorem d_mo_against_34 : decode b_mo_against 34 = .ok (.invokevirtual 161, 3) := by decide +kernel
theorem d_mo_against_37 : decode b_mo_against 37 = .ok (.ireturn, 1) := by decide +kernel
theorem d_mo_fetch_0 : decode b_mo_fetch 0 = .ok (.aload_n 0, 1) := by decide +kernel
theorem d_mo_fetch_1 : decode b_mo_fetch 1 = .ok (.iload_n 1, 1) := by decide +kernel
theorem d_mo_fetch_2 : decode b_mo_fetch 2 = .ok (.invokestatic 185, 3) := by decide +kernel
theorem d_mo_fetch_5 : decode b_mo_fetch 5 = .ok (.ifCond .eq 7, 3) := by decide +kernel
theorem d_mo_fetch_8 : decode b_mo_fetch 8 = .ok (.iconst 0, 1) := by decide +kernel
theorem d_mo_fetch_9 : decode b_mo_fetch 9 = .ok (.goto 4, 3) := by decide +kernel
theorem d_mo_fetch_12 : decode b_mo_fetch 12 = .ok (.iconst 1, 1) := by decide +kernel
theorem d_mo_fetch_13 : decode b_mo_fetch 13 = .ok (.putfield 42, 3) := by decide +kernel
theorem d_mo_fetch_16 : decode b_mo_fetch 16 = .ok (.aload_n 0, 1) := by decide +kernel
theorem d_mo_fetch_17 : decode b_mo_fetch 17 = .ok (.getfield 42, 3) := by decide +kernel
theorem d_mo_fetch_20 : decode b_mo_fetch 20 = .ok (.ifCond .le 5, 3) := by decide +kernel
theorem d_mo_fetch_23 : decode b_mo_fetch 23 = .ok (.iconst 0, 1) := by decide +kernel
theorem d_mo_fetch_24 : decode b_mo_fetch 24 = .ok (.ireturn, 1) := by decide +kernel
theorem d_mo_fetch_25 : decode b_mo_fetch 25 = .ok (.aload_n 0, 1) := by decide +kernel
theorem d_mo_fetch_26 : decode b_mo_fetch 26 = .ok (.bipush 64, 2) := by decide +kernel
theorem d_mo_fetch_28 : decode b_mo_fetch 28 = .ok (.iload_n 1, 1) := by decide +kernel
theorem d_mo_fetch_29 : decode b_mo_fetch 29 = .ok (.iadd, 1) := by decide +kernel
theorem d_mo_fetch_30 : decode b_mo_fetch 30 = .ok (.bipush 72, 2) := by decide +kernel
theorem d_mo_fetch_32 : decode b_mo_fetch 32 = .ok (.invokevirtual 127, 3) := by decide +kernel
theorem d_mo_fetch_35 : decode b_mo_fetch 35 = .ok (.aload_n 0, 1) := by decide +kernel
theorem d_mo_fetch_36 : decode b_mo_fetch 36 = .ok (.bipush 72, 2) := by decide +kernel
theorem d_mo_fetch_38 : decode b_mo_fetch 38 = .ok (.invokevirtual 182, 3) := by decide +kernel
theorem d_mo_fetch_41 : decode b_mo_fetch 41 = .ok (.ireturn, 1) := by decide +kernel
end
section
theorem d_wh_init_0 : decode b_wh_init 0 = .ok (.aload_n 0, 1) := by decide +kernel
theorem d_wh_init_1 : decode b_wh_init 1 = .ok (.invokespecial 3, 3) := by decide +kernel
theorem d_wh_init_4 : decode b_wh_init 4 = .ok (.aload_n 0, 1) := by decide +kernel
theorem d_wh_init_5 : decode b_wh_init 5 = .ok (.iload_n 1, 1) := by decide +kernel
theorem d_wh_init_6 : decode b_wh_init 6 = .ok (.newarray .int, 2) := by decide +kernel
theorem d_wh_init_8 : decode b_wh_init 8 = .ok (.putfield 9, 3) := by decide +kernel
theorem d_wh_init_11 : decode b_wh_init 11 = .ok (.return_, 1) := by decide +kernel
theorem d_wh_become_0 : decode b_wh_become 0 = .ok (.aload_n 0, 1) := by decide +kernel
theorem d_wh_become_1 : decode b_wh_become 1 = .ok (.getfield 9, 3) := by decide +kernel
theorem d_wh_become_4 : decode b_wh_become 4 = .ok (.iconst 0, 1) := by decide +kernel
theorem d_wh_become_5 : decode b_wh_become 5 = .ok (.iload_n 1, 1) := by decide +kernel
theorem d_wh_become_6 : decode b_wh_become 6 = .ok (.iastore, 1) := by decide +kernel
theorem d_wh_become_7 : decode b_wh_become 7 = .ok (.aload_n 0, 1) := by decide +kernel
theorem d_wh_become_8 : decode b_wh_become 8 = .ok (.iload_n 1, 1) := by decide +kernel
theorem d_wh_become_9 : decode b_wh_become 9 = .ok (.ifCond .ne 7, 3) := by decide +kernel
theorem d_wh_become_12 : decode b_wh_become 12 = .ok (.iconst 0, 1) := by decide +kernel
theorem d_wh_become_13 : decode b_wh_become 13 = .ok (.goto 4, 3) := by decide +kernel
theorem d_wh_become_16 : decode b_wh_become 16 = .ok (.iconst 1, 1) := by decide +kernel
theorem d_wh_become_17 : decode b_wh_become 17 = .ok (.putfield 15, 3) := by decide +kernel
theorem d_wh_become_20 : decode b_wh_become 20 = .ok (.return_, 1) := by decide +kernel
theorem d_wh_copy_0 : decode b_wh_copy 0 = .ok (.aload_n 0, 1) := by decide +kernel
theorem d_wh_copy_1 : decode b_wh_copy 1 = .ok (.aload_n 1, 1) := by decide +kernel
theorem d_wh_copy_2 : decode b_wh_copy 2 = .ok (.getfield 15, 3) := by decide +kernel
theorem d_wh_copy_5 : decode b_wh_copy 5 = .ok (.putfield 15, 3) := by decide +kernel
theorem d_wh_copy_8 : decode b_wh_copy 8 = .ok (.aload_n 1, 1) := by decide +kernel
theorem d_wh_copy_9 : decode b_wh_copy 9 = .ok (.getfield 9, 3) := by decide +kernel
theorem d_wh_copy_12 : decode b_wh_copy 12 = .ok (.iconst 0, 1) := by decide +kernel
theorem d_wh_copy_13 : decode b_wh_copy 13 = .ok (.aload_n 0, 1) := by decide +kernel
theorem d_wh_copy_14 : decode b_wh_copy 14 = .ok (.getfield 9, 3) := by decide +kernel
theorem d_wh_copy_17 : decode b_wh_copy 17 = .ok (.iconst 0, 1) := by decide +kernel
theorem d_wh_copy_18 : decode b_wh_copy 18 = .ok (.aload_n 0, 1) := by decide +kernel
theorem d_wh_copy_19 : decode b_wh_copy 19 = .ok (.getfield 15, 3) := by decide +kernel
theorem d_wh_copy_22 : decode b_wh_copy 22 = .ok (.invokestatic 19, 3) := by decide +kernel
theorem d_wh_copy_25 : decode b_wh_copy 25 = .ok (.return_, 1) := by decide +kernel
theorem d_wh_isZero_0 : decode b_wh_isZero 0 = .ok (.aload_n 0, 1) := by decide +kernel
theorem d_wh_isZero_1 : decode b_wh_isZero 1 = .ok (.getfield 15, 3) := by decide +kernel
theorem d_wh_isZero_4 : decode b_wh_isZero 4 = .ok (.ifCond .ne 7, 3) := by decide +kernel
theorem d_wh_isZero_7 : decode b_wh_isZero 7 = .ok (.iconst 1, 1) := by decide +kernel
theorem d_wh_isZero_8 : decode b_wh_isZero 8 = .ok (.goto 4, 3) := by decide +kernel
theorem d_wh_isZero_11 : decode b_wh_isZero 11 = .ok (.iconst 0, 1) := by decide +kernel
theorem d_wh_isZero_12 : decode b_wh_isZero 12 = .ok (.ireturn, 1) := by decide +kernel
theorem d_wh_isOne_0 : decode b_wh_isOne 0 = .ok (.aload_n 0, 1) := by decide +kernel
theorem d_wh_isOne_1 : decode b_wh_isOne 1 = .ok (.getfield 15, 3) := by decide +kernel
theorem d_wh_isOne_4 : decode b_wh_isOne 4 = .ok (.iconst 1, 1) := by decide +kernel
theorem d_wh_isOne_5 : decode b_wh_isOne 5 = .ok (.if_icmp .ne 17, 3) := by decide +kernel
theorem d_wh_isOne_8 : decode b_wh_isOne 8 = .ok (.aload_n 0, 1) := by decide +kernel
theorem d_wh_isOne_9 : decode b_wh_isOne 9 = .ok (.getfield 9, 3) := by decide +kernel
theorem d_wh_isOne_12 : decode b_wh_isOne 12 = .ok (.iconst 0, 1) := by decide +kernel
theorem d_wh_isOne_13 : decode b_wh_isOne 13 = .ok (.iaload, 1) := by decide +kernel
theorem d_wh_isOne_14 : decode b_wh_isOne 14 = .ok (.iconst 1, 1) := by decide +kernel
theorem d_wh_isOne_15 : decode b_wh_isOne 15 = .ok (.if_icmp .ne 7, 3) := by decide +kernel
theorem d_wh_isOne_18 : decode b_wh_isOne 18 = .ok (.iconst 1, 1) := by decide +kernel
theorem d_wh_isOne_19 : decode b_wh_isOne 19 = .ok (.goto 4, 3) := by decide +kernel
theorem d_wh_isOne_22 : decode b_wh_isOne 22 = .ok (.iconst 0, 1) := by decide +kernel
theorem d_wh_isOne_23 : decode b_wh_isOne 23 = .ok (.ireturn, 1) := by decide +kernel
theorem d_wh_isTooLarge_0 : decode b_wh_isTooLarge 0 = .ok (.aload_n 0, 1) := by decide +kernel
theorem d_wh_isTooLarge_1 : decode b_wh_isTooLarge 1 = .ok (.getfield 15, 3) := by decide +kernel
theorem d_wh_isTooLarge_4 : decode b_wh_isTooLarge 4 = .ok (.bipush 8, 2) := by decide +kernel
theorem d_wh_isTooLarge_6 : decode b_wh_isTooLarge 6 = .ok (.if_icmp .le 7, 3) := by decide +kernel
theorem d_wh_isTooLarge_9 : decode b_wh_isTooLarge 9 = .ok (.iconst 1, 1) := by decide +kernel
theorem d_wh_isTooLarge_10 : decode b_wh_isTooLarge 10 = .ok (.goto 4, 3) := by decide +kernel
theorem d_wh_isTooLarge_13 : decode b_wh_isTooLarge 13 = .ok (.iconst 0, 1) := by decide +kernel
theorem d_wh_isTooLarge_14 : decode b_wh_isTooLarge 14 = .ok (.ireturn, 1) := by decide +kernel
theorem d_wh_limb_0 : decode b_wh_limb 0 = .ok (.iload_n 1, 1) := by decide +kernel
theorem d_wh_limb_1 : decode b_wh_limb 1 = .ok (.ifCond .lt 20, 3) := by decide +kernel
theorem d_wh_limb_4 : decode b_wh_limb 4 = .ok (.iload_n 1, 1) := by decide +kernel
theorem d_wh_limb_5 : decode b_wh_limb 5 = .ok (.aload_n 0, 1) := by decide +kernel
theorem d_wh_limb_6 : decode b_wh_limb 6 = .ok (.getfield 15, 3) := by decide +kernel
theorem d_wh_limb_9 : decode b_wh_limb 9 = .ok (.if_icmp .ge 12, 3) := by decide +kernel
theorem d_wh_limb_12 : decode b_wh_limb 12 = .ok (.aload_n 0, 1) := by decide +kernel
theorem d_wh_limb_13 : decode b_wh_limb 13 = .ok (.getfield 9, 3) := by decide +kernel
theorem d_wh_limb_16 : decode b_wh_limb 16 = .ok (.iload_n 1, 1) := by decide +kernel
theorem d_wh_limb_17 : decode b_wh_limb 17 = .ok (.iaload, 1) := by decide +kernel
theorem d_wh_limb_18 : decode b_wh_limb 18 = .ok (.goto 4, 3) := by decide +kernel
theorem d_wh_limb_21 : decode b_wh_limb 21 = .ok (.iconst 0, 1) := by decide +kernel
theorem d_wh_limb_22 : decode b_wh_limb 22 = .ok (.ireturn, 1) := by decide +kernel
theorem d_wh_word_0 : decode b_wh_word 0 = .ok (.iload_n 1, 1) := by decide +kernel
theorem d_wh_word_1 : decode b_wh_word 1 = .ok (.ifCond .lt 9, 3) := by decide +kernel
theorem d_wh_word_4 : decode b_wh_word 4 = .ok (.iload_n 1, 1) := by decide +kernel
theorem d_wh_word_5 : decode b_wh_word 5 = .ok (.bipush 8, 2) := by decide +kernel
theorem d_wh_word_7 : decode b_wh_word 7 = .ok (.if_icmp .lt 5, 3) := by decide +kernel
theorem d_wh_word_10 : decode b_wh_word 10 = .ok (.iconst 0, 1) := by decide +kernel
theorem d_wh_word_11 : decode b_wh_word 11 = .ok (.ireturn, 1) := by decide +kernel
theorem d_wh_word_12 : decode b_wh_word 12 = .ok (.bipush 32, 2) := by decide +kernel
theorem d_wh_word_14 : decode b_wh_word 14 = .ok (.iload_n 1, 1) := by decide +kernel
theorem d_wh_word_15 : decode b_wh_word 15 = .ok (.imul, 1) := by decide +kernel
theorem d_wh_word_16 : decode b_wh_word 16 = .ok (.bipush 30, 2) := by decide +kernel
theorem d_wh_word_18 : decode b_wh_word 18 = .ok (.idiv, 1) := by decide +kernel
theorem d_wh_word_19 : decode b_wh_word 19 = .ok (.istore_n 2, 1) := by decide +kernel
theorem d_wh_word_20 : decode b_wh_word 20 = .ok (.aload_n 0, 1) := by decide +kernel
theorem d_wh_word_21 : decode b_wh_word 21 = .ok (.iload_n 2, 1) := by decide +kernel
theorem d_wh_word_22 : decode b_wh_word 22 = .ok (.invokevirtual 25, 3) := by decide +kernel
theorem d_wh_word_25 : decode b_wh_word 25 = .ok (.i2l, 1) := by decide +kernel
theorem d_wh_word_26 : decode b_wh_word 26 = .ok (.aload_n 0, 1) := by decide +kernel
theorem d_wh_word_27 : decode b_wh_word 27 = .ok (.iload_n 2, 1) := by decide +kernel
theorem d_wh_word_28 : decode b_wh_word 28 = .ok (.iconst 1, 1) := by decide +kernel
theorem d_wh_word_29 : decode b_wh_word 29 = .ok (.iadd, 1) := by decide +kernel
theorem d_wh_word_30 : decode b_wh_word 30 = .ok (.invokevirtual 25, 3) := by decide +kernel
theorem d_wh_word_33 : decode b_wh_word 33 = .ok (.i2l, 1) := by decide +kernel
theorem d_wh_word_34 : decode b_wh_word 34 = .ok (.bipush 30, 2) := by decide +kernel
theorem d_wh_word_36 : decode b_wh_word 36 = .ok (.lshl, 1) := by decide +kernel
theorem d_wh_word_37 : decode b_wh_word 37 = .ok (.lor, 1) := by decide +kernel
theorem d_wh_word_38 : decode b_wh_word 38 = .ok (.lstore_n 3, 1) := by decide +kernel
theorem d_wh_word_39 : decode b_wh_word 39 = .ok (.lload_n 3, 1) := by decide +kernel
theorem d_wh_word_40 : decode b_wh_word 40 = .ok (.bipush 32, 2) := by decide +kernel
theorem d_wh_word_42 : decode b_wh_word 42 = .ok (.iload_n 1, 1) := by decide +kernel
theorem d_wh_word_43 : decode b_wh_word 43 = .ok (.imul, 1) := by decide +kernel
theorem d_wh_word_44 : decode b_wh_word 44 = .ok (.bipush 30, 2) := by decide +kernel
theorem d_wh_word_46 : decode b_wh_word 46 = .ok (.irem, 1) := by decide +kernel
theorem d_wh_word_47 : decode b_wh_word 47 = .ok (.lushr, 1) := by decide +kernel
theorem d_wh_word_48 : decode b_wh_word 48 = .ok (.l2i, 1) := by decide +kernel
theorem d_wh_word_49 : decode b_wh_word 49 = .ok (.ireturn, 1) := by decide +kernel
theorem d_wh_compare_0 : decode b_wh_compare 0 = .ok (.aload_n 0, 1) := by decide +kernel
theorem d_wh_compare_1 : decode b_wh_compare 1 = .ok (.getfield 15, 3) := by decide +kernel
theorem d_wh_compare_4 : decode b_wh_compare 4 = .ok (.aload_n 1, 1) := by decide +kernel
theorem d_wh_compare_5 : decode b_wh_compare 5 = .ok (.getfield 15, 3) := by decide +kernel
theorem d_wh_compare_8 : decode b_wh_compare 8 = .ok (.if_icmp .eq 20, 3) := by decide +kernel
theorem d_wh_compare_11 : decode b_wh_compare 11 = .ok (.aload_n 0, 1) := by decide +kernel
theorem d_wh_compare_12 : decode b_wh_compare 12 = .ok (.getfield 15, 3) := by decide +kernel
theorem d_wh_compare_15 : decode b_wh_compare 15 = .ok (.aload_n 1, 1) := by decide +kernel
theorem d_wh_compare_16 : decode b_wh_compare 16 = .ok (.getfield 15, 3) := by decide +kernel
theorem d_wh_compare_19 : decode b_wh_compare 19 = .ok (.if_icmp .ge 7, 3) := by decide +kernel
theorem d_wh_compare_22 : decode b_wh_compare 22 = .ok (.iconst (-1), 1) := by decide +kernel
theorem d_wh_compare_23 : decode b_wh_compare 23 = .ok (.goto 4, 3) := by decide +kernel
theorem d_wh_compare_26 : decode b_wh_compare 26 = .ok (.iconst 1, 1) := by decide +kernel
theorem d_wh_compare_27 : decode b_wh_compare 27 = .ok (.ireturn, 1) := by decide +kernel
theorem d_wh_compare_28 : decode b_wh_compare 28 = .ok (.aload_n 0, 1) := by decide +kernel
theorem d_wh_compare_29 : decode b_wh_compare 29 = .ok (.getfield 15, 3) := by decide +kernel
theorem d_wh_compare_32 : decode b_wh_compare 32 = .ok (.iconst 1, 1) := by decide +kernel
theorem d_wh_compare_33 : decode b_wh_compare 33 = .ok (.isub, 1) := by decide +kernel
theorem d_wh_compare_34 : decode b_wh_compare 34 = .ok (.istore_n 2, 1) := by decide +kernel
theorem d_wh_compare_35 : decode b_wh_compare 35 = .ok (.iload_n 2, 1) := by decide +kernel
theorem d_wh_compare_36 : decode b_wh_compare 36 = .ok (.ifCond .lt 45, 3) := by decide +kernel
theorem d_wh_compare_39 : decode b_wh_compare 39 = .ok (.aload_n 0, 1) := by decide +kernel
theorem d_wh_compare_40 : decode b_wh_compare 40 = .ok (.getfield 9, 3) := by decide +kernel
theorem d_wh_compare_43 : decode b_wh_compare 43 = .ok (.iload_n 2, 1) := by decide +kernel
theorem d_wh_compare_44 : decode b_wh_compare 44 = .ok (.iaload, 1) := by decide +kernel
theorem d_wh_compare_45 : decode b_wh_compare 45 = .ok (.aload_n 1, 1) := by decide +kernel
theorem d_wh_compare_46 : decode b_wh_compare 46 = .ok (.getfield 9, 3) := by decide +kernel
theorem d_wh_compare_49 : decode b_wh_compare 49 = .ok (.iload_n 2, 1) := by decide +kernel
theorem d_wh_compare_50 : decode b_wh_compare 50 = .ok (.iaload, 1) := by decide +kernel
theorem d_wh_compare_51 : decode b_wh_compare 51 = .ok (.if_icmp .eq 24, 3) := by decide +kernel
theorem d_wh_compare_54 : decode b_wh_compare 54 = .ok (.aload_n 0, 1) := by decide +kernel
theorem d_wh_compare_55 : decode b_wh_compare 55 = .ok (.getfield 9, 3) := by decide +kernel
theorem d_wh_compare_58 : decode b_wh_compare 58 = .ok (.iload_n 2, 1) := by decide +kernel
theorem d_wh_compare_59 : decode b_wh_compare 59 = .ok (.iaload, 1) := by decide +kernel
theorem d_wh_compare_60 : decode b_wh_compare 60 = .ok (.aload_n 1, 1) := by decide +kernel
theorem d_wh_compare_61 : decode b_wh_compare 61 = .ok (.getfield 9, 3) := by decide +kernel
theorem d_wh_compare_64 : decode b_wh_compare 64 = .ok (.iload_n 2, 1) := by decide +kernel
theorem d_wh_compare_65 : decode b_wh_compare 65 = .ok (.iaload, 1) := by decide +kernel
theorem d_wh_compare_66 : decode b_wh_compare 66 = .ok (.if_icmp .ge 7, 3) := by decide +kernel
theorem d_wh_compare_69 : decode b_wh_compare 69 = .ok (.iconst (-1), 1) := by decide +kernel
theorem d_wh_compare_70 : decode b_wh_compare 70 = .ok (.goto 4, 3) := by decide +kernel
theorem d_wh_compare_73 : decode b_wh_compare 73 = .ok (.iconst 1, 1) := by decide +kernel
theorem d_wh_compare_74 : decode b_wh_compare 74 = .ok (.ireturn, 1) := by decide +kernel
theorem d_wh_compare_75 : decode b_wh_compare 75 = .ok (.iinc 2 (-1), 3) := by decide +kernel
theorem d_wh_compare_78 : decode b_wh_compare 78 = .ok (.goto (-43), 3) := by decide +kernel
theorem d_wh_compare_81 : decode b_wh_compare 81 = .ok (.iconst 0, 1) := by decide +kernel
theorem d_wh_compare_82 : decode b_wh_compare 82 = .ok (.ireturn, 1) := by decide +kernel
theorem d_wh_add_0 : decode b_wh_add 0 = .ok (.aload_n 0, 1) := by decide +kernel
theorem d_wh_add_1 : decode b_wh_add 1 = .ok (.getfield 15, 3) := by decide +kernel
theorem d_wh_add_4 : decode b_wh_add 4 = .ok (.aload_n 1, 1) := by decide +kernel
theorem d_wh_add_5 : decode b_wh_add 5 = .ok (.getfield 15, 3) := by decide +kernel
theorem d_wh_add_8 : decode b_wh_add 8 = .ok (.invokestatic 29, 3) := by decide +kernel
theorem d_wh_add_11 : decode b_wh_add 11 = .ok (.istore_n 2, 1) := by decide +kernel
theorem d_wh_add_12 : decode b_wh_add 12 = .ok (.iconst 0, 1) := by decide +kernel
theorem d_wh_add_13 : decode b_wh_add 13 = .ok (.istore_n 3, 1) := by decide +kernel
theorem d_wh_add_14 : decode b_wh_add 14 = .ok (.iconst 0, 1) := by decide +kernel
theorem d_wh_add_15 : decode b_wh_add 15 = .ok (.istore 4, 2) := by decide +kernel
theorem d_wh_add_17 : decode b_wh_add 17 = .ok (.iload 4, 2) := by decide +kernel
theorem d_wh_add_19 : decode b_wh_add 19 = .ok (.iload_n 2, 1) := by decide +kernel
theorem d_wh_add_20 : decode b_wh_add 20 = .ok (.if_icmp .ge 72, 3) := by decide +kernel
theorem d_wh_add_23 : decode b_wh_add 23 = .ok (.iload 4, 2) := by decide +kernel
theorem d_wh_add_25 : decode b_wh_add 25 = .ok (.aload_n 0, 1) := by decide +kernel
theorem d_wh_add_26 : decode b_wh_add 26 = .ok (.getfield 15, 3) := by decide +kernel
theorem d_wh_add_29 : decode b_wh_add 29 = .ok (.if_icmp .ge 13, 3) := by decide +kernel
theorem d_wh_add_32 : decode b_wh_add 32 = .ok (.aload_n 0, 1) := by decide +kernel
theorem d_wh_add_33 : decode b_wh_add 33 = .ok (.getfield 9, 3) := by decide +kernel
theorem d_wh_add_36 : decode b_wh_add 36 = .ok (.iload 4, 2) := by decide +kernel
theorem d_wh_add_38 : decode b_wh_add 38 = .ok (.iaload, 1) := by decide +kernel
theorem d_wh_add_39 : decode b_wh_add 39 = .ok (.goto 4, 3) := by decide +kernel
theorem d_wh_add_42 : decode b_wh_add 42 = .ok (.iconst 0, 1) := by decide +kernel
theorem d_wh_add_43 : decode b_wh_add 43 = .ok (.iload 4, 2) := by decide +kernel
theorem d_wh_add_45 : decode b_wh_add 45 = .ok (.aload_n 1, 1) := by decide +kernel
theorem d_wh_add_46 : decode b_wh_add 46 = .ok (.getfield 15, 3) := by decide +kernel
theorem d_wh_add_49 : decode b_wh_add 49 = .ok (.if_icmp .ge 13, 3) := by decide +kernel
theorem d_wh_add_52 : decode b_wh_add 52 = .ok (.aload_n 1, 1) := by decide +kernel
theorem d_wh_add_53 : decode b_wh_add 53 = .ok (.getfield 9, 3) := by decide +kernel
theorem d_wh_add_56 : decode b_wh_add 56 = .ok (.iload 4, 2) := by decide +kernel
theorem d_wh_add_58 : decode b_wh_add 58 = .ok (.iaload, 1) := by decide +kernel
theorem d_wh_add_59 : decode b_wh_add 59 = .ok (.goto 4, 3) := by decide +kernel
theorem d_wh_add_62 : decode b_wh_add 62 = .ok (.iconst 0, 1) := by decide +kernel
theorem d_wh_add_63 : decode b_wh_add 63 = .ok (.iadd, 1) := by decide +kernel
theorem d_wh_add_64 : decode b_wh_add 64 = .ok (.iload_n 3, 1) := by decide +kernel
theorem d_wh_add_65 : decode b_wh_add 65 = .ok (.iadd, 1) := by decide +kernel
theorem d_wh_add_66 : decode b_wh_add 66 = .ok (.istore 5, 2) := by decide +kernel
theorem d_wh_add_68 : decode b_wh_add 68 = .ok (.aload_n 0, 1) := by decide +kernel
theorem d_wh_add_69 : decode b_wh_add 69 = .ok (.getfield 9, 3) := by decide +kernel
theorem d_wh_add_72 : decode b_wh_add 72 = .ok (.iload 4, 2) := by decide +kernel
theorem d_wh_add_74 : decode b_wh_add 74 = .ok (.iload 5, 2) := by decide +kernel
theorem d_wh_add_76 : decode b_wh_add 76 = .ok (.ldc 35, 2) := by decide +kernel
theorem d_wh_add_78 : decode b_wh_add 78 = .ok (.iand, 1) := by decide +kernel
theorem d_wh_add_79 : decode b_wh_add 79 = .ok (.iastore, 1) := by decide +kernel
theorem d_wh_add_80 : decode b_wh_add 80 = .ok (.iload 5, 2) := by decide +kernel
theorem d_wh_add_82 : decode b_wh_add 82 = .ok (.bipush 30, 2) := by decide +kernel
theorem d_wh_add_84 : decode b_wh_add 84 = .ok (.iushr, 1) := by decide +kernel
theorem d_wh_add_85 : decode b_wh_add 85 = .ok (.istore_n 3, 1) := by decide +kernel
theorem d_wh_add_86 : decode b_wh_add 86 = .ok (.iinc 4 1, 3) := by decide +kernel
theorem d_wh_add_89 : decode b_wh_add 89 = .ok (.goto (-72), 3) := by decide +kernel
theorem d_wh_add_92 : decode b_wh_add 92 = .ok (.aload_n 0, 1) := by decide +kernel
theorem d_wh_add_93 : decode b_wh_add 93 = .ok (.iload_n 2, 1) := by decide +kernel
theorem d_wh_add_94 : decode b_wh_add 94 = .ok (.putfield 15, 3) := by decide +kernel
theorem d_wh_add_97 : decode b_wh_add 97 = .ok (.iload_n 3, 1) := by decide +kernel
theorem d_wh_add_98 : decode b_wh_add 98 = .ok (.ifCond .eq 23, 3) := by decide +kernel
theorem d_wh_add_101 : decode b_wh_add 101 = .ok (.aload_n 0, 1) := by decide +kernel
theorem d_wh_add_102 : decode b_wh_add 102 = .ok (.getfield 9, 3) := by decide +kernel
theorem d_wh_add_105 : decode b_wh_add 105 = .ok (.aload_n 0, 1) := by decide +kernel
theorem d_wh_add_106 : decode b_wh_add 106 = .ok (.getfield 15, 3) := by decide +kernel
theorem d_wh_add_109 : decode b_wh_add 109 = .ok (.iload_n 3, 1) := by decide +kernel
theorem d_wh_add_110 : decode b_wh_add 110 = .ok (.iastore, 1) := by decide +kernel
theorem d_wh_add_111 : decode b_wh_add 111 = .ok (.aload_n 0, 1) := by decide +kernel
theorem d_wh_add_112 : decode b_wh_add 112 = .ok (.dup, 1) := by decide +kernel
theorem d_wh_add_113 : decode b_wh_add 113 = .ok (.getfield 15, 3) := by decide +kernel
theorem d_wh_add_116 : decode b_wh_add 116 = .ok (.iconst 1, 1) := by decide +kernel
theorem d_wh_add_117 : decode b_wh_add 117 = .ok (.iadd, 1) := by decide +kernel
theorem d_wh_add_118 : decode b_wh_add 118 = .ok (.putfield 15, 3) := by decide +kernel
theorem d_wh_add_121 : decode b_wh_add 121 = .ok (.return_, 1) := by decide +kernel
theorem d_wh_subtract_0 : decode b_wh_subtract 0 = .ok (.iconst 0, 1) := by decide +kernel
theorem d_wh_subtract_1 : decode b_wh_subtract 1 = .ok (.istore_n 2, 1) := by decide +kernel
theorem d_wh_subtract_2 : decode b_wh_subtract 2 = .ok (.iconst 0, 1) := by decide +kernel
theorem d_wh_subtract_3 : decode b_wh_subtract 3 = .ok (.istore_n 3, 1) := by decide +kernel
theorem d_wh_subtract_4 : decode b_wh_subtract 4 = .ok (.iload_n 3, 1) := by decide +kernel
theorem d_wh_subtract_5 : decode b_wh_subtract 5 = .ok (.aload_n 0, 1) := by decide +kernel
theorem d_wh_subtract_6 : decode b_wh_subtract 6 = .ok (.getfield 15, 3) := by decide +kernel
theorem d_wh_subtract_9 : decode b_wh_subtract 9 = .ok (.if_icmp .ge 60, 3) := by decide +kernel
theorem d_wh_subtract_12 : decode b_wh_subtract 12 = .ok (.aload_n 0, 1) := by decide +kernel
theorem d_wh_subtract_13 : decode b_wh_subtract 13 = .ok (.getfield 9, 3) := by decide +kernel
theorem d_wh_subtract_16 : decode b_wh_subtract 16 = .ok (.iload_n 3, 1) := by decide +kernel
theorem d_wh_subtract_17 : decode b_wh_subtract 17 = .ok (.iaload, 1) := by decide +kernel
theorem d_wh_subtract_18 : decode b_wh_subtract 18 = .ok (.iload_n 3, 1) := by decide +kernel
theorem d_wh_subtract_19 : decode b_wh_subtract 19 = .ok (.aload_n 1, 1) := by decide +kernel
theorem d_wh_subtract_20 : decode b_wh_subtract 20 = .ok (.getfield 15, 3) := by decide +kernel
theorem d_wh_subtract_23 : decode b_wh_subtract 23 = .ok (.if_icmp .ge 12, 3) := by decide +kernel
theorem d_wh_subtract_26 : decode b_wh_subtract 26 = .ok (.aload_n 1, 1) := by decide +kernel
theorem d_wh_subtract_27 : decode b_wh_subtract 27 = .ok (.getfield 9, 3) := by decide +kernel
theorem d_wh_subtract_30 : decode b_wh_subtract 30 = .ok (.iload_n 3, 1) := by decide +kernel
theorem d_wh_subtract_31 : decode b_wh_subtract 31 = .ok (.iaload, 1) := by decide +kernel
theorem d_wh_subtract_32 : decode b_wh_subtract 32 = .ok (.goto 4, 3) := by decide +kernel
theorem d_wh_subtract_35 : decode b_wh_subtract 35 = .ok (.iconst 0, 1) := by decide +kernel
theorem d_wh_subtract_36 : decode b_wh_subtract 36 = .ok (.isub, 1) := by decide +kernel
theorem d_wh_subtract_37 : decode b_wh_subtract 37 = .ok (.iload_n 2, 1) := by decide +kernel
theorem d_wh_subtract_38 : decode b_wh_subtract 38 = .ok (.isub, 1) := by decide +kernel
theorem d_wh_subtract_39 : decode b_wh_subtract 39 = .ok (.istore 4, 2) := by decide +kernel
theorem d_wh_subtract_41 : decode b_wh_subtract 41 = .ok (.aload_n 0, 1) := by decide +kernel
theorem d_wh_subtract_42 : decode b_wh_subtract 42 = .ok (.getfield 9, 3) := by decide +kernel
theorem d_wh_subtract_45 : decode b_wh_subtract 45 = .ok (.iload_n 3, 1) := by decide +kernel
theorem d_wh_subtract_46 : decode b_wh_subtract 46 = .ok (.iload 4, 2) := by decide +kernel
theorem d_wh_subtract_48 : decode b_wh_subtract 48 = .ok (.ldc 35, 2) := by decide +kernel
theorem d_wh_subtract_50 : decode b_wh_subtract 50 = .ok (.iand, 1) := by decide +kernel
theorem d_wh_subtract_51 : decode b_wh_subtract 51 = .ok (.iastore, 1) := by decide +kernel
theorem d_wh_subtract_52 : decode b_wh_subtract 52 = .ok (.iload 4, 2) := by decide +kernel
theorem d_wh_subtract_54 : decode b_wh_subtract 54 = .ok (.ifCond .ge 7, 3) := by decide +kernel
theorem d_wh_subtract_57 : decode b_wh_subtract 57 = .ok (.iconst 1, 1) := by decide +kernel
theorem d_wh_subtract_58 : decode b_wh_subtract 58 = .ok (.goto 4, 3) := by decide +kernel
theorem d_wh_subtract_61 : decode b_wh_subtract 61 = .ok (.iconst 0, 1) := by decide +kernel
theorem d_wh_subtract_62 : decode b_wh_subtract 62 = .ok (.istore_n 2, 1) := by decide +kernel
theorem d_wh_subtract_63 : decode b_wh_subtract 63 = .ok (.iinc 3 1, 3) := by decide +kernel
theorem d_wh_subtract_66 : decode b_wh_subtract 66 = .ok (.goto (-62), 3) := by decide +kernel
theorem d_wh_subtract_69 : decode b_wh_subtract 69 = .ok (.aload_n 0, 1) := by decide +kernel
theorem d_wh_subtract_70 : decode b_wh_subtract 70 = .ok (.aload_n 0, 1) := by decide +kernel
theorem d_wh_subtract_71 : decode b_wh_subtract 71 = .ok (.getfield 15, 3) := by decide +kernel
theorem d_wh_subtract_74 : decode b_wh_subtract 74 = .ok (.invokevirtual 36, 3) := by decide +kernel
theorem d_wh_subtract_77 : decode b_wh_subtract 77 = .ok (.return_, 1) := by decide +kernel
theorem d_wh_becomeProduct_0 : decode b_wh_becomeProduct 0 = .ok (.iconst 0, 1) := by decide +kernel
theorem d_wh_becomeProduct_1 : decode b_wh_becomeProduct 1 = .ok (.istore_n 3, 1) := by decide +kernel
theorem d_wh_becomeProduct_2 : decode b_wh_becomeProduct 2 = .ok (.iload_n 3, 1) := by decide +kernel
theorem d_wh_becomeProduct_3 : decode b_wh_becomeProduct 3 = .ok (.aload_n 1, 1) := by decide +kernel
theorem d_wh_becomeProduct_4 : decode b_wh_becomeProduct 4 = .ok (.getfield 15, 3) := by decide +kernel
theorem d_wh_becomeProduct_7 : decode b_wh_becomeProduct 7 = .ok (.aload_n 2, 1) := by decide +kernel
theorem d_wh_becomeProduct_8 : decode b_wh_becomeProduct 8 = .ok (.getfield 15, 3) := by decide +kernel
theorem d_wh_becomeProduct_11 : decode b_wh_becomeProduct 11 = .ok (.iadd, 1) := by decide +kernel
theorem d_wh_becomeProduct_12 : decode b_wh_becomeProduct 12 = .ok (.if_icmp .ge 16, 3) := by decide +kernel
theorem d_wh_becomeProduct_15 : decode b_wh_becomeProduct 15 = .ok (.aload_n 0, 1) := by decide +kernel
theorem d_wh_becomeProduct_16 : decode b_wh_becomeProduct 16 = .ok (.getfield 9, 3) := by decide +kernel
theorem d_wh_becomeProduct_19 : decode b_wh_becomeProduct 19 = .ok (.iload_n 3, 1) := by decide +kernel
theorem d_wh_becomeProduct_20 : decode b_wh_becomeProduct 20 = .ok (.iconst 0, 1) := by decide +kernel
theorem d_wh_becomeProduct_21 : decode b_wh_becomeProduct 21 = .ok (.iastore, 1) := by decide +kernel
theorem d_wh_becomeProduct_22 : decode b_wh_becomeProduct 22 = .ok (.iinc 3 1, 3) := by decide +kernel
theorem d_wh_becomeProduct_25 : decode b_wh_becomeProduct 25 = .ok (.goto (-23), 3) := by decide +kernel
theorem d_wh_becomeProduct_28 : decode b_wh_becomeProduct 28 = .ok (.iconst 0, 1) := by decide +kernel
theorem d_wh_becomeProduct_29 : decode b_wh_becomeProduct 29 = .ok (.istore_n 3, 1) := by decide +kernel
theorem d_wh_becomeProduct_30 : decode b_wh_becomeProduct 30 = .ok (.iload_n 3, 1) := by decide +kernel
theorem d_wh_becomeProduct_31 : decode b_wh_becomeProduct 31 = .ok (.aload_n 1, 1) := by decide +kernel
theorem d_wh_becomeProduct_32 : decode b_wh_becomeProduct 32 = .ok (.getfield 15, 3) := by decide +kernel
theorem d_wh_becomeProduct_35 : decode b_wh_becomeProduct 35 = .ok (.if_icmp .ge 103, 3) := by decide +kernel
theorem d_wh_becomeProduct_38 : decode b_wh_becomeProduct 38 = .ok (.aload_n 1, 1) := by decide +kernel
theorem d_wh_becomeProduct_39 : decode b_wh_becomeProduct 39 = .ok (.getfield 9, 3) := by decide +kernel
theorem d_wh_becomeProduct_42 : decode b_wh_becomeProduct 42 = .ok (.iload_n 3, 1) := by decide +kernel
theorem d_wh_becomeProduct_43 : decode b_wh_becomeProduct 43 = .ok (.iaload, 1) := by decide +kernel
theorem d_wh_becomeProduct_44 : decode b_wh_becomeProduct 44 = .ok (.i2l, 1) := by decide +kernel
theorem d_wh_becomeProduct_45 : decode b_wh_becomeProduct 45 = .ok (.lstore 4, 2) := by decide +kernel
theorem d_wh_becomeProduct_47 : decode b_wh_becomeProduct 47 = .ok (.lconst 0, 1) := by decide +kernel
theorem d_wh_becomeProduct_48 : decode b_wh_becomeProduct 48 = .ok (.lstore 6, 2) := by decide +kernel
theorem d_wh_becomeProduct_50 : decode b_wh_becomeProduct 50 = .ok (.iconst 0, 1) := by decide +kernel
theorem d_wh_becomeProduct_51 : decode b_wh_becomeProduct 51 = .ok (.istore 8, 2) := by decide +kernel
theorem d_wh_becomeProduct_53 : decode b_wh_becomeProduct 53 = .ok (.iload 8, 2) := by decide +kernel
theorem d_wh_becomeProduct_55 : decode b_wh_becomeProduct 55 = .ok (.aload_n 2, 1) := by decide +kernel
theorem d_wh_becomeProduct_56 : decode b_wh_becomeProduct 56 = .ok (.getfield 15, 3) := by decide +kernel
theorem d_wh_becomeProduct_59 : decode b_wh_becomeProduct 59 = .ok (.if_icmp .ge 59, 3) := by decide +kernel
theorem d_wh_becomeProduct_62 : decode b_wh_becomeProduct 62 = .ok (.lload 4, 2) := by decide +kernel
theorem d_wh_becomeProduct_64 : decode b_wh_becomeProduct 64 = .ok (.aload_n 2, 1) := by decide +kernel
theorem d_wh_becomeProduct_65 : decode b_wh_becomeProduct 65 = .ok (.getfield 9, 3) := by decide +kernel
theorem d_wh_becomeProduct_68 : decode b_wh_becomeProduct 68 = .ok (.iload 8, 2) := by decide +kernel
theorem d_wh_becomeProduct_70 : decode b_wh_becomeProduct 70 = .ok (.iaload, 1) := by decide +kernel
theorem d_wh_becomeProduct_71 : decode b_wh_becomeProduct 71 = .ok (.i2l, 1) := by decide +kernel
theorem d_wh_becomeProduct_72 : decode b_wh_becomeProduct 72 = .ok (.lmul, 1) := by decide +kernel
theorem d_wh_becomeProduct_73 : decode b_wh_becomeProduct 73 = .ok (.aload_n 0, 1) := by decide +kernel
theorem d_wh_becomeProduct_74 : decode b_wh_becomeProduct 74 = .ok (.getfield 9, 3) := by decide +kernel
theorem d_wh_becomeProduct_77 : decode b_wh_becomeProduct 77 = .ok (.iload_n 3, 1) := by decide +kernel
theorem d_wh_becomeProduct_78 : decode b_wh_becomeProduct 78 = .ok (.iload 8, 2) := by decide +kernel
theorem d_wh_becomeProduct_80 : decode b_wh_becomeProduct 80 = .ok (.iadd, 1) := by decide +kernel
theorem d_wh_becomeProduct_81 : decode b_wh_becomeProduct 81 = .ok (.iaload, 1) := by decide +kernel
theorem d_wh_becomeProduct_82 : decode b_wh_becomeProduct 82 = .ok (.i2l, 1) := by decide +kernel
theorem d_wh_becomeProduct_83 : decode b_wh_becomeProduct 83 = .ok (.ladd, 1) := by decide +kernel
theorem d_wh_becomeProduct_84 : decode b_wh_becomeProduct 84 = .ok (.lload 6, 2) := by decide +kernel
theorem d_wh_becomeProduct_86 : decode b_wh_becomeProduct 86 = .ok (.ladd, 1) := by decide +kernel
theorem d_wh_becomeProduct_87 : decode b_wh_becomeProduct 87 = .ok (.lstore 9, 2) := by decide +kernel
theorem d_wh_becomeProduct_89 : decode b_wh_becomeProduct 89 = .ok (.aload_n 0, 1) := by decide +kernel
theorem d_wh_becomeProduct_90 : decode b_wh_becomeProduct 90 = .ok (.getfield 9, 3) := by decide +kernel
theorem d_wh_becomeProduct_93 : decode b_wh_becomeProduct 93 = .ok (.iload_n 3, 1) := by decide +kernel
theorem d_wh_becomeProduct_94 : decode b_wh_becomeProduct 94 = .ok (.iload 8, 2) := by decide +kernel
theorem d_wh_becomeProduct_96 : decode b_wh_becomeProduct 96 = .ok (.iadd, 1) := by decide +kernel
theorem d_wh_becomeProduct_97 : decode b_wh_becomeProduct 97 = .ok (.lload 9, 2) := by decide +kernel
theorem d_wh_becomeProduct_99 : decode b_wh_becomeProduct 99 = .ok (.ldc2_w 40, 3) := by decide +kernel
theorem d_wh_becomeProduct_102 : decode b_wh_becomeProduct 102 = .ok (.land, 1) := by decide +kernel
theorem d_wh_becomeProduct_103 : decode b_wh_becomeProduct 103 = .ok (.l2i, 1) := by decide +kernel
theorem d_wh_becomeProduct_104 : decode b_wh_becomeProduct 104 = .ok (.iastore, 1) := by decide +kernel
theorem d_wh_becomeProduct_105 : decode b_wh_becomeProduct 105 = .ok (.lload 9, 2) := by decide +kernel
theorem d_wh_becomeProduct_107 : decode b_wh_becomeProduct 107 = .ok (.bipush 30, 2) := by decide +kernel
theorem d_wh_becomeProduct_109 : decode b_wh_becomeProduct 109 = .ok (.lushr, 1) := by decide +kernel
theorem d_wh_becomeProduct_110 : decode b_wh_becomeProduct 110 = .ok (.lstore 6, 2) := by decide +kernel
theorem d_wh_becomeProduct_112 : decode b_wh_becomeProduct 112 = .ok (.iinc 8 1, 3) := by decide +kernel
theorem d_wh_becomeProduct_115 : decode b_wh_becomeProduct 115 = .ok (.goto (-62), 3) := by decide +kernel
theorem d_wh_becomeProduct_118 : decode b_wh_becomeProduct 118 = .ok (.aload_n 0, 1) := by decide +kernel
theorem d_wh_becomeProduct_119 : decode b_wh_becomeProduct 119 = .ok (.getfield 9, 3) := by decide +kernel
theorem d_wh_becomeProduct_122 : decode b_wh_becomeProduct 122 = .ok (.iload_n 3, 1) := by decide +kernel
theorem d_wh_becomeProduct_123 : decode b_wh_becomeProduct 123 = .ok (.aload_n 2, 1) := by decide +kernel
theorem d_wh_becomeProduct_124 : decode b_wh_becomeProduct 124 = .ok (.getfield 15, 3) := by decide +kernel
theorem d_wh_becomeProduct_127 : decode b_wh_becomeProduct 127 = .ok (.iadd, 1) := by decide +kernel
theorem d_wh_becomeProduct_128 : decode b_wh_becomeProduct 128 = .ok (.lload 6, 2) := by decide +kernel
theorem d_wh_becomeProduct_130 : decode b_wh_becomeProduct 130 = .ok (.l2i, 1) := by decide +kernel
theorem d_wh_becomeProduct_131 : decode b_wh_becomeProduct 131 = .ok (.iastore, 1) := by decide +kernel
theorem d_wh_becomeProduct_132 : decode b_wh_becomeProduct 132 = .ok (.iinc 3 1, 3) := by decide +kernel
theorem d_wh_becomeProduct_135 : decode b_wh_becomeProduct 135 = .ok (.goto (-105), 3) := by decide +kernel
theorem d_wh_becomeProduct_138 : decode b_wh_becomeProduct 138 = .ok (.aload_n 0, 1) := by decide +kernel
theorem d_wh_becomeProduct_139 : decode b_wh_becomeProduct 139 = .ok (.aload_n 1, 1) := by decide +kernel
theorem d_wh_becomeProduct_140 : decode b_wh_becomeProduct 140 = .ok (.getfield 15, 3) := by decide +kernel
theorem d_wh_becomeProduct_143 : decode b_wh_becomeProduct 143 = .ok (.aload_n 2, 1) := by decide +kernel
theorem d_wh_becomeProduct_144 : decode b_wh_becomeProduct 144 = .ok (.getfield 15, 3) := by decide +kernel
theorem d_wh_becomeProduct_147 : decode b_wh_becomeProduct 147 = .ok (.iadd, 1) := by decide +kernel
theorem d_wh_becomeProduct_148 : decode b_wh_becomeProduct 148 = .ok (.invokevirtual 36, 3) := by decide +kernel
theorem d_wh_becomeProduct_151 : decode b_wh_becomeProduct 151 = .ok (.return_, 1) := by decide +kernel
theorem d_wh_timesPlus_0 : decode b_wh_timesPlus 0 = .ok (.iload_n 2, 1) := by decide +kernel
theorem d_wh_timesPlus_1 : decode b_wh_timesPlus 1 = .ok (.i2l, 1) := by decide +kernel
theorem d_wh_timesPlus_2 : decode b_wh_timesPlus 2 = .ok (.lstore_n 3, 1) := by decide +kernel
theorem d_wh_timesPlus_3 : decode b_wh_timesPlus 3 = .ok (.iconst 0, 1) := by decide +kernel
theorem d_wh_timesPlus_4 : decode b_wh_timesPlus 4 = .ok (.istore 5, 2) := by decide +kernel
theorem d_wh_timesPlus_6 : decode b_wh_timesPlus 6 = .ok (.iload 5, 2) := by decide +kernel
theorem d_wh_timesPlus_8 : decode b_wh_timesPlus 8 = .ok (.aload_n 0, 1) := by decide +kernel
theorem d_wh_timesPlus_9 : decode b_wh_timesPlus 9 = .ok (.getfield 15, 3) := by decide +kernel
theorem d_wh_timesPlus_12 : decode b_wh_timesPlus 12 = .ok (.if_icmp .ge 44, 3) := by decide +kernel
theorem d_wh_timesPlus_15 : decode b_wh_timesPlus 15 = .ok (.aload_n 0, 1) := by decide +kernel
theorem d_wh_timesPlus_16 : decode b_wh_timesPlus 16 = .ok (.getfield 9, 3) := by decide +kernel
theorem d_wh_timesPlus_19 : decode b_wh_timesPlus 19 = .ok (.iload 5, 2) := by decide +kernel
theorem d_wh_timesPlus_21 : decode b_wh_timesPlus 21 = .ok (.iaload, 1) := by decide +kernel
theorem d_wh_timesPlus_22 : decode b_wh_timesPlus 22 = .ok (.i2l, 1) := by decide +kernel
theorem d_wh_timesPlus_23 : decode b_wh_timesPlus 23 = .ok (.iload_n 1, 1) := by decide +kernel
theorem d_wh_timesPlus_24 : decode b_wh_timesPlus 24 = .ok (.i2l, 1) := by decide +kernel
theorem d_wh_timesPlus_25 : decode b_wh_timesPlus 25 = .ok (.lmul, 1) := by decide +kernel
theorem d_wh_timesPlus_26 : decode b_wh_timesPlus 26 = .ok (.lload_n 3, 1) := by decide +kernel
theorem d_wh_timesPlus_27 : decode b_wh_timesPlus 27 = .ok (.ladd, 1) := by decide +kernel
theorem d_wh_timesPlus_28 : decode b_wh_timesPlus 28 = .ok (.lstore 6, 2) := by decide +kernel
theorem d_wh_timesPlus_30 : decode b_wh_timesPlus 30 = .ok (.aload_n 0, 1) := by decide +kernel
theorem d_wh_timesPlus_31 : decode b_wh_timesPlus 31 = .ok (.getfield 9, 3) := by decide +kernel
theorem d_wh_timesPlus_34 : decode b_wh_timesPlus 34 = .ok (.iload 5, 2) := by decide +kernel
theorem d_wh_timesPlus_36 : decode b_wh_timesPlus 36 = .ok (.lload 6, 2) := by decide +kernel
theorem d_wh_timesPlus_38 : decode b_wh_timesPlus 38 = .ok (.ldc2_w 40, 3) := by decide +kernel
theorem d_wh_timesPlus_41 : decode b_wh_timesPlus 41 = .ok (.land, 1) := by decide +kernel
theorem d_wh_timesPlus_42 : decode b_wh_timesPlus 42 = .ok (.l2i, 1) := by decide +kernel
theorem d_wh_timesPlus_43 : decode b_wh_timesPlus 43 = .ok (.iastore, 1) := by decide +kernel
theorem d_wh_timesPlus_44 : decode b_wh_timesPlus 44 = .ok (.lload 6, 2) := by decide +kernel
theorem d_wh_timesPlus_46 : decode b_wh_timesPlus 46 = .ok (.bipush 30, 2) := by decide +kernel
theorem d_wh_timesPlus_48 : decode b_wh_timesPlus 48 = .ok (.lushr, 1) := by decide +kernel
theorem d_wh_timesPlus_49 : decode b_wh_timesPlus 49 = .ok (.lstore_n 3, 1) := by decide +kernel
theorem d_wh_timesPlus_50 : decode b_wh_timesPlus 50 = .ok (.iinc 5 1, 3) := by decide +kernel
theorem d_wh_timesPlus_53 : decode b_wh_timesPlus 53 = .ok (.goto (-47), 3) := by decide +kernel
theorem d_wh_timesPlus_56 : decode b_wh_timesPlus 56 = .ok (.lload_n 3, 1) := by decide +kernel
theorem d_wh_timesPlus_57 : decode b_wh_timesPlus 57 = .ok (.lconst 0, 1) := by decide +kernel
theorem d_wh_timesPlus_58 : decode b_wh_timesPlus 58 = .ok (.lcmp, 1) := by decide +kernel
theorem d_wh_timesPlus_59 : decode b_wh_timesPlus 59 = .ok (.ifCond .eq 24, 3) := by decide +kernel
theorem d_wh_timesPlus_62 : decode b_wh_timesPlus 62 = .ok (.aload_n 0, 1) := by decide +kernel
theorem d_wh_timesPlus_63 : decode b_wh_timesPlus 63 = .ok (.getfield 9, 3) := by decide +kernel
theorem d_wh_timesPlus_66 : decode b_wh_timesPlus 66 = .ok (.aload_n 0, 1) := by decide +kernel
theorem d_wh_timesPlus_67 : decode b_wh_timesPlus 67 = .ok (.getfield 15, 3) := by decide +kernel
theorem d_wh_timesPlus_70 : decode b_wh_timesPlus 70 = .ok (.lload_n 3, 1) := by decide +kernel
theorem d_wh_timesPlus_71 : decode b_wh_timesPlus 71 = .ok (.l2i, 1) := by decide +kernel
theorem d_wh_timesPlus_72 : decode b_wh_timesPlus 72 = .ok (.iastore, 1) := by decide +kernel
theorem d_wh_timesPlus_73 : decode b_wh_timesPlus 73 = .ok (.aload_n 0, 1) := by decide +kernel
theorem d_wh_timesPlus_74 : decode b_wh_timesPlus 74 = .ok (.dup, 1) := by decide +kernel
theorem d_wh_timesPlus_75 : decode b_wh_timesPlus 75 = .ok (.getfield 15, 3) := by decide +kernel
theorem d_wh_timesPlus_78 : decode b_wh_timesPlus 78 = .ok (.iconst 1, 1) := by decide +kernel
theorem d_wh_timesPlus_79 : decode b_wh_timesPlus 79 = .ok (.iadd, 1) := by decide +kernel
theorem d_wh_timesPlus_80 : decode b_wh_timesPlus 80 = .ok (.putfield 15, 3) := by decide +kernel
theorem d_wh_timesPlus_83 : decode b_wh_timesPlus 83 = .ok (.return_, 1) := by decide +kernel
theorem d_wh_divideBy_0 : decode b_wh_divideBy 0 = .ok (.lconst 0, 1) := by decide +kernel
theorem d_wh_divideBy_1 : decode b_wh_divideBy 1 = .ok (.lstore_n 2, 1) := by decide +kernel
theorem d_wh_divideBy_2 : decode b_wh_divideBy 2 = .ok (.aload_n 0, 1) := by decide +kernel
theorem d_wh_divideBy_3 : decode b_wh_divideBy 3 = .ok (.getfield 15, 3) := by decide +kernel
theorem d_wh_divideBy_6 : decode b_wh_divideBy 6 = .ok (.iconst 1, 1) := by decide +kernel
theorem d_wh_divideBy_7 : decode b_wh_divideBy 7 = .ok (.isub, 1) := by decide +kernel
theorem d_wh_divideBy_8 : decode b_wh_divideBy 8 = .ok (.istore 4, 2) := by decide +kernel
theorem d_wh_divideBy_10 : decode b_wh_divideBy 10 = .ok (.iload 4, 2) := by decide +kernel
theorem d_wh_divideBy_12 : decode b_wh_divideBy 12 = .ok (.ifCond .lt 43, 3) := by decide +kernel
theorem d_wh_divideBy_15 : decode b_wh_divideBy 15 = .ok (.lload_n 2, 1) := by decide +kernel
theorem d_wh_divideBy_16 : decode b_wh_divideBy 16 = .ok (.bipush 30, 2) := by decide +kernel
theorem d_wh_divideBy_18 : decode b_wh_divideBy 18 = .ok (.lshl, 1) := by decide +kernel
theorem d_wh_divideBy_19 : decode b_wh_divideBy 19 = .ok (.aload_n 0, 1) := by decide +kernel
theorem d_wh_divideBy_20 : decode b_wh_divideBy 20 = .ok (.getfield 9, 3) := by decide +kernel
theorem d_wh_divideBy_23 : decode b_wh_divideBy 23 = .ok (.iload 4, 2) := by decide +kernel
theorem d_wh_divideBy_25 : decode b_wh_divideBy 25 = .ok (.iaload, 1) := by decide +kernel
theorem d_wh_divideBy_26 : decode b_wh_divideBy 26 = .ok (.i2l, 1) := by decide +kernel
theorem d_wh_divideBy_27 : decode b_wh_divideBy 27 = .ok (.lor, 1) := by decide +kernel
theorem d_wh_divideBy_28 : decode b_wh_divideBy 28 = .ok (.lstore 5, 2) := by decide +kernel
theorem d_wh_divideBy_30 : decode b_wh_divideBy 30 = .ok (.aload_n 0, 1) := by decide +kernel
theorem d_wh_divideBy_31 : decode b_wh_divideBy 31 = .ok (.getfield 9, 3) := by decide +kernel
theorem d_wh_divideBy_34 : decode b_wh_divideBy 34 = .ok (.iload 4, 2) := by decide +kernel
theorem d_wh_divideBy_36 : decode b_wh_divideBy 36 = .ok (.lload 5, 2) := by decide +kernel
theorem d_wh_divideBy_38 : decode b_wh_divideBy 38 = .ok (.iload_n 1, 1) := by decide +kernel
theorem d_wh_divideBy_39 : decode b_wh_divideBy 39 = .ok (.i2l, 1) := by decide +kernel
theorem d_wh_divideBy_40 : decode b_wh_divideBy 40 = .ok (.ldiv, 1) := by decide +kernel
theorem d_wh_divideBy_41 : decode b_wh_divideBy 41 = .ok (.l2i, 1) := by decide +kernel
theorem d_wh_divideBy_42 : decode b_wh_divideBy 42 = .ok (.iastore, 1) := by decide +kernel
theorem d_wh_divideBy_43 : decode b_wh_divideBy 43 = .ok (.lload 5, 2) := by decide +kernel
theorem d_wh_divideBy_45 : decode b_wh_divideBy 45 = .ok (.iload_n 1, 1) := by decide +kernel
theorem d_wh_divideBy_46 : decode b_wh_divideBy 46 = .ok (.i2l, 1) := by decide +kernel
theorem d_wh_divideBy_47 : decode b_wh_divideBy 47 = .ok (.lrem, 1) := by decide +kernel
theorem d_wh_divideBy_48 : decode b_wh_divideBy 48 = .ok (.lstore_n 2, 1) := by decide +kernel
theorem d_wh_divideBy_49 : decode b_wh_divideBy 49 = .ok (.iinc 4 (-1), 3) := by decide +kernel
theorem d_wh_divideBy_52 : decode b_wh_divideBy 52 = .ok (.goto (-42), 3) := by decide +kernel
theorem d_wh_divideBy_55 : decode b_wh_divideBy 55 = .ok (.aload_n 0, 1) := by decide +kernel
theorem d_wh_divideBy_56 : decode b_wh_divideBy 56 = .ok (.aload_n 0, 1) := by decide +kernel
theorem d_wh_divideBy_57 : decode b_wh_divideBy 57 = .ok (.getfield 15, 3) := by decide +kernel
theorem d_wh_divideBy_60 : decode b_wh_divideBy 60 = .ok (.invokevirtual 36, 3) := by decide +kernel
theorem d_wh_divideBy_63 : decode b_wh_divideBy 63 = .ok (.lload_n 2, 1) := by decide +kernel
theorem d_wh_divideBy_64 : decode b_wh_divideBy 64 = .ok (.l2i, 1) := by decide +kernel
theorem d_wh_divideBy_65 : decode b_wh_divideBy 65 = .ok (.ireturn, 1) := by decide +kernel
theorem d_wh_dropTwos_0 : decode b_wh_dropTwos 0 = .ok (.iconst 0, 1) := by decide +kernel
theorem d_wh_dropTwos_1 : decode b_wh_dropTwos 1 = .ok (.istore_n 1, 1) := by decide +kernel
theorem d_wh_dropTwos_2 : decode b_wh_dropTwos 2 = .ok (.iload_n 1, 1) := by decide +kernel
theorem d_wh_dropTwos_3 : decode b_wh_dropTwos 3 = .ok (.aload_n 0, 1) := by decide +kernel
theorem d_wh_dropTwos_4 : decode b_wh_dropTwos 4 = .ok (.getfield 15, 3) := by decide +kernel
theorem d_wh_dropTwos_7 : decode b_wh_dropTwos 7 = .ok (.iconst 1, 1) := by decide +kernel
theorem d_wh_dropTwos_8 : decode b_wh_dropTwos 8 = .ok (.isub, 1) := by decide +kernel
theorem d_wh_dropTwos_9 : decode b_wh_dropTwos 9 = .ok (.if_icmp .ge 18, 3) := by decide +kernel
theorem d_wh_dropTwos_12 : decode b_wh_dropTwos 12 = .ok (.aload_n 0, 1) := by decide +kernel
theorem d_wh_dropTwos_13 : decode b_wh_dropTwos 13 = .ok (.getfield 9, 3) := by decide +kernel
theorem d_wh_dropTwos_16 : decode b_wh_dropTwos 16 = .ok (.iload_n 1, 1) := by decide +kernel
theorem d_wh_dropTwos_17 : decode b_wh_dropTwos 17 = .ok (.iaload, 1) := by decide +kernel
theorem d_wh_dropTwos_18 : decode b_wh_dropTwos 18 = .ok (.ifCond .ne 9, 3) := by decide +kernel
theorem d_wh_dropTwos_21 : decode b_wh_dropTwos 21 = .ok (.iinc 1 1, 3) := by decide +kernel
theorem d_wh_dropTwos_24 : decode b_wh_dropTwos 24 = .ok (.goto (-22), 3) := by decide +kernel
theorem d_wh_dropTwos_27 : decode b_wh_dropTwos 27 = .ok (.aload_n 0, 1) := by decide +kernel
theorem d_wh_dropTwos_28 : decode b_wh_dropTwos 28 = .ok (.getfield 9, 3) := by decide +kernel
theorem d_wh_dropTwos_31 : decode b_wh_dropTwos 31 = .ok (.iload_n 1, 1) := by decide +kernel
theorem d_wh_dropTwos_32 : decode b_wh_dropTwos 32 = .ok (.iaload, 1) := by decide +kernel
theorem d_wh_dropTwos_33 : decode b_wh_dropTwos 33 = .ok (.aload_n 0, 1) := by decide +kernel
theorem d_wh_dropTwos_34 : decode b_wh_dropTwos 34 = .ok (.getfield 9, 3) := by decide +kernel
theorem d_wh_dropTwos_37 : decode b_wh_dropTwos 37 = .ok (.iload_n 1, 1) := by decide +kernel
theorem d_wh_dropTwos_38 : decode b_wh_dropTwos 38 = .ok (.iaload, 1) := by decide +kernel
theorem d_wh_dropTwos_39 : decode b_wh_dropTwos 39 = .ok (.ineg, 1) := by decide +kernel
theorem d_wh_dropTwos_40 : decode b_wh_dropTwos 40 = .ok (.iand, 1) := by decide +kernel
theorem d_wh_dropTwos_41 : decode b_wh_dropTwos 41 = .ok (.istore_n 2, 1) := by decide +kernel
theorem d_wh_dropTwos_42 : decode b_wh_dropTwos 42 = .ok (.iload_n 2, 1) := by decide +kernel
theorem d_wh_dropTwos_43 : decode b_wh_dropTwos 43 = .ok (.iconst 1, 1) := by decide +kernel
theorem d_wh_dropTwos_44 : decode b_wh_dropTwos 44 = .ok (.isub, 1) := by decide +kernel
theorem d_wh_dropTwos_45 : decode b_wh_dropTwos 45 = .ok (.invokestatic 42, 3) := by decide +kernel
theorem d_wh_dropTwos_48 : decode b_wh_dropTwos 48 = .ok (.istore_n 3, 1) := by decide +kernel
theorem d_wh_dropTwos_49 : decode b_wh_dropTwos 49 = .ok (.iload_n 1, 1) := by decide +kernel
theorem d_wh_dropTwos_50 : decode b_wh_dropTwos 50 = .ok (.istore 4, 2) := by decide +kernel
theorem d_wh_dropTwos_52 : decode b_wh_dropTwos 52 = .ok (.iload 4, 2) := by decide +kernel
theorem d_wh_dropTwos_54 : decode b_wh_dropTwos 54 = .ok (.aload_n 0, 1) := by decide +kernel
theorem d_wh_dropTwos_55 : decode b_wh_dropTwos 55 = .ok (.getfield 15, 3) := by decide +kernel
theorem d_wh_dropTwos_58 : decode b_wh_dropTwos 58 = .ok (.if_icmp .ge 64, 3) := by decide +kernel
theorem d_wh_dropTwos_61 : decode b_wh_dropTwos 61 = .ok (.iload 4, 2) := by decide +kernel
theorem d_wh_dropTwos_63 : decode b_wh_dropTwos 63 = .ok (.iconst 1, 1) := by decide +kernel
theorem d_wh_dropTwos_64 : decode b_wh_dropTwos 64 = .ok (.iadd, 1) := by decide +kernel
theorem d_wh_dropTwos_65 : decode b_wh_dropTwos 65 = .ok (.aload_n 0, 1) := by decide +kernel
theorem d_wh_dropTwos_66 : decode b_wh_dropTwos 66 = .ok (.getfield 15, 3) := by decide +kernel
theorem d_wh_dropTwos_69 : decode b_wh_dropTwos 69 = .ok (.if_icmp .ge 15, 3) := by decide +kernel
theorem d_wh_dropTwos_72 : decode b_wh_dropTwos 72 = .ok (.aload_n 0, 1) := by decide +kernel
theorem d_wh_dropTwos_73 : decode b_wh_dropTwos 73 = .ok (.getfield 9, 3) := by decide +kernel
theorem d_wh_dropTwos_76 : decode b_wh_dropTwos 76 = .ok (.iload 4, 2) := by decide +kernel
theorem d_wh_dropTwos_78 : decode b_wh_dropTwos 78 = .ok (.iconst 1, 1) := by decide +kernel
theorem d_wh_dropTwos_79 : decode b_wh_dropTwos 79 = .ok (.iadd, 1) := by decide +kernel
theorem d_wh_dropTwos_80 : decode b_wh_dropTwos 80 = .ok (.iaload, 1) := by decide +kernel
theorem d_wh_dropTwos_81 : decode b_wh_dropTwos 81 = .ok (.goto 4, 3) := by decide +kernel
theorem d_wh_dropTwos_84 : decode b_wh_dropTwos 84 = .ok (.iconst 0, 1) := by decide +kernel
theorem d_wh_dropTwos_85 : decode b_wh_dropTwos 85 = .ok (.istore 5, 2) := by decide +kernel
theorem d_wh_dropTwos_87 : decode b_wh_dropTwos 87 = .ok (.aload_n 0, 1) := by decide +kernel
theorem d_wh_dropTwos_88 : decode b_wh_dropTwos 88 = .ok (.getfield 9, 3) := by decide +kernel
theorem d_wh_dropTwos_91 : decode b_wh_dropTwos 91 = .ok (.iload 4, 2) := by decide +kernel
theorem d_wh_dropTwos_93 : decode b_wh_dropTwos 93 = .ok (.iload_n 1, 1) := by decide +kernel
theorem d_wh_dropTwos_94 : decode b_wh_dropTwos 94 = .ok (.isub, 1) := by decide +kernel
theorem d_wh_dropTwos_95 : decode b_wh_dropTwos 95 = .ok (.aload_n 0, 1) := by decide +kernel
theorem d_wh_dropTwos_96 : decode b_wh_dropTwos 96 = .ok (.getfield 9, 3) := by decide +kernel
theorem d_wh_dropTwos_99 : decode b_wh_dropTwos 99 = .ok (.iload 4, 2) := by decide +kernel
theorem d_wh_dropTwos_101 : decode b_wh_dropTwos 101 = .ok (.iaload, 1) := by decide +kernel
theorem d_wh_dropTwos_102 : decode b_wh_dropTwos 102 = .ok (.iload_n 3, 1) := by decide +kernel
theorem d_wh_dropTwos_103 : decode b_wh_dropTwos 103 = .ok (.iushr, 1) := by decide +kernel
theorem d_wh_dropTwos_104 : decode b_wh_dropTwos 104 = .ok (.iload 5, 2) := by decide +kernel
theorem d_wh_dropTwos_106 : decode b_wh_dropTwos 106 = .ok (.bipush 30, 2) := by decide +kernel
theorem d_wh_dropTwos_108 : decode b_wh_dropTwos 108 = .ok (.iload_n 3, 1) := by decide +kernel
theorem d_wh_dropTwos_109 : decode b_wh_dropTwos 109 = .ok (.isub, 1) := by decide +kernel
theorem d_wh_dropTwos_110 : decode b_wh_dropTwos 110 = .ok (.ishl, 1) := by decide +kernel
theorem d_wh_dropTwos_111 : decode b_wh_dropTwos 111 = .ok (.ldc 35, 2) := by decide +kernel
theorem d_wh_dropTwos_113 : decode b_wh_dropTwos 113 = .ok (.iand, 1) := by decide +kernel
theorem d_wh_dropTwos_114 : decode b_wh_dropTwos 114 = .ok (.ior, 1) := by decide +kernel
theorem d_wh_dropTwos_115 : decode b_wh_dropTwos 115 = .ok (.iastore, 1) := by decide +kernel
theorem d_wh_dropTwos_116 : decode b_wh_dropTwos 116 = .ok (.iinc 4 1, 3) := by decide +kernel
theorem d_wh_dropTwos_119 : decode b_wh_dropTwos 119 = .ok (.goto (-67), 3) := by decide +kernel
theorem d_wh_dropTwos_122 : decode b_wh_dropTwos 122 = .ok (.aload_n 0, 1) := by decide +kernel
theorem d_wh_dropTwos_123 : decode b_wh_dropTwos 123 = .ok (.aload_n 0, 1) := by decide +kernel
theorem d_wh_dropTwos_124 : decode b_wh_dropTwos 124 = .ok (.getfield 15, 3) := by decide +kernel
theorem d_wh_dropTwos_127 : decode b_wh_dropTwos 127 = .ok (.iload_n 1, 1) := by decide +kernel
theorem d_wh_dropTwos_128 : decode b_wh_dropTwos 128 = .ok (.isub, 1) := by decide +kernel
theorem d_wh_dropTwos_129 : decode b_wh_dropTwos 129 = .ok (.invokevirtual 36, 3) := by decide +kernel
theorem d_wh_dropTwos_132 : decode b_wh_dropTwos 132 = .ok (.iload_n 1, 1) := by decide +kernel
theorem d_wh_dropTwos_133 : decode b_wh_dropTwos 133 = .ok (.bipush 30, 2) := by decide +kernel
theorem d_wh_dropTwos_135 : decode b_wh_dropTwos 135 = .ok (.imul, 1) := by decide +kernel
theorem d_wh_dropTwos_136 : decode b_wh_dropTwos 136 = .ok (.iload_n 3, 1) := by decide +kernel
theorem d_wh_dropTwos_137 : decode b_wh_dropTwos 137 = .ok (.iadd, 1) := by decide +kernel
theorem d_wh_dropTwos_138 : decode b_wh_dropTwos 138 = .ok (.ireturn, 1) := by decide +kernel
theorem d_wh_cutTo_0 : decode b_wh_cutTo 0 = .ok (.aload_n 0, 1) := by decide +kernel
theorem d_wh_cutTo_1 : decode b_wh_cutTo 1 = .ok (.iload_n 1, 1) := by decide +kernel
theorem d_wh_cutTo_2 : decode b_wh_cutTo 2 = .ok (.putfield 15, 3) := by decide +kernel
theorem d_wh_cutTo_5 : decode b_wh_cutTo 5 = .ok (.aload_n 0, 1) := by decide +kernel
theorem d_wh_cutTo_6 : decode b_wh_cutTo 6 = .ok (.getfield 15, 3) := by decide +kernel
theorem d_wh_cutTo_9 : decode b_wh_cutTo 9 = .ok (.ifCond .le 30, 3) := by decide +kernel
theorem d_wh_cutTo_12 : decode b_wh_cutTo 12 = .ok (.aload_n 0, 1) := by decide +kernel
theorem d_wh_cutTo_13 : decode b_wh_cutTo 13 = .ok (.getfield 9, 3) := by decide +kernel
theorem d_wh_cutTo_16 : decode b_wh_cutTo 16 = .ok (.aload_n 0, 1) := by decide +kernel
theorem d_wh_cutTo_17 : decode b_wh_cutTo 17 = .ok (.getfield 15, 3) := by decide +kernel
theorem d_wh_cutTo_20 : decode b_wh_cutTo 20 = .ok (.iconst 1, 1) := by decide +kernel
theorem d_wh_cutTo_21 : decode b_wh_cutTo 21 = .ok (.isub, 1) := by decide +kernel
theorem d_wh_cutTo_22 : decode b_wh_cutTo 22 = .ok (.iaload, 1) := by decide +kernel
theorem d_wh_cutTo_23 : decode b_wh_cutTo 23 = .ok (.ifCond .ne 16, 3) := by decide +kernel
theorem d_wh_cutTo_26 : decode b_wh_cutTo 26 = .ok (.aload_n 0, 1) := by decide +kernel
theorem d_wh_cutTo_27 : decode b_wh_cutTo 27 = .ok (.dup, 1) := by decide +kernel
theorem d_wh_cutTo_28 : decode b_wh_cutTo 28 = .ok (.getfield 15, 3) := by decide +kernel
theorem d_wh_cutTo_31 : decode b_wh_cutTo 31 = .ok (.iconst 1, 1) := by decide +kernel
theorem d_wh_cutTo_32 : decode b_wh_cutTo 32 = .ok (.isub, 1) := by decide +kernel
theorem d_wh_cutTo_33 : decode b_wh_cutTo 33 = .ok (.putfield 15, 3) := by decide +kernel
theorem d_wh_cutTo_36 : decode b_wh_cutTo 36 = .ok (.goto (-31), 3) := by decide +kernel
theorem d_wh_cutTo_39 : decode b_wh_cutTo 39 = .ok (.return_, 1) := by decide +kernel
end
section
abbrev rd_pn_init : Nat := 5
abbrev rw_pn_init : Nat := 102
abbrev rd_pn_type : Nat := 1
abbrev rw_pn_type : Nat := 22
abbrev rd_pn_erase : Nat := 0
abbrev rw_pn_erase : Nat := 0
abbrev rd_pn_fault : Nat := 0
abbrev rw_pn_fault : Nat := 0
abbrev rd_pn_work : Nat := 10
abbrev rw_pn_work : Nat := 199
abbrev rd_pn_keep : Nat := 10
abbrev rw_pn_keep : Nat := 199
abbrev rd_pn_form : Nat := 3
abbrev rw_pn_form : Nat := 61
abbrev rd_pn_sign : Nat := 3
abbrev rw_pn_sign : Nat := 60
abbrev rd_pn_digit : Nat := 1
abbrev rw_pn_digit : Nat := 21
abbrev rd_pn_bits : Nat := 2
abbrev rw_pn_bits : Nat := 45
abbrev rd_pn_against : Nat := 10
abbrev rw_pn_against : Nat := 150
abbrev rd_pn_fetch : Nat := 10
abbrev rw_pn_fetch : Nat := 150
abbrev rd_pn_characterOf : Nat := 0
abbrev rw_pn_characterOf : Nat := 0
abbrev rd_pn_requireVariable : Nat := 9
abbrev rw_pn_requireVariable : Nat := 130
abbrev rd_pn_requireExpression : Nat := 9
abbrev rw_pn_requireExpression : Nat := 179
abbrev rd_pn_refuse : Nat := 9
abbrev rw_pn_refuse : Nat := 130
abbrev rd_pn_settle : Nat := 4
abbrev rw_pn_settle : Nat := 108
abbrev rd_pn_isDigit : Nat := 0
abbrev rw_pn_isDigit : Nat := 0
abbrev rd_pn_isVariable : Nat := 0
abbrev rw_pn_isVariable : Nat := 0
abbrev rd_mo_init : Nat := 2
abbrev rw_mo_init : Nat := 49
abbrev rd_mo_thrown : Nat := 0
abbrev rw_mo_thrown : Nat := 0
abbrev rd_mo_set : Nat := 0
abbrev rw_mo_set : Nat := 0
abbrev rd_mo_copy : Nat := 0
abbrev rw_mo_copy : Nat := 0
abbrev rd_mo_trim : Nat := 0
abbrev rw_mo_trim : Nat := 0
abbrev rd_mo_compare : Nat := 0
abbrev rw_mo_compare : Nat := 0
abbrev rd_mo_addTo : Nat := 1
abbrev rw_mo_addTo : Nat := 23
abbrev rd_mo_takeOff : Nat := 1
abbrev rw_mo_takeOff : Nat := 23
abbrev rd_mo_multiply : Nat := 1
abbrev rw_mo_multiply : Nat := 23
abbrev rd_mo_shift : Nat := 1
abbrev rw_mo_shift : Nat := 23
abbrev rd_mo_divideSmall : Nat := 1
abbrev rw_mo_divideSmall : Nat := 23
abbrev rd_mo_times : Nat := 1
abbrev rw_mo_times : Nat := 23
abbrev rd_mo_divide : Nat := 2
abbrev rw_mo_divide : Nat := 49
abbrev rd_mo_isEven : Nat := 0
abbrev rw_mo_isEven : Nat := 0
abbrev rd_mo_common : Nat := 2
abbrev rw_mo_common : Nat := 49
abbrev rd_mo_copyValue : Nat := 1
abbrev rw_mo_copyValue : Nat := 23
abbrev rd_mo_setValue : Nat := 1
abbrev rw_mo_setValue : Nat := 23
abbrev rd_mo_isOne : Nat := 0
abbrev rw_mo_isOne : Nat := 0
abbrev rd_mo_isWhole : Nat := 1
abbrev rw_mo_isWhole : Nat := 21
abbrev rd_mo_lowest : Nat := 3
abbrev rw_mo_lowest : Nat := 77
abbrev rd_mo_sum : Nat := 4
abbrev rw_mo_sum : Nat := 99
abbrev rd_mo_product : Nat := 4
abbrev rw_mo_product : Nat := 99
abbrev rd_mo_ratio : Nat := 4
abbrev rw_mo_ratio : Nat := 99
abbrev rd_mo_order : Nat := 2
abbrev rw_mo_order : Nat := 51
abbrev rd_mo_formOf : Nat := 2
abbrev rw_mo_formOf : Nat := 42
abbrev rd_mo_type : Nat := 0
abbrev rw_mo_type : Nat := 0
abbrev rd_mo_erase : Nat := 0
abbrev rw_mo_erase : Nat := 0
abbrev rd_mo_fault : Nat := 0
abbrev rw_mo_fault : Nat := 0
abbrev rd_mo_charAt : Nat := 0
abbrev rw_mo_charAt : Nat := 0
abbrev rd_mo_isDigit : Nat := 1
abbrev rw_mo_isDigit : Nat := 21
abbrev rd_mo_least : Nat := 0
abbrev rw_mo_least : Nat := 0
abbrev rd_mo_most : Nat := 1
abbrev rw_mo_most : Nat := 20
abbrev rd_mo_isOp : Nat := 0
abbrev rw_mo_isOp : Nat := 0
abbrev rd_mo_overStart : Nat := 2
abbrev rw_mo_overStart : Nat := 42
abbrev rd_mo_overEnds : Nat := 2
abbrev rw_mo_overEnds : Nat := 40
abbrev rd_mo_faultOf : Nat := 3
abbrev rw_mo_faultOf : Nat := 65
abbrev rd_mo_skip : Nat := 1
abbrev rw_mo_skip : Nat := 21
abbrev rd_mo_number : Nat := 2
abbrev rw_mo_number : Nat := 49
abbrev rd_mo_begin : Nat := 3
abbrev rw_mo_begin : Nat := 70
abbrev rd_mo_goOn : Nat := 7
abbrev rw_mo_goOn : Nat := 176
abbrev rd_mo_workOut : Nat := 8
abbrev rw_mo_workOut : Nat := 200
abbrev rd_mo_apply : Nat := 6
abbrev rw_mo_apply : Nat := 152
abbrev rd_mo_chain : Nat := 5
abbrev rw_mo_chain : Nat := 124
abbrev rd_mo_quotient : Nat := 3
abbrev rw_mo_quotient : Nat := 77
abbrev rd_mo_divisor : Nat := 3
abbrev rw_mo_divisor : Nat := 74
abbrev rd_mo_power : Nat := 5
abbrev rw_mo_power : Nat := 122
abbrev rd_mo_work : Nat := 9
abbrev rw_mo_work : Nat := 221
abbrev rd_mo_isVariable : Nat := 0
abbrev rw_mo_isVariable : Nat := 0
abbrev rd_mo_keep : Nat := 10
abbrev rw_mo_keep : Nat := 242
abbrev rd_mo_form : Nat := 3
abbrev rw_mo_form : Nat := 63
abbrev rd_mo_sign : Nat := 0
abbrev rw_mo_sign : Nat := 0
abbrev rd_mo_length : Nat := 0
abbrev rw_mo_length : Nat := 0
abbrev rd_mo_fromEnd : Nat := 0
abbrev rw_mo_fromEnd : Nat := 0
abbrev rd_mo_digit : Nat := 2
abbrev rw_mo_digit : Nat := 42
abbrev rd_mo_bits : Nat := 2
abbrev rw_mo_bits : Nat := 48
abbrev rd_mo_against : Nat := 3
abbrev rw_mo_against : Nat := 73
abbrev rd_mo_fetch : Nat := 3
abbrev rw_mo_fetch : Nat := 63
abbrev rd_ca_init : Nat := 3
abbrev rw_ca_init : Nat := 61
abbrev rd_ca_add : Nat := 3
abbrev rw_ca_add : Nat := 94
abbrev rd_ca_addSpare : Nat := 2
abbrev rw_ca_addSpare : Nat := 65
abbrev rd_ca_multiply : Nat := 3
abbrev rw_ca_multiply : Nat := 94
abbrev rd_ca_divideWhole : Nat := 3
abbrev rw_ca_divideWhole : Nat := 90
abbrev rd_ca_joinGreatest : Nat := 3
abbrev rw_ca_joinGreatest : Nat := 94
abbrev rd_ca_compare : Nat := 2
abbrev rw_ca_compare : Nat := 51
abbrev rd_ca_settleAt : Nat := 2
abbrev rw_ca_settleAt : Nat := 65
abbrev rd_di_init : Nat := 2
abbrev rw_di_init : Nat := 41
abbrev rd_di_divide : Nat := 2
abbrev rw_di_divide : Nat := 65
abbrev rd_di_takeAway : Nat := 1
abbrev rw_di_takeAway : Nat := 24
abbrev rd_di_putBack : Nat := 0
abbrev rw_di_putBack : Nat := 0
abbrev rd_di_findGreatest : Nat := 2
abbrev rw_di_findGreatest : Nat := 65
abbrev rd_fr_init : Nat := 2
abbrev rw_fr_init : Nat := 41
abbrev rd_fr_become : Nat := 1
abbrev rw_fr_become : Nat := 21
abbrev rd_fr_copy : Nat := 2
abbrev rw_fr_copy : Nat := 65
abbrev rd_fr_isWhole : Nat := 1
abbrev rw_fr_isWhole : Nat := 20
abbrev rd_fr_isZero : Nat := 1
abbrev rw_fr_isZero : Nat := 20
abbrev rd_fr_side : Nat := 2
abbrev rw_fr_side : Nat := 40
abbrev rd_fr_kind : Nat := 2
abbrev rw_fr_kind : Nat := 40
abbrev rd_gr_init : Nat := 1
abbrev rw_gr_init : Nat := 20
abbrev rd_gr_faultOf : Nat := 6
abbrev rw_gr_faultOf : Nat := 155
abbrev rd_gr_behind : Nat := 5
abbrev rw_gr_behind : Nat := 133
abbrev rd_gr_behindStart : Nat := 1
abbrev rw_gr_behindStart : Nat := 20
abbrev rd_gr_behindOperator : Nat := 4
abbrev rw_gr_behindOperator : Nat := 111
abbrev rd_gr_behindPart : Nat := 0
abbrev rw_gr_behindPart : Nat := 0
abbrev rd_ma_init : Nat := 4
abbrev rw_ma_init : Nat := 81
abbrev rd_ma_value : Nat := 0
abbrev rw_ma_value : Nat := 0
abbrev rd_ma_workOut : Nat := 6
abbrev rw_ma_workOut : Nat := 165
abbrev rd_ma_openBracket : Nat := 0
abbrev rw_ma_openBracket : Nat := 0
abbrev rd_ma_closeBracket : Nat := 3
abbrev rw_ma_closeBracket : Nat := 86
abbrev rd_ma_skipsArgument : Nat := 2
abbrev rw_ma_skipsArgument : Nat := 40
abbrev rd_ma_endOfArgument : Nat := 0
abbrev rw_ma_endOfArgument : Nat := 0
abbrev rd_ma_takeNumber : Nat := 2
abbrev rw_ma_takeNumber : Nat := 65
abbrev rd_ma_raise : Nat := 4
abbrev rw_ma_raise : Nat := 118
abbrev rd_ma_fold : Nat := 5
abbrev rw_ma_fold : Nat := 140
abbrev rd_ma_beginsWithFirst : Nat := 0
abbrev rw_ma_beginsWithFirst : Nat := 0
abbrev rd_ma_step : Nat := 4
abbrev rw_ma_step : Nat := 118
abbrev rd_ma_replace : Nat := 3
abbrev rw_ma_replace : Nat := 86
abbrev rd_wh_init : Nat := 1
abbrev rw_wh_init : Nat := 20
abbrev rd_wh_become : Nat := 0
abbrev rw_wh_become : Nat := 0
abbrev rd_wh_copy : Nat := 1
abbrev rw_wh_copy : Nat := 44
abbrev rd_wh_isZero : Nat := 0
abbrev rw_wh_isZero : Nat := 0
abbrev rd_wh_isOne : Nat := 0
abbrev rw_wh_isOne : Nat := 0
abbrev rd_wh_isTooLarge : Nat := 0
abbrev rw_wh_isTooLarge : Nat := 0
abbrev rd_wh_limb : Nat := 0
abbrev rw_wh_limb : Nat := 0
abbrev rd_wh_word : Nat := 1
abbrev rw_wh_word : Nat := 21
abbrev rd_wh_compare : Nat := 0
abbrev rw_wh_compare : Nat := 0
abbrev rd_wh_add : Nat := 1
abbrev rw_wh_add : Nat := 21
abbrev rd_wh_subtract : Nat := 1
abbrev rw_wh_subtract : Nat := 21
abbrev rd_wh_becomeProduct : Nat := 1
abbrev rw_wh_becomeProduct : Nat := 21
abbrev rd_wh_timesPlus : Nat := 0
abbrev rw_wh_timesPlus : Nat := 0
abbrev rd_wh_divideBy : Nat := 1
abbrev rw_wh_divideBy : Nat := 21
abbrev rd_wh_dropTwos : Nat := 1
abbrev rw_wh_dropTwos : Nat := 21
abbrev rd_wh_cutTo : Nat := 0
abbrev rw_wh_cutTo : Nat := 0
abbrev rd_wr_init : Nat := 2
abbrev rw_wr_init : Nat := 41
abbrev rd_wr_write : Nat := 3
abbrev rw_wr_write : Nat := 87
abbrev rd_wr_character : Nat := 0
abbrev rw_wr_character : Nat := 0
abbrev rd_wr_putAmount : Nat := 2
abbrev rw_wr_putAmount : Nat := 65
abbrev rd_wr_put : Nat := 0
abbrev rw_wr_put : Nat := 0
abbrev rd_la_work : Nat := 11
abbrev rw_la_work : Nat := 219
abbrev rd_la_keep : Nat := 11
abbrev rw_la_keep : Nat := 220
abbrev rd_la_against : Nat := 11
abbrev rw_la_against : Nat := 171
abbrev rd_la_fetch : Nat := 11
abbrev rw_la_fetch : Nat := 171
end
section
/-! further rules of the pure machine -/
/-- a local is forgotten -/
theorem go_fg {φ : go_F} {l : Launch} {M : go_M} {R : Room} {u : Nat × Nat} {pc n : Nat} {L L' : List (Option mv_V)} {st : List mv_V} {h : mv_H} (i : Nat) (hL : L.set i none = L') (k : Go φ l M R u pc L' st h n) : Go φ l M R u pc L st h n := by
  subst hL
  have key : ∀ (j : Nat) (v : mv_V), (L.set i none)[j]? = some (some v) → L[j]? = some (some v) := by
    intro j v hj
    by_cases hji : j = i
    · subst hji
      rw [List.getElem?_set_self'] at hj
      cases hl : L[j]? with
      | none => rw [hl] at hj; cases hj
      | some x => rw [hl] at hj; cases hj
    · rwa [List.getElem?_set_ne (Ne.symm hji)] at hj
  intro p e s m args below meth c D ca zt A n0 ad0 C H locs ls ad hS hP hD hl hn ha oh ol os
  exact k p e s m args below meth c D ca zt A n0 ad0 C H locs ls ad hS hP hD ⟨hl.1, hl.2.1, fun j v hj => hl.2.2 j v (key j v hj)⟩ hn ha oh (fun j v hj => ol j v (key j v hj)) os
/-- nothing changed outside the k cells from o on -/
def fr_ (o k : Nat) (h h' : mv_H) : Prop := ∀ j, (j < o ∨ o + k ≤ j) → h' j = h j
theorem fr_.rf {o k : Nat} {h : mv_H} : fr_ o k h h := fun _ _ => rfl
theorem fr_.tr {o k : Nat} {h h' h'' : mv_H} (a : fr_ o k h h') (b : fr_ o k h' h'') : fr_ o k h h'' := fun j hj => (b j hj).trans (a j hj)
theorem go_le0 : (0, 0).1 ≤ 0 ∧ (0, 0).2 ≤ 0 := ⟨Nat.le_refl _, Nat.le_refl _⟩
/-- masks and shifts -/
theorem gn_bv {a : Int} : (Int32.ofInt a).toBitVec = BitVec.ofInt 32 a := rfl
theorem gn_mask {a b p : Int} (k : Nat) (hk : k < 32) (hb : b = ((2 ^ k - 1 : Nat) : Int)) (hp : p = ((2 ^ k : Nat) : Int)) : Int32.ofInt a &&& Int32.ofInt b = Int32.ofInt (a % p) := by
  subst hb
  subst hp
  have hlt : 2 ^ k < 2 ^ 32 := Nat.pow_lt_pow_right (by decide) hk
  have h1 := pk_and (Int32.ofInt a) (m := Int32.ofInt ((2 ^ k - 1 : Nat) : Int)) k (by
    rw [gn_bv, BitVec.ofInt_natCast, BitVec.toNat_ofNat]
    exact Nat.mod_eq_of_lt (by omega))
  rw [h1, gn_bv, BitVec.toNat_ofInt, ← gn_nI]
  congr 1
  have hp : ((2 ^ k : Nat) : Int) ∣ ((2 ^ 32 : Nat) : Int) := Int.natCast_dvd_natCast.mpr (Nat.pow_dvd_pow 2 (by omega))
  have h3 : (0 : Int) ≤ a % ((2 ^ 32 : Nat) : Int) := Int.emod_nonneg _ (by decide)
  rw [Int.natCast_emod, Int.toNat_of_nonneg h3]
  exact Int.emod_emod_of_dvd a hp
theorem gn_mul9 {x y : Int} (hx : 0 ≤ x ∧ x ≤ 9999) (hy : 0 ≤ y ∧ y ≤ 9999) : 0 ≤ x * y ∧ x * y ≤ 99980001 := by
  refine ⟨Int.mul_nonneg hx.1 hy.1, ?_⟩
  have := Int.mul_le_mul hx.2 hy.2 hy.1 (by omega)
  omega
end
section
/-! ===== lN n to 2^64: shifts, and, or, masks, one bit ===== -/
theorem wb_tb (n : Nat) : (lN n).toBitVec = BitVec.ofNat 64 n := rfl
theorem wb_inj {a b : Int64} (h : a.toBitVec = b.toBitVec) : a = b := Int64.toBitVec_inj.mp h
theorem wb_tn {n : Nat} (h : n < 2 ^ 64) : (lN n).toBitVec.toNat = n := by rw [wb_tb, BitVec.toNat_ofNat, Nat.mod_eq_of_lt h]
theorem wb_of (x : Int64) : ∃ n, n < 2 ^ 64 ∧ x = lN n := ⟨x.toBitVec.toNat, x.toBitVec.isLt, wb_inj (by rw [wb_tb]; simp)⟩
theorem wb_of32 (x : Int32) : ∃ n, n < 2 ^ 32 ∧ x = nI n := ⟨x.toBitVec.toNat, x.toBitVec.isLt, Int32.toBitVec_inj.mp (by show _ = BitVec.ofNat 32 _; simp)⟩
theorem wb_c : ∀ k, k < 64 → ((nI k).toInt64 &&& 63) = lN k := by decide +kernel
theorem wb_cu : ∀ k, k < 64 → ((nI k).toInt64.toUInt64 &&& Int64.toUInt64 63) = UInt64.ofNat k := by decide +kernel
theorem wb_sm : ∀ k, k < 64 → (BitVec.ofNat 64 k).smod 64 = BitVec.ofNat 64 k := by decide +kernel
theorem wb_pw {a b : Nat} (h : a ≤ b) : 2 ^ b = 2 ^ a * 2 ^ (b - a) := by rw [← Nat.pow_add]; congr 1; omega
theorem wb_lt2 {a b : Nat} (h : a < b) : 2 ^ a < 2 ^ b := Nat.pow_lt_pow_right (by decide) h
theorem wb_mod (n : Nat) : lN n = lN (n % 2 ^ 64) := wb_inj (by rw [wb_tb, wb_tb]; apply BitVec.eq_of_toNat_eq; rw [BitVec.toNat_ofNat, BitVec.toNat_ofNat, Nat.mod_mod])
theorem wb_shr {n k : Nat} (hn : n < 2 ^ 64) (hk : k < 64) : ((lN n).toUInt64 >>> ((nI k).toInt64.toUInt64 &&& Int64.toUInt64 63)).toInt64 = lN (n / 2 ^ k) := by
  rw [wb_cu k hk]
  apply wb_inj
  apply BitVec.eq_of_toNat_eq
  show ((lN n).toUInt64 >>> UInt64.ofNat k).toNat = (BitVec.ofNat 64 _).toNat
  have h1 : (UInt64.ofNat k).toNat = k := by
    show (BitVec.ofNat 64 k).toNat = k
    rw [BitVec.toNat_ofNat, Nat.mod_eq_of_lt (by omega)]
  have h2 : (lN n).toUInt64.toNat = n := wb_tn hn
  rw [UInt64.toNat_shiftRight, h1, h2, Nat.mod_eq_of_lt hk, Nat.shiftRight_eq_div_pow, BitVec.toNat_ofNat, Nat.mod_eq_of_lt (Nat.lt_of_le_of_lt (Nat.div_le_self _ _) hn)]
theorem wb_shl (n : Nat) {k : Nat} (hk : k < 64) : lN n <<< ((nI k).toInt64 &&& 63) = lN (n * 2 ^ k) := by
  rw [wb_c k hk]
  apply wb_inj
  rw [Int64.toBitVec_shiftLeft, wb_tb, wb_tb, wb_tb, wb_sm k hk]
  apply BitVec.eq_of_toNat_eq
  rw [BitVec.shiftLeft_eq', BitVec.toNat_shiftLeft, BitVec.toNat_ofNat, BitVec.toNat_ofNat, BitVec.toNat_ofNat, Nat.mod_eq_of_lt (show k < 2 ^ 64 by omega), Nat.shiftLeft_eq, Nat.mul_mod, Nat.mod_mod, ← Nat.mul_mod]
theorem wb_and {a b : Nat} (ha : a < 2 ^ 64) (hb : b < 2 ^ 64) : lN a &&& lN b = lN (a &&& b) := by
  apply wb_inj
  rw [Int64.toBitVec_and, wb_tb, wb_tb, wb_tb]
  apply BitVec.eq_of_toNat_eq
  rw [BitVec.toNat_and, BitVec.toNat_ofNat, BitVec.toNat_ofNat, BitVec.toNat_ofNat, Nat.mod_eq_of_lt ha, Nat.mod_eq_of_lt hb, Nat.mod_eq_of_lt (Nat.and_lt_two_pow _ hb)]
theorem wb_or {a b : Nat} (ha : a < 2 ^ 64) (hb : b < 2 ^ 64) : lN a ||| lN b = lN (a ||| b) := by
  apply wb_inj
  rw [Int64.toBitVec_or, wb_tb, wb_tb, wb_tb]
  apply BitVec.eq_of_toNat_eq
  rw [BitVec.toNat_or, BitVec.toNat_ofNat, BitVec.toNat_ofNat, BitVec.toNat_ofNat, Nat.mod_eq_of_lt ha, Nat.mod_eq_of_lt hb, Nat.mod_eq_of_lt (Nat.or_lt_two_pow ha hb)]
theorem wb_mask {n k : Nat} (hn : n < 2 ^ 64) (hk : k < 64) : lN n &&& lN (2 ^ k - 1) = lN (n % 2 ^ k) := by
  rw [wb_and hn (by have := wb_lt2 hk; omega), Nat.and_two_pow_sub_one_eq_mod]
theorem wb_a1 {n : Nat} (hn : n < 2 ^ 64) : lN n &&& 1 = lN (n % 2) := wb_mask (k := 1) hn (by decide)
theorem wb_bit {n k : Nat} (hn : n < 2 ^ 64) (hk : k < 64) : ((lN n).toUInt64 >>> ((nI k).toInt64.toUInt64 &&& Int64.toUInt64 63)).toInt64 &&& 1 = lN (n / 2 ^ k % 2) := by
  rw [wb_shr hn hk, wb_a1 (Nat.lt_of_le_of_lt (Nat.div_le_self _ _) hn)]
theorem wb_xor {q k : Nat} (hk : k < 63) (h : 2 ^ k ≤ q) (h2 : q < 2 ^ (k + 1)) : lN q ^^^ lN (2 ^ k) = lN (q - 2 ^ k) := by
  obtain ⟨r, rfl⟩ : ∃ r, q = 2 ^ k + r := ⟨q - 2 ^ k, by omega⟩
  have hr : r < 2 ^ k := by rw [Nat.pow_succ] at h2; omega
  have hx : (2 ^ k + r) ^^^ 2 ^ k = r := by
    apply Nat.eq_of_testBit_eq
    intro i
    rw [Nat.testBit_xor, Nat.testBit_two_pow]
    rcases Nat.lt_trichotomy i k with h | h | h
    · rw [Nat.testBit_two_pow_add_gt h]
      simp [show ¬ k = i by omega]
    · subst h
      rw [Nat.testBit_two_pow_add_eq]
      simp
    · have a1 : 2 ^ (k + 1) ≤ 2 ^ i := Nat.pow_le_pow_right (by decide) h
      rw [Nat.testBit_lt_two_pow (show 2 ^ k + r < 2 ^ i by omega), Nat.testBit_lt_two_pow (show r < 2 ^ i by omega)]
      simp [show ¬ k = i by omega]
  have b1 := wb_lt2 (show k + 1 < 64 by omega)
  have b2 := wb_lt2 (show k < 64 by omega)
  apply wb_inj
  rw [Int64.toBitVec_xor, wb_tb, wb_tb, wb_tb]
  apply BitVec.eq_of_toNat_eq
  rw [BitVec.toNat_xor, BitVec.toNat_ofNat, BitVec.toNat_ofNat, BitVec.toNat_ofNat, Nat.mod_eq_of_lt (by omega : 2 ^ k + r < 2 ^ 64), Nat.mod_eq_of_lt b2, hx, Nat.add_sub_cancel_left, Nat.mod_eq_of_lt (by omega)]
/-! ===== lN: masks, 'or' of parts that don't overlap is a sum ===== -/
theorem u_tn {n : Nat} (h : n < 2 ^ 64) : (UInt64.ofNat n).toNat = n := Nat.mod_eq_of_lt h
theorem g_and {a b c : Nat} (ha : a < 2 ^ 64) (hb : b < 2 ^ 64) (hc : a &&& b = c) : lN a &&& lN b = lN c := by
  subst hc
  have h : UInt64.ofNat a &&& UInt64.ofNat b = UInt64.ofNat (a &&& b) := UInt64.toNat_inj.mp (by rw [UInt64.toNat_and, u_tn ha, u_tn hb, u_tn (Nat.and_lt_two_pow a hb)])
  have h2 := congrArg UInt64.toInt64 h
  exact h2
theorem g_and1 {a : Nat} (ha : a < 2 ^ 64) : lN a &&& 1 = lN (a % 2) := g_and (b := 1) ha (by decide) (Nat.and_two_pow_sub_one_eq_mod a 1)
theorem g_mask {a s p : Nat} (hp : 2 ^ s = p) (hs : s < 64) (ha : a < 2 ^ 64) : lN a &&& lN (p - 1) = lN (a % p) := by
  subst hp
  have := Nat.pow_lt_pow_right (show 1 < 2 by decide) hs
  exact g_and ha (by omega) (Nat.and_two_pow_sub_one_eq_mod a s)
theorem g_or {k p a b : Nat} (hp : 2 ^ k = p) (ha : a < p) (h : b * p + a < 2 ^ 64) : lN (b * p) ||| lN a = lN (b * p + a) := by
  subst hp
  have h1 : b * 2 ^ k ||| a = b * 2 ^ k + a := by rw [← Nat.shiftLeft_eq, Nat.shiftLeft_add_eq_or_of_lt ha]
  have h3 : UInt64.ofNat (b * 2 ^ k) ||| UInt64.ofNat a = UInt64.ofNat (b * 2 ^ k + a) := UInt64.toNat_inj.mp (by rw [UInt64.toNat_or, u_tn (by omega), u_tn (by omega), u_tn h, h1])
  have h2 := congrArg UInt64.toInt64 h3
  exact h2
theorem g_or' {k p a b : Nat} (hp : 2 ^ k = p) (ha : a < p) (h : a + b * p < 2 ^ 64) : lN a ||| lN (b * p) = lN (a + b * p) := by
  rw [Int64.or_comm, g_or hp ha (by omega), Nat.add_comm]
theorem g_ushr {a k p : Nat} {y : UInt64} (hy : y = UInt64.ofNat k) (hk : k < 64) (hp : 2 ^ k = p) (ha : a < 2 ^ 64) : ((lN a).toUInt64 >>> y).toInt64 = lN (a / p) := by
  subst hy hp
  have h : UInt64.ofNat a >>> UInt64.ofNat k = UInt64.ofNat (a / 2 ^ k) := UInt64.toNat_inj.mp (by rw [UInt64.toNat_shiftRight, u_tn ha, u_tn (by omega), u_tn (Nat.lt_of_le_of_lt (Nat.div_le_self _ _) ha), Nat.mod_eq_of_lt hk, Nat.shiftRight_eq_div_pow])
  have h2 := congrArg UInt64.toInt64 h
  exact h2
theorem g_shl {a k p : Nat} {y : Int64} (hy : y.toBitVec.smod 64 = BitVec.ofNat 64 k) (hk : k < 64) (hp : 2 ^ k = p) (ha : a < 2 ^ 64) : lN a <<< y = lN (a * p) := by
  subst hp
  apply Int64.toBitVec_inj.mp
  rw [Int64.toBitVec_shiftLeft, hy]
  apply BitVec.eq_of_toNat_eq
  have hb : (lN a).toBitVec.toNat = a := Nat.mod_eq_of_lt ha
  have hk' : (BitVec.ofNat 64 k).toNat = k := Nat.mod_eq_of_lt (by omega)
  have h : ((lN a).toBitVec <<< BitVec.ofNat 64 k).toNat = (a * 2 ^ k) % 2 ^ 64 := by simp only [BitVec.shiftLeft_eq', BitVec.toNat_shiftLeft, hb, hk', Nat.shiftLeft_eq]
  exact h
end
section
/-! longs: masks, shifts, 'or'; Math.max, Math.min, System.arraycopy -/
theorem gn_maskL {a b p : Int} (k : Nat) (hk : k < 64) (hb : b = ((2 ^ k - 1 : Nat) : Int)) (hp : p = ((2 ^ k : Nat) : Int)) (ha : 0 ≤ a ∧ a ≤ 9223372036854775807) : Int64.ofInt a &&& Int64.ofInt b = Int64.ofInt (a % p) := by
  subst hb
  subst hp
  obtain ⟨x, rfl⟩ := Int.eq_ofNat_of_zero_le ha.1
  rw [gn_lN, gn_lN, wb_mask (by omega) hk, ← Int.natCast_emod, gn_lN]
theorem gn_ushrL {a b p : Int} (k : Nat) (hk : k < 64) (hb : b = (k : Int)) (hp : p = ((2 ^ k : Nat) : Int)) (ha : 0 ≤ a ∧ a ≤ 9223372036854775807) : ((Int64.ofInt a).toUInt64 >>> ((Int32.ofInt b).toInt64.toUInt64 &&& Int64.toUInt64 63)).toInt64 = Int64.ofInt (a / p) := by
  subst hb
  subst hp
  obtain ⟨x, rfl⟩ := Int.eq_ofNat_of_zero_le ha.1
  rw [gn_lN, gn_nI, wb_shr (by omega) hk, ← Int.natCast_ediv, gn_lN]
theorem gn_shlL {a b p : Int} (k : Nat) (hk : k < 64) (hb : b = (k : Int)) (hp : p = ((2 ^ k : Nat) : Int)) (ha : 0 ≤ a) : Int64.ofInt a <<< ((Int32.ofInt b).toInt64 &&& 63) = Int64.ofInt (a * p) := by
  subst hb
  subst hp
  obtain ⟨x, rfl⟩ := Int.eq_ofNat_of_zero_le ha
  rw [gn_lN, gn_nI, wb_shl x hk, ← Int.natCast_mul, gn_lN]
theorem gn_orL {a b c p : Int} (k : Nat) (hp : p = ((2 ^ k : Nat) : Int)) (hb : 0 ≤ b ∧ b < p) (hc : 0 ≤ c) (ha : a = c * p) (h : a + b ≤ 9223372036854775807) : Int64.ofInt a ||| Int64.ofInt b = Int64.ofInt (a + b) := by
  subst ha
  subst hp
  obtain ⟨x, rfl⟩ := Int.eq_ofNat_of_zero_le hc
  obtain ⟨y, rfl⟩ := Int.eq_ofNat_of_zero_le hb.1
  rw [← Int.natCast_mul] at h ⊢
  rw [← Int.natCast_add] at h ⊢
  rw [gn_lN, gn_lN, gn_lN]
  exact g_or rfl (by omega) (by omega)
theorem gn_sh : ∀ k, k < 32 → (((nI k).toUInt32 &&& Int32.toUInt32 31).toBitVec % 32).toNat = k := by decide +kernel
theorem gn_ushr {a b p : Int} (k : Nat) (hk : k < 32) (hb : b = (k : Int)) (hp : p = ((2 ^ k : Nat) : Int)) (ha : 0 ≤ a ∧ a ≤ 2147483647) : ((Int32.ofInt a).toUInt32 >>> ((Int32.ofInt b).toUInt32 &&& Int32.toUInt32 31)).toInt32 = Int32.ofInt (a / p) := by
  subst hb
  subst hp
  obtain ⟨x, rfl⟩ := Int.eq_ofNat_of_zero_le ha.1
  rw [gn_nI, gn_nI, pk_ushrN (by omega) (nI k) k (gn_sh k hk), ← Int.natCast_ediv, gn_nI]
section GoJdk
variable {φ : go_F} {l : Launch} {M : go_M} {R : Room} {u : Nat × Nat} {pc q n : Nat} {L : List (Option mv_V)} {rest : List mv_V} {h : mv_H}
theorem go_mmax {idx : Nat} {a b : Int} (hw1 : Cond.methodLink M.1.cls idx Lib.Math.max.name ∈ go_T) (hw2 : Cond.static Lib.Math.max.name ∈ go_T) (hw3 : Cond.initialized "java/lang/Math" ∈ go_T) (hw4 : Cond.code Lib.Math.max.name Lib.Math.max.code 2 (some .int) ∈ go_T) (hd : decode M.2.1 pc = .ok (.invokestatic idx, 3)) (hp : pc + 3 = q) (ha0 : -2147483648 ≤ a ∧ a ≤ 2147483647) (hb0 : -2147483648 ≤ b ∧ b ≤ 2147483647) (hR : 1 ≤ R.frames ∧ (rest.map mv_k).sum + 13 ≤ R.locals ∧ u.1 ≤ R.cells ∧ u.2 ≤ R.slots) (k : Go φ l M R u q L (mv_I (if a < b then b else a) :: rest) h n) : Go φ l M R u pc L (mv_I b :: mv_I a :: rest) h n := by
  subst hp
  intro p e s m args below meth c D ca zt A n0 ad0 C H locs ls ad hS hP hD hl hn ha oh ol os
  obtain ⟨c1, c2, c3, c4, c5, c6, c7, c8, k0, c10⟩ := id C
  refine va_mmax c1 c2 (by rw [c3]; exact hl.1.symm) c7 (c8 _ hw1) (c8 _ hw2) (c8 _ hw3) (c8 _ hw4) hR.1 (by rw [mv_sum]; exact hR.2.1) hR.2.2.1 hR.2.2.2 hd ?_
  have e1 : (if Int32.ofInt a < Int32.ofInt b then Int32.ofInt b else Int32.ofInt a) = Int32.ofInt (if a < b then b else a) := by
    by_cases hlt : a < b
    · rw [if_pos hlt, if_pos ((gn_lt ha0 hb0).mpr hlt)]
    · rw [if_neg hlt, if_neg (fun z => hlt ((gn_lt ha0 hb0).mp z))]
  rw [e1]
  exact k p e s m args below meth c D ca zt A n0 ad0 C H locs ls ad hS hP hD hl hn ha oh ol (ok_S.cons trivial os.tl.tl)
theorem go_acopy {idx r0 r1 N0 N1 sp dp cn : Nat} {f g : Nat → Int} {a b c0 : Int} (hw1 : Cond.methodLink M.1.cls idx arraycopyName ∈ go_T) (hw2 : Cond.native arraycopyName ∈ go_T) (hw3 : Cond.static arraycopyName ∈ go_T) (hw4 : Cond.initialized "java/lang/System" ∈ go_T) (hd : decode M.2.1 pc = .ok (.invokestatic idx, 3)) (hp : pc + 3 = q) (hh0 : h r0 = mv_A 0 N0 f) (hh1 : h r1 = mv_A 0 N1 g) (ea : a = (sp : Int)) (eb : b = (dp : Int)) (ec : c0 = (cn : Int)) (h1 : sp + cn ≤ N0) (h2 : dp + cn ≤ N1) (hN : N0 < 2147483648 ∧ N1 < 2147483648) (hR : 1 ≤ R.frames ∧ (rest.map mv_k).sum + (nativeFrameWords "java/lang/System" "arraycopy" 5 + 11) ≤ R.locals)
    (k : Go φ l M R u q L rest (va_up h r1 (mv_A 0 N1 (va_cpy f g sp dp cn))) n) : Go φ l M R u pc L (mv_I c0 :: mv_I b :: mv_R r1 :: mv_I a :: mv_R r0 :: rest) h n := by
  subst hp; subst ea; subst eb; subst ec
  intro p e s m args below meth c D ca zt A n0 ad0 C H locs ls ad hS hP hD hl hn ha oh ol os
  obtain ⟨c1, c2, c3, c4, c5, c6, c7, c8, k0, c10⟩ := id C
  have hr1 : r1 < n := os.tl.tl.hd
  have hr0 : r0 < n := os.tl.tl.tl.tl.hd
  have he0 : (mv_W ca zt ad h n)[r0]? = some (ad r0, .inl (ca 0, N0, .inl fun j => Int32.ofInt (f j))) := mv_W_is hr0 hh0
  have he1 : (mv_W ca zt ad h n)[r1]? = some (ad r1, .inl (ca 0, N1, .inl fun j => Int32.ofInt (g j))) := mv_W_is hr1 hh1
  have g0 : ∀ x : Nat, x < 2147483648 → ¬ Int32.ofInt (x : Int) < 0 ∧ (Int32.ofInt (x : Int)).toNatClampNeg = x := fun x hx => by
    rw [gn_nI]
    exact ⟨nI_pos (by omega), nI_clamp (by omega)⟩
  obtain ⟨a1, a2⟩ := g0 sp (by omega)
  obtain ⟨b1, b2⟩ := g0 dp (by omega)
  obtain ⟨d1, d2⟩ := g0 cn (by omega)
  have hset : ∀ (P : va_W → Prop), P ((mv_W ca zt ad h n).set r1 (ad r1, .inl (ca 0, N1, .inl (va_cpy (fun j => Int32.ofInt (f j)) (fun j => Int32.ofInt (g j)) sp dp cn)))) → P (mv_W ca zt ad (va_up h r1 (mv_A 0 N1 (va_cpy f g sp dp cn))) n) := by
    intro P hp
    rw [← mv_W_set]
    show P ((mv_W ca zt ad h n).set r1 (ad r1, .inl (ca 0, N1, .inl fun j => Int32.ofInt (va_cpy f g sp dp cn j))))
    have hf : (fun j => Int32.ofInt (va_cpy f g sp dp cn j)) = va_cpy (fun j => Int32.ofInt (f j)) (fun j => Int32.ofInt (g j)) sp dp cn := by
      funext j
      unfold va_cpy
      split <;> rfl
    rw [hf]
    exact hp
  refine va_copyi (ty := .int) c1 c2 (by rw [c3]; exact hl.1.symm) c7 (c8 _ hw1) (c8 _ hw2) (c8 _ hw3) (c8 _ hw4) k0.1 hP hD hS r0 r1 0 0 he0 he1 rfl rfl rfl a1 b1 d1 (by rw [a2, d2]; exact h1) (by rw [b2, d2]; exact h2) (fun _ _ => rfl) hR.1 (by rw [mv_sum]; exact hR.2) hd (fun H1 locs1 hP1 hD1 hS1 => ?_)
  rw [a2, b2, d2] at hP1 hD1
  exact k p e s m args below meth c D ca zt A n0 ad0 C H1 locs1 ls ad hS1 (hset (fun w => va_P D vwCl w H1) hP1) (hset (fun w => va_D A w) hD1) hl hn ha (oh.up trivial) ol os.tl.tl.tl.tl.tl
end GoJdk
end
