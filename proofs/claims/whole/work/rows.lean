section
-- ===== PART A: goes FIRST, ahead of the names: the tables' words, and 'selects' of the private methods out of them =====
/-- a private method of a class that the tables say can be made, by its rows of tables_1 -/
def lw_okq (q : MethodName × Nat) : Prop := (q.1.cls ≠ "java/lang/invoke/MethodHandle" ∧ q.1.cls ≠ "java/lang/invoke/VarHandle") ∧ Cond.instantiable q.1.cls q.2 ∈ tables_1 ∧ Cond.privateMethod q.1 ∈ tables_1 ∧ Cond.instanceMethod q.1 ∈ tables_1
theorem lw_p0 : lw_okq (⟨"PromotedNumbers", "requireExpression", "()V"⟩, 7) := ⟨⟨by decide +kernel, by decide +kernel⟩, List.mem_of_getElem? (i := 27) (by decide +kernel), List.mem_of_getElem? (i := 316) (by decide +kernel), List.mem_of_getElem? (i := 317) (by decide +kernel)⟩
theorem lw_p1 : lw_okq (⟨"PromotedNumbers$Grammar", "behind", "(IC)I"⟩, 3) := ⟨⟨by decide +kernel, by decide +kernel⟩, List.mem_of_getElem? (i := 104) (by decide +kernel), List.mem_of_getElem? (i := 324) (by decide +kernel), List.mem_of_getElem? (i := 325) (by decide +kernel)⟩
theorem lw_p2 : lw_okq (⟨"PromotedNumbers$Grammar", "behindStart", "(C)I"⟩, 3) := ⟨⟨by decide +kernel, by decide +kernel⟩, List.mem_of_getElem? (i := 104) (by decide +kernel), List.mem_of_getElem? (i := 328) (by decide +kernel), List.mem_of_getElem? (i := 329) (by decide +kernel)⟩
theorem lw_p3 : lw_okq (⟨"PromotedNumbers$Grammar", "behindOperator", "(C)I"⟩, 3) := ⟨⟨by decide +kernel, by decide +kernel⟩, List.mem_of_getElem? (i := 104) (by decide +kernel), List.mem_of_getElem? (i := 338) (by decide +kernel), List.mem_of_getElem? (i := 339) (by decide +kernel)⟩
theorem lw_p4 : lw_okq (⟨"PromotedNumbers$Grammar", "behindPart", "(C)I"⟩, 3) := ⟨⟨by decide +kernel, by decide +kernel⟩, List.mem_of_getElem? (i := 104) (by decide +kernel), List.mem_of_getElem? (i := 429) (by decide +kernel), List.mem_of_getElem? (i := 430) (by decide +kernel)⟩
theorem lw_p5 : lw_okq (⟨"java/lang/Throwable", "fillInStackTrace", "(I)Ljava/lang/Throwable;"⟩, 6) := ⟨⟨by decide +kernel, by decide +kernel⟩, List.mem_of_getElem? (i := 477) (by decide +kernel), List.mem_of_getElem? (i := 475) (by decide +kernel), List.mem_of_getElem? (i := 476) (by decide +kernel)⟩
theorem lw_p6 : lw_okq (⟨"PromotedNumbers$Machine", "openBracket", "(C)V"⟩, 10) := ⟨⟨by decide +kernel, by decide +kernel⟩, List.mem_of_getElem? (i := 120) (by decide +kernel), List.mem_of_getElem? (i := 507) (by decide +kernel), List.mem_of_getElem? (i := 508) (by decide +kernel)⟩
theorem lw_p7 : lw_okq (⟨"PromotedNumbers$Machine", "raise", "()I"⟩, 10) := ⟨⟨by decide +kernel, by decide +kernel⟩, List.mem_of_getElem? (i := 120) (by decide +kernel), List.mem_of_getElem? (i := 511) (by decide +kernel), List.mem_of_getElem? (i := 512) (by decide +kernel)⟩
theorem lw_p8 : lw_okq (⟨"PromotedNumbers$Divider", "takeAway", "(I)I"⟩, 4) := ⟨⟨by decide +kernel, by decide +kernel⟩, List.mem_of_getElem? (i := 132) (by decide +kernel), List.mem_of_getElem? (i := 573) (by decide +kernel), List.mem_of_getElem? (i := 574) (by decide +kernel)⟩
theorem lw_p9 : lw_okq (⟨"PromotedNumbers$Divider", "putBack", "(I)I"⟩, 4) := ⟨⟨by decide +kernel, by decide +kernel⟩, List.mem_of_getElem? (i := 132) (by decide +kernel), List.mem_of_getElem? (i := 581) (by decide +kernel), List.mem_of_getElem? (i := 582) (by decide +kernel)⟩
theorem lw_p10 : lw_okq (⟨"PromotedNumbers$Calculator", "settleAt", "(LPromotedNumbers$Fraction;ZLPromotedNumbers$Whole;)I"⟩, 7) := ⟨⟨by decide +kernel, by decide +kernel⟩, List.mem_of_getElem? (i := 126) (by decide +kernel), List.mem_of_getElem? (i := 595) (by decide +kernel), List.mem_of_getElem? (i := 596) (by decide +kernel)⟩
theorem lw_p11 : lw_okq (⟨"PromotedNumbers$Machine", "fold", "()I"⟩, 10) := ⟨⟨by decide +kernel, by decide +kernel⟩, List.mem_of_getElem? (i := 120) (by decide +kernel), List.mem_of_getElem? (i := 605) (by decide +kernel), List.mem_of_getElem? (i := 606) (by decide +kernel)⟩
theorem lw_p12 : lw_okq (⟨"PromotedNumbers$Machine", "step", "(CLPromotedNumbers$Fraction;)I"⟩, 10) := ⟨⟨by decide +kernel, by decide +kernel⟩, List.mem_of_getElem? (i := 120) (by decide +kernel), List.mem_of_getElem? (i := 617) (by decide +kernel), List.mem_of_getElem? (i := 618) (by decide +kernel)⟩
theorem lw_p13 : lw_okq (⟨"PromotedNumbers$Calculator", "addSpare", "(ZZ)Z"⟩, 7) := ⟨⟨by decide +kernel, by decide +kernel⟩, List.mem_of_getElem? (i := 126) (by decide +kernel), List.mem_of_getElem? (i := 625) (by decide +kernel), List.mem_of_getElem? (i := 626) (by decide +kernel)⟩
theorem lw_p14 : lw_okq (⟨"PromotedNumbers$Machine", "replace", "(CLPromotedNumbers$Fraction;)I"⟩, 10) := ⟨⟨by decide +kernel, by decide +kernel⟩, List.mem_of_getElem? (i := 120) (by decide +kernel), List.mem_of_getElem? (i := 648) (by decide +kernel), List.mem_of_getElem? (i := 649) (by decide +kernel)⟩
theorem lw_p15 : lw_okq (⟨"PromotedNumbers$Machine", "closeBracket", "()V"⟩, 10) := ⟨⟨by decide +kernel, by decide +kernel⟩, List.mem_of_getElem? (i := 120) (by decide +kernel), List.mem_of_getElem? (i := 658) (by decide +kernel), List.mem_of_getElem? (i := 659) (by decide +kernel)⟩
def lw_privs_1 : List (MethodName × Nat) := [(⟨"PromotedNumbers", "requireExpression", "()V"⟩, 7), (⟨"PromotedNumbers$Grammar", "behind", "(IC)I"⟩, 3), (⟨"PromotedNumbers$Grammar", "behindStart", "(C)I"⟩, 3), (⟨"PromotedNumbers$Grammar", "behindOperator", "(C)I"⟩, 3), (⟨"PromotedNumbers$Grammar", "behindPart", "(C)I"⟩, 3), (⟨"java/lang/Throwable", "fillInStackTrace", "(I)Ljava/lang/Throwable;"⟩, 6), (⟨"PromotedNumbers$Machine", "openBracket", "(C)V"⟩, 10), (⟨"PromotedNumbers$Machine", "raise", "()I"⟩, 10), (⟨"PromotedNumbers$Divider", "takeAway", "(I)I"⟩, 4), (⟨"PromotedNumbers$Divider", "putBack", "(I)I"⟩, 4), (⟨"PromotedNumbers$Calculator", "settleAt", "(LPromotedNumbers$Fraction;ZLPromotedNumbers$Whole;)I"⟩, 7), (⟨"PromotedNumbers$Machine", "fold", "()I"⟩, 10), (⟨"PromotedNumbers$Machine", "step", "(CLPromotedNumbers$Fraction;)I"⟩, 10), (⟨"PromotedNumbers$Calculator", "addSpare", "(ZZ)Z"⟩, 7), (⟨"PromotedNumbers$Machine", "replace", "(CLPromotedNumbers$Fraction;)I"⟩, 10), (⟨"PromotedNumbers$Machine", "closeBracket", "()V"⟩, 10)]
theorem lw_r1 : ∀ q ∈ lw_privs_1, lw_okq q := List.forall_mem_cons.mpr ⟨lw_p0, List.forall_mem_cons.mpr ⟨lw_p1, List.forall_mem_cons.mpr ⟨lw_p2, List.forall_mem_cons.mpr ⟨lw_p3, List.forall_mem_cons.mpr ⟨lw_p4, List.forall_mem_cons.mpr ⟨lw_p5, List.forall_mem_cons.mpr ⟨lw_p6, List.forall_mem_cons.mpr ⟨lw_p7, List.forall_mem_cons.mpr ⟨lw_p8, List.forall_mem_cons.mpr ⟨lw_p9, List.forall_mem_cons.mpr ⟨lw_p10, List.forall_mem_cons.mpr ⟨lw_p11, List.forall_mem_cons.mpr ⟨lw_p12, List.forall_mem_cons.mpr ⟨lw_p13, List.forall_mem_cons.mpr ⟨lw_p14, List.forall_mem_cons.mpr ⟨lw_p15, fun _ h => absurd h List.not_mem_nil⟩⟩⟩⟩⟩⟩⟩⟩⟩⟩⟩⟩⟩⟩⟩⟩
theorem lw_p16 : lw_okq (⟨"PromotedNumbers$Machine", "skipsArgument", "()Z"⟩, 10) := ⟨⟨by decide +kernel, by decide +kernel⟩, List.mem_of_getElem? (i := 120) (by decide +kernel), List.mem_of_getElem? (i := 662) (by decide +kernel), List.mem_of_getElem? (i := 663) (by decide +kernel)⟩
theorem lw_p17 : lw_okq (⟨"PromotedNumbers$Machine", "endOfArgument", "([CII)I"⟩, 10) := ⟨⟨by decide +kernel, by decide +kernel⟩, List.mem_of_getElem? (i := 120) (by decide +kernel), List.mem_of_getElem? (i := 666) (by decide +kernel), List.mem_of_getElem? (i := 667) (by decide +kernel)⟩
theorem lw_p18 : lw_okq (⟨"PromotedNumbers$Machine", "takeNumber", "([CII)I"⟩, 10) := ⟨⟨by decide +kernel, by decide +kernel⟩, List.mem_of_getElem? (i := 120) (by decide +kernel), List.mem_of_getElem? (i := 671) (by decide +kernel), List.mem_of_getElem? (i := 672) (by decide +kernel)⟩
theorem lw_p19 : lw_okq (⟨"PromotedNumbers", "settle", "(LPromotedNumbers$Fraction;)I"⟩, 7) := ⟨⟨by decide +kernel, by decide +kernel⟩, List.mem_of_getElem? (i := 27) (by decide +kernel), List.mem_of_getElem? (i := 730) (by decide +kernel), List.mem_of_getElem? (i := 731) (by decide +kernel)⟩
theorem lw_p20 : lw_okq (⟨"PromotedNumbers$Writing", "putAmount", "(LPromotedNumbers$Whole;)V"⟩, 3) := ⟨⟨by decide +kernel, by decide +kernel⟩, List.mem_of_getElem? (i := 86) (by decide +kernel), List.mem_of_getElem? (i := 740) (by decide +kernel), List.mem_of_getElem? (i := 741) (by decide +kernel)⟩
theorem lw_p21 : lw_okq (⟨"PromotedNumbers$Writing", "put", "(C)V"⟩, 3) := ⟨⟨by decide +kernel, by decide +kernel⟩, List.mem_of_getElem? (i := 86) (by decide +kernel), List.mem_of_getElem? (i := 746) (by decide +kernel), List.mem_of_getElem? (i := 747) (by decide +kernel)⟩
theorem lw_p22 : lw_okq (⟨"PromotedNumbersModel", "set", "(II)V"⟩, 13) := ⟨⟨by decide +kernel, by decide +kernel⟩, List.mem_of_getElem? (i := 792) (by decide +kernel), List.mem_of_getElem? (i := 798) (by decide +kernel), List.mem_of_getElem? (i := 799) (by decide +kernel)⟩
theorem lw_p23 : lw_okq (⟨"PromotedNumbersModel", "addTo", "(II)V"⟩, 13) := ⟨⟨by decide +kernel, by decide +kernel⟩, List.mem_of_getElem? (i := 792) (by decide +kernel), List.mem_of_getElem? (i := 802) (by decide +kernel), List.mem_of_getElem? (i := 803) (by decide +kernel)⟩
theorem lw_p24 : lw_okq (⟨"PromotedNumbersModel", "trim", "(II)V"⟩, 13) := ⟨⟨by decide +kernel, by decide +kernel⟩, List.mem_of_getElem? (i := 792) (by decide +kernel), List.mem_of_getElem? (i := 806) (by decide +kernel), List.mem_of_getElem? (i := 807) (by decide +kernel)⟩
theorem lw_p25 : lw_okq (⟨"PromotedNumbersModel", "faultOf", "()I"⟩, 13) := ⟨⟨by decide +kernel, by decide +kernel⟩, List.mem_of_getElem? (i := 792) (by decide +kernel), List.mem_of_getElem? (i := 871) (by decide +kernel), List.mem_of_getElem? (i := 872) (by decide +kernel)⟩
theorem lw_p26 : lw_okq (⟨"PromotedNumbersModel", "overStart", "(I)I"⟩, 13) := ⟨⟨by decide +kernel, by decide +kernel⟩, List.mem_of_getElem? (i := 792) (by decide +kernel), List.mem_of_getElem? (i := 875) (by decide +kernel), List.mem_of_getElem? (i := 876) (by decide +kernel)⟩
theorem lw_p27 : lw_okq (⟨"PromotedNumbersModel", "charAt", "(I)I"⟩, 13) := ⟨⟨by decide +kernel, by decide +kernel⟩, List.mem_of_getElem? (i := 792) (by decide +kernel), List.mem_of_getElem? (i := 879) (by decide +kernel), List.mem_of_getElem? (i := 880) (by decide +kernel)⟩
theorem lw_p28 : lw_okq (⟨"PromotedNumbersModel", "isDigit", "(I)Z"⟩, 13) := ⟨⟨by decide +kernel, by decide +kernel⟩, List.mem_of_getElem? (i := 792) (by decide +kernel), List.mem_of_getElem? (i := 886) (by decide +kernel), List.mem_of_getElem? (i := 887) (by decide +kernel)⟩
theorem lw_p29 : lw_okq (⟨"PromotedNumbersModel", "overEnds", "(I)I"⟩, 13) := ⟨⟨by decide +kernel, by decide +kernel⟩, List.mem_of_getElem? (i := 792) (by decide +kernel), List.mem_of_getElem? (i := 890) (by decide +kernel), List.mem_of_getElem? (i := 891) (by decide +kernel)⟩
theorem lw_p30 : lw_okq (⟨"PromotedNumbersModel", "workOut", "()I"⟩, 13) := ⟨⟨by decide +kernel, by decide +kernel⟩, List.mem_of_getElem? (i := 792) (by decide +kernel), List.mem_of_getElem? (i := 900) (by decide +kernel), List.mem_of_getElem? (i := 901) (by decide +kernel)⟩
theorem lw_p31 : lw_okq (⟨"PromotedNumbersModel", "begin", "()I"⟩, 13) := ⟨⟨by decide +kernel, by decide +kernel⟩, List.mem_of_getElem? (i := 792) (by decide +kernel), List.mem_of_getElem? (i := 904) (by decide +kernel), List.mem_of_getElem? (i := 905) (by decide +kernel)⟩
def lw_privs_2 : List (MethodName × Nat) := [(⟨"PromotedNumbers$Machine", "skipsArgument", "()Z"⟩, 10), (⟨"PromotedNumbers$Machine", "endOfArgument", "([CII)I"⟩, 10), (⟨"PromotedNumbers$Machine", "takeNumber", "([CII)I"⟩, 10), (⟨"PromotedNumbers", "settle", "(LPromotedNumbers$Fraction;)I"⟩, 7), (⟨"PromotedNumbers$Writing", "putAmount", "(LPromotedNumbers$Whole;)V"⟩, 3), (⟨"PromotedNumbers$Writing", "put", "(C)V"⟩, 3), (⟨"PromotedNumbersModel", "set", "(II)V"⟩, 13), (⟨"PromotedNumbersModel", "addTo", "(II)V"⟩, 13), (⟨"PromotedNumbersModel", "trim", "(II)V"⟩, 13), (⟨"PromotedNumbersModel", "faultOf", "()I"⟩, 13), (⟨"PromotedNumbersModel", "overStart", "(I)I"⟩, 13), (⟨"PromotedNumbersModel", "charAt", "(I)I"⟩, 13), (⟨"PromotedNumbersModel", "isDigit", "(I)Z"⟩, 13), (⟨"PromotedNumbersModel", "overEnds", "(I)I"⟩, 13), (⟨"PromotedNumbersModel", "workOut", "()I"⟩, 13), (⟨"PromotedNumbersModel", "begin", "()I"⟩, 13)]
theorem lw_r2 : ∀ q ∈ lw_privs_2, lw_okq q := List.forall_mem_cons.mpr ⟨lw_p16, List.forall_mem_cons.mpr ⟨lw_p17, List.forall_mem_cons.mpr ⟨lw_p18, List.forall_mem_cons.mpr ⟨lw_p19, List.forall_mem_cons.mpr ⟨lw_p20, List.forall_mem_cons.mpr ⟨lw_p21, List.forall_mem_cons.mpr ⟨lw_p22, List.forall_mem_cons.mpr ⟨lw_p23, List.forall_mem_cons.mpr ⟨lw_p24, List.forall_mem_cons.mpr ⟨lw_p25, List.forall_mem_cons.mpr ⟨lw_p26, List.forall_mem_cons.mpr ⟨lw_p27, List.forall_mem_cons.mpr ⟨lw_p28, List.forall_mem_cons.mpr ⟨lw_p29, List.forall_mem_cons.mpr ⟨lw_p30, List.forall_mem_cons.mpr ⟨lw_p31, fun _ h => absurd h List.not_mem_nil⟩⟩⟩⟩⟩⟩⟩⟩⟩⟩⟩⟩⟩⟩⟩⟩
theorem lw_p32 : lw_okq (⟨"PromotedNumbersModel", "copyValue", "(II)V"⟩, 13) := ⟨⟨by decide +kernel, by decide +kernel⟩, List.mem_of_getElem? (i := 792) (by decide +kernel), List.mem_of_getElem? (i := 908) (by decide +kernel), List.mem_of_getElem? (i := 909) (by decide +kernel)⟩
theorem lw_p33 : lw_okq (⟨"PromotedNumbersModel", "copy", "(II)V"⟩, 13) := ⟨⟨by decide +kernel, by decide +kernel⟩, List.mem_of_getElem? (i := 792) (by decide +kernel), List.mem_of_getElem? (i := 912) (by decide +kernel), List.mem_of_getElem? (i := 913) (by decide +kernel)⟩
theorem lw_p34 : lw_okq (⟨"PromotedNumbersModel", "number", "()I"⟩, 13) := ⟨⟨by decide +kernel, by decide +kernel⟩, List.mem_of_getElem? (i := 792) (by decide +kernel), List.mem_of_getElem? (i := 916) (by decide +kernel), List.mem_of_getElem? (i := 917) (by decide +kernel)⟩
theorem lw_p35 : lw_okq (⟨"PromotedNumbersModel", "times", "(III)V"⟩, 13) := ⟨⟨by decide +kernel, by decide +kernel⟩, List.mem_of_getElem? (i := 792) (by decide +kernel), List.mem_of_getElem? (i := 920) (by decide +kernel), List.mem_of_getElem? (i := 921) (by decide +kernel)⟩
theorem lw_p36 : lw_okq (⟨"PromotedNumbersModel", "compare", "(II)I"⟩, 13) := ⟨⟨by decide +kernel, by decide +kernel⟩, List.mem_of_getElem? (i := 792) (by decide +kernel), List.mem_of_getElem? (i := 924) (by decide +kernel), List.mem_of_getElem? (i := 925) (by decide +kernel)⟩
theorem lw_p37 : lw_okq (⟨"PromotedNumbersModel", "goOn", "()I"⟩, 13) := ⟨⟨by decide +kernel, by decide +kernel⟩, List.mem_of_getElem? (i := 792) (by decide +kernel), List.mem_of_getElem? (i := 928) (by decide +kernel), List.mem_of_getElem? (i := 929) (by decide +kernel)⟩
theorem lw_p38 : lw_okq (⟨"PromotedNumbersModel", "apply", "(III)I"⟩, 13) := ⟨⟨by decide +kernel, by decide +kernel⟩, List.mem_of_getElem? (i := 792) (by decide +kernel), List.mem_of_getElem? (i := 932) (by decide +kernel), List.mem_of_getElem? (i := 933) (by decide +kernel)⟩
theorem lw_p39 : lw_okq (⟨"PromotedNumbersModel", "chain", "(IIIII)I"⟩, 13) := ⟨⟨by decide +kernel, by decide +kernel⟩, List.mem_of_getElem? (i := 792) (by decide +kernel), List.mem_of_getElem? (i := 936) (by decide +kernel), List.mem_of_getElem? (i := 937) (by decide +kernel)⟩
theorem lw_p40 : lw_okq (⟨"PromotedNumbersModel", "setValue", "(II)V"⟩, 13) := ⟨⟨by decide +kernel, by decide +kernel⟩, List.mem_of_getElem? (i := 792) (by decide +kernel), List.mem_of_getElem? (i := 940) (by decide +kernel), List.mem_of_getElem? (i := 941) (by decide +kernel)⟩
theorem lw_p41 : lw_okq (⟨"PromotedNumbersModel", "sum", "(III)I"⟩, 13) := ⟨⟨by decide +kernel, by decide +kernel⟩, List.mem_of_getElem? (i := 792) (by decide +kernel), List.mem_of_getElem? (i := 944) (by decide +kernel), List.mem_of_getElem? (i := 945) (by decide +kernel)⟩
theorem lw_p42 : lw_okq (⟨"PromotedNumbersModel", "multiply", "(III)V"⟩, 13) := ⟨⟨by decide +kernel, by decide +kernel⟩, List.mem_of_getElem? (i := 792) (by decide +kernel), List.mem_of_getElem? (i := 948) (by decide +kernel), List.mem_of_getElem? (i := 949) (by decide +kernel)⟩
theorem lw_p43 : lw_okq (⟨"PromotedNumbersModel", "lowest", "(II)I"⟩, 13) := ⟨⟨by decide +kernel, by decide +kernel⟩, List.mem_of_getElem? (i := 792) (by decide +kernel), List.mem_of_getElem? (i := 952) (by decide +kernel), List.mem_of_getElem? (i := 953) (by decide +kernel)⟩
theorem lw_p44 : lw_okq (⟨"PromotedNumbersModel", "isOne", "(I)Z"⟩, 13) := ⟨⟨by decide +kernel, by decide +kernel⟩, List.mem_of_getElem? (i := 792) (by decide +kernel), List.mem_of_getElem? (i := 956) (by decide +kernel), List.mem_of_getElem? (i := 957) (by decide +kernel)⟩
theorem lw_p45 : lw_okq (⟨"PromotedNumbersModel", "common", "(II)V"⟩, 13) := ⟨⟨by decide +kernel, by decide +kernel⟩, List.mem_of_getElem? (i := 792) (by decide +kernel), List.mem_of_getElem? (i := 960) (by decide +kernel), List.mem_of_getElem? (i := 961) (by decide +kernel)⟩
theorem lw_p46 : lw_okq (⟨"PromotedNumbersModel", "isEven", "(I)Z"⟩, 13) := ⟨⟨by decide +kernel, by decide +kernel⟩, List.mem_of_getElem? (i := 792) (by decide +kernel), List.mem_of_getElem? (i := 964) (by decide +kernel), List.mem_of_getElem? (i := 965) (by decide +kernel)⟩
theorem lw_p47 : lw_okq (⟨"PromotedNumbersModel", "divideSmall", "(II)I"⟩, 13) := ⟨⟨by decide +kernel, by decide +kernel⟩, List.mem_of_getElem? (i := 792) (by decide +kernel), List.mem_of_getElem? (i := 968) (by decide +kernel), List.mem_of_getElem? (i := 969) (by decide +kernel)⟩
def lw_privs_3 : List (MethodName × Nat) := [(⟨"PromotedNumbersModel", "copyValue", "(II)V"⟩, 13), (⟨"PromotedNumbersModel", "copy", "(II)V"⟩, 13), (⟨"PromotedNumbersModel", "number", "()I"⟩, 13), (⟨"PromotedNumbersModel", "times", "(III)V"⟩, 13), (⟨"PromotedNumbersModel", "compare", "(II)I"⟩, 13), (⟨"PromotedNumbersModel", "goOn", "()I"⟩, 13), (⟨"PromotedNumbersModel", "apply", "(III)I"⟩, 13), (⟨"PromotedNumbersModel", "chain", "(IIIII)I"⟩, 13), (⟨"PromotedNumbersModel", "setValue", "(II)V"⟩, 13), (⟨"PromotedNumbersModel", "sum", "(III)I"⟩, 13), (⟨"PromotedNumbersModel", "multiply", "(III)V"⟩, 13), (⟨"PromotedNumbersModel", "lowest", "(II)I"⟩, 13), (⟨"PromotedNumbersModel", "isOne", "(I)Z"⟩, 13), (⟨"PromotedNumbersModel", "common", "(II)V"⟩, 13), (⟨"PromotedNumbersModel", "isEven", "(I)Z"⟩, 13), (⟨"PromotedNumbersModel", "divideSmall", "(II)I"⟩, 13)]
theorem lw_r3 : ∀ q ∈ lw_privs_3, lw_okq q := List.forall_mem_cons.mpr ⟨lw_p32, List.forall_mem_cons.mpr ⟨lw_p33, List.forall_mem_cons.mpr ⟨lw_p34, List.forall_mem_cons.mpr ⟨lw_p35, List.forall_mem_cons.mpr ⟨lw_p36, List.forall_mem_cons.mpr ⟨lw_p37, List.forall_mem_cons.mpr ⟨lw_p38, List.forall_mem_cons.mpr ⟨lw_p39, List.forall_mem_cons.mpr ⟨lw_p40, List.forall_mem_cons.mpr ⟨lw_p41, List.forall_mem_cons.mpr ⟨lw_p42, List.forall_mem_cons.mpr ⟨lw_p43, List.forall_mem_cons.mpr ⟨lw_p44, List.forall_mem_cons.mpr ⟨lw_p45, List.forall_mem_cons.mpr ⟨lw_p46, List.forall_mem_cons.mpr ⟨lw_p47, fun _ h => absurd h List.not_mem_nil⟩⟩⟩⟩⟩⟩⟩⟩⟩⟩⟩⟩⟩⟩⟩⟩
theorem lw_p48 : lw_okq (⟨"PromotedNumbersModel", "takeOff", "(II)V"⟩, 13) := ⟨⟨by decide +kernel, by decide +kernel⟩, List.mem_of_getElem? (i := 792) (by decide +kernel), List.mem_of_getElem? (i := 972) (by decide +kernel), List.mem_of_getElem? (i := 973) (by decide +kernel)⟩
theorem lw_p49 : lw_okq (⟨"PromotedNumbersModel", "divide", "(IIII)V"⟩, 13) := ⟨⟨by decide +kernel, by decide +kernel⟩, List.mem_of_getElem? (i := 792) (by decide +kernel), List.mem_of_getElem? (i := 976) (by decide +kernel), List.mem_of_getElem? (i := 977) (by decide +kernel)⟩
theorem lw_p50 : lw_okq (⟨"PromotedNumbersModel", "shift", "(II)V"⟩, 13) := ⟨⟨by decide +kernel, by decide +kernel⟩, List.mem_of_getElem? (i := 792) (by decide +kernel), List.mem_of_getElem? (i := 980) (by decide +kernel), List.mem_of_getElem? (i := 981) (by decide +kernel)⟩
theorem lw_p51 : lw_okq (⟨"PromotedNumbersModel", "product", "(II)I"⟩, 13) := ⟨⟨by decide +kernel, by decide +kernel⟩, List.mem_of_getElem? (i := 792) (by decide +kernel), List.mem_of_getElem? (i := 984) (by decide +kernel), List.mem_of_getElem? (i := 985) (by decide +kernel)⟩
theorem lw_p52 : lw_okq (⟨"PromotedNumbersModel", "ratio", "(II)I"⟩, 13) := ⟨⟨by decide +kernel, by decide +kernel⟩, List.mem_of_getElem? (i := 792) (by decide +kernel), List.mem_of_getElem? (i := 988) (by decide +kernel), List.mem_of_getElem? (i := 989) (by decide +kernel)⟩
theorem lw_p53 : lw_okq (⟨"PromotedNumbersModel", "quotient", "(IZ)I"⟩, 13) := ⟨⟨by decide +kernel, by decide +kernel⟩, List.mem_of_getElem? (i := 792) (by decide +kernel), List.mem_of_getElem? (i := 992) (by decide +kernel), List.mem_of_getElem? (i := 993) (by decide +kernel)⟩
theorem lw_p54 : lw_okq (⟨"PromotedNumbersModel", "isWhole", "(I)Z"⟩, 13) := ⟨⟨by decide +kernel, by decide +kernel⟩, List.mem_of_getElem? (i := 792) (by decide +kernel), List.mem_of_getElem? (i := 996) (by decide +kernel), List.mem_of_getElem? (i := 997) (by decide +kernel)⟩
theorem lw_p55 : lw_okq (⟨"PromotedNumbersModel", "divisor", "(II)I"⟩, 13) := ⟨⟨by decide +kernel, by decide +kernel⟩, List.mem_of_getElem? (i := 792) (by decide +kernel), List.mem_of_getElem? (i := 1000) (by decide +kernel), List.mem_of_getElem? (i := 1001) (by decide +kernel)⟩
theorem lw_p56 : lw_okq (⟨"PromotedNumbersModel", "power", "(I)I"⟩, 13) := ⟨⟨by decide +kernel, by decide +kernel⟩, List.mem_of_getElem? (i := 792) (by decide +kernel), List.mem_of_getElem? (i := 1004) (by decide +kernel), List.mem_of_getElem? (i := 1005) (by decide +kernel)⟩
theorem lw_p57 : lw_okq (⟨"PromotedNumbersModel", "order", "(II)I"⟩, 13) := ⟨⟨by decide +kernel, by decide +kernel⟩, List.mem_of_getElem? (i := 792) (by decide +kernel), List.mem_of_getElem? (i := 1008) (by decide +kernel), List.mem_of_getElem? (i := 1009) (by decide +kernel)⟩
theorem lw_p58 : lw_okq (⟨"PromotedNumbersModel", "skip", "(I)I"⟩, 13) := ⟨⟨by decide +kernel, by decide +kernel⟩, List.mem_of_getElem? (i := 792) (by decide +kernel), List.mem_of_getElem? (i := 1012) (by decide +kernel), List.mem_of_getElem? (i := 1013) (by decide +kernel)⟩
theorem lw_p59 : lw_okq (⟨"PromotedNumbersModel", "formOf", "(I)I"⟩, 13) := ⟨⟨by decide +kernel, by decide +kernel⟩, List.mem_of_getElem? (i := 792) (by decide +kernel), List.mem_of_getElem? (i := 1016) (by decide +kernel), List.mem_of_getElem? (i := 1017) (by decide +kernel)⟩
theorem lw_p60 : lw_okq (⟨"PromotedNumbersModel", "length", "(I)I"⟩, 13) := ⟨⟨by decide +kernel, by decide +kernel⟩, List.mem_of_getElem? (i := 792) (by decide +kernel), List.mem_of_getElem? (i := 1040) (by decide +kernel), List.mem_of_getElem? (i := 1041) (by decide +kernel)⟩
theorem lw_p61 : lw_okq (⟨"PromotedNumbersModel", "fromEnd", "(II)I"⟩, 13) := ⟨⟨by decide +kernel, by decide +kernel⟩, List.mem_of_getElem? (i := 792) (by decide +kernel), List.mem_of_getElem? (i := 1044) (by decide +kernel), List.mem_of_getElem? (i := 1045) (by decide +kernel)⟩
def lw_privs_4 : List (MethodName × Nat) := [(⟨"PromotedNumbersModel", "takeOff", "(II)V"⟩, 13), (⟨"PromotedNumbersModel", "divide", "(IIII)V"⟩, 13), (⟨"PromotedNumbersModel", "shift", "(II)V"⟩, 13), (⟨"PromotedNumbersModel", "product", "(II)I"⟩, 13), (⟨"PromotedNumbersModel", "ratio", "(II)I"⟩, 13), (⟨"PromotedNumbersModel", "quotient", "(IZ)I"⟩, 13), (⟨"PromotedNumbersModel", "isWhole", "(I)Z"⟩, 13), (⟨"PromotedNumbersModel", "divisor", "(II)I"⟩, 13), (⟨"PromotedNumbersModel", "power", "(I)I"⟩, 13), (⟨"PromotedNumbersModel", "order", "(II)I"⟩, 13), (⟨"PromotedNumbersModel", "skip", "(I)I"⟩, 13), (⟨"PromotedNumbersModel", "formOf", "(I)I"⟩, 13), (⟨"PromotedNumbersModel", "length", "(I)I"⟩, 13), (⟨"PromotedNumbersModel", "fromEnd", "(II)I"⟩, 13)]
theorem lw_r4 : ∀ q ∈ lw_privs_4, lw_okq q := List.forall_mem_cons.mpr ⟨lw_p48, List.forall_mem_cons.mpr ⟨lw_p49, List.forall_mem_cons.mpr ⟨lw_p50, List.forall_mem_cons.mpr ⟨lw_p51, List.forall_mem_cons.mpr ⟨lw_p52, List.forall_mem_cons.mpr ⟨lw_p53, List.forall_mem_cons.mpr ⟨lw_p54, List.forall_mem_cons.mpr ⟨lw_p55, List.forall_mem_cons.mpr ⟨lw_p56, List.forall_mem_cons.mpr ⟨lw_p57, List.forall_mem_cons.mpr ⟨lw_p58, List.forall_mem_cons.mpr ⟨lw_p59, List.forall_mem_cons.mpr ⟨lw_p60, List.forall_mem_cons.mpr ⟨lw_p61, fun _ h => absurd h List.not_mem_nil⟩⟩⟩⟩⟩⟩⟩⟩⟩⟩⟩⟩⟩⟩
def lw_privs : List (MethodName × Nat) := lw_privs_1 ++ (lw_privs_2 ++ (lw_privs_3 ++ (lw_privs_4)))
def lw_tbl : List Cond := k2_sels lw_privs ++ tables_1
theorem lw_privs_ok : ∀ q ∈ lw_privs, lw_okq q := by
  show ∀ q ∈ lw_privs_1 ++ (lw_privs_2 ++ (lw_privs_3 ++ (lw_privs_4))), lw_okq q
  exact List.forall_mem_append.mpr ⟨lw_r1, List.forall_mem_append.mpr ⟨lw_r2, List.forall_mem_append.mpr ⟨lw_r3, lw_r4⟩⟩⟩
/-- the tables' words that a reader of steady words carries -/
def go_T : List Cond := lw_tbl.filter goodWord
theorem go_in {w : Cond} (h : w ∈ lw_tbl) (hg : goodWord w = true) : w ∈ go_T := List.mem_filter.mpr ⟨h, hg⟩
theorem go_T_tbl {w : Cond} (h : w ∈ go_T) : w ∈ lw_tbl := (List.mem_filter.mp h).1
theorem go_good {c : Cond} (hc : c ∈ go_T) : GoodIn go_T (c :: go_T) := fun w hw => by
  rcases List.mem_cons.mp hw with rfl | hw
  · exact ⟨hc, good_of_word (List.mem_filter.mp hc).2⟩
  · exact ⟨hw, good_of_word (List.mem_filter.mp hw).2⟩
theorem go_t {w : Cond} (h : w ∈ tables_1) (hg : goodWord w = true) : w ∈ go_T := go_in (List.mem_append_right _ h) hg
theorem go_t1 {w : Cond} (h : w ∈ tables_1_1) (hg : goodWord w = true) : w ∈ go_T := go_t (List.mem_append_left _ h) hg
theorem go_t2 {w : Cond} (h : w ∈ tables_1_2) (hg : goodWord w = true) : w ∈ go_T := go_t (List.mem_append_right _ (List.mem_append_left _ h)) hg
theorem go_t3 {w : Cond} (h : w ∈ tables_1_3) (hg : goodWord w = true) : w ∈ go_T := go_t (List.mem_append_right _ (List.mem_append_right _ (List.mem_append_left _ h))) hg
theorem go_t4 {w : Cond} (h : w ∈ tables_1_4) (hg : goodWord w = true) : w ∈ go_T := go_t (List.mem_append_right _ (List.mem_append_right _ (List.mem_append_right _ (List.mem_append_left _ h)))) hg
theorem go_t5 {w : Cond} (h : w ∈ tables_1_5) (hg : goodWord w = true) : w ∈ go_T := go_t (List.mem_append_right _ (List.mem_append_right _ (List.mem_append_right _ (List.mem_append_right _ (h))))) hg
theorem go_p1 {q : MethodName × Nat} (h : q ∈ lw_privs_1) : Cond.selects q.1.cls q.1 q.1 ∈ go_T := go_in (List.mem_append_left _ (List.mem_map.mpr ⟨q, List.mem_append_left _ h, rfl⟩)) rfl
theorem go_p2 {q : MethodName × Nat} (h : q ∈ lw_privs_2) : Cond.selects q.1.cls q.1 q.1 ∈ go_T := go_in (List.mem_append_left _ (List.mem_map.mpr ⟨q, List.mem_append_right _ (List.mem_append_left _ h), rfl⟩)) rfl
theorem go_p3 {q : MethodName × Nat} (h : q ∈ lw_privs_3) : Cond.selects q.1.cls q.1 q.1 ∈ go_T := go_in (List.mem_append_left _ (List.mem_map.mpr ⟨q, List.mem_append_right _ (List.mem_append_right _ (List.mem_append_left _ h)), rfl⟩)) rfl
theorem go_p4 {q : MethodName × Nat} (h : q ∈ lw_privs_4) : Cond.selects q.1.cls q.1 q.1 ∈ go_T := go_in (List.mem_append_left _ (List.mem_map.mpr ⟨q, List.mem_append_right _ (List.mem_append_right _ (List.mem_append_right _ (h))), rfl⟩)) rfl
def cx_RF : String := "PromotedNumbers$Fraction"
abbrev R_ca : String := "PromotedNumbers$Calculator"
def T_ca : u_T := fun k => match k with
  | 0 => ("PromotedNumbers$Calculator", "divider", "LPromotedNumbers$Divider;", true)
  | 1 => ("PromotedNumbers$Calculator", "common", "LPromotedNumbers$Whole;", true)
  | 2 => ("PromotedNumbers$Calculator", "ownShare", "LPromotedNumbers$Whole;", true)
  | 3 => ("PromotedNumbers$Calculator", "otherShare", "LPromotedNumbers$Whole;", true)
  | 4 => ("PromotedNumbers$Calculator", "top", "LPromotedNumbers$Whole;", true)
  | 5 => ("PromotedNumbers$Calculator", "bottom", "LPromotedNumbers$Whole;", true)
  | _ => ("PromotedNumbers$Calculator", "spare", "LPromotedNumbers$Whole;", true)
def y_ty_ca : Nat → FieldType := fun k => match k with
  | 0 => .object "PromotedNumbers$Divider"
  | 1 => .object "PromotedNumbers$Whole"
  | 2 => .object "PromotedNumbers$Whole"
  | 3 => .object "PromotedNumbers$Whole"
  | 4 => .object "PromotedNumbers$Whole"
  | 5 => .object "PromotedNumbers$Whole"
  | _ => .object "PromotedNumbers$Whole"
abbrev R_di : String := "PromotedNumbers$Divider"
def T_di : u_T := fun k => match k with
  | 0 => ("PromotedNumbers$Divider", "rest", "LPromotedNumbers$Whole;", true)
  | 1 => ("PromotedNumbers$Divider", "scaled", "LPromotedNumbers$Whole;", true)
  | 2 => ("PromotedNumbers$Divider", "first", "LPromotedNumbers$Whole;", true)
  | _ => ("PromotedNumbers$Divider", "second", "LPromotedNumbers$Whole;", true)
def y_ty_di : Nat → FieldType := fun k => match k with
  | 0 => .object "PromotedNumbers$Whole"
  | 1 => .object "PromotedNumbers$Whole"
  | 2 => .object "PromotedNumbers$Whole"
  | _ => .object "PromotedNumbers$Whole"
abbrev R_fr : String := "PromotedNumbers$Fraction"
def T_fr : u_T := fun k => match k with
  | 0 => ("PromotedNumbers$Fraction", "n", "LPromotedNumbers$Whole;", true)
  | 1 => ("PromotedNumbers$Fraction", "d", "LPromotedNumbers$Whole;", true)
  | _ => ("PromotedNumbers$Fraction", "below", "Z", false)
def y_ty_fr : Nat → FieldType := fun k => match k with
  | 0 => .object "PromotedNumbers$Whole"
  | 1 => .object "PromotedNumbers$Whole"
  | _ => .boolean
abbrev R_gr : String := "PromotedNumbers$Grammar"
def T_gr : u_T := fun k => match k with
  | 0 => ("PromotedNumbers$Grammar", "operators", "[I", true)
  | 1 => ("PromotedNumbers$Grammar", "arguments", "[I", true)
  | _ => ("PromotedNumbers$Grammar", "open", "I", false)
def y_ty_gr : Nat → FieldType := fun k => match k with
  | 0 => .array .int
  | 1 => .array .int
  | _ => .int
abbrev R_ma : String := "PromotedNumbers$Machine"
def T_ma : u_T := fun k => match k with
  | 0 => ("PromotedNumbers$Machine", "calculator", "LPromotedNumbers$Calculator;", true)
  | 1 => ("PromotedNumbers$Machine", "variables", "[LPromotedNumbers$Fraction;", true)
  | 2 => ("PromotedNumbers$Machine", "values", "[LPromotedNumbers$Fraction;", true)
  | 3 => ("PromotedNumbers$Machine", "total", "LPromotedNumbers$Fraction;", true)
  | 4 => ("PromotedNumbers$Machine", "number", "LPromotedNumbers$Whole;", true)
  | 5 => ("PromotedNumbers$Machine", "operators", "[C", true)
  | 6 => ("PromotedNumbers$Machine", "firstValues", "[I", true)
  | 7 => ("PromotedNumbers$Machine", "arguments", "[I", true)
  | 8 => ("PromotedNumbers$Machine", "open", "I", false)
  | _ => ("PromotedNumbers$Machine", "held", "I", false)
def y_ty_ma : Nat → FieldType := fun k => match k with
  | 0 => .object "PromotedNumbers$Calculator"
  | 1 => .array (.object "PromotedNumbers$Fraction")
  | 2 => .array (.object "PromotedNumbers$Fraction")
  | 3 => .object "PromotedNumbers$Fraction"
  | 4 => .object "PromotedNumbers$Whole"
  | 5 => .array .char
  | 6 => .array .int
  | 7 => .array .int
  | 8 => .int
  | _ => .int
abbrev R_wh : String := "PromotedNumbers$Whole"
def T_wh : u_T := fun k => match k with
  | 0 => ("PromotedNumbers$Whole", "limbs", "[I", true)
  | _ => ("PromotedNumbers$Whole", "size", "I", false)
def y_ty_wh : Nat → FieldType := fun k => match k with
  | 0 => .array .int
  | _ => .int
abbrev R_wr : String := "PromotedNumbers$Writing"
def T_wr : u_T := fun k => match k with
  | 0 => ("PromotedNumbers$Writing", "row", "[C", true)
  | 1 => ("PromotedNumbers$Writing", "left", "LPromotedNumbers$Whole;", true)
  | _ => ("PromotedNumbers$Writing", "start", "I", false)
def y_ty_wr : Nat → FieldType := fun k => match k with
  | 0 => .array .char
  | 1 => .object "PromotedNumbers$Whole"
  | _ => .int
abbrev R_pn : String := "PromotedNumbers"
def T_pn : u_T := fun k => match k with
  | 0 => ("PromotedNumbers", "text", "[C", true)
  | 1 => ("PromotedNumbers", "length", "I", false)
  | 2 => ("PromotedNumbers", "foundFault", "I", false)
  | 3 => ("PromotedNumbers", "result", "LPromotedNumbers$Fraction;", true)
  | 4 => ("PromotedNumbers", "writing", "LPromotedNumbers$Writing;", true)
  | 5 => ("PromotedNumbers", "grammar", "LPromotedNumbers$Grammar;", true)
  | _ => ("PromotedNumbers", "machine", "LPromotedNumbers$Machine;", true)
def y_ty_pn : Nat → FieldType := fun k => match k with
  | 0 => .array .char
  | 1 => .int
  | 2 => .int
  | 3 => .object "PromotedNumbers$Fraction"
  | 4 => .object "PromotedNumbers$Writing"
  | 5 => .object "PromotedNumbers$Grammar"
  | _ => .object "PromotedNumbers$Machine"
abbrev R_mo : String := "PromotedNumbersModel"
def T_mo : u_T := fun k => match k with
  | 0 => ("PromotedNumbersModel", "code", "I", false)
  | 1 => ("PromotedNumbersModel", "typed", "I", false)
  | 2 => ("PromotedNumbersModel", "text", "[I", true)
  | 3 => ("PromotedNumbersModel", "told", "I", false)
  | 4 => ("PromotedNumbersModel", "digits", "[I", true)
  | 5 => ("PromotedNumbersModel", "used", "[I", true)
  | 6 => ("PromotedNumbersModel", "signs", "[I", true)
  | 7 => ("PromotedNumbersModel", "ops", "[I", true)
  | 8 => ("PromotedNumbersModel", "counts", "[I", true)
  | 9 => ("PromotedNumbersModel", "bases", "[I", true)
  | 10 => ("PromotedNumbersModel", "open", "I", false)
  | 11 => ("PromotedNumbersModel", "top", "I", false)
  | _ => ("PromotedNumbersModel", "at", "I", false)
def y_ty_mo : Nat → FieldType := fun k => match k with
  | 0 => .int
  | 1 => .int
  | 2 => .array .int
  | 3 => .int
  | 4 => .array .int
  | 5 => .array .int
  | 6 => .array .int
  | 7 => .array .int
  | 8 => .array .int
  | 9 => .array .int
  | 10 => .int
  | 11 => .int
  | _ => .int
abbrev vwCl : List vw_C := [(R_ca, T_ca, 7), (R_di, T_di, 4), (R_fr, T_fr, 3), (R_gr, T_gr, 3), (R_ma, T_ma, 10), (R_wh, T_wh, 2), (R_wr, T_wr, 3), (R_pn, T_pn, 7), (R_mo, T_mo, 13)]
theorem tw_1_0 : (Jvm.Cond.initialized "PromotedNumbersLaw") ∈ go_T := go_t1 (List.mem_of_getElem? (i := 0) rfl) rfl
theorem tw_1_1 : (Jvm.Cond.initialized "PromotedNumbers") ∈ go_T := go_t1 (List.mem_of_getElem? (i := 1) rfl) rfl
theorem tw_1_2 : (Jvm.Cond.initialized "PromotedNumbers$Fraction") ∈ go_T := go_t1 (List.mem_of_getElem? (i := 2) rfl) rfl
theorem tw_1_3 : (Jvm.Cond.initialized "PromotedNumbers$Whole") ∈ go_T := go_t1 (List.mem_of_getElem? (i := 3) rfl) rfl
theorem tw_1_4 : (Jvm.Cond.initialized "PromotedNumbers$Writing") ∈ go_T := go_t1 (List.mem_of_getElem? (i := 4) rfl) rfl
theorem tw_1_5 : (Jvm.Cond.initialized "PromotedNumbers$Grammar") ∈ go_T := go_t1 (List.mem_of_getElem? (i := 5) rfl) rfl
theorem tw_1_6 : (Jvm.Cond.initialized "PromotedNumbers$Machine") ∈ go_T := go_t1 (List.mem_of_getElem? (i := 6) rfl) rfl
theorem tw_1_7 : (Jvm.Cond.initialized "PromotedNumbers$Calculator") ∈ go_T := go_t1 (List.mem_of_getElem? (i := 7) rfl) rfl
theorem tw_1_8 : (Jvm.Cond.initialized "PromotedNumbers$Divider") ∈ go_T := go_t1 (List.mem_of_getElem? (i := 8) rfl) rfl
theorem tw_1_9 : (Jvm.Cond.initialized "PromotedNumbersModel") ∈ go_T := go_t1 (List.mem_of_getElem? (i := 9) rfl) rfl
theorem tw_1_10 : (Jvm.Cond.initialized "java/lang/String") ∈ go_T := go_t1 (List.mem_of_getElem? (i := 10) rfl) rfl
theorem tw_1_11 : (Jvm.Cond.initialized "java/lang/StringLatin1") ∈ go_T := go_t1 (List.mem_of_getElem? (i := 11) rfl) rfl
theorem tw_1_12 : (Jvm.Cond.initialized "java/lang/Math") ∈ go_T := go_t1 (List.mem_of_getElem? (i := 12) rfl) rfl
theorem tw_1_13 : (Jvm.Cond.initialized "java/lang/StringUTF16") ∈ go_T := go_t1 (List.mem_of_getElem? (i := 13) rfl) rfl
theorem tw_1_14 : (Jvm.Cond.initialized "jdk/internal/util/Preconditions") ∈ go_T := go_t1 (List.mem_of_getElem? (i := 14) rfl) rfl
theorem tw_1_15 : (Jvm.Cond.initialized "java/lang/Character") ∈ go_T := go_t1 (List.mem_of_getElem? (i := 15) rfl) rfl
theorem tw_1_16 : (Jvm.Cond.initialized "java/lang/Throwable") ∈ go_T := go_t1 (List.mem_of_getElem? (i := 16) rfl) rfl
theorem tw_1_17 : (Jvm.Cond.initialized "java/lang/Exception") ∈ go_T := go_t1 (List.mem_of_getElem? (i := 17) rfl) rfl
theorem tw_1_18 : (Jvm.Cond.initialized "java/lang/RuntimeException") ∈ go_T := go_t1 (List.mem_of_getElem? (i := 18) rfl) rfl
theorem tw_1_19 : (Jvm.Cond.initialized "java/lang/IllegalArgumentException") ∈ go_T := go_t1 (List.mem_of_getElem? (i := 19) rfl) rfl
theorem tw_1_20 : (Jvm.Cond.initialized "java/lang/System") ∈ go_T := go_t1 (List.mem_of_getElem? (i := 20) rfl) rfl
theorem tw_1_21 : (Jvm.Cond.initialized "java/lang/Integer") ∈ go_T := go_t1 (List.mem_of_getElem? (i := 21) rfl) rfl
theorem tw_1_22 : (Jvm.Cond.initialized "java/lang/UnsupportedOperationException") ∈ go_T := go_t1 (List.mem_of_getElem? (i := 22) rfl) rfl
theorem tw_1_23 : (Jvm.Cond.initialized "java/lang/ArithmeticException") ∈ go_T := go_t1 (List.mem_of_getElem? (i := 23) rfl) rfl
theorem tw_1_24 : (Jvm.Cond.initialized "java/lang/IllegalStateException") ∈ go_T := go_t1 (List.mem_of_getElem? (i := 24) rfl) rfl
theorem tw_1_25 : (Jvm.Cond.initialized "java/lang/IndexOutOfBoundsException") ∈ go_T := go_t1 (List.mem_of_getElem? (i := 25) rfl) rfl
theorem tw_1_26 : (Jvm.Cond.classLink "PromotedNumbersLaw" (8 : Nat) "PromotedNumbers") ∈ go_T := go_t1 (List.mem_of_getElem? (i := 26) rfl) rfl
theorem tw_1_27 : (Jvm.Cond.instantiable "PromotedNumbers" (7 : Nat)) ∈ go_T := go_t1 (List.mem_of_getElem? (i := 27) rfl) rfl
theorem tw_1_28 : (Jvm.Cond.methodLink "PromotedNumbersLaw" (33 : Nat) ({ cls := "PromotedNumbers", name := "<init>", desc := "()V" } : Jvm.MethodName)) ∈ go_T := go_t1 (List.mem_of_getElem? (i := 28) rfl) rfl
theorem tw_1_29 : (Jvm.Cond.instanceMethod ({ cls := "PromotedNumbers", name := "<init>", desc := "()V" } : Jvm.MethodName)) ∈ go_T := go_t1 (List.mem_of_getElem? (i := 29) rfl) rfl
theorem tw_1_30 : (Jvm.Cond.code ({ cls := "PromotedNumbers", name := "<init>", desc := "()V" } : Jvm.MethodName) prog_1_method_1_code (1 : Nat) (Option.none : Option Jvm.ClassFile.FieldType)) ∈ go_T := go_t1 (List.mem_of_getElem? (i := 30) rfl) rfl
theorem tw_1_31 : (Jvm.Cond.methodLink "PromotedNumbers" (3 : Nat) ({ cls := "java/lang/Object", name := "<init>", desc := "()V" } : Jvm.MethodName)) ∈ go_T := go_t1 (List.mem_of_getElem? (i := 31) rfl) rfl
theorem tw_1_32 : (Jvm.Cond.instanceMethod ({ cls := "java/lang/Object", name := "<init>", desc := "()V" } : Jvm.MethodName)) ∈ go_T := go_t1 (List.mem_of_getElem? (i := 32) rfl) rfl
theorem tw_1_33 : (Jvm.Cond.code ({ cls := "java/lang/Object", name := "<init>", desc := "()V" } : Jvm.MethodName) object_method_1_code (1 : Nat) (Option.none : Option Jvm.ClassFile.FieldType)) ∈ go_T := go_t1 (List.mem_of_getElem? (i := 33) rfl) rfl
theorem tw_1_34 : (Jvm.Cond.classLink "PromotedNumbers" (17 : Nat) "PromotedNumbers$Fraction") ∈ go_T := go_t1 (List.mem_of_getElem? (i := 34) rfl) rfl
theorem tw_1_35 : (Jvm.Cond.instantiable "PromotedNumbers$Fraction" (3 : Nat)) ∈ go_T := go_t1 (List.mem_of_getElem? (i := 35) rfl) rfl
theorem tw_1_36 : (Jvm.Cond.methodLink "PromotedNumbers" (19 : Nat) ({ cls := "PromotedNumbers$Fraction", name := "<init>", desc := "()V" } : Jvm.MethodName)) ∈ go_T := go_t1 (List.mem_of_getElem? (i := 36) rfl) rfl
theorem tw_1_37 : (Jvm.Cond.instanceMethod ({ cls := "PromotedNumbers$Fraction", name := "<init>", desc := "()V" } : Jvm.MethodName)) ∈ go_T := go_t1 (List.mem_of_getElem? (i := 37) rfl) rfl
theorem tw_1_38 : (Jvm.Cond.code ({ cls := "PromotedNumbers$Fraction", name := "<init>", desc := "()V" } : Jvm.MethodName) prog_4_method_1_code (1 : Nat) (Option.none : Option Jvm.ClassFile.FieldType)) ∈ go_T := go_t1 (List.mem_of_getElem? (i := 38) rfl) rfl
theorem tw_1_39 : (Jvm.Cond.methodLink "PromotedNumbers$Fraction" (3 : Nat) ({ cls := "java/lang/Object", name := "<init>", desc := "()V" } : Jvm.MethodName)) ∈ go_T := go_t1 (List.mem_of_getElem? (i := 39) rfl) rfl
theorem tw_1_40 : (Jvm.Cond.classLink "PromotedNumbers$Fraction" (9 : Nat) "PromotedNumbers$Whole") ∈ go_T := go_t1 (List.mem_of_getElem? (i := 40) rfl) rfl
theorem tw_1_41 : (Jvm.Cond.instantiable "PromotedNumbers$Whole" (2 : Nat)) ∈ go_T := go_t1 (List.mem_of_getElem? (i := 41) rfl) rfl
theorem tw_1_42 : (Jvm.Cond.methodLink "PromotedNumbers$Fraction" (11 : Nat) ({ cls := "PromotedNumbers$Whole", name := "<init>", desc := "(I)V" } : Jvm.MethodName)) ∈ go_T := go_t1 (List.mem_of_getElem? (i := 42) rfl) rfl
theorem tw_1_43 : (Jvm.Cond.instanceMethod ({ cls := "PromotedNumbers$Whole", name := "<init>", desc := "(I)V" } : Jvm.MethodName)) ∈ go_T := go_t1 (List.mem_of_getElem? (i := 43) rfl) rfl
theorem tw_1_44 : (Jvm.Cond.code ({ cls := "PromotedNumbers$Whole", name := "<init>", desc := "(I)V" } : Jvm.MethodName) prog_7_method_1_code (2 : Nat) (Option.none : Option Jvm.ClassFile.FieldType)) ∈ go_T := go_t1 (List.mem_of_getElem? (i := 44) rfl) rfl
theorem tw_1_45 : (Jvm.Cond.methodLink "PromotedNumbers$Whole" (3 : Nat) ({ cls := "java/lang/Object", name := "<init>", desc := "()V" } : Jvm.MethodName)) ∈ go_T := go_t1 (List.mem_of_getElem? (i := 45) rfl) rfl
theorem tw_1_46 : (Jvm.Cond.fieldLink "PromotedNumbers$Whole" (9 : Nat) "PromotedNumbers$Whole" "limbs" "[I") ∈ go_T := go_t1 (List.mem_of_getElem? (i := 46) rfl) rfl
theorem tw_1_49 : (Jvm.Cond.fieldLink "PromotedNumbers$Whole" (15 : Nat) "PromotedNumbers$Whole" "size" "I") ∈ go_T := go_t1 (List.mem_of_getElem? (i := 49) rfl) rfl
theorem tw_1_53 : (Jvm.Cond.laysFinal "PromotedNumbers$Whole" "PromotedNumbers$Whole" "limbs" "[I") ∈ go_T := go_t1 (List.mem_of_getElem? (i := 53) rfl) rfl
theorem tw_1_55 : (Jvm.Cond.lays "PromotedNumbers$Whole" "PromotedNumbers$Whole" "size" "I") ∈ go_T := go_t1 (List.mem_of_getElem? (i := 55) rfl) rfl
theorem tw_1_57 : (Jvm.Cond.superclass "PromotedNumbers$Whole" "java/lang/Object") ∈ go_T := go_t1 (List.mem_of_getElem? (i := 57) rfl) rfl
theorem tw_1_58 : (Jvm.Cond.arrayClass Jvm.ClassFile.FieldType.char) ∈ go_T := go_t1 (List.mem_of_getElem? (i := 58) rfl) rfl
theorem tw_1_59 : (Jvm.Cond.arrayClass Jvm.ClassFile.FieldType.int) ∈ go_T := go_t1 (List.mem_of_getElem? (i := 59) rfl) rfl
theorem tw_1_60 : (Jvm.Cond.methodLink "PromotedNumbers$Fraction" (23 : Nat) ({ cls := "PromotedNumbers$Whole", name := "become", desc := "(I)V" } : Jvm.MethodName)) ∈ go_T := go_t1 (List.mem_of_getElem? (i := 60) rfl) rfl
theorem tw_1_61 : (Jvm.Cond.instanceMethod ({ cls := "PromotedNumbers$Whole", name := "become", desc := "(I)V" } : Jvm.MethodName)) ∈ go_T := go_t1 (List.mem_of_getElem? (i := 61) rfl) rfl
theorem tw_1_62 : (Jvm.Cond.selects "PromotedNumbers$Whole" ({ cls := "PromotedNumbers$Whole", name := "become", desc := "(I)V" } : Jvm.MethodName) ({ cls := "PromotedNumbers$Whole", name := "become", desc := "(I)V" } : Jvm.MethodName)) ∈ go_T := go_t1 (List.mem_of_getElem? (i := 62) rfl) rfl
theorem tw_1_63 : (Jvm.Cond.code ({ cls := "PromotedNumbers$Whole", name := "become", desc := "(I)V" } : Jvm.MethodName) prog_7_method_2_code (2 : Nat) (Option.none : Option Jvm.ClassFile.FieldType)) ∈ go_T := go_t1 (List.mem_of_getElem? (i := 63) rfl) rfl
theorem tw_1_64 : (Jvm.Cond.fieldLink "PromotedNumbers$Fraction" (14 : Nat) "PromotedNumbers$Fraction" "n" "LPromotedNumbers$Whole;") ∈ go_T := go_t1 (List.mem_of_getElem? (i := 64) rfl) rfl
theorem tw_1_69 : (Jvm.Cond.fieldLink "PromotedNumbers$Fraction" (20 : Nat) "PromotedNumbers$Fraction" "d" "LPromotedNumbers$Whole;") ∈ go_T := go_t1 (List.mem_of_getElem? (i := 69) rfl) rfl
theorem tw_1_74 : (Jvm.Cond.fieldLink "PromotedNumbers$Fraction" (26 : Nat) "PromotedNumbers$Fraction" "below" "Z") ∈ go_T := go_t1 (List.mem_of_getElem? (i := 74) rfl) rfl
theorem tw_1_78 : (Jvm.Cond.laysFinal "PromotedNumbers$Fraction" "PromotedNumbers$Fraction" "n" "LPromotedNumbers$Whole;") ∈ go_T := go_t1 (List.mem_of_getElem? (i := 78) rfl) rfl
theorem tw_1_80 : (Jvm.Cond.laysFinal "PromotedNumbers$Fraction" "PromotedNumbers$Fraction" "d" "LPromotedNumbers$Whole;") ∈ go_T := go_t1 (List.mem_of_getElem? (i := 80) rfl) rfl
theorem tw_1_82 : (Jvm.Cond.lays "PromotedNumbers$Fraction" "PromotedNumbers$Fraction" "below" "Z") ∈ go_T := go_t1 (List.mem_of_getElem? (i := 82) rfl) rfl
theorem tw_1_84 : (Jvm.Cond.superclass "PromotedNumbers$Fraction" "java/lang/Object") ∈ go_T := go_t1 (List.mem_of_getElem? (i := 84) rfl) rfl
theorem tw_1_85 : (Jvm.Cond.classLink "PromotedNumbers" (24 : Nat) "PromotedNumbers$Writing") ∈ go_T := go_t1 (List.mem_of_getElem? (i := 85) rfl) rfl
theorem tw_1_86 : (Jvm.Cond.instantiable "PromotedNumbers$Writing" (3 : Nat)) ∈ go_T := go_t1 (List.mem_of_getElem? (i := 86) rfl) rfl
theorem tw_1_87 : (Jvm.Cond.methodLink "PromotedNumbers" (26 : Nat) ({ cls := "PromotedNumbers$Writing", name := "<init>", desc := "()V" } : Jvm.MethodName)) ∈ go_T := go_t1 (List.mem_of_getElem? (i := 87) rfl) rfl
theorem tw_1_88 : (Jvm.Cond.instanceMethod ({ cls := "PromotedNumbers$Writing", name := "<init>", desc := "()V" } : Jvm.MethodName)) ∈ go_T := go_t1 (List.mem_of_getElem? (i := 88) rfl) rfl
theorem tw_1_89 : (Jvm.Cond.code ({ cls := "PromotedNumbers$Writing", name := "<init>", desc := "()V" } : Jvm.MethodName) prog_8_method_1_code (1 : Nat) (Option.none : Option Jvm.ClassFile.FieldType)) ∈ go_T := go_t1 (List.mem_of_getElem? (i := 89) rfl) rfl
theorem tw_1_90 : (Jvm.Cond.methodLink "PromotedNumbers$Writing" (5 : Nat) ({ cls := "java/lang/Object", name := "<init>", desc := "()V" } : Jvm.MethodName)) ∈ go_T := go_t1 (List.mem_of_getElem? (i := 90) rfl) rfl
theorem tw_1_91 : (Jvm.Cond.classLink "PromotedNumbers$Writing" (15 : Nat) "PromotedNumbers$Whole") ∈ go_T := go_t1 (List.mem_of_getElem? (i := 91) rfl) rfl
theorem tw_1_92 : (Jvm.Cond.methodLink "PromotedNumbers$Writing" (17 : Nat) ({ cls := "PromotedNumbers$Whole", name := "<init>", desc := "(I)V" } : Jvm.MethodName)) ∈ go_T := go_t1 (List.mem_of_getElem? (i := 92) rfl) rfl
theorem tw_1_93 : (Jvm.Cond.fieldLink "PromotedNumbers$Writing" (11 : Nat) "PromotedNumbers$Writing" "row" "[C") ∈ go_T := go_t1 (List.mem_of_getElem? (i := 93) rfl) rfl
theorem tw_1_94 : (Jvm.Cond.fieldLink "PromotedNumbers$Writing" (20 : Nat) "PromotedNumbers$Writing" "left" "LPromotedNumbers$Whole;") ∈ go_T := go_t1 (List.mem_of_getElem? (i := 94) rfl) rfl
theorem tw_1_95 : (Jvm.Cond.fieldLink "PromotedNumbers$Writing" (24 : Nat) "PromotedNumbers$Writing" "start" "I") ∈ go_T := go_t1 (List.mem_of_getElem? (i := 95) rfl) rfl
theorem tw_1_96 : (Jvm.Cond.laysFinal "PromotedNumbers$Writing" "PromotedNumbers$Writing" "row" "[C") ∈ go_T := go_t1 (List.mem_of_getElem? (i := 96) rfl) rfl
theorem tw_1_98 : (Jvm.Cond.laysFinal "PromotedNumbers$Writing" "PromotedNumbers$Writing" "left" "LPromotedNumbers$Whole;") ∈ go_T := go_t1 (List.mem_of_getElem? (i := 98) rfl) rfl
theorem tw_1_100 : (Jvm.Cond.lays "PromotedNumbers$Writing" "PromotedNumbers$Writing" "start" "I") ∈ go_T := go_t1 (List.mem_of_getElem? (i := 100) rfl) rfl
theorem tw_1_102 : (Jvm.Cond.superclass "PromotedNumbers$Writing" "java/lang/Object") ∈ go_T := go_t1 (List.mem_of_getElem? (i := 102) rfl) rfl
theorem tw_1_103 : (Jvm.Cond.classLink "PromotedNumbers" (31 : Nat) "PromotedNumbers$Grammar") ∈ go_T := go_t1 (List.mem_of_getElem? (i := 103) rfl) rfl
theorem tw_1_104 : (Jvm.Cond.instantiable "PromotedNumbers$Grammar" (3 : Nat)) ∈ go_T := go_t1 (List.mem_of_getElem? (i := 104) rfl) rfl
theorem tw_1_106 : (Jvm.Cond.instanceMethod ({ cls := "PromotedNumbers$Grammar", name := "<init>", desc := "()V" } : Jvm.MethodName)) ∈ go_T := go_t1 (List.mem_of_getElem? (i := 106) rfl) rfl
theorem tw_1_107 : (Jvm.Cond.code ({ cls := "PromotedNumbers$Grammar", name := "<init>", desc := "()V" } : Jvm.MethodName) prog_5_method_1_code (1 : Nat) (Option.none : Option Jvm.ClassFile.FieldType)) ∈ go_T := go_t1 (List.mem_of_getElem? (i := 107) rfl) rfl
theorem tw_1_108 : (Jvm.Cond.methodLink "PromotedNumbers$Grammar" (3 : Nat) ({ cls := "java/lang/Object", name := "<init>", desc := "()V" } : Jvm.MethodName)) ∈ go_T := go_t1 (List.mem_of_getElem? (i := 108) rfl) rfl
theorem tw_1_109 : (Jvm.Cond.fieldLink "PromotedNumbers$Grammar" (9 : Nat) "PromotedNumbers$Grammar" "operators" "[I") ∈ go_T := go_t1 (List.mem_of_getElem? (i := 109) rfl) rfl
theorem tw_1_110 : (Jvm.Cond.fieldLink "PromotedNumbers$Grammar" (15 : Nat) "PromotedNumbers$Grammar" "arguments" "[I") ∈ go_T := go_t1 (List.mem_of_getElem? (i := 110) rfl) rfl
theorem tw_1_111 : (Jvm.Cond.fieldLink "PromotedNumbers$Grammar" (18 : Nat) "PromotedNumbers$Grammar" "open" "I") ∈ go_T := go_t1 (List.mem_of_getElem? (i := 111) rfl) rfl
theorem tw_1_112 : (Jvm.Cond.laysFinal "PromotedNumbers$Grammar" "PromotedNumbers$Grammar" "operators" "[I") ∈ go_T := go_t1 (List.mem_of_getElem? (i := 112) rfl) rfl
theorem tw_1_114 : (Jvm.Cond.laysFinal "PromotedNumbers$Grammar" "PromotedNumbers$Grammar" "arguments" "[I") ∈ go_T := go_t1 (List.mem_of_getElem? (i := 114) rfl) rfl
theorem tw_1_116 : (Jvm.Cond.lays "PromotedNumbers$Grammar" "PromotedNumbers$Grammar" "open" "I") ∈ go_T := go_t1 (List.mem_of_getElem? (i := 116) rfl) rfl
theorem tw_1_118 : (Jvm.Cond.superclass "PromotedNumbers$Grammar" "java/lang/Object") ∈ go_T := go_t1 (List.mem_of_getElem? (i := 118) rfl) rfl
theorem tw_1_119 : (Jvm.Cond.classLink "PromotedNumbers" (38 : Nat) "PromotedNumbers$Machine") ∈ go_T := go_t1 (List.mem_of_getElem? (i := 119) rfl) rfl
theorem tw_1_120 : (Jvm.Cond.instantiable "PromotedNumbers$Machine" (10 : Nat)) ∈ go_T := go_t1 (List.mem_of_getElem? (i := 120) rfl) rfl
theorem tw_1_121 : (Jvm.Cond.methodLink "PromotedNumbers" (40 : Nat) ({ cls := "PromotedNumbers$Machine", name := "<init>", desc := "()V" } : Jvm.MethodName)) ∈ go_T := go_t1 (List.mem_of_getElem? (i := 121) rfl) rfl
theorem tw_1_122 : (Jvm.Cond.instanceMethod ({ cls := "PromotedNumbers$Machine", name := "<init>", desc := "()V" } : Jvm.MethodName)) ∈ go_T := go_t1 (List.mem_of_getElem? (i := 122) rfl) rfl
theorem tw_1_123 : (Jvm.Cond.code ({ cls := "PromotedNumbers$Machine", name := "<init>", desc := "()V" } : Jvm.MethodName) prog_6_method_1_code (2 : Nat) (Option.none : Option Jvm.ClassFile.FieldType)) ∈ go_T := go_t1 (List.mem_of_getElem? (i := 123) rfl) rfl
theorem tw_1_124 : (Jvm.Cond.methodLink "PromotedNumbers$Machine" (3 : Nat) ({ cls := "java/lang/Object", name := "<init>", desc := "()V" } : Jvm.MethodName)) ∈ go_T := go_t1 (List.mem_of_getElem? (i := 124) rfl) rfl
theorem tw_1_125 : (Jvm.Cond.classLink "PromotedNumbers$Machine" (9 : Nat) "PromotedNumbers$Calculator") ∈ go_T := go_t1 (List.mem_of_getElem? (i := 125) rfl) rfl
theorem tw_1_126 : (Jvm.Cond.instantiable "PromotedNumbers$Calculator" (7 : Nat)) ∈ go_T := go_t1 (List.mem_of_getElem? (i := 126) rfl) rfl
theorem tw_1_128 : (Jvm.Cond.instanceMethod ({ cls := "PromotedNumbers$Calculator", name := "<init>", desc := "()V" } : Jvm.MethodName)) ∈ go_T := go_t1 (List.mem_of_getElem? (i := 128) rfl) rfl
theorem tw_1_129 : (Jvm.Cond.code ({ cls := "PromotedNumbers$Calculator", name := "<init>", desc := "()V" } : Jvm.MethodName) prog_2_method_1_code (1 : Nat) (Option.none : Option Jvm.ClassFile.FieldType)) ∈ go_T := go_t1 (List.mem_of_getElem? (i := 129) rfl) rfl
theorem tw_1_130 : (Jvm.Cond.methodLink "PromotedNumbers$Calculator" (3 : Nat) ({ cls := "java/lang/Object", name := "<init>", desc := "()V" } : Jvm.MethodName)) ∈ go_T := go_t1 (List.mem_of_getElem? (i := 130) rfl) rfl
theorem tw_1_131 : (Jvm.Cond.classLink "PromotedNumbers$Calculator" (9 : Nat) "PromotedNumbers$Divider") ∈ go_T := go_t1 (List.mem_of_getElem? (i := 131) rfl) rfl
theorem tw_1_132 : (Jvm.Cond.instantiable "PromotedNumbers$Divider" (4 : Nat)) ∈ go_T := go_t1 (List.mem_of_getElem? (i := 132) rfl) rfl
theorem tw_1_134 : (Jvm.Cond.instanceMethod ({ cls := "PromotedNumbers$Divider", name := "<init>", desc := "()V" } : Jvm.MethodName)) ∈ go_T := go_t1 (List.mem_of_getElem? (i := 134) rfl) rfl
theorem tw_1_135 : (Jvm.Cond.code ({ cls := "PromotedNumbers$Divider", name := "<init>", desc := "()V" } : Jvm.MethodName) prog_3_method_1_code (1 : Nat) (Option.none : Option Jvm.ClassFile.FieldType)) ∈ go_T := go_t1 (List.mem_of_getElem? (i := 135) rfl) rfl
theorem tw_1_136 : (Jvm.Cond.methodLink "PromotedNumbers$Divider" (3 : Nat) ({ cls := "java/lang/Object", name := "<init>", desc := "()V" } : Jvm.MethodName)) ∈ go_T := go_t1 (List.mem_of_getElem? (i := 136) rfl) rfl
theorem tw_1_137 : (Jvm.Cond.classLink "PromotedNumbers$Divider" (9 : Nat) "PromotedNumbers$Whole") ∈ go_T := go_t1 (List.mem_of_getElem? (i := 137) rfl) rfl
theorem tw_1_138 : (Jvm.Cond.methodLink "PromotedNumbers$Divider" (11 : Nat) ({ cls := "PromotedNumbers$Whole", name := "<init>", desc := "(I)V" } : Jvm.MethodName)) ∈ go_T := go_t1 (List.mem_of_getElem? (i := 138) rfl) rfl
theorem tw_1_139 : (Jvm.Cond.fieldLink "PromotedNumbers$Divider" (14 : Nat) "PromotedNumbers$Divider" "rest" "LPromotedNumbers$Whole;") ∈ go_T := go_t1 (List.mem_of_getElem? (i := 139) rfl) rfl
theorem tw_1_141 : (Jvm.Cond.fieldLink "PromotedNumbers$Divider" (20 : Nat) "PromotedNumbers$Divider" "scaled" "LPromotedNumbers$Whole;") ∈ go_T := go_t1 (List.mem_of_getElem? (i := 141) rfl) rfl
theorem tw_1_142 : (Jvm.Cond.fieldLink "PromotedNumbers$Divider" (23 : Nat) "PromotedNumbers$Divider" "first" "LPromotedNumbers$Whole;") ∈ go_T := go_t1 (List.mem_of_getElem? (i := 142) rfl) rfl
theorem tw_1_143 : (Jvm.Cond.fieldLink "PromotedNumbers$Divider" (26 : Nat) "PromotedNumbers$Divider" "second" "LPromotedNumbers$Whole;") ∈ go_T := go_t1 (List.mem_of_getElem? (i := 143) rfl) rfl
theorem tw_1_144 : (Jvm.Cond.laysFinal "PromotedNumbers$Divider" "PromotedNumbers$Divider" "rest" "LPromotedNumbers$Whole;") ∈ go_T := go_t1 (List.mem_of_getElem? (i := 144) rfl) rfl
theorem tw_1_146 : (Jvm.Cond.laysFinal "PromotedNumbers$Divider" "PromotedNumbers$Divider" "scaled" "LPromotedNumbers$Whole;") ∈ go_T := go_t1 (List.mem_of_getElem? (i := 146) rfl) rfl
theorem tw_1_148 : (Jvm.Cond.laysFinal "PromotedNumbers$Divider" "PromotedNumbers$Divider" "first" "LPromotedNumbers$Whole;") ∈ go_T := go_t1 (List.mem_of_getElem? (i := 148) rfl) rfl
theorem tw_1_150 : (Jvm.Cond.laysFinal "PromotedNumbers$Divider" "PromotedNumbers$Divider" "second" "LPromotedNumbers$Whole;") ∈ go_T := go_t1 (List.mem_of_getElem? (i := 150) rfl) rfl
theorem tw_1_152 : (Jvm.Cond.superclass "PromotedNumbers$Divider" "java/lang/Object") ∈ go_T := go_t1 (List.mem_of_getElem? (i := 152) rfl) rfl
theorem tw_1_153 : (Jvm.Cond.classLink "PromotedNumbers$Calculator" (18 : Nat) "PromotedNumbers$Whole") ∈ go_T := go_t1 (List.mem_of_getElem? (i := 153) rfl) rfl
theorem tw_1_154 : (Jvm.Cond.methodLink "PromotedNumbers$Calculator" (20 : Nat) ({ cls := "PromotedNumbers$Whole", name := "<init>", desc := "(I)V" } : Jvm.MethodName)) ∈ go_T := go_t1 (List.mem_of_getElem? (i := 154) rfl) rfl
theorem tw_1_155 : (Jvm.Cond.fieldLink "PromotedNumbers$Calculator" (12 : Nat) "PromotedNumbers$Calculator" "divider" "LPromotedNumbers$Divider;") ∈ go_T := go_t1 (List.mem_of_getElem? (i := 155) rfl) rfl
theorem tw_1_156 : (Jvm.Cond.fieldLink "PromotedNumbers$Calculator" (23 : Nat) "PromotedNumbers$Calculator" "common" "LPromotedNumbers$Whole;") ∈ go_T := go_t1 (List.mem_of_getElem? (i := 156) rfl) rfl
theorem tw_1_157 : (Jvm.Cond.fieldLink "PromotedNumbers$Calculator" (27 : Nat) "PromotedNumbers$Calculator" "ownShare" "LPromotedNumbers$Whole;") ∈ go_T := go_t1 (List.mem_of_getElem? (i := 157) rfl) rfl
theorem tw_1_158 : (Jvm.Cond.fieldLink "PromotedNumbers$Calculator" (30 : Nat) "PromotedNumbers$Calculator" "otherShare" "LPromotedNumbers$Whole;") ∈ go_T := go_t1 (List.mem_of_getElem? (i := 158) rfl) rfl
theorem tw_1_159 : (Jvm.Cond.fieldLink "PromotedNumbers$Calculator" (33 : Nat) "PromotedNumbers$Calculator" "top" "LPromotedNumbers$Whole;") ∈ go_T := go_t1 (List.mem_of_getElem? (i := 159) rfl) rfl
theorem tw_1_160 : (Jvm.Cond.fieldLink "PromotedNumbers$Calculator" (36 : Nat) "PromotedNumbers$Calculator" "bottom" "LPromotedNumbers$Whole;") ∈ go_T := go_t1 (List.mem_of_getElem? (i := 160) rfl) rfl
theorem tw_1_161 : (Jvm.Cond.fieldLink "PromotedNumbers$Calculator" (39 : Nat) "PromotedNumbers$Calculator" "spare" "LPromotedNumbers$Whole;") ∈ go_T := go_t1 (List.mem_of_getElem? (i := 161) rfl) rfl
theorem tw_1_162 : (Jvm.Cond.laysFinal "PromotedNumbers$Calculator" "PromotedNumbers$Calculator" "divider" "LPromotedNumbers$Divider;") ∈ go_T := go_t1 (List.mem_of_getElem? (i := 162) rfl) rfl
theorem tw_1_164 : (Jvm.Cond.laysFinal "PromotedNumbers$Calculator" "PromotedNumbers$Calculator" "common" "LPromotedNumbers$Whole;") ∈ go_T := go_t1 (List.mem_of_getElem? (i := 164) rfl) rfl
theorem tw_1_166 : (Jvm.Cond.laysFinal "PromotedNumbers$Calculator" "PromotedNumbers$Calculator" "ownShare" "LPromotedNumbers$Whole;") ∈ go_T := go_t1 (List.mem_of_getElem? (i := 166) rfl) rfl
theorem tw_1_168 : (Jvm.Cond.laysFinal "PromotedNumbers$Calculator" "PromotedNumbers$Calculator" "otherShare" "LPromotedNumbers$Whole;") ∈ go_T := go_t1 (List.mem_of_getElem? (i := 168) rfl) rfl
theorem tw_1_170 : (Jvm.Cond.laysFinal "PromotedNumbers$Calculator" "PromotedNumbers$Calculator" "top" "LPromotedNumbers$Whole;") ∈ go_T := go_t1 (List.mem_of_getElem? (i := 170) rfl) rfl
theorem tw_1_172 : (Jvm.Cond.laysFinal "PromotedNumbers$Calculator" "PromotedNumbers$Calculator" "bottom" "LPromotedNumbers$Whole;") ∈ go_T := go_t1 (List.mem_of_getElem? (i := 172) rfl) rfl
theorem tw_1_174 : (Jvm.Cond.laysFinal "PromotedNumbers$Calculator" "PromotedNumbers$Calculator" "spare" "LPromotedNumbers$Whole;") ∈ go_T := go_t1 (List.mem_of_getElem? (i := 174) rfl) rfl
theorem tw_1_176 : (Jvm.Cond.superclass "PromotedNumbers$Calculator" "java/lang/Object") ∈ go_T := go_t1 (List.mem_of_getElem? (i := 176) rfl) rfl
theorem tw_1_177 : (Jvm.Cond.classLink "PromotedNumbers$Machine" (18 : Nat) "PromotedNumbers$Fraction") ∈ go_T := go_t1 (List.mem_of_getElem? (i := 177) rfl) rfl
theorem tw_1_179 : (Jvm.Cond.methodLink "PromotedNumbers$Machine" (27 : Nat) ({ cls := "PromotedNumbers$Fraction", name := "<init>", desc := "()V" } : Jvm.MethodName)) ∈ go_T := go_t1 (List.mem_of_getElem? (i := 179) rfl) rfl
theorem tw_1_180 : (Jvm.Cond.classLink "PromotedNumbers$Machine" (32 : Nat) "PromotedNumbers$Whole") ∈ go_T := go_t1 (List.mem_of_getElem? (i := 180) rfl) rfl
theorem tw_1_181 : (Jvm.Cond.methodLink "PromotedNumbers$Machine" (34 : Nat) ({ cls := "PromotedNumbers$Whole", name := "<init>", desc := "(I)V" } : Jvm.MethodName)) ∈ go_T := go_t1 (List.mem_of_getElem? (i := 181) rfl) rfl
theorem tw_1_182 : (Jvm.Cond.fieldLink "PromotedNumbers$Machine" (12 : Nat) "PromotedNumbers$Machine" "calculator" "LPromotedNumbers$Calculator;") ∈ go_T := go_t1 (List.mem_of_getElem? (i := 182) rfl) rfl
theorem tw_1_184 : (Jvm.Cond.fieldLink "PromotedNumbers$Machine" (20 : Nat) "PromotedNumbers$Machine" "variables" "[LPromotedNumbers$Fraction;") ∈ go_T := go_t1 (List.mem_of_getElem? (i := 184) rfl) rfl
theorem tw_1_186 : (Jvm.Cond.fieldLink "PromotedNumbers$Machine" (24 : Nat) "PromotedNumbers$Machine" "values" "[LPromotedNumbers$Fraction;") ∈ go_T := go_t1 (List.mem_of_getElem? (i := 186) rfl) rfl
theorem tw_1_187 : (Jvm.Cond.fieldLink "PromotedNumbers$Machine" (28 : Nat) "PromotedNumbers$Machine" "total" "LPromotedNumbers$Fraction;") ∈ go_T := go_t1 (List.mem_of_getElem? (i := 187) rfl) rfl
theorem tw_1_188 : (Jvm.Cond.fieldLink "PromotedNumbers$Machine" (37 : Nat) "PromotedNumbers$Machine" "number" "LPromotedNumbers$Whole;") ∈ go_T := go_t1 (List.mem_of_getElem? (i := 188) rfl) rfl
theorem tw_1_189 : (Jvm.Cond.fieldLink "PromotedNumbers$Machine" (41 : Nat) "PromotedNumbers$Machine" "operators" "[C") ∈ go_T := go_t1 (List.mem_of_getElem? (i := 189) rfl) rfl
theorem tw_1_190 : (Jvm.Cond.fieldLink "PromotedNumbers$Machine" (45 : Nat) "PromotedNumbers$Machine" "firstValues" "[I") ∈ go_T := go_t1 (List.mem_of_getElem? (i := 190) rfl) rfl
theorem tw_1_191 : (Jvm.Cond.fieldLink "PromotedNumbers$Machine" (49 : Nat) "PromotedNumbers$Machine" "arguments" "[I") ∈ go_T := go_t1 (List.mem_of_getElem? (i := 191) rfl) rfl
theorem tw_1_192 : (Jvm.Cond.fieldLink "PromotedNumbers$Machine" (52 : Nat) "PromotedNumbers$Machine" "open" "I") ∈ go_T := go_t1 (List.mem_of_getElem? (i := 192) rfl) rfl
theorem tw_1_193 : (Jvm.Cond.fieldLink "PromotedNumbers$Machine" (56 : Nat) "PromotedNumbers$Machine" "held" "I") ∈ go_T := go_t1 (List.mem_of_getElem? (i := 193) rfl) rfl
theorem tw_1_194 : (Jvm.Cond.laysFinal "PromotedNumbers$Machine" "PromotedNumbers$Machine" "calculator" "LPromotedNumbers$Calculator;") ∈ go_T := go_t1 (List.mem_of_getElem? (i := 194) rfl) rfl
theorem tw_1_196 : (Jvm.Cond.laysFinal "PromotedNumbers$Machine" "PromotedNumbers$Machine" "variables" "[LPromotedNumbers$Fraction;") ∈ go_T := go_t1 (List.mem_of_getElem? (i := 196) rfl) rfl
theorem tw_1_198 : (Jvm.Cond.laysFinal "PromotedNumbers$Machine" "PromotedNumbers$Machine" "values" "[LPromotedNumbers$Fraction;") ∈ go_T := go_t1 (List.mem_of_getElem? (i := 198) rfl) rfl
theorem tw_1_200 : (Jvm.Cond.laysFinal "PromotedNumbers$Machine" "PromotedNumbers$Machine" "total" "LPromotedNumbers$Fraction;") ∈ go_T := go_t1 (List.mem_of_getElem? (i := 200) rfl) rfl
theorem tw_1_202 : (Jvm.Cond.laysFinal "PromotedNumbers$Machine" "PromotedNumbers$Machine" "number" "LPromotedNumbers$Whole;") ∈ go_T := go_t1 (List.mem_of_getElem? (i := 202) rfl) rfl
theorem tw_1_204 : (Jvm.Cond.laysFinal "PromotedNumbers$Machine" "PromotedNumbers$Machine" "operators" "[C") ∈ go_T := go_t1 (List.mem_of_getElem? (i := 204) rfl) rfl
theorem tw_1_206 : (Jvm.Cond.laysFinal "PromotedNumbers$Machine" "PromotedNumbers$Machine" "firstValues" "[I") ∈ go_T := go_t1 (List.mem_of_getElem? (i := 206) rfl) rfl
theorem tw_1_208 : (Jvm.Cond.laysFinal "PromotedNumbers$Machine" "PromotedNumbers$Machine" "arguments" "[I") ∈ go_T := go_t1 (List.mem_of_getElem? (i := 208) rfl) rfl
theorem tw_1_210 : (Jvm.Cond.lays "PromotedNumbers$Machine" "PromotedNumbers$Machine" "open" "I") ∈ go_T := go_t1 (List.mem_of_getElem? (i := 210) rfl) rfl
theorem tw_1_212 : (Jvm.Cond.lays "PromotedNumbers$Machine" "PromotedNumbers$Machine" "held" "I") ∈ go_T := go_t1 (List.mem_of_getElem? (i := 212) rfl) rfl
theorem tw_1_214 : (Jvm.Cond.superclass "PromotedNumbers$Machine" "java/lang/Object") ∈ go_T := go_t1 (List.mem_of_getElem? (i := 214) rfl) rfl
theorem tw_1_215 : (Jvm.Cond.fieldLink "PromotedNumbers" (9 : Nat) "PromotedNumbers" "text" "[C") ∈ go_T := go_t1 (List.mem_of_getElem? (i := 215) rfl) rfl
theorem tw_1_216 : (Jvm.Cond.fieldLink "PromotedNumbers" (49 : Nat) "PromotedNumbers" "length" "I") ∈ go_T := go_t1 (List.mem_of_getElem? (i := 216) rfl) rfl
theorem tw_1_217 : (Jvm.Cond.fieldLink "PromotedNumbers" (13 : Nat) "PromotedNumbers" "foundFault" "I") ∈ go_T := go_t1 (List.mem_of_getElem? (i := 217) rfl) rfl
theorem tw_1_218 : (Jvm.Cond.fieldLink "PromotedNumbers" (20 : Nat) "PromotedNumbers" "result" "LPromotedNumbers$Fraction;") ∈ go_T := go_t1 (List.mem_of_getElem? (i := 218) rfl) rfl
theorem tw_1_219 : (Jvm.Cond.fieldLink "PromotedNumbers" (27 : Nat) "PromotedNumbers" "writing" "LPromotedNumbers$Writing;") ∈ go_T := go_t1 (List.mem_of_getElem? (i := 219) rfl) rfl
theorem tw_1_220 : (Jvm.Cond.fieldLink "PromotedNumbers" (34 : Nat) "PromotedNumbers" "grammar" "LPromotedNumbers$Grammar;") ∈ go_T := go_t1 (List.mem_of_getElem? (i := 220) rfl) rfl
theorem tw_1_221 : (Jvm.Cond.fieldLink "PromotedNumbers" (41 : Nat) "PromotedNumbers" "machine" "LPromotedNumbers$Machine;") ∈ go_T := go_t1 (List.mem_of_getElem? (i := 221) rfl) rfl
theorem tw_1_222 : (Jvm.Cond.laysFinal "PromotedNumbers" "PromotedNumbers" "text" "[C") ∈ go_T := go_t1 (List.mem_of_getElem? (i := 222) rfl) rfl
theorem tw_1_224 : (Jvm.Cond.lays "PromotedNumbers" "PromotedNumbers" "length" "I") ∈ go_T := go_t1 (List.mem_of_getElem? (i := 224) rfl) rfl
theorem tw_1_226 : (Jvm.Cond.lays "PromotedNumbers" "PromotedNumbers" "foundFault" "I") ∈ go_T := go_t1 (List.mem_of_getElem? (i := 226) rfl) rfl
theorem tw_1_228 : (Jvm.Cond.laysFinal "PromotedNumbers" "PromotedNumbers" "result" "LPromotedNumbers$Fraction;") ∈ go_T := go_t1 (List.mem_of_getElem? (i := 228) rfl) rfl
theorem tw_1_230 : (Jvm.Cond.laysFinal "PromotedNumbers" "PromotedNumbers" "writing" "LPromotedNumbers$Writing;") ∈ go_T := go_t1 (List.mem_of_getElem? (i := 230) rfl) rfl
theorem tw_1_232 : (Jvm.Cond.laysFinal "PromotedNumbers" "PromotedNumbers" "grammar" "LPromotedNumbers$Grammar;") ∈ go_T := go_t1 (List.mem_of_getElem? (i := 232) rfl) rfl
theorem tw_1_234 : (Jvm.Cond.laysFinal "PromotedNumbers" "PromotedNumbers" "machine" "LPromotedNumbers$Machine;") ∈ go_T := go_t1 (List.mem_of_getElem? (i := 234) rfl) rfl
theorem tw_1_236 : (Jvm.Cond.superclass "PromotedNumbers" "java/lang/Object") ∈ go_T := go_t1 (List.mem_of_getElem? (i := 236) rfl) rfl
theorem tw_1_237 : (Jvm.Cond.methodLink "PromotedNumbersLaw" (39 : Nat) ({ cls := "PromotedNumbers", name := "type", desc := "(J)Z" } : Jvm.MethodName)) ∈ go_T := go_t1 (List.mem_of_getElem? (i := 237) rfl) rfl
theorem tw_1_238 : (Jvm.Cond.instanceMethod ({ cls := "PromotedNumbers", name := "type", desc := "(J)Z" } : Jvm.MethodName)) ∈ go_T := go_t1 (List.mem_of_getElem? (i := 238) rfl) rfl
theorem tw_1_239 : (Jvm.Cond.selects "PromotedNumbers" ({ cls := "PromotedNumbers", name := "type", desc := "(J)Z" } : Jvm.MethodName) ({ cls := "PromotedNumbers", name := "type", desc := "(J)Z" } : Jvm.MethodName)) ∈ go_T := go_t1 (List.mem_of_getElem? (i := 239) rfl) rfl
theorem tw_2_0 : (Jvm.Cond.code ({ cls := "PromotedNumbers", name := "type", desc := "(J)Z" } : Jvm.MethodName) prog_1_method_2_code (5 : Nat) (Option.some Jvm.ClassFile.FieldType.boolean)) ∈ go_T := go_t2 (List.mem_of_getElem? (i := 0) rfl) rfl
theorem tw_2_1 : (Jvm.Cond.methodLink "PromotedNumbers" (45 : Nat) ({ cls := "PromotedNumbers", name := "characterOf", desc := "(JI)I" } : Jvm.MethodName)) ∈ go_T := go_t2 (List.mem_of_getElem? (i := 1) rfl) rfl
theorem tw_2_2 : (Jvm.Cond.static ({ cls := "PromotedNumbers", name := "characterOf", desc := "(JI)I" } : Jvm.MethodName)) ∈ go_T := go_t2 (List.mem_of_getElem? (i := 2) rfl) rfl
theorem tw_2_3 : (Jvm.Cond.code ({ cls := "PromotedNumbers", name := "characterOf", desc := "(JI)I" } : Jvm.MethodName) prog_1_method_13_code (3 : Nat) (Option.some Jvm.ClassFile.FieldType.int)) ∈ go_T := go_t2 (List.mem_of_getElem? (i := 3) rfl) rfl
theorem tw_2_4 : (Jvm.Cond.methodLink "PromotedNumbersLaw" (44 : Nat) ({ cls := "PromotedNumbers", name := "erase", desc := "()I" } : Jvm.MethodName)) ∈ go_T := go_t2 (List.mem_of_getElem? (i := 4) rfl) rfl
theorem tw_2_5 : (Jvm.Cond.instanceMethod ({ cls := "PromotedNumbers", name := "erase", desc := "()I" } : Jvm.MethodName)) ∈ go_T := go_t2 (List.mem_of_getElem? (i := 5) rfl) rfl
theorem tw_2_6 : (Jvm.Cond.selects "PromotedNumbers" ({ cls := "PromotedNumbers", name := "erase", desc := "()I" } : Jvm.MethodName) ({ cls := "PromotedNumbers", name := "erase", desc := "()I" } : Jvm.MethodName)) ∈ go_T := go_t2 (List.mem_of_getElem? (i := 6) rfl) rfl
theorem tw_2_7 : (Jvm.Cond.code ({ cls := "PromotedNumbers", name := "erase", desc := "()I" } : Jvm.MethodName) prog_1_method_3_code (2 : Nat) (Option.some Jvm.ClassFile.FieldType.int)) ∈ go_T := go_t2 (List.mem_of_getElem? (i := 7) rfl) rfl
theorem tw_2_8 : (Jvm.Cond.methodLink "PromotedNumbersLaw" (48 : Nat) ({ cls := "PromotedNumbers", name := "fault", desc := "()I" } : Jvm.MethodName)) ∈ go_T := go_t2 (List.mem_of_getElem? (i := 8) rfl) rfl
theorem tw_2_9 : (Jvm.Cond.instanceMethod ({ cls := "PromotedNumbers", name := "fault", desc := "()I" } : Jvm.MethodName)) ∈ go_T := go_t2 (List.mem_of_getElem? (i := 9) rfl) rfl
theorem tw_2_10 : (Jvm.Cond.selects "PromotedNumbers" ({ cls := "PromotedNumbers", name := "fault", desc := "()I" } : Jvm.MethodName) ({ cls := "PromotedNumbers", name := "fault", desc := "()I" } : Jvm.MethodName)) ∈ go_T := go_t2 (List.mem_of_getElem? (i := 10) rfl) rfl
theorem tw_2_11 : (Jvm.Cond.code ({ cls := "PromotedNumbers", name := "fault", desc := "()I" } : Jvm.MethodName) prog_1_method_4_code (1 : Nat) (Option.some Jvm.ClassFile.FieldType.int)) ∈ go_T := go_t2 (List.mem_of_getElem? (i := 11) rfl) rfl
theorem tw_2_12 : (Jvm.Cond.methodLink "PromotedNumbersLaw" (65 : Nat) ({ cls := "PromotedNumbers", name := "form", desc := "()I" } : Jvm.MethodName)) ∈ go_T := go_t2 (List.mem_of_getElem? (i := 12) rfl) rfl
theorem tw_2_13 : (Jvm.Cond.instanceMethod ({ cls := "PromotedNumbers", name := "form", desc := "()I" } : Jvm.MethodName)) ∈ go_T := go_t2 (List.mem_of_getElem? (i := 13) rfl) rfl
theorem tw_2_14 : (Jvm.Cond.selects "PromotedNumbers" ({ cls := "PromotedNumbers", name := "form", desc := "()I" } : Jvm.MethodName) ({ cls := "PromotedNumbers", name := "form", desc := "()I" } : Jvm.MethodName)) ∈ go_T := go_t2 (List.mem_of_getElem? (i := 14) rfl) rfl
theorem tw_2_15 : (Jvm.Cond.code ({ cls := "PromotedNumbers", name := "form", desc := "()I" } : Jvm.MethodName) prog_1_method_7_code (1 : Nat) (Option.some Jvm.ClassFile.FieldType.int)) ∈ go_T := go_t2 (List.mem_of_getElem? (i := 15) rfl) rfl
theorem tw_2_16 : (Jvm.Cond.methodLink "PromotedNumbers" (82 : Nat) ({ cls := "PromotedNumbers$Fraction", name := "kind", desc := "()I" } : Jvm.MethodName)) ∈ go_T := go_t2 (List.mem_of_getElem? (i := 16) rfl) rfl
theorem tw_2_17 : (Jvm.Cond.instanceMethod ({ cls := "PromotedNumbers$Fraction", name := "kind", desc := "()I" } : Jvm.MethodName)) ∈ go_T := go_t2 (List.mem_of_getElem? (i := 17) rfl) rfl
theorem tw_2_18 : (Jvm.Cond.selects "PromotedNumbers$Fraction" ({ cls := "PromotedNumbers$Fraction", name := "kind", desc := "()I" } : Jvm.MethodName) ({ cls := "PromotedNumbers$Fraction", name := "kind", desc := "()I" } : Jvm.MethodName)) ∈ go_T := go_t2 (List.mem_of_getElem? (i := 18) rfl) rfl
theorem tw_2_19 : (Jvm.Cond.code ({ cls := "PromotedNumbers$Fraction", name := "kind", desc := "()I" } : Jvm.MethodName) prog_4_method_7_code (2 : Nat) (Option.some Jvm.ClassFile.FieldType.int)) ∈ go_T := go_t2 (List.mem_of_getElem? (i := 19) rfl) rfl
theorem tw_2_20 : (Jvm.Cond.methodLink "PromotedNumbers$Fraction" (42 : Nat) ({ cls := "PromotedNumbers$Fraction", name := "isWhole", desc := "()Z" } : Jvm.MethodName)) ∈ go_T := go_t2 (List.mem_of_getElem? (i := 20) rfl) rfl
theorem tw_2_21 : (Jvm.Cond.instanceMethod ({ cls := "PromotedNumbers$Fraction", name := "isWhole", desc := "()Z" } : Jvm.MethodName)) ∈ go_T := go_t2 (List.mem_of_getElem? (i := 21) rfl) rfl
theorem tw_2_22 : (Jvm.Cond.selects "PromotedNumbers$Fraction" ({ cls := "PromotedNumbers$Fraction", name := "isWhole", desc := "()Z" } : Jvm.MethodName) ({ cls := "PromotedNumbers$Fraction", name := "isWhole", desc := "()Z" } : Jvm.MethodName)) ∈ go_T := go_t2 (List.mem_of_getElem? (i := 22) rfl) rfl
theorem tw_2_23 : (Jvm.Cond.code ({ cls := "PromotedNumbers$Fraction", name := "isWhole", desc := "()Z" } : Jvm.MethodName) prog_4_method_4_code (1 : Nat) (Option.some Jvm.ClassFile.FieldType.boolean)) ∈ go_T := go_t2 (List.mem_of_getElem? (i := 23) rfl) rfl
theorem tw_2_24 : (Jvm.Cond.methodLink "PromotedNumbers$Fraction" (34 : Nat) ({ cls := "PromotedNumbers$Whole", name := "isOne", desc := "()Z" } : Jvm.MethodName)) ∈ go_T := go_t2 (List.mem_of_getElem? (i := 24) rfl) rfl
theorem tw_2_25 : (Jvm.Cond.instanceMethod ({ cls := "PromotedNumbers$Whole", name := "isOne", desc := "()Z" } : Jvm.MethodName)) ∈ go_T := go_t2 (List.mem_of_getElem? (i := 25) rfl) rfl
theorem tw_2_26 : (Jvm.Cond.selects "PromotedNumbers$Whole" ({ cls := "PromotedNumbers$Whole", name := "isOne", desc := "()Z" } : Jvm.MethodName) ({ cls := "PromotedNumbers$Whole", name := "isOne", desc := "()Z" } : Jvm.MethodName)) ∈ go_T := go_t2 (List.mem_of_getElem? (i := 26) rfl) rfl
theorem tw_2_27 : (Jvm.Cond.code ({ cls := "PromotedNumbers$Whole", name := "isOne", desc := "()Z" } : Jvm.MethodName) prog_7_method_5_code (1 : Nat) (Option.some Jvm.ClassFile.FieldType.boolean)) ∈ go_T := go_t2 (List.mem_of_getElem? (i := 27) rfl) rfl
theorem tw_2_28 : (Jvm.Cond.methodLink "PromotedNumbersLaw" (69 : Nat) ({ cls := "PromotedNumbers", name := "sign", desc := "()I" } : Jvm.MethodName)) ∈ go_T := go_t2 (List.mem_of_getElem? (i := 28) rfl) rfl
theorem tw_2_29 : (Jvm.Cond.instanceMethod ({ cls := "PromotedNumbers", name := "sign", desc := "()I" } : Jvm.MethodName)) ∈ go_T := go_t2 (List.mem_of_getElem? (i := 29) rfl) rfl
theorem tw_2_30 : (Jvm.Cond.selects "PromotedNumbers" ({ cls := "PromotedNumbers", name := "sign", desc := "()I" } : Jvm.MethodName) ({ cls := "PromotedNumbers", name := "sign", desc := "()I" } : Jvm.MethodName)) ∈ go_T := go_t2 (List.mem_of_getElem? (i := 30) rfl) rfl
theorem tw_2_31 : (Jvm.Cond.code ({ cls := "PromotedNumbers", name := "sign", desc := "()I" } : Jvm.MethodName) prog_1_method_8_code (1 : Nat) (Option.some Jvm.ClassFile.FieldType.int)) ∈ go_T := go_t2 (List.mem_of_getElem? (i := 31) rfl) rfl
theorem tw_2_32 : (Jvm.Cond.methodLink "PromotedNumbers" (86 : Nat) ({ cls := "PromotedNumbers$Fraction", name := "side", desc := "()I" } : Jvm.MethodName)) ∈ go_T := go_t2 (List.mem_of_getElem? (i := 32) rfl) rfl
theorem tw_2_33 : (Jvm.Cond.instanceMethod ({ cls := "PromotedNumbers$Fraction", name := "side", desc := "()I" } : Jvm.MethodName)) ∈ go_T := go_t2 (List.mem_of_getElem? (i := 33) rfl) rfl
theorem tw_2_34 : (Jvm.Cond.selects "PromotedNumbers$Fraction" ({ cls := "PromotedNumbers$Fraction", name := "side", desc := "()I" } : Jvm.MethodName) ({ cls := "PromotedNumbers$Fraction", name := "side", desc := "()I" } : Jvm.MethodName)) ∈ go_T := go_t2 (List.mem_of_getElem? (i := 34) rfl) rfl
theorem tw_2_35 : (Jvm.Cond.code ({ cls := "PromotedNumbers$Fraction", name := "side", desc := "()I" } : Jvm.MethodName) prog_4_method_6_code (1 : Nat) (Option.some Jvm.ClassFile.FieldType.int)) ∈ go_T := go_t2 (List.mem_of_getElem? (i := 35) rfl) rfl
theorem tw_2_36 : (Jvm.Cond.methodLink "PromotedNumbers$Fraction" (41 : Nat) ({ cls := "PromotedNumbers$Fraction", name := "isZero", desc := "()Z" } : Jvm.MethodName)) ∈ go_T := go_t2 (List.mem_of_getElem? (i := 36) rfl) rfl
theorem tw_2_37 : (Jvm.Cond.instanceMethod ({ cls := "PromotedNumbers$Fraction", name := "isZero", desc := "()Z" } : Jvm.MethodName)) ∈ go_T := go_t2 (List.mem_of_getElem? (i := 37) rfl) rfl
theorem tw_2_38 : (Jvm.Cond.selects "PromotedNumbers$Fraction" ({ cls := "PromotedNumbers$Fraction", name := "isZero", desc := "()Z" } : Jvm.MethodName) ({ cls := "PromotedNumbers$Fraction", name := "isZero", desc := "()Z" } : Jvm.MethodName)) ∈ go_T := go_t2 (List.mem_of_getElem? (i := 38) rfl) rfl
theorem tw_2_39 : (Jvm.Cond.code ({ cls := "PromotedNumbers$Fraction", name := "isZero", desc := "()Z" } : Jvm.MethodName) prog_4_method_5_code (1 : Nat) (Option.some Jvm.ClassFile.FieldType.boolean)) ∈ go_T := go_t2 (List.mem_of_getElem? (i := 39) rfl) rfl
theorem tw_2_40 : (Jvm.Cond.methodLink "PromotedNumbers$Fraction" (38 : Nat) ({ cls := "PromotedNumbers$Whole", name := "isZero", desc := "()Z" } : Jvm.MethodName)) ∈ go_T := go_t2 (List.mem_of_getElem? (i := 40) rfl) rfl
theorem tw_2_41 : (Jvm.Cond.instanceMethod ({ cls := "PromotedNumbers$Whole", name := "isZero", desc := "()Z" } : Jvm.MethodName)) ∈ go_T := go_t2 (List.mem_of_getElem? (i := 41) rfl) rfl
theorem tw_2_42 : (Jvm.Cond.selects "PromotedNumbers$Whole" ({ cls := "PromotedNumbers$Whole", name := "isZero", desc := "()Z" } : Jvm.MethodName) ({ cls := "PromotedNumbers$Whole", name := "isZero", desc := "()Z" } : Jvm.MethodName)) ∈ go_T := go_t2 (List.mem_of_getElem? (i := 42) rfl) rfl
theorem tw_2_43 : (Jvm.Cond.code ({ cls := "PromotedNumbers$Whole", name := "isZero", desc := "()Z" } : Jvm.MethodName) prog_7_method_4_code (1 : Nat) (Option.some Jvm.ClassFile.FieldType.boolean)) ∈ go_T := go_t2 (List.mem_of_getElem? (i := 43) rfl) rfl
theorem tw_2_44 : (Jvm.Cond.methodLink "PromotedNumbersLaw" (73 : Nat) ({ cls := "PromotedNumbers", name := "digit", desc := "(I)C" } : Jvm.MethodName)) ∈ go_T := go_t2 (List.mem_of_getElem? (i := 44) rfl) rfl
theorem tw_2_45 : (Jvm.Cond.instanceMethod ({ cls := "PromotedNumbers", name := "digit", desc := "(I)C" } : Jvm.MethodName)) ∈ go_T := go_t2 (List.mem_of_getElem? (i := 45) rfl) rfl
theorem tw_2_46 : (Jvm.Cond.selects "PromotedNumbers" ({ cls := "PromotedNumbers", name := "digit", desc := "(I)C" } : Jvm.MethodName) ({ cls := "PromotedNumbers", name := "digit", desc := "(I)C" } : Jvm.MethodName)) ∈ go_T := go_t2 (List.mem_of_getElem? (i := 46) rfl) rfl
theorem tw_2_47 : (Jvm.Cond.code ({ cls := "PromotedNumbers", name := "digit", desc := "(I)C" } : Jvm.MethodName) prog_1_method_9_code (2 : Nat) (Option.some Jvm.ClassFile.FieldType.char)) ∈ go_T := go_t2 (List.mem_of_getElem? (i := 47) rfl) rfl
theorem tw_2_48 : (Jvm.Cond.methodLink "PromotedNumbers" (89 : Nat) ({ cls := "PromotedNumbers$Writing", name := "character", desc := "(I)C" } : Jvm.MethodName)) ∈ go_T := go_t2 (List.mem_of_getElem? (i := 48) rfl) rfl
theorem tw_2_49 : (Jvm.Cond.instanceMethod ({ cls := "PromotedNumbers$Writing", name := "character", desc := "(I)C" } : Jvm.MethodName)) ∈ go_T := go_t2 (List.mem_of_getElem? (i := 49) rfl) rfl
theorem tw_2_50 : (Jvm.Cond.selects "PromotedNumbers$Writing" ({ cls := "PromotedNumbers$Writing", name := "character", desc := "(I)C" } : Jvm.MethodName) ({ cls := "PromotedNumbers$Writing", name := "character", desc := "(I)C" } : Jvm.MethodName)) ∈ go_T := go_t2 (List.mem_of_getElem? (i := 50) rfl) rfl
theorem tw_2_51 : (Jvm.Cond.code ({ cls := "PromotedNumbers$Writing", name := "character", desc := "(I)C" } : Jvm.MethodName) prog_8_method_3_code (2 : Nat) (Option.some Jvm.ClassFile.FieldType.char)) ∈ go_T := go_t2 (List.mem_of_getElem? (i := 51) rfl) rfl
theorem tw_2_52 : (Jvm.Cond.methodLink "PromotedNumbersLaw" (78 : Nat) ({ cls := "PromotedNumbers", name := "bits", desc := "(II)I" } : Jvm.MethodName)) ∈ go_T := go_t2 (List.mem_of_getElem? (i := 52) rfl) rfl
theorem tw_2_53 : (Jvm.Cond.instanceMethod ({ cls := "PromotedNumbers", name := "bits", desc := "(II)I" } : Jvm.MethodName)) ∈ go_T := go_t2 (List.mem_of_getElem? (i := 53) rfl) rfl
theorem tw_2_54 : (Jvm.Cond.selects "PromotedNumbers" ({ cls := "PromotedNumbers", name := "bits", desc := "(II)I" } : Jvm.MethodName) ({ cls := "PromotedNumbers", name := "bits", desc := "(II)I" } : Jvm.MethodName)) ∈ go_T := go_t2 (List.mem_of_getElem? (i := 54) rfl) rfl
theorem tw_2_55 : (Jvm.Cond.code ({ cls := "PromotedNumbers", name := "bits", desc := "(II)I" } : Jvm.MethodName) prog_1_method_10_code (3 : Nat) (Option.some Jvm.ClassFile.FieldType.int)) ∈ go_T := go_t2 (List.mem_of_getElem? (i := 55) rfl) rfl
theorem tw_2_56 : (Jvm.Cond.methodLink "PromotedNumbers" (97 : Nat) ({ cls := "PromotedNumbers$Whole", name := "word", desc := "(I)I" } : Jvm.MethodName)) ∈ go_T := go_t2 (List.mem_of_getElem? (i := 56) rfl) rfl
theorem tw_2_57 : (Jvm.Cond.instanceMethod ({ cls := "PromotedNumbers$Whole", name := "word", desc := "(I)I" } : Jvm.MethodName)) ∈ go_T := go_t2 (List.mem_of_getElem? (i := 57) rfl) rfl
theorem tw_2_58 : (Jvm.Cond.selects "PromotedNumbers$Whole" ({ cls := "PromotedNumbers$Whole", name := "word", desc := "(I)I" } : Jvm.MethodName) ({ cls := "PromotedNumbers$Whole", name := "word", desc := "(I)I" } : Jvm.MethodName)) ∈ go_T := go_t2 (List.mem_of_getElem? (i := 58) rfl) rfl
theorem tw_2_59 : (Jvm.Cond.code ({ cls := "PromotedNumbers$Whole", name := "word", desc := "(I)I" } : Jvm.MethodName) prog_7_method_8_code (5 : Nat) (Option.some Jvm.ClassFile.FieldType.int)) ∈ go_T := go_t2 (List.mem_of_getElem? (i := 59) rfl) rfl
theorem tw_2_60 : (Jvm.Cond.methodLink "PromotedNumbers$Whole" (25 : Nat) ({ cls := "PromotedNumbers$Whole", name := "limb", desc := "(I)I" } : Jvm.MethodName)) ∈ go_T := go_t2 (List.mem_of_getElem? (i := 60) rfl) rfl
theorem tw_2_61 : (Jvm.Cond.instanceMethod ({ cls := "PromotedNumbers$Whole", name := "limb", desc := "(I)I" } : Jvm.MethodName)) ∈ go_T := go_t2 (List.mem_of_getElem? (i := 61) rfl) rfl
theorem tw_2_62 : (Jvm.Cond.selects "PromotedNumbers$Whole" ({ cls := "PromotedNumbers$Whole", name := "limb", desc := "(I)I" } : Jvm.MethodName) ({ cls := "PromotedNumbers$Whole", name := "limb", desc := "(I)I" } : Jvm.MethodName)) ∈ go_T := go_t2 (List.mem_of_getElem? (i := 62) rfl) rfl
theorem tw_2_63 : (Jvm.Cond.code ({ cls := "PromotedNumbers$Whole", name := "limb", desc := "(I)I" } : Jvm.MethodName) prog_7_method_7_code (2 : Nat) (Option.some Jvm.ClassFile.FieldType.int)) ∈ go_T := go_t2 (List.mem_of_getElem? (i := 63) rfl) rfl
theorem tw_2_64 : (Jvm.Cond.methodLink "PromotedNumbersLaw" (52 : Nat) ({ cls := "PromotedNumbersLaw", name := "work", desc := "(LPromotedNumbers;[J)I" } : Jvm.MethodName)) ∈ go_T := go_t2 (List.mem_of_getElem? (i := 64) rfl) rfl
theorem tw_2_65 : (Jvm.Cond.static ({ cls := "PromotedNumbersLaw", name := "work", desc := "(LPromotedNumbers;[J)I" } : Jvm.MethodName)) ∈ go_T := go_t2 (List.mem_of_getElem? (i := 65) rfl) rfl
theorem tw_2_67 : (Jvm.Cond.classLink "PromotedNumbersLaw" (13 : Nat) "java/lang/IllegalArgumentException") ∈ go_T := go_t2 (List.mem_of_getElem? (i := 67) rfl) rfl
theorem tw_2_68 : (Jvm.Cond.classLink "PromotedNumbersLaw" (15 : Nat) "java/lang/UnsupportedOperationException") ∈ go_T := go_t2 (List.mem_of_getElem? (i := 68) rfl) rfl
theorem tw_2_69 : (Jvm.Cond.classLink "PromotedNumbersLaw" (17 : Nat) "java/lang/ArithmeticException") ∈ go_T := go_t2 (List.mem_of_getElem? (i := 69) rfl) rfl
theorem tw_2_70 : (Jvm.Cond.classLink "PromotedNumbersLaw" (19 : Nat) "java/lang/IllegalStateException") ∈ go_T := go_t2 (List.mem_of_getElem? (i := 70) rfl) rfl
theorem tw_2_71 : (Jvm.Cond.methodLink "PromotedNumbersLaw" (7 : Nat) ({ cls := "PromotedNumbers", name := "work", desc := "()I" } : Jvm.MethodName)) ∈ go_T := go_t2 (List.mem_of_getElem? (i := 71) rfl) rfl
theorem tw_2_72 : (Jvm.Cond.instanceMethod ({ cls := "PromotedNumbers", name := "work", desc := "()I" } : Jvm.MethodName)) ∈ go_T := go_t2 (List.mem_of_getElem? (i := 72) rfl) rfl
theorem tw_2_73 : (Jvm.Cond.selects "PromotedNumbers" ({ cls := "PromotedNumbers", name := "work", desc := "()I" } : Jvm.MethodName) ({ cls := "PromotedNumbers", name := "work", desc := "()I" } : Jvm.MethodName)) ∈ go_T := go_t2 (List.mem_of_getElem? (i := 73) rfl) rfl
theorem tw_2_74 : (Jvm.Cond.code ({ cls := "PromotedNumbers", name := "work", desc := "()I" } : Jvm.MethodName) prog_1_method_5_code (1 : Nat) (Option.some Jvm.ClassFile.FieldType.int)) ∈ go_T := go_t2 (List.mem_of_getElem? (i := 74) rfl) rfl
theorem tw_2_75 : (Jvm.Cond.methodLink "PromotedNumbers" (52 : Nat) ({ cls := "PromotedNumbers", name := "requireExpression", desc := "()V" } : Jvm.MethodName)) ∈ go_T := go_t2 (List.mem_of_getElem? (i := 75) rfl) rfl
theorem tw_2_77 : (Jvm.Cond.instanceMethod ({ cls := "PromotedNumbers", name := "requireExpression", desc := "()V" } : Jvm.MethodName)) ∈ go_T := go_t2 (List.mem_of_getElem? (i := 77) rfl) rfl
theorem tw_2_78 : (Jvm.Cond.code ({ cls := "PromotedNumbers", name := "requireExpression", desc := "()V" } : Jvm.MethodName) prog_1_method_15_code (1 : Nat) (Option.none : Option Jvm.ClassFile.FieldType)) ∈ go_T := go_t2 (List.mem_of_getElem? (i := 78) rfl) rfl
theorem tw_2_79 : (Jvm.Cond.methodLink "PromotedNumbers" (119 : Nat) ({ cls := "PromotedNumbers$Grammar", name := "faultOf", desc := "([CI)I" } : Jvm.MethodName)) ∈ go_T := go_t2 (List.mem_of_getElem? (i := 79) rfl) rfl
theorem tw_2_80 : (Jvm.Cond.instanceMethod ({ cls := "PromotedNumbers$Grammar", name := "faultOf", desc := "([CI)I" } : Jvm.MethodName)) ∈ go_T := go_t2 (List.mem_of_getElem? (i := 80) rfl) rfl
theorem tw_2_81 : (Jvm.Cond.selects "PromotedNumbers$Grammar" ({ cls := "PromotedNumbers$Grammar", name := "faultOf", desc := "([CI)I" } : Jvm.MethodName) ({ cls := "PromotedNumbers$Grammar", name := "faultOf", desc := "([CI)I" } : Jvm.MethodName)) ∈ go_T := go_t2 (List.mem_of_getElem? (i := 81) rfl) rfl
theorem tw_2_82 : (Jvm.Cond.code ({ cls := "PromotedNumbers$Grammar", name := "faultOf", desc := "([CI)I" } : Jvm.MethodName) prog_5_method_2_code (5 : Nat) (Option.some Jvm.ClassFile.FieldType.int)) ∈ go_T := go_t2 (List.mem_of_getElem? (i := 82) rfl) rfl
theorem tw_2_83 : (Jvm.Cond.methodLink "PromotedNumbers$Grammar" (22 : Nat) ({ cls := "PromotedNumbers$Grammar", name := "behind", desc := "(IC)I" } : Jvm.MethodName)) ∈ go_T := go_t2 (List.mem_of_getElem? (i := 83) rfl) rfl
theorem tw_2_85 : (Jvm.Cond.instanceMethod ({ cls := "PromotedNumbers$Grammar", name := "behind", desc := "(IC)I" } : Jvm.MethodName)) ∈ go_T := go_t2 (List.mem_of_getElem? (i := 85) rfl) rfl
theorem tw_2_86 : (Jvm.Cond.code ({ cls := "PromotedNumbers$Grammar", name := "behind", desc := "(IC)I" } : Jvm.MethodName) prog_5_method_3_code (3 : Nat) (Option.some Jvm.ClassFile.FieldType.int)) ∈ go_T := go_t2 (List.mem_of_getElem? (i := 86) rfl) rfl
theorem tw_2_87 : (Jvm.Cond.methodLink "PromotedNumbers$Grammar" (26 : Nat) ({ cls := "PromotedNumbers$Grammar", name := "behindStart", desc := "(C)I" } : Jvm.MethodName)) ∈ go_T := go_t2 (List.mem_of_getElem? (i := 87) rfl) rfl
theorem tw_2_89 : (Jvm.Cond.instanceMethod ({ cls := "PromotedNumbers$Grammar", name := "behindStart", desc := "(C)I" } : Jvm.MethodName)) ∈ go_T := go_t2 (List.mem_of_getElem? (i := 89) rfl) rfl
theorem tw_2_90 : (Jvm.Cond.code ({ cls := "PromotedNumbers$Grammar", name := "behindStart", desc := "(C)I" } : Jvm.MethodName) prog_5_method_4_code (2 : Nat) (Option.some Jvm.ClassFile.FieldType.int)) ∈ go_T := go_t2 (List.mem_of_getElem? (i := 90) rfl) rfl
theorem tw_2_92 : (Jvm.Cond.static ({ cls := "PromotedNumbers", name := "isDigit", desc := "(C)Z" } : Jvm.MethodName)) ∈ go_T := go_t2 (List.mem_of_getElem? (i := 92) rfl) rfl
theorem tw_2_93 : (Jvm.Cond.code ({ cls := "PromotedNumbers", name := "isDigit", desc := "(C)Z" } : Jvm.MethodName) prog_1_method_18_code (1 : Nat) (Option.some Jvm.ClassFile.FieldType.boolean)) ∈ go_T := go_t2 (List.mem_of_getElem? (i := 93) rfl) rfl
theorem tw_2_95 : (Jvm.Cond.static ({ cls := "PromotedNumbers", name := "isVariable", desc := "(C)Z" } : Jvm.MethodName)) ∈ go_T := go_t2 (List.mem_of_getElem? (i := 95) rfl) rfl
theorem tw_2_96 : (Jvm.Cond.code ({ cls := "PromotedNumbers", name := "isVariable", desc := "(C)Z" } : Jvm.MethodName) prog_1_method_19_code (1 : Nat) (Option.some Jvm.ClassFile.FieldType.boolean)) ∈ go_T := go_t2 (List.mem_of_getElem? (i := 96) rfl) rfl
theorem tw_2_97 : (Jvm.Cond.methodLink "PromotedNumbers$Grammar" (30 : Nat) ({ cls := "PromotedNumbers$Grammar", name := "behindOperator", desc := "(C)I" } : Jvm.MethodName)) ∈ go_T := go_t2 (List.mem_of_getElem? (i := 97) rfl) rfl
theorem tw_2_99 : (Jvm.Cond.instanceMethod ({ cls := "PromotedNumbers$Grammar", name := "behindOperator", desc := "(C)I" } : Jvm.MethodName)) ∈ go_T := go_t2 (List.mem_of_getElem? (i := 99) rfl) rfl
theorem tw_2_100 : (Jvm.Cond.code ({ cls := "PromotedNumbers$Grammar", name := "behindOperator", desc := "(C)I" } : Jvm.MethodName) prog_5_method_5_code (3 : Nat) (Option.some Jvm.ClassFile.FieldType.int)) ∈ go_T := go_t2 (List.mem_of_getElem? (i := 100) rfl) rfl
theorem tw_2_102 : (Jvm.Cond.methodLink "PromotedNumbers$Grammar" (45 : Nat) ({ cls := "java/lang/String", name := "indexOf", desc := "(I)I" } : Jvm.MethodName)) ∈ go_T := go_t2 (List.mem_of_getElem? (i := 102) rfl) rfl
theorem tw_2_103 : (Jvm.Cond.instanceMethod ({ cls := "java/lang/String", name := "indexOf", desc := "(I)I" } : Jvm.MethodName)) ∈ go_T := go_t2 (List.mem_of_getElem? (i := 103) rfl) rfl
theorem tw_2_104 : (Jvm.Cond.selects "java/lang/String" ({ cls := "java/lang/String", name := "indexOf", desc := "(I)I" } : Jvm.MethodName) ({ cls := "java/lang/String", name := "indexOf", desc := "(I)I" } : Jvm.MethodName)) ∈ go_T := go_t2 (List.mem_of_getElem? (i := 104) rfl) rfl
theorem tw_2_105 : (Jvm.Cond.code ({ cls := "java/lang/String", name := "indexOf", desc := "(I)I" } : Jvm.MethodName) prog_20_method_79_code (2 : Nat) (Option.some Jvm.ClassFile.FieldType.int)) ∈ go_T := go_t2 (List.mem_of_getElem? (i := 105) rfl) rfl
theorem tw_2_106 : (Jvm.Cond.methodLink "java/lang/String" (633 : Nat) ({ cls := "java/lang/String", name := "indexOf", desc := "(II)I" } : Jvm.MethodName)) ∈ go_T := go_t2 (List.mem_of_getElem? (i := 106) rfl) rfl
theorem tw_2_107 : (Jvm.Cond.instanceMethod ({ cls := "java/lang/String", name := "indexOf", desc := "(II)I" } : Jvm.MethodName)) ∈ go_T := go_t2 (List.mem_of_getElem? (i := 107) rfl) rfl
theorem tw_2_108 : (Jvm.Cond.selects "java/lang/String" ({ cls := "java/lang/String", name := "indexOf", desc := "(II)I" } : Jvm.MethodName) ({ cls := "java/lang/String", name := "indexOf", desc := "(II)I" } : Jvm.MethodName)) ∈ go_T := go_t2 (List.mem_of_getElem? (i := 108) rfl) rfl
theorem tw_2_109 : (Jvm.Cond.code ({ cls := "java/lang/String", name := "indexOf", desc := "(II)I" } : Jvm.MethodName) prog_20_method_80_code (3 : Nat) (Option.some Jvm.ClassFile.FieldType.int)) ∈ go_T := go_t2 (List.mem_of_getElem? (i := 109) rfl) rfl
theorem tw_2_110 : (Jvm.Cond.methodLink "java/lang/String" (492 : Nat) ({ cls := "java/lang/String", name := "isLatin1", desc := "()Z" } : Jvm.MethodName)) ∈ go_T := go_t2 (List.mem_of_getElem? (i := 110) rfl) rfl
theorem tw_2_111 : (Jvm.Cond.instanceMethod ({ cls := "java/lang/String", name := "isLatin1", desc := "()Z" } : Jvm.MethodName)) ∈ go_T := go_t2 (List.mem_of_getElem? (i := 111) rfl) rfl
theorem tw_2_112 : (Jvm.Cond.selects "java/lang/String" ({ cls := "java/lang/String", name := "isLatin1", desc := "()Z" } : Jvm.MethodName) ({ cls := "java/lang/String", name := "isLatin1", desc := "()Z" } : Jvm.MethodName)) ∈ go_T := go_t2 (List.mem_of_getElem? (i := 112) rfl) rfl
theorem tw_2_113 : (Jvm.Cond.code ({ cls := "java/lang/String", name := "isLatin1", desc := "()Z" } : Jvm.MethodName) prog_20_method_154_code (1 : Nat) (Option.some Jvm.ClassFile.FieldType.boolean)) ∈ go_T := go_t2 (List.mem_of_getElem? (i := 113) rfl) rfl
theorem tw_2_114 : (Jvm.Cond.fieldLink "java/lang/String" (38 : Nat) "java/lang/String" "COMPACT_STRINGS" "Z") ∈ go_T := go_t2 (List.mem_of_getElem? (i := 114) rfl) rfl
theorem tw_2_116 : (Jvm.Cond.methodLink "java/lang/String" (505 : Nat) ({ cls := "java/lang/String", name := "length", desc := "()I" } : Jvm.MethodName)) ∈ go_T := go_t2 (List.mem_of_getElem? (i := 116) rfl) rfl
theorem tw_2_117 : (Jvm.Cond.instanceMethod ({ cls := "java/lang/String", name := "length", desc := "()I" } : Jvm.MethodName)) ∈ go_T := go_t2 (List.mem_of_getElem? (i := 117) rfl) rfl
theorem tw_2_118 : (Jvm.Cond.selects "java/lang/String" ({ cls := "java/lang/String", name := "length", desc := "()I" } : Jvm.MethodName) ({ cls := "java/lang/String", name := "length", desc := "()I" } : Jvm.MethodName)) ∈ go_T := go_t2 (List.mem_of_getElem? (i := 118) rfl) rfl
theorem tw_2_119 : (Jvm.Cond.code ({ cls := "java/lang/String", name := "length", desc := "()I" } : Jvm.MethodName) prog_20_method_54_code (1 : Nat) (Option.some Jvm.ClassFile.FieldType.int)) ∈ go_T := go_t2 (List.mem_of_getElem? (i := 119) rfl) rfl
theorem tw_2_120 : (Jvm.Cond.methodLink "java/lang/String" (335 : Nat) ({ cls := "java/lang/String", name := "coder", desc := "()B" } : Jvm.MethodName)) ∈ go_T := go_t2 (List.mem_of_getElem? (i := 120) rfl) rfl
theorem tw_2_121 : (Jvm.Cond.instanceMethod ({ cls := "java/lang/String", name := "coder", desc := "()B" } : Jvm.MethodName)) ∈ go_T := go_t2 (List.mem_of_getElem? (i := 121) rfl) rfl
theorem tw_2_122 : (Jvm.Cond.selects "java/lang/String" ({ cls := "java/lang/String", name := "coder", desc := "()B" } : Jvm.MethodName) ({ cls := "java/lang/String", name := "coder", desc := "()B" } : Jvm.MethodName)) ∈ go_T := go_t2 (List.mem_of_getElem? (i := 122) rfl) rfl
theorem tw_2_123 : (Jvm.Cond.code ({ cls := "java/lang/String", name := "coder", desc := "()B" } : Jvm.MethodName) prog_20_method_152_code (1 : Nat) (Option.some Jvm.ClassFile.FieldType.byte)) ∈ go_T := go_t2 (List.mem_of_getElem? (i := 123) rfl) rfl
theorem tw_2_124 : (Jvm.Cond.methodLink "java/lang/String" (637 : Nat) ({ cls := "java/lang/StringLatin1", name := "indexOf", desc := "([BIII)I" } : Jvm.MethodName)) ∈ go_T := go_t2 (List.mem_of_getElem? (i := 124) rfl) rfl
theorem tw_2_125 : (Jvm.Cond.static ({ cls := "java/lang/StringLatin1", name := "indexOf", desc := "([BIII)I" } : Jvm.MethodName)) ∈ go_T := go_t2 (List.mem_of_getElem? (i := 125) rfl) rfl
theorem tw_2_126 : (Jvm.Cond.code ({ cls := "java/lang/StringLatin1", name := "indexOf", desc := "([BIII)I" } : Jvm.MethodName) prog_21_method_22_code (4 : Nat) (Option.some Jvm.ClassFile.FieldType.int)) ∈ go_T := go_t2 (List.mem_of_getElem? (i := 126) rfl) rfl
theorem tw_2_127 : (Jvm.Cond.methodLink "java/lang/StringLatin1" (88 : Nat) ({ cls := "java/lang/StringLatin1", name := "canEncode", desc := "(I)Z" } : Jvm.MethodName)) ∈ go_T := go_t2 (List.mem_of_getElem? (i := 127) rfl) rfl
theorem tw_2_128 : (Jvm.Cond.static ({ cls := "java/lang/StringLatin1", name := "canEncode", desc := "(I)Z" } : Jvm.MethodName)) ∈ go_T := go_t2 (List.mem_of_getElem? (i := 128) rfl) rfl
theorem tw_2_129 : (Jvm.Cond.code ({ cls := "java/lang/StringLatin1", name := "canEncode", desc := "(I)Z" } : Jvm.MethodName) prog_21_method_4_code (1 : Nat) (Option.some Jvm.ClassFile.FieldType.boolean)) ∈ go_T := go_t2 (List.mem_of_getElem? (i := 129) rfl) rfl
theorem tw_2_130 : (Jvm.Cond.methodLink "java/lang/StringLatin1" (92 : Nat) ({ cls := "java/lang/Math", name := "max", desc := "(II)I" } : Jvm.MethodName)) ∈ go_T := go_t2 (List.mem_of_getElem? (i := 130) rfl) rfl
theorem tw_2_131 : (Jvm.Cond.static ({ cls := "java/lang/Math", name := "max", desc := "(II)I" } : Jvm.MethodName)) ∈ go_T := go_t2 (List.mem_of_getElem? (i := 131) rfl) rfl
theorem tw_2_132 : (Jvm.Cond.code ({ cls := "java/lang/Math", name := "max", desc := "(II)I" } : Jvm.MethodName) prog_18_method_65_code (2 : Nat) (Option.some Jvm.ClassFile.FieldType.int)) ∈ go_T := go_t2 (List.mem_of_getElem? (i := 132) rfl) rfl
theorem tw_2_133 : (Jvm.Cond.methodLink "java/lang/StringLatin1" (38 : Nat) ({ cls := "java/lang/Math", name := "min", desc := "(II)I" } : Jvm.MethodName)) ∈ go_T := go_t2 (List.mem_of_getElem? (i := 133) rfl) rfl
theorem tw_2_134 : (Jvm.Cond.static ({ cls := "java/lang/Math", name := "min", desc := "(II)I" } : Jvm.MethodName)) ∈ go_T := go_t2 (List.mem_of_getElem? (i := 134) rfl) rfl
theorem tw_2_135 : (Jvm.Cond.code ({ cls := "java/lang/Math", name := "min", desc := "(II)I" } : Jvm.MethodName) prog_18_method_69_code (2 : Nat) (Option.some Jvm.ClassFile.FieldType.int)) ∈ go_T := go_t2 (List.mem_of_getElem? (i := 135) rfl) rfl
theorem tw_2_136 : (Jvm.Cond.methodLink "java/lang/StringLatin1" (95 : Nat) ({ cls := "java/lang/StringLatin1", name := "indexOfChar", desc := "([BIII)I" } : Jvm.MethodName)) ∈ go_T := go_t2 (List.mem_of_getElem? (i := 136) rfl) rfl
theorem tw_2_137 : (Jvm.Cond.static ({ cls := "java/lang/StringLatin1", name := "indexOfChar", desc := "([BIII)I" } : Jvm.MethodName)) ∈ go_T := go_t2 (List.mem_of_getElem? (i := 137) rfl) rfl
theorem tw_2_138 : (Jvm.Cond.code ({ cls := "java/lang/StringLatin1", name := "indexOfChar", desc := "([BIII)I" } : Jvm.MethodName) prog_21_method_23_code (6 : Nat) (Option.some Jvm.ClassFile.FieldType.int)) ∈ go_T := go_t2 (List.mem_of_getElem? (i := 138) rfl) rfl
theorem tw_2_139 : (Jvm.Cond.methodLink "java/lang/String" (640 : Nat) ({ cls := "java/lang/StringUTF16", name := "indexOf", desc := "([BIII)I" } : Jvm.MethodName)) ∈ go_T := go_t2 (List.mem_of_getElem? (i := 139) rfl) rfl
theorem tw_2_140 : (Jvm.Cond.static ({ cls := "java/lang/StringUTF16", name := "indexOf", desc := "([BIII)I" } : Jvm.MethodName)) ∈ go_T := go_t2 (List.mem_of_getElem? (i := 140) rfl) rfl
theorem tw_2_141 : (Jvm.Cond.code ({ cls := "java/lang/StringUTF16", name := "indexOf", desc := "([BIII)I" } : Jvm.MethodName) prog_22_method_40_code (4 : Nat) (Option.some Jvm.ClassFile.FieldType.int)) ∈ go_T := go_t2 (List.mem_of_getElem? (i := 141) rfl) rfl
theorem tw_2_142 : (Jvm.Cond.methodLink "java/lang/StringUTF16" (224 : Nat) ({ cls := "java/lang/Math", name := "max", desc := "(II)I" } : Jvm.MethodName)) ∈ go_T := go_t2 (List.mem_of_getElem? (i := 142) rfl) rfl
theorem tw_2_143 : (Jvm.Cond.methodLink "java/lang/StringUTF16" (183 : Nat) ({ cls := "java/lang/Math", name := "min", desc := "(II)I" } : Jvm.MethodName)) ∈ go_T := go_t2 (List.mem_of_getElem? (i := 143) rfl) rfl
theorem tw_2_144 : (Jvm.Cond.constant "java/lang/StringUTF16" (227 : Nat) (65536 : Int32)) ∈ go_T := go_t2 (List.mem_of_getElem? (i := 144) rfl) rfl
theorem tw_2_145 : (Jvm.Cond.methodLink "java/lang/StringUTF16" (228 : Nat) ({ cls := "java/lang/StringUTF16", name := "indexOfChar", desc := "([BIII)I" } : Jvm.MethodName)) ∈ go_T := go_t2 (List.mem_of_getElem? (i := 145) rfl) rfl
theorem tw_2_146 : (Jvm.Cond.static ({ cls := "java/lang/StringUTF16", name := "indexOfChar", desc := "([BIII)I" } : Jvm.MethodName)) ∈ go_T := go_t2 (List.mem_of_getElem? (i := 146) rfl) rfl
theorem tw_2_147 : (Jvm.Cond.code ({ cls := "java/lang/StringUTF16", name := "indexOfChar", desc := "([BIII)I" } : Jvm.MethodName) prog_22_method_47_code (4 : Nat) (Option.some Jvm.ClassFile.FieldType.int)) ∈ go_T := go_t2 (List.mem_of_getElem? (i := 147) rfl) rfl
theorem tw_2_148 : (Jvm.Cond.methodLink "java/lang/StringUTF16" (96 : Nat) ({ cls := "java/lang/StringUTF16", name := "checkBoundsBeginEnd", desc := "(II[B)V" } : Jvm.MethodName)) ∈ go_T := go_t2 (List.mem_of_getElem? (i := 148) rfl) rfl
theorem tw_2_149 : (Jvm.Cond.static ({ cls := "java/lang/StringUTF16", name := "checkBoundsBeginEnd", desc := "(II[B)V" } : Jvm.MethodName)) ∈ go_T := go_t2 (List.mem_of_getElem? (i := 149) rfl) rfl
theorem tw_2_150 : (Jvm.Cond.code ({ cls := "java/lang/StringUTF16", name := "checkBoundsBeginEnd", desc := "(II[B)V" } : Jvm.MethodName) prog_22_method_93_code (3 : Nat) (Option.none : Option Jvm.ClassFile.FieldType)) ∈ go_T := go_t2 (List.mem_of_getElem? (i := 150) rfl) rfl
theorem tw_2_151 : (Jvm.Cond.methodLink "java/lang/StringUTF16" (48 : Nat) ({ cls := "java/lang/StringUTF16", name := "length", desc := "([B)I" } : Jvm.MethodName)) ∈ go_T := go_t2 (List.mem_of_getElem? (i := 151) rfl) rfl
theorem tw_2_152 : (Jvm.Cond.static ({ cls := "java/lang/StringUTF16", name := "length", desc := "([B)I" } : Jvm.MethodName)) ∈ go_T := go_t2 (List.mem_of_getElem? (i := 152) rfl) rfl
theorem tw_2_153 : (Jvm.Cond.code ({ cls := "java/lang/StringUTF16", name := "length", desc := "([B)I" } : Jvm.MethodName) prog_22_method_6_code (1 : Nat) (Option.some Jvm.ClassFile.FieldType.int)) ∈ go_T := go_t2 (List.mem_of_getElem? (i := 153) rfl) rfl
theorem tw_2_154 : (Jvm.Cond.methodLink "java/lang/StringUTF16" (241 : Nat) ({ cls := "java/lang/String", name := "checkBoundsBeginEnd", desc := "(III)V" } : Jvm.MethodName)) ∈ go_T := go_t2 (List.mem_of_getElem? (i := 154) rfl) rfl
theorem tw_2_155 : (Jvm.Cond.static ({ cls := "java/lang/String", name := "checkBoundsBeginEnd", desc := "(III)V" } : Jvm.MethodName)) ∈ go_T := go_t2 (List.mem_of_getElem? (i := 155) rfl) rfl
theorem tw_2_156 : (Jvm.Cond.code ({ cls := "java/lang/String", name := "checkBoundsBeginEnd", desc := "(III)V" } : Jvm.MethodName) prog_20_method_158_code (3 : Nat) (Option.none : Option Jvm.ClassFile.FieldType)) ∈ go_T := go_t2 (List.mem_of_getElem? (i := 156) rfl) rfl
theorem tw_2_157 : (Jvm.Cond.fieldLink "java/lang/String" (1053 : Nat) "jdk/internal/util/Preconditions" "SIOOBE_FORMATTER" "Ljava/util/function/BiFunction;") ∈ go_T := go_t2 (List.mem_of_getElem? (i := 157) rfl) rfl
theorem tw_2_159 : (Jvm.Cond.methodLink "java/lang/String" (1062 : Nat) ({ cls := "jdk/internal/util/Preconditions", name := "checkFromToIndex", desc := "(IIILjava/util/function/BiFunction;)I" } : Jvm.MethodName)) ∈ go_T := go_t2 (List.mem_of_getElem? (i := 159) rfl) rfl
theorem tw_2_160 : (Jvm.Cond.static ({ cls := "jdk/internal/util/Preconditions", name := "checkFromToIndex", desc := "(IIILjava/util/function/BiFunction;)I" } : Jvm.MethodName)) ∈ go_T := go_t2 (List.mem_of_getElem? (i := 160) rfl) rfl
theorem tw_2_161 : (Jvm.Cond.code ({ cls := "jdk/internal/util/Preconditions", name := "checkFromToIndex", desc := "(IIILjava/util/function/BiFunction;)I" } : Jvm.MethodName) prog_26_method_12_code (4 : Nat) (Option.some Jvm.ClassFile.FieldType.int)) ∈ go_T := go_t2 (List.mem_of_getElem? (i := 161) rfl) rfl
theorem tw_2_162 : (Jvm.Cond.methodLink "java/lang/StringUTF16" (244 : Nat) ({ cls := "java/lang/StringUTF16", name := "indexOfCharUnsafe", desc := "([BIII)I" } : Jvm.MethodName)) ∈ go_T := go_t2 (List.mem_of_getElem? (i := 162) rfl) rfl
theorem tw_2_163 : (Jvm.Cond.static ({ cls := "java/lang/StringUTF16", name := "indexOfCharUnsafe", desc := "([BIII)I" } : Jvm.MethodName)) ∈ go_T := go_t2 (List.mem_of_getElem? (i := 163) rfl) rfl
theorem tw_2_164 : (Jvm.Cond.code ({ cls := "java/lang/StringUTF16", name := "indexOfCharUnsafe", desc := "([BIII)I" } : Jvm.MethodName) prog_22_method_48_code (5 : Nat) (Option.some Jvm.ClassFile.FieldType.int)) ∈ go_T := go_t2 (List.mem_of_getElem? (i := 164) rfl) rfl
theorem tw_2_165 : (Jvm.Cond.methodLink "java/lang/StringUTF16" (71 : Nat) ({ cls := "java/lang/StringUTF16", name := "getChar", desc := "([BI)C" } : Jvm.MethodName)) ∈ go_T := go_t2 (List.mem_of_getElem? (i := 165) rfl) rfl
theorem tw_2_166 : (Jvm.Cond.static ({ cls := "java/lang/StringUTF16", name := "getChar", desc := "([BI)C" } : Jvm.MethodName)) ∈ go_T := go_t2 (List.mem_of_getElem? (i := 166) rfl) rfl
theorem tw_2_167 : (Jvm.Cond.code ({ cls := "java/lang/StringUTF16", name := "getChar", desc := "([BI)C" } : Jvm.MethodName) prog_22_method_5_code (2 : Nat) (Option.some Jvm.ClassFile.FieldType.char)) ∈ go_T := go_t2 (List.mem_of_getElem? (i := 167) rfl) rfl
theorem tw_2_168 : (Jvm.Cond.fieldLink "java/lang/StringUTF16" (44 : Nat) "java/lang/StringUTF16" "$assertionsDisabled" "Z") ∈ go_T := go_t2 (List.mem_of_getElem? (i := 168) rfl) rfl
theorem tw_2_170 : (Jvm.Cond.fieldLink "java/lang/StringUTF16" (59 : Nat) "java/lang/StringUTF16" "HI_BYTE_SHIFT" "I") ∈ go_T := go_t2 (List.mem_of_getElem? (i := 170) rfl) rfl
theorem tw_2_172 : (Jvm.Cond.fieldLink "java/lang/StringUTF16" (63 : Nat) "java/lang/StringUTF16" "LO_BYTE_SHIFT" "I") ∈ go_T := go_t2 (List.mem_of_getElem? (i := 172) rfl) rfl
theorem tw_2_174 : (Jvm.Cond.methodLink "java/lang/StringUTF16" (232 : Nat) ({ cls := "java/lang/StringUTF16", name := "indexOfSupplementary", desc := "([BIII)I" } : Jvm.MethodName)) ∈ go_T := go_t2 (List.mem_of_getElem? (i := 174) rfl) rfl
theorem tw_2_175 : (Jvm.Cond.static ({ cls := "java/lang/StringUTF16", name := "indexOfSupplementary", desc := "([BIII)I" } : Jvm.MethodName)) ∈ go_T := go_t2 (List.mem_of_getElem? (i := 175) rfl) rfl
theorem tw_2_176 : (Jvm.Cond.code ({ cls := "java/lang/StringUTF16", name := "indexOfSupplementary", desc := "([BIII)I" } : Jvm.MethodName) prog_22_method_49_code (7 : Nat) (Option.some Jvm.ClassFile.FieldType.int)) ∈ go_T := go_t2 (List.mem_of_getElem? (i := 176) rfl) rfl
theorem tw_2_177 : (Jvm.Cond.methodLink "java/lang/StringUTF16" (164 : Nat) ({ cls := "java/lang/Character", name := "isValidCodePoint", desc := "(I)Z" } : Jvm.MethodName)) ∈ go_T := go_t2 (List.mem_of_getElem? (i := 177) rfl) rfl
theorem tw_2_178 : (Jvm.Cond.static ({ cls := "java/lang/Character", name := "isValidCodePoint", desc := "(I)Z" } : Jvm.MethodName)) ∈ go_T := go_t2 (List.mem_of_getElem? (i := 178) rfl) rfl
theorem tw_2_179 : (Jvm.Cond.code ({ cls := "java/lang/Character", name := "isValidCodePoint", desc := "(I)Z" } : Jvm.MethodName) prog_12_method_11_code (2 : Nat) (Option.some Jvm.ClassFile.FieldType.boolean)) ∈ go_T := go_t2 (List.mem_of_getElem? (i := 179) rfl) rfl
theorem tw_2_180 : (Jvm.Cond.methodLink "java/lang/StringUTF16" (157 : Nat) ({ cls := "java/lang/Character", name := "highSurrogate", desc := "(I)C" } : Jvm.MethodName)) ∈ go_T := go_t2 (List.mem_of_getElem? (i := 180) rfl) rfl
theorem tw_2_181 : (Jvm.Cond.static ({ cls := "java/lang/Character", name := "highSurrogate", desc := "(I)C" } : Jvm.MethodName)) ∈ go_T := go_t2 (List.mem_of_getElem? (i := 181) rfl) rfl
theorem tw_2_182 : (Jvm.Cond.code ({ cls := "java/lang/Character", name := "highSurrogate", desc := "(I)C" } : Jvm.MethodName) prog_12_method_28_code (1 : Nat) (Option.some Jvm.ClassFile.FieldType.char)) ∈ go_T := go_t2 (List.mem_of_getElem? (i := 182) rfl) rfl
theorem tw_2_183 : (Jvm.Cond.constant "java/lang/Character" (110 : Nat) (55232 : Int32)) ∈ go_T := go_t2 (List.mem_of_getElem? (i := 183) rfl) rfl
theorem tw_2_184 : (Jvm.Cond.methodLink "java/lang/StringUTF16" (161 : Nat) ({ cls := "java/lang/Character", name := "lowSurrogate", desc := "(I)C" } : Jvm.MethodName)) ∈ go_T := go_t2 (List.mem_of_getElem? (i := 184) rfl) rfl
theorem tw_2_185 : (Jvm.Cond.static ({ cls := "java/lang/Character", name := "lowSurrogate", desc := "(I)C" } : Jvm.MethodName)) ∈ go_T := go_t2 (List.mem_of_getElem? (i := 185) rfl) rfl
theorem tw_2_186 : (Jvm.Cond.code ({ cls := "java/lang/Character", name := "lowSurrogate", desc := "(I)C" } : Jvm.MethodName) prog_12_method_29_code (1 : Nat) (Option.some Jvm.ClassFile.FieldType.char)) ∈ go_T := go_t2 (List.mem_of_getElem? (i := 186) rfl) rfl
theorem tw_2_187 : (Jvm.Cond.constant "java/lang/Character" (76 : Nat) (56320 : Int32)) ∈ go_T := go_t2 (List.mem_of_getElem? (i := 187) rfl) rfl
theorem tw_2_188 : (Jvm.Cond.methodLink "PromotedNumbers$Grammar" (37 : Nat) ({ cls := "PromotedNumbers$Grammar", name := "behindPart", desc := "(C)I" } : Jvm.MethodName)) ∈ go_T := go_t2 (List.mem_of_getElem? (i := 188) rfl) rfl
theorem tw_2_190 : (Jvm.Cond.instanceMethod ({ cls := "PromotedNumbers$Grammar", name := "behindPart", desc := "(C)I" } : Jvm.MethodName)) ∈ go_T := go_t2 (List.mem_of_getElem? (i := 190) rfl) rfl
theorem tw_2_191 : (Jvm.Cond.code ({ cls := "PromotedNumbers$Grammar", name := "behindPart", desc := "(C)I" } : Jvm.MethodName) prog_5_method_6_code (4 : Nat) (Option.some Jvm.ClassFile.FieldType.int)) ∈ go_T := go_t2 (List.mem_of_getElem? (i := 191) rfl) rfl
theorem tw_2_196 : (Jvm.Cond.classLink "PromotedNumbers" (122 : Nat) "java/lang/IllegalArgumentException") ∈ go_T := go_t2 (List.mem_of_getElem? (i := 196) rfl) rfl
theorem tw_2_197 : (Jvm.Cond.instantiable "java/lang/IllegalArgumentException" (6 : Nat)) ∈ go_T := go_t2 (List.mem_of_getElem? (i := 197) rfl) rfl
theorem tw_2_205 : (Jvm.Cond.selects "java/lang/IllegalArgumentException" ({ cls := "java/lang/Throwable", name := "fillInStackTrace", desc := "(I)Ljava/lang/Throwable;" } : Jvm.MethodName) ({ cls := "java/lang/Throwable", name := "fillInStackTrace", desc := "(I)Ljava/lang/Throwable;" } : Jvm.MethodName)) ∈ go_T := go_t2 (List.mem_of_getElem? (i := 205) rfl) rfl
theorem tw_2_206 : (Jvm.Cond.selects "java/lang/IllegalArgumentException" ({ cls := "java/lang/Throwable", name := "fillInStackTrace", desc := "()Ljava/lang/Throwable;" } : Jvm.MethodName) ({ cls := "java/lang/Throwable", name := "fillInStackTrace", desc := "()Ljava/lang/Throwable;" } : Jvm.MethodName)) ∈ go_T := go_t2 (List.mem_of_getElem? (i := 206) rfl) rfl
theorem tw_2_207 : (Jvm.Cond.lays "java/lang/IllegalArgumentException" "java/lang/Throwable" "cause" "Ljava/lang/Throwable;") ∈ go_T := go_t2 (List.mem_of_getElem? (i := 207) rfl) rfl
theorem tw_2_208 : (Jvm.Cond.lays "java/lang/Throwable" "java/lang/Throwable" "cause" "Ljava/lang/Throwable;") ∈ go_T := go_t2 (List.mem_of_getElem? (i := 208) rfl) rfl
theorem tw_2_209 : (Jvm.Cond.lays "java/lang/IllegalArgumentException" "java/lang/Throwable" "stackTrace" "[Ljava/lang/StackTraceElement;") ∈ go_T := go_t2 (List.mem_of_getElem? (i := 209) rfl) rfl
theorem tw_2_210 : (Jvm.Cond.lays "java/lang/Throwable" "java/lang/Throwable" "stackTrace" "[Ljava/lang/StackTraceElement;") ∈ go_T := go_t2 (List.mem_of_getElem? (i := 210) rfl) rfl
theorem tw_2_211 : (Jvm.Cond.lays "java/lang/IllegalArgumentException" "java/lang/Throwable" "suppressedExceptions" "Ljava/util/List;") ∈ go_T := go_t2 (List.mem_of_getElem? (i := 211) rfl) rfl
theorem tw_2_212 : (Jvm.Cond.lays "java/lang/Throwable" "java/lang/Throwable" "suppressedExceptions" "Ljava/util/List;") ∈ go_T := go_t2 (List.mem_of_getElem? (i := 212) rfl) rfl
theorem tw_2_213 : (Jvm.Cond.lays "java/lang/IllegalArgumentException" "java/lang/Throwable" "detailMessage" "Ljava/lang/String;") ∈ go_T := go_t2 (List.mem_of_getElem? (i := 213) rfl) rfl
theorem tw_2_214 : (Jvm.Cond.lays "java/lang/Throwable" "java/lang/Throwable" "detailMessage" "Ljava/lang/String;") ∈ go_T := go_t2 (List.mem_of_getElem? (i := 214) rfl) rfl
theorem tw_2_215 : (Jvm.Cond.lays "java/lang/IllegalArgumentException" "java/lang/Throwable" "backtrace" "Ljava/lang/Object;") ∈ go_T := go_t2 (List.mem_of_getElem? (i := 215) rfl) rfl
theorem tw_2_216 : (Jvm.Cond.lays "java/lang/Throwable" "java/lang/Throwable" "backtrace" "Ljava/lang/Object;") ∈ go_T := go_t2 (List.mem_of_getElem? (i := 216) rfl) rfl
theorem tw_2_217 : (Jvm.Cond.fieldLink "java/lang/Throwable" (198 : Nat) "java/lang/Throwable" "backtrace" "Ljava/lang/Object;") ∈ go_T := go_t2 (List.mem_of_getElem? (i := 217) rfl) rfl
theorem tw_2_218 : (Jvm.Cond.superclass "java/lang/Throwable" "java/lang/Object") ∈ go_T := go_t2 (List.mem_of_getElem? (i := 218) rfl) rfl
theorem tw_2_219 : (Jvm.Cond.instanceMethod ({ cls := "java/lang/Throwable", name := "<init>", desc := "()V" } : Jvm.MethodName)) ∈ go_T := go_t2 (List.mem_of_getElem? (i := 219) rfl) rfl
theorem tw_2_220 : (Jvm.Cond.code ({ cls := "java/lang/Throwable", name := "<init>", desc := "()V" } : Jvm.MethodName) prog_24_method_1_code (1 : Nat) (Option.none : Option Jvm.ClassFile.FieldType)) ∈ go_T := go_t2 (List.mem_of_getElem? (i := 220) rfl) rfl
theorem tw_2_221 : (Jvm.Cond.methodLink "java/lang/Throwable" (1 : Nat) ({ cls := "java/lang/Object", name := "<init>", desc := "()V" } : Jvm.MethodName)) ∈ go_T := go_t2 (List.mem_of_getElem? (i := 221) rfl) rfl
theorem tw_2_222 : (Jvm.Cond.fieldLink "java/lang/Throwable" (13 : Nat) "java/lang/Throwable" "UNASSIGNED_STACK" "[Ljava/lang/StackTraceElement;") ∈ go_T := go_t2 (List.mem_of_getElem? (i := 222) rfl) rfl
theorem tw_2_224 : (Jvm.Cond.fieldLink "java/lang/Throwable" (20 : Nat) "java/lang/Throwable" "SUPPRESSED_SENTINEL" "Ljava/util/List;") ∈ go_T := go_t2 (List.mem_of_getElem? (i := 224) rfl) rfl
theorem tw_2_226 : (Jvm.Cond.methodLink "java/lang/Throwable" (27 : Nat) ({ cls := "java/lang/Throwable", name := "fillInStackTrace", desc := "()Ljava/lang/Throwable;" } : Jvm.MethodName)) ∈ go_T := go_t2 (List.mem_of_getElem? (i := 226) rfl) rfl
theorem tw_2_227 : (Jvm.Cond.instanceMethod ({ cls := "java/lang/Throwable", name := "fillInStackTrace", desc := "()Ljava/lang/Throwable;" } : Jvm.MethodName)) ∈ go_T := go_t2 (List.mem_of_getElem? (i := 227) rfl) rfl
theorem tw_2_229 : (Jvm.Cond.selects "java/lang/ArithmeticException" ({ cls := "java/lang/Throwable", name := "fillInStackTrace", desc := "()Ljava/lang/Throwable;" } : Jvm.MethodName) ({ cls := "java/lang/Throwable", name := "fillInStackTrace", desc := "()Ljava/lang/Throwable;" } : Jvm.MethodName)) ∈ go_T := go_t2 (List.mem_of_getElem? (i := 229) rfl) rfl
theorem tw_2_230 : (Jvm.Cond.selects "java/lang/IllegalStateException" ({ cls := "java/lang/Throwable", name := "fillInStackTrace", desc := "()Ljava/lang/Throwable;" } : Jvm.MethodName) ({ cls := "java/lang/Throwable", name := "fillInStackTrace", desc := "()Ljava/lang/Throwable;" } : Jvm.MethodName)) ∈ go_T := go_t2 (List.mem_of_getElem? (i := 230) rfl) rfl
theorem tw_2_231 : (Jvm.Cond.selects "java/lang/IndexOutOfBoundsException" ({ cls := "java/lang/Throwable", name := "fillInStackTrace", desc := "()Ljava/lang/Throwable;" } : Jvm.MethodName) ({ cls := "java/lang/Throwable", name := "fillInStackTrace", desc := "()Ljava/lang/Throwable;" } : Jvm.MethodName)) ∈ go_T := go_t2 (List.mem_of_getElem? (i := 231) rfl) rfl
theorem tw_2_232 : (Jvm.Cond.selects "java/lang/UnsupportedOperationException" ({ cls := "java/lang/Throwable", name := "fillInStackTrace", desc := "()Ljava/lang/Throwable;" } : Jvm.MethodName) ({ cls := "java/lang/Throwable", name := "fillInStackTrace", desc := "()Ljava/lang/Throwable;" } : Jvm.MethodName)) ∈ go_T := go_t2 (List.mem_of_getElem? (i := 232) rfl) rfl
theorem tw_2_234 : (Jvm.Cond.methodLink "java/lang/Throwable" (202 : Nat) ({ cls := "java/lang/Throwable", name := "fillInStackTrace", desc := "(I)Ljava/lang/Throwable;" } : Jvm.MethodName)) ∈ go_T := go_t2 (List.mem_of_getElem? (i := 234) rfl) rfl
theorem tw_2_236 : (Jvm.Cond.instanceMethod ({ cls := "java/lang/Throwable", name := "fillInStackTrace", desc := "(I)Ljava/lang/Throwable;" } : Jvm.MethodName)) ∈ go_T := go_t2 (List.mem_of_getElem? (i := 236) rfl) rfl
theorem tw_2_237 : (Jvm.Cond.instantiable "java/lang/Throwable" (6 : Nat)) ∈ go_T := go_t2 (List.mem_of_getElem? (i := 237) rfl) rfl
theorem tw_2_238 : (Jvm.Cond.native ({ cls := "java/lang/Throwable", name := "fillInStackTrace", desc := "(I)Ljava/lang/Throwable;" } : Jvm.MethodName)) ∈ go_T := go_t2 (List.mem_of_getElem? (i := 238) rfl) rfl
theorem tw_2_239 : (Jvm.Cond.methodLink "PromotedNumbers" (124 : Nat) ({ cls := "java/lang/IllegalArgumentException", name := "<init>", desc := "()V" } : Jvm.MethodName)) ∈ go_T := go_t2 (List.mem_of_getElem? (i := 239) rfl) rfl
theorem tw_3_0 : (Jvm.Cond.instanceMethod ({ cls := "java/lang/IllegalArgumentException", name := "<init>", desc := "()V" } : Jvm.MethodName)) ∈ go_T := go_t3 (List.mem_of_getElem? (i := 0) rfl) rfl
theorem tw_3_1 : (Jvm.Cond.code ({ cls := "java/lang/IllegalArgumentException", name := "<init>", desc := "()V" } : Jvm.MethodName) prog_14_method_1_code (1 : Nat) (Option.none : Option Jvm.ClassFile.FieldType)) ∈ go_T := go_t3 (List.mem_of_getElem? (i := 1) rfl) rfl
theorem tw_3_2 : (Jvm.Cond.methodLink "java/lang/IllegalArgumentException" (1 : Nat) ({ cls := "java/lang/RuntimeException", name := "<init>", desc := "()V" } : Jvm.MethodName)) ∈ go_T := go_t3 (List.mem_of_getElem? (i := 2) rfl) rfl
theorem tw_3_3 : (Jvm.Cond.instanceMethod ({ cls := "java/lang/RuntimeException", name := "<init>", desc := "()V" } : Jvm.MethodName)) ∈ go_T := go_t3 (List.mem_of_getElem? (i := 3) rfl) rfl
theorem tw_3_4 : (Jvm.Cond.code ({ cls := "java/lang/RuntimeException", name := "<init>", desc := "()V" } : Jvm.MethodName) prog_19_method_1_code (1 : Nat) (Option.none : Option Jvm.ClassFile.FieldType)) ∈ go_T := go_t3 (List.mem_of_getElem? (i := 4) rfl) rfl
theorem tw_3_5 : (Jvm.Cond.methodLink "java/lang/RuntimeException" (1 : Nat) ({ cls := "java/lang/Exception", name := "<init>", desc := "()V" } : Jvm.MethodName)) ∈ go_T := go_t3 (List.mem_of_getElem? (i := 5) rfl) rfl
theorem tw_3_6 : (Jvm.Cond.instanceMethod ({ cls := "java/lang/Exception", name := "<init>", desc := "()V" } : Jvm.MethodName)) ∈ go_T := go_t3 (List.mem_of_getElem? (i := 6) rfl) rfl
theorem tw_3_7 : (Jvm.Cond.code ({ cls := "java/lang/Exception", name := "<init>", desc := "()V" } : Jvm.MethodName) prog_13_method_1_code (1 : Nat) (Option.none : Option Jvm.ClassFile.FieldType)) ∈ go_T := go_t3 (List.mem_of_getElem? (i := 7) rfl) rfl
theorem tw_3_8 : (Jvm.Cond.methodLink "java/lang/Exception" (1 : Nat) ({ cls := "java/lang/Throwable", name := "<init>", desc := "()V" } : Jvm.MethodName)) ∈ go_T := go_t3 (List.mem_of_getElem? (i := 8) rfl) rfl
theorem tw_3_9 : (Jvm.Cond.fieldLink "java/lang/Throwable" (198 : Nat) "java/lang/Throwable" "backtrace" "Ljava/lang/Object;") ∈ go_T := go_t3 (List.mem_of_getElem? (i := 9) rfl) rfl
theorem tw_3_10 : (Jvm.Cond.fieldLink "java/lang/Throwable" (7 : Nat) "java/lang/Throwable" "cause" "Ljava/lang/Throwable;") ∈ go_T := go_t3 (List.mem_of_getElem? (i := 10) rfl) rfl
theorem tw_3_11 : (Jvm.Cond.fieldLink "java/lang/Throwable" (17 : Nat) "java/lang/Throwable" "stackTrace" "[Ljava/lang/StackTraceElement;") ∈ go_T := go_t3 (List.mem_of_getElem? (i := 11) rfl) rfl
theorem tw_3_12 : (Jvm.Cond.fieldLink "java/lang/Throwable" (24 : Nat) "java/lang/Throwable" "suppressedExceptions" "Ljava/util/List;") ∈ go_T := go_t3 (List.mem_of_getElem? (i := 12) rfl) rfl
theorem tw_3_17 : (Jvm.Cond.lays "java/lang/IllegalArgumentException" "java/lang/Throwable" "depth" "I") ∈ go_T := go_t3 (List.mem_of_getElem? (i := 17) rfl) rfl
theorem tw_3_20 : (Jvm.Cond.superclass "java/lang/IllegalArgumentException" "java/lang/RuntimeException") ∈ go_T := go_t3 (List.mem_of_getElem? (i := 20) rfl) rfl
theorem tw_3_21 : (Jvm.Cond.arrayClass Jvm.ClassFile.FieldType.byte) ∈ go_T := go_t3 (List.mem_of_getElem? (i := 21) rfl) rfl
theorem tw_3_22 : (Jvm.Cond.methodLink "PromotedNumbers" (55 : Nat) ({ cls := "PromotedNumbers$Machine", name := "workOut", desc := "([CI)I" } : Jvm.MethodName)) ∈ go_T := go_t3 (List.mem_of_getElem? (i := 22) rfl) rfl
theorem tw_3_23 : (Jvm.Cond.instanceMethod ({ cls := "PromotedNumbers$Machine", name := "workOut", desc := "([CI)I" } : Jvm.MethodName)) ∈ go_T := go_t3 (List.mem_of_getElem? (i := 23) rfl) rfl
theorem tw_3_24 : (Jvm.Cond.selects "PromotedNumbers$Machine" ({ cls := "PromotedNumbers$Machine", name := "workOut", desc := "([CI)I" } : Jvm.MethodName) ({ cls := "PromotedNumbers$Machine", name := "workOut", desc := "([CI)I" } : Jvm.MethodName)) ∈ go_T := go_t3 (List.mem_of_getElem? (i := 24) rfl) rfl
theorem tw_3_25 : (Jvm.Cond.code ({ cls := "PromotedNumbers$Machine", name := "workOut", desc := "([CI)I" } : Jvm.MethodName) prog_6_method_3_code (7 : Nat) (Option.some Jvm.ClassFile.FieldType.int)) ∈ go_T := go_t3 (List.mem_of_getElem? (i := 25) rfl) rfl
theorem tw_3_26 : (Jvm.Cond.methodLink "PromotedNumbers$Machine" (59 : Nat) ({ cls := "PromotedNumbers$Machine", name := "openBracket", desc := "(C)V" } : Jvm.MethodName)) ∈ go_T := go_t3 (List.mem_of_getElem? (i := 26) rfl) rfl
theorem tw_3_28 : (Jvm.Cond.instanceMethod ({ cls := "PromotedNumbers$Machine", name := "openBracket", desc := "(C)V" } : Jvm.MethodName)) ∈ go_T := go_t3 (List.mem_of_getElem? (i := 28) rfl) rfl
theorem tw_3_29 : (Jvm.Cond.code ({ cls := "PromotedNumbers$Machine", name := "openBracket", desc := "(C)V" } : Jvm.MethodName) prog_6_method_4_code (2 : Nat) (Option.none : Option Jvm.ClassFile.FieldType)) ∈ go_T := go_t3 (List.mem_of_getElem? (i := 29) rfl) rfl
theorem tw_3_30 : (Jvm.Cond.methodLink "PromotedNumbers$Machine" (63 : Nat) ({ cls := "PromotedNumbers$Machine", name := "raise", desc := "()I" } : Jvm.MethodName)) ∈ go_T := go_t3 (List.mem_of_getElem? (i := 30) rfl) rfl
theorem tw_3_32 : (Jvm.Cond.instanceMethod ({ cls := "PromotedNumbers$Machine", name := "raise", desc := "()I" } : Jvm.MethodName)) ∈ go_T := go_t3 (List.mem_of_getElem? (i := 32) rfl) rfl
theorem tw_3_33 : (Jvm.Cond.code ({ cls := "PromotedNumbers$Machine", name := "raise", desc := "()I" } : Jvm.MethodName) prog_6_method_9_code (6 : Nat) (Option.some Jvm.ClassFile.FieldType.int)) ∈ go_T := go_t3 (List.mem_of_getElem? (i := 33) rfl) rfl
theorem tw_3_34 : (Jvm.Cond.methodLink "PromotedNumbers$Machine" (117 : Nat) ({ cls := "PromotedNumbers$Whole", name := "limb", desc := "(I)I" } : Jvm.MethodName)) ∈ go_T := go_t3 (List.mem_of_getElem? (i := 34) rfl) rfl
theorem tw_3_35 : (Jvm.Cond.methodLink "PromotedNumbers$Machine" (121 : Nat) ({ cls := "PromotedNumbers$Fraction", name := "isWhole", desc := "()Z" } : Jvm.MethodName)) ∈ go_T := go_t3 (List.mem_of_getElem? (i := 35) rfl) rfl
theorem tw_3_36 : (Jvm.Cond.methodLink "PromotedNumbers$Machine" (105 : Nat) ({ cls := "PromotedNumbers$Fraction", name := "become", desc := "(I)V" } : Jvm.MethodName)) ∈ go_T := go_t3 (List.mem_of_getElem? (i := 36) rfl) rfl
theorem tw_3_37 : (Jvm.Cond.instanceMethod ({ cls := "PromotedNumbers$Fraction", name := "become", desc := "(I)V" } : Jvm.MethodName)) ∈ go_T := go_t3 (List.mem_of_getElem? (i := 37) rfl) rfl
theorem tw_3_38 : (Jvm.Cond.selects "PromotedNumbers$Fraction" ({ cls := "PromotedNumbers$Fraction", name := "become", desc := "(I)V" } : Jvm.MethodName) ({ cls := "PromotedNumbers$Fraction", name := "become", desc := "(I)V" } : Jvm.MethodName)) ∈ go_T := go_t3 (List.mem_of_getElem? (i := 38) rfl) rfl
theorem tw_3_39 : (Jvm.Cond.code ({ cls := "PromotedNumbers$Fraction", name := "become", desc := "(I)V" } : Jvm.MethodName) prog_4_method_2_code (2 : Nat) (Option.none : Option Jvm.ClassFile.FieldType)) ∈ go_T := go_t3 (List.mem_of_getElem? (i := 39) rfl) rfl
theorem tw_3_40 : (Jvm.Cond.methodLink "PromotedNumbers$Machine" (130 : Nat) ({ cls := "PromotedNumbers$Calculator", name := "multiply", desc := "(LPromotedNumbers$Fraction;LPromotedNumbers$Whole;LPromotedNumbers$Whole;Z)I" } : Jvm.MethodName)) ∈ go_T := go_t3 (List.mem_of_getElem? (i := 40) rfl) rfl
theorem tw_3_41 : (Jvm.Cond.instanceMethod ({ cls := "PromotedNumbers$Calculator", name := "multiply", desc := "(LPromotedNumbers$Fraction;LPromotedNumbers$Whole;LPromotedNumbers$Whole;Z)I" } : Jvm.MethodName)) ∈ go_T := go_t3 (List.mem_of_getElem? (i := 41) rfl) rfl
theorem tw_3_42 : (Jvm.Cond.selects "PromotedNumbers$Calculator" ({ cls := "PromotedNumbers$Calculator", name := "multiply", desc := "(LPromotedNumbers$Fraction;LPromotedNumbers$Whole;LPromotedNumbers$Whole;Z)I" } : Jvm.MethodName) ({ cls := "PromotedNumbers$Calculator", name := "multiply", desc := "(LPromotedNumbers$Fraction;LPromotedNumbers$Whole;LPromotedNumbers$Whole;Z)I" } : Jvm.MethodName)) ∈ go_T := go_t3 (List.mem_of_getElem? (i := 42) rfl) rfl
theorem tw_3_43 : (Jvm.Cond.code ({ cls := "PromotedNumbers$Calculator", name := "multiply", desc := "(LPromotedNumbers$Fraction;LPromotedNumbers$Whole;LPromotedNumbers$Whole;Z)I" } : Jvm.MethodName) prog_2_method_4_code (5 : Nat) (Option.some Jvm.ClassFile.FieldType.int)) ∈ go_T := go_t3 (List.mem_of_getElem? (i := 43) rfl) rfl
theorem tw_3_44 : (Jvm.Cond.methodLink "PromotedNumbers$Calculator" (47 : Nat) ({ cls := "PromotedNumbers$Divider", name := "findGreatest", desc := "(LPromotedNumbers$Whole;LPromotedNumbers$Whole;LPromotedNumbers$Whole;)V" } : Jvm.MethodName)) ∈ go_T := go_t3 (List.mem_of_getElem? (i := 44) rfl) rfl
theorem tw_3_45 : (Jvm.Cond.instanceMethod ({ cls := "PromotedNumbers$Divider", name := "findGreatest", desc := "(LPromotedNumbers$Whole;LPromotedNumbers$Whole;LPromotedNumbers$Whole;)V" } : Jvm.MethodName)) ∈ go_T := go_t3 (List.mem_of_getElem? (i := 45) rfl) rfl
theorem tw_3_46 : (Jvm.Cond.selects "PromotedNumbers$Divider" ({ cls := "PromotedNumbers$Divider", name := "findGreatest", desc := "(LPromotedNumbers$Whole;LPromotedNumbers$Whole;LPromotedNumbers$Whole;)V" } : Jvm.MethodName) ({ cls := "PromotedNumbers$Divider", name := "findGreatest", desc := "(LPromotedNumbers$Whole;LPromotedNumbers$Whole;LPromotedNumbers$Whole;)V" } : Jvm.MethodName)) ∈ go_T := go_t3 (List.mem_of_getElem? (i := 46) rfl) rfl
theorem tw_3_47 : (Jvm.Cond.code ({ cls := "PromotedNumbers$Divider", name := "findGreatest", desc := "(LPromotedNumbers$Whole;LPromotedNumbers$Whole;LPromotedNumbers$Whole;)V" } : Jvm.MethodName) prog_3_method_5_code (10 : Nat) (Option.none : Option Jvm.ClassFile.FieldType)) ∈ go_T := go_t3 (List.mem_of_getElem? (i := 47) rfl) rfl
theorem tw_3_48 : (Jvm.Cond.methodLink "PromotedNumbers$Divider" (36 : Nat) ({ cls := "PromotedNumbers$Whole", name := "isZero", desc := "()Z" } : Jvm.MethodName)) ∈ go_T := go_t3 (List.mem_of_getElem? (i := 48) rfl) rfl
theorem tw_3_49 : (Jvm.Cond.methodLink "PromotedNumbers$Divider" (29 : Nat) ({ cls := "PromotedNumbers$Whole", name := "copy", desc := "(LPromotedNumbers$Whole;)V" } : Jvm.MethodName)) ∈ go_T := go_t3 (List.mem_of_getElem? (i := 49) rfl) rfl
theorem tw_3_50 : (Jvm.Cond.instanceMethod ({ cls := "PromotedNumbers$Whole", name := "copy", desc := "(LPromotedNumbers$Whole;)V" } : Jvm.MethodName)) ∈ go_T := go_t3 (List.mem_of_getElem? (i := 50) rfl) rfl
theorem tw_3_51 : (Jvm.Cond.selects "PromotedNumbers$Whole" ({ cls := "PromotedNumbers$Whole", name := "copy", desc := "(LPromotedNumbers$Whole;)V" } : Jvm.MethodName) ({ cls := "PromotedNumbers$Whole", name := "copy", desc := "(LPromotedNumbers$Whole;)V" } : Jvm.MethodName)) ∈ go_T := go_t3 (List.mem_of_getElem? (i := 51) rfl) rfl
theorem tw_3_52 : (Jvm.Cond.code ({ cls := "PromotedNumbers$Whole", name := "copy", desc := "(LPromotedNumbers$Whole;)V" } : Jvm.MethodName) prog_7_method_3_code (2 : Nat) (Option.none : Option Jvm.ClassFile.FieldType)) ∈ go_T := go_t3 (List.mem_of_getElem? (i := 52) rfl) rfl
theorem tw_3_53 : (Jvm.Cond.methodLink "PromotedNumbers$Whole" (19 : Nat) ({ cls := "java/lang/System", name := "arraycopy", desc := "(Ljava/lang/Object;ILjava/lang/Object;II)V" } : Jvm.MethodName)) ∈ go_T := go_t3 (List.mem_of_getElem? (i := 53) rfl) rfl
theorem tw_3_54 : (Jvm.Cond.static ({ cls := "java/lang/System", name := "arraycopy", desc := "(Ljava/lang/Object;ILjava/lang/Object;II)V" } : Jvm.MethodName)) ∈ go_T := go_t3 (List.mem_of_getElem? (i := 54) rfl) rfl
theorem tw_3_55 : (Jvm.Cond.native ({ cls := "java/lang/System", name := "arraycopy", desc := "(Ljava/lang/Object;ILjava/lang/Object;II)V" } : Jvm.MethodName)) ∈ go_T := go_t3 (List.mem_of_getElem? (i := 55) rfl) rfl
theorem tw_3_56 : (Jvm.Cond.methodLink "PromotedNumbers$Divider" (79 : Nat) ({ cls := "PromotedNumbers$Whole", name := "dropTwos", desc := "()I" } : Jvm.MethodName)) ∈ go_T := go_t3 (List.mem_of_getElem? (i := 56) rfl) rfl
theorem tw_3_57 : (Jvm.Cond.instanceMethod ({ cls := "PromotedNumbers$Whole", name := "dropTwos", desc := "()I" } : Jvm.MethodName)) ∈ go_T := go_t3 (List.mem_of_getElem? (i := 57) rfl) rfl
theorem tw_3_58 : (Jvm.Cond.selects "PromotedNumbers$Whole" ({ cls := "PromotedNumbers$Whole", name := "dropTwos", desc := "()I" } : Jvm.MethodName) ({ cls := "PromotedNumbers$Whole", name := "dropTwos", desc := "()I" } : Jvm.MethodName)) ∈ go_T := go_t3 (List.mem_of_getElem? (i := 58) rfl) rfl
theorem tw_3_59 : (Jvm.Cond.code ({ cls := "PromotedNumbers$Whole", name := "dropTwos", desc := "()I" } : Jvm.MethodName) prog_7_method_15_code (6 : Nat) (Option.some Jvm.ClassFile.FieldType.int)) ∈ go_T := go_t3 (List.mem_of_getElem? (i := 59) rfl) rfl
theorem tw_3_60 : (Jvm.Cond.methodLink "PromotedNumbers$Whole" (42 : Nat) ({ cls := "java/lang/Integer", name := "bitCount", desc := "(I)I" } : Jvm.MethodName)) ∈ go_T := go_t3 (List.mem_of_getElem? (i := 60) rfl) rfl
theorem tw_3_61 : (Jvm.Cond.static ({ cls := "java/lang/Integer", name := "bitCount", desc := "(I)I" } : Jvm.MethodName)) ∈ go_T := go_t3 (List.mem_of_getElem? (i := 61) rfl) rfl
theorem tw_3_62 : (Jvm.Cond.code ({ cls := "java/lang/Integer", name := "bitCount", desc := "(I)I" } : Jvm.MethodName) prog_17_method_49_code (1 : Nat) (Option.some Jvm.ClassFile.FieldType.int)) ∈ go_T := go_t3 (List.mem_of_getElem? (i := 62) rfl) rfl
theorem tw_3_63 : (Jvm.Cond.constant "java/lang/Integer" (265 : Nat) (1431655765 : Int32)) ∈ go_T := go_t3 (List.mem_of_getElem? (i := 63) rfl) rfl
theorem tw_3_64 : (Jvm.Cond.constant "java/lang/Integer" (266 : Nat) (858993459 : Int32)) ∈ go_T := go_t3 (List.mem_of_getElem? (i := 64) rfl) rfl
theorem tw_3_65 : (Jvm.Cond.constant "java/lang/Integer" (267 : Nat) (252645135 : Int32)) ∈ go_T := go_t3 (List.mem_of_getElem? (i := 65) rfl) rfl
theorem tw_3_66 : (Jvm.Cond.constant "PromotedNumbers$Whole" (35 : Nat) (1073741823 : Int32)) ∈ go_T := go_t3 (List.mem_of_getElem? (i := 66) rfl) rfl
theorem tw_3_67 : (Jvm.Cond.methodLink "PromotedNumbers$Whole" (36 : Nat) ({ cls := "PromotedNumbers$Whole", name := "cutTo", desc := "(I)V" } : Jvm.MethodName)) ∈ go_T := go_t3 (List.mem_of_getElem? (i := 67) rfl) rfl
theorem tw_3_68 : (Jvm.Cond.instanceMethod ({ cls := "PromotedNumbers$Whole", name := "cutTo", desc := "(I)V" } : Jvm.MethodName)) ∈ go_T := go_t3 (List.mem_of_getElem? (i := 68) rfl) rfl
theorem tw_3_69 : (Jvm.Cond.selects "PromotedNumbers$Whole" ({ cls := "PromotedNumbers$Whole", name := "cutTo", desc := "(I)V" } : Jvm.MethodName) ({ cls := "PromotedNumbers$Whole", name := "cutTo", desc := "(I)V" } : Jvm.MethodName)) ∈ go_T := go_t3 (List.mem_of_getElem? (i := 69) rfl) rfl
theorem tw_3_70 : (Jvm.Cond.code ({ cls := "PromotedNumbers$Whole", name := "cutTo", desc := "(I)V" } : Jvm.MethodName) prog_7_method_16_code (2 : Nat) (Option.none : Option Jvm.ClassFile.FieldType)) ∈ go_T := go_t3 (List.mem_of_getElem? (i := 70) rfl) rfl
theorem tw_3_71 : (Jvm.Cond.methodLink "PromotedNumbers$Divider" (83 : Nat) ({ cls := "java/lang/Math", name := "min", desc := "(II)I" } : Jvm.MethodName)) ∈ go_T := go_t3 (List.mem_of_getElem? (i := 71) rfl) rfl
theorem tw_3_72 : (Jvm.Cond.methodLink "PromotedNumbers$Divider" (40 : Nat) ({ cls := "PromotedNumbers$Whole", name := "compare", desc := "(LPromotedNumbers$Whole;)I" } : Jvm.MethodName)) ∈ go_T := go_t3 (List.mem_of_getElem? (i := 72) rfl) rfl
theorem tw_3_73 : (Jvm.Cond.instanceMethod ({ cls := "PromotedNumbers$Whole", name := "compare", desc := "(LPromotedNumbers$Whole;)I" } : Jvm.MethodName)) ∈ go_T := go_t3 (List.mem_of_getElem? (i := 73) rfl) rfl
theorem tw_3_74 : (Jvm.Cond.selects "PromotedNumbers$Whole" ({ cls := "PromotedNumbers$Whole", name := "compare", desc := "(LPromotedNumbers$Whole;)I" } : Jvm.MethodName) ({ cls := "PromotedNumbers$Whole", name := "compare", desc := "(LPromotedNumbers$Whole;)I" } : Jvm.MethodName)) ∈ go_T := go_t3 (List.mem_of_getElem? (i := 74) rfl) rfl
theorem tw_3_75 : (Jvm.Cond.code ({ cls := "PromotedNumbers$Whole", name := "compare", desc := "(LPromotedNumbers$Whole;)I" } : Jvm.MethodName) prog_7_method_9_code (3 : Nat) (Option.some Jvm.ClassFile.FieldType.int)) ∈ go_T := go_t3 (List.mem_of_getElem? (i := 75) rfl) rfl
theorem tw_3_76 : (Jvm.Cond.methodLink "PromotedNumbers$Divider" (86 : Nat) ({ cls := "PromotedNumbers$Whole", name := "isOne", desc := "()Z" } : Jvm.MethodName)) ∈ go_T := go_t3 (List.mem_of_getElem? (i := 76) rfl) rfl
theorem tw_3_77 : (Jvm.Cond.methodLink "PromotedNumbers$Divider" (89 : Nat) ({ cls := "PromotedNumbers$Whole", name := "subtract", desc := "(LPromotedNumbers$Whole;)V" } : Jvm.MethodName)) ∈ go_T := go_t3 (List.mem_of_getElem? (i := 77) rfl) rfl
theorem tw_3_78 : (Jvm.Cond.instanceMethod ({ cls := "PromotedNumbers$Whole", name := "subtract", desc := "(LPromotedNumbers$Whole;)V" } : Jvm.MethodName)) ∈ go_T := go_t3 (List.mem_of_getElem? (i := 78) rfl) rfl
theorem tw_3_79 : (Jvm.Cond.selects "PromotedNumbers$Whole" ({ cls := "PromotedNumbers$Whole", name := "subtract", desc := "(LPromotedNumbers$Whole;)V" } : Jvm.MethodName) ({ cls := "PromotedNumbers$Whole", name := "subtract", desc := "(LPromotedNumbers$Whole;)V" } : Jvm.MethodName)) ∈ go_T := go_t3 (List.mem_of_getElem? (i := 79) rfl) rfl
theorem tw_3_80 : (Jvm.Cond.code ({ cls := "PromotedNumbers$Whole", name := "subtract", desc := "(LPromotedNumbers$Whole;)V" } : Jvm.MethodName) prog_7_method_11_code (5 : Nat) (Option.none : Option Jvm.ClassFile.FieldType)) ∈ go_T := go_t3 (List.mem_of_getElem? (i := 80) rfl) rfl
theorem tw_3_81 : (Jvm.Cond.methodLink "PromotedNumbers$Divider" (53 : Nat) ({ cls := "PromotedNumbers$Whole", name := "timesPlus", desc := "(II)V" } : Jvm.MethodName)) ∈ go_T := go_t3 (List.mem_of_getElem? (i := 81) rfl) rfl
theorem tw_3_82 : (Jvm.Cond.instanceMethod ({ cls := "PromotedNumbers$Whole", name := "timesPlus", desc := "(II)V" } : Jvm.MethodName)) ∈ go_T := go_t3 (List.mem_of_getElem? (i := 82) rfl) rfl
theorem tw_3_83 : (Jvm.Cond.selects "PromotedNumbers$Whole" ({ cls := "PromotedNumbers$Whole", name := "timesPlus", desc := "(II)V" } : Jvm.MethodName) ({ cls := "PromotedNumbers$Whole", name := "timesPlus", desc := "(II)V" } : Jvm.MethodName)) ∈ go_T := go_t3 (List.mem_of_getElem? (i := 83) rfl) rfl
theorem tw_3_84 : (Jvm.Cond.code ({ cls := "PromotedNumbers$Whole", name := "timesPlus", desc := "(II)V" } : Jvm.MethodName) prog_7_method_13_code (8 : Nat) (Option.none : Option Jvm.ClassFile.FieldType)) ∈ go_T := go_t3 (List.mem_of_getElem? (i := 84) rfl) rfl
theorem tw_3_85 : (Jvm.Cond.constantLong "PromotedNumbers$Whole" (40 : Nat) (1073741823 : Int64)) ∈ go_T := go_t3 (List.mem_of_getElem? (i := 85) rfl) rfl
theorem tw_3_86 : (Jvm.Cond.methodLink "PromotedNumbers$Calculator" (51 : Nat) ({ cls := "PromotedNumbers$Divider", name := "divide", desc := "(LPromotedNumbers$Whole;LPromotedNumbers$Whole;LPromotedNumbers$Whole;)V" } : Jvm.MethodName)) ∈ go_T := go_t3 (List.mem_of_getElem? (i := 86) rfl) rfl
theorem tw_3_87 : (Jvm.Cond.instanceMethod ({ cls := "PromotedNumbers$Divider", name := "divide", desc := "(LPromotedNumbers$Whole;LPromotedNumbers$Whole;LPromotedNumbers$Whole;)V" } : Jvm.MethodName)) ∈ go_T := go_t3 (List.mem_of_getElem? (i := 87) rfl) rfl
theorem tw_3_88 : (Jvm.Cond.selects "PromotedNumbers$Divider" ({ cls := "PromotedNumbers$Divider", name := "divide", desc := "(LPromotedNumbers$Whole;LPromotedNumbers$Whole;LPromotedNumbers$Whole;)V" } : Jvm.MethodName) ({ cls := "PromotedNumbers$Divider", name := "divide", desc := "(LPromotedNumbers$Whole;LPromotedNumbers$Whole;LPromotedNumbers$Whole;)V" } : Jvm.MethodName)) ∈ go_T := go_t3 (List.mem_of_getElem? (i := 88) rfl) rfl
theorem tw_3_89 : (Jvm.Cond.code ({ cls := "PromotedNumbers$Divider", name := "divide", desc := "(LPromotedNumbers$Whole;LPromotedNumbers$Whole;LPromotedNumbers$Whole;)V" } : Jvm.MethodName) prog_3_method_2_code (6 : Nat) (Option.none : Option Jvm.ClassFile.FieldType)) ∈ go_T := go_t3 (List.mem_of_getElem? (i := 89) rfl) rfl
theorem tw_3_90 : (Jvm.Cond.methodLink "PromotedNumbers$Divider" (33 : Nat) ({ cls := "PromotedNumbers$Whole", name := "become", desc := "(I)V" } : Jvm.MethodName)) ∈ go_T := go_t3 (List.mem_of_getElem? (i := 90) rfl) rfl
theorem tw_3_91 : (Jvm.Cond.constant "PromotedNumbers$Divider" (44 : Nat) (1073741824 : Int32)) ∈ go_T := go_t3 (List.mem_of_getElem? (i := 91) rfl) rfl
theorem tw_3_92 : (Jvm.Cond.methodLink "PromotedNumbers$Divider" (57 : Nat) ({ cls := "PromotedNumbers$Divider", name := "takeAway", desc := "(I)I" } : Jvm.MethodName)) ∈ go_T := go_t3 (List.mem_of_getElem? (i := 92) rfl) rfl
theorem tw_3_94 : (Jvm.Cond.instanceMethod ({ cls := "PromotedNumbers$Divider", name := "takeAway", desc := "(I)I" } : Jvm.MethodName)) ∈ go_T := go_t3 (List.mem_of_getElem? (i := 94) rfl) rfl
theorem tw_3_95 : (Jvm.Cond.code ({ cls := "PromotedNumbers$Divider", name := "takeAway", desc := "(I)I" } : Jvm.MethodName) prog_3_method_3_code (12 : Nat) (Option.some Jvm.ClassFile.FieldType.int)) ∈ go_T := go_t3 (List.mem_of_getElem? (i := 95) rfl) rfl
theorem tw_3_96 : (Jvm.Cond.constantLong "PromotedNumbers$Divider" (67 : Nat) (1073741823 : Int64)) ∈ go_T := go_t3 (List.mem_of_getElem? (i := 96) rfl) rfl
theorem tw_3_97 : (Jvm.Cond.methodLink "PromotedNumbers$Divider" (69 : Nat) ({ cls := "java/lang/Math", name := "min", desc := "(JJ)J" } : Jvm.MethodName)) ∈ go_T := go_t3 (List.mem_of_getElem? (i := 97) rfl) rfl
theorem tw_3_98 : (Jvm.Cond.static ({ cls := "java/lang/Math", name := "min", desc := "(JJ)J" } : Jvm.MethodName)) ∈ go_T := go_t3 (List.mem_of_getElem? (i := 98) rfl) rfl
theorem tw_3_99 : (Jvm.Cond.code ({ cls := "java/lang/Math", name := "min", desc := "(JJ)J" } : Jvm.MethodName) prog_18_method_70_code (4 : Nat) (Option.some Jvm.ClassFile.FieldType.long)) ∈ go_T := go_t3 (List.mem_of_getElem? (i := 99) rfl) rfl
theorem tw_3_100 : (Jvm.Cond.methodLink "PromotedNumbers$Divider" (75 : Nat) ({ cls := "PromotedNumbers$Divider", name := "putBack", desc := "(I)I" } : Jvm.MethodName)) ∈ go_T := go_t3 (List.mem_of_getElem? (i := 100) rfl) rfl
theorem tw_3_102 : (Jvm.Cond.instanceMethod ({ cls := "PromotedNumbers$Divider", name := "putBack", desc := "(I)I" } : Jvm.MethodName)) ∈ go_T := go_t3 (List.mem_of_getElem? (i := 102) rfl) rfl
theorem tw_3_103 : (Jvm.Cond.code ({ cls := "PromotedNumbers$Divider", name := "putBack", desc := "(I)I" } : Jvm.MethodName) prog_3_method_4_code (5 : Nat) (Option.some Jvm.ClassFile.FieldType.int)) ∈ go_T := go_t3 (List.mem_of_getElem? (i := 103) rfl) rfl
theorem tw_3_104 : (Jvm.Cond.constant "PromotedNumbers$Divider" (78 : Nat) (1073741823 : Int32)) ∈ go_T := go_t3 (List.mem_of_getElem? (i := 104) rfl) rfl
theorem tw_3_105 : (Jvm.Cond.methodLink "PromotedNumbers$Divider" (61 : Nat) ({ cls := "PromotedNumbers$Whole", name := "cutTo", desc := "(I)V" } : Jvm.MethodName)) ∈ go_T := go_t3 (List.mem_of_getElem? (i := 105) rfl) rfl
theorem tw_3_106 : (Jvm.Cond.methodLink "PromotedNumbers$Divider" (64 : Nat) ({ cls := "PromotedNumbers$Whole", name := "divideBy", desc := "(I)I" } : Jvm.MethodName)) ∈ go_T := go_t3 (List.mem_of_getElem? (i := 106) rfl) rfl
theorem tw_3_107 : (Jvm.Cond.instanceMethod ({ cls := "PromotedNumbers$Whole", name := "divideBy", desc := "(I)I" } : Jvm.MethodName)) ∈ go_T := go_t3 (List.mem_of_getElem? (i := 107) rfl) rfl
theorem tw_3_108 : (Jvm.Cond.selects "PromotedNumbers$Whole" ({ cls := "PromotedNumbers$Whole", name := "divideBy", desc := "(I)I" } : Jvm.MethodName) ({ cls := "PromotedNumbers$Whole", name := "divideBy", desc := "(I)I" } : Jvm.MethodName)) ∈ go_T := go_t3 (List.mem_of_getElem? (i := 108) rfl) rfl
theorem tw_3_109 : (Jvm.Cond.code ({ cls := "PromotedNumbers$Whole", name := "divideBy", desc := "(I)I" } : Jvm.MethodName) prog_7_method_14_code (7 : Nat) (Option.some Jvm.ClassFile.FieldType.int)) ∈ go_T := go_t3 (List.mem_of_getElem? (i := 109) rfl) rfl
theorem tw_3_110 : (Jvm.Cond.methodLink "PromotedNumbers$Calculator" (57 : Nat) ({ cls := "PromotedNumbers$Whole", name := "becomeProduct", desc := "(LPromotedNumbers$Whole;LPromotedNumbers$Whole;)V" } : Jvm.MethodName)) ∈ go_T := go_t3 (List.mem_of_getElem? (i := 110) rfl) rfl
theorem tw_3_111 : (Jvm.Cond.instanceMethod ({ cls := "PromotedNumbers$Whole", name := "becomeProduct", desc := "(LPromotedNumbers$Whole;LPromotedNumbers$Whole;)V" } : Jvm.MethodName)) ∈ go_T := go_t3 (List.mem_of_getElem? (i := 111) rfl) rfl
theorem tw_3_112 : (Jvm.Cond.selects "PromotedNumbers$Whole" ({ cls := "PromotedNumbers$Whole", name := "becomeProduct", desc := "(LPromotedNumbers$Whole;LPromotedNumbers$Whole;)V" } : Jvm.MethodName) ({ cls := "PromotedNumbers$Whole", name := "becomeProduct", desc := "(LPromotedNumbers$Whole;LPromotedNumbers$Whole;)V" } : Jvm.MethodName)) ∈ go_T := go_t3 (List.mem_of_getElem? (i := 112) rfl) rfl
theorem tw_3_113 : (Jvm.Cond.code ({ cls := "PromotedNumbers$Whole", name := "becomeProduct", desc := "(LPromotedNumbers$Whole;LPromotedNumbers$Whole;)V" } : Jvm.MethodName) prog_7_method_12_code (11 : Nat) (Option.none : Option Jvm.ClassFile.FieldType)) ∈ go_T := go_t3 (List.mem_of_getElem? (i := 113) rfl) rfl
theorem tw_3_114 : (Jvm.Cond.methodLink "PromotedNumbers$Calculator" (69 : Nat) ({ cls := "PromotedNumbers$Calculator", name := "settleAt", desc := "(LPromotedNumbers$Fraction;ZLPromotedNumbers$Whole;)I" } : Jvm.MethodName)) ∈ go_T := go_t3 (List.mem_of_getElem? (i := 114) rfl) rfl
theorem tw_3_116 : (Jvm.Cond.instanceMethod ({ cls := "PromotedNumbers$Calculator", name := "settleAt", desc := "(LPromotedNumbers$Fraction;ZLPromotedNumbers$Whole;)I" } : Jvm.MethodName)) ∈ go_T := go_t3 (List.mem_of_getElem? (i := 116) rfl) rfl
theorem tw_3_117 : (Jvm.Cond.code ({ cls := "PromotedNumbers$Calculator", name := "settleAt", desc := "(LPromotedNumbers$Fraction;ZLPromotedNumbers$Whole;)I" } : Jvm.MethodName) prog_2_method_8_code (4 : Nat) (Option.some Jvm.ClassFile.FieldType.int)) ∈ go_T := go_t3 (List.mem_of_getElem? (i := 117) rfl) rfl
theorem tw_3_118 : (Jvm.Cond.methodLink "PromotedNumbers$Calculator" (100 : Nat) ({ cls := "PromotedNumbers$Whole", name := "isTooLarge", desc := "()Z" } : Jvm.MethodName)) ∈ go_T := go_t3 (List.mem_of_getElem? (i := 118) rfl) rfl
theorem tw_3_119 : (Jvm.Cond.instanceMethod ({ cls := "PromotedNumbers$Whole", name := "isTooLarge", desc := "()Z" } : Jvm.MethodName)) ∈ go_T := go_t3 (List.mem_of_getElem? (i := 119) rfl) rfl
theorem tw_3_120 : (Jvm.Cond.selects "PromotedNumbers$Whole" ({ cls := "PromotedNumbers$Whole", name := "isTooLarge", desc := "()Z" } : Jvm.MethodName) ({ cls := "PromotedNumbers$Whole", name := "isTooLarge", desc := "()Z" } : Jvm.MethodName)) ∈ go_T := go_t3 (List.mem_of_getElem? (i := 120) rfl) rfl
theorem tw_3_121 : (Jvm.Cond.code ({ cls := "PromotedNumbers$Whole", name := "isTooLarge", desc := "()Z" } : Jvm.MethodName) prog_7_method_6_code (1 : Nat) (Option.some Jvm.ClassFile.FieldType.boolean)) ∈ go_T := go_t3 (List.mem_of_getElem? (i := 121) rfl) rfl
theorem tw_3_122 : (Jvm.Cond.methodLink "PromotedNumbers$Calculator" (84 : Nat) ({ cls := "PromotedNumbers$Whole", name := "copy", desc := "(LPromotedNumbers$Whole;)V" } : Jvm.MethodName)) ∈ go_T := go_t3 (List.mem_of_getElem? (i := 122) rfl) rfl
theorem tw_3_123 : (Jvm.Cond.methodLink "PromotedNumbers$Calculator" (103 : Nat) ({ cls := "PromotedNumbers$Whole", name := "isZero", desc := "()Z" } : Jvm.MethodName)) ∈ go_T := go_t3 (List.mem_of_getElem? (i := 123) rfl) rfl
theorem tw_3_124 : (Jvm.Cond.methodLink "PromotedNumbers$Machine" (67 : Nat) ({ cls := "PromotedNumbers$Machine", name := "fold", desc := "()I" } : Jvm.MethodName)) ∈ go_T := go_t3 (List.mem_of_getElem? (i := 124) rfl) rfl
theorem tw_3_126 : (Jvm.Cond.instanceMethod ({ cls := "PromotedNumbers$Machine", name := "fold", desc := "()I" } : Jvm.MethodName)) ∈ go_T := go_t3 (List.mem_of_getElem? (i := 126) rfl) rfl
theorem tw_3_127 : (Jvm.Cond.code ({ cls := "PromotedNumbers$Machine", name := "fold", desc := "()I" } : Jvm.MethodName) prog_6_method_10_code (6 : Nat) (Option.some Jvm.ClassFile.FieldType.int)) ∈ go_T := go_t3 (List.mem_of_getElem? (i := 127) rfl) rfl
theorem tw_3_128 : (Jvm.Cond.methodLink "PromotedNumbers$Machine" (134 : Nat) ({ cls := "PromotedNumbers$Machine", name := "beginsWithFirst", desc := "(CI)Z" } : Jvm.MethodName)) ∈ go_T := go_t3 (List.mem_of_getElem? (i := 128) rfl) rfl
theorem tw_3_129 : (Jvm.Cond.static ({ cls := "PromotedNumbers$Machine", name := "beginsWithFirst", desc := "(CI)Z" } : Jvm.MethodName)) ∈ go_T := go_t3 (List.mem_of_getElem? (i := 129) rfl) rfl
theorem tw_3_130 : (Jvm.Cond.code ({ cls := "PromotedNumbers$Machine", name := "beginsWithFirst", desc := "(CI)Z" } : Jvm.MethodName) prog_6_method_11_code (3 : Nat) (Option.some Jvm.ClassFile.FieldType.boolean)) ∈ go_T := go_t3 (List.mem_of_getElem? (i := 130) rfl) rfl
theorem tw_3_131 : (Jvm.Cond.methodLink "PromotedNumbers$Machine" (85 : Nat) ({ cls := "PromotedNumbers$Fraction", name := "copy", desc := "(LPromotedNumbers$Fraction;)V" } : Jvm.MethodName)) ∈ go_T := go_t3 (List.mem_of_getElem? (i := 131) rfl) rfl
theorem tw_3_132 : (Jvm.Cond.instanceMethod ({ cls := "PromotedNumbers$Fraction", name := "copy", desc := "(LPromotedNumbers$Fraction;)V" } : Jvm.MethodName)) ∈ go_T := go_t3 (List.mem_of_getElem? (i := 132) rfl) rfl
theorem tw_3_133 : (Jvm.Cond.selects "PromotedNumbers$Fraction" ({ cls := "PromotedNumbers$Fraction", name := "copy", desc := "(LPromotedNumbers$Fraction;)V" } : Jvm.MethodName) ({ cls := "PromotedNumbers$Fraction", name := "copy", desc := "(LPromotedNumbers$Fraction;)V" } : Jvm.MethodName)) ∈ go_T := go_t3 (List.mem_of_getElem? (i := 133) rfl) rfl
theorem tw_3_134 : (Jvm.Cond.code ({ cls := "PromotedNumbers$Fraction", name := "copy", desc := "(LPromotedNumbers$Fraction;)V" } : Jvm.MethodName) prog_4_method_3_code (2 : Nat) (Option.none : Option Jvm.ClassFile.FieldType)) ∈ go_T := go_t3 (List.mem_of_getElem? (i := 134) rfl) rfl
theorem tw_3_135 : (Jvm.Cond.methodLink "PromotedNumbers$Fraction" (30 : Nat) ({ cls := "PromotedNumbers$Whole", name := "copy", desc := "(LPromotedNumbers$Whole;)V" } : Jvm.MethodName)) ∈ go_T := go_t3 (List.mem_of_getElem? (i := 135) rfl) rfl
theorem tw_3_136 : (Jvm.Cond.methodLink "PromotedNumbers$Machine" (138 : Nat) ({ cls := "PromotedNumbers$Machine", name := "step", desc := "(CLPromotedNumbers$Fraction;)I" } : Jvm.MethodName)) ∈ go_T := go_t3 (List.mem_of_getElem? (i := 136) rfl) rfl
theorem tw_3_138 : (Jvm.Cond.instanceMethod ({ cls := "PromotedNumbers$Machine", name := "step", desc := "(CLPromotedNumbers$Fraction;)I" } : Jvm.MethodName)) ∈ go_T := go_t3 (List.mem_of_getElem? (i := 138) rfl) rfl
theorem tw_3_139 : (Jvm.Cond.code ({ cls := "PromotedNumbers$Machine", name := "step", desc := "(CLPromotedNumbers$Fraction;)I" } : Jvm.MethodName) prog_6_method_12_code (3 : Nat) (Option.some Jvm.ClassFile.FieldType.int)) ∈ go_T := go_t3 (List.mem_of_getElem? (i := 139) rfl) rfl
theorem tw_3_140 : (Jvm.Cond.methodLink "PromotedNumbers$Machine" (142 : Nat) ({ cls := "PromotedNumbers$Calculator", name := "add", desc := "(LPromotedNumbers$Fraction;LPromotedNumbers$Fraction;Z)I" } : Jvm.MethodName)) ∈ go_T := go_t3 (List.mem_of_getElem? (i := 140) rfl) rfl
theorem tw_3_141 : (Jvm.Cond.instanceMethod ({ cls := "PromotedNumbers$Calculator", name := "add", desc := "(LPromotedNumbers$Fraction;LPromotedNumbers$Fraction;Z)I" } : Jvm.MethodName)) ∈ go_T := go_t3 (List.mem_of_getElem? (i := 141) rfl) rfl
theorem tw_3_142 : (Jvm.Cond.selects "PromotedNumbers$Calculator" ({ cls := "PromotedNumbers$Calculator", name := "add", desc := "(LPromotedNumbers$Fraction;LPromotedNumbers$Fraction;Z)I" } : Jvm.MethodName) ({ cls := "PromotedNumbers$Calculator", name := "add", desc := "(LPromotedNumbers$Fraction;LPromotedNumbers$Fraction;Z)I" } : Jvm.MethodName)) ∈ go_T := go_t3 (List.mem_of_getElem? (i := 142) rfl) rfl
theorem tw_3_143 : (Jvm.Cond.code ({ cls := "PromotedNumbers$Calculator", name := "add", desc := "(LPromotedNumbers$Fraction;LPromotedNumbers$Fraction;Z)I" } : Jvm.MethodName) prog_2_method_2_code (5 : Nat) (Option.some Jvm.ClassFile.FieldType.int)) ∈ go_T := go_t3 (List.mem_of_getElem? (i := 143) rfl) rfl
theorem tw_3_144 : (Jvm.Cond.methodLink "PromotedNumbers$Calculator" (65 : Nat) ({ cls := "PromotedNumbers$Calculator", name := "addSpare", desc := "(ZZ)Z" } : Jvm.MethodName)) ∈ go_T := go_t3 (List.mem_of_getElem? (i := 144) rfl) rfl
theorem tw_3_146 : (Jvm.Cond.instanceMethod ({ cls := "PromotedNumbers$Calculator", name := "addSpare", desc := "(ZZ)Z" } : Jvm.MethodName)) ∈ go_T := go_t3 (List.mem_of_getElem? (i := 146) rfl) rfl
theorem tw_3_147 : (Jvm.Cond.code ({ cls := "PromotedNumbers$Calculator", name := "addSpare", desc := "(ZZ)Z" } : Jvm.MethodName) prog_2_method_3_code (3 : Nat) (Option.some Jvm.ClassFile.FieldType.boolean)) ∈ go_T := go_t3 (List.mem_of_getElem? (i := 147) rfl) rfl
theorem tw_3_148 : (Jvm.Cond.methodLink "PromotedNumbers$Calculator" (73 : Nat) ({ cls := "PromotedNumbers$Whole", name := "add", desc := "(LPromotedNumbers$Whole;)V" } : Jvm.MethodName)) ∈ go_T := go_t3 (List.mem_of_getElem? (i := 148) rfl) rfl
theorem tw_3_149 : (Jvm.Cond.instanceMethod ({ cls := "PromotedNumbers$Whole", name := "add", desc := "(LPromotedNumbers$Whole;)V" } : Jvm.MethodName)) ∈ go_T := go_t3 (List.mem_of_getElem? (i := 149) rfl) rfl
theorem tw_3_150 : (Jvm.Cond.selects "PromotedNumbers$Whole" ({ cls := "PromotedNumbers$Whole", name := "add", desc := "(LPromotedNumbers$Whole;)V" } : Jvm.MethodName) ({ cls := "PromotedNumbers$Whole", name := "add", desc := "(LPromotedNumbers$Whole;)V" } : Jvm.MethodName)) ∈ go_T := go_t3 (List.mem_of_getElem? (i := 150) rfl) rfl
theorem tw_3_151 : (Jvm.Cond.code ({ cls := "PromotedNumbers$Whole", name := "add", desc := "(LPromotedNumbers$Whole;)V" } : Jvm.MethodName) prog_7_method_10_code (6 : Nat) (Option.none : Option Jvm.ClassFile.FieldType)) ∈ go_T := go_t3 (List.mem_of_getElem? (i := 151) rfl) rfl
theorem tw_3_152 : (Jvm.Cond.methodLink "PromotedNumbers$Whole" (29 : Nat) ({ cls := "java/lang/Math", name := "max", desc := "(II)I" } : Jvm.MethodName)) ∈ go_T := go_t3 (List.mem_of_getElem? (i := 152) rfl) rfl
theorem tw_3_153 : (Jvm.Cond.methodLink "PromotedNumbers$Calculator" (77 : Nat) ({ cls := "PromotedNumbers$Whole", name := "compare", desc := "(LPromotedNumbers$Whole;)I" } : Jvm.MethodName)) ∈ go_T := go_t3 (List.mem_of_getElem? (i := 153) rfl) rfl
theorem tw_3_154 : (Jvm.Cond.methodLink "PromotedNumbers$Calculator" (81 : Nat) ({ cls := "PromotedNumbers$Whole", name := "subtract", desc := "(LPromotedNumbers$Whole;)V" } : Jvm.MethodName)) ∈ go_T := go_t3 (List.mem_of_getElem? (i := 154) rfl) rfl
theorem tw_3_155 : (Jvm.Cond.methodLink "PromotedNumbers$Machine" (92 : Nat) ({ cls := "PromotedNumbers$Fraction", name := "isZero", desc := "()Z" } : Jvm.MethodName)) ∈ go_T := go_t3 (List.mem_of_getElem? (i := 155) rfl) rfl
theorem tw_3_156 : (Jvm.Cond.methodLink "PromotedNumbers$Machine" (146 : Nat) ({ cls := "PromotedNumbers$Calculator", name := "divideWhole", desc := "(LPromotedNumbers$Fraction;LPromotedNumbers$Fraction;Z)I" } : Jvm.MethodName)) ∈ go_T := go_t3 (List.mem_of_getElem? (i := 156) rfl) rfl
theorem tw_3_157 : (Jvm.Cond.instanceMethod ({ cls := "PromotedNumbers$Calculator", name := "divideWhole", desc := "(LPromotedNumbers$Fraction;LPromotedNumbers$Fraction;Z)I" } : Jvm.MethodName)) ∈ go_T := go_t3 (List.mem_of_getElem? (i := 157) rfl) rfl
theorem tw_3_158 : (Jvm.Cond.selects "PromotedNumbers$Calculator" ({ cls := "PromotedNumbers$Calculator", name := "divideWhole", desc := "(LPromotedNumbers$Fraction;LPromotedNumbers$Fraction;Z)I" } : Jvm.MethodName) ({ cls := "PromotedNumbers$Calculator", name := "divideWhole", desc := "(LPromotedNumbers$Fraction;LPromotedNumbers$Fraction;Z)I" } : Jvm.MethodName)) ∈ go_T := go_t3 (List.mem_of_getElem? (i := 158) rfl) rfl
theorem tw_3_159 : (Jvm.Cond.code ({ cls := "PromotedNumbers$Calculator", name := "divideWhole", desc := "(LPromotedNumbers$Fraction;LPromotedNumbers$Fraction;Z)I" } : Jvm.MethodName) prog_2_method_5_code (4 : Nat) (Option.some Jvm.ClassFile.FieldType.int)) ∈ go_T := go_t3 (List.mem_of_getElem? (i := 159) rfl) rfl
theorem tw_3_160 : (Jvm.Cond.methodLink "PromotedNumbers$Calculator" (87 : Nat) ({ cls := "PromotedNumbers$Fraction", name := "isWhole", desc := "()Z" } : Jvm.MethodName)) ∈ go_T := go_t3 (List.mem_of_getElem? (i := 160) rfl) rfl
theorem tw_3_161 : (Jvm.Cond.methodLink "PromotedNumbers$Calculator" (91 : Nat) ({ cls := "PromotedNumbers$Fraction", name := "isZero", desc := "()Z" } : Jvm.MethodName)) ∈ go_T := go_t3 (List.mem_of_getElem? (i := 161) rfl) rfl
theorem tw_3_162 : (Jvm.Cond.methodLink "PromotedNumbers$Calculator" (94 : Nat) ({ cls := "PromotedNumbers$Whole", name := "become", desc := "(I)V" } : Jvm.MethodName)) ∈ go_T := go_t3 (List.mem_of_getElem? (i := 162) rfl) rfl
theorem tw_3_163 : (Jvm.Cond.methodLink "PromotedNumbers$Machine" (149 : Nat) ({ cls := "PromotedNumbers$Calculator", name := "joinGreatest", desc := "(LPromotedNumbers$Fraction;LPromotedNumbers$Fraction;)I" } : Jvm.MethodName)) ∈ go_T := go_t3 (List.mem_of_getElem? (i := 163) rfl) rfl
theorem tw_3_164 : (Jvm.Cond.instanceMethod ({ cls := "PromotedNumbers$Calculator", name := "joinGreatest", desc := "(LPromotedNumbers$Fraction;LPromotedNumbers$Fraction;)I" } : Jvm.MethodName)) ∈ go_T := go_t3 (List.mem_of_getElem? (i := 164) rfl) rfl
theorem tw_3_165 : (Jvm.Cond.selects "PromotedNumbers$Calculator" ({ cls := "PromotedNumbers$Calculator", name := "joinGreatest", desc := "(LPromotedNumbers$Fraction;LPromotedNumbers$Fraction;)I" } : Jvm.MethodName) ({ cls := "PromotedNumbers$Calculator", name := "joinGreatest", desc := "(LPromotedNumbers$Fraction;LPromotedNumbers$Fraction;)I" } : Jvm.MethodName)) ∈ go_T := go_t3 (List.mem_of_getElem? (i := 165) rfl) rfl
theorem tw_3_166 : (Jvm.Cond.code ({ cls := "PromotedNumbers$Calculator", name := "joinGreatest", desc := "(LPromotedNumbers$Fraction;LPromotedNumbers$Fraction;)I" } : Jvm.MethodName) prog_2_method_6_code (3 : Nat) (Option.some Jvm.ClassFile.FieldType.int)) ∈ go_T := go_t3 (List.mem_of_getElem? (i := 166) rfl) rfl
theorem tw_3_167 : (Jvm.Cond.methodLink "PromotedNumbers$Machine" (153 : Nat) ({ cls := "PromotedNumbers$Machine", name := "replace", desc := "(CLPromotedNumbers$Fraction;)I" } : Jvm.MethodName)) ∈ go_T := go_t3 (List.mem_of_getElem? (i := 167) rfl) rfl
theorem tw_3_169 : (Jvm.Cond.instanceMethod ({ cls := "PromotedNumbers$Machine", name := "replace", desc := "(CLPromotedNumbers$Fraction;)I" } : Jvm.MethodName)) ∈ go_T := go_t3 (List.mem_of_getElem? (i := 169) rfl) rfl
theorem tw_3_170 : (Jvm.Cond.code ({ cls := "PromotedNumbers$Machine", name := "replace", desc := "(CLPromotedNumbers$Fraction;)I" } : Jvm.MethodName) prog_6_method_13_code (3 : Nat) (Option.some Jvm.ClassFile.FieldType.int)) ∈ go_T := go_t3 (List.mem_of_getElem? (i := 170) rfl) rfl
theorem tw_3_171 : (Jvm.Cond.methodLink "PromotedNumbers$Machine" (95 : Nat) ({ cls := "PromotedNumbers$Whole", name := "become", desc := "(I)V" } : Jvm.MethodName)) ∈ go_T := go_t3 (List.mem_of_getElem? (i := 171) rfl) rfl
theorem tw_3_172 : (Jvm.Cond.methodLink "PromotedNumbers$Machine" (109 : Nat) ({ cls := "PromotedNumbers$Whole", name := "copy", desc := "(LPromotedNumbers$Whole;)V" } : Jvm.MethodName)) ∈ go_T := go_t3 (List.mem_of_getElem? (i := 172) rfl) rfl
theorem tw_3_173 : (Jvm.Cond.methodLink "PromotedNumbers$Machine" (156 : Nat) ({ cls := "PromotedNumbers$Calculator", name := "compare", desc := "(LPromotedNumbers$Fraction;LPromotedNumbers$Fraction;)I" } : Jvm.MethodName)) ∈ go_T := go_t3 (List.mem_of_getElem? (i := 173) rfl) rfl
theorem tw_3_174 : (Jvm.Cond.instanceMethod ({ cls := "PromotedNumbers$Calculator", name := "compare", desc := "(LPromotedNumbers$Fraction;LPromotedNumbers$Fraction;)I" } : Jvm.MethodName)) ∈ go_T := go_t3 (List.mem_of_getElem? (i := 174) rfl) rfl
theorem tw_3_175 : (Jvm.Cond.selects "PromotedNumbers$Calculator" ({ cls := "PromotedNumbers$Calculator", name := "compare", desc := "(LPromotedNumbers$Fraction;LPromotedNumbers$Fraction;)I" } : Jvm.MethodName) ({ cls := "PromotedNumbers$Calculator", name := "compare", desc := "(LPromotedNumbers$Fraction;LPromotedNumbers$Fraction;)I" } : Jvm.MethodName)) ∈ go_T := go_t3 (List.mem_of_getElem? (i := 175) rfl) rfl
theorem tw_3_176 : (Jvm.Cond.code ({ cls := "PromotedNumbers$Calculator", name := "compare", desc := "(LPromotedNumbers$Fraction;LPromotedNumbers$Fraction;)I" } : Jvm.MethodName) prog_2_method_7_code (3 : Nat) (Option.some Jvm.ClassFile.FieldType.int)) ∈ go_T := go_t3 (List.mem_of_getElem? (i := 176) rfl) rfl
theorem tw_3_177 : (Jvm.Cond.methodLink "PromotedNumbers$Machine" (70 : Nat) ({ cls := "PromotedNumbers$Machine", name := "closeBracket", desc := "()V" } : Jvm.MethodName)) ∈ go_T := go_t3 (List.mem_of_getElem? (i := 177) rfl) rfl
theorem tw_3_179 : (Jvm.Cond.instanceMethod ({ cls := "PromotedNumbers$Machine", name := "closeBracket", desc := "()V" } : Jvm.MethodName)) ∈ go_T := go_t3 (List.mem_of_getElem? (i := 179) rfl) rfl
theorem tw_3_180 : (Jvm.Cond.code ({ cls := "PromotedNumbers$Machine", name := "closeBracket", desc := "()V" } : Jvm.MethodName) prog_6_method_5_code (1 : Nat) (Option.none : Option Jvm.ClassFile.FieldType)) ∈ go_T := go_t3 (List.mem_of_getElem? (i := 180) rfl) rfl
theorem tw_3_181 : (Jvm.Cond.methodLink "PromotedNumbers$Machine" (73 : Nat) ({ cls := "PromotedNumbers$Machine", name := "skipsArgument", desc := "()Z" } : Jvm.MethodName)) ∈ go_T := go_t3 (List.mem_of_getElem? (i := 181) rfl) rfl
theorem tw_3_183 : (Jvm.Cond.instanceMethod ({ cls := "PromotedNumbers$Machine", name := "skipsArgument", desc := "()Z" } : Jvm.MethodName)) ∈ go_T := go_t3 (List.mem_of_getElem? (i := 183) rfl) rfl
theorem tw_3_184 : (Jvm.Cond.code ({ cls := "PromotedNumbers$Machine", name := "skipsArgument", desc := "()Z" } : Jvm.MethodName) prog_6_method_6_code (3 : Nat) (Option.some Jvm.ClassFile.FieldType.boolean)) ∈ go_T := go_t3 (List.mem_of_getElem? (i := 184) rfl) rfl
theorem tw_3_185 : (Jvm.Cond.methodLink "PromotedNumbers$Machine" (77 : Nat) ({ cls := "PromotedNumbers$Machine", name := "endOfArgument", desc := "([CII)I" } : Jvm.MethodName)) ∈ go_T := go_t3 (List.mem_of_getElem? (i := 185) rfl) rfl
theorem tw_3_187 : (Jvm.Cond.instanceMethod ({ cls := "PromotedNumbers$Machine", name := "endOfArgument", desc := "([CII)I" } : Jvm.MethodName)) ∈ go_T := go_t3 (List.mem_of_getElem? (i := 187) rfl) rfl
theorem tw_3_188 : (Jvm.Cond.code ({ cls := "PromotedNumbers$Machine", name := "endOfArgument", desc := "([CII)I" } : Jvm.MethodName) prog_6_method_7_code (7 : Nat) (Option.some Jvm.ClassFile.FieldType.int)) ∈ go_T := go_t3 (List.mem_of_getElem? (i := 188) rfl) rfl
theorem tw_3_190 : (Jvm.Cond.methodLink "PromotedNumbers$Machine" (89 : Nat) ({ cls := "PromotedNumbers$Machine", name := "takeNumber", desc := "([CII)I" } : Jvm.MethodName)) ∈ go_T := go_t3 (List.mem_of_getElem? (i := 190) rfl) rfl
theorem tw_3_192 : (Jvm.Cond.instanceMethod ({ cls := "PromotedNumbers$Machine", name := "takeNumber", desc := "([CII)I" } : Jvm.MethodName)) ∈ go_T := go_t3 (List.mem_of_getElem? (i := 192) rfl) rfl
theorem tw_3_193 : (Jvm.Cond.code ({ cls := "PromotedNumbers$Machine", name := "takeNumber", desc := "([CII)I" } : Jvm.MethodName) prog_6_method_8_code (6 : Nat) (Option.some Jvm.ClassFile.FieldType.int)) ∈ go_T := go_t3 (List.mem_of_getElem? (i := 193) rfl) rfl
theorem tw_3_194 : (Jvm.Cond.methodLink "PromotedNumbers$Machine" (98 : Nat) ({ cls := "PromotedNumbers$Whole", name := "timesPlus", desc := "(II)V" } : Jvm.MethodName)) ∈ go_T := go_t3 (List.mem_of_getElem? (i := 194) rfl) rfl
theorem tw_3_195 : (Jvm.Cond.methodLink "PromotedNumbers$Machine" (102 : Nat) ({ cls := "PromotedNumbers$Whole", name := "isTooLarge", desc := "()Z" } : Jvm.MethodName)) ∈ go_T := go_t3 (List.mem_of_getElem? (i := 195) rfl) rfl
theorem tw_3_196 : (Jvm.Cond.methodLink "PromotedNumbers$Machine" (112 : Nat) ({ cls := "PromotedNumbers$Whole", name := "isZero", desc := "()Z" } : Jvm.MethodName)) ∈ go_T := go_t3 (List.mem_of_getElem? (i := 196) rfl) rfl
theorem tw_3_197 : (Jvm.Cond.methodLink "PromotedNumbers" (59 : Nat) ({ cls := "PromotedNumbers", name := "refuse", desc := "(I)V" } : Jvm.MethodName)) ∈ go_T := go_t3 (List.mem_of_getElem? (i := 197) rfl) rfl
theorem tw_3_198 : (Jvm.Cond.static ({ cls := "PromotedNumbers", name := "refuse", desc := "(I)V" } : Jvm.MethodName)) ∈ go_T := go_t3 (List.mem_of_getElem? (i := 198) rfl) rfl
theorem tw_3_199 : (Jvm.Cond.code ({ cls := "PromotedNumbers", name := "refuse", desc := "(I)V" } : Jvm.MethodName) prog_1_method_16_code (1 : Nat) (Option.none : Option Jvm.ClassFile.FieldType)) ∈ go_T := go_t3 (List.mem_of_getElem? (i := 199) rfl) rfl
theorem tw_3_200 : (Jvm.Cond.classLink "PromotedNumbers" (125 : Nat) "java/lang/UnsupportedOperationException") ∈ go_T := go_t3 (List.mem_of_getElem? (i := 200) rfl) rfl
theorem tw_3_201 : (Jvm.Cond.instantiable "java/lang/UnsupportedOperationException" (6 : Nat)) ∈ go_T := go_t3 (List.mem_of_getElem? (i := 201) rfl) rfl
theorem tw_3_203 : (Jvm.Cond.selects "java/lang/UnsupportedOperationException" ({ cls := "java/lang/Throwable", name := "fillInStackTrace", desc := "(I)Ljava/lang/Throwable;" } : Jvm.MethodName) ({ cls := "java/lang/Throwable", name := "fillInStackTrace", desc := "(I)Ljava/lang/Throwable;" } : Jvm.MethodName)) ∈ go_T := go_t3 (List.mem_of_getElem? (i := 203) rfl) rfl
theorem tw_3_204 : (Jvm.Cond.lays "java/lang/UnsupportedOperationException" "java/lang/Throwable" "cause" "Ljava/lang/Throwable;") ∈ go_T := go_t3 (List.mem_of_getElem? (i := 204) rfl) rfl
theorem tw_3_205 : (Jvm.Cond.lays "java/lang/UnsupportedOperationException" "java/lang/Throwable" "stackTrace" "[Ljava/lang/StackTraceElement;") ∈ go_T := go_t3 (List.mem_of_getElem? (i := 205) rfl) rfl
theorem tw_3_206 : (Jvm.Cond.lays "java/lang/UnsupportedOperationException" "java/lang/Throwable" "suppressedExceptions" "Ljava/util/List;") ∈ go_T := go_t3 (List.mem_of_getElem? (i := 206) rfl) rfl
theorem tw_3_207 : (Jvm.Cond.lays "java/lang/UnsupportedOperationException" "java/lang/Throwable" "detailMessage" "Ljava/lang/String;") ∈ go_T := go_t3 (List.mem_of_getElem? (i := 207) rfl) rfl
theorem tw_3_208 : (Jvm.Cond.lays "java/lang/UnsupportedOperationException" "java/lang/Throwable" "backtrace" "Ljava/lang/Object;") ∈ go_T := go_t3 (List.mem_of_getElem? (i := 208) rfl) rfl
theorem tw_3_209 : (Jvm.Cond.methodLink "PromotedNumbers" (127 : Nat) ({ cls := "java/lang/UnsupportedOperationException", name := "<init>", desc := "()V" } : Jvm.MethodName)) ∈ go_T := go_t3 (List.mem_of_getElem? (i := 209) rfl) rfl
theorem tw_3_210 : (Jvm.Cond.instanceMethod ({ cls := "java/lang/UnsupportedOperationException", name := "<init>", desc := "()V" } : Jvm.MethodName)) ∈ go_T := go_t3 (List.mem_of_getElem? (i := 210) rfl) rfl
theorem tw_3_211 : (Jvm.Cond.code ({ cls := "java/lang/UnsupportedOperationException", name := "<init>", desc := "()V" } : Jvm.MethodName) prog_25_method_1_code (1 : Nat) (Option.none : Option Jvm.ClassFile.FieldType)) ∈ go_T := go_t3 (List.mem_of_getElem? (i := 211) rfl) rfl
theorem tw_3_212 : (Jvm.Cond.methodLink "java/lang/UnsupportedOperationException" (1 : Nat) ({ cls := "java/lang/RuntimeException", name := "<init>", desc := "()V" } : Jvm.MethodName)) ∈ go_T := go_t3 (List.mem_of_getElem? (i := 212) rfl) rfl
theorem tw_3_213 : (Jvm.Cond.lays "java/lang/UnsupportedOperationException" "java/lang/Throwable" "depth" "I") ∈ go_T := go_t3 (List.mem_of_getElem? (i := 213) rfl) rfl
theorem tw_3_214 : (Jvm.Cond.superclass "java/lang/UnsupportedOperationException" "java/lang/RuntimeException") ∈ go_T := go_t3 (List.mem_of_getElem? (i := 214) rfl) rfl
theorem tw_3_215 : (Jvm.Cond.classLink "PromotedNumbers" (128 : Nat) "java/lang/ArithmeticException") ∈ go_T := go_t3 (List.mem_of_getElem? (i := 215) rfl) rfl
theorem tw_3_216 : (Jvm.Cond.instantiable "java/lang/ArithmeticException" (6 : Nat)) ∈ go_T := go_t3 (List.mem_of_getElem? (i := 216) rfl) rfl
theorem tw_3_218 : (Jvm.Cond.selects "java/lang/ArithmeticException" ({ cls := "java/lang/Throwable", name := "fillInStackTrace", desc := "(I)Ljava/lang/Throwable;" } : Jvm.MethodName) ({ cls := "java/lang/Throwable", name := "fillInStackTrace", desc := "(I)Ljava/lang/Throwable;" } : Jvm.MethodName)) ∈ go_T := go_t3 (List.mem_of_getElem? (i := 218) rfl) rfl
theorem tw_3_219 : (Jvm.Cond.lays "java/lang/ArithmeticException" "java/lang/Throwable" "cause" "Ljava/lang/Throwable;") ∈ go_T := go_t3 (List.mem_of_getElem? (i := 219) rfl) rfl
theorem tw_3_220 : (Jvm.Cond.lays "java/lang/ArithmeticException" "java/lang/Throwable" "stackTrace" "[Ljava/lang/StackTraceElement;") ∈ go_T := go_t3 (List.mem_of_getElem? (i := 220) rfl) rfl
theorem tw_3_221 : (Jvm.Cond.lays "java/lang/ArithmeticException" "java/lang/Throwable" "suppressedExceptions" "Ljava/util/List;") ∈ go_T := go_t3 (List.mem_of_getElem? (i := 221) rfl) rfl
theorem tw_3_222 : (Jvm.Cond.lays "java/lang/ArithmeticException" "java/lang/Throwable" "detailMessage" "Ljava/lang/String;") ∈ go_T := go_t3 (List.mem_of_getElem? (i := 222) rfl) rfl
theorem tw_3_223 : (Jvm.Cond.lays "java/lang/ArithmeticException" "java/lang/Throwable" "backtrace" "Ljava/lang/Object;") ∈ go_T := go_t3 (List.mem_of_getElem? (i := 223) rfl) rfl
theorem tw_3_224 : (Jvm.Cond.methodLink "PromotedNumbers" (130 : Nat) ({ cls := "java/lang/ArithmeticException", name := "<init>", desc := "()V" } : Jvm.MethodName)) ∈ go_T := go_t3 (List.mem_of_getElem? (i := 224) rfl) rfl
theorem tw_3_225 : (Jvm.Cond.instanceMethod ({ cls := "java/lang/ArithmeticException", name := "<init>", desc := "()V" } : Jvm.MethodName)) ∈ go_T := go_t3 (List.mem_of_getElem? (i := 225) rfl) rfl
theorem tw_3_226 : (Jvm.Cond.code ({ cls := "java/lang/ArithmeticException", name := "<init>", desc := "()V" } : Jvm.MethodName) prog_11_method_1_code (1 : Nat) (Option.none : Option Jvm.ClassFile.FieldType)) ∈ go_T := go_t3 (List.mem_of_getElem? (i := 226) rfl) rfl
theorem tw_3_227 : (Jvm.Cond.methodLink "java/lang/ArithmeticException" (1 : Nat) ({ cls := "java/lang/RuntimeException", name := "<init>", desc := "()V" } : Jvm.MethodName)) ∈ go_T := go_t3 (List.mem_of_getElem? (i := 227) rfl) rfl
theorem tw_3_228 : (Jvm.Cond.lays "java/lang/ArithmeticException" "java/lang/Throwable" "depth" "I") ∈ go_T := go_t3 (List.mem_of_getElem? (i := 228) rfl) rfl
theorem tw_3_229 : (Jvm.Cond.superclass "java/lang/ArithmeticException" "java/lang/RuntimeException") ∈ go_T := go_t3 (List.mem_of_getElem? (i := 229) rfl) rfl
theorem tw_3_230 : (Jvm.Cond.classLink "PromotedNumbers" (131 : Nat) "java/lang/IllegalStateException") ∈ go_T := go_t3 (List.mem_of_getElem? (i := 230) rfl) rfl
theorem tw_3_231 : (Jvm.Cond.instantiable "java/lang/IllegalStateException" (6 : Nat)) ∈ go_T := go_t3 (List.mem_of_getElem? (i := 231) rfl) rfl
theorem tw_3_233 : (Jvm.Cond.selects "java/lang/IllegalStateException" ({ cls := "java/lang/Throwable", name := "fillInStackTrace", desc := "(I)Ljava/lang/Throwable;" } : Jvm.MethodName) ({ cls := "java/lang/Throwable", name := "fillInStackTrace", desc := "(I)Ljava/lang/Throwable;" } : Jvm.MethodName)) ∈ go_T := go_t3 (List.mem_of_getElem? (i := 233) rfl) rfl
theorem tw_3_234 : (Jvm.Cond.lays "java/lang/IllegalStateException" "java/lang/Throwable" "cause" "Ljava/lang/Throwable;") ∈ go_T := go_t3 (List.mem_of_getElem? (i := 234) rfl) rfl
theorem tw_3_235 : (Jvm.Cond.lays "java/lang/IllegalStateException" "java/lang/Throwable" "stackTrace" "[Ljava/lang/StackTraceElement;") ∈ go_T := go_t3 (List.mem_of_getElem? (i := 235) rfl) rfl
theorem tw_3_236 : (Jvm.Cond.lays "java/lang/IllegalStateException" "java/lang/Throwable" "suppressedExceptions" "Ljava/util/List;") ∈ go_T := go_t3 (List.mem_of_getElem? (i := 236) rfl) rfl
theorem tw_3_237 : (Jvm.Cond.lays "java/lang/IllegalStateException" "java/lang/Throwable" "detailMessage" "Ljava/lang/String;") ∈ go_T := go_t3 (List.mem_of_getElem? (i := 237) rfl) rfl
theorem tw_3_238 : (Jvm.Cond.lays "java/lang/IllegalStateException" "java/lang/Throwable" "backtrace" "Ljava/lang/Object;") ∈ go_T := go_t3 (List.mem_of_getElem? (i := 238) rfl) rfl
theorem tw_3_239 : (Jvm.Cond.methodLink "PromotedNumbers" (133 : Nat) ({ cls := "java/lang/IllegalStateException", name := "<init>", desc := "()V" } : Jvm.MethodName)) ∈ go_T := go_t3 (List.mem_of_getElem? (i := 239) rfl) rfl
theorem tw_4_0 : (Jvm.Cond.instanceMethod ({ cls := "java/lang/IllegalStateException", name := "<init>", desc := "()V" } : Jvm.MethodName)) ∈ go_T := go_t4 (List.mem_of_getElem? (i := 0) rfl) rfl
theorem tw_4_1 : (Jvm.Cond.code ({ cls := "java/lang/IllegalStateException", name := "<init>", desc := "()V" } : Jvm.MethodName) prog_15_method_1_code (1 : Nat) (Option.none : Option Jvm.ClassFile.FieldType)) ∈ go_T := go_t4 (List.mem_of_getElem? (i := 1) rfl) rfl
theorem tw_4_2 : (Jvm.Cond.methodLink "java/lang/IllegalStateException" (1 : Nat) ({ cls := "java/lang/RuntimeException", name := "<init>", desc := "()V" } : Jvm.MethodName)) ∈ go_T := go_t4 (List.mem_of_getElem? (i := 2) rfl) rfl
theorem tw_4_3 : (Jvm.Cond.lays "java/lang/IllegalStateException" "java/lang/Throwable" "depth" "I") ∈ go_T := go_t4 (List.mem_of_getElem? (i := 3) rfl) rfl
theorem tw_4_4 : (Jvm.Cond.superclass "java/lang/IllegalStateException" "java/lang/RuntimeException") ∈ go_T := go_t4 (List.mem_of_getElem? (i := 4) rfl) rfl
theorem tw_4_5 : (Jvm.Cond.methodLink "PromotedNumbers" (63 : Nat) ({ cls := "PromotedNumbers$Machine", name := "value", desc := "()LPromotedNumbers$Fraction;" } : Jvm.MethodName)) ∈ go_T := go_t4 (List.mem_of_getElem? (i := 5) rfl) rfl
theorem tw_4_6 : (Jvm.Cond.instanceMethod ({ cls := "PromotedNumbers$Machine", name := "value", desc := "()LPromotedNumbers$Fraction;" } : Jvm.MethodName)) ∈ go_T := go_t4 (List.mem_of_getElem? (i := 6) rfl) rfl
theorem tw_4_7 : (Jvm.Cond.selects "PromotedNumbers$Machine" ({ cls := "PromotedNumbers$Machine", name := "value", desc := "()LPromotedNumbers$Fraction;" } : Jvm.MethodName) ({ cls := "PromotedNumbers$Machine", name := "value", desc := "()LPromotedNumbers$Fraction;" } : Jvm.MethodName)) ∈ go_T := go_t4 (List.mem_of_getElem? (i := 7) rfl) rfl
theorem tw_4_8 : (Jvm.Cond.code ({ cls := "PromotedNumbers$Machine", name := "value", desc := "()LPromotedNumbers$Fraction;" } : Jvm.MethodName) prog_6_method_2_code (1 : Nat) (Option.some (Jvm.ClassFile.FieldType.object "PromotedNumbers$Fraction"))) ∈ go_T := go_t4 (List.mem_of_getElem? (i := 8) rfl) rfl
theorem tw_4_9 : (Jvm.Cond.methodLink "PromotedNumbers" (67 : Nat) ({ cls := "PromotedNumbers", name := "settle", desc := "(LPromotedNumbers$Fraction;)I" } : Jvm.MethodName)) ∈ go_T := go_t4 (List.mem_of_getElem? (i := 9) rfl) rfl
theorem tw_4_11 : (Jvm.Cond.instanceMethod ({ cls := "PromotedNumbers", name := "settle", desc := "(LPromotedNumbers$Fraction;)I" } : Jvm.MethodName)) ∈ go_T := go_t4 (List.mem_of_getElem? (i := 11) rfl) rfl
theorem tw_4_12 : (Jvm.Cond.code ({ cls := "PromotedNumbers", name := "settle", desc := "(LPromotedNumbers$Fraction;)I" } : Jvm.MethodName) prog_1_method_17_code (2 : Nat) (Option.some Jvm.ClassFile.FieldType.int)) ∈ go_T := go_t4 (List.mem_of_getElem? (i := 12) rfl) rfl
theorem tw_4_13 : (Jvm.Cond.methodLink "PromotedNumbers" (78 : Nat) ({ cls := "PromotedNumbers$Fraction", name := "copy", desc := "(LPromotedNumbers$Fraction;)V" } : Jvm.MethodName)) ∈ go_T := go_t4 (List.mem_of_getElem? (i := 13) rfl) rfl
theorem tw_4_14 : (Jvm.Cond.methodLink "PromotedNumbers" (134 : Nat) ({ cls := "PromotedNumbers$Writing", name := "write", desc := "(LPromotedNumbers$Fraction;)V" } : Jvm.MethodName)) ∈ go_T := go_t4 (List.mem_of_getElem? (i := 14) rfl) rfl
theorem tw_4_15 : (Jvm.Cond.instanceMethod ({ cls := "PromotedNumbers$Writing", name := "write", desc := "(LPromotedNumbers$Fraction;)V" } : Jvm.MethodName)) ∈ go_T := go_t4 (List.mem_of_getElem? (i := 15) rfl) rfl
theorem tw_4_16 : (Jvm.Cond.selects "PromotedNumbers$Writing" ({ cls := "PromotedNumbers$Writing", name := "write", desc := "(LPromotedNumbers$Fraction;)V" } : Jvm.MethodName) ({ cls := "PromotedNumbers$Writing", name := "write", desc := "(LPromotedNumbers$Fraction;)V" } : Jvm.MethodName)) ∈ go_T := go_t4 (List.mem_of_getElem? (i := 16) rfl) rfl
theorem tw_4_17 : (Jvm.Cond.code ({ cls := "PromotedNumbers$Writing", name := "write", desc := "(LPromotedNumbers$Fraction;)V" } : Jvm.MethodName) prog_8_method_2_code (2 : Nat) (Option.none : Option Jvm.ClassFile.FieldType)) ∈ go_T := go_t4 (List.mem_of_getElem? (i := 17) rfl) rfl
theorem tw_4_18 : (Jvm.Cond.methodLink "PromotedNumbers$Writing" (28 : Nat) ({ cls := "PromotedNumbers$Fraction", name := "isWhole", desc := "()Z" } : Jvm.MethodName)) ∈ go_T := go_t4 (List.mem_of_getElem? (i := 18) rfl) rfl
theorem tw_4_19 : (Jvm.Cond.methodLink "PromotedNumbers$Writing" (37 : Nat) ({ cls := "PromotedNumbers$Writing", name := "putAmount", desc := "(LPromotedNumbers$Whole;)V" } : Jvm.MethodName)) ∈ go_T := go_t4 (List.mem_of_getElem? (i := 19) rfl) rfl
theorem tw_4_21 : (Jvm.Cond.instanceMethod ({ cls := "PromotedNumbers$Writing", name := "putAmount", desc := "(LPromotedNumbers$Whole;)V" } : Jvm.MethodName)) ∈ go_T := go_t4 (List.mem_of_getElem? (i := 21) rfl) rfl
theorem tw_4_22 : (Jvm.Cond.code ({ cls := "PromotedNumbers$Writing", name := "putAmount", desc := "(LPromotedNumbers$Whole;)V" } : Jvm.MethodName) prog_8_method_4_code (3 : Nat) (Option.none : Option Jvm.ClassFile.FieldType)) ∈ go_T := go_t4 (List.mem_of_getElem? (i := 22) rfl) rfl
theorem tw_4_23 : (Jvm.Cond.methodLink "PromotedNumbers$Writing" (52 : Nat) ({ cls := "PromotedNumbers$Whole", name := "copy", desc := "(LPromotedNumbers$Whole;)V" } : Jvm.MethodName)) ∈ go_T := go_t4 (List.mem_of_getElem? (i := 23) rfl) rfl
theorem tw_4_24 : (Jvm.Cond.methodLink "PromotedNumbers$Writing" (55 : Nat) ({ cls := "PromotedNumbers$Whole", name := "divideBy", desc := "(I)I" } : Jvm.MethodName)) ∈ go_T := go_t4 (List.mem_of_getElem? (i := 24) rfl) rfl
theorem tw_4_25 : (Jvm.Cond.methodLink "PromotedNumbers$Writing" (41 : Nat) ({ cls := "PromotedNumbers$Writing", name := "put", desc := "(C)V" } : Jvm.MethodName)) ∈ go_T := go_t4 (List.mem_of_getElem? (i := 25) rfl) rfl
theorem tw_4_27 : (Jvm.Cond.instanceMethod ({ cls := "PromotedNumbers$Writing", name := "put", desc := "(C)V" } : Jvm.MethodName)) ∈ go_T := go_t4 (List.mem_of_getElem? (i := 27) rfl) rfl
theorem tw_4_28 : (Jvm.Cond.code ({ cls := "PromotedNumbers$Writing", name := "put", desc := "(C)V" } : Jvm.MethodName) prog_8_method_5_code (2 : Nat) (Option.none : Option Jvm.ClassFile.FieldType)) ∈ go_T := go_t4 (List.mem_of_getElem? (i := 28) rfl) rfl
theorem tw_4_29 : (Jvm.Cond.methodLink "PromotedNumbers$Writing" (59 : Nat) ({ cls := "PromotedNumbers$Whole", name := "isZero", desc := "()Z" } : Jvm.MethodName)) ∈ go_T := go_t4 (List.mem_of_getElem? (i := 29) rfl) rfl
theorem tw_4_30 : (Jvm.Cond.methodLink "PromotedNumbersLaw" (61 : Nat) ({ cls := "PromotedNumbersLaw", name := "keep", desc := "(LPromotedNumbers;I[J)I" } : Jvm.MethodName)) ∈ go_T := go_t4 (List.mem_of_getElem? (i := 30) rfl) rfl
theorem tw_4_31 : (Jvm.Cond.static ({ cls := "PromotedNumbersLaw", name := "keep", desc := "(LPromotedNumbers;I[J)I" } : Jvm.MethodName)) ∈ go_T := go_t4 (List.mem_of_getElem? (i := 31) rfl) rfl
theorem tw_4_33 : (Jvm.Cond.classLink "PromotedNumbersLaw" (25 : Nat) "java/lang/IndexOutOfBoundsException") ∈ go_T := go_t4 (List.mem_of_getElem? (i := 33) rfl) rfl
theorem tw_4_34 : (Jvm.Cond.methodLink "PromotedNumbersLaw" (21 : Nat) ({ cls := "PromotedNumbers", name := "keep", desc := "(I)I" } : Jvm.MethodName)) ∈ go_T := go_t4 (List.mem_of_getElem? (i := 34) rfl) rfl
theorem tw_4_35 : (Jvm.Cond.instanceMethod ({ cls := "PromotedNumbers", name := "keep", desc := "(I)I" } : Jvm.MethodName)) ∈ go_T := go_t4 (List.mem_of_getElem? (i := 35) rfl) rfl
theorem tw_4_36 : (Jvm.Cond.selects "PromotedNumbers" ({ cls := "PromotedNumbers", name := "keep", desc := "(I)I" } : Jvm.MethodName) ({ cls := "PromotedNumbers", name := "keep", desc := "(I)I" } : Jvm.MethodName)) ∈ go_T := go_t4 (List.mem_of_getElem? (i := 36) rfl) rfl
theorem tw_4_37 : (Jvm.Cond.code ({ cls := "PromotedNumbers", name := "keep", desc := "(I)I" } : Jvm.MethodName) prog_1_method_6_code (2 : Nat) (Option.some Jvm.ClassFile.FieldType.int)) ∈ go_T := go_t4 (List.mem_of_getElem? (i := 37) rfl) rfl
theorem tw_4_38 : (Jvm.Cond.methodLink "PromotedNumbers" (71 : Nat) ({ cls := "PromotedNumbers", name := "requireVariable", desc := "(I)V" } : Jvm.MethodName)) ∈ go_T := go_t4 (List.mem_of_getElem? (i := 38) rfl) rfl
theorem tw_4_39 : (Jvm.Cond.static ({ cls := "PromotedNumbers", name := "requireVariable", desc := "(I)V" } : Jvm.MethodName)) ∈ go_T := go_t4 (List.mem_of_getElem? (i := 39) rfl) rfl
theorem tw_4_40 : (Jvm.Cond.code ({ cls := "PromotedNumbers", name := "requireVariable", desc := "(I)V" } : Jvm.MethodName) prog_1_method_14_code (1 : Nat) (Option.none : Option Jvm.ClassFile.FieldType)) ∈ go_T := go_t4 (List.mem_of_getElem? (i := 40) rfl) rfl
theorem tw_4_41 : (Jvm.Cond.classLink "PromotedNumbers" (116 : Nat) "java/lang/IndexOutOfBoundsException") ∈ go_T := go_t4 (List.mem_of_getElem? (i := 41) rfl) rfl
theorem tw_4_42 : (Jvm.Cond.instantiable "java/lang/IndexOutOfBoundsException" (6 : Nat)) ∈ go_T := go_t4 (List.mem_of_getElem? (i := 42) rfl) rfl
theorem tw_4_44 : (Jvm.Cond.selects "java/lang/IndexOutOfBoundsException" ({ cls := "java/lang/Throwable", name := "fillInStackTrace", desc := "(I)Ljava/lang/Throwable;" } : Jvm.MethodName) ({ cls := "java/lang/Throwable", name := "fillInStackTrace", desc := "(I)Ljava/lang/Throwable;" } : Jvm.MethodName)) ∈ go_T := go_t4 (List.mem_of_getElem? (i := 44) rfl) rfl
theorem tw_4_45 : (Jvm.Cond.lays "java/lang/IndexOutOfBoundsException" "java/lang/Throwable" "cause" "Ljava/lang/Throwable;") ∈ go_T := go_t4 (List.mem_of_getElem? (i := 45) rfl) rfl
theorem tw_4_46 : (Jvm.Cond.lays "java/lang/IndexOutOfBoundsException" "java/lang/Throwable" "stackTrace" "[Ljava/lang/StackTraceElement;") ∈ go_T := go_t4 (List.mem_of_getElem? (i := 46) rfl) rfl
theorem tw_4_47 : (Jvm.Cond.lays "java/lang/IndexOutOfBoundsException" "java/lang/Throwable" "suppressedExceptions" "Ljava/util/List;") ∈ go_T := go_t4 (List.mem_of_getElem? (i := 47) rfl) rfl
theorem tw_4_48 : (Jvm.Cond.lays "java/lang/IndexOutOfBoundsException" "java/lang/Throwable" "detailMessage" "Ljava/lang/String;") ∈ go_T := go_t4 (List.mem_of_getElem? (i := 48) rfl) rfl
theorem tw_4_49 : (Jvm.Cond.lays "java/lang/IndexOutOfBoundsException" "java/lang/Throwable" "backtrace" "Ljava/lang/Object;") ∈ go_T := go_t4 (List.mem_of_getElem? (i := 49) rfl) rfl
theorem tw_4_50 : (Jvm.Cond.methodLink "PromotedNumbers" (118 : Nat) ({ cls := "java/lang/IndexOutOfBoundsException", name := "<init>", desc := "()V" } : Jvm.MethodName)) ∈ go_T := go_t4 (List.mem_of_getElem? (i := 50) rfl) rfl
theorem tw_4_51 : (Jvm.Cond.instanceMethod ({ cls := "java/lang/IndexOutOfBoundsException", name := "<init>", desc := "()V" } : Jvm.MethodName)) ∈ go_T := go_t4 (List.mem_of_getElem? (i := 51) rfl) rfl
theorem tw_4_52 : (Jvm.Cond.code ({ cls := "java/lang/IndexOutOfBoundsException", name := "<init>", desc := "()V" } : Jvm.MethodName) prog_16_method_1_code (1 : Nat) (Option.none : Option Jvm.ClassFile.FieldType)) ∈ go_T := go_t4 (List.mem_of_getElem? (i := 52) rfl) rfl
theorem tw_4_53 : (Jvm.Cond.methodLink "java/lang/IndexOutOfBoundsException" (1 : Nat) ({ cls := "java/lang/RuntimeException", name := "<init>", desc := "()V" } : Jvm.MethodName)) ∈ go_T := go_t4 (List.mem_of_getElem? (i := 53) rfl) rfl
theorem tw_4_54 : (Jvm.Cond.lays "java/lang/IndexOutOfBoundsException" "java/lang/Throwable" "depth" "I") ∈ go_T := go_t4 (List.mem_of_getElem? (i := 54) rfl) rfl
theorem tw_4_55 : (Jvm.Cond.superclass "java/lang/IndexOutOfBoundsException" "java/lang/RuntimeException") ∈ go_T := go_t4 (List.mem_of_getElem? (i := 55) rfl) rfl
theorem tw_4_56 : (Jvm.Cond.methodLink "PromotedNumbersLaw" (83 : Nat) ({ cls := "PromotedNumbersLaw", name := "against", desc := "(LPromotedNumbers;I[J)I" } : Jvm.MethodName)) ∈ go_T := go_t4 (List.mem_of_getElem? (i := 56) rfl) rfl
theorem tw_4_57 : (Jvm.Cond.static ({ cls := "PromotedNumbersLaw", name := "against", desc := "(LPromotedNumbers;I[J)I" } : Jvm.MethodName)) ∈ go_T := go_t4 (List.mem_of_getElem? (i := 57) rfl) rfl
theorem tw_4_59 : (Jvm.Cond.methodLink "PromotedNumbersLaw" (27 : Nat) ({ cls := "PromotedNumbers", name := "against", desc := "(I)I" } : Jvm.MethodName)) ∈ go_T := go_t4 (List.mem_of_getElem? (i := 59) rfl) rfl
theorem tw_4_60 : (Jvm.Cond.instanceMethod ({ cls := "PromotedNumbers", name := "against", desc := "(I)I" } : Jvm.MethodName)) ∈ go_T := go_t4 (List.mem_of_getElem? (i := 60) rfl) rfl
theorem tw_4_61 : (Jvm.Cond.selects "PromotedNumbers" ({ cls := "PromotedNumbers", name := "against", desc := "(I)I" } : Jvm.MethodName) ({ cls := "PromotedNumbers", name := "against", desc := "(I)I" } : Jvm.MethodName)) ∈ go_T := go_t4 (List.mem_of_getElem? (i := 61) rfl) rfl
theorem tw_4_62 : (Jvm.Cond.code ({ cls := "PromotedNumbers", name := "against", desc := "(I)I" } : Jvm.MethodName) prog_1_method_11_code (2 : Nat) (Option.some Jvm.ClassFile.FieldType.int)) ∈ go_T := go_t4 (List.mem_of_getElem? (i := 62) rfl) rfl
theorem tw_4_63 : (Jvm.Cond.methodLink "PromotedNumbers" (110 : Nat) ({ cls := "PromotedNumbers$Calculator", name := "compare", desc := "(LPromotedNumbers$Fraction;LPromotedNumbers$Fraction;)I" } : Jvm.MethodName)) ∈ go_T := go_t4 (List.mem_of_getElem? (i := 63) rfl) rfl
theorem tw_4_64 : (Jvm.Cond.methodLink "PromotedNumbersLaw" (86 : Nat) ({ cls := "PromotedNumbersLaw", name := "fetch", desc := "(LPromotedNumbers;I[J)I" } : Jvm.MethodName)) ∈ go_T := go_t4 (List.mem_of_getElem? (i := 64) rfl) rfl
theorem tw_4_65 : (Jvm.Cond.static ({ cls := "PromotedNumbersLaw", name := "fetch", desc := "(LPromotedNumbers;I[J)I" } : Jvm.MethodName)) ∈ go_T := go_t4 (List.mem_of_getElem? (i := 65) rfl) rfl
theorem tw_4_67 : (Jvm.Cond.methodLink "PromotedNumbersLaw" (30 : Nat) ({ cls := "PromotedNumbers", name := "fetch", desc := "(I)I" } : Jvm.MethodName)) ∈ go_T := go_t4 (List.mem_of_getElem? (i := 67) rfl) rfl
theorem tw_4_68 : (Jvm.Cond.instanceMethod ({ cls := "PromotedNumbers", name := "fetch", desc := "(I)I" } : Jvm.MethodName)) ∈ go_T := go_t4 (List.mem_of_getElem? (i := 68) rfl) rfl
theorem tw_4_69 : (Jvm.Cond.selects "PromotedNumbers" ({ cls := "PromotedNumbers", name := "fetch", desc := "(I)I" } : Jvm.MethodName) ({ cls := "PromotedNumbers", name := "fetch", desc := "(I)I" } : Jvm.MethodName)) ∈ go_T := go_t4 (List.mem_of_getElem? (i := 69) rfl) rfl
theorem tw_4_70 : (Jvm.Cond.code ({ cls := "PromotedNumbers", name := "fetch", desc := "(I)I" } : Jvm.MethodName) prog_1_method_12_code (2 : Nat) (Option.some Jvm.ClassFile.FieldType.int)) ∈ go_T := go_t4 (List.mem_of_getElem? (i := 70) rfl) rfl
theorem tw_4_71 : (Jvm.Cond.classLink "PromotedNumbersLaw" (34 : Nat) "PromotedNumbersModel") ∈ go_T := go_t4 (List.mem_of_getElem? (i := 71) rfl) rfl
theorem tw_4_72 : (Jvm.Cond.instantiable "PromotedNumbersModel" (13 : Nat)) ∈ go_T := go_t4 (List.mem_of_getElem? (i := 72) rfl) rfl
theorem tw_4_73 : (Jvm.Cond.methodLink "PromotedNumbersLaw" (36 : Nat) ({ cls := "PromotedNumbersModel", name := "<init>", desc := "()V" } : Jvm.MethodName)) ∈ go_T := go_t4 (List.mem_of_getElem? (i := 73) rfl) rfl
theorem tw_4_74 : (Jvm.Cond.instanceMethod ({ cls := "PromotedNumbersModel", name := "<init>", desc := "()V" } : Jvm.MethodName)) ∈ go_T := go_t4 (List.mem_of_getElem? (i := 74) rfl) rfl
theorem tw_4_75 : (Jvm.Cond.code ({ cls := "PromotedNumbersModel", name := "<init>", desc := "()V" } : Jvm.MethodName) prog_10_method_1_code (2 : Nat) (Option.none : Option Jvm.ClassFile.FieldType)) ∈ go_T := go_t4 (List.mem_of_getElem? (i := 75) rfl) rfl
theorem tw_4_76 : (Jvm.Cond.methodLink "PromotedNumbersModel" (1 : Nat) ({ cls := "java/lang/Object", name := "<init>", desc := "()V" } : Jvm.MethodName)) ∈ go_T := go_t4 (List.mem_of_getElem? (i := 76) rfl) rfl
theorem tw_4_77 : (Jvm.Cond.methodLink "PromotedNumbersModel" (35 : Nat) ({ cls := "PromotedNumbersModel", name := "set", desc := "(II)V" } : Jvm.MethodName)) ∈ go_T := go_t4 (List.mem_of_getElem? (i := 77) rfl) rfl
theorem tw_4_79 : (Jvm.Cond.instanceMethod ({ cls := "PromotedNumbersModel", name := "set", desc := "(II)V" } : Jvm.MethodName)) ∈ go_T := go_t4 (List.mem_of_getElem? (i := 79) rfl) rfl
theorem tw_4_80 : (Jvm.Cond.code ({ cls := "PromotedNumbersModel", name := "set", desc := "(II)V" } : Jvm.MethodName) prog_10_method_3_code (4 : Nat) (Option.none : Option Jvm.ClassFile.FieldType)) ∈ go_T := go_t4 (List.mem_of_getElem? (i := 80) rfl) rfl
theorem tw_4_81 : (Jvm.Cond.methodLink "PromotedNumbersModel" (39 : Nat) ({ cls := "PromotedNumbersModel", name := "addTo", desc := "(II)V" } : Jvm.MethodName)) ∈ go_T := go_t4 (List.mem_of_getElem? (i := 81) rfl) rfl
theorem tw_4_83 : (Jvm.Cond.instanceMethod ({ cls := "PromotedNumbersModel", name := "addTo", desc := "(II)V" } : Jvm.MethodName)) ∈ go_T := go_t4 (List.mem_of_getElem? (i := 83) rfl) rfl
theorem tw_4_84 : (Jvm.Cond.code ({ cls := "PromotedNumbersModel", name := "addTo", desc := "(II)V" } : Jvm.MethodName) prog_10_method_7_code (7 : Nat) (Option.none : Option Jvm.ClassFile.FieldType)) ∈ go_T := go_t4 (List.mem_of_getElem? (i := 84) rfl) rfl
theorem tw_4_85 : (Jvm.Cond.methodLink "PromotedNumbersModel" (45 : Nat) ({ cls := "PromotedNumbersModel", name := "trim", desc := "(II)V" } : Jvm.MethodName)) ∈ go_T := go_t4 (List.mem_of_getElem? (i := 85) rfl) rfl
theorem tw_4_87 : (Jvm.Cond.instanceMethod ({ cls := "PromotedNumbersModel", name := "trim", desc := "(II)V" } : Jvm.MethodName)) ∈ go_T := go_t4 (List.mem_of_getElem? (i := 87) rfl) rfl
theorem tw_4_88 : (Jvm.Cond.code ({ cls := "PromotedNumbersModel", name := "trim", desc := "(II)V" } : Jvm.MethodName) prog_10_method_5_code (4 : Nat) (Option.none : Option Jvm.ClassFile.FieldType)) ∈ go_T := go_t4 (List.mem_of_getElem? (i := 88) rfl) rfl
theorem tw_4_89 : (Jvm.Cond.fieldLink "PromotedNumbersModel" (42 : Nat) "PromotedNumbersModel" "code" "I") ∈ go_T := go_t4 (List.mem_of_getElem? (i := 89) rfl) rfl
theorem tw_4_90 : (Jvm.Cond.fieldLink "PromotedNumbersModel" (93 : Nat) "PromotedNumbersModel" "typed" "I") ∈ go_T := go_t4 (List.mem_of_getElem? (i := 90) rfl) rfl
theorem tw_4_91 : (Jvm.Cond.fieldLink "PromotedNumbersModel" (7 : Nat) "PromotedNumbersModel" "text" "[I") ∈ go_T := go_t4 (List.mem_of_getElem? (i := 91) rfl) rfl
theorem tw_4_92 : (Jvm.Cond.fieldLink "PromotedNumbersModel" (13 : Nat) "PromotedNumbersModel" "told" "I") ∈ go_T := go_t4 (List.mem_of_getElem? (i := 92) rfl) rfl
theorem tw_4_93 : (Jvm.Cond.fieldLink "PromotedNumbersModel" (17 : Nat) "PromotedNumbersModel" "digits" "[I") ∈ go_T := go_t4 (List.mem_of_getElem? (i := 93) rfl) rfl
theorem tw_4_94 : (Jvm.Cond.fieldLink "PromotedNumbersModel" (20 : Nat) "PromotedNumbersModel" "used" "[I") ∈ go_T := go_t4 (List.mem_of_getElem? (i := 94) rfl) rfl
theorem tw_4_95 : (Jvm.Cond.fieldLink "PromotedNumbersModel" (23 : Nat) "PromotedNumbersModel" "signs" "[I") ∈ go_T := go_t4 (List.mem_of_getElem? (i := 95) rfl) rfl
theorem tw_4_96 : (Jvm.Cond.fieldLink "PromotedNumbersModel" (26 : Nat) "PromotedNumbersModel" "ops" "[I") ∈ go_T := go_t4 (List.mem_of_getElem? (i := 96) rfl) rfl
theorem tw_4_97 : (Jvm.Cond.fieldLink "PromotedNumbersModel" (29 : Nat) "PromotedNumbersModel" "counts" "[I") ∈ go_T := go_t4 (List.mem_of_getElem? (i := 97) rfl) rfl
theorem tw_4_98 : (Jvm.Cond.fieldLink "PromotedNumbersModel" (32 : Nat) "PromotedNumbersModel" "bases" "[I") ∈ go_T := go_t4 (List.mem_of_getElem? (i := 98) rfl) rfl
theorem tw_4_99 : (Jvm.Cond.fieldLink "PromotedNumbersModel" (103 : Nat) "PromotedNumbersModel" "open" "I") ∈ go_T := go_t4 (List.mem_of_getElem? (i := 99) rfl) rfl
theorem tw_4_100 : (Jvm.Cond.fieldLink "PromotedNumbersModel" (124 : Nat) "PromotedNumbersModel" "top" "I") ∈ go_T := go_t4 (List.mem_of_getElem? (i := 100) rfl) rfl
theorem tw_4_101 : (Jvm.Cond.fieldLink "PromotedNumbersModel" (121 : Nat) "PromotedNumbersModel" "at" "I") ∈ go_T := go_t4 (List.mem_of_getElem? (i := 101) rfl) rfl
theorem tw_4_102 : (Jvm.Cond.lays "PromotedNumbersModel" "PromotedNumbersModel" "code" "I") ∈ go_T := go_t4 (List.mem_of_getElem? (i := 102) rfl) rfl
theorem tw_4_104 : (Jvm.Cond.lays "PromotedNumbersModel" "PromotedNumbersModel" "typed" "I") ∈ go_T := go_t4 (List.mem_of_getElem? (i := 104) rfl) rfl
theorem tw_4_106 : (Jvm.Cond.laysFinal "PromotedNumbersModel" "PromotedNumbersModel" "text" "[I") ∈ go_T := go_t4 (List.mem_of_getElem? (i := 106) rfl) rfl
theorem tw_4_108 : (Jvm.Cond.lays "PromotedNumbersModel" "PromotedNumbersModel" "told" "I") ∈ go_T := go_t4 (List.mem_of_getElem? (i := 108) rfl) rfl
theorem tw_4_110 : (Jvm.Cond.laysFinal "PromotedNumbersModel" "PromotedNumbersModel" "digits" "[I") ∈ go_T := go_t4 (List.mem_of_getElem? (i := 110) rfl) rfl
theorem tw_4_112 : (Jvm.Cond.laysFinal "PromotedNumbersModel" "PromotedNumbersModel" "used" "[I") ∈ go_T := go_t4 (List.mem_of_getElem? (i := 112) rfl) rfl
theorem tw_4_114 : (Jvm.Cond.laysFinal "PromotedNumbersModel" "PromotedNumbersModel" "signs" "[I") ∈ go_T := go_t4 (List.mem_of_getElem? (i := 114) rfl) rfl
theorem tw_4_116 : (Jvm.Cond.laysFinal "PromotedNumbersModel" "PromotedNumbersModel" "ops" "[I") ∈ go_T := go_t4 (List.mem_of_getElem? (i := 116) rfl) rfl
theorem tw_4_118 : (Jvm.Cond.laysFinal "PromotedNumbersModel" "PromotedNumbersModel" "counts" "[I") ∈ go_T := go_t4 (List.mem_of_getElem? (i := 118) rfl) rfl
theorem tw_4_120 : (Jvm.Cond.laysFinal "PromotedNumbersModel" "PromotedNumbersModel" "bases" "[I") ∈ go_T := go_t4 (List.mem_of_getElem? (i := 120) rfl) rfl
theorem tw_4_122 : (Jvm.Cond.lays "PromotedNumbersModel" "PromotedNumbersModel" "open" "I") ∈ go_T := go_t4 (List.mem_of_getElem? (i := 122) rfl) rfl
theorem tw_4_124 : (Jvm.Cond.lays "PromotedNumbersModel" "PromotedNumbersModel" "top" "I") ∈ go_T := go_t4 (List.mem_of_getElem? (i := 124) rfl) rfl
theorem tw_4_126 : (Jvm.Cond.lays "PromotedNumbersModel" "PromotedNumbersModel" "at" "I") ∈ go_T := go_t4 (List.mem_of_getElem? (i := 126) rfl) rfl
theorem tw_4_128 : (Jvm.Cond.superclass "PromotedNumbersModel" "java/lang/Object") ∈ go_T := go_t4 (List.mem_of_getElem? (i := 128) rfl) rfl
theorem tw_4_129 : (Jvm.Cond.methodLink "PromotedNumbersLaw" (58 : Nat) ({ cls := "PromotedNumbersModel", name := "thrown", desc := "()I" } : Jvm.MethodName)) ∈ go_T := go_t4 (List.mem_of_getElem? (i := 129) rfl) rfl
theorem tw_4_130 : (Jvm.Cond.instanceMethod ({ cls := "PromotedNumbersModel", name := "thrown", desc := "()I" } : Jvm.MethodName)) ∈ go_T := go_t4 (List.mem_of_getElem? (i := 130) rfl) rfl
theorem tw_4_131 : (Jvm.Cond.selects "PromotedNumbersModel" ({ cls := "PromotedNumbersModel", name := "thrown", desc := "()I" } : Jvm.MethodName) ({ cls := "PromotedNumbersModel", name := "thrown", desc := "()I" } : Jvm.MethodName)) ∈ go_T := go_t4 (List.mem_of_getElem? (i := 131) rfl) rfl
theorem tw_4_132 : (Jvm.Cond.code ({ cls := "PromotedNumbersModel", name := "thrown", desc := "()I" } : Jvm.MethodName) prog_10_method_2_code (1 : Nat) (Option.some Jvm.ClassFile.FieldType.int)) ∈ go_T := go_t4 (List.mem_of_getElem? (i := 132) rfl) rfl
theorem tw_4_133 : (Jvm.Cond.methodLink "PromotedNumbersLaw" (43 : Nat) ({ cls := "PromotedNumbersModel", name := "type", desc := "(J)Z" } : Jvm.MethodName)) ∈ go_T := go_t4 (List.mem_of_getElem? (i := 133) rfl) rfl
theorem tw_4_134 : (Jvm.Cond.instanceMethod ({ cls := "PromotedNumbersModel", name := "type", desc := "(J)Z" } : Jvm.MethodName)) ∈ go_T := go_t4 (List.mem_of_getElem? (i := 134) rfl) rfl
theorem tw_4_135 : (Jvm.Cond.selects "PromotedNumbersModel" ({ cls := "PromotedNumbersModel", name := "type", desc := "(J)Z" } : Jvm.MethodName) ({ cls := "PromotedNumbersModel", name := "type", desc := "(J)Z" } : Jvm.MethodName)) ∈ go_T := go_t4 (List.mem_of_getElem? (i := 135) rfl) rfl
theorem tw_4_136 : (Jvm.Cond.code ({ cls := "PromotedNumbersModel", name := "type", desc := "(J)Z" } : Jvm.MethodName) prog_10_method_26_code (6 : Nat) (Option.some Jvm.ClassFile.FieldType.boolean)) ∈ go_T := go_t4 (List.mem_of_getElem? (i := 136) rfl) rfl
theorem tw_4_137 : (Jvm.Cond.constantLong "PromotedNumbersModel" (91 : Nat) (255 : Int64)) ∈ go_T := go_t4 (List.mem_of_getElem? (i := 137) rfl) rfl
theorem tw_4_138 : (Jvm.Cond.methodLink "PromotedNumbersLaw" (47 : Nat) ({ cls := "PromotedNumbersModel", name := "erase", desc := "()I" } : Jvm.MethodName)) ∈ go_T := go_t4 (List.mem_of_getElem? (i := 138) rfl) rfl
theorem tw_4_139 : (Jvm.Cond.instanceMethod ({ cls := "PromotedNumbersModel", name := "erase", desc := "()I" } : Jvm.MethodName)) ∈ go_T := go_t4 (List.mem_of_getElem? (i := 139) rfl) rfl
theorem tw_4_140 : (Jvm.Cond.selects "PromotedNumbersModel" ({ cls := "PromotedNumbersModel", name := "erase", desc := "()I" } : Jvm.MethodName) ({ cls := "PromotedNumbersModel", name := "erase", desc := "()I" } : Jvm.MethodName)) ∈ go_T := go_t4 (List.mem_of_getElem? (i := 140) rfl) rfl
theorem tw_4_141 : (Jvm.Cond.code ({ cls := "PromotedNumbersModel", name := "erase", desc := "()I" } : Jvm.MethodName) prog_10_method_27_code (2 : Nat) (Option.some Jvm.ClassFile.FieldType.int)) ∈ go_T := go_t4 (List.mem_of_getElem? (i := 141) rfl) rfl
theorem tw_4_142 : (Jvm.Cond.methodLink "PromotedNumbersLaw" (51 : Nat) ({ cls := "PromotedNumbersModel", name := "fault", desc := "()I" } : Jvm.MethodName)) ∈ go_T := go_t4 (List.mem_of_getElem? (i := 142) rfl) rfl
theorem tw_4_143 : (Jvm.Cond.instanceMethod ({ cls := "PromotedNumbersModel", name := "fault", desc := "()I" } : Jvm.MethodName)) ∈ go_T := go_t4 (List.mem_of_getElem? (i := 143) rfl) rfl
theorem tw_4_144 : (Jvm.Cond.selects "PromotedNumbersModel" ({ cls := "PromotedNumbersModel", name := "fault", desc := "()I" } : Jvm.MethodName) ({ cls := "PromotedNumbersModel", name := "fault", desc := "()I" } : Jvm.MethodName)) ∈ go_T := go_t4 (List.mem_of_getElem? (i := 144) rfl) rfl
theorem tw_4_145 : (Jvm.Cond.code ({ cls := "PromotedNumbersModel", name := "fault", desc := "()I" } : Jvm.MethodName) prog_10_method_28_code (1 : Nat) (Option.some Jvm.ClassFile.FieldType.int)) ∈ go_T := go_t4 (List.mem_of_getElem? (i := 145) rfl) rfl
theorem tw_4_146 : (Jvm.Cond.methodLink "PromotedNumbersLaw" (57 : Nat) ({ cls := "PromotedNumbersModel", name := "work", desc := "()I" } : Jvm.MethodName)) ∈ go_T := go_t4 (List.mem_of_getElem? (i := 146) rfl) rfl
theorem tw_4_147 : (Jvm.Cond.instanceMethod ({ cls := "PromotedNumbersModel", name := "work", desc := "()I" } : Jvm.MethodName)) ∈ go_T := go_t4 (List.mem_of_getElem? (i := 147) rfl) rfl
theorem tw_4_148 : (Jvm.Cond.selects "PromotedNumbersModel" ({ cls := "PromotedNumbersModel", name := "work", desc := "()I" } : Jvm.MethodName) ({ cls := "PromotedNumbersModel", name := "work", desc := "()I" } : Jvm.MethodName)) ∈ go_T := go_t4 (List.mem_of_getElem? (i := 148) rfl) rfl
theorem tw_4_149 : (Jvm.Cond.code ({ cls := "PromotedNumbersModel", name := "work", desc := "()I" } : Jvm.MethodName) prog_10_method_47_code (2 : Nat) (Option.some Jvm.ClassFile.FieldType.int)) ∈ go_T := go_t4 (List.mem_of_getElem? (i := 149) rfl) rfl
theorem tw_4_150 : (Jvm.Cond.methodLink "PromotedNumbersModel" (176 : Nat) ({ cls := "PromotedNumbersModel", name := "faultOf", desc := "()I" } : Jvm.MethodName)) ∈ go_T := go_t4 (List.mem_of_getElem? (i := 150) rfl) rfl
theorem tw_4_152 : (Jvm.Cond.instanceMethod ({ cls := "PromotedNumbersModel", name := "faultOf", desc := "()I" } : Jvm.MethodName)) ∈ go_T := go_t4 (List.mem_of_getElem? (i := 152) rfl) rfl
theorem tw_4_153 : (Jvm.Cond.code ({ cls := "PromotedNumbersModel", name := "faultOf", desc := "()I" } : Jvm.MethodName) prog_10_method_36_code (2 : Nat) (Option.some Jvm.ClassFile.FieldType.int)) ∈ go_T := go_t4 (List.mem_of_getElem? (i := 153) rfl) rfl
theorem tw_4_154 : (Jvm.Cond.methodLink "PromotedNumbersModel" (115 : Nat) ({ cls := "PromotedNumbersModel", name := "overStart", desc := "(I)I" } : Jvm.MethodName)) ∈ go_T := go_t4 (List.mem_of_getElem? (i := 154) rfl) rfl
theorem tw_4_156 : (Jvm.Cond.instanceMethod ({ cls := "PromotedNumbersModel", name := "overStart", desc := "(I)I" } : Jvm.MethodName)) ∈ go_T := go_t4 (List.mem_of_getElem? (i := 156) rfl) rfl
theorem tw_4_157 : (Jvm.Cond.code ({ cls := "PromotedNumbersModel", name := "overStart", desc := "(I)I" } : Jvm.MethodName) prog_10_method_34_code (4 : Nat) (Option.some Jvm.ClassFile.FieldType.int)) ∈ go_T := go_t4 (List.mem_of_getElem? (i := 157) rfl) rfl
theorem tw_4_158 : (Jvm.Cond.methodLink "PromotedNumbersModel" (96 : Nat) ({ cls := "PromotedNumbersModel", name := "charAt", desc := "(I)I" } : Jvm.MethodName)) ∈ go_T := go_t4 (List.mem_of_getElem? (i := 158) rfl) rfl
theorem tw_4_160 : (Jvm.Cond.instanceMethod ({ cls := "PromotedNumbersModel", name := "charAt", desc := "(I)I" } : Jvm.MethodName)) ∈ go_T := go_t4 (List.mem_of_getElem? (i := 160) rfl) rfl
theorem tw_4_161 : (Jvm.Cond.code ({ cls := "PromotedNumbersModel", name := "charAt", desc := "(I)I" } : Jvm.MethodName) prog_10_method_29_code (2 : Nat) (Option.some Jvm.ClassFile.FieldType.int)) ∈ go_T := go_t4 (List.mem_of_getElem? (i := 161) rfl) rfl
theorem tw_4_162 : (Jvm.Cond.methodLink "PromotedNumbersModel" (106 : Nat) ({ cls := "PromotedNumbersModel", name := "isOp", desc := "(I)Z" } : Jvm.MethodName)) ∈ go_T := go_t4 (List.mem_of_getElem? (i := 162) rfl) rfl
theorem tw_4_163 : (Jvm.Cond.static ({ cls := "PromotedNumbersModel", name := "isOp", desc := "(I)Z" } : Jvm.MethodName)) ∈ go_T := go_t4 (List.mem_of_getElem? (i := 163) rfl) rfl
theorem tw_4_164 : (Jvm.Cond.code ({ cls := "PromotedNumbersModel", name := "isOp", desc := "(I)Z" } : Jvm.MethodName) prog_10_method_33_code (2 : Nat) (Option.some Jvm.ClassFile.FieldType.boolean)) ∈ go_T := go_t4 (List.mem_of_getElem? (i := 164) rfl) rfl
theorem tw_4_165 : (Jvm.Cond.methodLink "PromotedNumbersModel" (109 : Nat) ({ cls := "PromotedNumbersModel", name := "isDigit", desc := "(I)Z" } : Jvm.MethodName)) ∈ go_T := go_t4 (List.mem_of_getElem? (i := 165) rfl) rfl
theorem tw_4_167 : (Jvm.Cond.instanceMethod ({ cls := "PromotedNumbersModel", name := "isDigit", desc := "(I)Z" } : Jvm.MethodName)) ∈ go_T := go_t4 (List.mem_of_getElem? (i := 167) rfl) rfl
theorem tw_4_168 : (Jvm.Cond.code ({ cls := "PromotedNumbersModel", name := "isDigit", desc := "(I)Z" } : Jvm.MethodName) prog_10_method_30_code (2 : Nat) (Option.some Jvm.ClassFile.FieldType.boolean)) ∈ go_T := go_t4 (List.mem_of_getElem? (i := 168) rfl) rfl
theorem tw_4_169 : (Jvm.Cond.methodLink "PromotedNumbersModel" (118 : Nat) ({ cls := "PromotedNumbersModel", name := "overEnds", desc := "(I)I" } : Jvm.MethodName)) ∈ go_T := go_t4 (List.mem_of_getElem? (i := 169) rfl) rfl
theorem tw_4_171 : (Jvm.Cond.instanceMethod ({ cls := "PromotedNumbersModel", name := "overEnds", desc := "(I)I" } : Jvm.MethodName)) ∈ go_T := go_t4 (List.mem_of_getElem? (i := 171) rfl) rfl
theorem tw_4_172 : (Jvm.Cond.code ({ cls := "PromotedNumbersModel", name := "overEnds", desc := "(I)I" } : Jvm.MethodName) prog_10_method_35_code (3 : Nat) (Option.some Jvm.ClassFile.FieldType.int)) ∈ go_T := go_t4 (List.mem_of_getElem? (i := 172) rfl) rfl
theorem tw_4_173 : (Jvm.Cond.methodLink "PromotedNumbersModel" (100 : Nat) ({ cls := "PromotedNumbersModel", name := "least", desc := "(I)I" } : Jvm.MethodName)) ∈ go_T := go_t4 (List.mem_of_getElem? (i := 173) rfl) rfl
theorem tw_4_174 : (Jvm.Cond.static ({ cls := "PromotedNumbersModel", name := "least", desc := "(I)I" } : Jvm.MethodName)) ∈ go_T := go_t4 (List.mem_of_getElem? (i := 174) rfl) rfl
theorem tw_4_175 : (Jvm.Cond.code ({ cls := "PromotedNumbersModel", name := "least", desc := "(I)I" } : Jvm.MethodName) prog_10_method_31_code (1 : Nat) (Option.some Jvm.ClassFile.FieldType.int)) ∈ go_T := go_t4 (List.mem_of_getElem? (i := 175) rfl) rfl
theorem tw_4_176 : (Jvm.Cond.methodLink "PromotedNumbersModel" (112 : Nat) ({ cls := "PromotedNumbersModel", name := "most", desc := "(I)I" } : Jvm.MethodName)) ∈ go_T := go_t4 (List.mem_of_getElem? (i := 176) rfl) rfl
theorem tw_4_177 : (Jvm.Cond.static ({ cls := "PromotedNumbersModel", name := "most", desc := "(I)I" } : Jvm.MethodName)) ∈ go_T := go_t4 (List.mem_of_getElem? (i := 177) rfl) rfl
theorem tw_4_178 : (Jvm.Cond.code ({ cls := "PromotedNumbersModel", name := "most", desc := "(I)I" } : Jvm.MethodName) prog_10_method_32_code (1 : Nat) (Option.some Jvm.ClassFile.FieldType.int)) ∈ go_T := go_t4 (List.mem_of_getElem? (i := 178) rfl) rfl
theorem tw_4_179 : (Jvm.Cond.methodLink "PromotedNumbersModel" (179 : Nat) ({ cls := "PromotedNumbersModel", name := "workOut", desc := "()I" } : Jvm.MethodName)) ∈ go_T := go_t4 (List.mem_of_getElem? (i := 179) rfl) rfl
theorem tw_4_181 : (Jvm.Cond.instanceMethod ({ cls := "PromotedNumbersModel", name := "workOut", desc := "()I" } : Jvm.MethodName)) ∈ go_T := go_t4 (List.mem_of_getElem? (i := 181) rfl) rfl
theorem tw_4_182 : (Jvm.Cond.code ({ cls := "PromotedNumbersModel", name := "workOut", desc := "()I" } : Jvm.MethodName) prog_10_method_41_code (2 : Nat) (Option.some Jvm.ClassFile.FieldType.int)) ∈ go_T := go_t4 (List.mem_of_getElem? (i := 182) rfl) rfl
theorem tw_4_183 : (Jvm.Cond.methodLink "PromotedNumbersModel" (141 : Nat) ({ cls := "PromotedNumbersModel", name := "begin", desc := "()I" } : Jvm.MethodName)) ∈ go_T := go_t4 (List.mem_of_getElem? (i := 183) rfl) rfl
theorem tw_4_185 : (Jvm.Cond.instanceMethod ({ cls := "PromotedNumbersModel", name := "begin", desc := "()I" } : Jvm.MethodName)) ∈ go_T := go_t4 (List.mem_of_getElem? (i := 185) rfl) rfl
theorem tw_4_186 : (Jvm.Cond.code ({ cls := "PromotedNumbersModel", name := "begin", desc := "()I" } : Jvm.MethodName) prog_10_method_39_code (2 : Nat) (Option.some Jvm.ClassFile.FieldType.int)) ∈ go_T := go_t4 (List.mem_of_getElem? (i := 186) rfl) rfl
theorem tw_4_187 : (Jvm.Cond.methodLink "PromotedNumbersModel" (127 : Nat) ({ cls := "PromotedNumbersModel", name := "copyValue", desc := "(II)V" } : Jvm.MethodName)) ∈ go_T := go_t4 (List.mem_of_getElem? (i := 187) rfl) rfl
theorem tw_4_189 : (Jvm.Cond.instanceMethod ({ cls := "PromotedNumbersModel", name := "copyValue", desc := "(II)V" } : Jvm.MethodName)) ∈ go_T := go_t4 (List.mem_of_getElem? (i := 189) rfl) rfl
theorem tw_4_190 : (Jvm.Cond.code ({ cls := "PromotedNumbersModel", name := "copyValue", desc := "(II)V" } : Jvm.MethodName) prog_10_method_16_code (3 : Nat) (Option.none : Option Jvm.ClassFile.FieldType)) ∈ go_T := go_t4 (List.mem_of_getElem? (i := 190) rfl) rfl
theorem tw_4_191 : (Jvm.Cond.methodLink "PromotedNumbersModel" (62 : Nat) ({ cls := "PromotedNumbersModel", name := "copy", desc := "(II)V" } : Jvm.MethodName)) ∈ go_T := go_t4 (List.mem_of_getElem? (i := 191) rfl) rfl
theorem tw_4_193 : (Jvm.Cond.instanceMethod ({ cls := "PromotedNumbersModel", name := "copy", desc := "(II)V" } : Jvm.MethodName)) ∈ go_T := go_t4 (List.mem_of_getElem? (i := 193) rfl) rfl
theorem tw_4_194 : (Jvm.Cond.code ({ cls := "PromotedNumbersModel", name := "copy", desc := "(II)V" } : Jvm.MethodName) prog_10_method_4_code (4 : Nat) (Option.none : Option Jvm.ClassFile.FieldType)) ∈ go_T := go_t4 (List.mem_of_getElem? (i := 194) rfl) rfl
theorem tw_4_195 : (Jvm.Cond.methodLink "PromotedNumbersModel" (130 : Nat) ({ cls := "PromotedNumbersModel", name := "number", desc := "()I" } : Jvm.MethodName)) ∈ go_T := go_t4 (List.mem_of_getElem? (i := 195) rfl) rfl
theorem tw_4_197 : (Jvm.Cond.instanceMethod ({ cls := "PromotedNumbersModel", name := "number", desc := "()I" } : Jvm.MethodName)) ∈ go_T := go_t4 (List.mem_of_getElem? (i := 197) rfl) rfl
theorem tw_4_198 : (Jvm.Cond.code ({ cls := "PromotedNumbersModel", name := "number", desc := "()I" } : Jvm.MethodName) prog_10_method_38_code (2 : Nat) (Option.some Jvm.ClassFile.FieldType.int)) ∈ go_T := go_t4 (List.mem_of_getElem? (i := 198) rfl) rfl
theorem tw_4_199 : (Jvm.Cond.methodLink "PromotedNumbersModel" (51 : Nat) ({ cls := "PromotedNumbersModel", name := "times", desc := "(III)V" } : Jvm.MethodName)) ∈ go_T := go_t4 (List.mem_of_getElem? (i := 199) rfl) rfl
theorem tw_4_201 : (Jvm.Cond.instanceMethod ({ cls := "PromotedNumbersModel", name := "times", desc := "(III)V" } : Jvm.MethodName)) ∈ go_T := go_t4 (List.mem_of_getElem? (i := 201) rfl) rfl
theorem tw_4_202 : (Jvm.Cond.code ({ cls := "PromotedNumbersModel", name := "times", desc := "(III)V" } : Jvm.MethodName) prog_10_method_12_code (7 : Nat) (Option.none : Option Jvm.ClassFile.FieldType)) ∈ go_T := go_t4 (List.mem_of_getElem? (i := 202) rfl) rfl
theorem tw_4_203 : (Jvm.Cond.methodLink "PromotedNumbersModel" (55 : Nat) ({ cls := "PromotedNumbersModel", name := "compare", desc := "(II)I" } : Jvm.MethodName)) ∈ go_T := go_t4 (List.mem_of_getElem? (i := 203) rfl) rfl
theorem tw_4_205 : (Jvm.Cond.instanceMethod ({ cls := "PromotedNumbersModel", name := "compare", desc := "(II)I" } : Jvm.MethodName)) ∈ go_T := go_t4 (List.mem_of_getElem? (i := 205) rfl) rfl
theorem tw_4_206 : (Jvm.Cond.code ({ cls := "PromotedNumbersModel", name := "compare", desc := "(II)I" } : Jvm.MethodName) prog_10_method_6_code (4 : Nat) (Option.some Jvm.ClassFile.FieldType.int)) ∈ go_T := go_t4 (List.mem_of_getElem? (i := 206) rfl) rfl
theorem tw_4_207 : (Jvm.Cond.methodLink "PromotedNumbersModel" (144 : Nat) ({ cls := "PromotedNumbersModel", name := "goOn", desc := "()I" } : Jvm.MethodName)) ∈ go_T := go_t4 (List.mem_of_getElem? (i := 207) rfl) rfl
theorem tw_4_209 : (Jvm.Cond.instanceMethod ({ cls := "PromotedNumbersModel", name := "goOn", desc := "()I" } : Jvm.MethodName)) ∈ go_T := go_t4 (List.mem_of_getElem? (i := 209) rfl) rfl
theorem tw_4_210 : (Jvm.Cond.code ({ cls := "PromotedNumbersModel", name := "goOn", desc := "()I" } : Jvm.MethodName) prog_10_method_40_code (5 : Nat) (Option.some Jvm.ClassFile.FieldType.int)) ∈ go_T := go_t4 (List.mem_of_getElem? (i := 210) rfl) rfl
theorem tw_4_211 : (Jvm.Cond.methodLink "PromotedNumbersModel" (134 : Nat) ({ cls := "PromotedNumbersModel", name := "apply", desc := "(III)I" } : Jvm.MethodName)) ∈ go_T := go_t4 (List.mem_of_getElem? (i := 211) rfl) rfl
theorem tw_4_213 : (Jvm.Cond.instanceMethod ({ cls := "PromotedNumbersModel", name := "apply", desc := "(III)I" } : Jvm.MethodName)) ∈ go_T := go_t4 (List.mem_of_getElem? (i := 213) rfl) rfl
theorem tw_4_214 : (Jvm.Cond.code ({ cls := "PromotedNumbersModel", name := "apply", desc := "(III)I" } : Jvm.MethodName) prog_10_method_42_code (5 : Nat) (Option.some Jvm.ClassFile.FieldType.int)) ∈ go_T := go_t4 (List.mem_of_getElem? (i := 214) rfl) rfl
theorem tw_4_215 : (Jvm.Cond.methodLink "PromotedNumbersModel" (147 : Nat) ({ cls := "PromotedNumbersModel", name := "chain", desc := "(IIIII)I" } : Jvm.MethodName)) ∈ go_T := go_t4 (List.mem_of_getElem? (i := 215) rfl) rfl
theorem tw_4_217 : (Jvm.Cond.instanceMethod ({ cls := "PromotedNumbersModel", name := "chain", desc := "(IIIII)I" } : Jvm.MethodName)) ∈ go_T := go_t4 (List.mem_of_getElem? (i := 217) rfl) rfl
theorem tw_4_218 : (Jvm.Cond.code ({ cls := "PromotedNumbersModel", name := "chain", desc := "(IIIII)I" } : Jvm.MethodName) prog_10_method_43_code (9 : Nat) (Option.some Jvm.ClassFile.FieldType.int)) ∈ go_T := go_t4 (List.mem_of_getElem? (i := 218) rfl) rfl
theorem tw_4_219 : (Jvm.Cond.methodLink "PromotedNumbersModel" (164 : Nat) ({ cls := "PromotedNumbersModel", name := "setValue", desc := "(II)V" } : Jvm.MethodName)) ∈ go_T := go_t4 (List.mem_of_getElem? (i := 219) rfl) rfl
theorem tw_4_221 : (Jvm.Cond.instanceMethod ({ cls := "PromotedNumbersModel", name := "setValue", desc := "(II)V" } : Jvm.MethodName)) ∈ go_T := go_t4 (List.mem_of_getElem? (i := 221) rfl) rfl
theorem tw_4_222 : (Jvm.Cond.code ({ cls := "PromotedNumbersModel", name := "setValue", desc := "(II)V" } : Jvm.MethodName) prog_10_method_17_code (3 : Nat) (Option.none : Option Jvm.ClassFile.FieldType)) ∈ go_T := go_t4 (List.mem_of_getElem? (i := 222) rfl) rfl
theorem tw_4_223 : (Jvm.Cond.methodLink "PromotedNumbersModel" (167 : Nat) ({ cls := "PromotedNumbersModel", name := "sum", desc := "(III)I" } : Jvm.MethodName)) ∈ go_T := go_t4 (List.mem_of_getElem? (i := 223) rfl) rfl
theorem tw_4_225 : (Jvm.Cond.instanceMethod ({ cls := "PromotedNumbersModel", name := "sum", desc := "(III)I" } : Jvm.MethodName)) ∈ go_T := go_t4 (List.mem_of_getElem? (i := 225) rfl) rfl
theorem tw_4_226 : (Jvm.Cond.code ({ cls := "PromotedNumbersModel", name := "sum", desc := "(III)I" } : Jvm.MethodName) prog_10_method_21_code (6 : Nat) (Option.some Jvm.ClassFile.FieldType.int)) ∈ go_T := go_t4 (List.mem_of_getElem? (i := 226) rfl) rfl
theorem tw_4_227 : (Jvm.Cond.methodLink "PromotedNumbersModel" (82 : Nat) ({ cls := "PromotedNumbersModel", name := "multiply", desc := "(III)V" } : Jvm.MethodName)) ∈ go_T := go_t4 (List.mem_of_getElem? (i := 227) rfl) rfl
theorem tw_4_229 : (Jvm.Cond.instanceMethod ({ cls := "PromotedNumbersModel", name := "multiply", desc := "(III)V" } : Jvm.MethodName)) ∈ go_T := go_t4 (List.mem_of_getElem? (i := 229) rfl) rfl
theorem tw_4_230 : (Jvm.Cond.code ({ cls := "PromotedNumbersModel", name := "multiply", desc := "(III)V" } : Jvm.MethodName) prog_10_method_9_code (9 : Nat) (Option.none : Option Jvm.ClassFile.FieldType)) ∈ go_T := go_t4 (List.mem_of_getElem? (i := 230) rfl) rfl
theorem tw_4_231 : (Jvm.Cond.methodLink "PromotedNumbersModel" (85 : Nat) ({ cls := "PromotedNumbersModel", name := "lowest", desc := "(II)I" } : Jvm.MethodName)) ∈ go_T := go_t4 (List.mem_of_getElem? (i := 231) rfl) rfl
theorem tw_4_233 : (Jvm.Cond.instanceMethod ({ cls := "PromotedNumbersModel", name := "lowest", desc := "(II)I" } : Jvm.MethodName)) ∈ go_T := go_t4 (List.mem_of_getElem? (i := 233) rfl) rfl
theorem tw_4_234 : (Jvm.Cond.code ({ cls := "PromotedNumbersModel", name := "lowest", desc := "(II)I" } : Jvm.MethodName) prog_10_method_20_code (3 : Nat) (Option.some Jvm.ClassFile.FieldType.int)) ∈ go_T := go_t4 (List.mem_of_getElem? (i := 234) rfl) rfl
theorem tw_4_235 : (Jvm.Cond.methodLink "PromotedNumbersModel" (72 : Nat) ({ cls := "PromotedNumbersModel", name := "isOne", desc := "(I)Z" } : Jvm.MethodName)) ∈ go_T := go_t4 (List.mem_of_getElem? (i := 235) rfl) rfl
theorem tw_4_237 : (Jvm.Cond.instanceMethod ({ cls := "PromotedNumbersModel", name := "isOne", desc := "(I)Z" } : Jvm.MethodName)) ∈ go_T := go_t4 (List.mem_of_getElem? (i := 237) rfl) rfl
theorem tw_4_238 : (Jvm.Cond.code ({ cls := "PromotedNumbersModel", name := "isOne", desc := "(I)Z" } : Jvm.MethodName) prog_10_method_18_code (2 : Nat) (Option.some Jvm.ClassFile.FieldType.boolean)) ∈ go_T := go_t4 (List.mem_of_getElem? (i := 238) rfl) rfl
theorem tw_4_239 : (Jvm.Cond.methodLink "PromotedNumbersModel" (75 : Nat) ({ cls := "PromotedNumbersModel", name := "common", desc := "(II)V" } : Jvm.MethodName)) ∈ go_T := go_t4 (List.mem_of_getElem? (i := 239) rfl) rfl
theorem tw_5_1 : (Jvm.Cond.instanceMethod ({ cls := "PromotedNumbersModel", name := "common", desc := "(II)V" } : Jvm.MethodName)) ∈ go_T := go_t5 (List.mem_of_getElem? (i := 1) rfl) rfl
theorem tw_5_2 : (Jvm.Cond.code ({ cls := "PromotedNumbersModel", name := "common", desc := "(II)V" } : Jvm.MethodName) prog_10_method_15_code (6 : Nat) (Option.none : Option Jvm.ClassFile.FieldType)) ∈ go_T := go_t5 (List.mem_of_getElem? (i := 2) rfl) rfl
theorem tw_5_3 : (Jvm.Cond.methodLink "PromotedNumbersModel" (65 : Nat) ({ cls := "PromotedNumbersModel", name := "isEven", desc := "(I)Z" } : Jvm.MethodName)) ∈ go_T := go_t5 (List.mem_of_getElem? (i := 3) rfl) rfl
theorem tw_5_5 : (Jvm.Cond.instanceMethod ({ cls := "PromotedNumbersModel", name := "isEven", desc := "(I)Z" } : Jvm.MethodName)) ∈ go_T := go_t5 (List.mem_of_getElem? (i := 5) rfl) rfl
theorem tw_5_6 : (Jvm.Cond.code ({ cls := "PromotedNumbersModel", name := "isEven", desc := "(I)Z" } : Jvm.MethodName) prog_10_method_14_code (2 : Nat) (Option.some Jvm.ClassFile.FieldType.boolean)) ∈ go_T := go_t5 (List.mem_of_getElem? (i := 6) rfl) rfl
theorem tw_5_7 : (Jvm.Cond.methodLink "PromotedNumbersModel" (69 : Nat) ({ cls := "PromotedNumbersModel", name := "divideSmall", desc := "(II)I" } : Jvm.MethodName)) ∈ go_T := go_t5 (List.mem_of_getElem? (i := 7) rfl) rfl
theorem tw_5_9 : (Jvm.Cond.instanceMethod ({ cls := "PromotedNumbersModel", name := "divideSmall", desc := "(II)I" } : Jvm.MethodName)) ∈ go_T := go_t5 (List.mem_of_getElem? (i := 9) rfl) rfl
theorem tw_5_10 : (Jvm.Cond.code ({ cls := "PromotedNumbersModel", name := "divideSmall", desc := "(II)I" } : Jvm.MethodName) prog_10_method_11_code (6 : Nat) (Option.some Jvm.ClassFile.FieldType.int)) ∈ go_T := go_t5 (List.mem_of_getElem? (i := 10) rfl) rfl
theorem tw_5_11 : (Jvm.Cond.methodLink "PromotedNumbersModel" (59 : Nat) ({ cls := "PromotedNumbersModel", name := "takeOff", desc := "(II)V" } : Jvm.MethodName)) ∈ go_T := go_t5 (List.mem_of_getElem? (i := 11) rfl) rfl
theorem tw_5_13 : (Jvm.Cond.instanceMethod ({ cls := "PromotedNumbersModel", name := "takeOff", desc := "(II)V" } : Jvm.MethodName)) ∈ go_T := go_t5 (List.mem_of_getElem? (i := 13) rfl) rfl
theorem tw_5_14 : (Jvm.Cond.code ({ cls := "PromotedNumbersModel", name := "takeOff", desc := "(II)V" } : Jvm.MethodName) prog_10_method_8_code (6 : Nat) (Option.none : Option Jvm.ClassFile.FieldType)) ∈ go_T := go_t5 (List.mem_of_getElem? (i := 14) rfl) rfl
theorem tw_5_15 : (Jvm.Cond.methodLink "PromotedNumbersModel" (78 : Nat) ({ cls := "PromotedNumbersModel", name := "divide", desc := "(IIII)V" } : Jvm.MethodName)) ∈ go_T := go_t5 (List.mem_of_getElem? (i := 15) rfl) rfl
theorem tw_5_17 : (Jvm.Cond.instanceMethod ({ cls := "PromotedNumbersModel", name := "divide", desc := "(IIII)V" } : Jvm.MethodName)) ∈ go_T := go_t5 (List.mem_of_getElem? (i := 17) rfl) rfl
theorem tw_5_18 : (Jvm.Cond.code ({ cls := "PromotedNumbersModel", name := "divide", desc := "(IIII)V" } : Jvm.MethodName) prog_10_method_13_code (9 : Nat) (Option.none : Option Jvm.ClassFile.FieldType)) ∈ go_T := go_t5 (List.mem_of_getElem? (i := 18) rfl) rfl
theorem tw_5_19 : (Jvm.Cond.methodLink "PromotedNumbersModel" (48 : Nat) ({ cls := "PromotedNumbersModel", name := "shift", desc := "(II)V" } : Jvm.MethodName)) ∈ go_T := go_t5 (List.mem_of_getElem? (i := 19) rfl) rfl
theorem tw_5_21 : (Jvm.Cond.instanceMethod ({ cls := "PromotedNumbersModel", name := "shift", desc := "(II)V" } : Jvm.MethodName)) ∈ go_T := go_t5 (List.mem_of_getElem? (i := 21) rfl) rfl
theorem tw_5_22 : (Jvm.Cond.code ({ cls := "PromotedNumbersModel", name := "shift", desc := "(II)V" } : Jvm.MethodName) prog_10_method_10_code (4 : Nat) (Option.none : Option Jvm.ClassFile.FieldType)) ∈ go_T := go_t5 (List.mem_of_getElem? (i := 22) rfl) rfl
theorem tw_5_23 : (Jvm.Cond.methodLink "PromotedNumbersModel" (170 : Nat) ({ cls := "PromotedNumbersModel", name := "product", desc := "(II)I" } : Jvm.MethodName)) ∈ go_T := go_t5 (List.mem_of_getElem? (i := 23) rfl) rfl
theorem tw_5_25 : (Jvm.Cond.instanceMethod ({ cls := "PromotedNumbersModel", name := "product", desc := "(II)I" } : Jvm.MethodName)) ∈ go_T := go_t5 (List.mem_of_getElem? (i := 25) rfl) rfl
theorem tw_5_26 : (Jvm.Cond.code ({ cls := "PromotedNumbersModel", name := "product", desc := "(II)I" } : Jvm.MethodName) prog_10_method_22_code (4 : Nat) (Option.some Jvm.ClassFile.FieldType.int)) ∈ go_T := go_t5 (List.mem_of_getElem? (i := 26) rfl) rfl
theorem tw_5_27 : (Jvm.Cond.methodLink "PromotedNumbersModel" (173 : Nat) ({ cls := "PromotedNumbersModel", name := "ratio", desc := "(II)I" } : Jvm.MethodName)) ∈ go_T := go_t5 (List.mem_of_getElem? (i := 27) rfl) rfl
theorem tw_5_29 : (Jvm.Cond.instanceMethod ({ cls := "PromotedNumbersModel", name := "ratio", desc := "(II)I" } : Jvm.MethodName)) ∈ go_T := go_t5 (List.mem_of_getElem? (i := 29) rfl) rfl
theorem tw_5_30 : (Jvm.Cond.code ({ cls := "PromotedNumbersModel", name := "ratio", desc := "(II)I" } : Jvm.MethodName) prog_10_method_23_code (4 : Nat) (Option.some Jvm.ClassFile.FieldType.int)) ∈ go_T := go_t5 (List.mem_of_getElem? (i := 30) rfl) rfl
theorem tw_5_31 : (Jvm.Cond.methodLink "PromotedNumbersModel" (151 : Nat) ({ cls := "PromotedNumbersModel", name := "quotient", desc := "(IZ)I" } : Jvm.MethodName)) ∈ go_T := go_t5 (List.mem_of_getElem? (i := 31) rfl) rfl
theorem tw_5_33 : (Jvm.Cond.instanceMethod ({ cls := "PromotedNumbersModel", name := "quotient", desc := "(IZ)I" } : Jvm.MethodName)) ∈ go_T := go_t5 (List.mem_of_getElem? (i := 33) rfl) rfl
theorem tw_5_34 : (Jvm.Cond.code ({ cls := "PromotedNumbersModel", name := "quotient", desc := "(IZ)I" } : Jvm.MethodName) prog_10_method_44_code (5 : Nat) (Option.some Jvm.ClassFile.FieldType.int)) ∈ go_T := go_t5 (List.mem_of_getElem? (i := 34) rfl) rfl
theorem tw_5_35 : (Jvm.Cond.methodLink "PromotedNumbersModel" (88 : Nat) ({ cls := "PromotedNumbersModel", name := "isWhole", desc := "(I)Z" } : Jvm.MethodName)) ∈ go_T := go_t5 (List.mem_of_getElem? (i := 35) rfl) rfl
theorem tw_5_37 : (Jvm.Cond.instanceMethod ({ cls := "PromotedNumbersModel", name := "isWhole", desc := "(I)Z" } : Jvm.MethodName)) ∈ go_T := go_t5 (List.mem_of_getElem? (i := 37) rfl) rfl
theorem tw_5_38 : (Jvm.Cond.code ({ cls := "PromotedNumbersModel", name := "isWhole", desc := "(I)Z" } : Jvm.MethodName) prog_10_method_19_code (2 : Nat) (Option.some Jvm.ClassFile.FieldType.boolean)) ∈ go_T := go_t5 (List.mem_of_getElem? (i := 38) rfl) rfl
theorem tw_5_39 : (Jvm.Cond.methodLink "PromotedNumbersModel" (155 : Nat) ({ cls := "PromotedNumbersModel", name := "divisor", desc := "(II)I" } : Jvm.MethodName)) ∈ go_T := go_t5 (List.mem_of_getElem? (i := 39) rfl) rfl
theorem tw_5_41 : (Jvm.Cond.instanceMethod ({ cls := "PromotedNumbersModel", name := "divisor", desc := "(II)I" } : Jvm.MethodName)) ∈ go_T := go_t5 (List.mem_of_getElem? (i := 41) rfl) rfl
theorem tw_5_42 : (Jvm.Cond.code ({ cls := "PromotedNumbersModel", name := "divisor", desc := "(II)I" } : Jvm.MethodName) prog_10_method_45_code (4 : Nat) (Option.some Jvm.ClassFile.FieldType.int)) ∈ go_T := go_t5 (List.mem_of_getElem? (i := 42) rfl) rfl
theorem tw_5_43 : (Jvm.Cond.methodLink "PromotedNumbersModel" (158 : Nat) ({ cls := "PromotedNumbersModel", name := "power", desc := "(I)I" } : Jvm.MethodName)) ∈ go_T := go_t5 (List.mem_of_getElem? (i := 43) rfl) rfl
theorem tw_5_45 : (Jvm.Cond.instanceMethod ({ cls := "PromotedNumbersModel", name := "power", desc := "(I)I" } : Jvm.MethodName)) ∈ go_T := go_t5 (List.mem_of_getElem? (i := 45) rfl) rfl
theorem tw_5_46 : (Jvm.Cond.code ({ cls := "PromotedNumbersModel", name := "power", desc := "(I)I" } : Jvm.MethodName) prog_10_method_46_code (6 : Nat) (Option.some Jvm.ClassFile.FieldType.int)) ∈ go_T := go_t5 (List.mem_of_getElem? (i := 46) rfl) rfl
theorem tw_5_47 : (Jvm.Cond.methodLink "PromotedNumbersModel" (161 : Nat) ({ cls := "PromotedNumbersModel", name := "order", desc := "(II)I" } : Jvm.MethodName)) ∈ go_T := go_t5 (List.mem_of_getElem? (i := 47) rfl) rfl
theorem tw_5_49 : (Jvm.Cond.instanceMethod ({ cls := "PromotedNumbersModel", name := "order", desc := "(II)I" } : Jvm.MethodName)) ∈ go_T := go_t5 (List.mem_of_getElem? (i := 49) rfl) rfl
theorem tw_5_50 : (Jvm.Cond.code ({ cls := "PromotedNumbersModel", name := "order", desc := "(II)I" } : Jvm.MethodName) prog_10_method_24_code (3 : Nat) (Option.some Jvm.ClassFile.FieldType.int)) ∈ go_T := go_t5 (List.mem_of_getElem? (i := 50) rfl) rfl
theorem tw_5_51 : (Jvm.Cond.methodLink "PromotedNumbersModel" (138 : Nat) ({ cls := "PromotedNumbersModel", name := "skip", desc := "(I)I" } : Jvm.MethodName)) ∈ go_T := go_t5 (List.mem_of_getElem? (i := 51) rfl) rfl
theorem tw_5_53 : (Jvm.Cond.instanceMethod ({ cls := "PromotedNumbersModel", name := "skip", desc := "(I)I" } : Jvm.MethodName)) ∈ go_T := go_t5 (List.mem_of_getElem? (i := 53) rfl) rfl
theorem tw_5_54 : (Jvm.Cond.code ({ cls := "PromotedNumbersModel", name := "skip", desc := "(I)I" } : Jvm.MethodName) prog_10_method_37_code (6 : Nat) (Option.some Jvm.ClassFile.FieldType.int)) ∈ go_T := go_t5 (List.mem_of_getElem? (i := 54) rfl) rfl
theorem tw_5_55 : (Jvm.Cond.methodLink "PromotedNumbersModel" (182 : Nat) ({ cls := "PromotedNumbersModel", name := "formOf", desc := "(I)I" } : Jvm.MethodName)) ∈ go_T := go_t5 (List.mem_of_getElem? (i := 55) rfl) rfl
theorem tw_5_57 : (Jvm.Cond.instanceMethod ({ cls := "PromotedNumbersModel", name := "formOf", desc := "(I)I" } : Jvm.MethodName)) ∈ go_T := go_t5 (List.mem_of_getElem? (i := 57) rfl) rfl
theorem tw_5_58 : (Jvm.Cond.code ({ cls := "PromotedNumbersModel", name := "formOf", desc := "(I)I" } : Jvm.MethodName) prog_10_method_25_code (2 : Nat) (Option.some Jvm.ClassFile.FieldType.int)) ∈ go_T := go_t5 (List.mem_of_getElem? (i := 58) rfl) rfl
theorem tw_5_59 : (Jvm.Cond.methodLink "PromotedNumbersLaw" (64 : Nat) ({ cls := "PromotedNumbersModel", name := "keep", desc := "(I)I" } : Jvm.MethodName)) ∈ go_T := go_t5 (List.mem_of_getElem? (i := 59) rfl) rfl
theorem tw_5_60 : (Jvm.Cond.instanceMethod ({ cls := "PromotedNumbersModel", name := "keep", desc := "(I)I" } : Jvm.MethodName)) ∈ go_T := go_t5 (List.mem_of_getElem? (i := 60) rfl) rfl
theorem tw_5_61 : (Jvm.Cond.selects "PromotedNumbersModel" ({ cls := "PromotedNumbersModel", name := "keep", desc := "(I)I" } : Jvm.MethodName) ({ cls := "PromotedNumbersModel", name := "keep", desc := "(I)I" } : Jvm.MethodName)) ∈ go_T := go_t5 (List.mem_of_getElem? (i := 61) rfl) rfl
theorem tw_5_62 : (Jvm.Cond.code ({ cls := "PromotedNumbersModel", name := "keep", desc := "(I)I" } : Jvm.MethodName) prog_10_method_49_code (3 : Nat) (Option.some Jvm.ClassFile.FieldType.int)) ∈ go_T := go_t5 (List.mem_of_getElem? (i := 62) rfl) rfl
theorem tw_5_63 : (Jvm.Cond.methodLink "PromotedNumbersModel" (185 : Nat) ({ cls := "PromotedNumbersModel", name := "isVariable", desc := "(I)Z" } : Jvm.MethodName)) ∈ go_T := go_t5 (List.mem_of_getElem? (i := 63) rfl) rfl
theorem tw_5_64 : (Jvm.Cond.static ({ cls := "PromotedNumbersModel", name := "isVariable", desc := "(I)Z" } : Jvm.MethodName)) ∈ go_T := go_t5 (List.mem_of_getElem? (i := 64) rfl) rfl
theorem tw_5_65 : (Jvm.Cond.code ({ cls := "PromotedNumbersModel", name := "isVariable", desc := "(I)Z" } : Jvm.MethodName) prog_10_method_48_code (1 : Nat) (Option.some Jvm.ClassFile.FieldType.boolean)) ∈ go_T := go_t5 (List.mem_of_getElem? (i := 65) rfl) rfl
theorem tw_5_66 : (Jvm.Cond.methodLink "PromotedNumbersModel" (188 : Nat) ({ cls := "PromotedNumbersModel", name := "work", desc := "()I" } : Jvm.MethodName)) ∈ go_T := go_t5 (List.mem_of_getElem? (i := 66) rfl) rfl
theorem tw_5_67 : (Jvm.Cond.methodLink "PromotedNumbersLaw" (68 : Nat) ({ cls := "PromotedNumbersModel", name := "form", desc := "()I" } : Jvm.MethodName)) ∈ go_T := go_t5 (List.mem_of_getElem? (i := 67) rfl) rfl
theorem tw_5_68 : (Jvm.Cond.instanceMethod ({ cls := "PromotedNumbersModel", name := "form", desc := "()I" } : Jvm.MethodName)) ∈ go_T := go_t5 (List.mem_of_getElem? (i := 68) rfl) rfl
theorem tw_5_69 : (Jvm.Cond.selects "PromotedNumbersModel" ({ cls := "PromotedNumbersModel", name := "form", desc := "()I" } : Jvm.MethodName) ({ cls := "PromotedNumbersModel", name := "form", desc := "()I" } : Jvm.MethodName)) ∈ go_T := go_t5 (List.mem_of_getElem? (i := 69) rfl) rfl
theorem tw_5_70 : (Jvm.Cond.code ({ cls := "PromotedNumbersModel", name := "form", desc := "()I" } : Jvm.MethodName) prog_10_method_50_code (1 : Nat) (Option.some Jvm.ClassFile.FieldType.int)) ∈ go_T := go_t5 (List.mem_of_getElem? (i := 70) rfl) rfl
theorem tw_5_71 : (Jvm.Cond.methodLink "PromotedNumbersLaw" (72 : Nat) ({ cls := "PromotedNumbersModel", name := "sign", desc := "()I" } : Jvm.MethodName)) ∈ go_T := go_t5 (List.mem_of_getElem? (i := 71) rfl) rfl
theorem tw_5_72 : (Jvm.Cond.instanceMethod ({ cls := "PromotedNumbersModel", name := "sign", desc := "()I" } : Jvm.MethodName)) ∈ go_T := go_t5 (List.mem_of_getElem? (i := 72) rfl) rfl
theorem tw_5_73 : (Jvm.Cond.selects "PromotedNumbersModel" ({ cls := "PromotedNumbersModel", name := "sign", desc := "()I" } : Jvm.MethodName) ({ cls := "PromotedNumbersModel", name := "sign", desc := "()I" } : Jvm.MethodName)) ∈ go_T := go_t5 (List.mem_of_getElem? (i := 73) rfl) rfl
theorem tw_5_74 : (Jvm.Cond.code ({ cls := "PromotedNumbersModel", name := "sign", desc := "()I" } : Jvm.MethodName) prog_10_method_51_code (1 : Nat) (Option.some Jvm.ClassFile.FieldType.int)) ∈ go_T := go_t5 (List.mem_of_getElem? (i := 74) rfl) rfl
theorem tw_5_75 : (Jvm.Cond.methodLink "PromotedNumbersLaw" (77 : Nat) ({ cls := "PromotedNumbersModel", name := "digit", desc := "(I)C" } : Jvm.MethodName)) ∈ go_T := go_t5 (List.mem_of_getElem? (i := 75) rfl) rfl
theorem tw_5_76 : (Jvm.Cond.instanceMethod ({ cls := "PromotedNumbersModel", name := "digit", desc := "(I)C" } : Jvm.MethodName)) ∈ go_T := go_t5 (List.mem_of_getElem? (i := 76) rfl) rfl
theorem tw_5_77 : (Jvm.Cond.selects "PromotedNumbersModel" ({ cls := "PromotedNumbersModel", name := "digit", desc := "(I)C" } : Jvm.MethodName) ({ cls := "PromotedNumbersModel", name := "digit", desc := "(I)C" } : Jvm.MethodName)) ∈ go_T := go_t5 (List.mem_of_getElem? (i := 77) rfl) rfl
theorem tw_5_78 : (Jvm.Cond.code ({ cls := "PromotedNumbersModel", name := "digit", desc := "(I)C" } : Jvm.MethodName) prog_10_method_54_code (5 : Nat) (Option.some Jvm.ClassFile.FieldType.char)) ∈ go_T := go_t5 (List.mem_of_getElem? (i := 78) rfl) rfl
theorem tw_5_79 : (Jvm.Cond.methodLink "PromotedNumbersModel" (191 : Nat) ({ cls := "PromotedNumbersModel", name := "length", desc := "(I)I" } : Jvm.MethodName)) ∈ go_T := go_t5 (List.mem_of_getElem? (i := 79) rfl) rfl
theorem tw_5_81 : (Jvm.Cond.instanceMethod ({ cls := "PromotedNumbersModel", name := "length", desc := "(I)I" } : Jvm.MethodName)) ∈ go_T := go_t5 (List.mem_of_getElem? (i := 81) rfl) rfl
theorem tw_5_82 : (Jvm.Cond.code ({ cls := "PromotedNumbersModel", name := "length", desc := "(I)I" } : Jvm.MethodName) prog_10_method_52_code (3 : Nat) (Option.some Jvm.ClassFile.FieldType.int)) ∈ go_T := go_t5 (List.mem_of_getElem? (i := 82) rfl) rfl
theorem tw_5_83 : (Jvm.Cond.methodLink "PromotedNumbersModel" (194 : Nat) ({ cls := "PromotedNumbersModel", name := "fromEnd", desc := "(II)I" } : Jvm.MethodName)) ∈ go_T := go_t5 (List.mem_of_getElem? (i := 83) rfl) rfl
theorem tw_5_85 : (Jvm.Cond.instanceMethod ({ cls := "PromotedNumbersModel", name := "fromEnd", desc := "(II)I" } : Jvm.MethodName)) ∈ go_T := go_t5 (List.mem_of_getElem? (i := 85) rfl) rfl
theorem tw_5_86 : (Jvm.Cond.code ({ cls := "PromotedNumbersModel", name := "fromEnd", desc := "(II)I" } : Jvm.MethodName) prog_10_method_53_code (5 : Nat) (Option.some Jvm.ClassFile.FieldType.int)) ∈ go_T := go_t5 (List.mem_of_getElem? (i := 86) rfl) rfl
theorem tw_5_87 : (Jvm.Cond.methodLink "PromotedNumbersLaw" (82 : Nat) ({ cls := "PromotedNumbersModel", name := "bits", desc := "(II)I" } : Jvm.MethodName)) ∈ go_T := go_t5 (List.mem_of_getElem? (i := 87) rfl) rfl
theorem tw_5_88 : (Jvm.Cond.instanceMethod ({ cls := "PromotedNumbersModel", name := "bits", desc := "(II)I" } : Jvm.MethodName)) ∈ go_T := go_t5 (List.mem_of_getElem? (i := 88) rfl) rfl
theorem tw_5_89 : (Jvm.Cond.selects "PromotedNumbersModel" ({ cls := "PromotedNumbersModel", name := "bits", desc := "(II)I" } : Jvm.MethodName) ({ cls := "PromotedNumbersModel", name := "bits", desc := "(II)I" } : Jvm.MethodName)) ∈ go_T := go_t5 (List.mem_of_getElem? (i := 89) rfl) rfl
theorem tw_5_90 : (Jvm.Cond.code ({ cls := "PromotedNumbersModel", name := "bits", desc := "(II)I" } : Jvm.MethodName) prog_10_method_55_code (5 : Nat) (Option.some Jvm.ClassFile.FieldType.int)) ∈ go_T := go_t5 (List.mem_of_getElem? (i := 90) rfl) rfl
theorem tw_5_91 : (Jvm.Cond.constant "PromotedNumbersModel" (197 : Nat) (65536 : Int32)) ∈ go_T := go_t5 (List.mem_of_getElem? (i := 91) rfl) rfl
theorem tw_5_92 : (Jvm.Cond.methodLink "PromotedNumbersLaw" (85 : Nat) ({ cls := "PromotedNumbersModel", name := "against", desc := "(I)I" } : Jvm.MethodName)) ∈ go_T := go_t5 (List.mem_of_getElem? (i := 92) rfl) rfl
theorem tw_5_93 : (Jvm.Cond.instanceMethod ({ cls := "PromotedNumbersModel", name := "against", desc := "(I)I" } : Jvm.MethodName)) ∈ go_T := go_t5 (List.mem_of_getElem? (i := 93) rfl) rfl
theorem tw_5_94 : (Jvm.Cond.selects "PromotedNumbersModel" ({ cls := "PromotedNumbersModel", name := "against", desc := "(I)I" } : Jvm.MethodName) ({ cls := "PromotedNumbersModel", name := "against", desc := "(I)I" } : Jvm.MethodName)) ∈ go_T := go_t5 (List.mem_of_getElem? (i := 94) rfl) rfl
theorem tw_5_95 : (Jvm.Cond.code ({ cls := "PromotedNumbersModel", name := "against", desc := "(I)I" } : Jvm.MethodName) prog_10_method_56_code (2 : Nat) (Option.some Jvm.ClassFile.FieldType.int)) ∈ go_T := go_t5 (List.mem_of_getElem? (i := 95) rfl) rfl
theorem tw_5_96 : (Jvm.Cond.methodLink "PromotedNumbersLaw" (88 : Nat) ({ cls := "PromotedNumbersModel", name := "fetch", desc := "(I)I" } : Jvm.MethodName)) ∈ go_T := go_t5 (List.mem_of_getElem? (i := 96) rfl) rfl
theorem tw_5_97 : (Jvm.Cond.instanceMethod ({ cls := "PromotedNumbersModel", name := "fetch", desc := "(I)I" } : Jvm.MethodName)) ∈ go_T := go_t5 (List.mem_of_getElem? (i := 97) rfl) rfl
theorem tw_5_98 : (Jvm.Cond.selects "PromotedNumbersModel" ({ cls := "PromotedNumbersModel", name := "fetch", desc := "(I)I" } : Jvm.MethodName) ({ cls := "PromotedNumbersModel", name := "fetch", desc := "(I)I" } : Jvm.MethodName)) ∈ go_T := go_t5 (List.mem_of_getElem? (i := 98) rfl) rfl
theorem tw_5_99 : (Jvm.Cond.code ({ cls := "PromotedNumbersModel", name := "fetch", desc := "(I)I" } : Jvm.MethodName) prog_10_method_57_code (2 : Nat) (Option.some Jvm.ClassFile.FieldType.int)) ∈ go_T := go_t5 (List.mem_of_getElem? (i := 99) rfl) rfl
theorem tw_5_100 : (Jvm.Cond.constantLong "PromotedNumbersLaw" (37 : Nat) (4294967295 : Int64)) ∈ go_T := go_t5 (List.mem_of_getElem? (i := 100) rfl) rfl
theorem tw_5_101 : (Jvm.Cond.arrayClass Jvm.ClassFile.FieldType.long) ∈ go_T := go_t5 (List.mem_of_getElem? (i := 101) rfl) rfl
theorem tw_5_103 : (Jvm.Cond.fieldLink "java/lang/String" (15 : Nat) "java/lang/String" "coder" "B") ∈ go_T := go_t5 (List.mem_of_getElem? (i := 103) rfl) rfl
theorem tw_5_104 : (Jvm.Cond.fieldLink "java/lang/String" (9 : Nat) "java/lang/String" "value" "[B") ∈ go_T := go_t5 (List.mem_of_getElem? (i := 104) rfl) rfl
def go_N : List Cond := [(Jvm.Cond.fieldLinkNest "PromotedNumbers$Divider" (45 : Nat) "PromotedNumbers$Whole" "limbs" "[I" "PromotedNumbers"),
  (Jvm.Cond.fieldLinkNest "PromotedNumbers$Fraction" (49 : Nat) "PromotedNumbers$Whole" "limbs" "[I" "PromotedNumbers"),
  (Jvm.Cond.fieldLinkNest "PromotedNumbers$Divider" (49 : Nat) "PromotedNumbers$Whole" "size" "I" "PromotedNumbers"),
  (Jvm.Cond.fieldLinkNest "PromotedNumbers$Fraction" (45 : Nat) "PromotedNumbers$Whole" "size" "I" "PromotedNumbers"),
  (Jvm.Cond.fieldLinkNest "PromotedNumbers$Machine" (124 : Nat) "PromotedNumbers$Whole" "size" "I" "PromotedNumbers"),
  (Jvm.Cond.fieldLinkNest "PromotedNumbers$Writing" (45 : Nat) "PromotedNumbers$Fraction" "n" "LPromotedNumbers$Whole;" "PromotedNumbers"),
  (Jvm.Cond.fieldLinkNest "PromotedNumbers$Calculator" (54 : Nat) "PromotedNumbers$Fraction" "n" "LPromotedNumbers$Whole;" "PromotedNumbers"),
  (Jvm.Cond.fieldLinkNest "PromotedNumbers$Machine" (106 : Nat) "PromotedNumbers$Fraction" "n" "LPromotedNumbers$Whole;" "PromotedNumbers"),
  (Jvm.Cond.fieldLinkNest "PromotedNumbers" (93 : Nat) "PromotedNumbers$Fraction" "n" "LPromotedNumbers$Whole;" "PromotedNumbers"),
  (Jvm.Cond.fieldLinkNest "PromotedNumbers$Calculator" (42 : Nat) "PromotedNumbers$Fraction" "d" "LPromotedNumbers$Whole;" "PromotedNumbers"),
  (Jvm.Cond.fieldLinkNest "PromotedNumbers$Writing" (34 : Nat) "PromotedNumbers$Fraction" "d" "LPromotedNumbers$Whole;" "PromotedNumbers"),
  (Jvm.Cond.fieldLinkNest "PromotedNumbers$Machine" (127 : Nat) "PromotedNumbers$Fraction" "d" "LPromotedNumbers$Whole;" "PromotedNumbers"),
  (Jvm.Cond.fieldLinkNest "PromotedNumbers" (103 : Nat) "PromotedNumbers$Fraction" "d" "LPromotedNumbers$Whole;" "PromotedNumbers"),
  (Jvm.Cond.fieldLinkNest "PromotedNumbers$Writing" (48 : Nat) "PromotedNumbers$Fraction" "below" "Z" "PromotedNumbers"),
  (Jvm.Cond.fieldLinkNest "PromotedNumbers$Calculator" (61 : Nat) "PromotedNumbers$Fraction" "below" "Z" "PromotedNumbers"),
  (Jvm.Cond.fieldLinkNest "PromotedNumbers$Machine" (113 : Nat) "PromotedNumbers$Fraction" "below" "Z" "PromotedNumbers"),
  (Jvm.Cond.methodLinkNest "PromotedNumbers" (33 : Nat) ({ cls := "PromotedNumbers$Grammar", name := "<init>", desc := "()V" } : Jvm.MethodName) "PromotedNumbers"),
  (Jvm.Cond.methodLinkNest "PromotedNumbers$Machine" (11 : Nat) ({ cls := "PromotedNumbers$Calculator", name := "<init>", desc := "()V" } : Jvm.MethodName) "PromotedNumbers"),
  (Jvm.Cond.methodLinkNest "PromotedNumbers$Calculator" (11 : Nat) ({ cls := "PromotedNumbers$Divider", name := "<init>", desc := "()V" } : Jvm.MethodName) "PromotedNumbers"),
  (Jvm.Cond.fieldLinkNest "PromotedNumbers$Calculator" (97 : Nat) "PromotedNumbers$Divider" "rest" "LPromotedNumbers$Whole;" "PromotedNumbers"),
  (Jvm.Cond.fieldLinkNest "PromotedNumbers" (106 : Nat) "PromotedNumbers$Machine" "calculator" "LPromotedNumbers$Calculator;" "PromotedNumbers"),
  (Jvm.Cond.fieldLinkNest "PromotedNumbers" (74 : Nat) "PromotedNumbers$Machine" "variables" "[LPromotedNumbers$Fraction;" "PromotedNumbers"),
  (Jvm.Cond.methodLinkNest "PromotedNumbers$Grammar" (33 : Nat) ({ cls := "PromotedNumbers", name := "isDigit", desc := "(C)Z" } : Jvm.MethodName) "PromotedNumbers"),
  (Jvm.Cond.methodLinkNest "PromotedNumbers$Grammar" (40 : Nat) ({ cls := "PromotedNumbers", name := "isVariable", desc := "(C)Z" } : Jvm.MethodName) "PromotedNumbers"),
  (Jvm.Cond.fieldLinkNest "PromotedNumbers$Grammar" (51 : Nat) "PromotedNumbers" "MOST" "[I" "PromotedNumbers"),
  (Jvm.Cond.fieldLinkNest "PromotedNumbers$Grammar" (54 : Nat) "PromotedNumbers" "FEWEST" "[I" "PromotedNumbers"),
  (Jvm.Cond.methodLinkNest "PromotedNumbers$Machine" (81 : Nat) ({ cls := "PromotedNumbers", name := "isVariable", desc := "(C)Z" } : Jvm.MethodName) "PromotedNumbers")]
theorem nw_1_47 : (Jvm.Cond.fieldLinkNest "PromotedNumbers$Divider" (45 : Nat) "PromotedNumbers$Whole" "limbs" "[I" "PromotedNumbers") ∈ go_N := List.mem_of_getElem? (i := 0) rfl
theorem nw_1_48 : (Jvm.Cond.fieldLinkNest "PromotedNumbers$Fraction" (49 : Nat) "PromotedNumbers$Whole" "limbs" "[I" "PromotedNumbers") ∈ go_N := List.mem_of_getElem? (i := 1) rfl
theorem nw_1_50 : (Jvm.Cond.fieldLinkNest "PromotedNumbers$Divider" (49 : Nat) "PromotedNumbers$Whole" "size" "I" "PromotedNumbers") ∈ go_N := List.mem_of_getElem? (i := 2) rfl
theorem nw_1_51 : (Jvm.Cond.fieldLinkNest "PromotedNumbers$Fraction" (45 : Nat) "PromotedNumbers$Whole" "size" "I" "PromotedNumbers") ∈ go_N := List.mem_of_getElem? (i := 3) rfl
theorem nw_1_52 : (Jvm.Cond.fieldLinkNest "PromotedNumbers$Machine" (124 : Nat) "PromotedNumbers$Whole" "size" "I" "PromotedNumbers") ∈ go_N := List.mem_of_getElem? (i := 4) rfl
theorem nw_1_65 : (Jvm.Cond.fieldLinkNest "PromotedNumbers$Writing" (45 : Nat) "PromotedNumbers$Fraction" "n" "LPromotedNumbers$Whole;" "PromotedNumbers") ∈ go_N := List.mem_of_getElem? (i := 5) rfl
theorem nw_1_66 : (Jvm.Cond.fieldLinkNest "PromotedNumbers$Calculator" (54 : Nat) "PromotedNumbers$Fraction" "n" "LPromotedNumbers$Whole;" "PromotedNumbers") ∈ go_N := List.mem_of_getElem? (i := 6) rfl
theorem nw_1_67 : (Jvm.Cond.fieldLinkNest "PromotedNumbers$Machine" (106 : Nat) "PromotedNumbers$Fraction" "n" "LPromotedNumbers$Whole;" "PromotedNumbers") ∈ go_N := List.mem_of_getElem? (i := 7) rfl
theorem nw_1_68 : (Jvm.Cond.fieldLinkNest "PromotedNumbers" (93 : Nat) "PromotedNumbers$Fraction" "n" "LPromotedNumbers$Whole;" "PromotedNumbers") ∈ go_N := List.mem_of_getElem? (i := 8) rfl
theorem nw_1_70 : (Jvm.Cond.fieldLinkNest "PromotedNumbers$Calculator" (42 : Nat) "PromotedNumbers$Fraction" "d" "LPromotedNumbers$Whole;" "PromotedNumbers") ∈ go_N := List.mem_of_getElem? (i := 9) rfl
theorem nw_1_71 : (Jvm.Cond.fieldLinkNest "PromotedNumbers$Writing" (34 : Nat) "PromotedNumbers$Fraction" "d" "LPromotedNumbers$Whole;" "PromotedNumbers") ∈ go_N := List.mem_of_getElem? (i := 10) rfl
theorem nw_1_72 : (Jvm.Cond.fieldLinkNest "PromotedNumbers$Machine" (127 : Nat) "PromotedNumbers$Fraction" "d" "LPromotedNumbers$Whole;" "PromotedNumbers") ∈ go_N := List.mem_of_getElem? (i := 11) rfl
theorem nw_1_73 : (Jvm.Cond.fieldLinkNest "PromotedNumbers" (103 : Nat) "PromotedNumbers$Fraction" "d" "LPromotedNumbers$Whole;" "PromotedNumbers") ∈ go_N := List.mem_of_getElem? (i := 12) rfl
theorem nw_1_75 : (Jvm.Cond.fieldLinkNest "PromotedNumbers$Writing" (48 : Nat) "PromotedNumbers$Fraction" "below" "Z" "PromotedNumbers") ∈ go_N := List.mem_of_getElem? (i := 13) rfl
theorem nw_1_76 : (Jvm.Cond.fieldLinkNest "PromotedNumbers$Calculator" (61 : Nat) "PromotedNumbers$Fraction" "below" "Z" "PromotedNumbers") ∈ go_N := List.mem_of_getElem? (i := 14) rfl
theorem nw_1_77 : (Jvm.Cond.fieldLinkNest "PromotedNumbers$Machine" (113 : Nat) "PromotedNumbers$Fraction" "below" "Z" "PromotedNumbers") ∈ go_N := List.mem_of_getElem? (i := 15) rfl
theorem nw_1_105 : (Jvm.Cond.methodLinkNest "PromotedNumbers" (33 : Nat) ({ cls := "PromotedNumbers$Grammar", name := "<init>", desc := "()V" } : Jvm.MethodName) "PromotedNumbers") ∈ go_N := List.mem_of_getElem? (i := 16) rfl
theorem nw_1_127 : (Jvm.Cond.methodLinkNest "PromotedNumbers$Machine" (11 : Nat) ({ cls := "PromotedNumbers$Calculator", name := "<init>", desc := "()V" } : Jvm.MethodName) "PromotedNumbers") ∈ go_N := List.mem_of_getElem? (i := 17) rfl
theorem nw_1_133 : (Jvm.Cond.methodLinkNest "PromotedNumbers$Calculator" (11 : Nat) ({ cls := "PromotedNumbers$Divider", name := "<init>", desc := "()V" } : Jvm.MethodName) "PromotedNumbers") ∈ go_N := List.mem_of_getElem? (i := 18) rfl
theorem nw_1_140 : (Jvm.Cond.fieldLinkNest "PromotedNumbers$Calculator" (97 : Nat) "PromotedNumbers$Divider" "rest" "LPromotedNumbers$Whole;" "PromotedNumbers") ∈ go_N := List.mem_of_getElem? (i := 19) rfl
theorem nw_1_183 : (Jvm.Cond.fieldLinkNest "PromotedNumbers" (106 : Nat) "PromotedNumbers$Machine" "calculator" "LPromotedNumbers$Calculator;" "PromotedNumbers") ∈ go_N := List.mem_of_getElem? (i := 20) rfl
theorem nw_1_185 : (Jvm.Cond.fieldLinkNest "PromotedNumbers" (74 : Nat) "PromotedNumbers$Machine" "variables" "[LPromotedNumbers$Fraction;" "PromotedNumbers") ∈ go_N := List.mem_of_getElem? (i := 21) rfl
theorem nw_2_91 : (Jvm.Cond.methodLinkNest "PromotedNumbers$Grammar" (33 : Nat) ({ cls := "PromotedNumbers", name := "isDigit", desc := "(C)Z" } : Jvm.MethodName) "PromotedNumbers") ∈ go_N := List.mem_of_getElem? (i := 22) rfl
theorem nw_2_94 : (Jvm.Cond.methodLinkNest "PromotedNumbers$Grammar" (40 : Nat) ({ cls := "PromotedNumbers", name := "isVariable", desc := "(C)Z" } : Jvm.MethodName) "PromotedNumbers") ∈ go_N := List.mem_of_getElem? (i := 23) rfl
theorem nw_2_192 : (Jvm.Cond.fieldLinkNest "PromotedNumbers$Grammar" (51 : Nat) "PromotedNumbers" "MOST" "[I" "PromotedNumbers") ∈ go_N := List.mem_of_getElem? (i := 24) rfl
theorem nw_2_194 : (Jvm.Cond.fieldLinkNest "PromotedNumbers$Grammar" (54 : Nat) "PromotedNumbers" "FEWEST" "[I" "PromotedNumbers") ∈ go_N := List.mem_of_getElem? (i := 25) rfl
theorem nw_3_189 : (Jvm.Cond.methodLinkNest "PromotedNumbers$Machine" (81 : Nat) ({ cls := "PromotedNumbers", name := "isVariable", desc := "(C)Z" } : Jvm.MethodName) "PromotedNumbers") ∈ go_N := List.mem_of_getElem? (i := 26) rfl
theorem go_N_tbl : ∀ w ∈ go_N, w ∈ lw_tbl := by
  intro w hw
  refine List.mem_append_right _ ?_
  unfold go_N at hw
  simp only [List.mem_cons, List.not_mem_nil, or_false] at hw
  rcases hw with rfl | rfl | rfl | rfl | rfl | rfl | rfl | rfl | rfl | rfl | rfl | rfl | rfl | rfl | rfl | rfl | rfl | rfl | rfl | rfl | rfl | rfl | rfl | rfl | rfl | rfl | rfl
  · exact List.mem_append_left _ (List.mem_of_getElem? (i := 47) rfl : _ ∈ tables_1_1)
  · exact List.mem_append_left _ (List.mem_of_getElem? (i := 48) rfl : _ ∈ tables_1_1)
  · exact List.mem_append_left _ (List.mem_of_getElem? (i := 50) rfl : _ ∈ tables_1_1)
  · exact List.mem_append_left _ (List.mem_of_getElem? (i := 51) rfl : _ ∈ tables_1_1)
  · exact List.mem_append_left _ (List.mem_of_getElem? (i := 52) rfl : _ ∈ tables_1_1)
  · exact List.mem_append_left _ (List.mem_of_getElem? (i := 65) rfl : _ ∈ tables_1_1)
  · exact List.mem_append_left _ (List.mem_of_getElem? (i := 66) rfl : _ ∈ tables_1_1)
  · exact List.mem_append_left _ (List.mem_of_getElem? (i := 67) rfl : _ ∈ tables_1_1)
  · exact List.mem_append_left _ (List.mem_of_getElem? (i := 68) rfl : _ ∈ tables_1_1)
  · exact List.mem_append_left _ (List.mem_of_getElem? (i := 70) rfl : _ ∈ tables_1_1)
  · exact List.mem_append_left _ (List.mem_of_getElem? (i := 71) rfl : _ ∈ tables_1_1)
  · exact List.mem_append_left _ (List.mem_of_getElem? (i := 72) rfl : _ ∈ tables_1_1)
  · exact List.mem_append_left _ (List.mem_of_getElem? (i := 73) rfl : _ ∈ tables_1_1)
  · exact List.mem_append_left _ (List.mem_of_getElem? (i := 75) rfl : _ ∈ tables_1_1)
  · exact List.mem_append_left _ (List.mem_of_getElem? (i := 76) rfl : _ ∈ tables_1_1)
  · exact List.mem_append_left _ (List.mem_of_getElem? (i := 77) rfl : _ ∈ tables_1_1)
  · exact List.mem_append_left _ (List.mem_of_getElem? (i := 105) rfl : _ ∈ tables_1_1)
  · exact List.mem_append_left _ (List.mem_of_getElem? (i := 127) rfl : _ ∈ tables_1_1)
  · exact List.mem_append_left _ (List.mem_of_getElem? (i := 133) rfl : _ ∈ tables_1_1)
  · exact List.mem_append_left _ (List.mem_of_getElem? (i := 140) rfl : _ ∈ tables_1_1)
  · exact List.mem_append_left _ (List.mem_of_getElem? (i := 183) rfl : _ ∈ tables_1_1)
  · exact List.mem_append_left _ (List.mem_of_getElem? (i := 185) rfl : _ ∈ tables_1_1)
  · exact List.mem_append_right _ (List.mem_append_left _ (List.mem_of_getElem? (i := 91) rfl : _ ∈ tables_1_2))
  · exact List.mem_append_right _ (List.mem_append_left _ (List.mem_of_getElem? (i := 94) rfl : _ ∈ tables_1_2))
  · exact List.mem_append_right _ (List.mem_append_left _ (List.mem_of_getElem? (i := 192) rfl : _ ∈ tables_1_2))
  · exact List.mem_append_right _ (List.mem_append_left _ (List.mem_of_getElem? (i := 194) rfl : _ ∈ tables_1_2))
  · exact List.mem_append_right _ (List.mem_append_right _ (List.mem_append_left _ (List.mem_of_getElem? (i := 189) rfl : _ ∈ tables_1_3)))
def go_isN : Cond → Bool
  | .fieldLinkNest _ _ _ _ _ _ => true
  | .methodLinkNest _ _ _ _ => true
  | _ => false
theorem go_N_is : go_N.all go_isN = true := rfl
theorem go_N_warm (w : Cond) (hw : w ∈ go_N) {s U : State} (hW : s.WarmedH U.vm) (h : va_Nw w s) : va_Nw w U := by
  have h1 := List.all_eq_true.mp go_N_is w hw
  cases w <;> first | exact va_Nw.warmF hW h | exact va_Nw.warmM hW h | cases h1
theorem go_N_same (w : Cond) (hw : w ∈ go_N) {u U : State} (he : u.vm = U.vm) (h : va_Nw w u) : va_Nw w U := by
  have h1 := List.all_eq_true.mp go_N_is w hw
  cases w <;> first | exact va_Nw.same rfl he h | cases h1
theorem go_N_of {A : Array Value} {s : State} (h : ∀ w ∈ lw_tbl, w.before A s = true) : ∀ w ∈ go_N, va_Nw w s := by
  intro w hw
  have h1 := List.all_eq_true.mp go_N_is w hw
  have h2 := h w (go_N_tbl w hw)
  cases w <;> first | exact va_Nw.of rfl h2 | cases h1
end
section
/-! what every method's walk takes along: the classes of arrays, the nest's words, statics and a text that nobody writes -/
def cx_ty (ca : Nat → ClassId) : List (ClassId × FieldType) := [(ca 0, .int), (ca 1, .long), (ca 2, .char), (ca 3, .object cx_RF)]
def cx_few : List Int32 := [0, 0, 1, 1, 2, 2, 0, 2, 1, 1, 2, 2, 3]
def cx_most : List Int32 := [120, 120, 120, 120, 2, 2, 120, 2, 1, 1, 2, 2, 3]
def cx_ops : List Int32 := [43, 42, 45, 47, 113, 114, 103, 94, 110, 100, 60, 61, 63]
def cx_Z (zt : Nat → Nat) (A : Nat → Prop) (U : State) (H : Heap) : Prop :=
  va_Z "PromotedNumbers" "FEWEST" "[I" (.ref (zt 0)) A U H ∧ va_T .int (zt 0) 13 (fun j => .int (cx_few.getD j 0)) A U H ∧
  va_Z "PromotedNumbers" "MOST" "[I" (.ref (zt 1)) A U H ∧ va_T .int (zt 1) 13 (fun j => .int (cx_most.getD j 0)) A U H ∧
  vk_R "PromotedNumbers$Grammar" 43 "+*-/qrg^nd<=?" (zt 2) U ∧ vk_S 1 [13] [cx_ops] (fun _ => zt 2) (fun _ => zt 3) A U H ∧
  va_Z "java/lang/String" "COMPACT_STRINGS" "Z" (.int 1) A U H ∧
  va_Zq "java/lang/Throwable" "UNASSIGNED_STACK" "[Ljava/lang/StackTraceElement;" A U H ∧ va_Zq "java/lang/Throwable" "SUPPRESSED_SENTINEL" "Ljava/util/List;" A U H ∧ va_AO cx_RF U
theorem zz_moved {zt : Nat → Nat} {A : Nat → Prop} {s U : State} {H : Heap} (hW : s.WarmedH U.vm) (h : cx_Z zt A s H) : cx_Z zt A U H := by
  obtain ⟨h1, h2, h3, h4, h5, h6, h7, h8, h9, h10⟩ := h
  have hv := hW.alike
  exact ⟨h1.moved hv, h2.moved hv, h3.moved hv, h4.moved hv, h5.warm hW, h6.moved hv, h7.moved hv, h8.moved hv, h9.moved hv, h10.moved hv⟩
theorem zz_kept {zt : Nat → Nat} {A : Nat → Prop} {U : State} {H H1 : Heap} (h : cx_Z zt A U H) (hq : ∀ a : Nat, a < H.size → ¬ A a → H1[a]? = H[a]?) : cx_Z zt A U H1 := by
  obtain ⟨h1, h2, h3, h4, h5, h6, h7, h8, h9, h10⟩ := h
  exact ⟨h1.kept hq, h2.kept hq, h3.kept hq, h4.kept hq, h5, h6.kept hq, h7.kept hq, h8.kept hq, h9.kept hq, h10⟩
theorem zz_narrow {zt : Nat → Nat} {A B : Nat → Prop} {U : State} {H : Heap} (hAB : ∀ q, B q → A q) (h : cx_Z zt A U H) : cx_Z zt B U H := by
  obtain ⟨h1, h2, h3, h4, h5, h6, h7, h8, h9, h10⟩ := h
  exact ⟨h1.narrow hAB, h2.narrow hAB, h3.narrow hAB, h4.narrow hAB, h5, h6.narrow hAB, h7.narrow hAB, h8.narrow hAB, h9.narrow hAB, h10⟩
theorem zz_same {zt : Nat → Nat} {A : Nat → Prop} {u U : State} {H : Heap} (hv : u.vm = U.vm) (h : cx_Z zt A u H) : cx_Z zt A U H := by
  obtain ⟨h1, h2, h3, h4, h5, h6, h7, h8, h9, h10⟩ := h
  have hva : u.vm.Alike U.vm := hv ▸ Vm.Alike.refl u.vm
  exact ⟨h1.moved hva, h2.moved hva, h3.moved hva, h4.moved hva, h5.same hv.symm, h6.moved hva, h7.moved hva, h8.moved hva, h9.moved hva, h10.moved hva⟩
def cx_K (D : va_G) (ca : Nat → ClassId) (zt : Nat → Nat) (A : Nat → Prop) (U : State) (H : Heap) : Prop :=
  va_K D vwCl (cx_ty ca) U ∧ (∀ w ∈ go_N, va_Nw w U) ∧ cx_Z zt A U H
end
section
/-! THE PURE MACHINE, part 1: values, cells and worlds by indices; ints, longs and references as integers. -/
abbrev mv_V : Type := Int ⊕ (Int ⊕ (Option Nat ⊕ Nat))
abbrev mv_I (z : Int) : mv_V := Sum.inl z
abbrev mv_L (z : Int) : mv_V := Sum.inr (Sum.inl z)
abbrev mv_R (i : Nat) : mv_V := Sum.inr (Sum.inr (Sum.inl (some i)))
abbrev mv_N : mv_V := Sum.inr (Sum.inr (Sum.inl none))
abbrev mv_X (k : Nat) : mv_V := Sum.inr (Sum.inr (Sum.inr k))
/-- what a value is in the machine: ad are the addresses of the world's cells, zt those of a few cells outside it -/
def mv_c (zt ad : Nat → Nat) : mv_V → Value
  | .inl z => .int (Int32.ofInt z)
  | .inr (.inl z) => .long (Int64.ofInt z)
  | .inr (.inr (.inl none)) => .null
  | .inr (.inr (.inl (some i))) => .ref (ad i)
  | .inr (.inr (.inr k)) => .ref (zt k)
def mv_k : mv_V → Nat
  | .inr (.inl _) => 2
  | _ => 1
def mv_w : Option mv_V → Bool
  | some (.inr (.inl _)) => true
  | _ => false
theorem mv_cat (zt ad : Nat → Nat) (v : mv_V) : (mv_c zt ad v).category = mv_k v := by
  rcases v with z | z | (_ | i) | k <;> rfl
theorem mv_sum (zt ad : Nat → Nat) (st : List mv_V) : ((st.map (mv_c zt ad)).map fun v => v.category).sum = (st.map mv_k).sum := by
  rw [List.map_map]
  congr 1
  exact List.map_congr_left fun v _ => mv_cat zt ad v
theorem mv_k2 {v : mv_V} (h : mv_k v = 2) : mv_w (some v) = true := by
  rcases v with z | z | (_ | i) | k <;> first | rfl | (exact absurd (show (1 : Nat) = 2 from h) (by decide))
abbrev mv_E : Type := (Nat × Nat × (Nat → Int)) ⊕ ((Nat × Nat × (Nat → Option Nat)) ⊕ (Nat × List mv_V))
abbrev mv_H : Type := Nat → mv_E
/-- an array of numbers: its kind (0 int, 1 long, 2 char), its length, its contents; one of references (3); an object -/
abbrev mv_A (t n : Nat) (f : Nat → Int) : mv_E := Sum.inl (t, n, f)
abbrev mv_Q (t n : Nat) (f : Nat → Option Nat) : mv_E := Sum.inr (Sum.inl (t, n, f))
abbrev mv_O (c : Nat) (fs : List mv_V) : mv_E := Sum.inr (Sum.inr (c, fs))
def mv_a (t : Nat) (f : Nat → Int) : (Nat → Int32) ⊕ (Nat → Int64) ⊕ (Nat → UInt32) ⊕ (Nat → UInt64) ⊕ (Nat → Option Nat) :=
  match t with
  | 1 => .inr (.inl fun j => Int64.ofInt (f j))
  | _ => .inl fun j => Int32.ofInt (f j)
def mv_e (ca : Nat → ClassId) (zt ad : Nat → Nat) : mv_E → va_E
  | .inl (t, n, f) => .inl (ca t, n, mv_a t f)
  | .inr (.inl (t, n, f)) => .inl (ca t, n, .inr (.inr (.inr (.inr fun j => (f j).map ad))))
  | .inr (.inr (c, fs)) => .inr (c, fs.map (mv_c zt ad))
def mv_W (ca : Nat → ClassId) (zt ad : Nat → Nat) (h : mv_H) (n : Nat) : va_W := (List.range n).map fun i => (ad i, mv_e ca zt ad (h i))
/-! references lie within the world -/
def ok_V (n : Nat) : mv_V → Prop
  | .inr (.inr (.inl (some i))) => i < n
  | _ => True
def ok_E (n : Nat) : mv_E → Prop
  | .inl _ => True
  | .inr (.inl (_, _, f)) => ∀ j i, f j = some i → i < n
  | .inr (.inr (_, fs)) => ∀ v ∈ fs, ok_V n v
def ok_H (n : Nat) (h : mv_H) : Prop := ∀ i, i < n → ok_E n (h i)
def ok_S (n : Nat) (st : List mv_V) : Prop := ∀ v ∈ st, ok_V n v
def ok_L (n : Nat) (L : List (Option mv_V)) : Prop := ∀ (i : Nat) (v : mv_V), L[i]? = some (some v) → ok_V n v
theorem ok_V.mono {n m : Nat} {v : mv_V} (hm : n ≤ m) (h : ok_V n v) : ok_V m v := by
  rcases v with z | z | (_ | i) | k
  · exact trivial
  · exact trivial
  · exact trivial
  · exact Nat.lt_of_lt_of_le h hm
  · exact trivial
theorem ok_E.mono {n m : Nat} {x : mv_E} (hm : n ≤ m) (h : ok_E n x) : ok_E m x := by
  rcases x with ⟨t, n', f⟩ | ⟨t, n', f⟩ | ⟨c, fs⟩
  · exact trivial
  · exact fun j i hj => Nat.lt_of_lt_of_le (h j i hj) hm
  · exact fun v hv => (h v hv).mono hm
theorem ok_S.mono {n m : Nat} {st : List mv_V} (hm : n ≤ m) (h : ok_S n st) : ok_S m st := fun v hv => (h v hv).mono hm
theorem ok_L.mono {n m : Nat} {L : List (Option mv_V)} (hm : n ≤ m) (h : ok_L n L) : ok_L m L := fun i v hv => (h i v hv).mono hm
theorem ok_S.hd {n : Nat} {v : mv_V} {st : List mv_V} (h : ok_S n (v :: st)) : ok_V n v := h v List.mem_cons_self
theorem ok_S.tl {n : Nat} {v : mv_V} {st : List mv_V} (h : ok_S n (v :: st)) : ok_S n st := fun w hw => h w (List.mem_cons_of_mem _ hw)
theorem ok_S.cons {n : Nat} {v : mv_V} {st : List mv_V} (hv : ok_V n v) (h : ok_S n st) : ok_S n (v :: st) := fun w hw => by
  rcases List.mem_cons.mp hw with rfl | hw
  · exact hv
  · exact h w hw
theorem ok_S.app {n : Nat} {s1 s2 : List mv_V} (h1 : ok_S n s1) (h2 : ok_S n s2) : ok_S n (s1 ++ s2) := fun w hw => by
  rcases List.mem_append.mp hw with hw | hw
  · exact h1 w hw
  · exact h2 w hw
theorem ok_S.left {n : Nat} {s1 s2 : List mv_V} (h : ok_S n (s1 ++ s2)) : ok_S n s1 := fun w hw => h w (List.mem_append_left _ hw)
theorem ok_S.right {n : Nat} {s1 s2 : List mv_V} (h : ok_S n (s1 ++ s2)) : ok_S n s2 := fun w hw => h w (List.mem_append_right _ hw)
theorem ok_S.nil {n : Nat} : ok_S n [] := fun w hw => by cases hw
theorem ok_S.rev {n : Nat} {st : List mv_V} (h : ok_S n st.reverse) : ok_S n st := fun w hw => h w (List.mem_reverse.mpr hw)
theorem mv_c_congr {n : Nat} {zt ad ad' : Nat → Nat} {v : mv_V} (h : ok_V n v) (ha : ∀ i, i < n → ad' i = ad i) : mv_c zt ad' v = mv_c zt ad v := by
  rcases v with z | z | (_ | i) | k
  · rfl
  · rfl
  · rfl
  · show Value.ref (ad' i) = Value.ref (ad i)
    rw [ha i h]
  · rfl
theorem mv_map_congr {n : Nat} {zt ad ad' : Nat → Nat} {st : List mv_V} (h : ok_S n st) (ha : ∀ i, i < n → ad' i = ad i) : st.map (mv_c zt ad') = st.map (mv_c zt ad) :=
  List.map_congr_left fun v hv => mv_c_congr (h v hv) ha
theorem mv_e_congr {n : Nat} {ca : Nat → ClassId} {zt ad ad' : Nat → Nat} {x : mv_E} (h : ok_E n x) (ha : ∀ i, i < n → ad' i = ad i) : mv_e ca zt ad' x = mv_e ca zt ad x := by
  rcases x with ⟨t, n', f⟩ | ⟨t, n', f⟩ | ⟨c, fs⟩
  · rfl
  · show (Sum.inl (ca t, n', Sum.inr (Sum.inr (Sum.inr (Sum.inr fun j => (f j).map ad')))) : va_E) = Sum.inl (ca t, n', Sum.inr (Sum.inr (Sum.inr (Sum.inr fun j => (f j).map ad))))
    have hf : (fun j => (f j).map ad') = fun j => (f j).map ad := by
      funext j
      cases hj : f j with
      | none => rfl
      | some i => simp [ha i (h j i hj)]
    rw [hf]
  · show (Sum.inr (c, fs.map (mv_c zt ad')) : va_E) = Sum.inr (c, fs.map (mv_c zt ad))
    rw [mv_map_congr (st := fs) h ha]
theorem mv_W_at {ca : Nat → ClassId} {zt ad : Nat → Nat} {h : mv_H} {n i : Nat} (hi : i < n) : (mv_W ca zt ad h n)[i]? = some (ad i, mv_e ca zt ad (h i)) := by
  simp [mv_W, hi]
theorem mv_W_is {ca : Nat → ClassId} {zt ad : Nat → Nat} {h : mv_H} {n i : Nat} {x : mv_E} (hi : i < n) (hx : h i = x) : (mv_W ca zt ad h n)[i]? = some (ad i, mv_e ca zt ad x) := by
  rw [mv_W_at hi, hx]
theorem mv_W_lt {ca : Nat → ClassId} {zt ad : Nat → Nat} {h : mv_H} {n k : Nat} {q : Nat × va_E} (hk : (mv_W ca zt ad h n)[k]? = some q) : k < n ∧ q = (ad k, mv_e ca zt ad (h k)) := by
  have hl : k < n := by
    have := (List.getElem?_eq_some_iff.mp hk).1
    simpa [mv_W] using this
  rw [mv_W_at hl] at hk
  exact ⟨hl, (Option.some.inj hk).symm⟩
theorem mv_W_set {ca : Nat → ClassId} {zt ad : Nat → Nat} {h : mv_H} {n i : Nat} {x : mv_E} : (mv_W ca zt ad h n).set i (ad i, mv_e ca zt ad x) = mv_W ca zt ad (va_up h i x) n := by
  apply List.ext_getElem?
  intro j
  by_cases hj : j = i
  · subst hj
    by_cases hl : j < n
    · rw [mv_W_at hl, List.getElem?_set_self (by simpa [mv_W] using hl), va_up_self]
    · rw [List.getElem?_eq_none (by simpa [mv_W] using hl), List.getElem?_eq_none (by simpa [mv_W] using hl)]
  · rw [List.getElem?_set_ne (Ne.symm hj)]
    by_cases hl : j < n
    · rw [mv_W_at hl, mv_W_at hl, va_up_ne _ _ hj]
    · rw [List.getElem?_eq_none (by simpa [mv_W] using hl), List.getElem?_eq_none (by simpa [mv_W] using hl)]
theorem mv_W_push {ca : Nat → ClassId} {zt ad : Nat → Nat} {h : mv_H} {n q : Nat} {x : mv_E} {e : va_E} (oh : ok_H n h) (he : mv_e ca zt (va_up ad n q) x = e) : mv_W ca zt ad h n ++ [(q, e)] = mv_W ca zt (va_up ad n q) (va_up h n x) (n + 1) := by
  subst he
  unfold mv_W
  rw [List.range_succ, List.map_append]
  congr 1
  · apply List.map_congr_left
    intro i hi
    have hl : i < n := List.mem_range.mp hi
    have hne : i ≠ n := Nat.ne_of_lt hl
    rw [va_up_ne _ _ hne, va_up_ne _ _ hne, mv_e_congr (oh i hl) (fun j hj => va_up_ne _ _ (Nat.ne_of_lt hj))]
  · simp [va_up_self]
theorem ok_H.up {n i : Nat} {h : mv_H} {x : mv_E} (oh : ok_H n h) (ox : ok_E n x) : ok_H n (va_up h i x) := by
  intro j hj
  by_cases hji : j = i
  · subst hji
    rw [va_up_self]
    exact ox
  · rw [va_up_ne _ _ hji]
    exact oh j hj
theorem ok_H.push {n : Nat} {h : mv_H} {x : mv_E} (oh : ok_H n h) (ox : ok_E (n + 1) x) : ok_H (n + 1) (va_up h n x) := by
  intro j hj
  by_cases hji : j = n
  · subst hji
    rw [va_up_self]
    exact ox
  · rw [va_up_ne _ _ hji]
    exact (oh j (by omega)).mono (Nat.le_succ n)
/-! the locals: a list by their places; 'none' is a place that is not known -/
def mv_ls (zt ad : Nat → Nat) (ls : Array Slot) (nL : Nat) (L : List (Option mv_V)) : Prop := ls.size = nL ∧ lv_wf ls ∧ ∀ (i : Nat) (v : mv_V), L[i]? = some (some v) → ls[i]? = some (.val (mv_c zt ad v))
def mv_al (zt ad : Nat → Nat) (L : List (Option mv_V)) : List (Nat × Value) := L.zipIdx.filterMap fun q => q.1.map fun v => (q.2, mv_c zt ad v)
theorem mv_al_in {zt ad : Nat → Nat} {L : List (Option mv_V)} {i : Nat} {v : mv_V} (h : L[i]? = some (some v)) : (i, mv_c zt ad v) ∈ mv_al zt ad L :=
  List.mem_filterMap.mpr ⟨(some v, i), List.mk_mem_zipIdx_iff_getElem?.mpr h, rfl⟩
theorem mv_ls.has {zt ad : Nat → Nat} {ls : Array Slot} {nL : Nat} {L : List (Option mv_V)} (h : mv_ls zt ad ls nL L) : lv_has ls nL (mv_al zt ad L) := by
  refine ⟨h.1, h.2.1, fun q hq => ?_⟩
  obtain ⟨⟨o, i⟩, h1, h2⟩ := List.mem_filterMap.mp hq
  have h3 : L[i]? = some o := List.mk_mem_zipIdx_iff_getElem?.mp h1
  cases o with
  | none => cases h2
  | some v =>
    cases h2
    exact h.2.2 i v h3
theorem mv_ls.congr {n : Nat} {zt ad ad' : Nat → Nat} {ls : Array Slot} {nL : Nat} {L : List (Option mv_V)} (h : mv_ls zt ad ls nL L) (ol : ok_L n L) (ha : ∀ i, i < n → ad' i = ad i) : mv_ls zt ad' ls nL L :=
  ⟨h.1, h.2.1, fun i v hv => by rw [mv_c_congr (ol i v hv) ha]; exact h.2.2 i v hv⟩
def mv_kl : List (Option mv_V) → List (Option mv_V)
  | [] => []
  | _ :: L => none :: L
def mv_st : List (Option mv_V) → Nat → mv_V → List (Option mv_V)
  | [], _, _ => []
  | _ :: L, 0, v => some v :: (if mv_k v = 2 then mv_kl L else L)
  | o :: L, i + 1, v => (if i = 0 ∧ mv_w o = true then none else o) :: mv_st L i v
theorem mv_st_spec {v w : mv_V} : ∀ (L : List (Option mv_V)) (i j : Nat), (mv_st L i v)[j]? = some (some w) →
    (j = i ∧ w = v) ∨ (j ≠ i ∧ L[j]? = some (some w) ∧ ¬ (j + 1 = i ∧ mv_k w = 2) ∧ ¬ (j = i + 1 ∧ mv_k v = 2))
  | [], _, _, h => by simp [mv_st] at h
  | o :: L, 0, 0, h => by
    have h' : some (some v) = some (some w) := h
    cases h'
    exact Or.inl ⟨rfl, rfl⟩
  | o :: L, 0, j + 1, h => by
    refine Or.inr ⟨by omega, ?_⟩
    have h' : (if mv_k v = 2 then mv_kl L else L)[j]? = some (some w) := h
    by_cases hv : mv_k v = 2
    · rw [if_pos hv] at h'
      cases L with
      | nil => simp [mv_kl] at h'
      | cons o' L' =>
        cases j with
        | zero => cases h'
        | succ j' => exact ⟨h', by omega, by omega⟩
    · rw [if_neg hv] at h'
      exact ⟨h', by omega, fun q => hv q.2⟩
  | o :: L, i + 1, 0, h => by
    refine Or.inr ⟨by omega, ?_⟩
    have h' : some (if i = 0 ∧ mv_w o = true then none else o) = some (some w) := h
    by_cases hv : i = 0 ∧ mv_w o = true
    · rw [if_pos hv] at h'
      cases h'
    · rw [if_neg hv] at h'
      have ho : o = some w := Option.some.inj h'
      refine ⟨h', fun q => hv ⟨by omega, ?_⟩, by omega⟩
      rw [ho]
      exact mv_k2 q.2
  | o :: L, i + 1, j + 1, h => by
    have h' : (mv_st L i v)[j]? = some (some w) := h
    rcases mv_st_spec L i j h' with ⟨h1, h2⟩ | ⟨h1, h2, h3, h4⟩
    · exact Or.inl ⟨by omega, h2⟩
    · exact Or.inr ⟨by omega, h2, fun q => h3 ⟨by omega, q.2⟩, fun q => h4 ⟨by omega, q.2⟩⟩
theorem ok_L.st {n : Nat} {L : List (Option mv_V)} {i : Nat} {v : mv_V} (h : ok_L n L) (hv : ok_V n v) : ok_L n (mv_st L i v) := by
  intro j w hw
  rcases mv_st_spec L i j hw with ⟨-, rfl⟩ | ⟨-, h2, -⟩
  · exact hv
  · exact h j w h2
theorem mv_ls_st1 {zt ad : Nat → Nat} {ls' : Array Slot} {nL i : Nat} {L : List (Option mv_V)} {v : mv_V} (hl : lv_has ls' nL ((i, mv_c zt ad v) :: (mv_al zt ad L).filter (fun q => !(q.1 == i) && !(q.1 + 1 == i && q.2.category == 2)))) : mv_ls zt ad ls' nL (mv_st L i v) := by
  refine ⟨hl.1, hl.2.1, fun j w hw => ?_⟩
  rcases mv_st_spec L i j hw with ⟨rfl, rfl⟩ | ⟨h1, h2, h3, -⟩
  · exact hl.2.2 _ List.mem_cons_self
  · refine hl.2.2 (j, mv_c zt ad w) (List.mem_cons_of_mem _ (List.mem_filter.mpr ⟨mv_al_in h2, ?_⟩))
    have e1 : (j == i) = false := by simpa using h1
    have e2 : (j + 1 == i && (mv_c zt ad w).category == 2) = false := by
      rw [mv_cat]
      by_cases a : j + 1 = i
      · have : ¬ mv_k w = 2 := fun b => h3 ⟨a, b⟩
        simp [this]
      · simp [a]
    simp [e1, e2]
theorem mv_ls_st2 {zt ad : Nat → Nat} {ls' : Array Slot} {nL i : Nat} {L : List (Option mv_V)} {v : mv_V} (h2 : mv_k v = 2) (hl : lv_has ls' nL ((i, mv_c zt ad v) :: (mv_al zt ad L).filter (fun q => !(q.1 == i) && (!(q.1 == i + 1) && !(q.1 + 1 == i && q.2.category == 2))))) : mv_ls zt ad ls' nL (mv_st L i v) := by
  refine ⟨hl.1, hl.2.1, fun j w hw => ?_⟩
  rcases mv_st_spec L i j hw with ⟨rfl, rfl⟩ | ⟨h1, h2', h3, h4⟩
  · exact hl.2.2 _ List.mem_cons_self
  · refine hl.2.2 (j, mv_c zt ad w) (List.mem_cons_of_mem _ (List.mem_filter.mpr ⟨mv_al_in h2', ?_⟩))
    have e1 : (j == i) = false := by simpa using h1
    have e3 : (j == i + 1) = false := by
      have : ¬ j = i + 1 := fun a => h4 ⟨a, h2⟩
      simpa using this
    have e2 : (j + 1 == i && (mv_c zt ad w).category == 2) = false := by
      rw [mv_cat]
      by_cases a : j + 1 = i
      · have : ¬ mv_k w = 2 := fun b => h3 ⟨a, b⟩
        simp [this]
      · simp [a]
    simp [e1, e2, e3]
/-! the locals with which a method begins -/
def mv_sl : List mv_V → List (Option mv_V)
  | [] => []
  | v :: vs => if mv_k v = 2 then some v :: none :: mv_sl vs else some v :: mv_sl vs
def mv_en (vs : List mv_V) (n : Nat) : List (Option mv_V) := mv_sl vs ++ List.replicate (n - (mv_sl vs).length) none
theorem mv_sl_len (zt ad : Nat → Nat) : ∀ vs : List mv_V, (lg_sl (vs.map (mv_c zt ad))).length = (mv_sl vs).length
  | [] => rfl
  | v :: vs => by
    have ih := mv_sl_len zt ad vs
    unfold lg_sl at ih ⊢
    rw [List.map_cons, List.flatMap_cons, List.length_append, ih, mv_cat, show mv_sl (v :: vs) = if mv_k v = 2 then some v :: none :: mv_sl vs else some v :: mv_sl vs from rfl]
    by_cases hv : mv_k v = 2
    · rw [if_pos hv, if_pos hv]
      simp only [List.length_cons, List.length_nil]
      omega
    · rw [if_neg hv, if_neg hv]
      simp only [List.length_cons, List.length_nil]
      omega
theorem mv_sl_at {zt ad : Nat → Nat} {w : mv_V} : ∀ (vs : List mv_V) (k i : Nat), (mv_sl vs)[i]? = some (some w) → (k + i, mv_c zt ad w) ∈ lv_args k (vs.map (mv_c zt ad))
  | [], _, _, h => by simp [mv_sl] at h
  | v :: vs, k, i, h => by
    unfold mv_sl at h
    rw [List.map_cons]
    unfold lv_args
    rw [mv_cat]
    by_cases hv : mv_k v = 2
    · rw [if_pos hv] at h ⊢
      match i, h with
      | 0, h => cases h; exact List.mem_cons_self
      | 1, h => cases h
      | i + 2, h =>
        have h' : (mv_sl vs)[i]? = some (some w) := h
        have := mv_sl_at (zt := zt) (ad := ad) vs (k + 2) i h'
        rw [show k + (i + 2) = k + 2 + i by omega]
        exact List.mem_cons_of_mem _ this
    · rw [if_neg hv] at h ⊢
      match i, h with
      | 0, h => cases h; exact List.mem_cons_self
      | i + 1, h =>
        have h' : (mv_sl vs)[i]? = some (some w) := h
        have := mv_sl_at (zt := zt) (ad := ad) vs (k + 1) i h'
        rw [show k + (i + 1) = k + 1 + i by omega]
        exact List.mem_cons_of_mem _ this
theorem mv_en_at {vs : List mv_V} {n i : Nat} {w : mv_V} (h : (mv_en vs n)[i]? = some (some w)) : (mv_sl vs)[i]? = some (some w) := by
  unfold mv_en at h
  by_cases hl : i < (mv_sl vs).length
  · rwa [List.getElem?_append_left hl] at h
  · rw [List.getElem?_append_right (by omega), List.getElem?_replicate] at h
    split at h
    · cases h
    · cases h
theorem mv_sl_in {w : mv_V} : ∀ (vs : List mv_V) (i : Nat), (mv_sl vs)[i]? = some (some w) → w ∈ vs
  | [], _, h => by simp [mv_sl] at h
  | v :: vs, i, h => by
    unfold mv_sl at h
    by_cases hv : mv_k v = 2
    · rw [if_pos hv] at h
      match i, h with
      | 0, h => cases h; exact List.mem_cons_self
      | 1, h => cases h
      | i + 2, h => exact List.mem_cons_of_mem _ (mv_sl_in vs i h)
    · rw [if_neg hv] at h
      match i, h with
      | 0, h => cases h; exact List.mem_cons_self
      | i + 1, h => exact List.mem_cons_of_mem _ (mv_sl_in vs i h)
theorem mv_ls_en {zt ad : Nat → Nat} {vs : List mv_V} {n : Nat} {ls : Array Slot} (h : lv_has ls n (lv_args 0 (vs.map (mv_c zt ad)))) : mv_ls zt ad ls n (mv_en vs n) :=
  ⟨h.1, h.2.1, fun i v hv => h.2.2 (i, mv_c zt ad v) (by have := mv_sl_at (zt := zt) (ad := ad) vs 0 i (mv_en_at hv); rwa [Nat.zero_add] at this)⟩
theorem ok_L_en {vs : List mv_V} {n k : Nat} (h : ok_S k vs) : ok_L k (mv_en vs n) := fun i v hv => h v (mv_sl_in vs i (mv_en_at hv))
end
section
/-! machine numbers and integers -/
abbrev g3_2 (a : Int) : Prop := -2147483648 ≤ a ∧ a ≤ 2147483647
theorem gn_ti {a : Int} (ha : -2147483648 ≤ a ∧ a ≤ 2147483647) : (Int32.ofInt a).toInt = a := Int32.toInt_ofInt_of_le (by omega) (by omega)
theorem gn_ti64 {a : Int} (ha : -9223372036854775808 ≤ a ∧ a ≤ 9223372036854775807) : (Int64.ofInt a).toInt = a := Int64.toInt_ofInt_of_le (by omega) (by omega)
theorem gn_eq {a b : Int} (ha : -2147483648 ≤ a ∧ a ≤ 2147483647) (hb : -2147483648 ≤ b ∧ b ≤ 2147483647) : Int32.ofInt a = Int32.ofInt b ↔ a = b := by
  rw [← Int32.toInt_inj, gn_ti ha, gn_ti hb]
theorem gn_lt {a b : Int} (ha : -2147483648 ≤ a ∧ a ≤ 2147483647) (hb : -2147483648 ≤ b ∧ b ≤ 2147483647) : Int32.ofInt a < Int32.ofInt b ↔ a < b := by
  rw [Int32.lt_iff_toInt_lt, gn_ti ha, gn_ti hb]
theorem gn_le {a b : Int} (ha : -2147483648 ≤ a ∧ a ≤ 2147483647) (hb : -2147483648 ≤ b ∧ b ≤ 2147483647) : Int32.ofInt a ≤ Int32.ofInt b ↔ a ≤ b := by
  rw [Int32.le_iff_toInt_le, gn_ti ha, gn_ti hb]
theorem gn_eq0 {a : Int} (ha : -2147483648 ≤ a ∧ a ≤ 2147483647) : Int32.ofInt a = 0 ↔ a = 0 := by
  rw [← Int32.toInt_inj, gn_ti ha]
  simp
theorem gn_lt0 {a : Int} (ha : -2147483648 ≤ a ∧ a ≤ 2147483647) : Int32.ofInt a < 0 ↔ a < 0 := by
  rw [Int32.lt_iff_toInt_lt, gn_ti ha]
  simp
theorem gn_ge0 {a : Int} (ha : -2147483648 ≤ a ∧ a ≤ 2147483647) : 0 ≤ Int32.ofInt a ↔ 0 ≤ a := by
  rw [Int32.le_iff_toInt_le, gn_ti ha]
  simp
theorem gn_gt0 {a : Int} (ha : -2147483648 ≤ a ∧ a ≤ 2147483647) : 0 < Int32.ofInt a ↔ 0 < a := by
  rw [Int32.lt_iff_toInt_lt, gn_ti ha]
  simp
theorem gn_le0 {a : Int} (ha : -2147483648 ≤ a ∧ a ≤ 2147483647) : Int32.ofInt a ≤ 0 ↔ a ≤ 0 := by
  rw [Int32.le_iff_toInt_le, gn_ti ha]
  simp
theorem gn_nI (k : Nat) : Int32.ofInt (k : Int) = nI k := Int32.ofInt_eq_ofNat
theorem gn_lN (k : Nat) : Int64.ofInt (k : Int) = lN k := Int64.ofInt_eq_ofNat
theorem gn_in {a : Int} {k N : Nat} (ha : a = (k : Int)) (hk : k < N) (hN : N < 2147483648) : vp_in (Int32.ofInt a) N ∧ (Int32.ofInt a).toNatClampNeg = k := by
  subst ha
  rw [gn_nI]
  exact ⟨vp_in_nI hk (by omega), nI_clamp (by omega)⟩
theorem gn_i2c {a : Int} (ha : 0 ≤ a ∧ a ≤ 65535) : ((Int32.ofInt a).toUInt32 % 65536).toInt32 = Int32.ofInt a := by
  obtain ⟨k, rfl⟩ := Int.eq_ofNat_of_zero_le ha.1
  rw [gn_nI, pk_char, pk_tn (by omega), Nat.mod_eq_of_lt (by omega)]
theorem gn_lcmp {a b : Int} (ha : -9223372036854775808 ≤ a ∧ a ≤ 9223372036854775807) (hb : -9223372036854775808 ≤ b ∧ b ≤ 9223372036854775807) : lg_cmp (Int64.ofInt a) (Int64.ofInt b) = Int32.ofInt (if b < a then 1 else if a = b then 0 else -1) := by
  unfold lg_cmp
  simp only [gt_iff_lt, Int64.lt_iff_toInt_lt, ← Int64.toInt_inj, gn_ti64 ha, gn_ti64 hb]
  by_cases h1 : b < a
  · rw [if_pos h1, if_pos h1]; rfl
  · rw [if_neg h1, if_neg h1]
    by_cases h2 : a = b
    · rw [if_pos h2, if_pos h2]; rfl
    · rw [if_neg h2, if_neg h2]; rfl
theorem gn_ne0 {b : Int} (h : 0 < b ∧ b ≤ 2147483647) : ¬ Int32.ofInt b = 0 := fun z => by
  have := (gn_eq0 ⟨by omega, h.2⟩).mp z
  omega
theorem gn_ne0L {b : Int} (h : 0 < b ∧ b ≤ 9223372036854775807) : ¬ Int64.ofInt b = 0 := fun z => by
  have h1 : (Int64.ofInt b).toInt = b := gn_ti64 ⟨by omega, h.2⟩
  rw [z] at h1
  have h2 : (0 : Int64).toInt = 0 := by decide
  omega
/-- '/' and '%' of numbers that aren't negative -/
theorem gn_div {a b : Int} (ha : 0 ≤ a ∧ a ≤ 2147483647) (hb : 0 < b ∧ b ≤ 2147483647) : Int32.ofInt a / Int32.ofInt b = Int32.ofInt (a / b) := by
  obtain ⟨x, rfl⟩ := Int.eq_ofNat_of_zero_le ha.1
  obtain ⟨y, rfl⟩ := Int.eq_ofNat_of_zero_le (Int.le_of_lt hb.1)
  rw [gn_nI, gn_nI, pk_div (by omega) (by omega) (by omega), ← Int.natCast_ediv, gn_nI]
theorem gn_rem {a b : Int} (ha : 0 ≤ a ∧ a ≤ 2147483647) (hb : 0 < b ∧ b ≤ 2147483647) : Int32.ofInt a - Int32.ofInt a / Int32.ofInt b * Int32.ofInt b = Int32.ofInt (a % b) := by
  obtain ⟨x, rfl⟩ := Int.eq_ofNat_of_zero_le ha.1
  obtain ⟨y, rfl⟩ := Int.eq_ofNat_of_zero_le (Int.le_of_lt hb.1)
  rw [gn_nI, gn_nI, pk_rem (by omega) (by omega) (by omega), ← Int.natCast_emod, gn_nI]
theorem gn_divL {a b : Int} (ha : 0 ≤ a ∧ a ≤ 9223372036854775807) (hb : 0 < b ∧ b ≤ 9223372036854775807) : Int64.ofInt a / Int64.ofInt b = Int64.ofInt (a / b) := by
  obtain ⟨x, rfl⟩ := Int.eq_ofNat_of_zero_le ha.1
  obtain ⟨y, rfl⟩ := Int.eq_ofNat_of_zero_le (Int.le_of_lt hb.1)
  rw [gn_lN, gn_lN, pk_lDiv (by omega) (by omega) (by omega), ← Int.natCast_ediv, gn_lN]
theorem gn_remL {a b : Int} (ha : 0 ≤ a ∧ a ≤ 9223372036854775807) (hb : 0 < b ∧ b ≤ 9223372036854775807) : Int64.ofInt a - Int64.ofInt a / Int64.ofInt b * Int64.ofInt b = Int64.ofInt (a % b) := by
  obtain ⟨x, rfl⟩ := Int.eq_ofNat_of_zero_le ha.1
  obtain ⟨y, rfl⟩ := Int.eq_ofNat_of_zero_le (Int.le_of_lt hb.1)
  rw [gn_lN, gn_lN, pk_lRem (by omega) (by omega) (by omega), ← Int.natCast_emod, gn_lN]
theorem gn_char {x : Int} (hx : 0 ≤ x ∧ x ≤ 65535) : vp_nar .char (Int32.ofInt x) = Int32.ofInt x := by
  obtain ⟨k, rfl⟩ := Int.eq_ofNat_of_zero_le hx.1
  unfold vp_nar
  rw [gn_nI, (pk_charN (q := k) (by omega)).1]
end
section
/-! THE PURE MACHINE, part 2: the judgement 'Go' (from here the method comes to its end), and a rule for each instruction. -/
abbrev go_M : Type := MethodName × ByteArray × Nat × Option FieldType
abbrev go_F : Type := List Frame → Array Value → State → (Nat → Prop) → va_G → (Nat → ClassId) → (Nat → Nat) → Nat → (Nat → Nat) → State → Prop
def go_rm (d w mc ms : Nat) : Room := { frames := d, cells := mc, slots := ms, locals := w }
/-- what holds in a method's whole walk -/
def go_C (M : go_M) (p : Program) (s : State) (m : MethodId) (args : Array Value) (meth : Method) (c : Code) (D : va_G) (ca : Nat → ClassId) (zt : Nat → Nat) (A : Nat → Prop) : Prop :=
  p.tables.exec = Jvm.exec ∧ c.code = M.2.1 ∧ c.maxLocals = M.2.2.1 ∧ meth.sig.returnType = M.2.2.2 ∧ meth.locks = false ∧ meth.name = M.1.name ∧ s.vm.findClass M.1.cls = some m.cls ∧ (∀ w ∈ go_T, w.before args s = true) ∧ cx_K D ca zt A s s.heap ∧ ∀ q, s.heap.size ≤ q → A q
/-- from pc, with locals L, stack st, the world of n cells h, and u cells and slots made, the walk ends as φ says -/
def Go (φ : go_F) (l : Launch) (M : go_M) (R : Room) (u : Nat × Nat) (pc : Nat) (L : List (Option mv_V)) (st : List mv_V) (h : mv_H) (n : Nat) : Prop :=
  ∀ (p : Program) (e : Env) (s : State) (m : MethodId) (args : Array Value) (below : List Frame) (meth : Method) (c : Code) (D : va_G) (ca : Nat → ClassId) (zt : Nat → Nat) (A : Nat → Prop) (n0 : Nat) (ad0 : Nat → Nat), go_C M p s m args meth c D ca zt A →
  ∀ (H : Heap) (locs : List Loc) (ls : Array Slot) (ad : Nat → Nat), va_S A s.heap H locs → va_P D vwCl (mv_W ca zt ad h n) H → va_D A (mv_W ca zt ad h n) → mv_ls zt ad ls M.2.2.1 L → n0 ≤ n → (∀ i, i < n0 → ad i = ad0 i) → ok_H n h → ok_L n L → ok_S n st →
  W p l e R s m args below meth c H locs u.1 u.2 (φ below args s A D ca zt n0 ad0) (F0 m pc ls (st.map (mv_c zt ad)))
section GoRules
variable {φ : go_F} {l : Launch} {M : go_M} {R : Room} {u : Nat × Nat} {pc q : Nat} {L L' : List (Option mv_V)} {st : List mv_V} {h : mv_H} {n : Nat}
/-- the state may be written otherwise -/
theorem go_eq {pc' : Nat} {st' : List mv_V} {h' : mv_H} {u' : Nat × Nat} (k : Go φ l M R u' pc' L' st' h' n) (e1 : pc' = pc := by rfl) (e2 : L' = L := by rfl) (e3 : st' = st := by rfl) (e4 : h' = h := by rfl) (e5 : u' = u := by rfl) : Go φ l M R u pc L st h n := by
  subst e1; subst e2; subst e3; subst e4; subst e5; exact k
/-- an instruction that turns the stack's top xs into ys -/
theorem go_pure {xs ys : List mv_V} (hok : ok_S n xs → ok_S n ys)
    (row : ∀ (p : Program) (e : Env) (s : State) (m : MethodId) (args : Array Value) (below : List Frame) (meth : Method) (c : Code) (H : Heap) (locs : List Loc) (Q : State → Prop) (ls : Array Slot) (zt ad : Nat → Nat) (rest : List Value) (cells slots : Nat), p.tables.exec = Jvm.exec → c.code = M.2.1 →
      W p l e R s m args below meth c H locs cells slots Q (F0 m q ls (ys.map (mv_c zt ad) ++ rest)) → W p l e R s m args below meth c H locs cells slots Q (F0 m pc ls (xs.map (mv_c zt ad) ++ rest)))
    (k : Go φ l M R u q L (ys ++ st) h n) : Go φ l M R u pc L (xs ++ st) h n := by
  intro p e s m args below meth c D ca zt A n0 ad0 C H locs ls ad hS hP hD hl hn ha oh ol os
  rw [List.map_append]
  refine row p e s m args below meth c H locs _ ls zt ad _ _ _ C.1 C.2.1 ?_
  rw [← List.map_append]
  exact k p e s m args below meth c D ca zt A n0 ad0 C H locs ls ad hS hP hD hl hn ha oh ol (ok_S.app (hok os.left) os.right)
theorem go_okI {z : Int} : ok_S n [mv_I z] := ok_S.cons trivial ok_S.nil
theorem go_okL {z : Int} : ok_S n [mv_L z] := ok_S.cons trivial ok_S.nil
theorem go_iconst {z : Int} (hd : decode M.2.1 pc = .ok (.iconst z, 1)) (hp : pc + 1 = q) (k : Go φ l M R u q L (mv_I z :: st) h n) : Go φ l M R u pc L st h n := by
  subst hp
  exact go_pure (xs := []) (ys := [mv_I z]) (fun _ => go_okI) (fun p e s m args below meth c H locs Q ls zt ad rest _ _ hx hb k => lv_iconst hx hb hd rfl k) k
theorem go_bipush {z : Int} (hd : decode M.2.1 pc = .ok (.bipush z, 2)) (hp : pc + 2 = q) (hz : (Int8.ofInt z).toInt32 = Int32.ofInt z) (k : Go φ l M R u q L (mv_I z :: st) h n) : Go φ l M R u pc L st h n := by
  subst hp
  exact go_pure (xs := []) (ys := [mv_I z]) (fun _ => go_okI) (fun p e s m args below meth c H locs Q ls zt ad rest _ _ hx hb k => lv_bipush hx hb hd hz k) k
theorem go_sipush {z : Int} (hd : decode M.2.1 pc = .ok (.sipush z, 3)) (hp : pc + 3 = q) (hz : (Int16.ofInt z).toInt32 = Int32.ofInt z) (k : Go φ l M R u q L (mv_I z :: st) h n) : Go φ l M R u pc L st h n := by
  subst hp
  exact go_pure (xs := []) (ys := [mv_I z]) (fun _ => go_okI) (fun p e s m args below meth c H locs Q ls zt ad rest _ _ hx hb k => lv_sipush hx hb hd hz k) k
theorem go_lconst {i : Fin 2} {z : Int} (hd : decode M.2.1 pc = .ok (.lconst i, 1)) (hp : pc + 1 = q) (hz : Int64.ofNat (i : Nat) = Int64.ofInt z) (k : Go φ l M R u q L (mv_L z :: st) h n) : Go φ l M R u pc L st h n := by
  subst hp
  exact go_pure (xs := []) (ys := [mv_L z]) (fun _ => go_okL) (fun p e s m args below meth c H locs Q ls zt ad rest _ _ hx hb k => lv_lconst hx hb hd hz k) k
theorem go_null (hd : decode M.2.1 pc = .ok (.aconst_null, 1)) (hp : pc + 1 = q) (k : Go φ l M R u q L (mv_N :: st) h n) : Go φ l M R u pc L st h n := by
  subst hp
  exact go_pure (xs := []) (ys := [mv_N]) (fun _ => ok_S.cons trivial ok_S.nil) (fun p e s m args below meth c H locs Q ls zt ad rest _ _ hx hb k => lv_null hx hb hd k) k
theorem go_ldc {i : Nat} {z : Int} {x : Int32} (hd : decode M.2.1 pc = .ok (.ldc i, 2)) (hp : pc + 2 = q) (hw : Cond.constant M.1.cls i x ∈ go_T) (hz : x = Int32.ofInt z) (k : Go φ l M R u q L (mv_I z :: st) h n) : Go φ l M R u pc L st h n := by
  subst hp
  intro p e s m args below meth c D ca zt A n0 ad0 C H locs ls ad hS hP hD hl hn ha oh ol os
  refine lv_ldc C.1 C.2.1 C.2.2.2.2.2.2.1 (C.2.2.2.2.2.2.2.1 _ hw) hd ?_
  rw [hz]
  exact k p e s m args below meth c D ca zt A n0 ad0 C H locs ls ad hS hP hD hl hn ha oh ol (ok_S.cons trivial os)
theorem go_ldc2 {i : Nat} {z : Int} {x : Int64} (hd : decode M.2.1 pc = .ok (.ldc2_w i, 3)) (hp : pc + 3 = q) (hw : Cond.constantLong M.1.cls i x ∈ go_T) (hz : x = Int64.ofInt z) (k : Go φ l M R u q L (mv_L z :: st) h n) : Go φ l M R u pc L st h n := by
  subst hp
  intro p e s m args below meth c D ca zt A n0 ad0 C H locs ls ad hS hP hD hl hn ha oh ol os
  refine lv_ldc2 C.1 C.2.1 C.2.2.2.2.2.2.1 (C.2.2.2.2.2.2.2.1 _ hw) hd ?_
  rw [hz]
  exact k p e s m args below meth c D ca zt A n0 ad0 C H locs ls ad hS hP hD hl hn ha oh ol (ok_S.cons trivial os)
theorem go_iload_n {j : Fin 4} {i : Nat} {z : Int} (hd : decode M.2.1 pc = .ok (.iload_n j, 1)) (hi : (j : Nat) = i) (hp : pc + 1 = q) (hL : L[i]? = some (some (mv_I z))) (k : Go φ l M R u q L (mv_I z :: st) h n) : Go φ l M R u pc L st h n := by
  subst hp
  intro p e s m args below meth c D ca zt A n0 ad0 C H locs ls ad hS hP hD hl hn ha oh ol os
  refine lv_iload_n C.1 C.2.1 hd hi (hl.2.2 _ _ hL) ?_
  exact k p e s m args below meth c D ca zt A n0 ad0 C H locs ls ad hS hP hD hl hn ha oh ol (ok_S.cons (ol _ _ hL) os)
theorem go_lload_n {j : Fin 4} {i : Nat} {z : Int} (hd : decode M.2.1 pc = .ok (.lload_n j, 1)) (hi : (j : Nat) = i) (hp : pc + 1 = q) (hL : L[i]? = some (some (mv_L z))) (k : Go φ l M R u q L (mv_L z :: st) h n) : Go φ l M R u pc L st h n := by
  subst hp
  intro p e s m args below meth c D ca zt A n0 ad0 C H locs ls ad hS hP hD hl hn ha oh ol os
  refine lv_lload_n C.1 C.2.1 hd hi (hl.2.2 _ _ hL) ?_
  exact k p e s m args below meth c D ca zt A n0 ad0 C H locs ls ad hS hP hD hl hn ha oh ol (ok_S.cons (ol _ _ hL) os)
theorem go_aload_n {j : Fin 4} {i : Nat} {r : Nat} (hd : decode M.2.1 pc = .ok (.aload_n j, 1)) (hi : (j : Nat) = i) (hp : pc + 1 = q) (hL : L[i]? = some (some (mv_R r))) (k : Go φ l M R u q L (mv_R r :: st) h n) : Go φ l M R u pc L st h n := by
  subst hp
  intro p e s m args below meth c D ca zt A n0 ad0 C H locs ls ad hS hP hD hl hn ha oh ol os
  refine lv_aload_n C.1 C.2.1 hd hi (hl.2.2 _ _ hL) ?_
  exact k p e s m args below meth c D ca zt A n0 ad0 C H locs ls ad hS hP hD hl hn ha oh ol (ok_S.cons (ol _ _ hL) os)
theorem go_aload_nX {j : Fin 4} {i : Nat} {r : Nat} (hd : decode M.2.1 pc = .ok (.aload_n j, 1)) (hi : (j : Nat) = i) (hp : pc + 1 = q) (hL : L[i]? = some (some (mv_X r))) (k : Go φ l M R u q L (mv_X r :: st) h n) : Go φ l M R u pc L st h n := by
  subst hp
  intro p e s m args below meth c D ca zt A n0 ad0 C H locs ls ad hS hP hD hl hn ha oh ol os
  refine lv_aload_n C.1 C.2.1 hd hi (hl.2.2 _ _ hL) ?_
  exact k p e s m args below meth c D ca zt A n0 ad0 C H locs ls ad hS hP hD hl hn ha oh ol (ok_S.cons (ol _ _ hL) os)
theorem go_aload_nN {j : Fin 4} {i : Nat}  (hd : decode M.2.1 pc = .ok (.aload_n j, 1)) (hi : (j : Nat) = i) (hp : pc + 1 = q) (hL : L[i]? = some (some (mv_N))) (k : Go φ l M R u q L (mv_N :: st) h n) : Go φ l M R u pc L st h n := by
  subst hp
  intro p e s m args below meth c D ca zt A n0 ad0 C H locs ls ad hS hP hD hl hn ha oh ol os
  refine lv_aload_nN C.1 C.2.1 hd hi (hl.2.2 _ _ hL) ?_
  exact k p e s m args below meth c D ca zt A n0 ad0 C H locs ls ad hS hP hD hl hn ha oh ol (ok_S.cons (ol _ _ hL) os)
theorem go_iload {i : Nat} {z : Int} (hd : decode M.2.1 pc = .ok (.iload i, 2)) (hp : pc + 2 = q) (hL : L[i]? = some (some (mv_I z))) (k : Go φ l M R u q L (mv_I z :: st) h n) : Go φ l M R u pc L st h n := by
  subst hp
  intro p e s m args below meth c D ca zt A n0 ad0 C H locs ls ad hS hP hD hl hn ha oh ol os
  refine lv_iload C.1 C.2.1 hd (hl.2.2 _ _ hL) ?_
  exact k p e s m args below meth c D ca zt A n0 ad0 C H locs ls ad hS hP hD hl hn ha oh ol (ok_S.cons (ol _ _ hL) os)
theorem go_lload {i : Nat} {z : Int} (hd : decode M.2.1 pc = .ok (.lload i, 2)) (hp : pc + 2 = q) (hL : L[i]? = some (some (mv_L z))) (k : Go φ l M R u q L (mv_L z :: st) h n) : Go φ l M R u pc L st h n := by
  subst hp
  intro p e s m args below meth c D ca zt A n0 ad0 C H locs ls ad hS hP hD hl hn ha oh ol os
  refine lv_lload C.1 C.2.1 hd (hl.2.2 _ _ hL) ?_
  exact k p e s m args below meth c D ca zt A n0 ad0 C H locs ls ad hS hP hD hl hn ha oh ol (ok_S.cons (ol _ _ hL) os)
theorem go_aload {i : Nat} {r : Nat} (hd : decode M.2.1 pc = .ok (.aload i, 2)) (hp : pc + 2 = q) (hL : L[i]? = some (some (mv_R r))) (k : Go φ l M R u q L (mv_R r :: st) h n) : Go φ l M R u pc L st h n := by
  subst hp
  intro p e s m args below meth c D ca zt A n0 ad0 C H locs ls ad hS hP hD hl hn ha oh ol os
  refine lv_aload C.1 C.2.1 hd (hl.2.2 _ _ hL) ?_
  exact k p e s m args below meth c D ca zt A n0 ad0 C H locs ls ad hS hP hD hl hn ha oh ol (ok_S.cons (ol _ _ hL) os)
theorem go_aloadX {i : Nat} {r : Nat} (hd : decode M.2.1 pc = .ok (.aload i, 2)) (hp : pc + 2 = q) (hL : L[i]? = some (some (mv_X r))) (k : Go φ l M R u q L (mv_X r :: st) h n) : Go φ l M R u pc L st h n := by
  subst hp
  intro p e s m args below meth c D ca zt A n0 ad0 C H locs ls ad hS hP hD hl hn ha oh ol os
  refine lv_aload C.1 C.2.1 hd (hl.2.2 _ _ hL) ?_
  exact k p e s m args below meth c D ca zt A n0 ad0 C H locs ls ad hS hP hD hl hn ha oh ol (ok_S.cons (ol _ _ hL) os)
theorem go_aloadN {i : Nat}  (hd : decode M.2.1 pc = .ok (.aload i, 2)) (hp : pc + 2 = q) (hL : L[i]? = some (some (mv_N))) (k : Go φ l M R u q L (mv_N :: st) h n) : Go φ l M R u pc L st h n := by
  subst hp
  intro p e s m args below meth c D ca zt A n0 ad0 C H locs ls ad hS hP hD hl hn ha oh ol os
  refine lv_aloadN C.1 C.2.1 hd (hl.2.2 _ _ hL) ?_
  exact k p e s m args below meth c D ca zt A n0 ad0 C H locs ls ad hS hP hD hl hn ha oh ol (ok_S.cons (ol _ _ hL) os)
theorem go_istore_n {j : Fin 4} {i : Nat} {z : Int} (hd : decode M.2.1 pc = .ok (.istore_n j, 1)) (hi : (j : Nat) = i) (hp : pc + 1 = q) (hn0 : i < M.2.2.1) (hL : mv_st L i (mv_I z) = L') (k : Go φ l M R u q L' st h n) : Go φ l M R u pc L (mv_I z :: st) h n := by
  subst hp
  subst hL
  intro p e s m args below meth c D ca zt A n0 ad0 C H locs ls ad hS hP hD hl hn ha oh ol os
  refine lv_istore_n C.1 C.2.1 hd hi hl.has hn0 rfl (fun ls' hl' => ?_)
  exact k p e s m args below meth c D ca zt A n0 ad0 C H locs ls' ad hS hP hD (mv_ls_st1 (v := mv_I z) hl') hn ha oh (ol.st os.hd) os.tl
theorem go_lstore_n {j : Fin 4} {i : Nat} {z : Int} (hd : decode M.2.1 pc = .ok (.lstore_n j, 1)) (hi : (j : Nat) = i) (hp : pc + 1 = q) (hn0 : i + 1 < M.2.2.1) (hL : mv_st L i (mv_L z) = L') (k : Go φ l M R u q L' st h n) : Go φ l M R u pc L (mv_L z :: st) h n := by
  subst hp
  subst hL
  intro p e s m args below meth c D ca zt A n0 ad0 C H locs ls ad hS hP hD hl hn ha oh ol os
  refine lv_lstore_n C.1 C.2.1 hd hi hl.has hn0 rfl (fun ls' hl' => ?_)
  exact k p e s m args below meth c D ca zt A n0 ad0 C H locs ls' ad hS hP hD (mv_ls_st2 rfl (v := mv_L z) hl') hn ha oh (ol.st os.hd) os.tl
theorem go_astore_n {j : Fin 4} {i : Nat} {r : Nat} (hd : decode M.2.1 pc = .ok (.astore_n j, 1)) (hi : (j : Nat) = i) (hp : pc + 1 = q) (hn0 : i < M.2.2.1) (hL : mv_st L i (mv_R r) = L') (k : Go φ l M R u q L' st h n) : Go φ l M R u pc L (mv_R r :: st) h n := by
  subst hp
  subst hL
  intro p e s m args below meth c D ca zt A n0 ad0 C H locs ls ad hS hP hD hl hn ha oh ol os
  refine lv_astore_n C.1 C.2.1 hd hi hl.has hn0 rfl (fun ls' hl' => ?_)
  exact k p e s m args below meth c D ca zt A n0 ad0 C H locs ls' ad hS hP hD (mv_ls_st1 (v := mv_R r) hl') hn ha oh (ol.st os.hd) os.tl
theorem go_istore {i : Nat} {z : Int} (hd : decode M.2.1 pc = .ok (.istore i, 2)) (hp : pc + 2 = q) (hn0 : i < M.2.2.1) (hL : mv_st L i (mv_I z) = L') (k : Go φ l M R u q L' st h n) : Go φ l M R u pc L (mv_I z :: st) h n := by
  subst hp
  subst hL
  intro p e s m args below meth c D ca zt A n0 ad0 C H locs ls ad hS hP hD hl hn ha oh ol os
  refine lv_istore C.1 C.2.1 hd hl.has hn0 rfl (fun ls' hl' => ?_)
  exact k p e s m args below meth c D ca zt A n0 ad0 C H locs ls' ad hS hP hD (mv_ls_st1 (v := mv_I z) hl') hn ha oh (ol.st os.hd) os.tl
theorem go_lstore {i : Nat} {z : Int} (hd : decode M.2.1 pc = .ok (.lstore i, 2)) (hp : pc + 2 = q) (hn0 : i + 1 < M.2.2.1) (hL : mv_st L i (mv_L z) = L') (k : Go φ l M R u q L' st h n) : Go φ l M R u pc L (mv_L z :: st) h n := by
  subst hp
  subst hL
  intro p e s m args below meth c D ca zt A n0 ad0 C H locs ls ad hS hP hD hl hn ha oh ol os
  refine lv_lstore C.1 C.2.1 hd hl.has hn0 rfl (fun ls' hl' => ?_)
  exact k p e s m args below meth c D ca zt A n0 ad0 C H locs ls' ad hS hP hD (mv_ls_st2 rfl (v := mv_L z) hl') hn ha oh (ol.st os.hd) os.tl
theorem go_astore {i : Nat} {r : Nat} (hd : decode M.2.1 pc = .ok (.astore i, 2)) (hp : pc + 2 = q) (hn0 : i < M.2.2.1) (hL : mv_st L i (mv_R r) = L') (k : Go φ l M R u q L' st h n) : Go φ l M R u pc L (mv_R r :: st) h n := by
  subst hp
  subst hL
  intro p e s m args below meth c D ca zt A n0 ad0 C H locs ls ad hS hP hD hl hn ha oh ol os
  refine lv_astore C.1 C.2.1 hd hl.has hn0 rfl (fun ls' hl' => ?_)
  exact k p e s m args below meth c D ca zt A n0 ad0 C H locs ls' ad hS hP hD (mv_ls_st1 (v := mv_R r) hl') hn ha oh (ol.st os.hd) os.tl
theorem go_iinc {i : Nat} {d z : Int} (hd : decode M.2.1 pc = .ok (.iinc i d, 3)) (hp : pc + 3 = q) (hn0 : i < M.2.2.1) (hv : L[i]? = some (some (mv_I z))) (hL : mv_st L i (mv_I (z + d)) = L') (k : Go φ l M R u q L' st h n) : Go φ l M R u pc L st h n := by
  subst hp
  subst hL
  intro p e s m args below meth c D ca zt A n0 ad0 C H locs ls ad hS hP hD hl hn ha oh ol os
  obtain ⟨kk, hkk⟩ := List.getElem?_of_mem (mv_al_in (zt := zt) (ad := ad) hv)
  refine lv_iinc (v := Int32.ofInt (z + d)) C.1 C.2.1 hd hl.has hkk (Int32.ofInt_add z d).symm hn0 rfl (fun ls' hl' => ?_)
  exact k p e s m args below meth c D ca zt A n0 ad0 C H locs ls' ad hS hP hD (mv_ls_st1 (v := mv_I (z + d)) hl') hn ha oh (ol.st trivial) os
theorem go_iadd {a b : Int} (hd : decode M.2.1 pc = .ok (.iadd, 1)) (hp : pc + 1 = q) (k : Go φ l M R u q L (mv_I (a + b) :: st) h n) : Go φ l M R u pc L (mv_I b :: mv_I a :: st) h n := by
  subst hp
  exact go_pure (xs := [mv_I b, mv_I a]) (ys := [mv_I (a + b)]) (fun _ => go_okI) (fun p e s m args below meth c H locs Q ls zt ad rest _ _ hx hb k => lv_iadd hx hb hd (by rw [← Int32.ofInt_add]; exact k)) k
theorem go_isub {a b : Int} (hd : decode M.2.1 pc = .ok (.isub, 1)) (hp : pc + 1 = q) (k : Go φ l M R u q L (mv_I (a - b) :: st) h n) : Go φ l M R u pc L (mv_I b :: mv_I a :: st) h n := by
  subst hp
  exact go_pure (xs := [mv_I b, mv_I a]) (ys := [mv_I (a - b)]) (fun _ => go_okI) (fun p e s m args below meth c H locs Q ls zt ad rest _ _ hx hb k => lv_isub hx hb hd (by rw [← Int32.ofInt_sub]; exact k)) k
theorem go_imul {a b : Int} (hd : decode M.2.1 pc = .ok (.imul, 1)) (hp : pc + 1 = q) (k : Go φ l M R u q L (mv_I (a * b) :: st) h n) : Go φ l M R u pc L (mv_I b :: mv_I a :: st) h n := by
  subst hp
  exact go_pure (xs := [mv_I b, mv_I a]) (ys := [mv_I (a * b)]) (fun _ => go_okI) (fun p e s m args below meth c H locs Q ls zt ad rest _ _ hx hb k => lv_imul hx hb hd (by rw [← Int32.ofInt_mul]; exact k)) k
theorem go_ladd {a b : Int} (hd : decode M.2.1 pc = .ok (.ladd, 1)) (hp : pc + 1 = q) (k : Go φ l M R u q L (mv_L (a + b) :: st) h n) : Go φ l M R u pc L (mv_L b :: mv_L a :: st) h n := by
  subst hp
  exact go_pure (xs := [mv_L b, mv_L a]) (ys := [mv_L (a + b)]) (fun _ => go_okL) (fun p e s m args below meth c H locs Q ls zt ad rest _ _ hx hb k => lv_ladd hx hb hd (by rw [← Int64.ofInt_add]; exact k)) k
theorem go_lsub {a b : Int} (hd : decode M.2.1 pc = .ok (.lsub, 1)) (hp : pc + 1 = q) (k : Go φ l M R u q L (mv_L (a - b) :: st) h n) : Go φ l M R u pc L (mv_L b :: mv_L a :: st) h n := by
  subst hp
  exact go_pure (xs := [mv_L b, mv_L a]) (ys := [mv_L (a - b)]) (fun _ => go_okL) (fun p e s m args below meth c H locs Q ls zt ad rest _ _ hx hb k => lv_lsub hx hb hd (by rw [← Int64.ofInt_sub]; exact k)) k
theorem go_lmul {a b : Int} (hd : decode M.2.1 pc = .ok (.lmul, 1)) (hp : pc + 1 = q) (k : Go φ l M R u q L (mv_L (a * b) :: st) h n) : Go φ l M R u pc L (mv_L b :: mv_L a :: st) h n := by
  subst hp
  exact go_pure (xs := [mv_L b, mv_L a]) (ys := [mv_L (a * b)]) (fun _ => go_okL) (fun p e s m args below meth c H locs Q ls zt ad rest _ _ hx hb k => lv_lmul hx hb hd (by rw [← Int64.ofInt_mul]; exact k)) k
theorem go_ineg {a : Int} (hd : decode M.2.1 pc = .ok (.ineg, 1)) (hp : pc + 1 = q) (k : Go φ l M R u q L (mv_I (-a) :: st) h n) : Go φ l M R u pc L (mv_I a :: st) h n := by
  subst hp
  exact go_pure (xs := [mv_I a]) (ys := [mv_I (-a)]) (fun _ => go_okI) (fun p e s m args below meth c H locs Q ls zt ad rest _ _ hx hb k => lv_ineg hx hb hd (by rw [← Int32.ofInt_neg]; exact k)) k
theorem go_l2i {a : Int} (hd : decode M.2.1 pc = .ok (.l2i, 1)) (hp : pc + 1 = q) (k : Go φ l M R u q L (mv_I a :: st) h n) : Go φ l M R u pc L (mv_L a :: st) h n := by
  subst hp
  exact go_pure (xs := [mv_L a]) (ys := [mv_I a]) (fun _ => go_okI) (fun p e s m args below meth c H locs Q ls zt ad rest _ _ hx hb k => lv_l2i hx hb hd Int64.toInt32_ofInt k) k
theorem go_i2l {a : Int} (hd : decode M.2.1 pc = .ok (.i2l, 1)) (hp : pc + 1 = q) (ha : -2147483648 ≤ a ∧ a ≤ 2147483647) (k : Go φ l M R u q L (mv_L a :: st) h n) : Go φ l M R u pc L (mv_I a :: st) h n := by
  subst hp
  exact go_pure (xs := [mv_I a]) (ys := [mv_L a]) (fun _ => go_okL) (fun p e s m args below meth c H locs Q ls zt ad rest _ _ hx hb k => lv_i2l hx hb hd (Int32.toInt64_ofInt ha.1 ha.2) k) k
theorem go_i2c {a : Int} (hd : decode M.2.1 pc = .ok (.i2c, 1)) (hp : pc + 1 = q) (ha : 0 ≤ a ∧ a ≤ 65535) (k : Go φ l M R u q L (mv_I a :: st) h n) : Go φ l M R u pc L (mv_I a :: st) h n := by
  subst hp
  exact go_pure (xs := [mv_I a]) (ys := [mv_I a]) (fun _ => go_okI) (fun p e s m args below meth c H locs Q ls zt ad rest _ _ hx hb k => lv_i2c hx hb hd (gn_i2c ha) k) k
theorem go_idiv {a b z : Int} (hd : decode M.2.1 pc = .ok (.idiv, 1)) (hp : pc + 1 = q) (hne : ¬ Int32.ofInt b = 0) (hz : Int32.ofInt a / Int32.ofInt b = Int32.ofInt z) (k : Go φ l M R u q L (mv_I z :: st) h n) : Go φ l M R u pc L (mv_I b :: mv_I a :: st) h n := by
  subst hp
  exact go_pure (xs := [mv_I b, mv_I a]) (ys := [mv_I z]) (fun _ => go_okI) (fun p e s m args below meth c H locs Q ls zt ad rest _ _ hx hb k => lv_idiv hx hb hd hne (by rw [hz]; exact k)) k
theorem go_irem {a b z : Int} (hd : decode M.2.1 pc = .ok (.irem, 1)) (hp : pc + 1 = q) (hne : ¬ Int32.ofInt b = 0) (hz : Int32.ofInt a - Int32.ofInt a / Int32.ofInt b * Int32.ofInt b = Int32.ofInt z) (k : Go φ l M R u q L (mv_I z :: st) h n) : Go φ l M R u pc L (mv_I b :: mv_I a :: st) h n := by
  subst hp
  exact go_pure (xs := [mv_I b, mv_I a]) (ys := [mv_I z]) (fun _ => go_okI) (fun p e s m args below meth c H locs Q ls zt ad rest _ _ hx hb k => lv_irem hx hb hd hne (by rw [hz]; exact k)) k
theorem go_iand {a b z : Int} (hd : decode M.2.1 pc = .ok (.iand, 1)) (hp : pc + 1 = q) (hz : Int32.ofInt a &&& Int32.ofInt b = Int32.ofInt z) (k : Go φ l M R u q L (mv_I z :: st) h n) : Go φ l M R u pc L (mv_I b :: mv_I a :: st) h n := by
  subst hp
  exact go_pure (xs := [mv_I b, mv_I a]) (ys := [mv_I z]) (fun _ => go_okI) (fun p e s m args below meth c H locs Q ls zt ad rest _ _ hx hb k => lv_iand hx hb hd (by rw [hz]; exact k)) k
theorem go_ior {a b z : Int} (hd : decode M.2.1 pc = .ok (.ior, 1)) (hp : pc + 1 = q) (hz : Int32.ofInt a ||| Int32.ofInt b = Int32.ofInt z) (k : Go φ l M R u q L (mv_I z :: st) h n) : Go φ l M R u pc L (mv_I b :: mv_I a :: st) h n := by
  subst hp
  exact go_pure (xs := [mv_I b, mv_I a]) (ys := [mv_I z]) (fun _ => go_okI) (fun p e s m args below meth c H locs Q ls zt ad rest _ _ hx hb k => lv_ior hx hb hd (by rw [hz]; exact k)) k
theorem go_ixor {a b z : Int} (hd : decode M.2.1 pc = .ok (.ixor, 1)) (hp : pc + 1 = q) (hz : Int32.ofInt a ^^^ Int32.ofInt b = Int32.ofInt z) (k : Go φ l M R u q L (mv_I z :: st) h n) : Go φ l M R u pc L (mv_I b :: mv_I a :: st) h n := by
  subst hp
  exact go_pure (xs := [mv_I b, mv_I a]) (ys := [mv_I z]) (fun _ => go_okI) (fun p e s m args below meth c H locs Q ls zt ad rest _ _ hx hb k => lv_ixor hx hb hd (by rw [hz]; exact k)) k
theorem go_ishl {a b z : Int} (hd : decode M.2.1 pc = .ok (.ishl, 1)) (hp : pc + 1 = q) (hz : Int32.ofInt a <<< (Int32.ofInt b &&& 31) = Int32.ofInt z) (k : Go φ l M R u q L (mv_I z :: st) h n) : Go φ l M R u pc L (mv_I b :: mv_I a :: st) h n := by
  subst hp
  exact go_pure (xs := [mv_I b, mv_I a]) (ys := [mv_I z]) (fun _ => go_okI) (fun p e s m args below meth c H locs Q ls zt ad rest _ _ hx hb k => lv_ishl hx hb hd (by rw [hz]; exact k)) k
theorem go_ishr {a b z : Int} (hd : decode M.2.1 pc = .ok (.ishr, 1)) (hp : pc + 1 = q) (hz : Int32.ofInt a >>> (Int32.ofInt b &&& 31) = Int32.ofInt z) (k : Go φ l M R u q L (mv_I z :: st) h n) : Go φ l M R u pc L (mv_I b :: mv_I a :: st) h n := by
  subst hp
  exact go_pure (xs := [mv_I b, mv_I a]) (ys := [mv_I z]) (fun _ => go_okI) (fun p e s m args below meth c H locs Q ls zt ad rest _ _ hx hb k => lv_ishr hx hb hd (by rw [hz]; exact k)) k
theorem go_iushr {a b z : Int} (hd : decode M.2.1 pc = .ok (.iushr, 1)) (hp : pc + 1 = q) (hz : ((Int32.ofInt a).toUInt32 >>> ((Int32.ofInt b).toUInt32 &&& Int32.toUInt32 31)).toInt32 = Int32.ofInt z) (k : Go φ l M R u q L (mv_I z :: st) h n) : Go φ l M R u pc L (mv_I b :: mv_I a :: st) h n := by
  subst hp
  exact go_pure (xs := [mv_I b, mv_I a]) (ys := [mv_I z]) (fun _ => go_okI) (fun p e s m args below meth c H locs Q ls zt ad rest _ _ hx hb k => lv_iushr hx hb hd hz k) k
theorem go_ldiv {a b z : Int} (hd : decode M.2.1 pc = .ok (.ldiv, 1)) (hp : pc + 1 = q) (hne : ¬ Int64.ofInt b = 0) (hz : Int64.ofInt a / Int64.ofInt b = Int64.ofInt z) (k : Go φ l M R u q L (mv_L z :: st) h n) : Go φ l M R u pc L (mv_L b :: mv_L a :: st) h n := by
  subst hp
  exact go_pure (xs := [mv_L b, mv_L a]) (ys := [mv_L z]) (fun _ => go_okL) (fun p e s m args below meth c H locs Q ls zt ad rest _ _ hx hb k => lv_ldiv hx hb hd hne (by rw [hz]; exact k)) k
theorem go_lrem {a b z : Int} (hd : decode M.2.1 pc = .ok (.lrem, 1)) (hp : pc + 1 = q) (hne : ¬ Int64.ofInt b = 0) (hz : Int64.ofInt a - Int64.ofInt a / Int64.ofInt b * Int64.ofInt b = Int64.ofInt z) (k : Go φ l M R u q L (mv_L z :: st) h n) : Go φ l M R u pc L (mv_L b :: mv_L a :: st) h n := by
  subst hp
  exact go_pure (xs := [mv_L b, mv_L a]) (ys := [mv_L z]) (fun _ => go_okL) (fun p e s m args below meth c H locs Q ls zt ad rest _ _ hx hb k => lv_lrem hx hb hd hne (by rw [hz]; exact k)) k
theorem go_land {a b z : Int} (hd : decode M.2.1 pc = .ok (.land, 1)) (hp : pc + 1 = q) (hz : Int64.ofInt a &&& Int64.ofInt b = Int64.ofInt z) (k : Go φ l M R u q L (mv_L z :: st) h n) : Go φ l M R u pc L (mv_L b :: mv_L a :: st) h n := by
  subst hp
  exact go_pure (xs := [mv_L b, mv_L a]) (ys := [mv_L z]) (fun _ => go_okL) (fun p e s m args below meth c H locs Q ls zt ad rest _ _ hx hb k => lv_land hx hb hd (by rw [hz]; exact k)) k
theorem go_lor {a b z : Int} (hd : decode M.2.1 pc = .ok (.lor, 1)) (hp : pc + 1 = q) (hz : Int64.ofInt a ||| Int64.ofInt b = Int64.ofInt z) (k : Go φ l M R u q L (mv_L z :: st) h n) : Go φ l M R u pc L (mv_L b :: mv_L a :: st) h n := by
  subst hp
  exact go_pure (xs := [mv_L b, mv_L a]) (ys := [mv_L z]) (fun _ => go_okL) (fun p e s m args below meth c H locs Q ls zt ad rest _ _ hx hb k => lv_lor hx hb hd (by rw [hz]; exact k)) k
theorem go_lushr {a b z : Int} (hd : decode M.2.1 pc = .ok (.lushr, 1)) (hp : pc + 1 = q) (hz : ((Int64.ofInt a).toUInt64 >>> ((Int32.ofInt b).toInt64.toUInt64 &&& Int64.toUInt64 63)).toInt64 = Int64.ofInt z) (k : Go φ l M R u q L (mv_L z :: st) h n) : Go φ l M R u pc L (mv_I b :: mv_L a :: st) h n := by
  subst hp
  exact go_pure (xs := [mv_I b, mv_L a]) (ys := [mv_L z]) (fun _ => go_okL) (fun p e s m args below meth c H locs Q ls zt ad rest _ _ hx hb k => lv_lushr hx hb hd hz k) k
theorem go_lshl {a b z : Int} (hd : decode M.2.1 pc = .ok (.lshl, 1)) (hp : pc + 1 = q) (hz : Int64.ofInt a <<< ((Int32.ofInt b).toInt64 &&& 63) = Int64.ofInt z) (k : Go φ l M R u q L (mv_L z :: st) h n) : Go φ l M R u pc L (mv_I b :: mv_L a :: st) h n := by
  subst hp
  exact go_pure (xs := [mv_I b, mv_L a]) (ys := [mv_L z]) (fun _ => go_okL) (fun p e s m args below meth c H locs Q ls zt ad rest _ _ hx hb k => lv_lshl hx hb hd hz k) k
theorem go_lshr {a b z : Int} (hd : decode M.2.1 pc = .ok (.lshr, 1)) (hp : pc + 1 = q) (hz : Int64.ofInt a >>> ((Int32.ofInt b).toInt64 &&& 63) = Int64.ofInt z) (k : Go φ l M R u q L (mv_L z :: st) h n) : Go φ l M R u pc L (mv_I b :: mv_L a :: st) h n := by
  subst hp
  exact go_pure (xs := [mv_I b, mv_L a]) (ys := [mv_L z]) (fun _ => go_okL) (fun p e s m args below meth c H locs Q ls zt ad rest _ _ hx hb k => lv_lshr hx hb hd hz k) k
theorem go_lcmp {a b : Int} (hd : decode M.2.1 pc = .ok (.lcmp, 1)) (hp : pc + 1 = q) (ha : -9223372036854775808 ≤ a ∧ a ≤ 9223372036854775807) (hb0 : -9223372036854775808 ≤ b ∧ b ≤ 9223372036854775807) (k : Go φ l M R u q L (mv_I (if b < a then 1 else if a = b then 0 else -1) :: st) h n) : Go φ l M R u pc L (mv_L b :: mv_L a :: st) h n := by
  subst hp
  exact go_pure (xs := [mv_L b, mv_L a]) (ys := [mv_I (if b < a then 1 else if a = b then 0 else -1)]) (fun _ => go_okI) (fun p e s m args below meth c H locs Q ls zt ad rest _ _ hx hb k => W.lcmp hx hb hd (by rw [gn_lcmp ha hb0]; exact k)) k
theorem go_dup {v : mv_V} (hd : decode M.2.1 pc = .ok (.dup, 1)) (hp : pc + 1 = q) (hv : mv_k v = 1) (k : Go φ l M R u q L (v :: v :: st) h n) : Go φ l M R u pc L (v :: st) h n := by
  subst hp
  exact go_pure (xs := [v]) (ys := [v, v]) (fun o => ok_S.cons o.hd o) (fun p e s m args below meth c H locs Q ls zt ad rest _ _ hx hb k => lv_dup hx hb hd ((mv_cat zt ad v).trans hv) k) k
theorem go_pop {v : mv_V} (hd : decode M.2.1 pc = .ok (.pop, 1)) (hp : pc + 1 = q) (hv : mv_k v = 1) (k : Go φ l M R u q L st h n) : Go φ l M R u pc L (v :: st) h n := by
  subst hp
  exact go_pure (xs := [v]) (ys := []) (fun _ => ok_S.nil) (fun p e s m args below meth c H locs Q ls zt ad rest _ _ hx hb k => lv_pop hx hb hd ((mv_cat zt ad v).trans hv) k) k
theorem go_dup_x1 {v w : mv_V} (hd : decode M.2.1 pc = .ok (.dup_x1, 1)) (hp : pc + 1 = q) (hv : mv_k v = 1) (hw : mv_k w = 1) (k : Go φ l M R u q L (v :: w :: v :: st) h n) : Go φ l M R u pc L (v :: w :: st) h n := by
  subst hp
  exact go_pure (xs := [v, w]) (ys := [v, w, v]) (fun o => ok_S.cons o.hd (ok_S.cons o.tl.hd (ok_S.cons o.hd ok_S.nil))) (fun p e s m args below meth c H locs Q ls zt ad rest _ _ hx hb k => lv_dup_x1 hx hb hd ((mv_cat zt ad v).trans hv) ((mv_cat zt ad w).trans hw) k) k
theorem go_dup_x2 {v w x : mv_V} (hd : decode M.2.1 pc = .ok (.dup_x2, 1)) (hp : pc + 1 = q) (hv : mv_k v = 1) (hw : mv_k w = 1) (hx : mv_k x = 1) (k : Go φ l M R u q L (v :: w :: x :: v :: st) h n) : Go φ l M R u pc L (v :: w :: x :: st) h n := by
  subst hp
  exact go_pure (xs := [v, w, x]) (ys := [v, w, x, v]) (fun o => ok_S.cons o.hd (ok_S.cons o.tl.hd (ok_S.cons o.tl.tl.hd (ok_S.cons o.hd ok_S.nil)))) (fun p e s m args below meth c H locs Q ls zt ad rest _ _ hx' hb k => lv_dup_x2 hx' hb hd ((mv_cat zt ad v).trans hv) ((mv_cat zt ad w).trans hw) ((mv_cat zt ad x).trans hx) k) k
theorem go_dup2 {v w : mv_V} (hd : decode M.2.1 pc = .ok (.dup2, 1)) (hp : pc + 1 = q) (hv : mv_k v = 1) (hw : mv_k w = 1) (k : Go φ l M R u q L (v :: w :: v :: w :: st) h n) : Go φ l M R u pc L (v :: w :: st) h n := by
  subst hp
  exact go_pure (xs := [v, w]) (ys := [v, w, v, w]) (fun o => ok_S.cons o.hd (ok_S.cons o.tl.hd o)) (fun p e s m args below meth c H locs Q ls zt ad rest _ _ hx hb k => lv_dup2_11 hx hb hd ((mv_cat zt ad v).trans hv) ((mv_cat zt ad w).trans hw) k) k
theorem go_goto {off : Int} (hd : decode M.2.1 pc = .ok (.goto off, 3)) (hp : (pc : Int) + off = (q : Int)) (k : Go φ l M R u q L st h n) : Go φ l M R u pc L st h n :=
  go_pure (xs := []) (ys := []) (fun o => o) (fun p e s m args below meth c H locs Q ls zt ad rest _ _ hx hb k => lv_goto hx hb hd hp k) k
theorem go_if_eq {a off : Int} {t : Nat} (hd : decode M.2.1 pc = .ok (.ifCond .eq off, 3)) (ht : (pc : Int) + off = (t : Int)) (hp : pc + 3 = q) (ha : -2147483648 ≤ a ∧ a ≤ 2147483647) (kt : a = 0 → Go φ l M R u t L st h n) (kf : ¬ a = 0 → Go φ l M R u q L st h n) : Go φ l M R u pc L (mv_I a :: st) h n := by
  subst hp
  intro p e s m args below meth c D ca zt A n0 ad0 C H locs ls ad hS hP hD hl hn hadr oh ol os
  exact lv_if_eq C.1 C.2.1 hd ht (fun z => kt ((gn_eq0 ha).mp z) p e s m args below meth c D ca zt A n0 ad0 C H locs ls ad hS hP hD hl hn hadr oh ol os.tl) (fun z => kf (fun w => z ((gn_eq0 ha).mpr w)) p e s m args below meth c D ca zt A n0 ad0 C H locs ls ad hS hP hD hl hn hadr oh ol os.tl)
theorem go_icmp_eq {a b off : Int} {t : Nat} (hd : decode M.2.1 pc = .ok (.if_icmp .eq off, 3)) (ht : (pc : Int) + off = (t : Int)) (hp : pc + 3 = q) (ha : -2147483648 ≤ a ∧ a ≤ 2147483647) (hb0 : -2147483648 ≤ b ∧ b ≤ 2147483647) (kt : a = b → Go φ l M R u t L st h n) (kf : ¬ a = b → Go φ l M R u q L st h n) : Go φ l M R u pc L (mv_I b :: mv_I a :: st) h n := by
  subst hp
  intro p e s m args below meth c D ca zt A n0 ad0 C H locs ls ad hS hP hD hl hn hadr oh ol os
  exact lv_icmp_eq C.1 C.2.1 hd ht (fun z => kt ((gn_eq ha hb0).mp z) p e s m args below meth c D ca zt A n0 ad0 C H locs ls ad hS hP hD hl hn hadr oh ol os.tl.tl) (fun z => kf (fun w => z ((gn_eq ha hb0).mpr w)) p e s m args below meth c D ca zt A n0 ad0 C H locs ls ad hS hP hD hl hn hadr oh ol os.tl.tl)
theorem go_if_ne {a off : Int} {t : Nat} (hd : decode M.2.1 pc = .ok (.ifCond .ne off, 3)) (ht : (pc : Int) + off = (t : Int)) (hp : pc + 3 = q) (ha : -2147483648 ≤ a ∧ a ≤ 2147483647) (kt : ¬ a = 0 → Go φ l M R u t L st h n) (kf : a = 0 → Go φ l M R u q L st h n) : Go φ l M R u pc L (mv_I a :: st) h n := by
  subst hp
  intro p e s m args below meth c D ca zt A n0 ad0 C H locs ls ad hS hP hD hl hn hadr oh ol os
  exact lv_if_ne C.1 C.2.1 hd ht (fun z => kt (fun w => z ((gn_eq0 ha).mpr w)) p e s m args below meth c D ca zt A n0 ad0 C H locs ls ad hS hP hD hl hn hadr oh ol os.tl) (fun z => kf ((gn_eq0 ha).mp z) p e s m args below meth c D ca zt A n0 ad0 C H locs ls ad hS hP hD hl hn hadr oh ol os.tl)
theorem go_icmp_ne {a b off : Int} {t : Nat} (hd : decode M.2.1 pc = .ok (.if_icmp .ne off, 3)) (ht : (pc : Int) + off = (t : Int)) (hp : pc + 3 = q) (ha : -2147483648 ≤ a ∧ a ≤ 2147483647) (hb0 : -2147483648 ≤ b ∧ b ≤ 2147483647) (kt : ¬ a = b → Go φ l M R u t L st h n) (kf : a = b → Go φ l M R u q L st h n) : Go φ l M R u pc L (mv_I b :: mv_I a :: st) h n := by
  subst hp
  intro p e s m args below meth c D ca zt A n0 ad0 C H locs ls ad hS hP hD hl hn hadr oh ol os
  exact lv_icmp_ne C.1 C.2.1 hd ht (fun z => kt (fun w => z ((gn_eq ha hb0).mpr w)) p e s m args below meth c D ca zt A n0 ad0 C H locs ls ad hS hP hD hl hn hadr oh ol os.tl.tl) (fun z => kf ((gn_eq ha hb0).mp z) p e s m args below meth c D ca zt A n0 ad0 C H locs ls ad hS hP hD hl hn hadr oh ol os.tl.tl)
theorem go_if_lt {a off : Int} {t : Nat} (hd : decode M.2.1 pc = .ok (.ifCond .lt off, 3)) (ht : (pc : Int) + off = (t : Int)) (hp : pc + 3 = q) (ha : -2147483648 ≤ a ∧ a ≤ 2147483647) (kt : a < 0 → Go φ l M R u t L st h n) (kf : ¬ a < 0 → Go φ l M R u q L st h n) : Go φ l M R u pc L (mv_I a :: st) h n := by
  subst hp
  intro p e s m args below meth c D ca zt A n0 ad0 C H locs ls ad hS hP hD hl hn hadr oh ol os
  exact lv_if_lt C.1 C.2.1 hd ht (fun z => kt ((gn_lt0 ha).mp z) p e s m args below meth c D ca zt A n0 ad0 C H locs ls ad hS hP hD hl hn hadr oh ol os.tl) (fun z => kf (fun w => z ((gn_lt0 ha).mpr w)) p e s m args below meth c D ca zt A n0 ad0 C H locs ls ad hS hP hD hl hn hadr oh ol os.tl)
theorem go_icmp_lt {a b off : Int} {t : Nat} (hd : decode M.2.1 pc = .ok (.if_icmp .lt off, 3)) (ht : (pc : Int) + off = (t : Int)) (hp : pc + 3 = q) (ha : -2147483648 ≤ a ∧ a ≤ 2147483647) (hb0 : -2147483648 ≤ b ∧ b ≤ 2147483647) (kt : a < b → Go φ l M R u t L st h n) (kf : ¬ a < b → Go φ l M R u q L st h n) : Go φ l M R u pc L (mv_I b :: mv_I a :: st) h n := by
  subst hp
  intro p e s m args below meth c D ca zt A n0 ad0 C H locs ls ad hS hP hD hl hn hadr oh ol os
  exact lv_icmp_lt C.1 C.2.1 hd ht (fun z => kt ((gn_lt ha hb0).mp z) p e s m args below meth c D ca zt A n0 ad0 C H locs ls ad hS hP hD hl hn hadr oh ol os.tl.tl) (fun z => kf (fun w => z ((gn_lt ha hb0).mpr w)) p e s m args below meth c D ca zt A n0 ad0 C H locs ls ad hS hP hD hl hn hadr oh ol os.tl.tl)
theorem go_if_ge {a off : Int} {t : Nat} (hd : decode M.2.1 pc = .ok (.ifCond .ge off, 3)) (ht : (pc : Int) + off = (t : Int)) (hp : pc + 3 = q) (ha : -2147483648 ≤ a ∧ a ≤ 2147483647) (kt : 0 ≤ a → Go φ l M R u t L st h n) (kf : ¬ 0 ≤ a → Go φ l M R u q L st h n) : Go φ l M R u pc L (mv_I a :: st) h n := by
  subst hp
  intro p e s m args below meth c D ca zt A n0 ad0 C H locs ls ad hS hP hD hl hn hadr oh ol os
  exact lv_if_ge C.1 C.2.1 hd ht (fun z => kt ((gn_ge0 ha).mp z) p e s m args below meth c D ca zt A n0 ad0 C H locs ls ad hS hP hD hl hn hadr oh ol os.tl) (fun z => kf (fun w => z ((gn_ge0 ha).mpr w)) p e s m args below meth c D ca zt A n0 ad0 C H locs ls ad hS hP hD hl hn hadr oh ol os.tl)
theorem go_icmp_ge {a b off : Int} {t : Nat} (hd : decode M.2.1 pc = .ok (.if_icmp .ge off, 3)) (ht : (pc : Int) + off = (t : Int)) (hp : pc + 3 = q) (ha : -2147483648 ≤ a ∧ a ≤ 2147483647) (hb0 : -2147483648 ≤ b ∧ b ≤ 2147483647) (kt : b ≤ a → Go φ l M R u t L st h n) (kf : ¬ b ≤ a → Go φ l M R u q L st h n) : Go φ l M R u pc L (mv_I b :: mv_I a :: st) h n := by
  subst hp
  intro p e s m args below meth c D ca zt A n0 ad0 C H locs ls ad hS hP hD hl hn hadr oh ol os
  exact lv_icmp_ge C.1 C.2.1 hd ht (fun z => kt ((gn_le hb0 ha).mp z) p e s m args below meth c D ca zt A n0 ad0 C H locs ls ad hS hP hD hl hn hadr oh ol os.tl.tl) (fun z => kf (fun w => z ((gn_le hb0 ha).mpr w)) p e s m args below meth c D ca zt A n0 ad0 C H locs ls ad hS hP hD hl hn hadr oh ol os.tl.tl)
theorem go_if_gt {a off : Int} {t : Nat} (hd : decode M.2.1 pc = .ok (.ifCond .gt off, 3)) (ht : (pc : Int) + off = (t : Int)) (hp : pc + 3 = q) (ha : -2147483648 ≤ a ∧ a ≤ 2147483647) (kt : 0 < a → Go φ l M R u t L st h n) (kf : ¬ 0 < a → Go φ l M R u q L st h n) : Go φ l M R u pc L (mv_I a :: st) h n := by
  subst hp
  intro p e s m args below meth c D ca zt A n0 ad0 C H locs ls ad hS hP hD hl hn hadr oh ol os
  exact lv_if_gt C.1 C.2.1 hd ht (fun z => kt ((gn_gt0 ha).mp z) p e s m args below meth c D ca zt A n0 ad0 C H locs ls ad hS hP hD hl hn hadr oh ol os.tl) (fun z => kf (fun w => z ((gn_gt0 ha).mpr w)) p e s m args below meth c D ca zt A n0 ad0 C H locs ls ad hS hP hD hl hn hadr oh ol os.tl)
theorem go_icmp_gt {a b off : Int} {t : Nat} (hd : decode M.2.1 pc = .ok (.if_icmp .gt off, 3)) (ht : (pc : Int) + off = (t : Int)) (hp : pc + 3 = q) (ha : -2147483648 ≤ a ∧ a ≤ 2147483647) (hb0 : -2147483648 ≤ b ∧ b ≤ 2147483647) (kt : b < a → Go φ l M R u t L st h n) (kf : ¬ b < a → Go φ l M R u q L st h n) : Go φ l M R u pc L (mv_I b :: mv_I a :: st) h n := by
  subst hp
  intro p e s m args below meth c D ca zt A n0 ad0 C H locs ls ad hS hP hD hl hn hadr oh ol os
  exact lv_icmp_gt C.1 C.2.1 hd ht (fun z => kt ((gn_lt hb0 ha).mp z) p e s m args below meth c D ca zt A n0 ad0 C H locs ls ad hS hP hD hl hn hadr oh ol os.tl.tl) (fun z => kf (fun w => z ((gn_lt hb0 ha).mpr w)) p e s m args below meth c D ca zt A n0 ad0 C H locs ls ad hS hP hD hl hn hadr oh ol os.tl.tl)
theorem go_if_le {a off : Int} {t : Nat} (hd : decode M.2.1 pc = .ok (.ifCond .le off, 3)) (ht : (pc : Int) + off = (t : Int)) (hp : pc + 3 = q) (ha : -2147483648 ≤ a ∧ a ≤ 2147483647) (kt : a ≤ 0 → Go φ l M R u t L st h n) (kf : ¬ a ≤ 0 → Go φ l M R u q L st h n) : Go φ l M R u pc L (mv_I a :: st) h n := by
  subst hp
  intro p e s m args below meth c D ca zt A n0 ad0 C H locs ls ad hS hP hD hl hn hadr oh ol os
  exact lv_if_le C.1 C.2.1 hd ht (fun z => kt ((gn_le0 ha).mp z) p e s m args below meth c D ca zt A n0 ad0 C H locs ls ad hS hP hD hl hn hadr oh ol os.tl) (fun z => kf (fun w => z ((gn_le0 ha).mpr w)) p e s m args below meth c D ca zt A n0 ad0 C H locs ls ad hS hP hD hl hn hadr oh ol os.tl)
theorem go_icmp_le {a b off : Int} {t : Nat} (hd : decode M.2.1 pc = .ok (.if_icmp .le off, 3)) (ht : (pc : Int) + off = (t : Int)) (hp : pc + 3 = q) (ha : -2147483648 ≤ a ∧ a ≤ 2147483647) (hb0 : -2147483648 ≤ b ∧ b ≤ 2147483647) (kt : a ≤ b → Go φ l M R u t L st h n) (kf : ¬ a ≤ b → Go φ l M R u q L st h n) : Go φ l M R u pc L (mv_I b :: mv_I a :: st) h n := by
  subst hp
  intro p e s m args below meth c D ca zt A n0 ad0 C H locs ls ad hS hP hD hl hn hadr oh ol os
  exact lv_icmp_le C.1 C.2.1 hd ht (fun z => kt ((gn_le ha hb0).mp z) p e s m args below meth c D ca zt A n0 ad0 C H locs ls ad hS hP hD hl hn hadr oh ol os.tl.tl) (fun z => kf (fun w => z ((gn_le ha hb0).mpr w)) p e s m args below meth c D ca zt A n0 ad0 C H locs ls ad hS hP hD hl hn hadr oh ol os.tl.tl)
end GoRules
end
section
/-! THE PURE MACHINE, part 3: fields, arrays, new cells. -/
/-- what the tables say of a class of the world: its number ci, its name, fields and types -/
def go_cls (ci : Nat) (C : String) (T : u_T) (N : Nat) (ty : Nat → FieldType) : Prop :=
  vwCl[ci]? = some (C, T, N) ∧ (∀ w ∈ u_ws C T N, w ∈ go_T) ∧ (∀ k, k < N → parseFieldDescriptor (T k).2.2.1 = some (ty k)) ∧ ∀ a, a < N → ∀ b, b < N → a ≠ b → (T a).2.1 ≠ (T b).2.1
/-- what 'idx' names in the class 'own': the field k of the class ci, its type, and whether it is final -/
def go_fld (own : String) (idx ci k : Nat) (ty : FieldType) (fin : Bool) : Prop := ∃ (C : String) (T : u_T) (N : Nat) (ty0 : Nat → FieldType), go_cls ci C T N ty0 ∧ k < N ∧ ty0 k = ty ∧ (T k).2.2.2 = fin ∧
  (Cond.fieldLink own idx (T k).1 (T k).2.1 (T k).2.2.1 ∈ go_T ∨ ∃ host, Cond.fieldLinkNest own idx (T k).1 (T k).2.1 (T k).2.2.1 host ∈ go_N)
/-- a final field of the class's own -/
def go_flF (own : String) (idx ci k : Nat) (ty : FieldType) : Prop := ∃ (C : String) (T : u_T) (N : Nat) (ty0 : Nat → FieldType), go_cls ci C T N ty0 ∧ k < N ∧ ty0 k = ty ∧ (T k).2.2.2 = true ∧ (T k).1 = own ∧ Cond.fieldLink own idx (T k).1 (T k).2.1 (T k).2.2.1 ∈ go_T
theorem go_fitI (z : Int) (zt ad : Nat → Nat) : narrow .int (mv_c zt ad (mv_I z)) = mv_c zt ad (mv_I z) ∧ fits .int (mv_c zt ad (mv_I z)) = true := ⟨rfl, rfl⟩
theorem go_fitZ {z : Int} (hz : z = 0 ∨ z = 1) (zt ad : Nat → Nat) : narrow .boolean (mv_c zt ad (mv_I z)) = mv_c zt ad (mv_I z) ∧ fits .boolean (mv_c zt ad (mv_I z)) = true := by
  rcases hz with rfl | rfl
  · exact ⟨by show narrow .boolean (.int (Int32.ofInt 0)) = .int (Int32.ofInt 0); decide, by show fits .boolean (.int (Int32.ofInt 0)) = true; decide⟩
  · exact ⟨by show narrow .boolean (.int (Int32.ofInt 1)) = .int (Int32.ofInt 1); decide, by show fits .boolean (.int (Int32.ofInt 1)) = true; decide⟩
theorem go_fitR (C : String) (r : Nat) (zt ad : Nat → Nat) : narrow (.object C) (mv_c zt ad (mv_R r)) = mv_c zt ad (mv_R r) ∧ fits (.object C) (mv_c zt ad (mv_R r)) = true := ⟨rfl, rfl⟩
theorem go_fitA (C : FieldType) (r : Nat) (zt ad : Nat → Nat) : narrow (.array C) (mv_c zt ad (mv_R r)) = mv_c zt ad (mv_R r) ∧ fits (.array C) (mv_c zt ad (mv_R r)) = true := ⟨rfl, rfl⟩
section GoHeap
variable {φ : go_F} {l : Launch} {M : go_M} {R : Room} {u : Nat × Nat} {pc q : Nat} {L : List (Option mv_V)} {st : List mv_V} {h : mv_H} {n : Nat}
theorem go_getf {idx ci k r : Nat} {ty : FieldType} {fin : Bool} {fs : List mv_V} {v : mv_V} (hf : go_fld M.1.cls idx ci k ty fin) (hd : decode M.2.1 pc = .ok (.getfield idx, 3)) (hp : pc + 3 = q) (hh : h r = mv_O ci fs) (hv : fs[k]? = some v) (kk : Go φ l M R u q L (v :: st) h n) : Go φ l M R u pc L (mv_R r :: st) h n := by
  subst hp
  obtain ⟨C', T, N, ty0, ⟨hc, hin, hty, hnm⟩, hk, -, -, hlink⟩ := hf
  intro p e s m args below meth c D ca zt A n0 ad0 C H locs ls ad hS hP hD hl hn ha oh ol os
  have hr : r < n := os.hd
  have he : (mv_W ca zt ad h n)[r]? = some (ad r, .inr (ci, fs.map (mv_c zt ad))) := mv_W_is hr hh
  have hv' : (fs.map (mv_c zt ad))[k]? = some (mv_c zt ad v) := by rw [List.getElem?_map, hv]; rfl
  have ov : ok_V n v := by
    have := oh r hr
    rw [hh] at this
    exact this v (List.mem_of_getElem? hv)
  have kk' := kk p e s m args below meth c D ca zt A n0 ad0 C H locs ls ad hS hP hD hl hn ha oh ol (ok_S.cons ov os.tl)
  obtain ⟨c1, c2, c3, c4, c5, c6, c7, c8, ⟨k1, k2, k3⟩, c10⟩ := C
  rcases hlink with hl1 | ⟨host, hl1⟩
  · exact va_get c1 c2 c8 hin c7 k1 hP r he hc k hk (c8 _ hl1) (fun _ z => z) hv' hd kk'
  · exact va_getN c1 c2 c8 hin c7 k1 hP r he hc k hk (va_Nw.use rfl (k2 _ hl1)) (fun _ z => z) hv' hd kk'
theorem go_putf {idx ci k r : Nat} {ty : FieldType} {fs : List mv_V} {v : mv_V} (hf : go_fld M.1.cls idx ci k ty false) (hd : decode M.2.1 pc = .ok (.putfield idx, 3)) (hp : pc + 3 = q) (hh : h r = mv_O ci fs) (hk0 : k < fs.length) (hfit : ∀ zt ad, narrow ty (mv_c zt ad v) = mv_c zt ad v ∧ fits ty (mv_c zt ad v) = true) (kk : Go φ l M R u q L st (va_up h r (mv_O ci (fs.set k v))) n) : Go φ l M R u pc L (v :: mv_R r :: st) h n := by
  subst hp
  obtain ⟨C', T, N, ty0, ⟨hc, hin, hty, hnm⟩, hk, ht, hfin, hlink⟩ := hf
  intro p e s m args below meth c D ca zt A n0 ad0 C H locs ls ad hS hP hD hl hn ha oh ol os
  have hr : r < n := os.tl.hd
  have he : (mv_W ca zt ad h n)[r]? = some (ad r, .inr (ci, fs.map (mv_c zt ad))) := mv_W_is hr hh
  have hl' : k < (fs.map (mv_c zt ad)).length := by simpa using hk0
  have hset : ∀ (P : va_W → Prop), P ((mv_W ca zt ad h n).set r (ad r, .inr (ci, (fs.map (mv_c zt ad)).set k (mv_c zt ad v)))) → P (mv_W ca zt ad (va_up h r (mv_O ci (fs.set k v))) n) := by
    intro P hp
    rw [← mv_W_set]
    show P ((mv_W ca zt ad h n).set r (ad r, .inr (ci, (fs.set k v).map (mv_c zt ad))))
    rw [List.map_set]
    exact hp
  have oh' : ok_H n (va_up h r (mv_O ci (fs.set k v))) := by
    refine oh.up fun w hw => ?_
    have h1 := oh r hr
    rw [hh] at h1
    rcases List.mem_or_eq_of_mem_set hw with hw | rfl
    · exact h1 w hw
    · exact os.hd
  have kk' : ∀ (H1 : Heap) (locs1 : List Loc), va_P D vwCl ((mv_W ca zt ad h n).set r (ad r, .inr (ci, (fs.map (mv_c zt ad)).set k (mv_c zt ad v)))) H1 → va_D A ((mv_W ca zt ad h n).set r (ad r, .inr (ci, (fs.map (mv_c zt ad)).set k (mv_c zt ad v)))) → va_S A s.heap H1 locs1 → W p l e R s m args below meth c H1 locs1 u.1 u.2 (φ below args s A D ca zt n0 ad0) (F0 m (pc + 3) ls (st.map (mv_c zt ad))) :=
    fun H1 locs1 hP1 hD1 hS1 => kk p e s m args below meth c D ca zt A n0 ad0 C H1 locs1 ls ad hS1 (hset (fun w => va_P D vwCl w H1) hP1) (hset (fun w => va_D A w) hD1) hl hn ha oh' ol os.tl.tl
  obtain ⟨c1, c2, c3, c4, c5, c6, c7, c8, ⟨k1, k2, k3⟩, c10⟩ := C
  have hd0 : parseFieldDescriptor (T k).2.2.1 = some ty := by rw [hty k hk, ht]
  rcases hlink with hl1 | ⟨host, hl1⟩
  · exact va_put c1 c2 c8 hin ty0 hty hnm c7 k1 hP hD hS r he hc k hk (c8 _ hl1) (fun _ z => z) hfin hd0 (hfit zt ad).1 (hfit zt ad).2 hl' hd kk'
  · exact va_putN c1 c2 c8 hin ty0 hty hnm c7 k1 hP hD hS r he hc k hk (va_Nw.use rfl (k2 _ hl1)) (fun _ z => z) hfin hd0 (hfit zt ad).1 (hfit zt ad).2 hl' hd kk'
theorem go_putF {idx ci k r : Nat} {ty : FieldType} {fs : List mv_V} {v : mv_V} (hf : go_flF M.1.cls idx ci k ty) (hi : M.1.name = "<init>") (hd : decode M.2.1 pc = .ok (.putfield idx, 3)) (hp : pc + 3 = q) (hh : h r = mv_O ci fs) (hk0 : k < fs.length) (hfit : ∀ zt ad, narrow ty (mv_c zt ad v) = mv_c zt ad v ∧ fits ty (mv_c zt ad v) = true) (kk : Go φ l M R u q L st (va_up h r (mv_O ci (fs.set k v))) n) : Go φ l M R u pc L (v :: mv_R r :: st) h n := by
  subst hp
  obtain ⟨C', T, N, ty0, ⟨hc, hin, hty, hnm⟩, hk, ht, hfin, hdec, hl1⟩ := hf
  intro p e s m args below meth c D ca zt A n0 ad0 C H locs ls ad hS hP hD hl hn ha oh ol os
  have hr : r < n := os.tl.hd
  have he : (mv_W ca zt ad h n)[r]? = some (ad r, .inr (ci, fs.map (mv_c zt ad))) := mv_W_is hr hh
  have hl' : k < (fs.map (mv_c zt ad)).length := by simpa using hk0
  have hset : ∀ (P : va_W → Prop), P ((mv_W ca zt ad h n).set r (ad r, .inr (ci, (fs.map (mv_c zt ad)).set k (mv_c zt ad v)))) → P (mv_W ca zt ad (va_up h r (mv_O ci (fs.set k v))) n) := by
    intro P hp
    rw [← mv_W_set]
    show P ((mv_W ca zt ad h n).set r (ad r, .inr (ci, (fs.set k v).map (mv_c zt ad))))
    rw [List.map_set]
    exact hp
  have oh' : ok_H n (va_up h r (mv_O ci (fs.set k v))) := by
    refine oh.up fun w hw => ?_
    have h1 := oh r hr
    rw [hh] at h1
    rcases List.mem_or_eq_of_mem_set hw with hw | rfl
    · exact h1 w hw
    · exact os.hd
  have kk' : ∀ (H1 : Heap) (locs1 : List Loc), va_P D vwCl ((mv_W ca zt ad h n).set r (ad r, .inr (ci, (fs.map (mv_c zt ad)).set k (mv_c zt ad v)))) H1 → va_D A ((mv_W ca zt ad h n).set r (ad r, .inr (ci, (fs.map (mv_c zt ad)).set k (mv_c zt ad v)))) → va_S A s.heap H1 locs1 → W p l e R s m args below meth c H1 locs1 u.1 u.2 (φ below args s A D ca zt n0 ad0) (F0 m (pc + 3) ls (st.map (mv_c zt ad))) :=
    fun H1 locs1 hP1 hD1 hS1 => kk p e s m args below meth c D ca zt A n0 ad0 C H1 locs1 ls ad hS1 (hset (fun w => va_P D vwCl w H1) hP1) (hset (fun w => va_D A w) hD1) hl hn ha oh' ol os.tl.tl
  obtain ⟨c1, c2, c3, c4, c5, c6, c7, c8, ⟨k1, k2, k3⟩, c10⟩ := C
  have hd0 : parseFieldDescriptor (T k).2.2.1 = some ty := by rw [hty k hk, ht]
  exact va_putF c1 c2 c8 hin ty0 hty hnm c7 k1 hP hD hS r he hc k hk (c8 _ hl1) (fun _ z => z) hfin (c6.trans hi) hdec hd0 (hfit zt ad).1 (hfit zt ad).2 hl' hd kk'
theorem go_iald {r i N : Nat} {f : Nat → Int} {a : Int} (hd : decode M.2.1 pc = .ok (.iaload, 1)) (hp : pc + 1 = q) (hh : h r = mv_A 0 N f) (ha0 : a = (i : Int)) (hi : i < N) (hN : N < 2147483648) (kk : Go φ l M R u q L (mv_I (f i) :: st) h n) : Go φ l M R u pc L (mv_I a :: mv_R r :: st) h n := by
  subst hp
  intro p e s m args below meth c D ca zt A n0 ad0 C H locs ls ad hS hP hD hl hn ha oh ol os
  have hr : r < n := os.tl.hd
  have he : (mv_W ca zt ad h n)[r]? = some (ad r, .inl (ca 0, N, .inl fun j => Int32.ofInt (f j))) := mv_W_is hr hh
  obtain ⟨g1, g2⟩ := gn_in ha0 hi hN
  have kk' := kk p e s m args below meth c D ca zt A n0 ad0 C H locs ls ad hS hP hD hl hn ha oh ol (ok_S.cons trivial os.tl.tl)
  exact va_iald C.1 C.2.1 C.2.2.2.2.2.2.2.2.1.1 hP r 0 he rfl g1 hd (by rw [g2]; exact kk')
theorem go_cald {r i N : Nat} {f : Nat → Int} {a : Int} (hd : decode M.2.1 pc = .ok (.caload, 1)) (hp : pc + 1 = q) (hh : h r = mv_A 2 N f) (ha0 : a = (i : Int)) (hi : i < N) (hN : N < 2147483648) (kk : Go φ l M R u q L (mv_I (f i) :: st) h n) : Go φ l M R u pc L (mv_I a :: mv_R r :: st) h n := by
  subst hp
  intro p e s m args below meth c D ca zt A n0 ad0 C H locs ls ad hS hP hD hl hn ha oh ol os
  have hr : r < n := os.tl.hd
  have he : (mv_W ca zt ad h n)[r]? = some (ad r, .inl (ca 2, N, .inl fun j => Int32.ofInt (f j))) := mv_W_is hr hh
  obtain ⟨g1, g2⟩ := gn_in ha0 hi hN
  have kk' := kk p e s m args below meth c D ca zt A n0 ad0 C H locs ls ad hS hP hD hl hn ha oh ol (ok_S.cons trivial os.tl.tl)
  exact va_cald C.1 C.2.1 C.2.2.2.2.2.2.2.2.1.1 hP r 2 he rfl g1 hd (by rw [g2]; exact kk')
theorem go_lald {r i N : Nat} {f : Nat → Int} {a : Int} (hd : decode M.2.1 pc = .ok (.laload, 1)) (hp : pc + 1 = q) (hh : h r = mv_A 1 N f) (ha0 : a = (i : Int)) (hi : i < N) (hN : N < 2147483648) (kk : Go φ l M R u q L (mv_L (f i) :: st) h n) : Go φ l M R u pc L (mv_I a :: mv_R r :: st) h n := by
  subst hp
  intro p e s m args below meth c D ca zt A n0 ad0 C H locs ls ad hS hP hD hl hn ha oh ol os
  have hr : r < n := os.tl.hd
  have he : (mv_W ca zt ad h n)[r]? = some (ad r, .inl (ca 1, N, .inr (.inl fun j => Int64.ofInt (f j)))) := mv_W_is hr hh
  obtain ⟨g1, g2⟩ := gn_in ha0 hi hN
  have kk' := kk p e s m args below meth c D ca zt A n0 ad0 C H locs ls ad hS hP hD hl hn ha oh ol (ok_S.cons trivial os.tl.tl)
  exact va_lald C.1 C.2.1 C.2.2.2.2.2.2.2.2.1.1 hP r 1 he rfl g1 hd (by rw [g2]; exact kk')
theorem go_iast {r i N : Nat} {f : Nat → Int} {a x : Int} (hd : decode M.2.1 pc = .ok (.iastore, 1)) (hp : pc + 1 = q) (hh : h r = mv_A 0 N f) (ha0 : a = (i : Int)) (hi : i < N) (hN : N < 2147483648) (kk : Go φ l M R u q L st (va_up h r (mv_A 0 N (va_up f i x))) n) : Go φ l M R u pc L (mv_I x :: mv_I a :: mv_R r :: st) h n := by
  subst hp
  intro p e s m args below meth c D ca zt A n0 ad0 C H locs ls ad hS hP hD hl hn ha oh ol os
  have hr : r < n := os.tl.tl.hd
  have he : (mv_W ca zt ad h n)[r]? = some (ad r, .inl (ca 0, N, .inl (fun j => Int32.ofInt (f j)))) := mv_W_is hr hh
  obtain ⟨g1, g2⟩ := gn_in ha0 hi hN
  have hset : ∀ (P : va_W → Prop), P ((mv_W ca zt ad h n).set r (ad r, .inl (ca 0, N, .inl (upd (fun j => Int32.ofInt (f j)) i (Int32.ofInt x))))) → P (mv_W ca zt ad (va_up h r (mv_A 0 N (va_up f i x))) n) := by
    intro P hp
    rw [← mv_W_set]
    show P ((mv_W ca zt ad h n).set r (ad r, .inl (ca 0, N, .inl (fun j => Int32.ofInt (va_up f i x j)))))
    have hf : (fun j => Int32.ofInt (va_up f i x j)) = upd (fun j => Int32.ofInt (f j)) i (Int32.ofInt x) := by
      funext j
      unfold upd va_up
      by_cases hj : j = i
      · rw [if_pos hj, if_pos hj]
      · rw [if_neg hj, if_neg hj]
    rw [hf]
    exact hp
  exact va_iast C.1 C.2.1 C.2.2.2.2.2.2.2.2.1.1 hP hD hS r 0 he rfl g1 hd (fun H1 locs1 hP1 hD1 hS1 => by
    rw [g2] at hP1 hD1
    exact kk p e s m args below meth c D ca zt A n0 ad0 C H1 locs1 ls ad hS1 (hset (fun w => va_P D vwCl w H1) hP1) (hset (fun w => va_D A w) hD1) hl hn ha (oh.up trivial) ol os.tl.tl.tl)
theorem go_cast {r i N : Nat} {f : Nat → Int} {a x : Int} (hd : decode M.2.1 pc = .ok (.castore, 1)) (hp : pc + 1 = q) (hh : h r = mv_A 2 N f) (ha0 : a = (i : Int)) (hi : i < N) (hN : N < 2147483648) (hx : 0 ≤ x ∧ x ≤ 65535) (kk : Go φ l M R u q L st (va_up h r (mv_A 2 N (va_up f i x))) n) : Go φ l M R u pc L (mv_I x :: mv_I a :: mv_R r :: st) h n := by
  subst hp
  intro p e s m args below meth c D ca zt A n0 ad0 C H locs ls ad hS hP hD hl hn ha oh ol os
  have hr : r < n := os.tl.tl.hd
  have he : (mv_W ca zt ad h n)[r]? = some (ad r, .inl (ca 2, N, .inl (fun j => Int32.ofInt (f j)))) := mv_W_is hr hh
  obtain ⟨g1, g2⟩ := gn_in ha0 hi hN
  have hset : ∀ (P : va_W → Prop), P ((mv_W ca zt ad h n).set r (ad r, .inl (ca 2, N, .inl (upd (fun j => Int32.ofInt (f j)) i (vp_nar .char (Int32.ofInt x)))))) → P (mv_W ca zt ad (va_up h r (mv_A 2 N (va_up f i x))) n) := by
    intro P hp
    rw [← mv_W_set]
    show P ((mv_W ca zt ad h n).set r (ad r, .inl (ca 2, N, .inl (fun j => Int32.ofInt (va_up f i x j)))))
    have hf : (fun j => Int32.ofInt (va_up f i x j)) = upd (fun j => Int32.ofInt (f j)) i (vp_nar .char (Int32.ofInt x)) := by
      rw [gn_char hx]
      funext j
      unfold upd va_up
      by_cases hj : j = i
      · rw [if_pos hj, if_pos hj]
      · rw [if_neg hj, if_neg hj]
    rw [hf]
    exact hp
  exact va_cast C.1 C.2.1 C.2.2.2.2.2.2.2.2.1.1 hP hD hS r 2 he rfl g1 hd (fun H1 locs1 hP1 hD1 hS1 => by
    rw [g2] at hP1 hD1
    exact kk p e s m args below meth c D ca zt A n0 ad0 C H1 locs1 ls ad hS1 (hset (fun w => va_P D vwCl w H1) hP1) (hset (fun w => va_D A w) hD1) hl hn ha (oh.up trivial) ol os.tl.tl.tl)
theorem go_last {r i N : Nat} {f : Nat → Int} {a x : Int} (hd : decode M.2.1 pc = .ok (.lastore, 1)) (hp : pc + 1 = q) (hh : h r = mv_A 1 N f) (ha0 : a = (i : Int)) (hi : i < N) (hN : N < 2147483648) (kk : Go φ l M R u q L st (va_up h r (mv_A 1 N (va_up f i x))) n) : Go φ l M R u pc L (mv_L x :: mv_I a :: mv_R r :: st) h n := by
  subst hp
  intro p e s m args below meth c D ca zt A n0 ad0 C H locs ls ad hS hP hD hl hn ha oh ol os
  have hr : r < n := os.tl.tl.hd
  have he : (mv_W ca zt ad h n)[r]? = some (ad r, .inl (ca 1, N, .inr (.inl (fun j => Int64.ofInt (f j))))) := mv_W_is hr hh
  obtain ⟨g1, g2⟩ := gn_in ha0 hi hN
  have hset : ∀ (P : va_W → Prop), P ((mv_W ca zt ad h n).set r (ad r, .inl (ca 1, N, .inr (.inl (vp_updL (fun j => Int64.ofInt (f j)) i (Int64.ofInt x)))))) → P (mv_W ca zt ad (va_up h r (mv_A 1 N (va_up f i x))) n) := by
    intro P hp
    rw [← mv_W_set]
    show P ((mv_W ca zt ad h n).set r (ad r, .inl (ca 1, N, .inr (.inl (fun j => Int64.ofInt (va_up f i x j))))))
    have hf : (fun j => Int64.ofInt (va_up f i x j)) = vp_updL (fun j => Int64.ofInt (f j)) i (Int64.ofInt x) := by
      funext j
      unfold vp_updL va_up
      by_cases hj : j = i
      · rw [if_pos hj, if_pos hj]
      · rw [if_neg hj, if_neg hj]
    rw [hf]
    exact hp
  exact va_last C.1 C.2.1 C.2.2.2.2.2.2.2.2.1.1 hP hD hS r 1 he rfl g1 hd (fun H1 locs1 hP1 hD1 hS1 => by
    rw [g2] at hP1 hD1
    exact kk p e s m args below meth c D ca zt A n0 ad0 C H1 locs1 ls ad hS1 (hset (fun w => va_P D vwCl w H1) hP1) (hset (fun w => va_D A w) hD1) hl hn ha (oh.up trivial) ol os.tl.tl.tl)
theorem go_alen {r t N : Nat} {f : Nat → Int} {ty : FieldType} (hd : decode M.2.1 pc = .ok (.arraylength, 1)) (hp : pc + 1 = q) (hh : h r = mv_A t N f) (ht : ∀ ca, (cx_ty ca)[t]? = some (ca t, ty)) (kk : Go φ l M R u q L (mv_I (N : Int) :: st) h n) : Go φ l M R u pc L (mv_R r :: st) h n := by
  subst hp
  intro p e s m args below meth c D ca zt A n0 ad0 C H locs ls ad hS hP hD hl hn ha oh ol os
  have hr : r < n := os.hd
  have he : (mv_W ca zt ad h n)[r]? = some (ad r, .inl (ca t, N, mv_a t f)) := mv_W_is hr hh
  have kk' := kk p e s m args below meth c D ca zt A n0 ad0 C H locs ls ad hS hP hD hl hn ha oh ol (ok_S.cons trivial os.tl)
  exact va_alen C.1 C.2.1 C.2.2.2.2.2.2.2.2.1.1 hP r t he (ht ca) Int32.ofInt_eq_ofNat.symm hd kk'
theorem go_aald {r i N j : Nat} {f : Nat → Option Nat} {a : Int} (hd : decode M.2.1 pc = .ok (.aaload, 1)) (hp : pc + 1 = q) (hh : h r = mv_Q 3 N f) (ha0 : a = (i : Int)) (hi : i < N) (hN : N < 2147483648) (hj : f i = some j) (kk : Go φ l M R u q L (mv_R j :: st) h n) : Go φ l M R u pc L (mv_I a :: mv_R r :: st) h n := by
  subst hp
  intro p e s m args below meth c D ca zt A n0 ad0 C H locs ls ad hS hP hD hl hn ha oh ol os
  have hr : r < n := os.tl.hd
  have he : (mv_W ca zt ad h n)[r]? = some (ad r, .inl (ca 3, N, .inr (.inr (.inr (.inr fun j => (f j).map ad))))) := mv_W_is hr hh
  obtain ⟨g1, g2⟩ := gn_in ha0 hi hN
  have oj : ok_V n (mv_R j) := by
    have h1 := oh r hr
    rw [hh] at h1
    exact h1 i j hj
  have kk' := kk p e s m args below meth c D ca zt A n0 ad0 C H locs ls ad hS hP hD hl hn ha oh ol (ok_S.cons oj os.tl.tl)
  exact va_aldq C.1 C.2.1 C.2.2.2.2.2.2.2.2.1.1 hP r 3 he rfl g1 hd (by rw [g2, hj]; exact kk')
theorem go_aast {r i N j ci : Nat} {f : Nat → Option Nat} {a : Int} {fs : List mv_V} {T : u_T} {N0 : Nat} (hd : decode M.2.1 pc = .ok (.aastore, 1)) (hp : pc + 1 = q) (hh : h r = mv_Q 3 N f) (ha0 : a = (i : Int)) (hi : i < N) (hN : N < 2147483648) (hj : h j = mv_O ci fs) (hc : vwCl[ci]? = some (cx_RF, T, N0)) (kk : Go φ l M R u q L st (va_up h r (mv_Q 3 N (va_up f i (some j)))) n) : Go φ l M R u pc L (mv_R j :: mv_I a :: mv_R r :: st) h n := by
  subst hp
  intro p e s m args below meth c D ca zt A n0 ad0 C H locs ls ad hS hP hD hl hn ha oh ol os
  have hr : r < n := os.tl.tl.hd
  have hjn : j < n := os.hd
  have he : (mv_W ca zt ad h n)[r]? = some (ad r, .inl (ca 3, N, .inr (.inr (.inr (.inr fun j => (f j).map ad))))) := mv_W_is hr hh
  have hej : (mv_W ca zt ad h n)[j]? = some (ad j, .inr (ci, fs.map (mv_c zt ad))) := mv_W_is hjn hj
  obtain ⟨g1, g2⟩ := gn_in ha0 hi hN
  have hset : ∀ (P : va_W → Prop), P ((mv_W ca zt ad h n).set r (ad r, .inl (ca 3, N, .inr (.inr (.inr (.inr (va_up (fun j => (f j).map ad) i (some (ad j))))))))) → P (mv_W ca zt ad (va_up h r (mv_Q 3 N (va_up f i (some j)))) n) := by
    intro P hp
    rw [← mv_W_set]
    show P ((mv_W ca zt ad h n).set r (ad r, .inl (ca 3, N, .inr (.inr (.inr (.inr fun k => (va_up f i (some j) k).map ad))))))
    have hf : (fun k => (va_up f i (some j) k).map ad) = va_up (fun j => (f j).map ad) i (some (ad j)) := by
      funext k
      unfold va_up
      by_cases hk : k = i
      · rw [if_pos hk, if_pos hk]; rfl
      · rw [if_neg hk, if_neg hk]
    rw [hf]
    exact hp
  have oh' : ok_H n (va_up h r (mv_Q 3 N (va_up f i (some j)))) := by
    refine oh.up fun k i' hk => ?_
    have h1 := oh r hr
    rw [hh] at h1
    unfold va_up at hk
    by_cases hki : k = i
    · rw [if_pos hki] at hk
      cases hk
      exact hjn
    · rw [if_neg hki] at hk
      exact h1 k i' hk
  exact va_astq C.1 C.2.1 C.2.2.2.2.2.2.2.2.1.1 hP hD hS r 3 j ci he rfl hej hc g1 hd (fun H1 locs1 hP1 hD1 hS1 => by
    rw [g2] at hP1 hD1
    exact kk p e s m args below meth c D ca zt A n0 ad0 C H1 locs1 ls ad hS1 (hset (fun w => va_P D vwCl w H1) hP1) (hset (fun w => va_D A w) hD1) hl hn ha oh' ol os.tl.tl.tl)
/-- a new cell: what the world is then -/
theorem go_born {x : mv_E} {zt ad : Nat → Nat} {ca : Nat → ClassId} {a : Nat} {ls : Array Slot} {n0 : Nat} {ad0 : Nat → Nat} {nL : Nat} {e : va_E} (hl : mv_ls zt ad ls nL L) (hn : n0 ≤ n) (ha : ∀ i, i < n0 → ad i = ad0 i) (oh : ok_H n h) (ol : ok_L n L) (os : ok_S n st) (ox : ok_E (n + 1) x) (he : mv_e ca zt (va_up ad n a) x = e) :
    mv_W ca zt ad h n ++ [(a, e)] = mv_W ca zt (va_up ad n a) (va_up h n x) (n + 1) ∧ mv_ls zt (va_up ad n a) ls nL L ∧ n0 ≤ n + 1 ∧ (∀ i, i < n0 → va_up ad n a i = ad0 i) ∧ ok_H (n + 1) (va_up h n x) ∧ ok_L (n + 1) L ∧ ok_S (n + 1) (mv_R n :: st) ∧ Value.ref a :: st.map (mv_c zt ad) = (mv_R n :: st).map (mv_c zt (va_up ad n a)) := by
  have hx : ∀ i, i < n → va_up ad n a i = ad i := fun i hi => va_up_ne _ _ (Nat.ne_of_lt hi)
  refine ⟨mv_W_push oh he, hl.congr ol hx, Nat.le_succ_of_le hn, fun i hi => (hx i (Nat.lt_of_lt_of_le hi hn)).trans (ha i hi), oh.push ox, ol.mono (Nat.le_succ n), ok_S.cons (Nat.lt_succ_self n) (os.mono (Nat.le_succ n)), ?_⟩
  rw [List.map_cons, mv_map_congr os hx]
  show _ = Value.ref (va_up ad n a n) :: _
  rw [va_up_self]
theorem go_new {idx ci N : Nat} {C' : String} {T : u_T} {ty0 : Nat → FieldType} {fs : List mv_V} (hc : go_cls ci C' T N ty0) (hw1 : Cond.classLink M.1.cls idx C' ∈ go_T) (hw2 : Cond.instantiable C' N ∈ go_T) (hw3 : Cond.initialized C' ∈ go_T) (hd : decode M.2.1 pc = .ok (.new idx, 3)) (hp : pc + 3 = q) (hfs : ∀ j, j < N → ∀ zt ad, defaultValue (ty0 j) = vp_V (fs.map (mv_c zt ad)) j) (hok : ok_S 0 fs) (hr1 : u.1 + 1 ≤ R.cells) (hr2 : u.2 + N ≤ R.slots)
    (kk : Go φ l M R (u.1 + 1, u.2 + N) q L (mv_R n :: st) (va_up h n (mv_O ci fs)) (n + 1)) : Go φ l M R u pc L st h n := by
  subst hp
  obtain ⟨hci, hin, hty, hnm⟩ := hc
  intro p e s m args below meth c D ca zt A n0 ad0 C H locs ls ad hS hP hD hl hn ha oh ol os
  obtain ⟨c1, c2, c3, c4, c5, c6, c7, c8, ⟨k1, k2, k3⟩, c10⟩ := id C
  refine va_new (fs := fs.map (mv_c zt ad)) c1 c2 c8 hin ty0 hty c7 (c8 _ hw1) (c8 _ hw2) (c8 _ hw3) k1 hP hD hS c10 hci (fun j hj => hfs j hj zt ad) hr1 hr2 hd (fun a H1 hP1 hD1 hS1 => ?_)
  have he : mv_e ca zt (va_up ad n a) (mv_O ci fs) = .inr (ci, fs.map (mv_c zt ad)) := by
    show (Sum.inr (ci, fs.map (mv_c zt (va_up ad n a))) : va_E) = _
    rw [mv_map_congr hok (fun i hi => absurd hi (Nat.not_lt_zero i))]
  obtain ⟨b1, b2, b3, b4, b5, b6, b7, b8⟩ := go_born (x := mv_O ci fs) (a := a) hl hn ha oh ol os (fun v hv => (hok v hv).mono (Nat.zero_le _)) he
  rw [b1] at hP1 hD1
  rw [b8]
  exact kk p e s m args below meth c D ca zt A n0 ad0 C H1 locs ls (va_up ad n a) hS1 hP1 hD1 b2 b3 b4 b5 b6 b7
theorem go_newI {N : Nat} {a : Int} (hw : Cond.arrayClass .int ∈ go_T) (hd : decode M.2.1 pc = .ok (.newarray .int, 2)) (hp : pc + 2 = q) (ha0 : a = (N : Int)) (hN : N * componentBytes .int ≤ 536870912) (hN2 : N < 2147483648) (hr1 : u.1 + 1 ≤ R.cells) (hr2 : u.2 + N ≤ R.slots)
    (kk : Go φ l M R (u.1 + 1, u.2 + N) q L (mv_R n :: st) (va_up h n (mv_A 0 N (fun _ => 0))) (n + 1)) : Go φ l M R u pc L (mv_I a :: st) h n := by
  subst hp
  subst ha0
  intro p e s m args below meth c D ca zt A n0 ad0 C H locs ls ad hS hP hD hl hn ha oh ol os
  obtain ⟨c1, c2, c3, c4, c5, c6, c7, c8, ⟨k1, k2, k3⟩, c10⟩ := id C
  have g1 : ¬ (Int32.ofInt (N : Int)) < 0 := by rw [gn_nI]; exact nI_pos (by omega)
  have g2 : (Int32.ofInt (N : Int)).toNatClampNeg = N := by rw [gn_nI]; exact nI_clamp (by omega)
  refine va_newa (atype := .int) (ty := .int) (a0 := (N, .inl (fun _ => Int32.ofInt 0))) c1 c2 (c8 _ hw) rfl k1 hP hD hS c10 (fun cA => rfl) g1 g2 hN hr1 hr2 hd (fun a cA H1 hK1 hP1 hD1 hS1 => ?_)
  have e1 : s.vm.findClass ("[" ++ (FieldType.int).toString) = some cA := (hK1.2 4 (cA, .int) rfl).2
  have e2 : s.vm.findClass ("[" ++ (FieldType.int).toString) = some (ca 0) := (k1.2 0 (ca 0, .int) rfl).2
  have e3 : cA = ca 0 := Option.some.inj (e1.symm.trans e2)
  subst e3
  obtain ⟨b1, b2, b3, b4, b5, b6, b7, b8⟩ := go_born (ca := ca) (x := mv_A 0 N (fun _ => 0)) (a := a) hl hn ha oh ol os.tl trivial rfl
  replace hP1 : va_P D vwCl (mv_W ca zt ad h n ++ [(a, mv_e ca zt (va_up ad n a) (mv_A 0 N (fun _ => 0)))]) H1 := hP1
  replace hD1 : va_D A (mv_W ca zt ad h n ++ [(a, mv_e ca zt (va_up ad n a) (mv_A 0 N (fun _ => 0)))]) := hD1
  rw [b1] at hP1 hD1
  rw [b8]
  exact kk p e s m args below meth c D ca zt A n0 ad0 C H1 locs ls (va_up ad n a) hS1 hP1 hD1 b2 b3 b4 b5 b6 b7
theorem go_newL {N : Nat} {a : Int} (hw : Cond.arrayClass .long ∈ go_T) (hd : decode M.2.1 pc = .ok (.newarray .long, 2)) (hp : pc + 2 = q) (ha0 : a = (N : Int)) (hN : N * componentBytes .long ≤ 536870912) (hN2 : N < 2147483648) (hr1 : u.1 + 1 ≤ R.cells) (hr2 : u.2 + N ≤ R.slots)
    (kk : Go φ l M R (u.1 + 1, u.2 + N) q L (mv_R n :: st) (va_up h n (mv_A 1 N (fun _ => 0))) (n + 1)) : Go φ l M R u pc L (mv_I a :: st) h n := by
  subst hp
  subst ha0
  intro p e s m args below meth c D ca zt A n0 ad0 C H locs ls ad hS hP hD hl hn ha oh ol os
  obtain ⟨c1, c2, c3, c4, c5, c6, c7, c8, ⟨k1, k2, k3⟩, c10⟩ := id C
  have g1 : ¬ (Int32.ofInt (N : Int)) < 0 := by rw [gn_nI]; exact nI_pos (by omega)
  have g2 : (Int32.ofInt (N : Int)).toNatClampNeg = N := by rw [gn_nI]; exact nI_clamp (by omega)
  refine va_newa (atype := .long) (ty := .long) (a0 := (N, .inr (.inl (fun _ => Int64.ofInt 0)))) c1 c2 (c8 _ hw) rfl k1 hP hD hS c10 (fun cA => rfl) g1 g2 hN hr1 hr2 hd (fun a cA H1 hK1 hP1 hD1 hS1 => ?_)
  have e1 : s.vm.findClass ("[" ++ (FieldType.long).toString) = some cA := (hK1.2 4 (cA, .long) rfl).2
  have e2 : s.vm.findClass ("[" ++ (FieldType.long).toString) = some (ca 1) := (k1.2 1 (ca 1, .long) rfl).2
  have e3 : cA = ca 1 := Option.some.inj (e1.symm.trans e2)
  subst e3
  obtain ⟨b1, b2, b3, b4, b5, b6, b7, b8⟩ := go_born (ca := ca) (x := mv_A 1 N (fun _ => 0)) (a := a) hl hn ha oh ol os.tl trivial rfl
  replace hP1 : va_P D vwCl (mv_W ca zt ad h n ++ [(a, mv_e ca zt (va_up ad n a) (mv_A 1 N (fun _ => 0)))]) H1 := hP1
  replace hD1 : va_D A (mv_W ca zt ad h n ++ [(a, mv_e ca zt (va_up ad n a) (mv_A 1 N (fun _ => 0)))]) := hD1
  rw [b1] at hP1 hD1
  rw [b8]
  exact kk p e s m args below meth c D ca zt A n0 ad0 C H1 locs ls (va_up ad n a) hS1 hP1 hD1 b2 b3 b4 b5 b6 b7
theorem go_newC {N : Nat} {a : Int} (hw : Cond.arrayClass .char ∈ go_T) (hd : decode M.2.1 pc = .ok (.newarray .char, 2)) (hp : pc + 2 = q) (ha0 : a = (N : Int)) (hN : N * componentBytes .char ≤ 536870912) (hN2 : N < 2147483648) (hr1 : u.1 + 1 ≤ R.cells) (hr2 : u.2 + N ≤ R.slots)
    (kk : Go φ l M R (u.1 + 1, u.2 + N) q L (mv_R n :: st) (va_up h n (mv_A 2 N (fun _ => 0))) (n + 1)) : Go φ l M R u pc L (mv_I a :: st) h n := by
  subst hp
  subst ha0
  intro p e s m args below meth c D ca zt A n0 ad0 C H locs ls ad hS hP hD hl hn ha oh ol os
  obtain ⟨c1, c2, c3, c4, c5, c6, c7, c8, ⟨k1, k2, k3⟩, c10⟩ := id C
  have g1 : ¬ (Int32.ofInt (N : Int)) < 0 := by rw [gn_nI]; exact nI_pos (by omega)
  have g2 : (Int32.ofInt (N : Int)).toNatClampNeg = N := by rw [gn_nI]; exact nI_clamp (by omega)
  refine va_newa (atype := .char) (ty := .char) (a0 := (N, .inl (fun _ => Int32.ofInt 0))) c1 c2 (c8 _ hw) rfl k1 hP hD hS c10 (fun cA => rfl) g1 g2 hN hr1 hr2 hd (fun a cA H1 hK1 hP1 hD1 hS1 => ?_)
  have e1 : s.vm.findClass ("[" ++ (FieldType.char).toString) = some cA := (hK1.2 4 (cA, .char) rfl).2
  have e2 : s.vm.findClass ("[" ++ (FieldType.char).toString) = some (ca 2) := (k1.2 2 (ca 2, .char) rfl).2
  have e3 : cA = ca 2 := Option.some.inj (e1.symm.trans e2)
  subst e3
  obtain ⟨b1, b2, b3, b4, b5, b6, b7, b8⟩ := go_born (ca := ca) (x := mv_A 2 N (fun _ => 0)) (a := a) hl hn ha oh ol os.tl trivial rfl
  replace hP1 : va_P D vwCl (mv_W ca zt ad h n ++ [(a, mv_e ca zt (va_up ad n a) (mv_A 2 N (fun _ => 0)))]) H1 := hP1
  replace hD1 : va_D A (mv_W ca zt ad h n ++ [(a, mv_e ca zt (va_up ad n a) (mv_A 2 N (fun _ => 0)))]) := hD1
  rw [b1] at hP1 hD1
  rw [b8]
  exact kk p e s m args below meth c D ca zt A n0 ad0 C H1 locs ls (va_up ad n a) hS1 hP1 hD1 b2 b3 b4 b5 b6 b7
theorem go_newQ {N idx : Nat} {a : Int} (hw1 : Cond.classLink M.1.cls idx cx_RF ∈ go_T) (hd : decode M.2.1 pc = .ok (.anewarray idx, 3)) (hp : pc + 3 = q) (ha0 : a = (N : Int)) (hN : N * 4 ≤ 536870912) (hN2 : N < 2147483648) (hr1 : u.1 + 1 ≤ R.cells) (hr2 : u.2 + N ≤ R.slots)
    (kk : Go φ l M R (u.1 + 1, u.2 + N) q L (mv_R n :: st) (va_up h n (mv_Q 3 N (fun _ => none))) (n + 1)) : Go φ l M R u pc L (mv_I a :: st) h n := by
  subst hp
  subst ha0
  intro p e s m args below meth c D ca zt A n0 ad0 C H locs ls ad hS hP hD hl hn ha oh ol os
  obtain ⟨c1, c2, c3, c4, c5, c6, c7, c8, ⟨k1, k2, k3⟩, c10⟩ := id C
  have g1 : ¬ (Int32.ofInt (N : Int)) < 0 := by rw [gn_nI]; exact nI_pos (by omega)
  have g2 : (Int32.ofInt (N : Int)).toNatClampNeg = N := by rw [gn_nI]; exact nI_clamp (by omega)
  refine va_newq c1 c2 c7 (c8 _ hw1) k3.2.2.2.2.2.2.2.2.2 k1 hP hD hS c10 g1 g2 hN hr1 hr2 hd (fun a cA H1 hK1 hP1 hD1 hS1 => ?_)
  obtain ⟨kA, comp, f1, f2, f3, e1⟩ := (hK1.2 4 (cA, .object cx_RF) rfl).2
  obtain ⟨kA', comp', f1', f2', f3', e2⟩ := (k1.2 3 (ca 3, .object cx_RF) rfl).2
  have e3 : cA = ca 3 := Option.some.inj (e1.symm.trans e2)
  subst e3
  obtain ⟨b1, b2, b3, b4, b5, b6, b7, b8⟩ := go_born (ca := ca) (x := mv_Q 3 N (fun _ => none)) (a := a) hl hn ha oh ol os.tl (fun j i hj => by cases hj) rfl
  replace hP1 : va_P D vwCl (mv_W ca zt ad h n ++ [(a, mv_e ca zt (va_up ad n a) (mv_Q 3 N (fun _ => none)))]) H1 := hP1
  replace hD1 : va_D A (mv_W ca zt ad h n ++ [(a, mv_e ca zt (va_up ad n a) (mv_Q 3 N (fun _ => none)))]) := hD1
  rw [b1] at hP1 hD1
  rw [b8]
  exact kk p e s m args below meth c D ca zt A n0 ad0 C H1 locs ls (va_up ad n a) hS1 hP1 hD1 b2 b3 b4 b5 b6 b7
end GoHeap
end
section
/-! THE PURE MACHINE, part 4: methods ('Fn': a method's contract), their ends, and calls. -/
def fn_Q (D : va_G) (ca : Nat → ClassId) (zt ad : Nat → Nat) (n : Nat) (A : Nat → Prop) (Q : Option mv_V → mv_H → Nat → Prop) : Array Value → State → Outcome → State → Prop := fun _ st oc t =>
  (∃ (v : Option mv_V) (h' : mv_H) (n' : Nat) (ad' : Nat → Nat), oc = .returned (v.map (mv_c zt ad')) ∧ Q v h' n' ∧ n ≤ n' ∧ (∀ i, i < n → ad' i = ad i) ∧ ok_H n' h' ∧ ok_S n' v.toList ∧ va_P D vwCl (mv_W ca zt ad' h' n') t.heap ∧ va_D A (mv_W ca zt ad' h' n')) ∧ va_F A st t
def fn_P (D : va_G) (ca : Nat → ClassId) (zt ad : Nat → Nat) (as : List mv_V) (h : mv_H) (n sz : Nat) : Array Value → State → Prop :=
  va_Pc (as.map (mv_c zt ad)) fun U => U.heap.size = sz ∧ va_P D vwCl (mv_W ca zt ad h n) U.heap ∧ va_D (fun _ => True) (mv_W ca zt ad h n) ∧ cx_K D ca zt (va_A (mv_W ca zt ad h n) sz) U U.heap
/-- the method M, called with 'as' in the world of the n cells h, with d frames, w words of locals, mc cells and ms slots of room, returns, and Q holds of its answer, the cells and their number then -/
def Fn (l : Launch) (M : go_M) (d w mc ms : Nat) (as : List mv_V) (h : mv_H) (n : Nat) (Q : Option mv_V → mv_H → Nat → Prop) : Prop :=
  ∀ (D : va_G) (ca : Nat → ClassId) (zt ad : Nat → Nat) (sz : Nat), ok_H n h → ok_S n as →
    Met l M.1 (Cond.code M.1 M.2.1 M.2.2.1 M.2.2.2 :: go_T) (go_rm d w mc ms) (fn_P D ca zt ad as h n sz) (fn_Q D ca zt ad n (va_A (mv_W ca zt ad h n) sz) Q) mc ms (va_A (mv_W ca zt ad h n) sz)
def go_f (mc ms : Nat) (Q : Option mv_V → mv_H → Nat → Prop) : go_F := fun below args s A D ca zt n0 ad0 => MQ below (fn_Q D ca zt ad0 n0 A Q) args s mc ms A
theorem fn_of {l : Launch} {M : go_M} {d w mc ms : Nat} {as : List mv_V} {h : mv_H} {n : Nat} {Q : Option mv_V → mv_H → Nat → Prop} {L : List (Option mv_V)} (hy : plainName M.1.cls = true) (hlen : (mv_sl as).length ≤ M.2.2.1) (hL : mv_en as M.2.2.1 = L) (hb : Go (go_f mc ms Q) l M (go_rm d w mc ms) (0, 0) 0 L [] h n) : Fn l M d w mc ms as h n Q := by
  subst hL
  intro D ca zt ad sz oh oa
  refine Met.ofW (cc := M.2.1) (maxL := M.2.2.1) (ret := M.2.2.2) hy rfl ?_
  intro p e s m args below meth c s₁ B hml hv
  obtain ⟨rfl, hsz, hP, hD0, hK⟩ := hv
  subst hsz
  have hD := hD0.self (sz := s.heap.size)
  have hts := atoms_spec (ws := Cond.code M.1 M.2.1 M.2.2.1 M.2.2.2 :: go_T) B.pre
  have hl := lv_entry (as.map (mv_c zt ad)) (n := M.2.2.1) (by rw [mv_sl_len]; exact hlen)
  rw [lg_entry_eq]
  exact hb p e s m _ below meth c D ca zt (va_A (mv_W ca zt ad h n) s.heap.size) n ad ⟨B.exec, B.bytes, hml, B.returns, B.notSynchronized, (name_of_methodNamed B.named B.method).1, findClass_of_methodNamed B.named, fun w hw => hts w (List.mem_cons_of_mem _ hw), hK, fun q hq => Or.inr hq⟩ s.heap [] _ ad va_S.rf hP hD (mv_ls_en hl) (Nat.le_refl _) (fun _ _ => rfl) oh (ok_L_en oa) ok_S.nil
theorem fn_mono {l : Launch} {M : go_M} {d w mc ms : Nat} {as : List mv_V} {h : mv_H} {n : Nat} {Q Q' : Option mv_V → mv_H → Nat → Prop} (hF : Fn l M d w mc ms as h n Q) (hq : ∀ v h' n', Q v h' n' → Q' v h' n') : Fn l M d w mc ms as h n Q' := by
  intro D ca zt ad sz oh oa
  have hM := hF D ca zt ad sz oh oa
  intro p e ha hc hk s m args below hf happ hP hK
  obtain ⟨k, o, h1, h2, h3, ⟨⟨v, h', n', ad', q1, q2, q3⟩, hF2⟩, h5⟩ := hM p e ha hc hk s m args below hf happ hP hK
  exact ⟨k, o, h1, h2, h3, ⟨⟨v, h', n', ad', q1, hq _ _ _ q2, q3⟩, hF2⟩, h5⟩
section GoEnds
variable {l : Launch} {M : go_M} {R : Room} {u : Nat × Nat} {pc mc ms : Nat} {L : List (Option mv_V)} {h : mv_H} {n : Nat} {Q : Option mv_V → mv_H → Nat → Prop}
theorem go_vret (hd : decode M.2.1 pc = .ok (.return_, 1)) (hr : M.2.2.2 = none) (hu : u.1 ≤ mc ∧ u.2 ≤ ms) (hQ : Q none h n) : Go (go_f mc ms Q) l M R u pc L [] h n := by
  intro p e s m args below meth c D ca zt A n0 ad0 C H locs ls ad hS hP hD hl hn ha oh ol os
  refine W.widen hu.1 hu.2 ?_
  exact W.vret (hlocks := C.2.2.2.2.1) C.1 C.2.1 (C.2.2.2.1.trans hr) (fun t ht hW => ⟨⟨none, h, n, ad, rfl, hQ, hn, ha, oh, ok_S.nil, by rw [ht]; exact hP, hD⟩, hS.F ht⟩) hS.2.2 hd
theorem go_iret {z : Int} (hd : decode M.2.1 pc = .ok (.ireturn, 1)) (hr : M.2.2.2 = some .int) (hu : u.1 ≤ mc ∧ u.2 ≤ ms) (hQ : Q (some (mv_I z)) h n) : Go (go_f mc ms Q) l M R u pc L [mv_I z] h n := by
  intro p e s m args below meth c D ca zt A n0 ad0 C H locs ls ad hS hP hD hl hn ha oh ol os
  refine W.widen hu.1 hu.2 ?_
  exact W.iret (hlocks := C.2.2.2.2.1) C.1 C.2.1 (C.2.2.2.1.trans hr) (fun t ht hW => ⟨⟨some (mv_I z), h, n, ad, rfl, hQ, hn, ha, oh, os, by rw [ht]; exact hP, hD⟩, hS.F ht⟩) hS.2.2 hd
theorem go_zret {z : Int} {ty : FieldType} (hd : decode M.2.1 pc = .ok (.ireturn, 1)) (hr : M.2.2.2 = some ty) (hn0 : narrow ty (.int (Int32.ofInt z)) = .int (Int32.ofInt z)) (hu : u.1 ≤ mc ∧ u.2 ≤ ms) (hQ : Q (some (mv_I z)) h n) : Go (go_f mc ms Q) l M R u pc L [mv_I z] h n := by
  intro p e s m args below meth c D ca zt A n0 ad0 C H locs ls ad hS hP hD hl hn ha oh ol os
  refine W.widen hu.1 hu.2 ?_
  exact W.zret (hlocks := C.2.2.2.2.1) C.1 C.2.1 (C.2.2.2.1.trans hr) hn0 (fun t ht hW => ⟨⟨some (mv_I z), h, n, ad, rfl, hQ, hn, ha, oh, os, by rw [ht]; exact hP, hD⟩, hS.F ht⟩) hS.2.2 hd
theorem go_aret {r : Nat} {C0 : String} (hd : decode M.2.1 pc = .ok (.areturn, 1)) (hr : M.2.2.2 = some (.object C0)) (hu : u.1 ≤ mc ∧ u.2 ≤ ms) (hQ : Q (some (mv_R r)) h n) : Go (go_f mc ms Q) l M R u pc L [mv_R r] h n := by
  intro p e s m args below meth c D ca zt A n0 ad0 C H locs ls ad hS hP hD hl hn ha oh ol os
  refine W.widen hu.1 hu.2 ?_
  exact W.aret (hlocks := C.2.2.2.2.1) C.1 C.2.1 (C.2.2.2.1.trans hr) (Or.inl ⟨C0, rfl⟩) (Or.inr ⟨_, rfl⟩) (fun t ht hW => ⟨⟨some (mv_R r), h, n, ad, rfl, hQ, hn, ha, oh, os, by rw [ht]; exact hP, hD⟩, hS.F ht⟩) hS.2.2 hd
end GoEnds
/-! calls -/
/-- what the tables say of a method that is called -/
def go_met (M : go_M) (np : Nat) : Prop := Cond.code M.1 M.2.1 M.2.2.1 M.2.2.2 ∈ go_T ∧ Cond.initialized M.1.cls ∈ go_T ∧ (M.1.cls ≠ "java/lang/invoke/MethodHandle" ∧ M.1.cls ≠ "java/lang/invoke/VarHandle") ∧ (parseMethodDescriptor M.1.desc).map (fun d => d.parameters.length) = some np
/-- what 'idx' names in the class 'own' -/
def go_lnk (own : String) (idx : Nat) (M : go_M) : Prop := Cond.methodLink own idx M.1 ∈ go_T ∨ ∃ host, Cond.methodLinkNest own idx M.1 host ∈ go_N
/-- room for a call -/
def go_fit (R : Room) (u : Nat × Nat) (maxL d w mc ms : Nat) : Prop := d + 1 ≤ R.frames ∧ 8 + (maxL + 11) + w ≤ R.locals ∧ u.1 + mc ≤ R.cells ∧ u.2 + ms ≤ R.slots
theorem cx_call {D : va_G} {ca : Nat → ClassId} {zt : Nat → Nat} {A A' : Nat → Prop} {s U : State} {H : Heap} {locs : List Loc} (h : cx_K D ca zt A s s.heap) (hS : va_S A s.heap H locs) (hA : ∀ q, A' q → A q) (hU : U.heap = H) (hW : s.WarmedH U.vm) : cx_K D ca zt A' U U.heap := by
  subst hU
  exact ⟨va_K.moved hW.alike h.1, fun w hw => go_N_warm w hw hW (h.2.1 w hw), zz_moved hW (zz_narrow hA (zz_kept h.2.2 fun a h1 h2 => hS.2.1 a h1 h2))⟩
theorem cx_blind {D : va_G} {ca : Nat → ClassId} {zt : Nat → Nat} {A : Nat → Prop} {U : State} (h : cx_K D ca zt A U U.heap) (g : JFrame) (mk : MethodId) (a : Array Value) : cx_K D ca zt A (U.calling g mk a) (U.calling g mk a).heap :=
  ⟨va_K.moved (u := U) (U := U.calling g mk a) (Vm.Alike.refl U.vm) h.1, fun w hw => go_N_same w hw (u := U) (U := U.calling g mk a) rfl (h.2.1 w hw), zz_same (u := U) (U := U.calling g mk a) rfl h.2.2⟩
theorem fn_blind {D : va_G} {ca : Nat → ClassId} {zt ad : Nat → Nat} {as : List mv_V} {h : mv_H} {n sz : Nat} : FrameBlind (fn_P D ca zt ad as h n sz) := by
  intro a U g mk q
  obtain ⟨q0, q1, qP, qD, qK⟩ := q
  exact ⟨q0, q1, qP, qD, cx_blind qK g mk a⟩
theorem go_free {D : va_G} {ca : Nat → ClassId} {zt ad : Nat → Nat} {A : Nat → Prop} {s : State} {h : mv_H} {n : Nat} {H : Heap} {locs : List Loc} (hS : va_S A s.heap H locs) (hD : va_D A (mv_W ca zt ad h n)) (hA : ∀ q, s.heap.size ≤ q → A q) : ∀ q, va_A (mv_W ca zt ad h n) H.size q → A q := by
  intro q hq
  rcases hq with ⟨k, e, hk⟩ | hq
  · exact hD.2 k (q, e) hk
  · exact hA q (Nat.le_trans hS.1 hq)
section GoCalls
variable {φ : go_F} {l : Launch} {M M' : go_M} {R : Room} {u : Nat × Nat} {pc q : Nat} {L : List (Option mv_V)} {st : List mv_V} {h : mv_H} {n d w mc ms : Nat} {as rest : List mv_V} {Q : Option mv_V → mv_H → Nat → Prop}
/-- behind a call -/
theorem go_back {p : Program} {e : Env} {s : State} {m : MethodId} {args : Array Value} {below : List Frame} {meth : Method} {c : Code} {D : va_G} {ca : Nat → ClassId} {zt : Nat → Nat} {A : Nat → Prop} {n0 : Nat} {ad0 : Nat → Nat} (C : go_C M p s m args meth c D ca zt A)
    {H : Heap} {locs : List Loc} {ls : Array Slot} {ad : Nat → Nat} (hS : va_S A s.heap H locs) (hD : va_D A (mv_W ca zt ad h n)) (hl : mv_ls zt ad ls M.2.2.1 L) (hn : n0 ≤ n) (ha : ∀ i, i < n0 → ad i = ad0 i) (ol : ok_L n L) (os : ok_S n rest) {x : Array Value} {stv : List Value}
    (run : va_Run p l e R s m args below meth c H locs u.1 u.2 mc ms (F0 m pc ls stv) (rest.map (mv_c zt ad)) (fn_Q D ca zt ad n (va_A (mv_W ca zt ad h n) H.size) Q x) (va_A (mv_W ca zt ad h n) H.size))
    (k : ∀ v h' n', Q v h' n' → n ≤ n' → Go φ l M R (u.1 + mc, u.2 + ms) (pc + 3) L (v.toList ++ rest) h' n') : W p l e R s m args below meth c H locs u.1 u.2 (φ below args s A D ca zt n0 ad0) (F0 m pc ls stv) := by
  have hFc := go_free (D := D) hS hD C.2.2.2.2.2.2.2.2.2
  intro T hT X
  obtain ⟨v, st₀, t, T', L1, h0, X', hL, e1, e2, ⟨⟨v', h', n', ad', hv, hq, hnn, hadd, oh', ov, hP', hD'⟩, hz, hkp⟩, st⟩ := run T hT X
  have hv : v = v'.map (mv_c zt ad') := by injection hv
  subst hv
  rw [h0] at hz hkp
  have hS' : va_S A s.heap T'.heap (locs ++ L1) := ⟨Nat.le_trans hS.1 (by rw [e1]; exact hz), fun q h1 h2 => by
      rw [e1, hkp q (Nat.lt_of_lt_of_le h1 hS.1) (fun z => h2 (hFc q z))]; exact hS.2.1 q h1 h2, fun q hq => by
      rcases List.mem_append.mp hq with h | h
      · exact hS.2.2 q h
      · exact hFc _ (hL q h)⟩
  obtain ⟨t2, a1, b1⟩ := k v' h' n' hq hnn p e s m args below meth c D ca zt A n0 ad0 C T'.heap (locs ++ L1) ls ad' hS' (by rw [e1]; exact hP') (hD'.weaken fun _ q _ z => hFc q.1 z) (hl.congr ol hadd) (Nat.le_trans hn hnn) (fun i hi => (hadd i (Nat.lt_of_lt_of_le hi hn)).trans (ha i hi)) oh' (ol.mono hnn) (ov.app (os.mono hnn)) T' rfl X'
  refine ⟨t2, st t2 ?_, b1⟩
  have hst : (v'.toList ++ rest).map (mv_c zt ad') = (v'.map (mv_c zt ad')).toList ++ rest.map (mv_c zt ad) := by
    rw [List.map_append, mv_map_congr os hadd]
    cases v' <;> rfl
  rw [hst] at a1
  exact a1
theorem go_callV {idx np b ci : Nat} {fs : List mv_V} {T : u_T} {N : Nat} (hm : go_met M' np) (hv1 : Cond.instanceMethod M'.1 ∈ go_T) (hv2 : Cond.selects M'.1.cls M'.1 M'.1 ∈ go_T) (hlk : go_lnk M.1.cls idx M') (hd : decode M.2.1 pc = .ok (.invokevirtual idx, 3)) (hp : pc + 3 = q) (hst : st = as.reverse ++ mv_R b :: rest) (hnp : as.length = np) (hh : h b = mv_O ci fs) (hci : vwCl[ci]? = some (M'.1.cls, T, N)) (hw : (rest.map mv_k).sum ≤ 8) (hR : go_fit R u M'.2.2.1 d w mc ms)
    (hF : Fn l M' d w mc ms (mv_R b :: as) h n Q) (k : ∀ v h' n', Q v h' n' → n ≤ n' → Go φ l M R (u.1 + mc, u.2 + ms) q L (v.toList ++ rest) h' n') : Go φ l M R u pc L st h n := by
  subst hp
  subst hst
  intro p e s m args below meth c D ca zt A n0 ad0 C H locs ls ad hS hP hD hl hn ha oh ol os
  obtain ⟨c1, c2, c3, c4, c5, c6, c7, c8, k0, c10⟩ := id C
  obtain ⟨m1, m2, m3, m4⟩ := hm
  obtain ⟨r1, r2, r3, r4⟩ := hR
  have hFc := go_free (D := D) hS hD c10
  have hb : b < n := os.right.hd
  have he : (mv_W ca zt ad h n)[b]? = some (ad b, .inr (ci, fs.map (mv_c zt ad))) := mv_W_is hb hh
  have hM := hF D ca zt ad H.size oh (ok_S.cons os.right.hd os.left.rev)
  have hG : GoodIn go_T (Cond.code M'.1 M'.2.1 M'.2.2.1 M'.2.2.2 :: go_T) := go_good m1
  have hpre : PreV s H M'.1.cls (ad b) (fn_P D ca zt ad (mv_R b :: as) h n H.size) (as.map (mv_c zt ad)) :=
    ⟨fn_blind, va_recv k0.1 hP hci he, fun U hU hW => ⟨rfl, by rw [hU], by rw [hU]; exact hP, hD.weaken (fun _ _ _ _ => trivial), cx_call k0 hS hFc hU hW⟩⟩
  have hlen : ∀ sig, parseMethodDescriptor M'.1.desc = some sig → np = sig.parameters.length := fun sig hs => by
    rw [hs] at m4
    exact (Option.some.inj m4).symm
  have hsv : (as.reverse ++ mv_R b :: rest).map (mv_c zt ad) = (as.map (mv_c zt ad)).reverse ++ Value.ref (ad b) :: rest.map (mv_c zt ad) := by
    rw [List.map_append, List.map_reverse]; rfl
  have hw' : ((rest.map (mv_c zt ad)).map fun v => v.category).sum ≤ 8 := by rw [mv_sum]; exact hw
  rw [hsv]
  rcases hlk with hl1 | ⟨host, hl1⟩
  · refine go_back C hS hD hl hn ha ol os.right.tl (va_runV (As := as.map (mv_c zt ad)) (rest := rest.map (mv_c zt ad)) ⟨c1, c2, c3, c7, c8⟩ hM ⟨⟨rfl, rfl, r1, r2, pay_in c8 hG, List.mem_cons_self, c8 _ m1, c8 _ m2, m3, hlen, c8 _ hl1⟩, c8 _ hv1, c8 _ hv2⟩ hpre rfl (by simpa using hnp) hl.1 rfl (lv_room hw') hd ⟨r3, r4⟩) k
  · refine go_back C hS hD hl hn ha ol os.right.tl (va_runVN (As := as.map (mv_c zt ad)) (rest := rest.map (mv_c zt ad)) ⟨c1, c2, c3, c7, c8⟩ hM ⟨⟨⟨rfl, rfl, r1, r2, pay_in c8 hG, List.mem_cons_self⟩, c8 _ m1, c8 _ m2, m3, hlen, va_Nw.use rfl (k0.2.1 _ hl1)⟩, c8 _ hv1, c8 _ hv2⟩ hpre rfl (by simpa using hnp) hl.1 rfl (lv_room hw') hd ⟨r3, r4⟩) k
theorem go_callS {idx np : Nat} (hm : go_met M' np) (hv1 : Cond.static M'.1 ∈ go_T) (hlk : go_lnk M.1.cls idx M') (hd : decode M.2.1 pc = .ok (.invokestatic idx, 3)) (hp : pc + 3 = q) (hst : st = as.reverse ++ rest) (hnp : as.length = np) (hw : (rest.map mv_k).sum ≤ 8) (hR : go_fit R u M'.2.2.1 d w mc ms)
    (hF : Fn l M' d w mc ms as h n Q) (k : ∀ v h' n', Q v h' n' → n ≤ n' → Go φ l M R (u.1 + mc, u.2 + ms) q L (v.toList ++ rest) h' n') : Go φ l M R u pc L st h n := by
  subst hp
  subst hst
  intro p e s m args below meth c D ca zt A n0 ad0 C H locs ls ad hS hP hD hl hn ha oh ol os
  obtain ⟨c1, c2, c3, c4, c5, c6, c7, c8, k0, c10⟩ := id C
  obtain ⟨m1, m2, m3, m4⟩ := hm
  obtain ⟨r1, r2, r3, r4⟩ := hR
  have hFc := go_free (D := D) hS hD c10
  have hM := hF D ca zt ad H.size oh os.left.rev
  have hG : GoodIn go_T (Cond.code M'.1 M'.2.1 M'.2.2.1 M'.2.2.2 :: go_T) := go_good m1
  have hpre : PreS s H (fn_P D ca zt ad as h n H.size) (as.map (mv_c zt ad)) :=
    ⟨fn_blind, fun U hU hW => ⟨rfl, by rw [hU], by rw [hU]; exact hP, hD.weaken (fun _ _ _ _ => trivial), cx_call k0 hS hFc hU hW⟩⟩
  have hlen : ∀ sig, parseMethodDescriptor M'.1.desc = some sig → np = sig.parameters.length := fun sig hs => by
    rw [hs] at m4
    exact (Option.some.inj m4).symm
  have hsv : (as.reverse ++ rest).map (mv_c zt ad) = (as.map (mv_c zt ad)).reverse ++ rest.map (mv_c zt ad) := by
    rw [List.map_append, List.map_reverse]
  have hw' : ((rest.map (mv_c zt ad)).map fun v => v.category).sum ≤ 8 := by rw [mv_sum]; exact hw
  rw [hsv]
  rcases hlk with hl1 | ⟨host, hl1⟩
  · refine go_back C hS hD hl hn ha ol os.right (va_runS (As := as.map (mv_c zt ad)) (rest := rest.map (mv_c zt ad)) ⟨c1, c2, c3, c7, c8⟩ hM ⟨⟨rfl, rfl, r1, r2, pay_in c8 hG, List.mem_cons_self, c8 _ m1, c8 _ m2, m3, hlen, c8 _ hl1⟩, c8 _ hv1⟩ hpre rfl (by simpa using hnp) hl.1 rfl (lv_room hw') hd ⟨r3, r4⟩) k
  · refine go_back C hS hD hl hn ha ol os.right (va_runSN (As := as.map (mv_c zt ad)) (rest := rest.map (mv_c zt ad)) ⟨c1, c2, c3, c7, c8⟩ hM ⟨⟨⟨rfl, rfl, r1, r2, pay_in c8 hG, List.mem_cons_self⟩, c8 _ m1, c8 _ m2, m3, hlen, va_Nw.use rfl (k0.2.1 _ hl1)⟩, c8 _ hv1, trivial⟩ hpre rfl (by simpa using hnp) hl.1 rfl (lv_room hw') hd ⟨r3, r4⟩) k
theorem go_callI {idx np b : Nat} (hm : go_met M' np) (hv0 : M'.2.2.2 = none) (hv1 : Cond.instanceMethod M'.1 ∈ go_T) (hv2 : M'.1.name = "<init>") (hlk : go_lnk M.1.cls idx M') (hd : decode M.2.1 pc = .ok (.invokespecial idx, 3)) (hp : pc + 3 = q) (hst : st = as.reverse ++ mv_R b :: rest) (hnp : as.length = np) (hw : (rest.map mv_k).sum ≤ 8) (hR : go_fit R u M'.2.2.1 d w mc ms)
    (hF : Fn l M' d w mc ms (mv_R b :: as) h n Q) (k : ∀ v h' n', Q v h' n' → n ≤ n' → Go φ l M R (u.1 + mc, u.2 + ms) q L (v.toList ++ rest) h' n') : Go φ l M R u pc L st h n := by
  subst hp
  subst hst
  intro p e s m args below meth c D ca zt A n0 ad0 C H locs ls ad hS hP hD hl hn ha oh ol os
  obtain ⟨c1, c2, c3, c4, c5, c6, c7, c8, k0, c10⟩ := id C
  obtain ⟨m1, m2, m3, m4⟩ := hm
  obtain ⟨r1, r2, r3, r4⟩ := hR
  have hFc := go_free (D := D) hS hD c10
  have hM := hF D ca zt ad H.size oh (ok_S.cons os.right.hd os.left.rev)
  have hG : GoodIn go_T (Cond.code M'.1 M'.2.1 M'.2.2.1 M'.2.2.2 :: go_T) := go_good m1
  have hpre : PreS s H (fn_P D ca zt ad (mv_R b :: as) h n H.size) (.ref (ad b) :: as.map (mv_c zt ad)) :=
    ⟨fn_blind, fun U hU hW => ⟨rfl, by rw [hU], by rw [hU]; exact hP, hD.weaken (fun _ _ _ _ => trivial), cx_call k0 hS hFc hU hW⟩⟩
  have hlen : ∀ sig, parseMethodDescriptor M'.1.desc = some sig → np = sig.parameters.length := fun sig hs => by
    rw [hs] at m4
    exact (Option.some.inj m4).symm
  have hsv : (as.reverse ++ mv_R b :: rest).map (mv_c zt ad) = (as.map (mv_c zt ad)).reverse ++ Value.ref (ad b) :: rest.map (mv_c zt ad) := by
    rw [List.map_append, List.map_reverse]; rfl
  have hw' : ((rest.map (mv_c zt ad)).map fun v => v.category).sum ≤ 8 := by rw [mv_sum]; exact hw
  rw [hsv]
  rw [hv0] at hM hG m1
  rcases hlk with hl1 | ⟨host, hl1⟩
  · refine go_back C hS hD hl hn ha ol os.right.tl (va_runI (As := as.map (mv_c zt ad)) (rest := rest.map (mv_c zt ad)) ⟨c1, c2, c3, c7, c8⟩ hM ⟨⟨rfl, rfl, r1, r2, pay_in c8 hG, List.mem_cons_self, c8 _ m1, c8 _ m2, m3, hlen, c8 _ hl1⟩, hv2, c8 _ hv1⟩ hpre rfl (by simpa using hnp) hl.1 rfl (lv_room hw') hd ⟨r3, r4⟩) k
  · refine go_back C hS hD hl hn ha ol os.right.tl (va_runIN (As := as.map (mv_c zt ad)) (rest := rest.map (mv_c zt ad)) ⟨c1, c2, c3, c7, c8⟩ hM ⟨⟨⟨rfl, rfl, r1, r2, pay_in c8 hG, List.mem_cons_self⟩, c8 _ m1, c8 _ m2, m3, hlen, va_Nw.use rfl (k0.2.1 _ hl1)⟩, hv2, c8 _ hv1⟩ hpre rfl (by simpa using hnp) hl.1 rfl (lv_room hw') hd ⟨r3, r4⟩) k
theorem go_oinit {idx b : Nat} (hw1 : Cond.methodLink M.1.cls idx objectInit ∈ go_T) (hw2 : Cond.instanceMethod objectInit ∈ go_T) (hw3 : Cond.code objectInit ⟨#[0xb1]⟩ 1 none ∈ go_T) (hd : decode M.2.1 pc = .ok (.invokespecial idx, 3)) (hp : pc + 3 = q) (hR : 1 ≤ R.frames ∧ (rest.map mv_k).sum + 12 ≤ R.locals) (k : Go φ l M R u q L rest h n) : Go φ l M R u pc L (mv_R b :: rest) h n := by
  subst hp
  intro p e s m args below meth c D ca zt A n0 ad0 C H locs ls ad hS hP hD hl hn ha oh ol os
  obtain ⟨c1, c2, c3, c4, c5, c6, c7, c8, k0, c10⟩ := id C
  refine W.objInit c1 c2 c7 (c8 _ hw1) (c8 _ hw2) (c8 _ hw3) rfl (by rw [c3]; exact hl.1) rfl hd hR.1 ?_ ?_
  · rw [mv_sum]
    have : (F0 m pc ls (mv_c zt ad (mv_R b) :: rest.map (mv_c zt ad))).monitorRoom = 0 := rfl
    simpa [this] using hR.2
  · exact k p e s m args below meth c D ca zt A n0 ad0 C H locs ls ad hS hP hD hl hn ha oh ol os.tl
end GoCalls
end
