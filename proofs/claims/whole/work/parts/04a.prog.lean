abbrev PM : Type := MethodName × ByteArray × Nat × Option FieldType × Nat × Nat × Bool × Nat × List (Nat × Instr × Nat)
/-- (name, bytes, locals, answer, own class, frames below it, has longs, 0 static 1 virtual 2 constructor, table) -/
def pm_0 : PM := (yX0_init, cX0_init, 1, none, 0, 1, false, 2, tb_0)
/-- (name, bytes, locals, answer, own class, frames below it, has longs, 0 static 1 virtual 2 constructor, table) -/
def pm_1 : PM := (yX0_seatAll, cX0_seatAll, 6, none, 0, 3, false, 1, tb_1)
/-- (name, bytes, locals, answer, own class, frames below it, has longs, 0 static 1 virtual 2 constructor, table) -/
def pm_2 : PM := (yX0_answer, cX0_answer, 2, some .int, 0, 0, false, 1, tb_2)
/-- (name, bytes, locals, answer, own class, frames below it, has longs, 0 static 1 virtual 2 constructor, table) -/
def pm_3 : PM := (yX0_sitByNumbers, cX0_sitByNumbers, 4, none, 0, 1, false, 1, tb_3)
/-- (name, bytes, locals, answer, own class, frames below it, has longs, 0 static 1 virtual 2 constructor, table) -/
def pm_4 : PM := (yX0_greatestBehind, cX0_greatestBehind, 5, some .int, 0, 2, false, 1, tb_4)
/-- (name, bytes, locals, answer, own class, frames below it, has longs, 0 static 1 virtual 2 constructor, table) -/
def pm_5 : PM := (yX0_nextOrder, cX0_nextOrder, 5, some .boolean, 0, 1, false, 1, tb_5)
/-- (name, bytes, locals, answer, own class, frames below it, has longs, 0 static 1 virtual 2 constructor, table) -/
def pm_6 : PM := (yX0_swap, cX0_swap, 4, none, 0, 0, false, 1, tb_6)
/-- (name, bytes, locals, answer, own class, frames below it, has longs, 0 static 1 virtual 2 constructor, table) -/
def pm_7 : PM := (yX0_leastCoupled, cX0_leastCoupled, 4, some .int, 0, 2, false, 1, tb_7)
/-- (name, bytes, locals, answer, own class, frames below it, has longs, 0 static 1 virtual 2 constructor, table) -/
def pm_8 : PM := (yX0_leastOfPart, cX0_leastOfPart, 7, some .int, 0, 1, false, 1, tb_8)
/-- (name, bytes, locals, answer, own class, frames below it, has longs, 0 static 1 virtual 2 constructor, table) -/
def pm_9 : PM := (yX0_waysCoupled, cX0_waysCoupled, 5, some .int, 0, 2, false, 1, tb_9)
/-- (name, bytes, locals, answer, own class, frames below it, has longs, 0 static 1 virtual 2 constructor, table) -/
def pm_10 : PM := (yX0_waysOfPart, cX0_waysOfPart, 7, some .int, 0, 1, false, 1, tb_10)
/-- (name, bytes, locals, answer, own class, frames below it, has longs, 0 static 1 virtual 2 constructor, table) -/
def pm_11 : PM := (yX0_isEvenPart, cX0_isEvenPart, 2, some .boolean, 0, 1, false, 0, tb_11)
/-- (name, bytes, locals, answer, own class, frames below it, has longs, 0 static 1 virtual 2 constructor, table) -/
def pm_12 : PM := (yX0_without, cX0_without, 3, some .int, 0, 0, false, 0, tb_12)
/-- (name, bytes, locals, answer, own class, frames below it, has longs, 0 static 1 virtual 2 constructor, table) -/
def pm_13 : PM := (yX0_borne, cX0_borne, 3, some .int, 0, 0, false, 0, tb_13)
/-- (name, bytes, locals, answer, own class, frames below it, has longs, 0 static 1 virtual 2 constructor, table) -/
def pm_14 : PM := (yX1_init, cX1_init, 2, none, 1, 1, false, 2, tb_14)
/-- (name, bytes, locals, answer, own class, frames below it, has longs, 0 static 1 virtual 2 constructor, table) -/
def pm_15 : PM := (yX1_begin, cX1_begin, 2, none, 1, 2, false, 1, tb_15)
/-- (name, bytes, locals, answer, own class, frames below it, has longs, 0 static 1 virtual 2 constructor, table) -/
def pm_16 : PM := (yX1_beginWith, cX1_beginWith, 4, none, 1, 3, false, 1, tb_16)
/-- (name, bytes, locals, answer, own class, frames below it, has longs, 0 static 1 virtual 2 constructor, table) -/
def pm_17 : PM := (yX1_pulls, cX1_pulls, 4, some .int, 1, 1, false, 1, tb_17)
/-- (name, bytes, locals, answer, own class, frames below it, has longs, 0 static 1 virtual 2 constructor, table) -/
def pm_18 : PM := (yX1_wearOff, cX1_wearOff, 3, none, 1, 1, false, 1, tb_18)
/-- (name, bytes, locals, answer, own class, frames below it, has longs, 0 static 1 virtual 2 constructor, table) -/
def pm_19 : PM := (yX1_climb, cX1_climb, 4, some .int, 1, 2, false, 1, tb_19)
/-- (name, bytes, locals, answer, own class, frames below it, has longs, 0 static 1 virtual 2 constructor, table) -/
def pm_20 : PM := (yX1_getsThere, cX1_getsThere, 2, some .boolean, 1, 3, false, 1, tb_20)
/-- (name, bytes, locals, answer, own class, frames below it, has longs, 0 static 1 virtual 2 constructor, table) -/
def pm_21 : PM := (yX1_getsUp, cX1_getsUp, 3, some .boolean, 1, 4, false, 1, tb_21)
/-- (name, bytes, locals, answer, own class, frames below it, has longs, 0 static 1 virtual 2 constructor, table) -/
def pm_22 : PM := (yX1_getsUpWith, cX1_getsUpWith, 4, some .boolean, 1, 4, false, 1, tb_22)
/-- (name, bytes, locals, answer, own class, frames below it, has longs, 0 static 1 virtual 2 constructor, table) -/
def pm_23 : PM := (yX1_turns, cX1_turns, 5, some .int, 1, 4, false, 1, tb_23)
/-- (name, bytes, locals, answer, own class, frames below it, has longs, 0 static 1 virtual 2 constructor, table) -/
def pm_24 : PM := (yX1_leftOf, cX1_leftOf, 4, some .int, 1, 3, false, 1, tb_24)
/-- (name, bytes, locals, answer, own class, frames below it, has longs, 0 static 1 virtual 2 constructor, table) -/
def pm_25 : PM := (yX1_lastLeft, cX1_lastLeft, 5, some .int, 1, 3, false, 1, tb_25)
/-- (name, bytes, locals, answer, own class, frames below it, has longs, 0 static 1 virtual 2 constructor, table) -/
def pm_26 : PM := (yX1_leastTold, cX1_leastTold, 4, some .int, 1, 5, false, 1, tb_26)
/-- (name, bytes, locals, answer, own class, frames below it, has longs, 0 static 1 virtual 2 constructor, table) -/
def pm_27 : PM := (yX1_leastJoked, cX1_leastJoked, 4, some .int, 1, 5, false, 1, tb_27)
/-- (name, bytes, locals, answer, own class, frames below it, has longs, 0 static 1 virtual 2 constructor, table) -/
def pm_28 : PM := (yX1_needless, cX1_needless, 5, some .int, 1, 5, false, 1, tb_28)
/-- (name, bytes, locals, answer, own class, frames below it, has longs, 0 static 1 virtual 2 constructor, table) -/
def pm_29 : PM := (yX1_leastOver, cX1_leastOver, 8, some .int, 1, 3, false, 1, tb_29)
/-- (name, bytes, locals, answer, own class, frames below it, has longs, 0 static 1 virtual 2 constructor, table) -/
def pm_30 : PM := (yX1_hillOrders, cX1_hillOrders, 7, some .long, 1, 3, true, 1, tb_30)
/-- (name, bytes, locals, answer, own class, frames below it, has longs, 0 static 1 virtual 2 constructor, table) -/
def pm_31 : PM := (yX1_hillsUpTo, cX1_hillsUpTo, 4, some .int, 1, 0, false, 1, tb_31)
/-- (name, bytes, locals, answer, own class, frames below it, has longs, 0 static 1 virtual 2 constructor, table) -/
def pm_32 : PM := (yX2_init, cX2_init, 1, none, 2, 2, false, 2, tb_32)
/-- (name, bytes, locals, answer, own class, frames below it, has longs, 0 static 1 virtual 2 constructor, table) -/
def pm_33 : PM := (yX2_clear, cX2_clear, 1, none, 2, 1, false, 1, tb_33)
/-- (name, bytes, locals, answer, own class, frames below it, has longs, 0 static 1 virtual 2 constructor, table) -/
def pm_34 : PM := (yX2_copy, cX2_copy, 2, none, 2, 2, false, 1, tb_34)
/-- (name, bytes, locals, answer, own class, frames below it, has longs, 0 static 1 virtual 2 constructor, table) -/
def pm_35 : PM := (yX2_answer, cX2_answer, 2, some .int, 2, 4, false, 1, tb_35)
/-- (name, bytes, locals, answer, own class, frames below it, has longs, 0 static 1 virtual 2 constructor, table) -/
def pm_36 : PM := (yX2_sum, cX2_sum, 5, some .int, 2, 1, false, 1, tb_36)
/-- (name, bytes, locals, answer, own class, frames below it, has longs, 0 static 1 virtual 2 constructor, table) -/
def pm_37 : PM := (yX2_rush, cX2_rush, 3, some .int, 2, 0, false, 1, tb_37)
/-- (name, bytes, locals, answer, own class, frames below it, has longs, 0 static 1 virtual 2 constructor, table) -/
def pm_38 : PM := (yX2_steady, cX2_steady, 2, some .int, 2, 3, false, 1, tb_38)
/-- (name, bytes, locals, answer, own class, frames below it, has longs, 0 static 1 virtual 2 constructor, table) -/
def pm_39 : PM := (yX2_isSteady, cX2_isSteady, 3, some .boolean, 2, 2, false, 1, tb_39)
/-- (name, bytes, locals, answer, own class, frames below it, has longs, 0 static 1 virtual 2 constructor, table) -/
def pm_40 : PM := (yX2_lull, cX2_lull, 4, some .int, 2, 1, false, 1, tb_40)
/-- (name, bytes, locals, answer, own class, frames below it, has longs, 0 static 1 virtual 2 constructor, table) -/
def pm_41 : PM := (yX2_half, cX2_half, 3, some .int, 2, 2, false, 1, tb_41)
/-- (name, bytes, locals, answer, own class, frames below it, has longs, 0 static 1 virtual 2 constructor, table) -/
def pm_42 : PM := (yX2_plan, cX2_plan, 2, none, 2, 2, false, 1, tb_42)
/-- (name, bytes, locals, answer, own class, frames below it, has longs, 0 static 1 virtual 2 constructor, table) -/
def pm_43 : PM := (yX2_planFrom, cX2_planFrom, 5, none, 2, 1, false, 1, tb_43)
/-- (name, bytes, locals, answer, own class, frames below it, has longs, 0 static 1 virtual 2 constructor, table) -/
def pm_44 : PM := (yX2_isBetter, cX2_isBetter, 4, some .boolean, 2, 0, false, 1, tb_44)
/-- (name, bytes, locals, answer, own class, frames below it, has longs, 0 static 1 virtual 2 constructor, table) -/
def pm_45 : PM := (yX2_planned, cX2_planned, 2, some .int, 2, 1, false, 1, tb_45)
/-- (name, bytes, locals, answer, own class, frames below it, has longs, 0 static 1 virtual 2 constructor, table) -/
def pm_46 : PM := (yX2_hourOf, cX2_hourOf, 4, some .int, 2, 0, false, 1, tb_46)
/-- (name, bytes, locals, answer, own class, frames below it, has longs, 0 static 1 virtual 2 constructor, table) -/
def pm_47 : PM := (yX3_init, cX3_init, 1, none, 3, 1, false, 2, tb_47)
/-- (name, bytes, locals, answer, own class, frames below it, has longs, 0 static 1 virtual 2 constructor, table) -/
def pm_48 : PM := (yX3_weigh, cX3_weigh, 4, none, 3, 2, false, 1, tb_48)
/-- (name, bytes, locals, answer, own class, frames below it, has longs, 0 static 1 virtual 2 constructor, table) -/
def pm_49 : PM := (yX3_layOut, cX3_layOut, 5, none, 3, 1, false, 1, tb_49)
/-- (name, bytes, locals, answer, own class, frames below it, has longs, 0 static 1 virtual 2 constructor, table) -/
def pm_50 : PM := (yX3_agrees, cX3_agrees, 4, some .boolean, 3, 0, false, 1, tb_50)
/-- (name, bytes, locals, answer, own class, frames below it, has longs, 0 static 1 virtual 2 constructor, table) -/
def pm_51 : PM := (yX3_record, cX3_record, 4, none, 3, 1, false, 1, tb_51)
/-- (name, bytes, locals, answer, own class, frames below it, has longs, 0 static 1 virtual 2 constructor, table) -/
def pm_52 : PM := (yX3_bestQuestion, cX3_bestQuestion, 8, some .int, 3, 1, false, 1, tb_52)
/-- (name, bytes, locals, answer, own class, frames below it, has longs, 0 static 1 virtual 2 constructor, table) -/
def pm_53 : PM := (yX4_init, cX4_init, 1, none, 4, 2, false, 2, tb_53)
/-- (name, bytes, locals, answer, own class, frames below it, has longs, 0 static 1 virtual 2 constructor, table) -/
def pm_54 : PM := (yX4_clear, cX4_clear, 2, none, 4, 1, false, 1, tb_54)
/-- (name, bytes, locals, answer, own class, frames below it, has longs, 0 static 1 virtual 2 constructor, table) -/
def pm_55 : PM := (yX4_copy, cX4_copy, 2, none, 4, 2, false, 1, tb_55)
/-- (name, bytes, locals, answer, own class, frames below it, has longs, 0 static 1 virtual 2 constructor, table) -/
def pm_56 : PM := (yX4_addHill, cX4_addHill, 2, none, 4, 0, false, 1, tb_56)
/-- (name, bytes, locals, answer, own class, frames below it, has longs, 0 static 1 virtual 2 constructor, table) -/
def pm_57 : PM := (yX4_addRider, cX4_addRider, 3, none, 4, 0, false, 1, tb_57)
/-- (name, bytes, locals, answer, own class, frames below it, has longs, 0 static 1 virtual 2 constructor, table) -/
def pm_58 : PM := (yX4_has, cX4_has, 2, some .boolean, 4, 0, false, 1, tb_58)
/-- (name, bytes, locals, answer, own class, frames below it, has longs, 0 static 1 virtual 2 constructor, table) -/
def pm_59 : PM := (yX4_seatsAll, cX4_seatsAll, 2, some .boolean, 4, 1, false, 1, tb_59)
/-- (name, bytes, locals, answer, own class, frames below it, has longs, 0 static 1 virtual 2 constructor, table) -/
def pm_60 : PM := (yX4_pullOf, cX4_pullOf, 3, some .int, 4, 0, false, 1, tb_60)
/-- (name, bytes, locals, answer, own class, frames below it, has longs, 0 static 1 virtual 2 constructor, table) -/
def pm_61 : PM := (yX4_wornOf, cX4_wornOf, 4, some .int, 4, 0, false, 1, tb_61)
/-- (name, bytes, locals, answer, own class, frames below it, has longs, 0 static 1 virtual 2 constructor, table) -/
def pm_62 : PM := (yX4_ouncesOf, cX4_ouncesOf, 4, some .int, 4, 1, false, 1, tb_62)
/-- (name, bytes, locals, answer, own class, frames below it, has longs, 0 static 1 virtual 2 constructor, table) -/
def pm_63 : PM := (yX4_answer, cX4_answer, 2, some .int, 4, 2, false, 1, tb_63)
/-- (name, bytes, locals, answer, own class, frames below it, has longs, 0 static 1 virtual 2 constructor, table) -/
def pm_64 : PM := (yX4_answerOf, cX4_answerOf, 3, some .int, 4, 1, false, 1, tb_64)
/-- (name, bytes, locals, answer, own class, frames below it, has longs, 0 static 1 virtual 2 constructor, table) -/
def pm_65 : PM := (yX4_cheapest, cX4_cheapest, 6, some .int, 4, 2, false, 1, tb_65)
/-- (name, bytes, locals, answer, own class, frames below it, has longs, 0 static 1 virtual 2 constructor, table) -/
def pm_66 : PM := (yX4_loophole, cX4_loophole, 5, some .int, 4, 0, false, 1, tb_66)
/-- (name, bytes, locals, answer, own class, frames below it, has longs, 0 static 1 virtual 2 constructor, table) -/
def pm_67 : PM := (yX4_byHeight, cX4_byHeight, 3, some .int, 4, 1, false, 1, tb_67)
/-- (name, bytes, locals, answer, own class, frames below it, has longs, 0 static 1 virtual 2 constructor, table) -/
def pm_68 : PM := (yX4_rankOf, cX4_rankOf, 4, some .int, 4, 0, false, 1, tb_68)
/-- (name, bytes, locals, answer, own class, frames below it, has longs, 0 static 1 virtual 2 constructor, table) -/
def pm_69 : PM := (yX5_init, cX5_init, 1, none, 5, 3, false, 2, tb_69)
/-- (name, bytes, locals, answer, own class, frames below it, has longs, 0 static 1 virtual 2 constructor, table) -/
def pm_70 : PM := (yX5_read, cX5_read, 5, none, 5, 8, false, 1, tb_70)
/-- (name, bytes, locals, answer, own class, frames below it, has longs, 0 static 1 virtual 2 constructor, table) -/
def pm_71 : PM := (yX5_clearOf, cX5_clearOf, 2, none, 5, 2, false, 1, tb_71)
/-- (name, bytes, locals, answer, own class, frames below it, has longs, 0 static 1 virtual 2 constructor, table) -/
def pm_72 : PM := (yX5_readStatement, cX5_readStatement, 3, some .boolean, 5, 7, false, 1, tb_72)
/-- (name, bytes, locals, answer, own class, frames below it, has longs, 0 static 1 virtual 2 constructor, table) -/
def pm_73 : PM := (yX5_readKind, cX5_readKind, 2, some .boolean, 5, 6, false, 1, tb_73)
/-- (name, bytes, locals, answer, own class, frames below it, has longs, 0 static 1 virtual 2 constructor, table) -/
def pm_74 : PM := (yX5_readNumbers, cX5_readNumbers, 4, some .boolean, 5, 3, false, 1, tb_74)
/-- (name, bytes, locals, answer, own class, frames below it, has longs, 0 static 1 virtual 2 constructor, table) -/
def pm_75 : PM := (yX5_note, cX5_note, 3, none, 5, 0, false, 1, tb_75)
/-- (name, bytes, locals, answer, own class, frames below it, has longs, 0 static 1 virtual 2 constructor, table) -/
def pm_76 : PM := (yX5_isFull, cX5_isFull, 2, some .boolean, 5, 0, false, 1, tb_76)
/-- (name, bytes, locals, answer, own class, frames below it, has longs, 0 static 1 virtual 2 constructor, table) -/
def pm_77 : PM := (yX5_take, cX5_take, 4, none, 5, 1, false, 1, tb_77)
/-- (name, bytes, locals, answer, own class, frames below it, has longs, 0 static 1 virtual 2 constructor, table) -/
def pm_78 : PM := (yX5_step, cX5_step, 1, none, 5, 2, false, 1, tb_78)
/-- (name, bytes, locals, answer, own class, frames below it, has longs, 0 static 1 virtual 2 constructor, table) -/
def pm_79 : PM := (yX5_stepOverWord, cX5_stepOverWord, 1, none, 5, 1, false, 1, tb_79)
/-- (name, bytes, locals, answer, own class, frames below it, has longs, 0 static 1 virtual 2 constructor, table) -/
def pm_80 : PM := (yX5_stepOverDigits, cX5_stepOverDigits, 1, none, 5, 1, false, 1, tb_80)
/-- (name, bytes, locals, answer, own class, frames below it, has longs, 0 static 1 virtual 2 constructor, table) -/
def pm_81 : PM := (yX5_isBlank, cX5_isBlank, 1, some .boolean, 5, 0, false, 0, tb_81)
/-- (name, bytes, locals, answer, own class, frames below it, has longs, 0 static 1 virtual 2 constructor, table) -/
def pm_82 : PM := (yX5_isLetter, cX5_isLetter, 1, some .boolean, 5, 0, false, 0, tb_82)
/-- (name, bytes, locals, answer, own class, frames below it, has longs, 0 static 1 virtual 2 constructor, table) -/
def pm_83 : PM := (yX5_isDigit, cX5_isDigit, 1, some .boolean, 5, 0, false, 0, tb_83)
/-- (name, bytes, locals, answer, own class, frames below it, has longs, 0 static 1 virtual 2 constructor, table) -/
def pm_84 : PM := (yX5_formHere, cX5_formHere, 3, some .int, 5, 5, false, 1, tb_84)
/-- (name, bytes, locals, answer, own class, frames below it, has longs, 0 static 1 virtual 2 constructor, table) -/
def pm_85 : PM := (yX5_kindHere, cX5_kindHere, 2, some .int, 5, 5, false, 1, tb_85)
/-- (name, bytes, locals, answer, own class, frames below it, has longs, 0 static 1 virtual 2 constructor, table) -/
def pm_86 : PM := (yX5_isHere, cX5_isHere, 3, some .boolean, 5, 4, false, 1, tb_86)
/-- (name, bytes, locals, answer, own class, frames below it, has longs, 0 static 1 virtual 2 constructor, table) -/
def pm_87 : PM := (yX5_kindWord, cX5_kindWord, 1, some (.object "java/lang/String"), 5, 0, false, 0, tb_87)
/-- (name, bytes, locals, answer, own class, frames below it, has longs, 0 static 1 virtual 2 constructor, table) -/
def pm_88 : PM := (yX5_formWord, cX5_formWord, 1, some (.object "java/lang/String"), 5, 0, false, 0, tb_88)
/-- (name, bytes, locals, answer, own class, frames below it, has longs, 0 static 1 virtual 2 constructor, table) -/
def pm_89 : PM := (yX6_init, cX6_init, 1, none, 6, 1, false, 2, tb_89)
/-- (name, bytes, locals, answer, own class, frames below it, has longs, 0 static 1 virtual 2 constructor, table) -/
def pm_90 : PM := (yX6_copy, cX6_copy, 2, none, 6, 2, false, 1, tb_90)
/-- (name, bytes, locals, answer, own class, frames below it, has longs, 0 static 1 virtual 2 constructor, table) -/
def pm_91 : PM := (yX6_addDeed, cX6_addDeed, 4, none, 6, 0, false, 1, tb_91)
/-- (name, bytes, locals, answer, own class, frames below it, has longs, 0 static 1 virtual 2 constructor, table) -/
def pm_92 : PM := (yX6_answer, cX6_answer, 3, some .int, 6, 0, false, 1, tb_92)
/-- (name, bytes, locals, answer, own class, frames below it, has longs, 0 static 1 virtual 2 constructor, table) -/
def pm_93 : PM := (yX7_init, cX7_init, 1, none, 7, 1, false, 2, tb_93)
/-- (name, bytes, locals, answer, own class, frames below it, has longs, 0 static 1 virtual 2 constructor, table) -/
def pm_94 : PM := (yX7_clear, cX7_clear, 1, none, 7, 0, false, 1, tb_94)
/-- (name, bytes, locals, answer, own class, frames below it, has longs, 0 static 1 virtual 2 constructor, table) -/
def pm_95 : PM := (yX7_copy, cX7_copy, 2, none, 7, 2, false, 1, tb_95)
/-- (name, bytes, locals, answer, own class, frames below it, has longs, 0 static 1 virtual 2 constructor, table) -/
def pm_96 : PM := (yX7_addFact, cX7_addFact, 4, none, 7, 0, false, 1, tb_96)
/-- (name, bytes, locals, answer, own class, frames below it, has longs, 0 static 1 virtual 2 constructor, table) -/
def pm_97 : PM := (yX7_namesTooMany, cX7_namesTooMany, 2, some .boolean, 7, 0, false, 1, tb_97)
/-- (name, bytes, locals, answer, own class, frames below it, has longs, 0 static 1 virtual 2 constructor, table) -/
def pm_98 : PM := (yX7_answer, cX7_answer, 3, some .int, 7, 0, false, 1, tb_98)
/-- (name, bytes, locals, answer, own class, frames below it, has longs, 0 static 1 virtual 2 constructor, table) -/
def pm_99 : PM := (yX7_verdict, cX7_verdict, 2, some .int, 7, 0, false, 1, tb_99)
/-- (name, bytes, locals, answer, own class, frames below it, has longs, 0 static 1 virtual 2 constructor, table) -/
def pm_100 : PM := (yX8_init, cX8_init, 2, none, 8, 3, false, 2, tb_100)
/-- (name, bytes, locals, answer, own class, frames below it, has longs, 0 static 1 virtual 2 constructor, table) -/
def pm_101 : PM := (yX8_putNumber, cX8_putNumber, 3, none, 8, 0, false, 1, tb_101)
/-- (name, bytes, locals, answer, own class, frames below it, has longs, 0 static 1 virtual 2 constructor, table) -/
def pm_102 : PM := (yX8_takesText, cX8_takesText, 3, some .boolean, 8, 0, false, 1, tb_102)
/-- (name, bytes, locals, answer, own class, frames below it, has longs, 0 static 1 virtual 2 constructor, table) -/
def pm_103 : PM := (yX8_put, cX8_put, 4, none, 8, 3, false, 1, tb_103)
/-- (name, bytes, locals, answer, own class, frames below it, has longs, 0 static 1 virtual 2 constructor, table) -/
def pm_104 : PM := (yX8_copy, cX8_copy, 3, none, 8, 3, false, 1, tb_104)
/-- (name, bytes, locals, answer, own class, frames below it, has longs, 0 static 1 virtual 2 constructor, table) -/
def pm_105 : PM := (yX9_init, cX9_init, 2, none, 9, 1, false, 2, tb_105)
/-- (name, bytes, locals, answer, own class, frames below it, has longs, 0 static 1 virtual 2 constructor, table) -/
def pm_106 : PM := (yX9_begin, cX9_begin, 2, none, 9, 2, false, 1, tb_106)
/-- (name, bytes, locals, answer, own class, frames below it, has longs, 0 static 1 virtual 2 constructor, table) -/
def pm_107 : PM := (yX9_follow, cX9_follow, 5, some .int, 9, 5, false, 1, tb_107)
/-- (name, bytes, locals, answer, own class, frames below it, has longs, 0 static 1 virtual 2 constructor, table) -/
def pm_108 : PM := (yX9_perform, cX9_perform, 4, some .boolean, 9, 4, false, 1, tb_108)
/-- (name, bytes, locals, answer, own class, frames below it, has longs, 0 static 1 virtual 2 constructor, table) -/
def pm_109 : PM := (yX9_isRider, cX9_isRider, 2, some .boolean, 9, 0, false, 1, tb_109)
/-- (name, bytes, locals, answer, own class, frames below it, has longs, 0 static 1 virtual 2 constructor, table) -/
def pm_110 : PM := (yX9_isAboard, cX9_isAboard, 2, some .boolean, 9, 1, false, 1, tb_110)
/-- (name, bytes, locals, answer, own class, frames below it, has longs, 0 static 1 virtual 2 constructor, table) -/
def pm_111 : PM := (yX9_isFree, cX9_isFree, 2, some .boolean, 9, 0, false, 1, tb_111)
/-- (name, bytes, locals, answer, own class, frames below it, has longs, 0 static 1 virtual 2 constructor, table) -/
def pm_112 : PM := (yX9_board, cX9_board, 3, some .boolean, 9, 1, false, 1, tb_112)
/-- (name, bytes, locals, answer, own class, frames below it, has longs, 0 static 1 virtual 2 constructor, table) -/
def pm_113 : PM := (yX9_move, cX9_move, 3, some .boolean, 9, 3, false, 1, tb_113)
/-- (name, bytes, locals, answer, own class, frames below it, has longs, 0 static 1 virtual 2 constructor, table) -/
def pm_114 : PM := (yX9_getOff, cX9_getOff, 3, some .boolean, 9, 2, false, 1, tb_114)
/-- (name, bytes, locals, answer, own class, frames below it, has longs, 0 static 1 virtual 2 constructor, table) -/
def pm_115 : PM := (yX9_add, cX9_add, 3, none, 9, 2, false, 1, tb_115)
/-- (name, bytes, locals, answer, own class, frames below it, has longs, 0 static 1 virtual 2 constructor, table) -/
def pm_116 : PM := (yX9_share, cX9_share, 4, none, 9, 1, false, 1, tb_116)
/-- (name, bytes, locals, answer, own class, frames below it, has longs, 0 static 1 virtual 2 constructor, table) -/
def pm_117 : PM := (yX9_go, cX9_go, 1, some .boolean, 9, 3, false, 1, tb_117)
/-- (name, bytes, locals, answer, own class, frames below it, has longs, 0 static 1 virtual 2 constructor, table) -/
def pm_118 : PM := (yX9_climb, cX9_climb, 2, none, 9, 2, false, 1, tb_118)
/-- (name, bytes, locals, answer, own class, frames below it, has longs, 0 static 1 virtual 2 constructor, table) -/
def pm_119 : PM := (yX9_stall, cX9_stall, 1, none, 9, 0, false, 1, tb_119)
/-- (name, bytes, locals, answer, own class, frames below it, has longs, 0 static 1 virtual 2 constructor, table) -/
def pm_120 : PM := (yX9_goBack, cX9_goBack, 1, some .boolean, 9, 0, false, 1, tb_120)
/-- (name, bytes, locals, answer, own class, frames below it, has longs, 0 static 1 virtual 2 constructor, table) -/
def pm_121 : PM := (yX9_draw, cX9_draw, 5, none, 9, 4, false, 1, tb_121)
/-- (name, bytes, locals, answer, own class, frames below it, has longs, 0 static 1 virtual 2 constructor, table) -/
def pm_122 : PM := (yX9_below, cX9_below, 2, some .int, 9, 0, false, 1, tb_122)
/-- (name, bytes, locals, answer, own class, frames below it, has longs, 0 static 1 virtual 2 constructor, table) -/
def pm_123 : PM := (yX9_leastFreeSeat, cX9_leastFreeSeat, 2, some .int, 9, 1, false, 1, tb_123)
/-- (name, bytes, locals, answer, own class, frames below it, has longs, 0 static 1 virtual 2 constructor, table) -/
def pm_124 : PM := (yX9_answer, cX9_answer, 2, some .int, 9, 3, false, 1, tb_124)
/-- (name, bytes, locals, answer, own class, frames below it, has longs, 0 static 1 virtual 2 constructor, table) -/
def pm_125 : PM := (yX9_answerOf, cX9_answerOf, 3, some .int, 9, 1, false, 1, tb_125)
/-- (name, bytes, locals, answer, own class, frames below it, has longs, 0 static 1 virtual 2 constructor, table) -/
def pm_126 : PM := (yX9_pulls, cX9_pulls, 3, some .int, 9, 2, false, 1, tb_126)
/-- (name, bytes, locals, answer, own class, frames below it, has longs, 0 static 1 virtual 2 constructor, table) -/
def pm_127 : PM := (yX9_aboard, cX9_aboard, 3, some .int, 9, 2, false, 1, tb_127)
/-- (name, bytes, locals, answer, own class, frames below it, has longs, 0 static 1 virtual 2 constructor, table) -/
def pm_128 : PM := (yX9_smoke, cX9_smoke, 3, some .int, 9, 2, false, 1, tb_128)
/-- (name, bytes, locals, answer, own class, frames below it, has longs, 0 static 1 virtual 2 constructor, table) -/
def pm_129 : PM := (yX10_init, cX10_init, 2, none, 10, 1, false, 2, tb_129)
/-- (name, bytes, locals, answer, own class, frames below it, has longs, 0 static 1 virtual 2 constructor, table) -/
def pm_130 : PM := (yX10_begin, cX10_begin, 3, none, 10, 5, false, 1, tb_130)
/-- (name, bytes, locals, answer, own class, frames below it, has longs, 0 static 1 virtual 2 constructor, table) -/
def pm_131 : PM := (yX10_fewest, cX10_fewest, 3, some .int, 10, 2, false, 1, tb_131)
/-- (name, bytes, locals, answer, own class, frames below it, has longs, 0 static 1 virtual 2 constructor, table) -/
def pm_132 : PM := (yX10_isFewer, cX10_isFewer, 2, some .boolean, 10, 1, false, 0, tb_132)
/-- (name, bytes, locals, answer, own class, frames below it, has longs, 0 static 1 virtual 2 constructor, table) -/
def pm_133 : PM := (yX10_lightest, cX10_lightest, 3, some .int, 10, 2, false, 1, tb_133)
/-- (name, bytes, locals, answer, own class, frames below it, has longs, 0 static 1 virtual 2 constructor, table) -/
def pm_134 : PM := (yX10_lightestOunces, cX10_lightestOunces, 2, some .int, 10, 3, false, 1, tb_134)
/-- (name, bytes, locals, answer, own class, frames below it, has longs, 0 static 1 virtual 2 constructor, table) -/
def pm_135 : PM := (yX10_mostTrams, cX10_mostTrams, 4, some .int, 10, 1, false, 1, tb_135)
/-- (name, bytes, locals, answer, own class, frames below it, has longs, 0 static 1 virtual 2 constructor, table) -/
def pm_136 : PM := (yX10_needed, cX10_needed, 3, some .int, 10, 0, false, 1, tb_136)
/-- (name, bytes, locals, answer, own class, frames below it, has longs, 0 static 1 virtual 2 constructor, table) -/
def pm_137 : PM := (yX10_howManyUp, cX10_howManyUp, 3, some .int, 10, 0, false, 1, tb_137)
/-- (name, bytes, locals, answer, own class, frames below it, has longs, 0 static 1 virtual 2 constructor, table) -/
def pm_138 : PM := (yX10_worstHill, cX10_worstHill, 3, some .int, 10, 4, false, 1, tb_138)
/-- (name, bytes, locals, answer, own class, frames below it, has longs, 0 static 1 virtual 2 constructor, table) -/
def pm_139 : PM := (yX10_stalledAtWorst, cX10_stalledAtWorst, 2, some .int, 10, 5, false, 1, tb_139)
/-- (name, bytes, locals, answer, own class, frames below it, has longs, 0 static 1 virtual 2 constructor, table) -/
def pm_140 : PM := (yX10_countStalled, cX10_countStalled, 3, none, 10, 3, false, 1, tb_140)
/-- (name, bytes, locals, answer, own class, frames below it, has longs, 0 static 1 virtual 2 constructor, table) -/
def pm_141 : PM := (yX10_fewestAgainst, cX10_fewestAgainst, 5, some .int, 10, 3, false, 1, tb_141)
/-- (name, bytes, locals, answer, own class, frames below it, has longs, 0 static 1 virtual 2 constructor, table) -/
def pm_142 : PM := (yX10_evenestHalf, cX10_evenestHalf, 3, some .int, 10, 3, false, 1, tb_142)
/-- (name, bytes, locals, answer, own class, frames below it, has longs, 0 static 1 virtual 2 constructor, table) -/
def pm_143 : PM := (yX10_difference, cX10_difference, 2, some .int, 10, 2, false, 1, tb_143)
/-- (name, bytes, locals, answer, own class, frames below it, has longs, 0 static 1 virtual 2 constructor, table) -/
def pm_144 : PM := (yX11_init, cX11_init, 1, none, 11, 4, false, 2, tb_144)
/-- (name, bytes, locals, answer, own class, frames below it, has longs, 0 static 1 virtual 2 constructor, table) -/
def pm_145 : PM := (yX11_feed, cX11_feed, 6, some .int, 11, 1, false, 1, tb_145)
/-- (name, bytes, locals, answer, own class, frames below it, has longs, 0 static 1 virtual 2 constructor, table) -/
def pm_146 : PM := (yX11_end, cX11_end, 2, some .int, 11, 0, false, 1, tb_146)
/-- (name, bytes, locals, answer, own class, frames below it, has longs, 0 static 1 virtual 2 constructor, table) -/
def pm_147 : PM := (yX11_text, cX11_text, 5, some .int, 11, 9, false, 1, tb_147)
/-- (name, bytes, locals, answer, own class, frames below it, has longs, 0 static 1 virtual 2 constructor, table) -/
def pm_148 : PM := (yX11_fault, cX11_fault, 2, some .int, 11, 0, false, 1, tb_148)
/-- (name, bytes, locals, answer, own class, frames below it, has longs, 0 static 1 virtual 2 constructor, table) -/
def pm_149 : PM := (yX11_count, cX11_count, 2, some .int, 11, 0, false, 1, tb_149)
/-- (name, bytes, locals, answer, own class, frames below it, has longs, 0 static 1 virtual 2 constructor, table) -/
def pm_150 : PM := (yX11_image, cX11_image, 2, some .boolean, 11, 4, false, 1, tb_150)
/-- (name, bytes, locals, answer, own class, frames below it, has longs, 0 static 1 virtual 2 constructor, table) -/
def pm_151 : PM := (yX11_again, cX11_again, 2, some .boolean, 11, 4, false, 1, tb_151)
/-- (name, bytes, locals, answer, own class, frames below it, has longs, 0 static 1 virtual 2 constructor, table) -/
def pm_152 : PM := (yX11_line, cX11_line, 4, some .int, 11, 3, false, 1, tb_152)
/-- (name, bytes, locals, answer, own class, frames below it, has longs, 0 static 1 virtual 2 constructor, table) -/
def pm_153 : PM := (yX11_deed, cX11_deed, 5, some .int, 11, 1, false, 1, tb_153)
/-- (name, bytes, locals, answer, own class, frames below it, has longs, 0 static 1 virtual 2 constructor, table) -/
def pm_154 : PM := (yX11_stop, cX11_stop, 5, some .int, 11, 6, false, 1, tb_154)
/-- (name, bytes, locals, answer, own class, frames below it, has longs, 0 static 1 virtual 2 constructor, table) -/
def pm_155 : PM := (yX11_state, cX11_state, 7, some .int, 11, 6, false, 1, tb_155)
/-- (name, bytes, locals, answer, own class, frames below it, has longs, 0 static 1 virtual 2 constructor, table) -/
def pm_156 : PM := (yX11_drawn, cX11_drawn, 6, some .int, 11, 5, false, 1, tb_156)
/-- (name, bytes, locals, answer, own class, frames below it, has longs, 0 static 1 virtual 2 constructor, table) -/
def pm_157 : PM := (yX11_fare, cX11_fare, 6, some .int, 11, 3, false, 1, tb_157)
/-- (name, bytes, locals, answer, own class, frames below it, has longs, 0 static 1 virtual 2 constructor, table) -/
def pm_158 : PM := (yX11_route, cX11_route, 4, some .int, 11, 2, false, 1, tb_158)
/-- (name, bytes, locals, answer, own class, frames below it, has longs, 0 static 1 virtual 2 constructor, table) -/
def pm_159 : PM := (yX11_comes, cX11_comes, 5, some .int, 11, 3, false, 1, tb_159)
/-- (name, bytes, locals, answer, own class, frames below it, has longs, 0 static 1 virtual 2 constructor, table) -/
def pm_160 : PM := (yX11_bears, cX11_bears, 5, some .int, 11, 4, false, 1, tb_160)
/-- (name, bytes, locals, answer, own class, frames below it, has longs, 0 static 1 virtual 2 constructor, table) -/
def pm_161 : PM := (yX11_rounds, cX11_rounds, 4, some .int, 11, 5, false, 1, tb_161)
/-- (name, bytes, locals, answer, own class, frames below it, has longs, 0 static 1 virtual 2 constructor, table) -/
def pm_162 : PM := (yX11_byTurns, cX11_byTurns, 5, some .int, 11, 5, false, 1, tb_162)
/-- (name, bytes, locals, answer, own class, frames below it, has longs, 0 static 1 virtual 2 constructor, table) -/
def pm_163 : PM := (yX11_plea, cX11_plea, 4, some .int, 11, 6, false, 1, tb_163)
/-- (name, bytes, locals, answer, own class, frames below it, has longs, 0 static 1 virtual 2 constructor, table) -/
def pm_164 : PM := (yX11_news, cX11_news, 4, some .int, 11, 6, false, 1, tb_164)
/-- (name, bytes, locals, answer, own class, frames below it, has longs, 0 static 1 virtual 2 constructor, table) -/
def pm_165 : PM := (yX11_spared, cX11_spared, 4, some .int, 11, 6, false, 1, tb_165)
/-- (name, bytes, locals, answer, own class, frames below it, has longs, 0 static 1 virtual 2 constructor, table) -/
def pm_166 : PM := (yX11_slack, cX11_slack, 5, some .int, 11, 4, false, 1, tb_166)
/-- (name, bytes, locals, answer, own class, frames below it, has longs, 0 static 1 virtual 2 constructor, table) -/
def pm_167 : PM := (yX11_orders, cX11_orders, 4, some .long, 11, 4, false, 1, tb_167)
/-- (name, bytes, locals, answer, own class, frames below it, has longs, 0 static 1 virtual 2 constructor, table) -/
def pm_168 : PM := (yX11_calm, cX11_calm, 6, some .int, 11, 4, false, 1, tb_168)
/-- (name, bytes, locals, answer, own class, frames below it, has longs, 0 static 1 virtual 2 constructor, table) -/
def pm_169 : PM := (yX11_couples, cX11_couples, 6, some .int, 11, 3, false, 1, tb_169)
/-- (name, bytes, locals, answer, own class, frames below it, has longs, 0 static 1 virtual 2 constructor, table) -/
def pm_170 : PM := (yX11_up, cX11_up, 4, some .int, 11, 6, false, 1, tb_170)
/-- (name, bytes, locals, answer, own class, frames below it, has longs, 0 static 1 virtual 2 constructor, table) -/
def pm_171 : PM := (yX11_against, cX11_against, 4, some .int, 11, 4, false, 1, tb_171)
/-- (name, bytes, locals, answer, own class, frames below it, has longs, 0 static 1 virtual 2 constructor, table) -/
def pm_172 : PM := (yX11_sets, cX11_sets, 4, some .int, 11, 6, false, 1, tb_172)
/-- (name, bytes, locals, answer, own class, frames below it, has longs, 0 static 1 virtual 2 constructor, table) -/
def pm_173 : PM := (yX11_halves, cX11_halves, 5, some .int, 11, 6, false, 1, tb_173)
/-- (name, bytes, locals, answer, own class, frames below it, has longs, 0 static 1 virtual 2 constructor, table) -/
def pm_174 : PM := (yX11_flow, cX11_flow, 4, some .int, 11, 5, false, 1, tb_174)
/-- (name, bytes, locals, answer, own class, frames below it, has longs, 0 static 1 virtual 2 constructor, table) -/
def pm_175 : PM := (yX11_leaves, cX11_leaves, 4, some .int, 11, 3, false, 1, tb_175)
/-- (name, bytes, locals, answer, own class, frames below it, has longs, 0 static 1 virtual 2 constructor, table) -/
def pm_176 : PM := (yX11_fact, cX11_fact, 5, some .int, 11, 1, false, 1, tb_176)
/-- (name, bytes, locals, answer, own class, frames below it, has longs, 0 static 1 virtual 2 constructor, table) -/
def pm_177 : PM := (yX11_fits, cX11_fits, 4, some .int, 11, 3, false, 1, tb_177)
/-- (name, bytes, locals, answer, own class, frames below it, has longs, 0 static 1 virtual 2 constructor, table) -/
def pm_178 : PM := (yX11_lineAt, cX11_lineAt, 2, some (.object "GriefTram$Line"), 11, 0, false, 1, tb_178)
/-- (name, bytes, locals, answer, own class, frames below it, has longs, 0 static 1 virtual 2 constructor, table) -/
def pm_179 : PM := (yX11_lineFor, cX11_lineFor, 4, some (.object "GriefTram$Line"), 11, 2, false, 1, tb_179)
/-- (name, bytes, locals, answer, own class, frames below it, has longs, 0 static 1 virtual 2 constructor, table) -/
def pm_180 : PM := (yX11_rideAt, cX11_rideAt, 2, some (.object "GriefTram$Ride"), 11, 0, false, 1, tb_180)
/-- (name, bytes, locals, answer, own class, frames below it, has longs, 0 static 1 virtual 2 constructor, table) -/
def pm_181 : PM := (yX11_flowAt, cX11_flowAt, 2, some (.object "GriefTram$Flow"), 11, 0, false, 1, tb_181)
/-- (name, bytes, locals, answer, own class, frames below it, has longs, 0 static 1 virtual 2 constructor, table) -/
def pm_182 : PM := (yX11_sightAt, cX11_sightAt, 2, some (.object "GriefTram$Sight"), 11, 0, false, 1, tb_182)
/-- (name, bytes, locals, answer, own class, frames below it, has longs, 0 static 1 virtual 2 constructor, table) -/
def pm_183 : PM := (yX11_holds, cX11_holds, 2, some .boolean, 11, 0, false, 0, tb_183)
/-- (name, bytes, locals, answer, own class, frames below it, has longs, 0 static 1 virtual 2 constructor, table) -/
def pm_184 : PM := (yX11_within, cX11_within, 3, some .int, 11, 1, false, 0, tb_184)
/-- (name, bytes, locals, answer, own class, frames below it, has longs, 0 static 1 virtual 2 constructor, table) -/
def pm_185 : PM := (yX11_fill, cX11_fill, 3, none, 11, 0, false, 0, tb_185)
/-- (name, bytes, locals, answer, own class, frames below it, has longs, 0 static 1 virtual 2 constructor, table) -/
def pm_186 : PM := (yX11_copyRow, cX11_copyRow, 2, none, 11, 1, false, 0, tb_186)
/-- (name, bytes, locals, answer, own class, frames below it, has longs, 0 static 1 virtual 2 constructor, table) -/
def pm_187 : PM := (yX11_evenOut, cX11_evenOut, 4, none, 11, 0, false, 0, tb_187)
/-- (name, bytes, locals, answer, own class, frames below it, has longs, 0 static 1 virtual 2 constructor, table) -/
def pm_188 : PM := (yX12_init, cX12_init, 1, none, 12, 1, false, 2, tb_188)
/-- (name, bytes, locals, answer, own class, frames below it, has longs, 0 static 1 virtual 2 constructor, table) -/
def pm_189 : PM := (yX12_in, cX12_in, 3, some .boolean, 12, 0, false, 0, tb_189)
/-- (name, bytes, locals, answer, own class, frames below it, has longs, 0 static 1 virtual 2 constructor, table) -/
def pm_190 : PM := (yX12_has, cX12_has, 2, some .boolean, 12, 0, false, 0, tb_190)
/-- (name, bytes, locals, answer, own class, frames below it, has longs, 0 static 1 virtual 2 constructor, table) -/
def pm_191 : PM := (yX12_greater, cX12_greater, 2, some .int, 12, 0, false, 0, tb_191)
/-- (name, bytes, locals, answer, own class, frames below it, has longs, 0 static 1 virtual 2 constructor, table) -/
def pm_192 : PM := (yX12_lesser, cX12_lesser, 2, some .int, 12, 0, false, 0, tb_192)
/-- (name, bytes, locals, answer, own class, frames below it, has longs, 0 static 1 virtual 2 constructor, table) -/
def pm_193 : PM := (yX12_ones, cX12_ones, 3, some .int, 12, 1, false, 0, tb_193)
/-- (name, bytes, locals, answer, own class, frames below it, has longs, 0 static 1 virtual 2 constructor, table) -/
def pm_194 : PM := (yX12_copyRow, cX12_copyRow, 5, none, 12, 0, false, 0, tb_194)
/-- (name, bytes, locals, answer, own class, frames below it, has longs, 0 static 1 virtual 2 constructor, table) -/
def pm_195 : PM := (yX12_copyAll, cX12_copyAll, 4, none, 12, 1, false, 1, tb_195)
/-- (name, bytes, locals, answer, own class, frames below it, has longs, 0 static 1 virtual 2 constructor, table) -/
def pm_196 : PM := (yX12_is, cX12_is, 3, some .boolean, 12, 1, false, 1, tb_196)
/-- (name, bytes, locals, answer, own class, frames below it, has longs, 0 static 1 virtual 2 constructor, table) -/
def pm_197 : PM := (yX12_feed, cX12_feed, 6, some .int, 12, 1, false, 1, tb_197)
/-- (name, bytes, locals, answer, own class, frames below it, has longs, 0 static 1 virtual 2 constructor, table) -/
def pm_198 : PM := (yX12_four, cX12_four, 3, none, 12, 0, false, 1, tb_198)
/-- (name, bytes, locals, answer, own class, frames below it, has longs, 0 static 1 virtual 2 constructor, table) -/
def pm_199 : PM := (yX12_end, cX12_end, 2, some .int, 12, 1, false, 1, tb_199)
/-- (name, bytes, locals, answer, own class, frames below it, has longs, 0 static 1 virtual 2 constructor, table) -/
def pm_200 : PM := (yX12_see, cX12_see, 1, some .int, 12, 0, false, 1, tb_200)
/-- (name, bytes, locals, answer, own class, frames below it, has longs, 0 static 1 virtual 2 constructor, table) -/
def pm_201 : PM := (yX12_token, cX12_token, 3, none, 12, 1, false, 1, tb_201)
/-- (name, bytes, locals, answer, own class, frames below it, has longs, 0 static 1 virtual 2 constructor, table) -/
def pm_202 : PM := (yX12_fails, cX12_fails, 1, some .boolean, 12, 0, false, 1, tb_202)
/-- (name, bytes, locals, answer, own class, frames below it, has longs, 0 static 1 virtual 2 constructor, table) -/
def pm_203 : PM := (yX12_later, cX12_later, 3, none, 12, 0, false, 1, tb_203)
/-- (name, bytes, locals, answer, own class, frames below it, has longs, 0 static 1 virtual 2 constructor, table) -/
def pm_204 : PM := (yX12_take, cX12_take, 4, some .boolean, 12, 2, false, 1, tb_204)
/-- (name, bytes, locals, answer, own class, frames below it, has longs, 0 static 1 virtual 2 constructor, table) -/
def pm_205 : PM := (yX12_takeKind, cX12_takeKind, 5, some .boolean, 12, 2, true, 1, tb_205)
/-- (name, bytes, locals, answer, own class, frames below it, has longs, 0 static 1 virtual 2 constructor, table) -/
def pm_206 : PM := (yX12_full, cX12_full, 4, none, 12, 1, false, 1, tb_206)
/-- (name, bytes, locals, answer, own class, frames below it, has longs, 0 static 1 virtual 2 constructor, table) -/
def pm_207 : PM := (yX12_hillLine, cX12_hillLine, 1, some .boolean, 12, 3, false, 1, tb_207)
/-- (name, bytes, locals, answer, own class, frames below it, has longs, 0 static 1 virtual 2 constructor, table) -/
def pm_208 : PM := (yX12_riderLine, cX12_riderLine, 1, some .boolean, 12, 3, false, 1, tb_208)
/-- (name, bytes, locals, answer, own class, frames below it, has longs, 0 static 1 virtual 2 constructor, table) -/
def pm_209 : PM := (yX12_wearLine, cX12_wearLine, 1, some .boolean, 12, 3, false, 1, tb_209)
/-- (name, bytes, locals, answer, own class, frames below it, has longs, 0 static 1 virtual 2 constructor, table) -/
def pm_210 : PM := (yX12_fareLine, cX12_fareLine, 1, some .boolean, 12, 3, false, 1, tb_210)
/-- (name, bytes, locals, answer, own class, frames below it, has longs, 0 static 1 virtual 2 constructor, table) -/
def pm_211 : PM := (yX12_lineLine, cX12_lineLine, 4, some .boolean, 12, 4, true, 1, tb_211)
/-- (name, bytes, locals, answer, own class, frames below it, has longs, 0 static 1 virtual 2 constructor, table) -/
def pm_212 : PM := (yX12_deedBy, cX12_deedBy, 2, some .int, 12, 0, true, 0, tb_212)
/-- (name, bytes, locals, answer, own class, frames below it, has longs, 0 static 1 virtual 2 constructor, table) -/
def pm_213 : PM := (yX12_keep, cX12_keep, 6, none, 12, 0, false, 1, tb_213)
/-- (name, bytes, locals, answer, own class, frames below it, has longs, 0 static 1 virtual 2 constructor, table) -/
def pm_214 : PM := (yX12_rideLine, cX12_rideLine, 5, some .boolean, 12, 3, true, 1, tb_214)
/-- (name, bytes, locals, answer, own class, frames below it, has longs, 0 static 1 virtual 2 constructor, table) -/
def pm_215 : PM := (yX12_flowLine, cX12_flowLine, 3, some .boolean, 12, 3, true, 1, tb_215)
/-- (name, bytes, locals, answer, own class, frames below it, has longs, 0 static 1 virtual 2 constructor, table) -/
def pm_216 : PM := (yX12_sightLine, cX12_sightLine, 5, some .boolean, 12, 3, true, 1, tb_216)
/-- (name, bytes, locals, answer, own class, frames below it, has longs, 0 static 1 virtual 2 constructor, table) -/
def pm_217 : PM := (yX12_lineOf, cX12_lineOf, 5, some .boolean, 12, 5, true, 1, tb_217)
/-- (name, bytes, locals, answer, own class, frames below it, has longs, 0 static 1 virtual 2 constructor, table) -/
def pm_218 : PM := (yX12_allLines, cX12_allLines, 4, some .boolean, 12, 6, false, 1, tb_218)
/-- (name, bytes, locals, answer, own class, frames below it, has longs, 0 static 1 virtual 2 constructor, table) -/
def pm_219 : PM := (yX12_blank, cX12_blank, 3, none, 12, 0, false, 1, tb_219)
/-- (name, bytes, locals, answer, own class, frames below it, has longs, 0 static 1 virtual 2 constructor, table) -/
def pm_220 : PM := (yX12_readText, cX12_readText, 3, some .boolean, 12, 7, false, 1, tb_220)
/-- (name, bytes, locals, answer, own class, frames below it, has longs, 0 static 1 virtual 2 constructor, table) -/
def pm_221 : PM := (yX12_store, cX12_store, 5, none, 12, 0, false, 1, tb_221)
/-- (name, bytes, locals, answer, own class, frames below it, has longs, 0 static 1 virtual 2 constructor, table) -/
def pm_222 : PM := (yX12_storeAll, cX12_storeAll, 3, none, 12, 1, false, 1, tb_222)
/-- (name, bytes, locals, answer, own class, frames below it, has longs, 0 static 1 virtual 2 constructor, table) -/
def pm_223 : PM := (yX12_text, cX12_text, 4, some .int, 12, 8, false, 1, tb_223)
/-- (name, bytes, locals, answer, own class, frames below it, has longs, 0 static 1 virtual 2 constructor, table) -/
def pm_224 : PM := (yX12_fault, cX12_fault, 2, some .int, 12, 0, false, 1, tb_224)
/-- (name, bytes, locals, answer, own class, frames below it, has longs, 0 static 1 virtual 2 constructor, table) -/
def pm_225 : PM := (yX12_of, cX12_of, 2, some .int, 12, 0, false, 1, tb_225)
/-- (name, bytes, locals, answer, own class, frames below it, has longs, 0 static 1 virtual 2 constructor, table) -/
def pm_226 : PM := (yX12_hand, cX12_hand, 2, some .boolean, 12, 2, false, 1, tb_226)
/-- (name, bytes, locals, answer, own class, frames below it, has longs, 0 static 1 virtual 2 constructor, table) -/
def pm_227 : PM := (yX12_pull, cX12_pull, 4, some .int, 12, 1, false, 1, tb_227)
/-- (name, bytes, locals, answer, own class, frames below it, has longs, 0 static 1 virtual 2 constructor, table) -/
def pm_228 : PM := (yX12_wear, cX12_wear, 2, some .int, 12, 1, false, 1, tb_228)
/-- (name, bytes, locals, answer, own class, frames below it, has longs, 0 static 1 virtual 2 constructor, table) -/
def pm_229 : PM := (yX12_line, cX12_line, 4, some .int, 12, 3, false, 1, tb_229)
/-- (name, bytes, locals, answer, own class, frames below it, has longs, 0 static 1 virtual 2 constructor, table) -/
def pm_230 : PM := (yX12_deeds, cX12_deeds, 1, some .int, 12, 0, false, 1, tb_230)
/-- (name, bytes, locals, answer, own class, frames below it, has longs, 0 static 1 virtual 2 constructor, table) -/
def pm_231 : PM := (yX12_deedOf, cX12_deedOf, 3, some .int, 12, 0, false, 1, tb_231)
/-- (name, bytes, locals, answer, own class, frames below it, has longs, 0 static 1 virtual 2 constructor, table) -/
def pm_232 : PM := (yX12_hasRide, cX12_hasRide, 2, some .boolean, 12, 2, false, 1, tb_232)
/-- (name, bytes, locals, answer, own class, frames below it, has longs, 0 static 1 virtual 2 constructor, table) -/
def pm_233 : PM := (yX12_deed, cX12_deed, 4, some .int, 12, 3, false, 1, tb_233)
/-- (name, bytes, locals, answer, own class, frames below it, has longs, 0 static 1 virtual 2 constructor, table) -/
def pm_234 : PM := (yX12_begin, cX12_begin, 2, none, 12, 1, false, 1, tb_234)
/-- (name, bytes, locals, answer, own class, frames below it, has longs, 0 static 1 virtual 2 constructor, table) -/
def pm_235 : PM := (yX12_isAboard, cX12_isAboard, 2, some .boolean, 12, 1, false, 1, tb_235)
/-- (name, bytes, locals, answer, own class, frames below it, has longs, 0 static 1 virtual 2 constructor, table) -/
def pm_236 : PM := (yX12_isFree, cX12_isFree, 2, some .boolean, 12, 1, false, 1, tb_236)
/-- (name, bytes, locals, answer, own class, frames below it, has longs, 0 static 1 virtual 2 constructor, table) -/
def pm_237 : PM := (yX12_sitsDown, cX12_sitsDown, 3, none, 12, 0, false, 1, tb_237)
/-- (name, bytes, locals, answer, own class, frames below it, has longs, 0 static 1 virtual 2 constructor, table) -/
def pm_238 : PM := (yX12_boards, cX12_boards, 3, some .boolean, 12, 2, false, 1, tb_238)
/-- (name, bytes, locals, answer, own class, frames below it, has longs, 0 static 1 virtual 2 constructor, table) -/
def pm_239 : PM := (yX12_getsOff, cX12_getsOff, 2, some .boolean, 12, 2, false, 1, tb_239)
/-- (name, bytes, locals, answer, own class, frames below it, has longs, 0 static 1 virtual 2 constructor, table) -/
def pm_240 : PM := (yX12_tells, cX12_tells, 3, none, 12, 2, false, 1, tb_240)
/-- (name, bytes, locals, answer, own class, frames below it, has longs, 0 static 1 virtual 2 constructor, table) -/
def pm_241 : PM := (yX12_shares, cX12_shares, 6, none, 12, 0, false, 1, tb_241)
/-- (name, bytes, locals, answer, own class, frames below it, has longs, 0 static 1 virtual 2 constructor, table) -/
def pm_242 : PM := (yX12_pullOfAll, cX12_pullOfAll, 3, some .int, 12, 2, false, 1, tb_242)
/-- (name, bytes, locals, answer, own class, frames below it, has longs, 0 static 1 virtual 2 constructor, table) -/
def pm_243 : PM := (yX12_goes, cX12_goes, 2, some .boolean, 12, 3, false, 1, tb_243)
/-- (name, bytes, locals, answer, own class, frames below it, has longs, 0 static 1 virtual 2 constructor, table) -/
def pm_244 : PM := (yX12_goesBack, cX12_goesBack, 1, some .boolean, 12, 0, false, 1, tb_244)
/-- (name, bytes, locals, answer, own class, frames below it, has longs, 0 static 1 virtual 2 constructor, table) -/
def pm_245 : PM := (yX12_does, cX12_does, 4, some .boolean, 12, 4, false, 1, tb_245)
/-- (name, bytes, locals, answer, own class, frames below it, has longs, 0 static 1 virtual 2 constructor, table) -/
def pm_246 : PM := (yX12_play, cX12_play, 3, some .int, 12, 5, false, 1, tb_246)
/-- (name, bytes, locals, answer, own class, frames below it, has longs, 0 static 1 virtual 2 constructor, table) -/
def pm_247 : PM := (yX12_layAll, cX12_layAll, 3, some .boolean, 12, 3, false, 1, tb_247)
/-- (name, bytes, locals, answer, own class, frames below it, has longs, 0 static 1 virtual 2 constructor, table) -/
def pm_248 : PM := (yX12_stop, cX12_stop, 3, some .int, 12, 6, false, 1, tb_248)
/-- (name, bytes, locals, answer, own class, frames below it, has longs, 0 static 1 virtual 2 constructor, table) -/
def pm_249 : PM := (yX12_ofState, cX12_ofState, 5, some .int, 12, 3, false, 1, tb_249)
/-- (name, bytes, locals, answer, own class, frames below it, has longs, 0 static 1 virtual 2 constructor, table) -/
def pm_250 : PM := (yX12_state, cX12_state, 5, some .int, 12, 6, false, 1, tb_250)
/-- (name, bytes, locals, answer, own class, frames below it, has longs, 0 static 1 virtual 2 constructor, table) -/
def pm_251 : PM := (yX12_isSet, cX12_isSet, 2, some .boolean, 12, 1, false, 1, tb_251)
/-- (name, bytes, locals, answer, own class, frames below it, has longs, 0 static 1 virtual 2 constructor, table) -/
def pm_252 : PM := (yX12_isSeated, cX12_isSeated, 2, some .boolean, 12, 2, false, 1, tb_252)
/-- (name, bytes, locals, answer, own class, frames below it, has longs, 0 static 1 virtual 2 constructor, table) -/
def pm_253 : PM := (yX12_laySet, cX12_laySet, 3, none, 12, 1, false, 1, tb_253)
/-- (name, bytes, locals, answer, own class, frames below it, has longs, 0 static 1 virtual 2 constructor, table) -/
def pm_254 : PM := (yX12_pullOf, cX12_pullOf, 4, some .int, 12, 2, false, 1, tb_254)
/-- (name, bytes, locals, answer, own class, frames below it, has longs, 0 static 1 virtual 2 constructor, table) -/
def pm_255 : PM := (yX12_wears, cX12_wears, 3, none, 12, 2, false, 1, tb_255)
/-- (name, bytes, locals, answer, own class, frames below it, has longs, 0 static 1 virtual 2 constructor, table) -/
def pm_256 : PM := (yX12_comesFrom, cX12_comesFrom, 4, some .int, 12, 3, false, 1, tb_256)
/-- (name, bytes, locals, answer, own class, frames below it, has longs, 0 static 1 virtual 2 constructor, table) -/
def pm_257 : PM := (yX12_comes, cX12_comes, 4, some .int, 12, 4, false, 1, tb_257)
/-- (name, bytes, locals, answer, own class, frames below it, has longs, 0 static 1 virtual 2 constructor, table) -/
def pm_258 : PM := (yX12_getsUp, cX12_getsUp, 3, some .boolean, 12, 4, false, 1, tb_258)
/-- (name, bytes, locals, answer, own class, frames below it, has longs, 0 static 1 virtual 2 constructor, table) -/
def pm_259 : PM := (yX12_findGets, cX12_findGets, 2, none, 12, 5, false, 1, tb_259)
/-- (name, bytes, locals, answer, own class, frames below it, has longs, 0 static 1 virtual 2 constructor, table) -/
def pm_260 : PM := (yX12_ounces, cX12_ounces, 4, some .int, 12, 1, false, 1, tb_260)
/-- (name, bytes, locals, answer, own class, frames below it, has longs, 0 static 1 virtual 2 constructor, table) -/
def pm_261 : PM := (yX12_few, cX12_few, 3, some .int, 12, 2, false, 1, tb_261)
/-- (name, bytes, locals, answer, own class, frames below it, has longs, 0 static 1 virtual 2 constructor, table) -/
def pm_262 : PM := (yX12_light, cX12_light, 3, some .int, 12, 2, false, 1, tb_262)
/-- (name, bytes, locals, answer, own class, frames below it, has longs, 0 static 1 virtual 2 constructor, table) -/
def pm_263 : PM := (yX12_mostTrams, cX12_mostTrams, 4, some .int, 12, 1, false, 1, tb_263)
/-- (name, bytes, locals, answer, own class, frames below it, has longs, 0 static 1 virtual 2 constructor, table) -/
def pm_264 : PM := (yX12_needed, cX12_needed, 5, some .int, 12, 1, false, 1, tb_264)
/-- (name, bytes, locals, answer, own class, frames below it, has longs, 0 static 1 virtual 2 constructor, table) -/
def pm_265 : PM := (yX12_up, cX12_up, 3, some .int, 12, 6, false, 1, tb_265)
/-- (name, bytes, locals, answer, own class, frames below it, has longs, 0 static 1 virtual 2 constructor, table) -/
def pm_266 : PM := (yX12_laySeated, cX12_laySeated, 3, some .boolean, 12, 3, false, 1, tb_266)
/-- (name, bytes, locals, answer, own class, frames below it, has longs, 0 static 1 virtual 2 constructor, table) -/
def pm_267 : PM := (yX12_rounds, cX12_rounds, 4, some .int, 12, 4, false, 1, tb_267)
/-- (name, bytes, locals, answer, own class, frames below it, has longs, 0 static 1 virtual 2 constructor, table) -/
def pm_268 : PM := (yX12_nextOrder, cX12_nextOrder, 5, some .boolean, 12, 1, false, 1, tb_268)
/-- (name, bytes, locals, answer, own class, frames below it, has longs, 0 static 1 virtual 2 constructor, table) -/
def pm_269 : PM := (yX12_swap, cX12_swap, 4, none, 12, 0, false, 1, tb_269)
/-- (name, bytes, locals, answer, own class, frames below it, has longs, 0 static 1 virtual 2 constructor, table) -/
def pm_270 : PM := (yX12_greatestBy, cX12_greatestBy, 4, some .int, 12, 2, false, 1, tb_270)
/-- (name, bytes, locals, answer, own class, frames below it, has longs, 0 static 1 virtual 2 constructor, table) -/
def pm_271 : PM := (yX12_calm, cX12_calm, 10, some .int, 12, 4, false, 1, tb_271)
/-- (name, bytes, locals, answer, own class, frames below it, has longs, 0 static 1 virtual 2 constructor, table) -/
def pm_272 : PM := (yX12_leastOf, cX12_leastOf, 2, some .int, 12, 1, false, 0, tb_272)
/-- (name, bytes, locals, answer, own class, frames below it, has longs, 0 static 1 virtual 2 constructor, table) -/
def pm_273 : PM := (yX12_findCouples, cX12_findCouples, 8, none, 12, 2, false, 1, tb_273)
/-- (name, bytes, locals, answer, own class, frames below it, has longs, 0 static 1 virtual 2 constructor, table) -/
def pm_274 : PM := (yX12_couplings, cX12_couplings, 8, some .int, 12, 2, false, 1, tb_274)
/-- (name, bytes, locals, answer, own class, frames below it, has longs, 0 static 1 virtual 2 constructor, table) -/
def pm_275 : PM := (yX12_couples, cX12_couples, 4, some .int, 12, 3, false, 1, tb_275)
/-- (name, bytes, locals, answer, own class, frames below it, has longs, 0 static 1 virtual 2 constructor, table) -/
def pm_276 : PM := (yX12_need, cX12_need, 1, some .int, 12, 0, false, 1, tb_276)
/-- (name, bytes, locals, answer, own class, frames below it, has longs, 0 static 1 virtual 2 constructor, table) -/
def pm_277 : PM := (yX12_come, cX12_come, 2, some .int, 12, 0, false, 1, tb_277)
/-- (name, bytes, locals, answer, own class, frames below it, has longs, 0 static 1 virtual 2 constructor, table) -/
def pm_278 : PM := (yX12_hasFlow, cX12_hasFlow, 2, some .boolean, 12, 2, false, 1, tb_278)
/-- (name, bytes, locals, answer, own class, frames below it, has longs, 0 static 1 virtual 2 constructor, table) -/
def pm_279 : PM := (yX12_between, cX12_between, 5, some .int, 12, 1, false, 1, tb_279)
/-- (name, bytes, locals, answer, own class, frames below it, has longs, 0 static 1 virtual 2 constructor, table) -/
def pm_280 : PM := (yX12_rush, cX12_rush, 3, some .int, 12, 1, false, 1, tb_280)
/-- (name, bytes, locals, answer, own class, frames below it, has longs, 0 static 1 virtual 2 constructor, table) -/
def pm_281 : PM := (yX12_lull, cX12_lull, 4, some .int, 12, 1, false, 1, tb_281)
/-- (name, bytes, locals, answer, own class, frames below it, has longs, 0 static 1 virtual 2 constructor, table) -/
def pm_282 : PM := (yX12_half, cX12_half, 2, some .int, 12, 2, false, 1, tb_282)
/-- (name, bytes, locals, answer, own class, frames below it, has longs, 0 static 1 virtual 2 constructor, table) -/
def pm_283 : PM := (yX12_steady, cX12_steady, 4, some .int, 12, 2, false, 1, tb_283)
/-- (name, bytes, locals, answer, own class, frames below it, has longs, 0 static 1 virtual 2 constructor, table) -/
def pm_284 : PM := (yX12_flow, cX12_flow, 3, some .int, 12, 3, false, 1, tb_284)
/-- (name, bytes, locals, answer, own class, frames below it, has longs, 0 static 1 virtual 2 constructor, table) -/
def pm_285 : PM := (yX12_waitTill, cX12_waitTill, 5, some .int, 12, 1, false, 1, tb_285)
/-- (name, bytes, locals, answer, own class, frames below it, has longs, 0 static 1 virtual 2 constructor, table) -/
def pm_286 : PM := (yX12_findTrams, cX12_findTrams, 5, none, 12, 2, false, 1, tb_286)
/-- (name, bytes, locals, answer, own class, frames below it, has longs, 0 static 1 virtual 2 constructor, table) -/
def pm_287 : PM := (yX12_tramAt, cX12_tramAt, 6, some .int, 12, 2, false, 1, tb_287)
/-- (name, bytes, locals, answer, own class, frames below it, has longs, 0 static 1 virtual 2 constructor, table) -/
def pm_288 : PM := (yX12_leaves, cX12_leaves, 3, some .int, 12, 3, false, 1, tb_288)
/-- (name, bytes, locals, answer, own class, frames below it, has longs, 0 static 1 virtual 2 constructor, table) -/
def pm_289 : PM := (yX12_strangers, cX12_strangers, 1, some .int, 12, 0, false, 1, tb_289)
/-- (name, bytes, locals, answer, own class, frames below it, has longs, 0 static 1 virtual 2 constructor, table) -/
def pm_290 : PM := (yX12_facts, cX12_facts, 1, some .int, 12, 0, false, 1, tb_290)
/-- (name, bytes, locals, answer, own class, frames below it, has longs, 0 static 1 virtual 2 constructor, table) -/
def pm_291 : PM := (yX12_factOf, cX12_factOf, 3, some .int, 12, 0, false, 1, tb_291)
/-- (name, bytes, locals, answer, own class, frames below it, has longs, 0 static 1 virtual 2 constructor, table) -/
def pm_292 : PM := (yX12_hasSight, cX12_hasSight, 2, some .boolean, 12, 2, false, 1, tb_292)
/-- (name, bytes, locals, answer, own class, frames below it, has longs, 0 static 1 virtual 2 constructor, table) -/
def pm_293 : PM := (yX12_fact, cX12_fact, 4, some .int, 12, 3, false, 1, tb_293)
/-- (name, bytes, locals, answer, own class, frames below it, has longs, 0 static 1 virtual 2 constructor, table) -/
def pm_294 : PM := (yX12_layBear, cX12_layBear, 4, none, 12, 0, false, 1, tb_294)
/-- (name, bytes, locals, answer, own class, frames below it, has longs, 0 static 1 virtual 2 constructor, table) -/
def pm_295 : PM := (yX12_together, cX12_together, 4, some .int, 12, 1, false, 1, tb_295)
/-- (name, bytes, locals, answer, own class, frames below it, has longs, 0 static 1 virtual 2 constructor, table) -/
def pm_296 : PM := (yX12_isFit, cX12_isFit, 2, some .boolean, 12, 2, false, 1, tb_296)
/-- (name, bytes, locals, answer, own class, frames below it, has longs, 0 static 1 virtual 2 constructor, table) -/
def pm_297 : PM := (yX12_findFits, cX12_findFits, 4, none, 12, 3, false, 1, tb_297)
/-- (name, bytes, locals, answer, own class, frames below it, has longs, 0 static 1 virtual 2 constructor, table) -/
def pm_298 : PM := (yX12_ask, cX12_ask, 7, some .int, 12, 1, false, 1, tb_298)
/-- (name, bytes, locals, answer, own class, frames below it, has longs, 0 static 1 virtual 2 constructor, table) -/
def pm_299 : PM := (yX12_fits, cX12_fits, 4, some .int, 12, 4, false, 1, tb_299)
/-- (name, bytes, locals, answer, own class, frames below it, has longs, 0 static 1 virtual 2 constructor, table) -/
def pm_300 : PM := (yX12_fareOf, cX12_fareOf, 2, some .int, 12, 1, false, 1, tb_300)
/-- (name, bytes, locals, answer, own class, frames below it, has longs, 0 static 1 virtual 2 constructor, table) -/
def pm_301 : PM := (yX12_findCheap, cX12_findCheap, 5, none, 12, 2, false, 1, tb_301)
/-- (name, bytes, locals, answer, own class, frames below it, has longs, 0 static 1 virtual 2 constructor, table) -/
def pm_302 : PM := (yX12_loop, cX12_loop, 5, some .int, 12, 2, false, 1, tb_302)
/-- (name, bytes, locals, answer, own class, frames below it, has longs, 0 static 1 virtual 2 constructor, table) -/
def pm_303 : PM := (yX12_fare, cX12_fare, 5, some .int, 12, 3, false, 1, tb_303)
/-- (name, bytes, locals, answer, own class, frames below it, has longs, 0 static 1 virtual 2 constructor, table) -/
def pm_304 : PM := (yX12_route, cX12_route, 6, some .int, 12, 3, false, 1, tb_304)
/-- (name, bytes, locals, answer, own class, frames below it, has longs, 0 static 1 virtual 2 constructor, table) -/
def pm_305 : PM := (yX12_draw, cX12_draw, 2, some .int, 12, 0, false, 1, tb_305)
/-- (name, bytes, locals, answer, own class, frames below it, has longs, 0 static 1 virtual 2 constructor, table) -/
def pm_306 : PM := (yX12_freeSeat, cX12_freeSeat, 2, some .int, 12, 0, false, 1, tb_306)
/-- (name, bytes, locals, answer, own class, frames below it, has longs, 0 static 1 virtual 2 constructor, table) -/
def pm_307 : PM := (yX12_drawDeed, cX12_drawDeed, 3, none, 12, 4, false, 1, tb_307)
/-- (name, bytes, locals, answer, own class, frames below it, has longs, 0 static 1 virtual 2 constructor, table) -/
def pm_308 : PM := (yX12_drawn, cX12_drawn, 6, some .int, 12, 5, false, 1, tb_308)
/-- (name, bytes, locals, answer, own class, frames below it, has longs, 0 static 1 virtual 2 constructor, table) -/
def pm_309 : PM := (yX12_plea, cX12_plea, 4, some .int, 12, 5, false, 1, tb_309)
/-- (name, bytes, locals, answer, own class, frames below it, has longs, 0 static 1 virtual 2 constructor, table) -/
def pm_310 : PM := (yX12_bears, cX12_bears, 6, some .int, 12, 4, false, 1, tb_310)
/-- (name, bytes, locals, answer, own class, frames below it, has longs, 0 static 1 virtual 2 constructor, table) -/
def pm_311 : PM := (yX12_spared, cX12_spared, 5, some .int, 12, 5, false, 1, tb_311)
/-- (name, bytes, locals, answer, own class, frames below it, has longs, 0 static 1 virtual 2 constructor, table) -/
def pm_312 : PM := (yX12_against, cX12_against, 6, some .int, 12, 3, false, 1, tb_312)
/-- (name, bytes, locals, answer, own class, frames below it, has longs, 0 static 1 virtual 2 constructor, table) -/
def pm_313 : PM := (yX12_sets, cX12_sets, 5, some .int, 12, 4, false, 1, tb_313)
/-- (name, bytes, locals, answer, own class, frames below it, has longs, 0 static 1 virtual 2 constructor, table) -/
def pm_314 : PM := (yX12_byTurns, cX12_byTurns, 5, some .int, 12, 4, false, 1, tb_314)
/-- (name, bytes, locals, answer, own class, frames below it, has longs, 0 static 1 virtual 2 constructor, table) -/
def pm_315 : PM := (yX12_news, cX12_news, 4, some .int, 12, 5, false, 1, tb_315)
/-- (name, bytes, locals, answer, own class, frames below it, has longs, 0 static 1 virtual 2 constructor, table) -/
def pm_316 : PM := (yX12_slack, cX12_slack, 8, some .int, 12, 5, false, 1, tb_316)
/-- (name, bytes, locals, answer, own class, frames below it, has longs, 0 static 1 virtual 2 constructor, table) -/
def pm_317 : PM := (yX12_orders, cX12_orders, 9, some .long, 12, 4, true, 1, tb_317)
/-- (name, bytes, locals, answer, own class, frames below it, has longs, 0 static 1 virtual 2 constructor, table) -/
def pm_318 : PM := (yX12_halves, cX12_halves, 9, some .int, 12, 6, false, 1, tb_318)
/-- (name, bytes, locals, answer, own class, frames below it, has longs, 0 static 1 virtual 2 constructor, table) -/
def pm_319 : PM := (yX12_count, cX12_count, 2, some .int, 12, 1, false, 1, tb_319)
/-- (name, bytes, locals, answer, own class, frames below it, has longs, 0 static 1 virtual 2 constructor, table) -/
def pm_320 : PM := (yX12_image, cX12_image, 2, some .boolean, 12, 2, false, 1, tb_320)
/-- (name, bytes, locals, answer, own class, frames below it, has longs, 0 static 1 virtual 2 constructor, table) -/
def pm_321 : PM := (yX12_again, cX12_again, 2, some .boolean, 12, 2, false, 1, tb_321)
/-- (name, bytes, locals, answer, own class, frames below it, has longs, 0 static 1 virtual 2 constructor, table) -/
def pm_322 : PM := (yJ6_numberOfTrailingZeros_0f7a4, cJ6_numberOfTrailingZeros_0f7a4, 2, some .int, 17, 0, false, 0, tb_322)
/-- (name, bytes, locals, answer, own class, frames below it, has longs, 0 static 1 virtual 2 constructor, table) -/
def pm_323 : PM := (yJ6_bitCount_0f7a4, cJ6_bitCount_0f7a4, 1, some .int, 17, 0, false, 0, tb_323)
/-- (name, bytes, locals, answer, own class, frames below it, has longs, 0 static 1 virtual 2 constructor, table) -/
def pm_324 : PM := (yJ0_length_8abf5, cJ0_length_8abf5, 1, some .int, 14, 1, false, 1, tb_324)
/-- (name, bytes, locals, answer, own class, frames below it, has longs, 0 static 1 virtual 2 constructor, table) -/
def pm_325 : PM := (yJ0_charAt_5068e, cJ0_charAt_5068e, 2, some .char, 14, 3, false, 1, tb_325)
/-- (name, bytes, locals, answer, own class, frames below it, has longs, 0 static 1 virtual 2 constructor, table) -/
def pm_326 : PM := (yJ0_coder_7d493, cJ0_coder_7d493, 1, some .byte, 14, 0, false, 1, tb_326)
/-- (name, bytes, locals, answer, own class, frames below it, has longs, 0 static 1 virtual 2 constructor, table) -/
def pm_327 : PM := (yJ0_isLatin1_aae02, cJ0_isLatin1_aae02, 1, some .boolean, 14, 0, false, 1, tb_327)
/-- (name, bytes, locals, answer, own class, frames below it, has longs, 0 static 1 virtual 2 constructor, table) -/
def pm_328 : PM := (yJ0_checkIndex_df160, cJ0_checkIndex_df160, 2, none, 14, 1, false, 0, tb_328)
/-- (name, bytes, locals, answer, own class, frames below it, has longs, 0 static 1 virtual 2 constructor, table) -/
def pm_329 : PM := (yJ1_charAt_3b067, cJ1_charAt_3b067, 2, some .char, 15, 2, false, 0, tb_329)
/-- (name, bytes, locals, answer, own class, frames below it, has longs, 0 static 1 virtual 2 constructor, table) -/
def pm_330 : PM := (yJ3_checkIndex_8e157, cJ3_checkIndex_8e157, 3, some .int, 16, 0, false, 0, tb_330)
/-- (name, bytes, locals, answer, own class, frames below it, has longs, 0 static 1 virtual 2 constructor, table) -/
def pm_331 : PM := (yL_law, cL_law, 4, some .boolean, 13, 13, false, 0, tb_331)
def PGL : List PM := [pm_0, pm_1, pm_2, pm_3, pm_4, pm_5, pm_6, pm_7, pm_8, pm_9, pm_10, pm_11, pm_12, pm_13, pm_14, pm_15, pm_16, pm_17, pm_18, pm_19, pm_20, pm_21, pm_22, pm_23, pm_24, pm_25, pm_26, pm_27, pm_28, pm_29, pm_30, pm_31, pm_32, pm_33, pm_34, pm_35, pm_36, pm_37, pm_38, pm_39, pm_40, pm_41, pm_42, pm_43, pm_44, pm_45, pm_46, pm_47, pm_48, pm_49, pm_50, pm_51, pm_52, pm_53, pm_54, pm_55, pm_56, pm_57, pm_58, pm_59, pm_60, pm_61, pm_62, pm_63, pm_64, pm_65, pm_66, pm_67, pm_68, pm_69, pm_70, pm_71, pm_72, pm_73, pm_74, pm_75, pm_76, pm_77, pm_78, pm_79, pm_80, pm_81, pm_82, pm_83, pm_84, pm_85, pm_86, pm_87, pm_88, pm_89, pm_90, pm_91, pm_92, pm_93, pm_94, pm_95, pm_96, pm_97, pm_98, pm_99, pm_100, pm_101, pm_102, pm_103, pm_104, pm_105, pm_106, pm_107, pm_108, pm_109, pm_110, pm_111, pm_112, pm_113, pm_114, pm_115, pm_116, pm_117, pm_118, pm_119, pm_120, pm_121, pm_122, pm_123, pm_124, pm_125, pm_126, pm_127, pm_128, pm_129, pm_130, pm_131, pm_132, pm_133, pm_134, pm_135, pm_136, pm_137, pm_138, pm_139, pm_140, pm_141, pm_142, pm_143, pm_144, pm_145, pm_146, pm_147, pm_148, pm_149, pm_150, pm_151, pm_152, pm_153, pm_154, pm_155, pm_156, pm_157, pm_158, pm_159, pm_160, pm_161, pm_162, pm_163, pm_164, pm_165, pm_166, pm_167, pm_168, pm_169, pm_170, pm_171, pm_172, pm_173, pm_174, pm_175, pm_176, pm_177, pm_178, pm_179, pm_180, pm_181, pm_182, pm_183, pm_184, pm_185, pm_186, pm_187, pm_188, pm_189, pm_190, pm_191, pm_192, pm_193, pm_194, pm_195, pm_196, pm_197, pm_198, pm_199, pm_200, pm_201, pm_202, pm_203, pm_204, pm_205, pm_206, pm_207, pm_208, pm_209, pm_210, pm_211, pm_212, pm_213, pm_214, pm_215, pm_216, pm_217, pm_218, pm_219, pm_220, pm_221, pm_222, pm_223, pm_224, pm_225, pm_226, pm_227, pm_228, pm_229, pm_230, pm_231, pm_232, pm_233, pm_234, pm_235, pm_236, pm_237, pm_238, pm_239, pm_240, pm_241, pm_242, pm_243, pm_244, pm_245, pm_246, pm_247, pm_248, pm_249, pm_250, pm_251, pm_252, pm_253, pm_254, pm_255, pm_256, pm_257, pm_258, pm_259, pm_260, pm_261, pm_262, pm_263, pm_264, pm_265, pm_266, pm_267, pm_268, pm_269, pm_270, pm_271, pm_272, pm_273, pm_274, pm_275, pm_276, pm_277, pm_278, pm_279, pm_280, pm_281, pm_282, pm_283, pm_284, pm_285, pm_286, pm_287, pm_288, pm_289, pm_290, pm_291, pm_292, pm_293, pm_294, pm_295, pm_296, pm_297, pm_298, pm_299, pm_300, pm_301, pm_302, pm_303, pm_304, pm_305, pm_306, pm_307, pm_308, pm_309, pm_310, pm_311, pm_312, pm_313, pm_314, pm_315, pm_316, pm_317, pm_318, pm_319, pm_320, pm_321, pm_322, pm_323, pm_324, pm_325, pm_326, pm_327, pm_328, pm_329, pm_330, pm_331]
def CNL : List String := ["GriefTram$Bench", "GriefTram$Crew", "GriefTram$Flow", "GriefTram$Judge", "GriefTram$Line", "GriefTram$Reader", "GriefTram$Ride", "GriefTram$Sight", "GriefTram$Told", "GriefTram$Tram", "GriefTram$Yard", "GriefTram", "GriefTramModel", "GriefTramLaw", "java/lang/String", "java/lang/StringLatin1", "jdk/internal/util/Preconditions", "java/lang/Integer"]
/-- what kind of value a field holds: 0 int, 1 boolean, 2 long, 3 a reference -/
def FKL : List (List Nat) := [[0, 0, 0, 3, 3, 3, 3], [3, 3, 3], [0, 3, 3, 3, 3], [3, 3, 3], [3, 0, 0, 3, 3, 0, 3, 3, 3], [3, 3, 3, 3, 0, 0, 3, 0, 0, 0, 0, 0, 0, 3], [3, 3, 3, 0], [0, 0, 3, 3, 3, 1, 0, 0, 3, 3], [3, 0, 0, 0, 3, 3, 3, 3, 3], [3, 0, 0, 0, 0, 0, 3, 3, 3], [3, 3, 0, 3, 3, 3], [3, 3, 3, 3, 3, 3, 3, 3], [0, 3, 3, 3, 3, 3, 3, 3, 3, 3, 0, 0, 0, 0, 0, 2, 0, 0, 0, 3, 3, 0, 1, 0, 0, 0, 0, 0, 3, 3, 3, 0, 0, 0, 0, 3, 3, 3, 3, 0, 3, 3, 0, 3, 3, 0, 3, 0, 3, 3, 3, 3, 3, 0, 3, 3, 3, 3]]
/-- getfield and putfield by own class and pool entry: class, field; 1 where it is a nest mate's -/
def FRL : List (List (Nat × Nat × Nat × Nat × Nat)) := [[(9, 0, 3, 0, 2160), (15, 0, 4, 0, 2161), (18, 0, 5, 0, 2162), (21, 0, 6, 0, 2163), (28, 0, 2, 0, 2159), (36, 0, 1, 0, 2158), (47, 0, 0, 0, 2157), (50, 4, 5, 0, 1077), (59, 4, 4, 0, 1073)], [(9, 1, 1, 0, 2116), (15, 1, 2, 0, 2117), (18, 1, 0, 0, 2114), (22, 4, 4, 0, 1071), (35, 4, 5, 0, 1076), (54, 4, 1, 0, 1060), (61, 4, 0, 0, 1056)], [(9, 2, 1, 0, 1143), (15, 2, 2, 0, 1145), (18, 2, 3, 0, 1146), (21, 2, 4, 0, 1147), (27, 2, 0, 0, 1141)], [(9, 3, 0, 0, 2185), (15, 3, 1, 0, 2186), (18, 3, 2, 0, 2187), (25, 7, 8, 0, 1188), (30, 7, 9, 0, 1190), (33, 7, 6, 0, 1183), (37, 7, 0, 0, 1169), (56, 7, 7, 0, 1185), (59, 7, 5, 0, 1181), (69, 7, 1, 0, 1172), (72, 7, 3, 0, 1177), (75, 7, 4, 0, 1179), (78, 7, 2, 0, 1175)], [(9, 4, 0, 0, 1055), (15, 4, 3, 0, 1068), (18, 4, 4, 0, 1070), (21, 4, 6, 0, 1081), (24, 4, 7, 0, 1083), (27, 4, 8, 0, 1085), (33, 4, 1, 0, 1059), (37, 4, 2, 0, 1065), (40, 4, 5, 0, 1075)], [(12, 5, 0, 0, 2024), (21, 5, 1, 0, 2027), (28, 5, 2, 0, 2029), (35, 5, 3, 0, 2031), (39, 5, 6, 0, 2037), (43, 5, 13, 0, 2044), (51, 5, 7, 0, 2038), (55, 5, 8, 0, 2039), (58, 5, 4, 0, 2033), (61, 5, 5, 0, 2035), (71, 5, 9, 0, 2040), (78, 5, 10, 0, 2041), (92, 6, 3, 0, 1120), (120, 5, 12, 0, 2043), (127, 5, 11, 0, 2042), (130, 4, 1, 0, 1061), (133, 4, 5, 0, 1079), (136, 7, 1, 0, 1173), (142, 4, 2, 0, 1067), (148, 4, 6, 0, 1082), (151, 4, 7, 0, 1084), (154, 2, 0, 0, 1142), (157, 2, 1, 0, 1144), (160, 7, 0, 0, 1170)], [(9, 6, 0, 0, 1112), (15, 6, 1, 0, 1114), (18, 6, 2, 0, 1116), (25, 6, 3, 0, 1118)], [(9, 7, 2, 0, 1174), (15, 7, 3, 0, 1176), (18, 7, 4, 0, 1178), (21, 7, 8, 0, 1187), (24, 7, 9, 0, 1189), (30, 7, 0, 0, 1168), (34, 7, 1, 0, 1171), (37, 7, 5, 0, 1180), (45, 7, 6, 0, 1184), (48, 7, 7, 0, 1186)], [(9, 8, 0, 0, 1212), (15, 8, 3, 0, 1218), (19, 8, 4, 0, 1220), (25, 8, 5, 0, 1222), (31, 8, 6, 0, 1224), (37, 8, 7, 0, 1226), (43, 8, 8, 0, 1228), (51, 8, 1, 0, 1215), (54, 5, 0, 0, 2026), (64, 5, 1, 0, 2028), (71, 5, 2, 0, 2030), (78, 5, 3, 0, 2032), (97, 8, 2, 0, 1217)], [(9, 9, 6, 0, 2086), (15, 9, 7, 0, 2087), (18, 9, 8, 0, 2088), (21, 9, 0, 0, 2080), (25, 9, 1, 0, 2081), (29, 9, 2, 0, 2082), (32, 9, 3, 0, 2083), (35, 9, 4, 0, 2084), (38, 4, 4, 0, 1072), (49, 6, 3, 0, 1119), (60, 6, 0, 0, 1113), (63, 6, 1, 0, 1115), (66, 6, 2, 0, 1117), (98, 4, 5, 0, 1078), (104, 4, 2, 0, 1066), (121, 4, 1, 0, 1063), (128, 4, 0, 0, 1057), (140, 9, 5, 0, 2085), (163, 4, 3, 0, 1069)], [(9, 10, 3, 0, 2134), (15, 10, 4, 0, 2135), (19, 10, 5, 0, 2136), (22, 10, 0, 0, 2131), (26, 1, 0, 1, 2115), (32, 10, 1, 0, 2132), (33, 4, 5, 0, 1074), (39, 10, 2, 0, 2133), (72, 4, 1, 0, 1062)], [(10, 11, 0, 0, 2195), (16, 11, 1, 0, 2196), (23, 11, 2, 0, 2197), (29, 5, 0, 0, 2025), (36, 11, 3, 0, 2198), (43, 11, 4, 0, 2199), (52, 11, 5, 0, 2200), (59, 11, 6, 0, 2201), (66, 11, 7, 0, 2202), (70, 8, 1, 0, 1214), (78, 8, 2, 0, 1216), (81, 8, 3, 0, 1219), (88, 8, 0, 0, 1213), (96, 5, 4, 0, 2034), (97, 5, 5, 0, 2036), (98, 8, 4, 0, 1221), (132, 6, 3, 0, 1121), (140, 4, 5, 0, 1080), (147, 4, 1, 0, 1064), (240, 4, 0, 0, 1058), (281, 7, 5, 0, 1182), (292, 8, 5, 0, 1223), (296, 8, 6, 0, 1225), (300, 8, 7, 0, 1227), (304, 8, 8, 0, 1229)], [(7, 12, 1, 0, 6091), (13, 12, 2, 0, 6092), (17, 12, 3, 0, 6093), (20, 12, 4, 0, 6094), (23, 12, 5, 0, 6095), (26, 12, 6, 0, 6096), (29, 12, 7, 0, 6097), (32, 12, 8, 0, 6098), (35, 12, 9, 0, 6099), (38, 12, 19, 0, 6109), (41, 12, 20, 0, 6110), (44, 12, 28, 0, 6118), (47, 12, 29, 0, 6119), (50, 12, 30, 0, 6120), (53, 12, 35, 0, 6125), (57, 12, 36, 0, 6126), (60, 12, 37, 0, 6127), (63, 12, 38, 0, 6128), (66, 12, 40, 0, 6130), (69, 12, 41, 0, 6131), (72, 12, 43, 0, 6133), (75, 12, 44, 0, 6134), (78, 12, 46, 0, 6136), (81, 12, 48, 0, 6138), (84, 12, 49, 0, 6139), (87, 12, 50, 0, 6140), (90, 12, 51, 0, 6141), (93, 12, 52, 0, 6142), (96, 12, 54, 0, 6144), (99, 12, 55, 0, 6145), (102, 12, 56, 0, 6146), (106, 12, 57, 0, 6147), (109, 12, 0, 0, 6090), (129, 12, 10, 0, 6100), (132, 12, 11, 0, 6101), (139, 12, 12, 0, 6102), (142, 12, 15, 0, 6105), (146, 12, 13, 0, 6103), (149, 12, 14, 0, 6104), (152, 12, 16, 0, 6106), (155, 12, 17, 0, 6107), (158, 12, 18, 0, 6108), (169, 12, 22, 0, 6112), (250, 12, 21, 0, 6111), (290, 12, 23, 0, 6113), (297, 12, 24, 0, 6114), (300, 12, 25, 0, 6115), (303, 12, 26, 0, 6116), (313, 12, 27, 0, 6117), (325, 12, 31, 0, 6121), (328, 12, 32, 0, 6122), (331, 12, 33, 0, 6123), (334, 12, 34, 0, 6124), (436, 12, 39, 0, 6129), (458, 12, 42, 0, 6132), (494, 12, 45, 0, 6135), (512, 12, 47, 0, 6137), (536, 12, 53, 0, 6143)], [], [], [], [], []]
/-- calls by own class and pool entry: kind, callee, parameters -/
def CRL : List (List (Nat × Nat × Nat × Nat × Nat)) := [[(3, 10, 0, 0, 2156), (24, 0, 3, 2, 5069), (32, 0, 4, 2, 5074), (39, 3, 186, 2, 5078), (43, 0, 5, 0, 5081), (55, 3, 183, 2, 5073), (60, 3, 187, 3, 5079), (64, 7, 0, 2, 5080), (70, 0, 6, 2, 5085), (74, 2, 11, 2, 5102), (77, 0, 8, 2, 5106), (80, 2, 322, 1, 5110), (86, 2, 13, 3, 5114), (90, 2, 12, 3, 5117), (94, 8, 0, 2, 5120), (97, 0, 10, 3, 5125), (100, 2, 323, 1, 5105)], [(3, 10, 0, 0, 2113), (27, 3, 186, 2, 4177), (31, 0, 15, 1, 4203), (39, 3, 184, 3, 5017), (43, 3, 183, 2, 4186), (47, 0, 60, 2, 4189), (51, 0, 61, 2, 4194), (57, 0, 17, 1, 4182), (64, 0, 18, 1, 4190), (68, 0, 19, 2, 4204), (71, 0, 59, 1, 5030), (75, 0, 20, 1, 4233), (78, 0, 16, 2, 5013), (82, 0, 22, 3, 5009), (86, 0, 21, 2, 5026), (90, 0, 31, 1, 5056), (93, 7, 0, 2, 5060)], [(3, 10, 0, 0, 1135), (24, 0, 33, 0, 1136), (31, 3, 185, 2, 1140), (35, 3, 186, 2, 3201), (39, 0, 37, 0, 5231), (43, 0, 38, 0, 5235), (46, 0, 40, 0, 6008), (49, 0, 36, 2, 6003), (53, 0, 41, 0, 6012), (56, 7, 0, 2, 6007), (61, 0, 39, 1, 5239), (65, 0, 43, 1, 6024), (69, 0, 44, 3, 6028), (73, 0, 46, 1, 6036)], [(3, 10, 0, 0, 2184), (21, 3, 185, 2, 6060), (40, 0, 49, 2, 6061), (44, 0, 50, 1, 6066), (48, 0, 51, 1, 6070), (52, 0, 52, 1, 6076), (63, 2, 322, 1, 6065), (81, 8, 0, 2, 6074), (87, 7, 0, 2, 6075)], [(3, 10, 0, 0, 1047), (30, 0, 54, 0, 1048), (43, 3, 185, 2, 1052), (47, 3, 186, 2, 3186), (51, 0, 58, 1, 4222), (55, 2, 323, 1, 4223), (61, 3, 183, 2, 5154), (65, 0, 64, 2, 4002), (69, 0, 60, 2, 4006), (72, 3, 184, 3, 4147), (76, 8, 0, 2, 4148), (81, 0, 68, 1, 4161)], [(3, 10, 0, 0, 2015), (11, 4, 53, 0, 2017), (20, 5, 89, 0, 2019), (27, 4, 32, 0, 2021), (34, 4, 93, 0, 2023), (47, 3, 184, 3, 3004), (64, 0, 71, 1, 3013), (68, 0, 78, 0, 3020), (74, 0, 72, 1, 3041), (81, 0, 97, 0, 3174), (85, 0, 75, 2, 3128), (89, 0, 54, 0, 3017), (95, 0, 33, 0, 3018), (96, 0, 94, 0, 3019), (97, 0, 84, 1, 3045), (101, 0, 76, 1, 3124), (104, 0, 73, 1, 3132), (107, 0, 74, 1, 3149), (110, 0, 77, 1, 3154), (116, 0, 85, 0, 3138), (123, 3, 185, 2, 3153), (139, 0, 56, 1, 3158), (145, 0, 57, 2, 3162), (163, 0, 96, 3, 3166), (167, 0, 91, 3, 3170), (170, 2, 81, 1, 3024), (174, 2, 82, 1, 3027), (177, 0, 79, 0, 3030), (180, 2, 83, 1, 3034), (183, 0, 80, 0, 3037), (189, 2, 88, 1, 3051), (193, 0, 86, 1, 3072), (197, 2, 87, 1, 3142), (200, 0, 324, 0, 3076), (204, 0, 325, 1, 3086)], [(3, 10, 0, 0, 1111), (21, 3, 186, 2, 3196)], [(3, 10, 0, 0, 1163), (27, 0, 94, 0, 1164), (41, 3, 186, 2, 3206)], [(3, 10, 0, 0, 1034), (47, 4, 53, 0, 1044), (48, 5, 89, 0, 1108), (49, 4, 32, 0, 1132), (50, 4, 93, 0, 1160), (60, 0, 55, 1, 3182), (68, 0, 90, 1, 3192), (75, 0, 34, 1, 3197), (82, 0, 95, 1, 3202), (85, 7, 0, 2, 3207), (91, 6, 0, 5, 3224), (100, 3, 186, 2, 3225)], [(3, 10, 0, 0, 2079), (41, 3, 186, 2, 4030), (45, 3, 185, 2, 4031), (54, 8, 0, 2, 4036), (69, 0, 108, 3, 4037), (73, 0, 112, 2, 4041), (77, 0, 113, 2, 4053), (80, 0, 114, 1, 4061), (84, 0, 115, 1, 4065), (88, 0, 117, 0, 4070), (92, 0, 116, 0, 4091), (95, 0, 120, 0, 4098), (101, 0, 109, 1, 4045), (107, 0, 111, 1, 4049), (110, 0, 110, 1, 4057), (113, 3, 184, 3, 4069), (117, 3, 187, 3, 4095), (124, 0, 126, 0, 4074), (131, 0, 118, 0, 4079), (134, 0, 119, 0, 4087), (137, 0, 61, 2, 4083), (143, 0, 122, 1, 4130), (147, 0, 123, 0, 4135), (151, 0, 127, 0, 4110), (154, 0, 128, 0, 4114), (157, 0, 125, 2, 4118), (160, 0, 60, 2, 4078)], [(3, 10, 0, 0, 2130), (42, 0, 21, 2, 5137), (46, 2, 132, 2, 5142), (50, 2, 323, 1, 5145), (56, 0, 62, 1, 5150), (59, 0, 133, 0, 5159), (63, 7, 0, 2, 5164), (69, 0, 140, 0, 5192), (75, 0, 138, 0, 5202), (78, 3, 185, 2, 5196), (82, 0, 59, 1, 5178), (86, 0, 15, 1, 5177), (90, 0, 19, 2, 5197), (93, 1, 17, 1, 5179), (96, 0, 143, 1, 5211), (99, 9, 0, 1, 5215)], [(1, 10, 0, 0, 1026), (9, 4, 100, 0, 1031), (22, 5, 69, 0, 2012), (33, 4, 105, 1, 2076), (42, 4, 14, 1, 2110), (49, 4, 129, 1, 2127), (58, 5, 0, 0, 2153), (65, 5, 47, 0, 2181), (74, 0, 101, 1, 2224), (84, 0, 102, 2, 2236), (92, 0, 70, 3, 3000), (102, 0, 103, 3, 3178), (106, 0, 104, 1, 3220), (110, 0, 178, 1, 3234), (114, 0, 63, 1, 3238), (120, 0, 180, 1, 4014), (124, 0, 92, 2, 4018), (129, 0, 106, 1, 4026), (135, 0, 107, 2, 4032), (139, 0, 124, 1, 4106), (143, 0, 121, 2, 4126), (150, 0, 65, 1, 4143), (153, 0, 66, 2, 4149), (156, 0, 67, 1, 4157), (159, 0, 58, 1, 4169), (163, 0, 15, 1, 4173), (164, 0, 19, 2, 4178), (167, 0, 25, 2, 4199), (171, 2, 183, 2, 4205), (174, 0, 24, 3, 4206), (178, 0, 179, 2, 4214), (182, 0, 23, 3, 4229), (185, 0, 59, 1, 4218), (188, 0, 26, 2, 5005), (191, 0, 27, 2, 5022), (194, 0, 28, 2, 5035), (197, 0, 29, 3, 5043), (203, 0, 30, 2, 5052), (207, 0, 1, 3, 5065), (211, 0, 2, 1, 5089), (212, 2, 323, 1, 5097), (217, 0, 7, 2, 5098), (220, 0, 9, 3, 5121), (223, 0, 130, 1, 5133), (224, 0, 131, 0, 5138), (228, 0, 133, 0, 5146), (231, 0, 134, 0, 5155), (234, 0, 135, 0, 5160), (237, 0, 136, 0, 5165), (243, 0, 141, 2, 5173), (246, 0, 137, 0, 5184), (249, 0, 138, 0, 5188), (252, 0, 139, 0, 5198), (255, 0, 142, 0, 5207), (258, 0, 143, 1, 5218), (261, 0, 181, 1, 5223), (265, 0, 35, 1, 5227), (268, 0, 42, 0, 6020), (271, 0, 45, 1, 6032), (274, 0, 182, 1, 6044), (278, 0, 98, 2, 6048), (285, 0, 48, 1, 6056), (289, 0, 99, 1, 6080), (308, 8, 0, 2, 3007), (313, 7, 0, 2, 3010), (316, 6, 0, 5, 3189)], [(1, 10, 0, 0, 6089), (113, 2, 190, 2, 8056), (117, 2, 194, 4, 9088), (121, 2, 189, 3, 7038), (125, 0, 198, 1, 7030), (135, 0, 200, 0, 7061), (161, 0, 202, 0, 7082), (165, 0, 203, 2, 7090), (173, 0, 201, 0, 7057), (184, 0, 204, 3, 7098), (187, 0, 205, 1, 7106), (201, 0, 206, 3, 7086), (205, 0, 207, 0, 7094), (208, 0, 208, 0, 7102), (211, 0, 209, 0, 7114), (214, 0, 210, 0, 7118), (233, 2, 212, 1, 7126), (237, 0, 213, 3, 7137), (253, 0, 211, 2, 7073), (257, 0, 214, 2, 7122), (260, 0, 215, 1, 7141), (264, 0, 216, 2, 7147), (267, 0, 217, 3, 7069), (271, 0, 219, 1, 7053), (274, 0, 218, 1, 7065), (277, 0, 221, 3, 7158), (281, 0, 196, 2, 7045), (284, 0, 220, 1, 7049), (287, 0, 222, 2, 7154), (293, 0, 225, 1, 7174), (306, 0, 226, 1, 7170), (309, 0, 227, 2, 7178), (316, 0, 232, 1, 7186), (319, 0, 230, 0, 7190), (322, 0, 231, 2, 7194), (337, 0, 235, 1, 7222), (340, 0, 236, 1, 7226), (343, 0, 237, 2, 7230), (346, 2, 192, 2, 8002), (349, 2, 191, 2, 8005), (352, 0, 242, 0, 8012), (355, 0, 228, 1, 8016), (358, 0, 238, 2, 7218), (361, 0, 239, 1, 7234), (364, 0, 240, 1, 7238), (367, 0, 243, 0, 8008), (370, 0, 241, 0, 8020), (373, 0, 244, 0, 8024), (376, 0, 234, 0, 7210), (379, 0, 245, 1, 7214), (382, 0, 247, 2, 7202), (385, 0, 246, 1, 7206), (388, 0, 249, 1, 8032), (391, 2, 193, 1, 8079), (394, 0, 254, 1, 8052), (397, 0, 255, 1, 8059), (400, 0, 251, 1, 8040), (403, 0, 253, 1, 8044), (406, 0, 256, 2, 8048), (409, 0, 252, 1, 8075), (412, 0, 258, 2, 8071), (415, 0, 260, 1, 8090), (418, 0, 259, 0, 8067), (421, 0, 261, 0, 8082), (424, 0, 262, 0, 8086), (427, 0, 263, 0, 8094), (430, 0, 264, 0, 8098), (433, 0, 266, 2, 8106), (439, 0, 269, 2, 8123), (443, 0, 270, 1, 8115), (446, 0, 268, 0, 8119), (449, 2, 272, 1, 8135), (452, 0, 273, 1, 8131), (455, 0, 274, 2, 8138), (461, 0, 277, 1, 8150), (464, 0, 279, 2, 8166), (467, 0, 276, 0, 8154), (470, 0, 278, 1, 8146), (473, 0, 280, 0, 8158), (476, 0, 283, 0, 8162), (479, 0, 281, 0, 8170), (482, 0, 282, 0, 8174), (485, 0, 285, 2, 8186), (488, 0, 286, 0, 8182), (491, 0, 287, 1, 8190), (497, 0, 292, 1, 8198), (500, 0, 289, 0, 8202), (503, 0, 290, 0, 8206), (506, 0, 291, 2, 8210), (509, 0, 295, 1, 8230), (515, 0, 294, 1, 8222), (518, 0, 296, 0, 8226), (521, 0, 297, 0, 8218), (524, 0, 298, 0, 8234), (527, 0, 300, 1, 9006), (530, 0, 301, 1, 9002), (533, 0, 302, 2, 9010), (540, 0, 305, 1, 9026), (543, 0, 306, 0, 9031), (546, 0, 307, 0, 9022), (551, 0, 195, 2, 9084)], [(9, 4, 144, 0, 1023), (12, 4, 188, 0, 6086), (13, 0, 145, 5, 2220), (17, 0, 197, 5, 7026), (18, 0, 146, 1, 2228), (22, 0, 199, 1, 7034), (23, 0, 147, 2, 2232), (27, 0, 223, 2, 7041), (28, 0, 148, 1, 3208), (31, 0, 224, 1, 7162), (32, 0, 152, 2, 3230), (35, 0, 229, 2, 7166), (36, 0, 153, 3, 4010), (40, 0, 233, 3, 7182), (41, 0, 154, 2, 4022), (44, 0, 248, 2, 7198), (45, 0, 155, 4, 4102), (49, 0, 250, 4, 8028), (50, 0, 159, 3, 4165), (53, 0, 257, 3, 8036), (54, 0, 170, 2, 5129), (57, 0, 265, 2, 8063), (58, 0, 161, 2, 4210), (61, 0, 267, 2, 8102), (62, 0, 168, 4, 5061), (65, 0, 271, 4, 8110), (66, 0, 169, 3, 5093), (70, 0, 275, 3, 8127), (71, 0, 174, 2, 5219), (74, 0, 284, 2, 8142), (75, 0, 175, 2, 6016), (78, 0, 288, 2, 8178), (79, 0, 176, 3, 6040), (82, 0, 293, 3, 8194), (83, 0, 177, 2, 6052), (86, 0, 299, 2, 8214), (87, 0, 157, 4, 4139), (90, 0, 303, 4, 8238), (91, 0, 158, 2, 4153), (94, 0, 304, 2, 9014), (95, 0, 156, 4, 4122), (98, 0, 308, 4, 9018), (99, 0, 163, 2, 5001), (102, 0, 309, 2, 9035), (103, 0, 160, 3, 4195), (106, 0, 310, 3, 9039), (107, 0, 165, 2, 5031), (110, 0, 311, 2, 9043), (111, 0, 171, 2, 5169), (114, 0, 312, 2, 9047), (115, 0, 172, 2, 5180), (118, 0, 313, 2, 9051), (119, 0, 162, 3, 4237), (122, 0, 314, 3, 9055), (123, 0, 164, 2, 5018), (126, 0, 315, 2, 9059), (127, 0, 166, 3, 5039), (130, 0, 316, 3, 9063), (131, 0, 167, 2, 5047), (135, 0, 317, 2, 9067), (136, 0, 173, 2, 5203), (140, 0, 318, 2, 9072), (141, 0, 149, 1, 3212), (144, 0, 319, 1, 9076), (145, 0, 150, 1, 3216), (149, 0, 320, 1, 9080), (150, 0, 151, 1, 3226), (153, 0, 321, 1, 9091)], [(335, 0, 326, 0, 3080), (492, 0, 327, 0, 3090), (495, 2, 329, 2, 3094), (1059, 2, 330, 3, 3102)], [(9, 2, 328, 2, 3097)], [], []]
/-- new and anewarray: the class -/
def NRL : List (List (Nat × Nat)) := [[], [], [], [], [], [(9, 4), (18, 6), (25, 2), (32, 7)], [], [], [(23, 4), (29, 6), (35, 2), (41, 7)], [], [], [(7, 8), (20, 5), (27, 9), (40, 1), (47, 10), (56, 0), (63, 3)], [], [(7, 11), (10, 12)], [], [], [], []]
/-- ldc: the constant -/
def KRL : List (List (Nat × Value)) := [[], [], [], [], [], [(208, .ref 1000018), (210, .ref 1000019), (212, .ref 1000020), (214, .ref 1000021), (216, .ref 1000000), (218, .ref 1000001), (219, .ref 1000002), (221, .ref 1000003), (222, .ref 1000004), (224, .ref 1000005), (226, .ref 1000006), (228, .ref 1000007), (230, .ref 1000008), (232, .ref 1000009), (234, .ref 1000010), (236, .ref 1000011), (238, .ref 1000012), (240, .ref 1000013), (241, .ref 1000014), (242, .ref 1000015), (244, .ref 1000016), (246, .ref 1000017)], [], [], [], [(150, .int 1103515245)], [], [], [(442, .int 1000000), (539, .int 1103515245)], [], [], [], [], [(264, .int 65536), (265, .int 1431655765), (266, .int 858993459), (267, .int 252645135)]]
/-- ldc2_w: the constant -/
def KLL : List (List (Nat × Int64)) := [[], [], [], [], [], [], [], [], [], [], [], [(201, (-1))], [(176, 1819243379), (178, 1819244133), (180, 495672454501), (182, 439721161573), (191, 1751739500), (193, 495622124659), (195, 491394458994), (197, 2003132786), (199, 1717662309), (217, 422775452260), (219, 1836021349), (221, 7300710), (223, 1952803948), (225, 1785686885), (227, 26479), (229, 495672455781), (231, 1650549611), (240, 1852138852), (242, 1668246885), (244, 1835101817), (246, 27985222756885860), (248, 32497584101418340), (549, (-1))], [], [], [], [], []]
/-- getstatic: the value -/
def SRL : List (List (Nat × Value)) := [[], [], [], [], [], [(113, .ref 1000201), (186, .ref 1000200)], [], [], [], [], [], [], [], [], [(38, .int 1), (1053, .ref 1000400)], [], [], []]
/-- the texts, by their bytes -/
def TXL : List (List Int32) := [[104, 105, 108, 108], [115, 101, 97, 116, 115], [114, 105, 100, 101, 114], [119, 101, 97, 114], [102, 97, 114, 101], [98, 111, 97, 114, 100], [109, 111, 118, 101], [111, 102, 102], [116, 101, 108, 108], [106, 111, 107, 101], [103, 111], [115, 104, 97, 114, 101], [98, 97, 99, 107], [110, 101, 101, 100], [99, 111, 109, 101], [109, 97, 110, 121], [99, 108, 105, 109, 98, 101, 100], [115, 116, 97, 108, 108, 101, 100], [108, 111, 115, 115], [108, 111, 118, 101], [115, 104, 97, 109, 101], [102, 97, 108, 115, 101]]
