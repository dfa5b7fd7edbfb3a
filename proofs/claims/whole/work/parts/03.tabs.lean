def cn (c : Nat) : String := if 100 ≤ c then RX0 else ([RX0, RX1, RX2, RX3, RX4, RX5, RX6, RX7, RX8, RX9, RX10, RX11, RX12, RL, RJ6, RJ0, RJ1].getD c "")
def mok (q : MT) : Prop := plainName (mt_y q).cls = true ∧ ((mt_y q).cls ≠ "java/lang/invoke/MethodHandle" ∧ (mt_y q).cls ≠ "java/lang/invoke/VarHandle" ∧ (parseMethodDescriptor (mt_y q).desc).map (fun d => d.parameters.length) = some (mt_n q)) ∧ Cond.code (mt_y q) (mt_b q) (mt_l q) (mt_r q) ∈ BIG ∧ Cond.initialized (mt_y q).cls ∈ BIG ∧ (mt_k q = 0 → Cond.static (mt_y q) ∈ BIG) ∧ (mt_k q = 1 → Cond.instanceMethod (mt_y q) ∈ BIG ∧ Cond.selects (mt_y q).cls (mt_y q) (mt_y q) ∈ BIG) ∧ (mt_k q = 2 → (mt_y q).name = "<init>" ∧ Cond.instanceMethod (mt_y q) ∈ BIG ∧ mt_r q = none) ∧ cn (mt_c q) = (mt_y q).cls
def mq_0 : MT := (yX0_init, prog_2_method_1_code, 2, none, 2, 1, 2, 0, [])
theorem mo_0 : mok mq_0 := ⟨by decide +kernel, ⟨by decide +kernel, by decide +kernel, by decide +kernel⟩, w_363, w_92, fun h => absurd h (by decide), fun h => absurd h (by decide), fun _ => ⟨rfl, w_362, rfl⟩, rfl⟩
def mq_1 : MT := (yX0_make, prog_2_method_4_code, 5, none, 1, 2, 17, 0, [])
theorem mo_1 : mok mq_1 := ⟨by decide +kernel, ⟨by decide +kernel, by decide +kernel, by decide +kernel⟩, w_952, w_92, fun h => absurd h (by decide), fun _ => ⟨w_950, w_951⟩, fun h => absurd h (by decide), rfl⟩
def mq_2 : MT := (yX0_clashOf, prog_2_method_5_code, 4, some .int, 1, 2, 2, 0, [])
theorem mo_2 : mok mq_2 := ⟨by decide +kernel, ⟨by decide +kernel, by decide +kernel, by decide +kernel⟩, w_959, w_92, fun h => absurd h (by decide), fun _ => ⟨w_958, w_31⟩, fun h => absurd h (by decide), rfl⟩
def mq_3 : MT := (yX0_isOpen, prog_2_method_7_code, 4, some .boolean, 1, 2, 1, 0, [])
theorem mo_3 : mok mq_3 := ⟨by decide +kernel, ⟨by decide +kernel, by decide +kernel, by decide +kernel⟩, w_970, w_92, fun h => absurd h (by decide), fun _ => ⟨w_969, w_33⟩, fun h => absurd h (by decide), rfl⟩
def mq_4 : MT := (yX0_costOf, prog_2_method_8_code, 5, some .int, 1, 2, 2, 0, [])
theorem mo_4 : mok mq_4 := ⟨by decide +kernel, ⟨by decide +kernel, by decide +kernel, by decide +kernel⟩, w_974, w_92, fun h => absurd h (by decide), fun _ => ⟨w_973, w_34⟩, fun h => absurd h (by decide), rfl⟩
def mq_5 : MT := (yX0_clashes, prog_2_method_2_code, 1, some .int, 1, 0, 1, 0, [])
theorem mo_5 : mok mq_5 := ⟨by decide +kernel, ⟨by decide +kernel, by decide +kernel, by decide +kernel⟩, w_978, w_92, fun h => absurd h (by decide), fun _ => ⟨w_976, w_977⟩, fun h => absurd h (by decide), rfl⟩
def mq_6 : MT := (yX0_poolOf, prog_2_method_3_code, 3, some .int, 1, 1, 1, 0, [])
theorem mo_6 : mok mq_6 := ⟨by decide +kernel, ⟨by decide +kernel, by decide +kernel, by decide +kernel⟩, w_982, w_92, fun h => absurd h (by decide), fun _ => ⟨w_980, w_981⟩, fun h => absurd h (by decide), rfl⟩
def mq_7 : MT := (yX1_init, prog_3_method_1_code, 2, none, 2, 1, 1, 1, [])
theorem mo_7 : mok mq_7 := ⟨by decide +kernel, ⟨by decide +kernel, by decide +kernel, by decide +kernel⟩, w_252, w_88, fun h => absurd h (by decide), fun h => absurd h (by decide), fun _ => ⟨rfl, w_251, rfl⟩, rfl⟩
def mq_8 : MT := (yX1_isOver, prog_3_method_2_code, 2, some .boolean, 1, 1, 2, 1, [])
theorem mo_8 : mok mq_8 := ⟨by decide +kernel, ⟨by decide +kernel, by decide +kernel, by decide +kernel⟩, w_589, w_88, fun h => absurd h (by decide), fun _ => ⟨w_587, w_588⟩, fun h => absurd h (by decide), rfl⟩
def mq_9 : MT := (yX1_take, prog_3_method_9_code, 5, none, 1, 4, 6, 1, [])
theorem mo_9 : mok mq_9 := ⟨by decide +kernel, ⟨by decide +kernel, by decide +kernel, by decide +kernel⟩, w_594, w_88, fun h => absurd h (by decide), fun _ => ⟨w_592, w_593⟩, fun h => absurd h (by decide), rfl⟩
def mq_10 : MT := (yX1_isDecided, prog_3_method_10_code, 4, some .boolean, 1, 2, 3, 1, [])
theorem mo_10 : mok mq_10 := ⟨by decide +kernel, ⟨by decide +kernel, by decide +kernel, by decide +kernel⟩, w_604, w_88, fun h => absurd h (by decide), fun _ => ⟨w_603, w_5⟩, fun h => absurd h (by decide), rfl⟩
def mq_11 : MT := (yX1_leader, prog_3_method_7_code, 3, some .int, 1, 1, 2, 1, [])
theorem mo_11 : mok mq_11 := ⟨by decide +kernel, ⟨by decide +kernel, by decide +kernel, by decide +kernel⟩, w_608, w_88, fun h => absurd h (by decide), fun _ => ⟨w_607, w_6⟩, fun h => absurd h (by decide), rfl⟩
def mq_12 : MT := (yX1_close, prog_3_method_8_code, 3, some .int, 1, 1, 3, 1, [])
theorem mo_12 : mok mq_12 := ⟨by decide +kernel, ⟨by decide +kernel, by decide +kernel, by decide +kernel⟩, w_612, w_88, fun h => absurd h (by decide), fun _ => ⟨w_610, w_611⟩, fun h => absurd h (by decide), rfl⟩
def mq_13 : MT := (yX1_win, prog_3_method_6_code, 3, none, 1, 2, 2, 1, [])
theorem mo_13 : mok mq_13 := ⟨by decide +kernel, ⟨by decide +kernel, by decide +kernel, by decide +kernel⟩, w_616, w_88, fun h => absurd h (by decide), fun _ => ⟨w_614, w_615⟩, fun h => absurd h (by decide), rfl⟩
def mq_14 : MT := (yX1_judge, prog_3_method_11_code, 5, none, 1, 4, 5, 1, [])
theorem mo_14 : mok mq_14 := ⟨by decide +kernel, ⟨by decide +kernel, by decide +kernel, by decide +kernel⟩, w_620, w_88, fun h => absurd h (by decide), fun _ => ⟨w_619, w_7⟩, fun h => absurd h (by decide), rfl⟩
def mq_15 : MT := (yX1_score, prog_3_method_13_code, 4, none, 1, 3, 3, 1, [])
theorem mo_15 : mok mq_15 := ⟨by decide +kernel, ⟨by decide +kernel, by decide +kernel, by decide +kernel⟩, w_624, w_88, fun h => absurd h (by decide), fun _ => ⟨w_623, w_8⟩, fun h => absurd h (by decide), rfl⟩
def mq_16 : MT := (yX1_hasEnough, prog_3_method_15_code, 4, some .boolean, 1, 3, 2, 1, [])
theorem mo_16 : mok mq_16 := ⟨by decide +kernel, ⟨by decide +kernel, by decide +kernel, by decide +kernel⟩, w_628, w_88, fun h => absurd h (by decide), fun _ => ⟨w_627, w_9⟩, fun h => absurd h (by decide), rfl⟩
def mq_17 : MT := (yX1_scoreBoth, prog_3_method_14_code, 2, none, 1, 1, 4, 1, [])
theorem mo_17 : mok mq_17 := ⟨by decide +kernel, ⟨by decide +kernel, by decide +kernel, by decide +kernel⟩, w_632, w_88, fun h => absurd h (by decide), fun _ => ⟨w_631, w_10⟩, fun h => absurd h (by decide), rfl⟩
def mq_18 : MT := (yX1_red, prog_3_method_12_code, 4, none, 1, 3, 4, 1, [])
theorem mo_18 : mok mq_18 := ⟨by decide +kernel, ⟨by decide +kernel, by decide +kernel, by decide +kernel⟩, w_636, w_88, fun h => absurd h (by decide), fun _ => ⟨w_635, w_11⟩, fun h => absurd h (by decide), rfl⟩
def mq_19 : MT := (yX1_isVoid, prog_3_method_3_code, 2, some .boolean, 1, 1, 2, 1, [])
theorem mo_19 : mok mq_19 := ⟨by decide +kernel, ⟨by decide +kernel, by decide +kernel, by decide +kernel⟩, w_654, w_88, fun h => absurd h (by decide), fun _ => ⟨w_652, w_653⟩, fun h => absurd h (by decide), rfl⟩
def mq_20 : MT := (yX1_stands, prog_3_method_4_code, 2, some .boolean, 1, 1, 3, 1, [])
theorem mo_20 : mok mq_20 := ⟨by decide +kernel, ⟨by decide +kernel, by decide +kernel, by decide +kernel⟩, w_692, w_88, fun h => absurd h (by decide), fun _ => ⟨w_690, w_691⟩, fun h => absurd h (by decide), rfl⟩
def mq_21 : MT := (yX1_winnerOf, prog_3_method_16_code, 7, some .int, 1, 2, 4, 1, [])
theorem mo_21 : mok mq_21 := ⟨by decide +kernel, ⟨by decide +kernel, by decide +kernel, by decide +kernel⟩, w_942, w_88, fun h => absurd h (by decide), fun _ => ⟨w_940, w_941⟩, fun h => absurd h (by decide), rfl⟩
def mq_22 : MT := (yX1_standing, prog_3_method_5_code, 3, some .int, 1, 0, 4, 1, [])
theorem mo_22 : mok mq_22 := ⟨by decide +kernel, ⟨by decide +kernel, by decide +kernel, by decide +kernel⟩, w_1164, w_88, fun h => absurd h (by decide), fun _ => ⟨w_1162, w_1163⟩, fun h => absurd h (by decide), rfl⟩
def mq_23 : MT := (yX2_init, prog_4_method_1_code, 2, none, 2, 1, 1, 2, [])
theorem mo_23 : mok mq_23 := ⟨by decide +kernel, ⟨by decide +kernel, by decide +kernel, by decide +kernel⟩, w_262, w_89, fun h => absurd h (by decide), fun h => absurd h (by decide), fun _ => ⟨rfl, w_261, rfl⟩, rfl⟩
def mq_24 : MT := (yX2_read, prog_4_method_3_code, 4, some .int, 1, 1, 7, 2, [])
theorem mo_24 : mok mq_24 := ⟨by decide +kernel, ⟨by decide +kernel, by decide +kernel, by decide +kernel⟩, w_737, w_89, fun h => absurd h (by decide), fun _ => ⟨w_735, w_736⟩, fun h => absurd h (by decide), rfl⟩
def mq_25 : MT := (yX2_load, prog_4_method_4_code, 3, none, 1, 1, 2, 2, [])
theorem mo_25 : mok mq_25 := ⟨by decide +kernel, ⟨by decide +kernel, by decide +kernel, by decide +kernel⟩, w_741, w_89, fun h => absurd h (by decide), fun _ => ⟨w_740, w_17⟩, fun h => absurd h (by decide), rfl⟩
def mq_26 : MT := (yX2_openLevel, prog_4_method_11_code, 1, none, 1, 0, 1, 2, [])
theorem mo_26 : mok mq_26 := ⟨by decide +kernel, ⟨by decide +kernel, by decide +kernel, by decide +kernel⟩, w_747, w_89, fun h => absurd h (by decide), fun _ => ⟨w_746, w_18⟩, fun h => absurd h (by decide), rfl⟩
def mq_27 : MT := (yX2_readAt, prog_4_method_5_code, 3, some .int, 1, 1, 6, 2, [])
theorem mo_27 : mok mq_27 := ⟨by decide +kernel, ⟨by decide +kernel, by decide +kernel, by decide +kernel⟩, w_751, w_89, fun h => absurd h (by decide), fun _ => ⟨w_750, w_19⟩, fun h => absurd h (by decide), rfl⟩
def mq_28 : MT := (yX2_signAt, prog_4_method_6_code, 2, some .int, 1, 1, 1, 2, [])
theorem mo_28 : mok mq_28 := ⟨by decide +kernel, ⟨by decide +kernel, by decide +kernel, by decide +kernel⟩, w_755, w_89, fun h => absurd h (by decide), fun _ => ⟨w_754, w_20⟩, fun h => absurd h (by decide), rfl⟩
def mq_29 : MT := (yX2_isDigit, prog_4_method_7_code, 1, some .boolean, 0, 1, 1, 2, [])
theorem mo_29 : mok mq_29 := ⟨by decide +kernel, ⟨by decide +kernel, by decide +kernel, by decide +kernel⟩, w_758, w_89, fun _ => w_757, fun h => absurd h (by decide), fun h => absurd h (by decide), rfl⟩
def mq_30 : MT := (yX2_readDigits, prog_4_method_8_code, 4, some .int, 1, 1, 2, 2, [])
theorem mo_30 : mok mq_30 := ⟨by decide +kernel, ⟨by decide +kernel, by decide +kernel, by decide +kernel⟩, w_762, w_89, fun h => absurd h (by decide), fun _ => ⟨w_761, w_21⟩, fun h => absurd h (by decide), rfl⟩
def mq_31 : MT := (yX2_tellFault, prog_4_method_14_code, 3, none, 1, 2, 1, 2, [])
theorem mo_31 : mok mq_31 := ⟨by decide +kernel, ⟨by decide +kernel, by decide +kernel, by decide +kernel⟩, w_766, w_89, fun h => absurd h (by decide), fun _ => ⟨w_765, w_22⟩, fun h => absurd h (by decide), rfl⟩
def mq_32 : MT := (yX2_closeUnit, prog_4_method_12_code, 5, none, 1, 1, 1, 2, [1, 3])
theorem mo_32 : mok mq_32 := ⟨by decide +kernel, ⟨by decide +kernel, by decide +kernel, by decide +kernel⟩, w_770, w_89, fun h => absurd h (by decide), fun _ => ⟨w_769, w_23⟩, fun h => absurd h (by decide), rfl⟩
def mq_33 : MT := (yX2_readUnit, prog_4_method_9_code, 4, some .boolean, 1, 2, 5, 2, [])
theorem mo_33 : mok mq_33 := ⟨by decide +kernel, ⟨by decide +kernel, by decide +kernel, by decide +kernel⟩, w_774, w_89, fun h => absurd h (by decide), fun _ => ⟨w_773, w_24⟩, fun h => absurd h (by decide), rfl⟩
def mq_34 : MT := (yX2_readJoint, prog_4_method_10_code, 4, some .boolean, 1, 1, 2, 2, [2])
theorem mo_34 : mok mq_34 := ⟨by decide +kernel, ⟨by decide +kernel, by decide +kernel, by decide +kernel⟩, w_862, w_89, fun h => absurd h (by decide), fun _ => ⟨w_861, w_25⟩, fun h => absurd h (by decide), rfl⟩
def mq_35 : MT := (yX2_closeTerm, prog_4_method_13_code, 1, none, 1, 0, 1, 2, [])
theorem mo_35 : mok mq_35 := ⟨by decide +kernel, ⟨by decide +kernel, by decide +kernel, by decide +kernel⟩, w_866, w_89, fun h => absurd h (by decide), fun _ => ⟨w_865, w_26⟩, fun h => absurd h (by decide), rfl⟩
def mq_36 : MT := (yX2_setLetter, prog_4_method_2_code, 3, none, 1, 2, 2, 2, [])
theorem mo_36 : mok mq_36 := ⟨by decide +kernel, ⟨by decide +kernel, by decide +kernel, by decide +kernel⟩, w_885, w_89, fun h => absurd h (by decide), fun _ => ⟨w_883, w_884⟩, fun h => absurd h (by decide), rfl⟩
def mq_37 : MT := (yX2_mixedInto, prog_4_method_15_code, 6, some .long, 1, 1, 2, 2, [1])
theorem mo_37 : mok mq_37 := ⟨by decide +kernel, ⟨by decide +kernel, by decide +kernel, by decide +kernel⟩, w_1180, w_89, fun h => absurd h (by decide), fun _ => ⟨w_1178, w_1179⟩, fun h => absurd h (by decide), rfl⟩
def mq_38 : MT := (yX3_init, prog_5_method_1_code, 3, none, 2, 2, 1, 3, [])
theorem mo_38 : mok mq_38 := ⟨by decide +kernel, ⟨by decide +kernel, by decide +kernel, by decide +kernel⟩, w_344, w_91, fun h => absurd h (by decide), fun h => absurd h (by decide), fun _ => ⟨rfl, w_343, rfl⟩, rfl⟩
def mq_39 : MT := (yX3_placesIn, prog_5_method_2_code, 3, some .int, 1, 2, 2, 3, [])
theorem mo_39 : mok mq_39 := ⟨by decide +kernel, ⟨by decide +kernel, by decide +kernel, by decide +kernel⟩, w_917, w_91, fun h => absurd h (by decide), fun _ => ⟨w_915, w_916⟩, fun h => absurd h (by decide), rfl⟩
def mq_40 : MT := (yX3_tableSize, prog_5_method_3_code, 2, some .int, 0, 1, 1, 3, [])
theorem mo_40 : mok mq_40 := ⟨by decide +kernel, ⟨by decide +kernel, by decide +kernel, by decide +kernel⟩, w_922, w_91, fun _ => w_921, fun h => absurd h (by decide), fun h => absurd h (by decide), rfl⟩
def mq_41 : MT := (yX3_standsAt, prog_5_method_4_code, 8, some .int, 1, 3, 6, 3, [])
theorem mo_41 : mok mq_41 := ⟨by decide +kernel, ⟨by decide +kernel, by decide +kernel, by decide +kernel⟩, w_926, w_91, fun h => absurd h (by decide), fun _ => ⟨w_924, w_925⟩, fun h => absurd h (by decide), rfl⟩
def mq_42 : MT := (yX3_layTable, prog_5_method_5_code, 6, none, 1, 1, 1, 3, [])
theorem mo_42 : mok mq_42 := ⟨by decide +kernel, ⟨by decide +kernel, by decide +kernel, by decide +kernel⟩, w_934, w_91, fun h => absurd h (by decide), fun _ => ⟨w_933, w_29⟩, fun h => absurd h (by decide), rfl⟩
def mq_43 : MT := (yX3_goesOn, prog_5_method_6_code, 4, some .int, 1, 2, 5, 3, [])
theorem mo_43 : mok mq_43 := ⟨by decide +kernel, ⟨by decide +kernel, by decide +kernel, by decide +kernel⟩, w_938, w_91, fun h => absurd h (by decide), fun _ => ⟨w_937, w_30⟩, fun h => absurd h (by decide), rfl⟩
def mq_44 : MT := (yX4_init, prog_6_method_1_code, 1, none, 2, 0, 4, 4, [])
theorem mo_44 : mok mq_44 := ⟨by decide +kernel, ⟨by decide +kernel, by decide +kernel, by decide +kernel⟩, w_116, w_84, fun h => absurd h (by decide), fun h => absurd h (by decide), fun _ => ⟨rfl, w_115, rfl⟩, rfl⟩
def mq_45 : MT := (yX4_isInPool, prog_6_method_5_code, 3, some .boolean, 1, 2, 3, 4, [])
theorem mo_45 : mok mq_45 := ⟨by decide +kernel, ⟨by decide +kernel, by decide +kernel, by decide +kernel⟩, w_574, w_84, fun h => absurd h (by decide), fun _ => ⟨w_572, w_573⟩, fun h => absurd h (by decide), rfl⟩
def mq_46 : MT := (yX4_isMember, prog_6_method_4_code, 3, some .boolean, 1, 2, 2, 4, [])
theorem mo_46 : mok mq_46 := ⟨by decide +kernel, ⟨by decide +kernel, by decide +kernel, by decide +kernel⟩, w_580, w_84, fun h => absurd h (by decide), fun _ => ⟨w_578, w_579⟩, fun h => absurd h (by decide), rfl⟩
def mq_47 : MT := (yX4_isSet, prog_6_method_3_code, 4, some .boolean, 1, 3, 2, 4, [])
theorem mo_47 : mok mq_47 := ⟨by decide +kernel, ⟨by decide +kernel, by decide +kernel, by decide +kernel⟩, w_666, w_84, fun h => absurd h (by decide), fun _ => ⟨w_664, w_665⟩, fun h => absurd h (by decide), rfl⟩
def mq_48 : MT := (yX4_seededInto, prog_6_method_6_code, 7, some .int, 1, 2, 3, 4, [])
theorem mo_48 : mok mq_48 := ⟨by decide +kernel, ⟨by decide +kernel, by decide +kernel, by decide +kernel⟩, w_930, w_84, fun h => absurd h (by decide), fun _ => ⟨w_928, w_929⟩, fun h => absurd h (by decide), rfl⟩
def mq_49 : MT := (yX4_copyFrom, prog_6_method_2_code, 2, none, 1, 1, 2, 4, [])
theorem mo_49 : mok mq_49 := ⟨by decide +kernel, ⟨by decide +kernel, by decide +kernel, by decide +kernel⟩, w_1146, w_84, fun h => absurd h (by decide), fun _ => ⟨w_1144, w_1145⟩, fun h => absurd h (by decide), rfl⟩
def mq_50 : MT := (yX5_init, prog_7_method_1_code, 2, none, 2, 1, 1, 5, [])
theorem mo_50 : mok mq_50 := ⟨by decide +kernel, ⟨by decide +kernel, by decide +kernel, by decide +kernel⟩, w_221, w_87, fun h => absurd h (by decide), fun h => absurd h (by decide), fun _ => ⟨rfl, w_220, rfl⟩, rfl⟩
def mq_51 : MT := (yX5_lastTime, prog_7_method_2_code, 1, some .int, 1, 0, 2, 5, [])
theorem mo_51 : mok mq_51 := ⟨by decide +kernel, ⟨by decide +kernel, by decide +kernel, by decide +kernel⟩, w_494, w_87, fun h => absurd h (by decide), fun _ => ⟨w_492, w_493⟩, fun h => absurd h (by decide), rfl⟩
def mq_52 : MT := (yX5_holderAt, prog_7_method_3_code, 4, some .int, 1, 2, 4, 5, [])
theorem mo_52 : mok mq_52 := ⟨by decide +kernel, ⟨by decide +kernel, by decide +kernel, by decide +kernel⟩, w_509, w_87, fun h => absurd h (by decide), fun _ => ⟨w_507, w_508⟩, fun h => absurd h (by decide), rfl⟩
def mq_53 : MT := (yX5_follow, prog_7_method_4_code, 4, none, 1, 3, 3, 5, [])
theorem mo_53 : mok mq_53 := ⟨by decide +kernel, ⟨by decide +kernel, by decide +kernel, by decide +kernel⟩, w_513, w_87, fun h => absurd h (by decide), fun _ => ⟨w_512, w_0⟩, fun h => absurd h (by decide), rfl⟩
def mq_54 : MT := (yX5_attack, prog_7_method_5_code, 3, none, 1, 2, 1, 5, [])
theorem mo_54 : mok mq_54 := ⟨by decide +kernel, ⟨by decide +kernel, by decide +kernel, by decide +kernel⟩, w_517, w_87, fun h => absurd h (by decide), fun _ => ⟨w_516, w_1⟩, fun h => absurd h (by decide), rfl⟩
def mq_55 : MT := (yX5_setParry, prog_7_method_7_code, 3, none, 1, 2, 1, 5, [])
theorem mo_55 : mok mq_55 := ⟨by decide +kernel, ⟨by decide +kernel, by decide +kernel, by decide +kernel⟩, w_521, w_87, fun h => absurd h (by decide), fun _ => ⟨w_520, w_2⟩, fun h => absurd h (by decide), rfl⟩
def mq_56 : MT := (yX5_riposte, prog_7_method_6_code, 4, none, 1, 2, 2, 5, [])
theorem mo_56 : mok mq_56 := ⟨by decide +kernel, ⟨by decide +kernel, by decide +kernel, by decide +kernel⟩, w_525, w_87, fun h => absurd h (by decide), fun _ => ⟨w_524, w_3⟩, fun h => absurd h (by decide), rfl⟩
def mq_57 : MT := (yX5_touchBy, prog_7_method_8_code, 4, some .int, 1, 1, 5, 5, [])
theorem mo_57 : mok mq_57 := ⟨by decide +kernel, ⟨by decide +kernel, by decide +kernel, by decide +kernel⟩, w_533, w_87, fun h => absurd h (by decide), fun _ => ⟨w_531, w_532⟩, fun h => absurd h (by decide), rfl⟩
def mq_58 : MT := (yX5_lampOf, prog_7_method_9_code, 3, some .int, 1, 1, 2, 5, [])
theorem mo_58 : mok mq_58 := ⟨by decide +kernel, ⟨by decide +kernel, by decide +kernel, by decide +kernel⟩, w_537, w_87, fun h => absurd h (by decide), fun _ => ⟨w_536, w_4⟩, fun h => absurd h (by decide), rfl⟩
def mq_59 : MT := (yX5_lampWithin, prog_7_method_10_code, 1, some .int, 0, 1, 1, 5, [])
theorem mo_59 : mok mq_59 := ⟨by decide +kernel, ⟨by decide +kernel, by decide +kernel, by decide +kernel⟩, w_543, w_87, fun _ => w_542, fun h => absurd h (by decide), fun h => absurd h (by decide), rfl⟩
def mq_60 : MT := (yX6_init, prog_8_method_1_code, 4, none, 2, 3, 2, 6, [])
theorem mo_60 : mok mq_60 := ⟨by decide +kernel, ⟨by decide +kernel, by decide +kernel, by decide +kernel⟩, w_311, w_90, fun h => absurd h (by decide), fun h => absurd h (by decide), fun _ => ⟨rfl, w_310, rfl⟩, rfl⟩
def mq_61 : MT := (yX6_indicatorOf, prog_8_method_2_code, 4, some .int, 1, 3, 5, 6, [])
theorem mo_61 : mok mq_61 := ⟨by decide +kernel, ⟨by decide +kernel, by decide +kernel, by decide +kernel⟩, w_682, w_90, fun h => absurd h (by decide), fun _ => ⟨w_680, w_681⟩, fun h => absurd h (by decide), rfl⟩
def mq_62 : MT := (yX6_tally, prog_8_method_7_code, 4, none, 1, 2, 4, 6, [])
theorem mo_62 : mok mq_62 := ⟨by decide +kernel, ⟨by decide +kernel, by decide +kernel, by decide +kernel⟩, w_686, w_90, fun h => absurd h (by decide), fun _ => ⟨w_685, w_12⟩, fun h => absurd h (by decide), rfl⟩
def mq_63 : MT := (yX6_tallySide, prog_8_method_8_code, 5, none, 1, 2, 3, 6, [])
theorem mo_63 : mok mq_63 := ⟨by decide +kernel, ⟨by decide +kernel, by decide +kernel, by decide +kernel⟩, w_698, w_90, fun h => absurd h (by decide), fun _ => ⟨w_697, w_13⟩, fun h => absurd h (by decide), rfl⟩
def mq_64 : MT := (yX6_valueOf, prog_8_method_9_code, 4, some .int, 1, 2, 2, 6, [])
theorem mo_64 : mok mq_64 := ⟨by decide +kernel, ⟨by decide +kernel, by decide +kernel, by decide +kernel⟩, w_703, w_90, fun h => absurd h (by decide), fun _ => ⟨w_702, w_14⟩, fun h => absurd h (by decide), rfl⟩
def mq_65 : MT := (yX6_placed, prog_8_method_3_code, 3, some .int, 1, 2, 6, 6, [])
theorem mo_65 : mok mq_65 := ⟨by decide +kernel, ⟨by decide +kernel, by decide +kernel, by decide +kernel⟩, w_711, w_90, fun h => absurd h (by decide), fun _ => ⟨w_709, w_710⟩, fun h => absurd h (by decide), rfl⟩
def mq_66 : MT := (yX6_rank, prog_8_method_10_code, 5, none, 1, 2, 5, 6, [])
theorem mo_66 : mok mq_66 := ⟨by decide +kernel, ⟨by decide +kernel, by decide +kernel, by decide +kernel⟩, w_715, w_90, fun h => absurd h (by decide), fun _ => ⟨w_714, w_15⟩, fun h => absurd h (by decide), rfl⟩
def mq_67 : MT := (yX6_isAhead, prog_8_method_11_code, 6, some .boolean, 1, 2, 3, 6, [])
theorem mo_67 : mok mq_67 := ⟨by decide +kernel, ⟨by decide +kernel, by decide +kernel, by decide +kernel⟩, w_720, w_90, fun h => absurd h (by decide), fun _ => ⟨w_719, w_16⟩, fun h => absurd h (by decide), rfl⟩
def mq_68 : MT := (yX6_toldOf, prog_8_method_4_code, 4, some .long, 1, 3, 9, 6, [])
theorem mo_68 : mok mq_68 := ⟨by decide +kernel, ⟨by decide +kernel, by decide +kernel, by decide +kernel⟩, w_877, w_90, fun h => absurd h (by decide), fun _ => ⟨w_875, w_876⟩, fun h => absurd h (by decide), rfl⟩
def mq_69 : MT := (yX6_tellsOf, prog_8_method_12_code, 3, some .long, 1, 2, 8, 6, [])
theorem mo_69 : mok mq_69 := ⟨by decide +kernel, ⟨by decide +kernel, by decide +kernel, by decide +kernel⟩, w_881, w_90, fun h => absurd h (by decide), fun _ => ⟨w_880, w_27⟩, fun h => absurd h (by decide), rfl⟩
def mq_70 : MT := (yX6_placedBeside, prog_8_method_5_code, 5, some .int, 1, 3, 9, 6, [])
theorem mo_70 : mok mq_70 := ⟨by decide +kernel, ⟨by decide +kernel, by decide +kernel, by decide +kernel⟩, w_894, w_90, fun h => absurd h (by decide), fun _ => ⟨w_892, w_893⟩, fun h => absurd h (by decide), rfl⟩
def mq_71 : MT := (yX6_sortByTold, prog_8_method_13_code, 6, none, 1, 0, 1, 6, [3])
theorem mo_71 : mok mq_71 := ⟨by decide +kernel, ⟨by decide +kernel, by decide +kernel, by decide +kernel⟩, w_898, w_90, fun h => absurd h (by decide), fun _ => ⟨w_897, w_28⟩, fun h => absurd h (by decide), rfl⟩
def mq_72 : MT := (yX6_hangingOn, prog_8_method_6_code, 5, some .int, 1, 2, 6, 6, [])
theorem mo_72 : mok mq_72 := ⟨by decide +kernel, ⟨by decide +kernel, by decide +kernel, by decide +kernel⟩, w_906, w_90, fun h => absurd h (by decide), fun _ => ⟨w_904, w_905⟩, fun h => absurd h (by decide), rfl⟩
def mq_73 : MT := (yX7_init, prog_9_method_1_code, 2, none, 2, 1, 1, 7, [])
theorem mo_73 : mok mq_73 := ⟨by decide +kernel, ⟨by decide +kernel, by decide +kernel, by decide +kernel⟩, w_434, w_95, fun h => absurd h (by decide), fun h => absurd h (by decide), fun _ => ⟨rfl, w_433, rfl⟩, rfl⟩
def mq_74 : MT := (yX7_sumOf, prog_9_method_2_code, 8, some .int, 1, 3, 2, 7, [])
theorem mo_74 : mok mq_74 := ⟨by decide +kernel, ⟨by decide +kernel, by decide +kernel, by decide +kernel⟩, w_1126, w_95, fun h => absurd h (by decide), fun _ => ⟨w_1124, w_1125⟩, fun h => absurd h (by decide), rfl⟩
def mq_75 : MT := (yX7_keepGreatest, prog_9_method_3_code, 6, none, 1, 2, 1, 7, [])
theorem mo_75 : mok mq_75 := ⟨by decide +kernel, ⟨by decide +kernel, by decide +kernel, by decide +kernel⟩, w_1133, w_95, fun h => absurd h (by decide), fun _ => ⟨w_1132, w_42⟩, fun h => absurd h (by decide), rfl⟩
def mq_76 : MT := (yX7_rankOf, prog_9_method_4_code, 7, some .int, 1, 3, 3, 7, [])
theorem mo_76 : mok mq_76 := ⟨by decide +kernel, ⟨by decide +kernel, by decide +kernel, by decide +kernel⟩, w_1137, w_95, fun h => absurd h (by decide), fun _ => ⟨w_1135, w_1136⟩, fun h => absurd h (by decide), rfl⟩
def mq_77 : MT := (yX8_init, prog_10_method_1_code, 2, none, 2, 1, 1, 8, [])
theorem mo_77 : mok mq_77 := ⟨by decide +kernel, ⟨by decide +kernel, by decide +kernel, by decide +kernel⟩, w_396, w_93, fun h => absurd h (by decide), fun h => absurd h (by decide), fun _ => ⟨rfl, w_395, rfl⟩, rfl⟩
def mq_78 : MT := (yX8_isOneHour, prog_10_method_2_code, 3, some .boolean, 1, 1, 2, 8, [])
theorem mo_78 : mok mq_78 := ⟨by decide +kernel, ⟨by decide +kernel, by decide +kernel, by decide +kernel⟩, w_994, w_93, fun h => absurd h (by decide), fun _ => ⟨w_992, w_993⟩, fun h => absurd h (by decide), rfl⟩
def mq_79 : MT := (yX8_assign, prog_10_method_3_code, 5, some .boolean, 1, 1, 5, 8, [])
theorem mo_79 : mok mq_79 := ⟨by decide +kernel, ⟨by decide +kernel, by decide +kernel, by decide +kernel⟩, w_1000, w_93, fun h => absurd h (by decide), fun _ => ⟨w_998, w_999⟩, fun h => absurd h (by decide), rfl⟩
def mq_80 : MT := (yX8_gather, prog_10_method_4_code, 3, none, 1, 1, 4, 8, [])
theorem mo_80 : mok mq_80 := ⟨by decide +kernel, ⟨by decide +kernel, by decide +kernel, by decide +kernel⟩, w_1004, w_93, fun h => absurd h (by decide), fun _ => ⟨w_1003, w_35⟩, fun h => absurd h (by decide), rfl⟩
def mq_81 : MT := (yX8_withoutKin, prog_10_method_5_code, 6, some .int, 1, 1, 3, 8, [])
theorem mo_81 : mok mq_81 := ⟨by decide +kernel, ⟨by decide +kernel, by decide +kernel, by decide +kernel⟩, w_1008, w_93, fun h => absurd h (by decide), fun _ => ⟨w_1007, w_36⟩, fun h => absurd h (by decide), rfl⟩
def mq_82 : MT := (yX8_isKin, prog_10_method_6_code, 3, some .boolean, 1, 2, 2, 8, [])
theorem mo_82 : mok mq_82 := ⟨by decide +kernel, ⟨by decide +kernel, by decide +kernel, by decide +kernel⟩, w_1013, w_93, fun h => absurd h (by decide), fun _ => ⟨w_1012, w_37⟩, fun h => absurd h (by decide), rfl⟩
def mq_83 : MT := (yX8_leastBehind, prog_10_method_7_code, 6, some .int, 1, 1, 3, 8, [])
theorem mo_83 : mok mq_83 := ⟨by decide +kernel, ⟨by decide +kernel, by decide +kernel, by decide +kernel⟩, w_1017, w_93, fun h => absurd h (by decide), fun _ => ⟨w_1016, w_38⟩, fun h => absurd h (by decide), rfl⟩
def mq_84 : MT := (yX8_sumWith, prog_10_method_8_code, 5, some .int, 1, 3, 2, 8, [])
theorem mo_84 : mok mq_84 := ⟨by decide +kernel, ⟨by decide +kernel, by decide +kernel, by decide +kernel⟩, w_1021, w_93, fun h => absurd h (by decide), fun _ => ⟨w_1020, w_39⟩, fun h => absurd h (by decide), rfl⟩
def mq_85 : MT := (yX8_firstOfLeast, prog_10_method_9_code, 5, some .int, 1, 2, 3, 8, [])
theorem mo_85 : mok mq_85 := ⟨by decide +kernel, ⟨by decide +kernel, by decide +kernel, by decide +kernel⟩, w_1025, w_93, fun h => absurd h (by decide), fun _ => ⟨w_1024, w_40⟩, fun h => absurd h (by decide), rfl⟩
def mq_86 : MT := (yX8_servingAt, prog_10_method_10_code, 3, some .int, 1, 1, 1, 8, [])
theorem mo_86 : mok mq_86 := ⟨by decide +kernel, ⟨by decide +kernel, by decide +kernel, by decide +kernel⟩, w_1029, w_93, fun h => absurd h (by decide), fun _ => ⟨w_1027, w_1028⟩, fun h => absurd h (by decide), rfl⟩
def mq_87 : MT := (yX8_workTheHour, prog_10_method_11_code, 2, some .int, 1, 0, 3, 8, [])
theorem mo_87 : mok mq_87 := ⟨by decide +kernel, ⟨by decide +kernel, by decide +kernel, by decide +kernel⟩, w_1037, w_93, fun h => absurd h (by decide), fun _ => ⟨w_1035, w_1036⟩, fun h => absurd h (by decide), rfl⟩
def mq_88 : MT := (yX8_leaning, prog_10_method_12_code, 10, some .int, 1, 2, 4, 8, [])
theorem mo_88 : mok mq_88 := ⟨by decide +kernel, ⟨by decide +kernel, by decide +kernel, by decide +kernel⟩, w_1094, w_93, fun h => absurd h (by decide), fun _ => ⟨w_1092, w_1093⟩, fun h => absurd h (by decide), rfl⟩
def mq_89 : MT := (yX8_sideOf, prog_10_method_13_code, 3, some .int, 1, 2, 2, 8, [])
theorem mo_89 : mok mq_89 := ⟨by decide +kernel, ⟨by decide +kernel, by decide +kernel, by decide +kernel⟩, w_1098, w_93, fun h => absurd h (by decide), fun _ => ⟨w_1097, w_41⟩, fun h => absurd h (by decide), rfl⟩
def mq_90 : MT := (yX8_habitFrom, prog_10_method_14_code, 2, some .int, 0, 2, 3, 8, [])
theorem mo_90 : mok mq_90 := ⟨by decide +kernel, ⟨by decide +kernel, by decide +kernel, by decide +kernel⟩, w_1101, w_93, fun _ => w_1100, fun h => absurd h (by decide), fun h => absurd h (by decide), rfl⟩
def mq_91 : MT := (yX8_isRare, prog_10_method_15_code, 7, some .boolean, 0, 2, 2, 8, [2, 4])
theorem mo_91 : mok mq_91 := ⟨by decide +kernel, ⟨by decide +kernel, by decide +kernel, by decide +kernel⟩, w_1105, w_93, fun _ => w_1104, fun h => absurd h (by decide), fun h => absurd h (by decide), rfl⟩
def mq_92 : MT := (yX9_init, prog_11_method_1_code, 2, none, 2, 1, 1, 9, [])
theorem mo_92 : mok mq_92 := ⟨by decide +kernel, ⟨by decide +kernel, by decide +kernel, by decide +kernel⟩, w_421, w_94, fun h => absurd h (by decide), fun h => absurd h (by decide), fun _ => ⟨rfl, w_420, rfl⟩, rfl⟩
def mq_93 : MT := (yX9_isOrder, prog_11_method_2_code, 3, some .boolean, 1, 1, 1, 9, [])
theorem mo_93 : mok mq_93 := ⟨by decide +kernel, ⟨by decide +kernel, by decide +kernel, by decide +kernel⟩, w_1054, w_94, fun h => absurd h (by decide), fun _ => ⟨w_1052, w_1053⟩, fun h => absurd h (by decide), rfl⟩
def mq_94 : MT := (yX9_marginOf, prog_11_method_3_code, 10, some .int, 1, 1, 2, 9, [])
theorem mo_94 : mok mq_94 := ⟨by decide +kernel, ⟨by decide +kernel, by decide +kernel, by decide +kernel⟩, w_1060, w_94, fun h => absurd h (by decide), fun _ => ⟨w_1058, w_1059⟩, fun h => absurd h (by decide), rfl⟩
def mq_95 : MT := (yX9_fencerAt, prog_11_method_4_code, 2, some .int, 0, 2, 1, 9, [])
theorem mo_95 : mok mq_95 := ⟨by decide +kernel, ⟨by decide +kernel, by decide +kernel, by decide +kernel⟩, w_1065, w_94, fun _ => w_1064, fun h => absurd h (by decide), fun h => absurd h (by decide), rfl⟩
def mq_96 : MT := (yX9_touchesBehind, prog_11_method_5_code, 2, some .int, 1, 1, 2, 9, [])
theorem mo_96 : mok mq_96 := ⟨by decide +kernel, ⟨by decide +kernel, by decide +kernel, by decide +kernel⟩, w_1072, w_94, fun h => absurd h (by decide), fun _ => ⟨w_1070, w_1071⟩, fun h => absurd h (by decide), rfl⟩
def mq_97 : MT := (yX9_orderOfMostGain, prog_11_method_6_code, 5, some .int, 1, 0, 3, 9, [])
theorem mo_97 : mok mq_97 := ⟨by decide +kernel, ⟨by decide +kernel, by decide +kernel, by decide +kernel⟩, w_1081, w_94, fun h => absurd h (by decide), fun _ => ⟨w_1079, w_1080⟩, fun h => absurd h (by decide), rfl⟩
def mq_98 : MT := (yX10_init, prog_12_method_1_code, 3, none, 2, 2, 1, 10, [])
theorem mo_98 : mok mq_98 := ⟨by decide +kernel, ⟨by decide +kernel, by decide +kernel, by decide +kernel⟩, w_122, w_85, fun h => absurd h (by decide), fun h => absurd h (by decide), fun _ => ⟨rfl, w_121, rfl⟩, rfl⟩
def mq_99 : MT := (yX10_addAll, prog_12_method_8_code, 2, none, 1, 0, 3, 10, [])
theorem mo_99 : mok mq_99 := ⟨by decide +kernel, ⟨by decide +kernel, by decide +kernel, by decide +kernel⟩, w_152, w_85, fun h => absurd h (by decide), fun _ => ⟨w_150, w_151⟩, fun h => absurd h (by decide), rfl⟩
def mq_100 : MT := (yX10_add, prog_12_method_7_code, 3, some .int, 1, 0, 2, 10, [])
theorem mo_100 : mok mq_100 := ⟨by decide +kernel, ⟨by decide +kernel, by decide +kernel, by decide +kernel⟩, w_156, w_85, fun h => absurd h (by decide), fun _ => ⟨w_154, w_155⟩, fun h => absurd h (by decide), rfl⟩
def mq_101 : MT := (yX10_isFull, prog_12_method_3_code, 1, some .boolean, 1, 0, 1, 10, [])
theorem mo_101 : mok mq_101 := ⟨by decide +kernel, ⟨by decide +kernel, by decide +kernel, by decide +kernel⟩, w_160, w_85, fun h => absurd h (by decide), fun _ => ⟨w_158, w_159⟩, fun h => absurd h (by decide), rfl⟩
def mq_102 : MT := (yX10_set, prog_12_method_5_code, 4, none, 1, 3, 1, 10, [])
theorem mo_102 : mok mq_102 := ⟨by decide +kernel, ⟨by decide +kernel, by decide +kernel, by decide +kernel⟩, w_164, w_85, fun h => absurd h (by decide), fun _ => ⟨w_162, w_163⟩, fun h => absurd h (by decide), rfl⟩
def mq_103 : MT := (yX10_get, prog_12_method_4_code, 4, some .int, 1, 2, 1, 10, [])
theorem mo_103 : mok mq_103 := ⟨by decide +kernel, ⟨by decide +kernel, by decide +kernel, by decide +kernel⟩, w_498, w_85, fun h => absurd h (by decide), fun _ => ⟨w_496, w_497⟩, fun h => absurd h (by decide), rfl⟩
def mq_104 : MT := (yX10_has, prog_12_method_2_code, 2, some .boolean, 1, 1, 1, 10, [])
theorem mo_104 : mok mq_104 := ⟨by decide +kernel, ⟨by decide +kernel, by decide +kernel, by decide +kernel⟩, w_565, w_85, fun h => absurd h (by decide), fun _ => ⟨w_563, w_564⟩, fun h => absurd h (by decide), rfl⟩
def mq_105 : MT := (yX10_raise, prog_12_method_6_code, 4, none, 1, 3, 2, 10, [])
theorem mo_105 : mok mq_105 := ⟨by decide +kernel, ⟨by decide +kernel, by decide +kernel, by decide +kernel⟩, w_598, w_85, fun h => absurd h (by decide), fun _ => ⟨w_596, w_597⟩, fun h => absurd h (by decide), rfl⟩
def mq_106 : MT := (yX10_copyFrom, prog_12_method_9_code, 2, none, 1, 1, 1, 10, [])
theorem mo_106 : mok mq_106 := ⟨by decide +kernel, ⟨by decide +kernel, by decide +kernel, by decide +kernel⟩, w_1150, w_85, fun h => absurd h (by decide), fun _ => ⟨w_1148, w_1149⟩, fun h => absurd h (by decide), rfl⟩
def mq_107 : MT := (yX10_mixedInto, prog_12_method_10_code, 6, some .long, 1, 2, 2, 10, [1])
theorem mo_107 : mok mq_107 := ⟨by decide +kernel, ⟨by decide +kernel, by decide +kernel, by decide +kernel⟩, w_1175, w_85, fun h => absurd h (by decide), fun _ => ⟨w_1173, w_1174⟩, fun h => absurd h (by decide), rfl⟩
def mq_108 : MT := (yX11_init, prog_1_method_1_code, 1, none, 2, 0, 5, 11, [])
theorem mo_108 : mok mq_108 := ⟨by decide +kernel, ⟨by decide +kernel, by decide +kernel, by decide +kernel⟩, w_108, w_83, fun h => absurd h (by decide), fun h => absurd h (by decide), fun _ => ⟨rfl, w_107, rfl⟩, rfl⟩
def mq_109 : MT := (yX11_phrase, prog_1_method_2_code, 2, some .int, 1, 0, 1, 11, [])
theorem mo_109 : mok mq_109 := ⟨by decide +kernel, ⟨by decide +kernel, by decide +kernel, by decide +kernel⟩, w_480, w_83, fun h => absurd h (by decide), fun _ => ⟨w_478, w_479⟩, fun h => absurd h (by decide), rfl⟩
def mq_110 : MT := (yX11_act, prog_1_method_3_code, 5, some .int, 1, 3, 3, 11, [])
theorem mo_110 : mok mq_110 := ⟨by decide +kernel, ⟨by decide +kernel, by decide +kernel, by decide +kernel⟩, w_484, w_83, fun h => absurd h (by decide), fun _ => ⟨w_482, w_483⟩, fun h => absurd h (by decide), rfl⟩
def mq_111 : MT := (yX11_isSide, prog_1_method_42_code, 1, some .boolean, 0, 1, 2, 11, [])
theorem mo_111 : mok mq_111 := ⟨by decide +kernel, ⟨by decide +kernel, by decide +kernel, by decide +kernel⟩, w_487, w_83, fun _ => w_486, fun h => absurd h (by decide), fun h => absurd h (by decide), rfl⟩
def mq_112 : MT := (yX11_within, prog_1_method_41_code, 3, some .boolean, 0, 3, 1, 11, [])
theorem mo_112 : mok mq_112 := ⟨by decide +kernel, ⟨by decide +kernel, by decide +kernel, by decide +kernel⟩, w_490, w_83, fun _ => w_489, fun h => absurd h (by decide), fun h => absurd h (by decide), rfl⟩
def mq_113 : MT := (yX11_line, prog_1_method_4_code, 3, some .int, 1, 2, 5, 11, [])
theorem mo_113 : mok mq_113 := ⟨by decide +kernel, ⟨by decide +kernel, by decide +kernel, by decide +kernel⟩, w_505, w_83, fun h => absurd h (by decide), fun _ => ⟨w_503, w_504⟩, fun h => absurd h (by decide), rfl⟩
def mq_114 : MT := (yX11_touch, prog_1_method_5_code, 2, some .int, 1, 1, 6, 11, [])
theorem mo_114 : mok mq_114 := ⟨by decide +kernel, ⟨by decide +kernel, by decide +kernel, by decide +kernel⟩, w_529, w_83, fun h => absurd h (by decide), fun _ => ⟨w_527, w_528⟩, fun h => absurd h (by decide), rfl⟩
def mq_115 : MT := (yX11_fencer, prog_1_method_6_code, 5, some .int, 1, 3, 3, 11, [])
theorem mo_115 : mok mq_115 := ⟨by decide +kernel, ⟨by decide +kernel, by decide +kernel, by decide +kernel⟩, w_551, w_83, fun h => absurd h (by decide), fun _ => ⟨w_549, w_550⟩, fun h => absurd h (by decide), rfl⟩
def mq_116 : MT := (yX11_isHome, prog_1_method_43_code, 2, some .boolean, 0, 2, 2, 11, [])
theorem mo_116 : mok mq_116 := ⟨by decide +kernel, ⟨by decide +kernel, by decide +kernel, by decide +kernel⟩, w_554, w_83, fun _ => w_553, fun h => absurd h (by decide), fun h => absurd h (by decide), rfl⟩
def mq_117 : MT := (yX11_isSeed, prog_1_method_44_code, 1, some .boolean, 0, 1, 2, 11, [])
theorem mo_117 : mok mq_117 := ⟨by decide +kernel, ⟨by decide +kernel, by decide +kernel, by decide +kernel⟩, w_557, w_83, fun _ => w_556, fun h => absurd h (by decide), fun h => absurd h (by decide), rfl⟩
def mq_118 : MT := (yX11_seed, prog_1_method_7_code, 4, some .int, 1, 2, 3, 11, [])
theorem mo_118 : mok mq_118 := ⟨by decide +kernel, ⟨by decide +kernel, by decide +kernel, by decide +kernel⟩, w_561, w_83, fun h => absurd h (by decide), fun _ => ⟨w_559, w_560⟩, fun h => absurd h (by decide), rfl⟩
def mq_119 : MT := (yX11_bout, prog_1_method_8_code, 8, some .int, 1, 6, 4, 11, [])
theorem mo_119 : mok mq_119 := ⟨by decide +kernel, ⟨by decide +kernel, by decide +kernel, by decide +kernel⟩, w_570, w_83, fun h => absurd h (by decide), fun _ => ⟨w_568, w_569⟩, fun h => absurd h (by decide), rfl⟩
def mq_120 : MT := (yX11_event, prog_1_method_9_code, 5, some .int, 1, 4, 7, 11, [])
theorem mo_120 : mok mq_120 := ⟨by decide +kernel, ⟨by decide +kernel, by decide +kernel, by decide +kernel⟩, w_584, w_83, fun h => absurd h (by decide), fun _ => ⟨w_582, w_583⟩, fun h => absurd h (by decide), rfl⟩
def mq_121 : MT := (yX11_end, prog_1_method_10_code, 2, some .int, 1, 1, 4, 11, [])
theorem mo_121 : mok mq_121 := ⟨by decide +kernel, ⟨by decide +kernel, by decide +kernel, by decide +kernel⟩, w_640, w_83, fun h => absurd h (by decide), fun _ => ⟨w_638, w_639⟩, fun h => absurd h (by decide), rfl⟩
def mq_122 : MT := (yX11_walkover, prog_1_method_11_code, 3, some .int, 1, 2, 3, 11, [])
theorem mo_122 : mok mq_122 := ⟨by decide +kernel, ⟨by decide +kernel, by decide +kernel, by decide +kernel⟩, w_645, w_83, fun h => absurd h (by decide), fun _ => ⟨w_643, w_644⟩, fun h => absurd h (by decide), rfl⟩
def mq_123 : MT := (yX11_tear, prog_1_method_12_code, 3, some .int, 1, 2, 3, 11, [])
theorem mo_123 : mok mq_123 := ⟨by decide +kernel, ⟨by decide +kernel, by decide +kernel, by decide +kernel⟩, w_650, w_83, fun h => absurd h (by decide), fun _ => ⟨w_648, w_649⟩, fun h => absurd h (by decide), rfl⟩
def mq_124 : MT := (yX11_about, prog_1_method_13_code, 3, some .int, 1, 2, 2, 11, [])
theorem mo_124 : mok mq_124 := ⟨by decide +kernel, ⟨by decide +kernel, by decide +kernel, by decide +kernel⟩, w_658, w_83, fun h => absurd h (by decide), fun _ => ⟨w_656, w_657⟩, fun h => absurd h (by decide), rfl⟩
def mq_125 : MT := (yX11_pool, prog_1_method_14_code, 3, some .int, 1, 1, 3, 11, [])
theorem mo_125 : mok mq_125 := ⟨by decide +kernel, ⟨by decide +kernel, by decide +kernel, by decide +kernel⟩, w_662, w_83, fun h => absurd h (by decide), fun _ => ⟨w_660, w_661⟩, fun h => absurd h (by decide), rfl⟩
def mq_126 : MT := (yX11_indicator, prog_1_method_15_code, 4, some .int, 1, 3, 6, 11, [])
theorem mo_126 : mok mq_126 := ⟨by decide +kernel, ⟨by decide +kernel, by decide +kernel, by decide +kernel⟩, w_677, w_83, fun h => absurd h (by decide), fun _ => ⟨w_675, w_676⟩, fun h => absurd h (by decide), rfl⟩
def mq_127 : MT := (yX11_order, prog_1_method_16_code, 3, some .int, 1, 2, 7, 11, [])
theorem mo_127 : mok mq_127 := ⟨by decide +kernel, ⟨by decide +kernel, by decide +kernel, by decide +kernel⟩, w_707, w_83, fun h => absurd h (by decide), fun _ => ⟨w_705, w_706⟩, fun h => absurd h (by decide), rfl⟩
def mq_128 : MT := (yX11_write, prog_1_method_17_code, 4, some .int, 1, 2, 2, 11, [])
theorem mo_128 : mok mq_128 := ⟨by decide +kernel, ⟨by decide +kernel, by decide +kernel, by decide +kernel⟩, w_725, w_83, fun h => absurd h (by decide), fun _ => ⟨w_723, w_724⟩, fun h => absurd h (by decide), rfl⟩
def mq_129 : MT := (yX11_erase, prog_1_method_18_code, 3, some .int, 1, 1, 2, 11, [])
theorem mo_129 : mok mq_129 := ⟨by decide +kernel, ⟨by decide +kernel, by decide +kernel, by decide +kernel⟩, w_729, w_83, fun h => absurd h (by decide), fun _ => ⟨w_727, w_728⟩, fun h => absurd h (by decide), rfl⟩
def mq_130 : MT := (yX11_fault, prog_1_method_19_code, 2, some .int, 1, 1, 8, 11, [])
theorem mo_130 : mok mq_130 := ⟨by decide +kernel, ⟨by decide +kernel, by decide +kernel, by decide +kernel⟩, w_733, w_83, fun h => absurd h (by decide), fun _ => ⟨w_731, w_732⟩, fun h => absurd h (by decide), rfl⟩
def mq_131 : MT := (yX11_tells, prog_1_method_20_code, 4, some .long, 1, 3, 10, 11, [])
theorem mo_131 : mok mq_131 := ⟨by decide +kernel, ⟨by decide +kernel, by decide +kernel, by decide +kernel⟩, w_871, w_83, fun h => absurd h (by decide), fun _ => ⟨w_869, w_870⟩, fun h => absurd h (by decide), rfl⟩
def mq_132 : MT := (yX11_beside, prog_1_method_21_code, 4, some .int, 1, 3, 10, 11, [])
theorem mo_132 : mok mq_132 := ⟨by decide +kernel, ⟨by decide +kernel, by decide +kernel, by decide +kernel⟩, w_890, w_83, fun h => absurd h (by decide), fun _ => ⟨w_888, w_889⟩, fun h => absurd h (by decide), rfl⟩
def mq_133 : MT := (yX11_hangs, prog_1_method_22_code, 3, some .int, 1, 1, 7, 11, [])
theorem mo_133 : mok mq_133 := ⟨by decide +kernel, ⟨by decide +kernel, by decide +kernel, by decide +kernel⟩, w_902, w_83, fun h => absurd h (by decide), fun _ => ⟨w_900, w_901⟩, fun h => absurd h (by decide), rfl⟩
def mq_134 : MT := (yX11_ladder, prog_1_method_23_code, 5, some .int, 1, 3, 7, 11, [])
theorem mo_134 : mok mq_134 := ⟨by decide +kernel, ⟨by decide +kernel, by decide +kernel, by decide +kernel⟩, w_913, w_83, fun h => absurd h (by decide), fun _ => ⟨w_911, w_912⟩, fun h => absurd h (by decide), rfl⟩
def mq_135 : MT := (yX11_apart, prog_1_method_24_code, 4, some .int, 1, 3, 18, 11, [])
theorem mo_135 : mok mq_135 := ⟨by decide +kernel, ⟨by decide +kernel, by decide +kernel, by decide +kernel⟩, w_947, w_83, fun h => absurd h (by decide), fun _ => ⟨w_945, w_946⟩, fun h => absurd h (by decide), rfl⟩
def mq_136 : MT := (yX11_referee, prog_1_method_25_code, 4, some .int, 1, 2, 3, 11, [])
theorem mo_136 : mok mq_136 := ⟨by decide +kernel, ⟨by decide +kernel, by decide +kernel, by decide +kernel⟩, w_986, w_83, fun h => absurd h (by decide), fun _ => ⟨w_984, w_985⟩, fun h => absurd h (by decide), rfl⟩
def mq_137 : MT := (yX11_service, prog_1_method_26_code, 3, some .int, 1, 2, 6, 11, [])
theorem mo_137 : mok mq_137 := ⟨by decide +kernel, ⟨by decide +kernel, by decide +kernel, by decide +kernel⟩, w_990, w_83, fun h => absurd h (by decide), fun _ => ⟨w_988, w_989⟩, fun h => absurd h (by decide), rfl⟩
def mq_138 : MT := (yX11_serve, prog_1_method_27_code, 2, some .int, 1, 1, 6, 11, [])
theorem mo_138 : mok mq_138 := ⟨by decide +kernel, ⟨by decide +kernel, by decide +kernel, by decide +kernel⟩, w_1033, w_83, fun h => absurd h (by decide), fun _ => ⟨w_1031, w_1032⟩, fun h => absurd h (by decide), rfl⟩
def mq_139 : MT := (yX11_hours, prog_1_method_28_code, 2, some .int, 1, 1, 2, 11, [])
theorem mo_139 : mok mq_139 := ⟨by decide +kernel, ⟨by decide +kernel, by decide +kernel, by decide +kernel⟩, w_1042, w_83, fun h => absurd h (by decide), fun _ => ⟨w_1040, w_1041⟩, fun h => absurd h (by decide), rfl⟩
def mq_140 : MT := (yX11_pair, prog_1_method_29_code, 6, some .int, 1, 4, 2, 11, [])
theorem mo_140 : mok mq_140 := ⟨by decide +kernel, ⟨by decide +kernel, by decide +kernel, by decide +kernel⟩, w_1046, w_83, fun h => absurd h (by decide), fun _ => ⟨w_1044, w_1045⟩, fun h => absurd h (by decide), rfl⟩
def mq_141 : MT := (yX11_relay, prog_1_method_30_code, 4, some .int, 1, 2, 3, 11, [])
theorem mo_141 : mok mq_141 := ⟨by decide +kernel, ⟨by decide +kernel, by decide +kernel, by decide +kernel⟩, w_1050, w_83, fun h => absurd h (by decide), fun _ => ⟨w_1048, w_1049⟩, fun h => absurd h (by decide), rfl⟩
def mq_142 : MT := (yX11_bestOrder, prog_1_method_31_code, 1, some .int, 1, 0, 4, 11, [])
theorem mo_142 : mok mq_142 := ⟨by decide +kernel, ⟨by decide +kernel, by decide +kernel, by decide +kernel⟩, w_1077, w_83, fun h => absurd h (by decide), fun _ => ⟨w_1075, w_1076⟩, fun h => absurd h (by decide), rfl⟩
def mq_143 : MT := (yX11_judged, prog_1_method_32_code, 6, some .int, 1, 4, 3, 11, [])
theorem mo_143 : mok mq_143 := ⟨by decide +kernel, ⟨by decide +kernel, by decide +kernel, by decide +kernel⟩, w_1086, w_83, fun h => absurd h (by decide), fun _ => ⟨w_1084, w_1085⟩, fun h => absurd h (by decide), rfl⟩
def mq_144 : MT := (yX11_habit, prog_1_method_33_code, 3, some .int, 1, 2, 5, 11, [])
theorem mo_144 : mok mq_144 := ⟨by decide +kernel, ⟨by decide +kernel, by decide +kernel, by decide +kernel⟩, w_1090, w_83, fun h => absurd h (by decide), fun _ => ⟨w_1088, w_1089⟩, fun h => absurd h (by decide), rfl⟩
def mq_145 : MT := (yX11_result, prog_1_method_34_code, 6, some .int, 1, 4, 3, 11, [])
theorem mo_145 : mok mq_145 := ⟨by decide +kernel, ⟨by decide +kernel, by decide +kernel, by decide +kernel⟩, w_1111, w_83, fun h => absurd h (by decide), fun _ => ⟨w_1109, w_1110⟩, fun h => absurd h (by decide), rfl⟩
def mq_146 : MT := (yX11_isWeek, prog_1_method_45_code, 1, some .boolean, 0, 1, 2, 11, [])
theorem mo_146 : mok mq_146 := ⟨by decide +kernel, ⟨by decide +kernel, by decide +kernel, by decide +kernel⟩, w_1114, w_83, fun _ => w_1113, fun h => absurd h (by decide), fun h => absurd h (by decide), rfl⟩
def mq_147 : MT := (yX11_counted, prog_1_method_35_code, 3, some .int, 1, 1, 2, 11, [])
theorem mo_147 : mok mq_147 := ⟨by decide +kernel, ⟨by decide +kernel, by decide +kernel, by decide +kernel⟩, w_1118, w_83, fun h => absurd h (by decide), fun _ => ⟨w_1116, w_1117⟩, fun h => absurd h (by decide), rfl⟩
def mq_148 : MT := (yX11_ranking, prog_1_method_36_code, 5, some .int, 1, 4, 4, 11, [])
theorem mo_148 : mok mq_148 := ⟨by decide +kernel, ⟨by decide +kernel, by decide +kernel, by decide +kernel⟩, w_1122, w_83, fun h => absurd h (by decide), fun _ => ⟨w_1120, w_1121⟩, fun h => absurd h (by decide), rfl⟩
def mq_149 : MT := (yX11_image, prog_1_method_37_code, 3, some .int, 1, 1, 5, 11, [])
theorem mo_149 : mok mq_149 := ⟨by decide +kernel, ⟨by decide +kernel, by decide +kernel, by decide +kernel⟩, w_1142, w_83, fun h => absurd h (by decide), fun _ => ⟨w_1140, w_1141⟩, fun h => absurd h (by decide), rfl⟩
def mq_150 : MT := (yX11_from, prog_1_method_38_code, 3, some .int, 1, 1, 3, 11, [])
theorem mo_150 : mok mq_150 := ⟨by decide +kernel, ⟨by decide +kernel, by decide +kernel, by decide +kernel⟩, w_1156, w_83, fun h => absurd h (by decide), fun _ => ⟨w_1154, w_1155⟩, fun h => absurd h (by decide), rfl⟩
def mq_151 : MT := (yX11_count, prog_1_method_39_code, 2, some .int, 1, 1, 5, 11, [])
theorem mo_151 : mok mq_151 := ⟨by decide +kernel, ⟨by decide +kernel, by decide +kernel, by decide +kernel⟩, w_1160, w_83, fun h => absurd h (by decide), fun _ => ⟨w_1158, w_1159⟩, fun h => absurd h (by decide), rfl⟩
def mq_152 : MT := (yX11_digest, prog_1_method_40_code, 4, some .long, 1, 0, 6, 11, [1])
theorem mo_152 : mok mq_152 := ⟨by decide +kernel, ⟨by decide +kernel, by decide +kernel, by decide +kernel⟩, w_1168, w_83, fun h => absurd h (by decide), fun _ => ⟨w_1166, w_1167⟩, fun h => absurd h (by decide), rfl⟩
def mq_153 : MT := (yX12_init, prog_14_method_3_code, 1, none, 2, 0, 1, 12, [])
theorem mo_153 : mok mq_153 := ⟨by decide +kernel, ⟨by decide +kernel, by decide +kernel, by decide +kernel⟩, w_1186, w_96, fun h => absurd h (by decide), fun h => absurd h (by decide), fun _ => ⟨rfl, w_1185, rfl⟩, rfl⟩
def mq_154 : MT := (yX12_phrase, prog_14_method_7_code, 2, some .int, 1, 0, 1, 12, [])
theorem mo_154 : mok mq_154 := ⟨by decide +kernel, ⟨by decide +kernel, by decide +kernel, by decide +kernel⟩, w_1316, w_96, fun h => absurd h (by decide), fun _ => ⟨w_1314, w_1315⟩, fun h => absurd h (by decide), rfl⟩
def mq_155 : MT := (yX12_act, prog_14_method_8_code, 6, some .int, 1, 3, 2, 12, [])
theorem mo_155 : mok mq_155 := ⟨by decide +kernel, ⟨by decide +kernel, by decide +kernel, by decide +kernel⟩, w_1320, w_96, fun h => absurd h (by decide), fun _ => ⟨w_1318, w_1319⟩, fun h => absurd h (by decide), rfl⟩
def mq_156 : MT := (yX12_in, prog_14_method_2_code, 3, some .boolean, 0, 3, 1, 12, [])
theorem mo_156 : mok mq_156 := ⟨by decide +kernel, ⟨by decide +kernel, by decide +kernel, by decide +kernel⟩, w_1323, w_96, fun _ => w_1322, fun h => absurd h (by decide), fun h => absurd h (by decide), rfl⟩
def mq_157 : MT := (yX12_one, prog_14_method_5_code, 2, some .int, 1, 1, 1, 12, [])
theorem mo_157 : mok mq_157 := ⟨by decide +kernel, ⟨by decide +kernel, by decide +kernel, by decide +kernel⟩, w_1327, w_96, fun h => absurd h (by decide), fun _ => ⟨w_1326, w_43⟩, fun h => absurd h (by decide), rfl⟩
def mq_158 : MT := (yX12_line, prog_14_method_10_code, 3, some .int, 1, 2, 2, 12, [])
theorem mo_158 : mok mq_158 := ⟨by decide +kernel, ⟨by decide +kernel, by decide +kernel, by decide +kernel⟩, w_1331, w_96, fun h => absurd h (by decide), fun _ => ⟨w_1329, w_1330⟩, fun h => absurd h (by decide), rfl⟩
def mq_159 : MT := (yX12_lineAt, prog_14_method_9_code, 10, some .int, 1, 2, 1, 12, [])
theorem mo_159 : mok mq_159 := ⟨by decide +kernel, ⟨by decide +kernel, by decide +kernel, by decide +kernel⟩, w_1335, w_96, fun h => absurd h (by decide), fun _ => ⟨w_1334, w_44⟩, fun h => absurd h (by decide), rfl⟩
def mq_160 : MT := (yX12_touch, prog_14_method_12_code, 5, some .int, 1, 1, 2, 12, [])
theorem mo_160 : mok mq_160 := ⟨by decide +kernel, ⟨by decide +kernel, by decide +kernel, by decide +kernel⟩, w_1339, w_96, fun h => absurd h (by decide), fun _ => ⟨w_1337, w_1338⟩, fun h => absurd h (by decide), rfl⟩
def mq_161 : MT := (yX12_lightOf, prog_14_method_11_code, 3, some .int, 1, 1, 1, 12, [])
theorem mo_161 : mok mq_161 := ⟨by decide +kernel, ⟨by decide +kernel, by decide +kernel, by decide +kernel⟩, w_1343, w_96, fun h => absurd h (by decide), fun _ => ⟨w_1342, w_45⟩, fun h => absurd h (by decide), rfl⟩
def mq_162 : MT := (yX12_fencer, prog_14_method_13_code, 5, some .int, 1, 3, 2, 12, [])
theorem mo_162 : mok mq_162 := ⟨by decide +kernel, ⟨by decide +kernel, by decide +kernel, by decide +kernel⟩, w_1347, w_96, fun h => absurd h (by decide), fun _ => ⟨w_1345, w_1346⟩, fun h => absurd h (by decide), rfl⟩
def mq_163 : MT := (yX12_seed, prog_14_method_15_code, 4, some .int, 1, 2, 3, 12, [])
theorem mo_163 : mok mq_163 := ⟨by decide +kernel, ⟨by decide +kernel, by decide +kernel, by decide +kernel⟩, w_1351, w_96, fun h => absurd h (by decide), fun _ => ⟨w_1349, w_1350⟩, fun h => absurd h (by decide), rfl⟩
def mq_164 : MT := (yX12_is, prog_14_method_4_code, 3, some .boolean, 1, 2, 2, 12, [])
theorem mo_164 : mok mq_164 := ⟨by decide +kernel, ⟨by decide +kernel, by decide +kernel, by decide +kernel⟩, w_1355, w_96, fun h => absurd h (by decide), fun _ => ⟨w_1354, w_46⟩, fun h => absurd h (by decide), rfl⟩
def mq_165 : MT := (yX12_seedOf, prog_14_method_14_code, 2, some .int, 1, 1, 1, 12, [])
theorem mo_165 : mok mq_165 := ⟨by decide +kernel, ⟨by decide +kernel, by decide +kernel, by decide +kernel⟩, w_1359, w_96, fun h => absurd h (by decide), fun _ => ⟨w_1358, w_47⟩, fun h => absurd h (by decide), rfl⟩
def mq_166 : MT := (yX12_bout, prog_14_method_16_code, 8, some .int, 1, 6, 3, 12, [])
theorem mo_166 : mok mq_166 := ⟨by decide +kernel, ⟨by decide +kernel, by decide +kernel, by decide +kernel⟩, w_1363, w_96, fun h => absurd h (by decide), fun _ => ⟨w_1361, w_1362⟩, fun h => absurd h (by decide), rfl⟩
def mq_167 : MT := (yX12_event, prog_14_method_23_code, 7, some .int, 1, 4, 5, 12, [])
theorem mo_167 : mok mq_167 := ⟨by decide +kernel, ⟨by decide +kernel, by decide +kernel, by decide +kernel⟩, w_1367, w_96, fun h => absurd h (by decide), fun _ => ⟨w_1365, w_1366⟩, fun h => absurd h (by decide), rfl⟩
def mq_168 : MT := (yX12_told, prog_14_method_17_code, 3, some .int, 1, 2, 1, 12, [])
theorem mo_168 : mok mq_168 := ⟨by decide +kernel, ⟨by decide +kernel, by decide +kernel, by decide +kernel⟩, w_1371, w_96, fun h => absurd h (by decide), fun _ => ⟨w_1370, w_48⟩, fun h => absurd h (by decide), rfl⟩
def mq_169 : MT := (yX12_goes, prog_14_method_22_code, 5, none, 1, 1, 4, 12, [])
theorem mo_169 : mok mq_169 := ⟨by decide +kernel, ⟨by decide +kernel, by decide +kernel, by decide +kernel⟩, w_1376, w_96, fun h => absurd h (by decide), fun _ => ⟨w_1375, w_49⟩, fun h => absurd h (by decide), rfl⟩
def mq_170 : MT := (yX12_wins, prog_14_method_18_code, 2, none, 1, 1, 1, 12, [])
theorem mo_170 : mok mq_170 := ⟨by decide +kernel, ⟨by decide +kernel, by decide +kernel, by decide +kernel⟩, w_1380, w_96, fun h => absurd h (by decide), fun _ => ⟨w_1379, w_50⟩, fun h => absurd h (by decide), rfl⟩
def mq_171 : MT := (yX12_ahead, prog_14_method_21_code, 2, some .int, 1, 1, 1, 12, [])
theorem mo_171 : mok mq_171 := ⟨by decide +kernel, ⟨by decide +kernel, by decide +kernel, by decide +kernel⟩, w_1384, w_96, fun h => absurd h (by decide), fun _ => ⟨w_1383, w_51⟩, fun h => absurd h (by decide), rfl⟩
def mq_172 : MT := (yX12_happens, prog_14_method_20_code, 6, none, 1, 4, 3, 12, [])
theorem mo_172 : mok mq_172 := ⟨by decide +kernel, ⟨by decide +kernel, by decide +kernel, by decide +kernel⟩, w_1388, w_96, fun h => absurd h (by decide), fun _ => ⟨w_1387, w_52⟩, fun h => absurd h (by decide), rfl⟩
def mq_173 : MT := (yX12_hits, prog_14_method_19_code, 4, none, 1, 3, 2, 12, [])
theorem mo_173 : mok mq_173 := ⟨by decide +kernel, ⟨by decide +kernel, by decide +kernel, by decide +kernel⟩, w_1392, w_96, fun h => absurd h (by decide), fun _ => ⟨w_1391, w_53⟩, fun h => absurd h (by decide), rfl⟩
def mq_174 : MT := (yX12_end, prog_14_method_24_code, 2, some .int, 1, 1, 5, 12, [])
theorem mo_174 : mok mq_174 := ⟨by decide +kernel, ⟨by decide +kernel, by decide +kernel, by decide +kernel⟩, w_1396, w_96, fun h => absurd h (by decide), fun _ => ⟨w_1394, w_1395⟩, fun h => absurd h (by decide), rfl⟩
def mq_175 : MT := (yX12_walkover, prog_14_method_25_code, 3, some .int, 1, 2, 5, 12, [])
theorem mo_175 : mok mq_175 := ⟨by decide +kernel, ⟨by decide +kernel, by decide +kernel, by decide +kernel⟩, w_1400, w_96, fun h => absurd h (by decide), fun _ => ⟨w_1398, w_1399⟩, fun h => absurd h (by decide), rfl⟩
def mq_176 : MT := (yX12_tear, prog_14_method_26_code, 3, some .int, 1, 2, 3, 12, [])
theorem mo_176 : mok mq_176 := ⟨by decide +kernel, ⟨by decide +kernel, by decide +kernel, by decide +kernel⟩, w_1404, w_96, fun h => absurd h (by decide), fun _ => ⟨w_1402, w_1403⟩, fun h => absurd h (by decide), rfl⟩
def mq_177 : MT := (yX12_about, prog_14_method_28_code, 3, some .int, 1, 2, 6, 12, [])
theorem mo_177 : mok mq_177 := ⟨by decide +kernel, ⟨by decide +kernel, by decide +kernel, by decide +kernel⟩, w_1408, w_96, fun h => absurd h (by decide), fun _ => ⟨w_1406, w_1407⟩, fun h => absurd h (by decide), rfl⟩
def mq_178 : MT := (yX12_aboutOf, prog_14_method_27_code, 3, some .int, 1, 2, 5, 12, [])
theorem mo_178 : mok mq_178 := ⟨by decide +kernel, ⟨by decide +kernel, by decide +kernel, by decide +kernel⟩, w_1412, w_96, fun h => absurd h (by decide), fun _ => ⟨w_1411, w_54⟩, fun h => absurd h (by decide), rfl⟩
def mq_179 : MT := (yX12_pool, prog_14_method_30_code, 2, some .int, 1, 1, 2, 12, [])
theorem mo_179 : mok mq_179 := ⟨by decide +kernel, ⟨by decide +kernel, by decide +kernel, by decide +kernel⟩, w_1416, w_96, fun h => absurd h (by decide), fun _ => ⟨w_1414, w_1415⟩, fun h => absurd h (by decide), rfl⟩
def mq_180 : MT := (yX12_all, prog_14_method_29_code, 1, some .int, 1, 0, 1, 12, [])
theorem mo_180 : mok mq_180 := ⟨by decide +kernel, ⟨by decide +kernel, by decide +kernel, by decide +kernel⟩, w_1420, w_96, fun h => absurd h (by decide), fun _ => ⟨w_1419, w_55⟩, fun h => absurd h (by decide), rfl⟩
def mq_181 : MT := (yX12_sizeOf, prog_14_method_6_code, 3, some .int, 0, 1, 1, 12, [])
theorem mo_181 : mok mq_181 := ⟨by decide +kernel, ⟨by decide +kernel, by decide +kernel, by decide +kernel⟩, w_1423, w_96, fun _ => w_1422, fun h => absurd h (by decide), fun h => absurd h (by decide), rfl⟩
def mq_182 : MT := (yX12_indicator, prog_14_method_34_code, 4, some .int, 1, 3, 6, 12, [])
theorem mo_182 : mok mq_182 := ⟨by decide +kernel, ⟨by decide +kernel, by decide +kernel, by decide +kernel⟩, w_1427, w_96, fun h => absurd h (by decide), fun _ => ⟨w_1425, w_1426⟩, fun h => absurd h (by decide), rfl⟩
def mq_183 : MT := (yX12_isInPool, prog_14_method_33_code, 3, some .boolean, 1, 2, 3, 12, [])
theorem mo_183 : mok mq_183 := ⟨by decide +kernel, ⟨by decide +kernel, by decide +kernel, by decide +kernel⟩, w_1431, w_96, fun h => absurd h (by decide), fun _ => ⟨w_1430, w_56⟩, fun h => absurd h (by decide), rfl⟩
def mq_184 : MT := (yX12_findPool, prog_14_method_31_code, 5, none, 1, 1, 5, 12, [])
theorem mo_184 : mok mq_184 := ⟨by decide +kernel, ⟨by decide +kernel, by decide +kernel, by decide +kernel⟩, w_1436, w_96, fun h => absurd h (by decide), fun _ => ⟨w_1435, w_57⟩, fun h => absurd h (by decide), rfl⟩
def mq_185 : MT := (yX12_winsOf, prog_14_method_32_code, 2, some .int, 1, 1, 1, 12, [])
theorem mo_185 : mok mq_185 := ⟨by decide +kernel, ⟨by decide +kernel, by decide +kernel, by decide +kernel⟩, w_1440, w_96, fun h => absurd h (by decide), fun _ => ⟨w_1439, w_58⟩, fun h => absurd h (by decide), rfl⟩
def mq_186 : MT := (yX12_order, prog_14_method_37_code, 3, some .int, 1, 2, 7, 12, [])
theorem mo_186 : mok mq_186 := ⟨by decide +kernel, ⟨by decide +kernel, by decide +kernel, by decide +kernel⟩, w_1444, w_96, fun h => absurd h (by decide), fun _ => ⟨w_1442, w_1443⟩, fun h => absurd h (by decide), rfl⟩
def mq_187 : MT := (yX12_findOrder, prog_14_method_36_code, 4, none, 1, 1, 6, 12, [])
theorem mo_187 : mok mq_187 := ⟨by decide +kernel, ⟨by decide +kernel, by decide +kernel, by decide +kernel⟩, w_1448, w_96, fun h => absurd h (by decide), fun _ => ⟨w_1447, w_59⟩, fun h => absurd h (by decide), rfl⟩
def mq_188 : MT := (yX12_against, prog_14_method_35_code, 4, some .int, 1, 2, 2, 12, [])
theorem mo_188 : mok mq_188 := ⟨by decide +kernel, ⟨by decide +kernel, by decide +kernel, by decide +kernel⟩, w_1452, w_96, fun h => absurd h (by decide), fun _ => ⟨w_1451, w_60⟩, fun h => absurd h (by decide), rfl⟩
def mq_189 : MT := (yX12_hangs, prog_14_method_38_code, 6, some .int, 1, 1, 7, 12, [])
theorem mo_189 : mok mq_189 := ⟨by decide +kernel, ⟨by decide +kernel, by decide +kernel, by decide +kernel⟩, w_1456, w_96, fun h => absurd h (by decide), fun _ => ⟨w_1454, w_1455⟩, fun h => absurd h (by decide), rfl⟩
def mq_190 : MT := (yX12_write, prog_14_method_49_code, 4, some .int, 1, 2, 3, 12, [])
theorem mo_190 : mok mq_190 := ⟨by decide +kernel, ⟨by decide +kernel, by decide +kernel, by decide +kernel⟩, w_1460, w_96, fun h => absurd h (by decide), fun _ => ⟨w_1458, w_1459⟩, fun h => absurd h (by decide), rfl⟩
def mq_191 : MT := (yX12_isText, prog_14_method_48_code, 1, some .boolean, 0, 1, 2, 12, [])
theorem mo_191 : mok mq_191 := ⟨by decide +kernel, ⟨by decide +kernel, by decide +kernel, by decide +kernel⟩, w_1463, w_96, fun _ => w_1462, fun h => absurd h (by decide), fun h => absurd h (by decide), rfl⟩
def mq_192 : MT := (yX12_erase, prog_14_method_50_code, 3, some .int, 1, 1, 3, 12, [])
theorem mo_192 : mok mq_192 := ⟨by decide +kernel, ⟨by decide +kernel, by decide +kernel, by decide +kernel⟩, w_1467, w_96, fun h => absurd h (by decide), fun _ => ⟨w_1465, w_1466⟩, fun h => absurd h (by decide), rfl⟩
def mq_193 : MT := (yX12_fault, prog_14_method_51_code, 2, some .int, 1, 1, 4, 12, [])
theorem mo_193 : mok mq_193 := ⟨by decide +kernel, ⟨by decide +kernel, by decide +kernel, by decide +kernel⟩, w_1471, w_96, fun h => absurd h (by decide), fun _ => ⟨w_1469, w_1470⟩, fun h => absurd h (by decide), rfl⟩
def mq_194 : MT := (yX12_reads, prog_14_method_45_code, 10, some .int, 1, 1, 3, 12, [])
theorem mo_194 : mok mq_194 := ⟨by decide +kernel, ⟨by decide +kernel, by decide +kernel, by decide +kernel⟩, w_1475, w_96, fun h => absurd h (by decide), fun _ => ⟨w_1474, w_61⟩, fun h => absurd h (by decide), rfl⟩
def mq_195 : MT := (yX12_settles, prog_14_method_41_code, 2, none, 1, 1, 2, 12, [])
theorem mo_195 : mok mq_195 := ⟨by decide +kernel, ⟨by decide +kernel, by decide +kernel, by decide +kernel⟩, w_1479, w_96, fun h => absurd h (by decide), fun _ => ⟨w_1478, w_62⟩, fun h => absurd h (by decide), rfl⟩
def mq_196 : MT := (yX12_holds, prog_14_method_40_code, 1, some .int, 0, 1, 1, 12, [])
theorem mo_196 : mok mq_196 := ⟨by decide +kernel, ⟨by decide +kernel, by decide +kernel, by decide +kernel⟩, w_1482, w_96, fun _ => w_1481, fun h => absurd h (by decide), fun h => absurd h (by decide), rfl⟩
def mq_197 : MT := (yX12_emits, prog_14_method_39_code, 3, none, 1, 2, 1, 12, [])
theorem mo_197 : mok mq_197 := ⟨by decide +kernel, ⟨by decide +kernel, by decide +kernel, by decide +kernel⟩, w_1486, w_96, fun h => absurd h (by decide), fun _ => ⟨w_1485, w_63⟩, fun h => absurd h (by decide), rfl⟩
def mq_198 : MT := (yX12_signOf, prog_14_method_44_code, 1, some .int, 0, 1, 1, 12, [])
theorem mo_198 : mok mq_198 := ⟨by decide +kernel, ⟨by decide +kernel, by decide +kernel, by decide +kernel⟩, w_1489, w_96, fun _ => w_1488, fun h => absurd h (by decide), fun h => absurd h (by decide), rfl⟩
def mq_199 : MT := (yX12_waitsWith, prog_14_method_42_code, 2, none, 1, 1, 1, 12, [])
theorem mo_199 : mok mq_199 := ⟨by decide +kernel, ⟨by decide +kernel, by decide +kernel, by decide +kernel⟩, w_1493, w_96, fun h => absurd h (by decide), fun _ => ⟨w_1492, w_64⟩, fun h => absurd h (by decide), rfl⟩
def mq_200 : MT := (yX12_nameOf, prog_14_method_43_code, 1, some .int, 0, 1, 1, 12, [])
theorem mo_200 : mok mq_200 := ⟨by decide +kernel, ⟨by decide +kernel, by decide +kernel, by decide +kernel⟩, w_1496, w_96, fun _ => w_1495, fun h => absurd h (by decide), fun h => absurd h (by decide), rfl⟩
def mq_201 : MT := (yX12_tells, prog_14_method_52_code, 4, some .long, 1, 3, 6, 12, [])
theorem mo_201 : mok mq_201 := ⟨by decide +kernel, ⟨by decide +kernel, by decide +kernel, by decide +kernel⟩, w_1500, w_96, fun h => absurd h (by decide), fun _ => ⟨w_1498, w_1499⟩, fun h => absurd h (by decide), rfl⟩
def mq_202 : MT := (yX12_tellsOf, prog_14_method_47_code, 9, some .long, 1, 1, 3, 12, [5, 7])
theorem mo_202 : mok mq_202 := ⟨by decide +kernel, ⟨by decide +kernel, by decide +kernel, by decide +kernel⟩, w_1506, w_96, fun h => absurd h (by decide), fun _ => ⟨w_1505, w_65⟩, fun h => absurd h (by decide), rfl⟩
def mq_203 : MT := (yX12_named, prog_14_method_46_code, 3, some .long, 1, 2, 2, 12, [])
theorem mo_203 : mok mq_203 := ⟨by decide +kernel, ⟨by decide +kernel, by decide +kernel, by decide +kernel⟩, w_1510, w_96, fun h => absurd h (by decide), fun _ => ⟨w_1509, w_66⟩, fun h => absurd h (by decide), rfl⟩
def mq_204 : MT := (yX12_beside, prog_14_method_53_code, 7, some .int, 1, 3, 7, 12, [])
theorem mo_204 : mok mq_204 := ⟨by decide +kernel, ⟨by decide +kernel, by decide +kernel, by decide +kernel⟩, w_1514, w_96, fun h => absurd h (by decide), fun _ => ⟨w_1512, w_1513⟩, fun h => absurd h (by decide), rfl⟩
def mq_205 : MT := (yX12_ladder, prog_14_method_57_code, 8, some .int, 1, 3, 6, 12, [])
theorem mo_205 : mok mq_205 := ⟨by decide +kernel, ⟨by decide +kernel, by decide +kernel, by decide +kernel⟩, w_1518, w_96, fun h => absurd h (by decide), fun _ => ⟨w_1516, w_1517⟩, fun h => absurd h (by decide), rfl⟩
def mq_206 : MT := (yX12_findSeeds, prog_14_method_54_code, 4, none, 1, 1, 2, 12, [])
theorem mo_206 : mok mq_206 := ⟨by decide +kernel, ⟨by decide +kernel, by decide +kernel, by decide +kernel⟩, w_1522, w_96, fun h => absurd h (by decide), fun _ => ⟨w_1521, w_67⟩, fun h => absurd h (by decide), rfl⟩
def mq_207 : MT := (yX12_findTable, prog_14_method_55_code, 6, none, 1, 1, 1, 12, [])
theorem mo_207 : mok mq_207 := ⟨by decide +kernel, ⟨by decide +kernel, by decide +kernel, by decide +kernel⟩, w_1526, w_96, fun h => absurd h (by decide), fun _ => ⟨w_1525, w_68⟩, fun h => absurd h (by decide), rfl⟩
def mq_208 : MT := (yX12_goesOn, prog_14_method_56_code, 5, some .int, 1, 2, 5, 12, [])
theorem mo_208 : mok mq_208 := ⟨by decide +kernel, ⟨by decide +kernel, by decide +kernel, by decide +kernel⟩, w_1530, w_96, fun h => absurd h (by decide), fun _ => ⟨w_1529, w_69⟩, fun h => absurd h (by decide), rfl⟩
def mq_209 : MT := (yX12_apart, prog_14_method_62_code, 5, some .int, 1, 3, 4, 12, [])
theorem mo_209 : mok mq_209 := ⟨by decide +kernel, ⟨by decide +kernel, by decide +kernel, by decide +kernel⟩, w_1534, w_96, fun h => absurd h (by decide), fun _ => ⟨w_1532, w_1533⟩, fun h => absurd h (by decide), rfl⟩
def mq_210 : MT := (yX12_findApart, prog_14_method_61_code, 5, none, 1, 2, 3, 12, [])
theorem mo_210 : mok mq_210 := ⟨by decide +kernel, ⟨by decide +kernel, by decide +kernel, by decide +kernel⟩, w_1538, w_96, fun h => absurd h (by decide), fun _ => ⟨w_1537, w_70⟩, fun h => absurd h (by decide), rfl⟩
def mq_211 : MT := (yX12_isFree, prog_14_method_59_code, 4, some .boolean, 1, 2, 1, 12, [])
theorem mo_211 : mok mq_211 := ⟨by decide +kernel, ⟨by decide +kernel, by decide +kernel, by decide +kernel⟩, w_1542, w_96, fun h => absurd h (by decide), fun _ => ⟨w_1541, w_71⟩, fun h => absurd h (by decide), rfl⟩
def mq_212 : MT := (yX12_clashes, prog_14_method_60_code, 4, some .int, 1, 0, 2, 12, [])
theorem mo_212 : mok mq_212 := ⟨by decide +kernel, ⟨by decide +kernel, by decide +kernel, by decide +kernel⟩, w_1546, w_96, fun h => absurd h (by decide), fun _ => ⟨w_1545, w_72⟩, fun h => absurd h (by decide), rfl⟩
def mq_213 : MT := (yX12_clash, prog_14_method_58_code, 5, some .int, 1, 2, 1, 12, [])
theorem mo_213 : mok mq_213 := ⟨by decide +kernel, ⟨by decide +kernel, by decide +kernel, by decide +kernel⟩, w_1550, w_96, fun h => absurd h (by decide), fun _ => ⟨w_1549, w_73⟩, fun h => absurd h (by decide), rfl⟩
def mq_214 : MT := (yX12_referee, prog_14_method_63_code, 4, some .int, 1, 2, 2, 12, [])
theorem mo_214 : mok mq_214 := ⟨by decide +kernel, ⟨by decide +kernel, by decide +kernel, by decide +kernel⟩, w_1554, w_96, fun h => absurd h (by decide), fun _ => ⟨w_1552, w_1553⟩, fun h => absurd h (by decide), rfl⟩
def mq_215 : MT := (yX12_service, prog_14_method_67_code, 4, some .int, 1, 2, 4, 12, [])
theorem mo_215 : mok mq_215 := ⟨by decide +kernel, ⟨by decide +kernel, by decide +kernel, by decide +kernel⟩, w_1558, w_96, fun h => absurd h (by decide), fun _ => ⟨w_1556, w_1557⟩, fun h => absurd h (by decide), rfl⟩
def mq_216 : MT := (yX12_isService, prog_14_method_66_code, 3, some .boolean, 1, 1, 2, 12, [])
theorem mo_216 : mok mq_216 := ⟨by decide +kernel, ⟨by decide +kernel, by decide +kernel, by decide +kernel⟩, w_1562, w_96, fun h => absurd h (by decide), fun _ => ⟨w_1561, w_74⟩, fun h => absurd h (by decide), rfl⟩
def mq_217 : MT := (yX12_findService, prog_14_method_65_code, 5, none, 1, 1, 3, 12, [])
theorem mo_217 : mok mq_217 := ⟨by decide +kernel, ⟨by decide +kernel, by decide +kernel, by decide +kernel⟩, w_1566, w_96, fun h => absurd h (by decide), fun _ => ⟨w_1565, w_75⟩, fun h => absurd h (by decide), rfl⟩
def mq_218 : MT := (yX12_mayServe, prog_14_method_64_code, 5, some .boolean, 1, 1, 2, 12, [])
theorem mo_218 : mok mq_218 := ⟨by decide +kernel, ⟨by decide +kernel, by decide +kernel, by decide +kernel⟩, w_1570, w_96, fun h => absurd h (by decide), fun _ => ⟨w_1569, w_76⟩, fun h => absurd h (by decide), rfl⟩
def mq_219 : MT := (yX12_serve, prog_14_method_68_code, 3, some .int, 1, 1, 4, 12, [])
theorem mo_219 : mok mq_219 := ⟨by decide +kernel, ⟨by decide +kernel, by decide +kernel, by decide +kernel⟩, w_1574, w_96, fun h => absurd h (by decide), fun _ => ⟨w_1572, w_1573⟩, fun h => absurd h (by decide), rfl⟩
def mq_220 : MT := (yX12_hours, prog_14_method_69_code, 2, some .int, 1, 1, 3, 12, [])
theorem mo_220 : mok mq_220 := ⟨by decide +kernel, ⟨by decide +kernel, by decide +kernel, by decide +kernel⟩, w_1578, w_96, fun h => absurd h (by decide), fun _ => ⟨w_1576, w_1577⟩, fun h => absurd h (by decide), rfl⟩
def mq_221 : MT := (yX12_pair, prog_14_method_70_code, 5, some .int, 1, 4, 2, 12, [])
theorem mo_221 : mok mq_221 := ⟨by decide +kernel, ⟨by decide +kernel, by decide +kernel, by decide +kernel⟩, w_1582, w_96, fun h => absurd h (by decide), fun _ => ⟨w_1580, w_1581⟩, fun h => absurd h (by decide), rfl⟩
def mq_222 : MT := (yX12_relay, prog_14_method_75_code, 4, some .int, 1, 2, 3, 12, [])
theorem mo_222 : mok mq_222 := ⟨by decide +kernel, ⟨by decide +kernel, by decide +kernel, by decide +kernel⟩, w_1586, w_96, fun h => absurd h (by decide), fun _ => ⟨w_1584, w_1585⟩, fun h => absurd h (by decide), rfl⟩
def mq_223 : MT := (yX12_isOrder, prog_14_method_71_code, 4, some .boolean, 0, 1, 2, 12, [])
theorem mo_223 : mok mq_223 := ⟨by decide +kernel, ⟨by decide +kernel, by decide +kernel, by decide +kernel⟩, w_1589, w_96, fun _ => w_1588, fun h => absurd h (by decide), fun h => absurd h (by decide), rfl⟩
def mq_224 : MT := (yX12_marginOf, prog_14_method_74_code, 11, some .int, 1, 1, 2, 12, [])
theorem mo_224 : mok mq_224 := ⟨by decide +kernel, ⟨by decide +kernel, by decide +kernel, by decide +kernel⟩, w_1593, w_96, fun h => absurd h (by decide), fun _ => ⟨w_1592, w_77⟩, fun h => absurd h (by decide), rfl⟩
def mq_225 : MT := (yX12_first, prog_14_method_72_code, 1, some .int, 0, 1, 1, 12, [])
theorem mo_225 : mok mq_225 := ⟨by decide +kernel, ⟨by decide +kernel, by decide +kernel, by decide +kernel⟩, w_1596, w_96, fun _ => w_1595, fun h => absurd h (by decide), fun h => absurd h (by decide), rfl⟩
def mq_226 : MT := (yX12_second, prog_14_method_73_code, 1, some .int, 0, 1, 1, 12, [])
theorem mo_226 : mok mq_226 := ⟨by decide +kernel, ⟨by decide +kernel, by decide +kernel, by decide +kernel⟩, w_1599, w_96, fun _ => w_1598, fun h => absurd h (by decide), fun h => absurd h (by decide), rfl⟩
def mq_227 : MT := (yX12_bestOrder, prog_14_method_76_code, 5, some .int, 1, 0, 3, 12, [])
theorem mo_227 : mok mq_227 := ⟨by decide +kernel, ⟨by decide +kernel, by decide +kernel, by decide +kernel⟩, w_1603, w_96, fun h => absurd h (by decide), fun _ => ⟨w_1601, w_1602⟩, fun h => absurd h (by decide), rfl⟩
def mq_228 : MT := (yX12_judged, prog_14_method_77_code, 6, some .int, 1, 4, 3, 12, [])
theorem mo_228 : mok mq_228 := ⟨by decide +kernel, ⟨by decide +kernel, by decide +kernel, by decide +kernel⟩, w_1607, w_96, fun h => absurd h (by decide), fun _ => ⟨w_1605, w_1606⟩, fun h => absurd h (by decide), rfl⟩
def mq_229 : MT := (yX12_habit, prog_14_method_79_code, 11, some .int, 1, 2, 3, 12, [])
theorem mo_229 : mok mq_229 := ⟨by decide +kernel, ⟨by decide +kernel, by decide +kernel, by decide +kernel⟩, w_1611, w_96, fun h => absurd h (by decide), fun _ => ⟨w_1609, w_1610⟩, fun h => absurd h (by decide), rfl⟩
def mq_230 : MT := (yX12_habitOf, prog_14_method_78_code, 8, some .int, 1, 2, 1, 12, [5])
theorem mo_230 : mok mq_230 := ⟨by decide +kernel, ⟨by decide +kernel, by decide +kernel, by decide +kernel⟩, w_1615, w_96, fun h => absurd h (by decide), fun _ => ⟨w_1614, w_78⟩, fun h => absurd h (by decide), rfl⟩
def mq_231 : MT := (yX12_result, prog_14_method_80_code, 6, some .int, 1, 4, 3, 12, [])
theorem mo_231 : mok mq_231 := ⟨by decide +kernel, ⟨by decide +kernel, by decide +kernel, by decide +kernel⟩, w_1620, w_96, fun h => absurd h (by decide), fun _ => ⟨w_1618, w_1619⟩, fun h => absurd h (by decide), rfl⟩
def mq_232 : MT := (yX12_counted, prog_14_method_81_code, 3, some .int, 1, 1, 2, 12, [])
theorem mo_232 : mok mq_232 := ⟨by decide +kernel, ⟨by decide +kernel, by decide +kernel, by decide +kernel⟩, w_1624, w_96, fun h => absurd h (by decide), fun _ => ⟨w_1622, w_1623⟩, fun h => absurd h (by decide), rfl⟩
def mq_233 : MT := (yX12_ranking, prog_14_method_83_code, 8, some .int, 1, 4, 3, 12, [])
theorem mo_233 : mok mq_233 := ⟨by decide +kernel, ⟨by decide +kernel, by decide +kernel, by decide +kernel⟩, w_1628, w_96, fun h => absurd h (by decide), fun _ => ⟨w_1626, w_1627⟩, fun h => absurd h (by decide), rfl⟩
def mq_234 : MT := (yX12_sumOf, prog_14_method_82_code, 9, some .int, 1, 3, 2, 12, [])
theorem mo_234 : mok mq_234 := ⟨by decide +kernel, ⟨by decide +kernel, by decide +kernel, by decide +kernel⟩, w_1632, w_96, fun h => absurd h (by decide), fun _ => ⟨w_1631, w_79⟩, fun h => absurd h (by decide), rfl⟩
def mq_235 : MT := (yX12_image, prog_14_method_84_code, 3, some .int, 1, 1, 2, 12, [])
theorem mo_235 : mok mq_235 := ⟨by decide +kernel, ⟨by decide +kernel, by decide +kernel, by decide +kernel⟩, w_1636, w_96, fun h => absurd h (by decide), fun _ => ⟨w_1634, w_1635⟩, fun h => absurd h (by decide), rfl⟩
def mq_236 : MT := (yX12_from, prog_14_method_85_code, 3, some .int, 1, 1, 2, 12, [])
theorem mo_236 : mok mq_236 := ⟨by decide +kernel, ⟨by decide +kernel, by decide +kernel, by decide +kernel⟩, w_1640, w_96, fun h => absurd h (by decide), fun _ => ⟨w_1638, w_1639⟩, fun h => absurd h (by decide), rfl⟩
def mq_237 : MT := (yX12_count, prog_14_method_87_code, 2, some .int, 1, 1, 6, 12, [])
theorem mo_237 : mok mq_237 := ⟨by decide +kernel, ⟨by decide +kernel, by decide +kernel, by decide +kernel⟩, w_1644, w_96, fun h => absurd h (by decide), fun _ => ⟨w_1642, w_1643⟩, fun h => absurd h (by decide), rfl⟩
def mq_238 : MT := (yX12_countOf, prog_14_method_86_code, 4, some .int, 1, 1, 5, 12, [])
theorem mo_238 : mok mq_238 := ⟨by decide +kernel, ⟨by decide +kernel, by decide +kernel, by decide +kernel⟩, w_1648, w_96, fun h => absurd h (by decide), fun _ => ⟨w_1647, w_80⟩, fun h => absurd h (by decide), rfl⟩
def mq_239 : MT := (yX12_digest, prog_14_method_89_code, 5, some .long, 1, 0, 6, 12, [1])
theorem mo_239 : mok mq_239 := ⟨by decide +kernel, ⟨by decide +kernel, by decide +kernel, by decide +kernel⟩, w_1652, w_96, fun h => absurd h (by decide), fun _ => ⟨w_1650, w_1651⟩, fun h => absurd h (by decide), rfl⟩
def mq_240 : MT := (yX12_mixed, prog_14_method_88_code, 8, some .long, 1, 3, 1, 12, [1, 5])
theorem mo_240 : mok mq_240 := ⟨by decide +kernel, ⟨by decide +kernel, by decide +kernel, by decide +kernel⟩, w_1658, w_96, fun h => absurd h (by decide), fun _ => ⟨w_1657, w_81⟩, fun h => absurd h (by decide), rfl⟩
def mq_241 : MT := (yJ6_bitCount_0f7a4, prog_16_method_49_code, 1, some .int, 0, 1, 1, 14, [])
theorem mo_241 : mok mq_241 := ⟨by decide +kernel, ⟨by decide +kernel, by decide +kernel, by decide +kernel⟩, w_669, w_97, fun _ => w_668, fun h => absurd h (by decide), fun h => absurd h (by decide), rfl⟩
def mq_242 : MT := (yJ0_length_8abf5, prog_18_method_54_code, 1, some .int, 1, 0, 2, 15, [])
theorem mo_242 : mok mq_242 := ⟨by decide +kernel, ⟨by decide +kernel, by decide +kernel, by decide +kernel⟩, w_793, w_98, fun h => absurd h (by decide), fun _ => ⟨w_791, w_792⟩, fun h => absurd h (by decide), rfl⟩
def mq_243 : MT := (yJ0_indexOf_0f7a4, prog_18_method_79_code, 2, some .int, 1, 1, 4, 15, [])
theorem mo_243 : mok mq_243 := ⟨by decide +kernel, ⟨by decide +kernel, by decide +kernel, by decide +kernel⟩, w_779, w_98, fun h => absurd h (by decide), fun _ => ⟨w_777, w_778⟩, fun h => absurd h (by decide), rfl⟩
def mq_244 : MT := (yJ0_indexOf_7cf53, prog_18_method_80_code, 3, some .int, 1, 2, 3, 15, [])
theorem mo_244 : mok mq_244 := ⟨by decide +kernel, ⟨by decide +kernel, by decide +kernel, by decide +kernel⟩, w_783, w_98, fun h => absurd h (by decide), fun _ => ⟨w_781, w_782⟩, fun h => absurd h (by decide), rfl⟩
def mq_245 : MT := (yJ0_coder_7d493, prog_18_method_152_code, 1, some .byte, 1, 0, 1, 15, [])
theorem mo_245 : mok mq_245 := ⟨by decide +kernel, ⟨by decide +kernel, by decide +kernel, by decide +kernel⟩, w_797, w_98, fun h => absurd h (by decide), fun _ => ⟨w_795, w_796⟩, fun h => absurd h (by decide), rfl⟩
def mq_246 : MT := (yJ0_isLatin1_aae02, prog_18_method_154_code, 1, some .boolean, 1, 0, 1, 15, [])
theorem mo_246 : mok mq_246 := ⟨by decide +kernel, ⟨by decide +kernel, by decide +kernel, by decide +kernel⟩, w_787, w_98, fun h => absurd h (by decide), fun _ => ⟨w_785, w_786⟩, fun h => absurd h (by decide), rfl⟩
def mq_247 : MT := (yJ1_canEncode_9a6ad, prog_19_method_4_code, 1, some .boolean, 0, 1, 1, 16, [])
theorem mo_247 : mok mq_247 := ⟨by decide +kernel, ⟨by decide +kernel, by decide +kernel, by decide +kernel⟩, w_803, w_99, fun _ => w_802, fun h => absurd h (by decide), fun h => absurd h (by decide), rfl⟩
def mq_248 : MT := (yJ1_indexOf_4cfef, prog_19_method_22_code, 4, some .int, 0, 4, 2, 16, [])
theorem mo_248 : mok mq_248 := ⟨by decide +kernel, ⟨by decide +kernel, by decide +kernel, by decide +kernel⟩, w_800, w_99, fun _ => w_799, fun h => absurd h (by decide), fun h => absurd h (by decide), rfl⟩
def mq_249 : MT := (yJ1_indexOfChar_4cfef, prog_19_method_23_code, 6, some .int, 0, 4, 1, 16, [])
theorem mo_249 : mok mq_249 := ⟨by decide +kernel, ⟨by decide +kernel, by decide +kernel, by decide +kernel⟩, w_808, w_99, fun _ => w_807, fun h => absurd h (by decide), fun h => absurd h (by decide), rfl⟩
def mq_250 : MT := (yX0_tryFrom, prog_2_method_6_code, 4, none, 1, 2, 16, 100, [])
theorem mo_250 : mok mq_250 := ⟨by decide +kernel, ⟨by decide +kernel, by decide +kernel, by decide +kernel⟩, w_965, w_92, fun h => absurd h (by decide), fun _ => ⟨w_964, w_32⟩, fun h => absurd h (by decide), rfl⟩
def mq_251 : MT := (yX0_tryFrom, prog_2_method_6_code, 4, none, 1, 2, 15, 101, [])
theorem mo_251 : mok mq_251 := ⟨by decide +kernel, ⟨by decide +kernel, by decide +kernel, by decide +kernel⟩, w_965, w_92, fun h => absurd h (by decide), fun _ => ⟨w_964, w_32⟩, fun h => absurd h (by decide), rfl⟩
def mq_252 : MT := (yX0_tryFrom, prog_2_method_6_code, 4, none, 1, 2, 14, 102, [])
theorem mo_252 : mok mq_252 := ⟨by decide +kernel, ⟨by decide +kernel, by decide +kernel, by decide +kernel⟩, w_965, w_92, fun h => absurd h (by decide), fun _ => ⟨w_964, w_32⟩, fun h => absurd h (by decide), rfl⟩
def mq_253 : MT := (yX0_tryFrom, prog_2_method_6_code, 4, none, 1, 2, 13, 103, [])
theorem mo_253 : mok mq_253 := ⟨by decide +kernel, ⟨by decide +kernel, by decide +kernel, by decide +kernel⟩, w_965, w_92, fun h => absurd h (by decide), fun _ => ⟨w_964, w_32⟩, fun h => absurd h (by decide), rfl⟩
def mq_254 : MT := (yX0_tryFrom, prog_2_method_6_code, 4, none, 1, 2, 12, 104, [])
theorem mo_254 : mok mq_254 := ⟨by decide +kernel, ⟨by decide +kernel, by decide +kernel, by decide +kernel⟩, w_965, w_92, fun h => absurd h (by decide), fun _ => ⟨w_964, w_32⟩, fun h => absurd h (by decide), rfl⟩
def mq_255 : MT := (yX0_tryFrom, prog_2_method_6_code, 4, none, 1, 2, 11, 105, [])
theorem mo_255 : mok mq_255 := ⟨by decide +kernel, ⟨by decide +kernel, by decide +kernel, by decide +kernel⟩, w_965, w_92, fun h => absurd h (by decide), fun _ => ⟨w_964, w_32⟩, fun h => absurd h (by decide), rfl⟩
def mq_256 : MT := (yX0_tryFrom, prog_2_method_6_code, 4, none, 1, 2, 10, 106, [])
theorem mo_256 : mok mq_256 := ⟨by decide +kernel, ⟨by decide +kernel, by decide +kernel, by decide +kernel⟩, w_965, w_92, fun h => absurd h (by decide), fun _ => ⟨w_964, w_32⟩, fun h => absurd h (by decide), rfl⟩
def mq_257 : MT := (yX0_tryFrom, prog_2_method_6_code, 4, none, 1, 2, 9, 107, [])
theorem mo_257 : mok mq_257 := ⟨by decide +kernel, ⟨by decide +kernel, by decide +kernel, by decide +kernel⟩, w_965, w_92, fun h => absurd h (by decide), fun _ => ⟨w_964, w_32⟩, fun h => absurd h (by decide), rfl⟩
def mq_258 : MT := (yX0_tryFrom, prog_2_method_6_code, 4, none, 1, 2, 8, 108, [])
theorem mo_258 : mok mq_258 := ⟨by decide +kernel, ⟨by decide +kernel, by decide +kernel, by decide +kernel⟩, w_965, w_92, fun h => absurd h (by decide), fun _ => ⟨w_964, w_32⟩, fun h => absurd h (by decide), rfl⟩
def mq_259 : MT := (yX0_tryFrom, prog_2_method_6_code, 4, none, 1, 2, 7, 109, [])
theorem mo_259 : mok mq_259 := ⟨by decide +kernel, ⟨by decide +kernel, by decide +kernel, by decide +kernel⟩, w_965, w_92, fun h => absurd h (by decide), fun _ => ⟨w_964, w_32⟩, fun h => absurd h (by decide), rfl⟩
def mq_260 : MT := (yX0_tryFrom, prog_2_method_6_code, 4, none, 1, 2, 6, 110, [])
theorem mo_260 : mok mq_260 := ⟨by decide +kernel, ⟨by decide +kernel, by decide +kernel, by decide +kernel⟩, w_965, w_92, fun h => absurd h (by decide), fun _ => ⟨w_964, w_32⟩, fun h => absurd h (by decide), rfl⟩
def mq_261 : MT := (yX0_tryFrom, prog_2_method_6_code, 4, none, 1, 2, 5, 111, [])
theorem mo_261 : mok mq_261 := ⟨by decide +kernel, ⟨by decide +kernel, by decide +kernel, by decide +kernel⟩, w_965, w_92, fun h => absurd h (by decide), fun _ => ⟨w_964, w_32⟩, fun h => absurd h (by decide), rfl⟩
def mq_262 : MT := (yX0_tryFrom, prog_2_method_6_code, 4, none, 1, 2, 4, 112, [])
theorem mo_262 : mok mq_262 := ⟨by decide +kernel, ⟨by decide +kernel, by decide +kernel, by decide +kernel⟩, w_965, w_92, fun h => absurd h (by decide), fun _ => ⟨w_964, w_32⟩, fun h => absurd h (by decide), rfl⟩
def mq_263 : MT := (yL_law, code, 4, some .boolean, 0, 1, 19, 13, [])
def mtab_0 : List MT := [mq_0, mq_1, mq_2, mq_3, mq_4, mq_5, mq_6, mq_7, mq_8, mq_9, mq_10, mq_11, mq_12, mq_13, mq_14, mq_15]
theorem mtab_0_ok : ∀ q ∈ mtab_0, mok q := List.forall_mem_cons.mpr ⟨mo_0, List.forall_mem_cons.mpr ⟨mo_1, List.forall_mem_cons.mpr ⟨mo_2, List.forall_mem_cons.mpr ⟨mo_3, List.forall_mem_cons.mpr ⟨mo_4, List.forall_mem_cons.mpr ⟨mo_5, List.forall_mem_cons.mpr ⟨mo_6, List.forall_mem_cons.mpr ⟨mo_7, List.forall_mem_cons.mpr ⟨mo_8, List.forall_mem_cons.mpr ⟨mo_9, List.forall_mem_cons.mpr ⟨mo_10, List.forall_mem_cons.mpr ⟨mo_11, List.forall_mem_cons.mpr ⟨mo_12, List.forall_mem_cons.mpr ⟨mo_13, List.forall_mem_cons.mpr ⟨mo_14, List.forall_mem_cons.mpr ⟨mo_15, fun _ h => absurd h List.not_mem_nil⟩⟩⟩⟩⟩⟩⟩⟩⟩⟩⟩⟩⟩⟩⟩⟩
def mtab_1 : List MT := [mq_16, mq_17, mq_18, mq_19, mq_20, mq_21, mq_22, mq_23, mq_24, mq_25, mq_26, mq_27, mq_28, mq_29, mq_30, mq_31]
theorem mtab_1_ok : ∀ q ∈ mtab_1, mok q := List.forall_mem_cons.mpr ⟨mo_16, List.forall_mem_cons.mpr ⟨mo_17, List.forall_mem_cons.mpr ⟨mo_18, List.forall_mem_cons.mpr ⟨mo_19, List.forall_mem_cons.mpr ⟨mo_20, List.forall_mem_cons.mpr ⟨mo_21, List.forall_mem_cons.mpr ⟨mo_22, List.forall_mem_cons.mpr ⟨mo_23, List.forall_mem_cons.mpr ⟨mo_24, List.forall_mem_cons.mpr ⟨mo_25, List.forall_mem_cons.mpr ⟨mo_26, List.forall_mem_cons.mpr ⟨mo_27, List.forall_mem_cons.mpr ⟨mo_28, List.forall_mem_cons.mpr ⟨mo_29, List.forall_mem_cons.mpr ⟨mo_30, List.forall_mem_cons.mpr ⟨mo_31, fun _ h => absurd h List.not_mem_nil⟩⟩⟩⟩⟩⟩⟩⟩⟩⟩⟩⟩⟩⟩⟩⟩
def mtab_2 : List MT := [mq_32, mq_33, mq_34, mq_35, mq_36, mq_37, mq_38, mq_39, mq_40, mq_41, mq_42, mq_43, mq_44, mq_45, mq_46, mq_47]
theorem mtab_2_ok : ∀ q ∈ mtab_2, mok q := List.forall_mem_cons.mpr ⟨mo_32, List.forall_mem_cons.mpr ⟨mo_33, List.forall_mem_cons.mpr ⟨mo_34, List.forall_mem_cons.mpr ⟨mo_35, List.forall_mem_cons.mpr ⟨mo_36, List.forall_mem_cons.mpr ⟨mo_37, List.forall_mem_cons.mpr ⟨mo_38, List.forall_mem_cons.mpr ⟨mo_39, List.forall_mem_cons.mpr ⟨mo_40, List.forall_mem_cons.mpr ⟨mo_41, List.forall_mem_cons.mpr ⟨mo_42, List.forall_mem_cons.mpr ⟨mo_43, List.forall_mem_cons.mpr ⟨mo_44, List.forall_mem_cons.mpr ⟨mo_45, List.forall_mem_cons.mpr ⟨mo_46, List.forall_mem_cons.mpr ⟨mo_47, fun _ h => absurd h List.not_mem_nil⟩⟩⟩⟩⟩⟩⟩⟩⟩⟩⟩⟩⟩⟩⟩⟩
def mtab_3 : List MT := [mq_48, mq_49, mq_50, mq_51, mq_52, mq_53, mq_54, mq_55, mq_56, mq_57, mq_58, mq_59, mq_60, mq_61, mq_62, mq_63]
theorem mtab_3_ok : ∀ q ∈ mtab_3, mok q := List.forall_mem_cons.mpr ⟨mo_48, List.forall_mem_cons.mpr ⟨mo_49, List.forall_mem_cons.mpr ⟨mo_50, List.forall_mem_cons.mpr ⟨mo_51, List.forall_mem_cons.mpr ⟨mo_52, List.forall_mem_cons.mpr ⟨mo_53, List.forall_mem_cons.mpr ⟨mo_54, List.forall_mem_cons.mpr ⟨mo_55, List.forall_mem_cons.mpr ⟨mo_56, List.forall_mem_cons.mpr ⟨mo_57, List.forall_mem_cons.mpr ⟨mo_58, List.forall_mem_cons.mpr ⟨mo_59, List.forall_mem_cons.mpr ⟨mo_60, List.forall_mem_cons.mpr ⟨mo_61, List.forall_mem_cons.mpr ⟨mo_62, List.forall_mem_cons.mpr ⟨mo_63, fun _ h => absurd h List.not_mem_nil⟩⟩⟩⟩⟩⟩⟩⟩⟩⟩⟩⟩⟩⟩⟩⟩
def mtab_4 : List MT := [mq_64, mq_65, mq_66, mq_67, mq_68, mq_69, mq_70, mq_71, mq_72, mq_73, mq_74, mq_75, mq_76, mq_77, mq_78, mq_79]
theorem mtab_4_ok : ∀ q ∈ mtab_4, mok q := List.forall_mem_cons.mpr ⟨mo_64, List.forall_mem_cons.mpr ⟨mo_65, List.forall_mem_cons.mpr ⟨mo_66, List.forall_mem_cons.mpr ⟨mo_67, List.forall_mem_cons.mpr ⟨mo_68, List.forall_mem_cons.mpr ⟨mo_69, List.forall_mem_cons.mpr ⟨mo_70, List.forall_mem_cons.mpr ⟨mo_71, List.forall_mem_cons.mpr ⟨mo_72, List.forall_mem_cons.mpr ⟨mo_73, List.forall_mem_cons.mpr ⟨mo_74, List.forall_mem_cons.mpr ⟨mo_75, List.forall_mem_cons.mpr ⟨mo_76, List.forall_mem_cons.mpr ⟨mo_77, List.forall_mem_cons.mpr ⟨mo_78, List.forall_mem_cons.mpr ⟨mo_79, fun _ h => absurd h List.not_mem_nil⟩⟩⟩⟩⟩⟩⟩⟩⟩⟩⟩⟩⟩⟩⟩⟩
def mtab_5 : List MT := [mq_80, mq_81, mq_82, mq_83, mq_84, mq_85, mq_86, mq_87, mq_88, mq_89, mq_90, mq_91, mq_92, mq_93, mq_94, mq_95]
theorem mtab_5_ok : ∀ q ∈ mtab_5, mok q := List.forall_mem_cons.mpr ⟨mo_80, List.forall_mem_cons.mpr ⟨mo_81, List.forall_mem_cons.mpr ⟨mo_82, List.forall_mem_cons.mpr ⟨mo_83, List.forall_mem_cons.mpr ⟨mo_84, List.forall_mem_cons.mpr ⟨mo_85, List.forall_mem_cons.mpr ⟨mo_86, List.forall_mem_cons.mpr ⟨mo_87, List.forall_mem_cons.mpr ⟨mo_88, List.forall_mem_cons.mpr ⟨mo_89, List.forall_mem_cons.mpr ⟨mo_90, List.forall_mem_cons.mpr ⟨mo_91, List.forall_mem_cons.mpr ⟨mo_92, List.forall_mem_cons.mpr ⟨mo_93, List.forall_mem_cons.mpr ⟨mo_94, List.forall_mem_cons.mpr ⟨mo_95, fun _ h => absurd h List.not_mem_nil⟩⟩⟩⟩⟩⟩⟩⟩⟩⟩⟩⟩⟩⟩⟩⟩
def mtab_6 : List MT := [mq_96, mq_97, mq_98, mq_99, mq_100, mq_101, mq_102, mq_103, mq_104, mq_105, mq_106, mq_107, mq_108, mq_109, mq_110, mq_111]
theorem mtab_6_ok : ∀ q ∈ mtab_6, mok q := List.forall_mem_cons.mpr ⟨mo_96, List.forall_mem_cons.mpr ⟨mo_97, List.forall_mem_cons.mpr ⟨mo_98, List.forall_mem_cons.mpr ⟨mo_99, List.forall_mem_cons.mpr ⟨mo_100, List.forall_mem_cons.mpr ⟨mo_101, List.forall_mem_cons.mpr ⟨mo_102, List.forall_mem_cons.mpr ⟨mo_103, List.forall_mem_cons.mpr ⟨mo_104, List.forall_mem_cons.mpr ⟨mo_105, List.forall_mem_cons.mpr ⟨mo_106, List.forall_mem_cons.mpr ⟨mo_107, List.forall_mem_cons.mpr ⟨mo_108, List.forall_mem_cons.mpr ⟨mo_109, List.forall_mem_cons.mpr ⟨mo_110, List.forall_mem_cons.mpr ⟨mo_111, fun _ h => absurd h List.not_mem_nil⟩⟩⟩⟩⟩⟩⟩⟩⟩⟩⟩⟩⟩⟩⟩⟩
def mtab_7 : List MT := [mq_112, mq_113, mq_114, mq_115, mq_116, mq_117, mq_118, mq_119, mq_120, mq_121, mq_122, mq_123, mq_124, mq_125, mq_126, mq_127]
theorem mtab_7_ok : ∀ q ∈ mtab_7, mok q := List.forall_mem_cons.mpr ⟨mo_112, List.forall_mem_cons.mpr ⟨mo_113, List.forall_mem_cons.mpr ⟨mo_114, List.forall_mem_cons.mpr ⟨mo_115, List.forall_mem_cons.mpr ⟨mo_116, List.forall_mem_cons.mpr ⟨mo_117, List.forall_mem_cons.mpr ⟨mo_118, List.forall_mem_cons.mpr ⟨mo_119, List.forall_mem_cons.mpr ⟨mo_120, List.forall_mem_cons.mpr ⟨mo_121, List.forall_mem_cons.mpr ⟨mo_122, List.forall_mem_cons.mpr ⟨mo_123, List.forall_mem_cons.mpr ⟨mo_124, List.forall_mem_cons.mpr ⟨mo_125, List.forall_mem_cons.mpr ⟨mo_126, List.forall_mem_cons.mpr ⟨mo_127, fun _ h => absurd h List.not_mem_nil⟩⟩⟩⟩⟩⟩⟩⟩⟩⟩⟩⟩⟩⟩⟩⟩
def mtab_8 : List MT := [mq_128, mq_129, mq_130, mq_131, mq_132, mq_133, mq_134, mq_135, mq_136, mq_137, mq_138, mq_139, mq_140, mq_141, mq_142, mq_143]
theorem mtab_8_ok : ∀ q ∈ mtab_8, mok q := List.forall_mem_cons.mpr ⟨mo_128, List.forall_mem_cons.mpr ⟨mo_129, List.forall_mem_cons.mpr ⟨mo_130, List.forall_mem_cons.mpr ⟨mo_131, List.forall_mem_cons.mpr ⟨mo_132, List.forall_mem_cons.mpr ⟨mo_133, List.forall_mem_cons.mpr ⟨mo_134, List.forall_mem_cons.mpr ⟨mo_135, List.forall_mem_cons.mpr ⟨mo_136, List.forall_mem_cons.mpr ⟨mo_137, List.forall_mem_cons.mpr ⟨mo_138, List.forall_mem_cons.mpr ⟨mo_139, List.forall_mem_cons.mpr ⟨mo_140, List.forall_mem_cons.mpr ⟨mo_141, List.forall_mem_cons.mpr ⟨mo_142, List.forall_mem_cons.mpr ⟨mo_143, fun _ h => absurd h List.not_mem_nil⟩⟩⟩⟩⟩⟩⟩⟩⟩⟩⟩⟩⟩⟩⟩⟩
def mtab_9 : List MT := [mq_144, mq_145, mq_146, mq_147, mq_148, mq_149, mq_150, mq_151, mq_152, mq_153, mq_154, mq_155, mq_156, mq_157, mq_158, mq_159]
theorem mtab_9_ok : ∀ q ∈ mtab_9, mok q := List.forall_mem_cons.mpr ⟨mo_144, List.forall_mem_cons.mpr ⟨mo_145, List.forall_mem_cons.mpr ⟨mo_146, List.forall_mem_cons.mpr ⟨mo_147, List.forall_mem_cons.mpr ⟨mo_148, List.forall_mem_cons.mpr ⟨mo_149, List.forall_mem_cons.mpr ⟨mo_150, List.forall_mem_cons.mpr ⟨mo_151, List.forall_mem_cons.mpr ⟨mo_152, List.forall_mem_cons.mpr ⟨mo_153, List.forall_mem_cons.mpr ⟨mo_154, List.forall_mem_cons.mpr ⟨mo_155, List.forall_mem_cons.mpr ⟨mo_156, List.forall_mem_cons.mpr ⟨mo_157, List.forall_mem_cons.mpr ⟨mo_158, List.forall_mem_cons.mpr ⟨mo_159, fun _ h => absurd h List.not_mem_nil⟩⟩⟩⟩⟩⟩⟩⟩⟩⟩⟩⟩⟩⟩⟩⟩
def mtab_10 : List MT := [mq_160, mq_161, mq_162, mq_163, mq_164, mq_165, mq_166, mq_167, mq_168, mq_169, mq_170, mq_171, mq_172, mq_173, mq_174, mq_175]
theorem mtab_10_ok : ∀ q ∈ mtab_10, mok q := List.forall_mem_cons.mpr ⟨mo_160, List.forall_mem_cons.mpr ⟨mo_161, List.forall_mem_cons.mpr ⟨mo_162, List.forall_mem_cons.mpr ⟨mo_163, List.forall_mem_cons.mpr ⟨mo_164, List.forall_mem_cons.mpr ⟨mo_165, List.forall_mem_cons.mpr ⟨mo_166, List.forall_mem_cons.mpr ⟨mo_167, List.forall_mem_cons.mpr ⟨mo_168, List.forall_mem_cons.mpr ⟨mo_169, List.forall_mem_cons.mpr ⟨mo_170, List.forall_mem_cons.mpr ⟨mo_171, List.forall_mem_cons.mpr ⟨mo_172, List.forall_mem_cons.mpr ⟨mo_173, List.forall_mem_cons.mpr ⟨mo_174, List.forall_mem_cons.mpr ⟨mo_175, fun _ h => absurd h List.not_mem_nil⟩⟩⟩⟩⟩⟩⟩⟩⟩⟩⟩⟩⟩⟩⟩⟩
def mtab_11 : List MT := [mq_176, mq_177, mq_178, mq_179, mq_180, mq_181, mq_182, mq_183, mq_184, mq_185, mq_186, mq_187, mq_188, mq_189, mq_190, mq_191]
theorem mtab_11_ok : ∀ q ∈ mtab_11, mok q := List.forall_mem_cons.mpr ⟨mo_176, List.forall_mem_cons.mpr ⟨mo_177, List.forall_mem_cons.mpr ⟨mo_178, List.forall_mem_cons.mpr ⟨mo_179, List.forall_mem_cons.mpr ⟨mo_180, List.forall_mem_cons.mpr ⟨mo_181, List.forall_mem_cons.mpr ⟨mo_182, List.forall_mem_cons.mpr ⟨mo_183, List.forall_mem_cons.mpr ⟨mo_184, List.forall_mem_cons.mpr ⟨mo_185, List.forall_mem_cons.mpr ⟨mo_186, List.forall_mem_cons.mpr ⟨mo_187, List.forall_mem_cons.mpr ⟨mo_188, List.forall_mem_cons.mpr ⟨mo_189, List.forall_mem_cons.mpr ⟨mo_190, List.forall_mem_cons.mpr ⟨mo_191, fun _ h => absurd h List.not_mem_nil⟩⟩⟩⟩⟩⟩⟩⟩⟩⟩⟩⟩⟩⟩⟩⟩
def mtab_12 : List MT := [mq_192, mq_193, mq_194, mq_195, mq_196, mq_197, mq_198, mq_199, mq_200, mq_201, mq_202, mq_203, mq_204, mq_205, mq_206, mq_207]
theorem mtab_12_ok : ∀ q ∈ mtab_12, mok q := List.forall_mem_cons.mpr ⟨mo_192, List.forall_mem_cons.mpr ⟨mo_193, List.forall_mem_cons.mpr ⟨mo_194, List.forall_mem_cons.mpr ⟨mo_195, List.forall_mem_cons.mpr ⟨mo_196, List.forall_mem_cons.mpr ⟨mo_197, List.forall_mem_cons.mpr ⟨mo_198, List.forall_mem_cons.mpr ⟨mo_199, List.forall_mem_cons.mpr ⟨mo_200, List.forall_mem_cons.mpr ⟨mo_201, List.forall_mem_cons.mpr ⟨mo_202, List.forall_mem_cons.mpr ⟨mo_203, List.forall_mem_cons.mpr ⟨mo_204, List.forall_mem_cons.mpr ⟨mo_205, List.forall_mem_cons.mpr ⟨mo_206, List.forall_mem_cons.mpr ⟨mo_207, fun _ h => absurd h List.not_mem_nil⟩⟩⟩⟩⟩⟩⟩⟩⟩⟩⟩⟩⟩⟩⟩⟩
def mtab_13 : List MT := [mq_208, mq_209, mq_210, mq_211, mq_212, mq_213, mq_214, mq_215, mq_216, mq_217, mq_218, mq_219, mq_220, mq_221, mq_222, mq_223]
theorem mtab_13_ok : ∀ q ∈ mtab_13, mok q := List.forall_mem_cons.mpr ⟨mo_208, List.forall_mem_cons.mpr ⟨mo_209, List.forall_mem_cons.mpr ⟨mo_210, List.forall_mem_cons.mpr ⟨mo_211, List.forall_mem_cons.mpr ⟨mo_212, List.forall_mem_cons.mpr ⟨mo_213, List.forall_mem_cons.mpr ⟨mo_214, List.forall_mem_cons.mpr ⟨mo_215, List.forall_mem_cons.mpr ⟨mo_216, List.forall_mem_cons.mpr ⟨mo_217, List.forall_mem_cons.mpr ⟨mo_218, List.forall_mem_cons.mpr ⟨mo_219, List.forall_mem_cons.mpr ⟨mo_220, List.forall_mem_cons.mpr ⟨mo_221, List.forall_mem_cons.mpr ⟨mo_222, List.forall_mem_cons.mpr ⟨mo_223, fun _ h => absurd h List.not_mem_nil⟩⟩⟩⟩⟩⟩⟩⟩⟩⟩⟩⟩⟩⟩⟩⟩
def mtab_14 : List MT := [mq_224, mq_225, mq_226, mq_227, mq_228, mq_229, mq_230, mq_231, mq_232, mq_233, mq_234, mq_235, mq_236, mq_237, mq_238, mq_239]
theorem mtab_14_ok : ∀ q ∈ mtab_14, mok q := List.forall_mem_cons.mpr ⟨mo_224, List.forall_mem_cons.mpr ⟨mo_225, List.forall_mem_cons.mpr ⟨mo_226, List.forall_mem_cons.mpr ⟨mo_227, List.forall_mem_cons.mpr ⟨mo_228, List.forall_mem_cons.mpr ⟨mo_229, List.forall_mem_cons.mpr ⟨mo_230, List.forall_mem_cons.mpr ⟨mo_231, List.forall_mem_cons.mpr ⟨mo_232, List.forall_mem_cons.mpr ⟨mo_233, List.forall_mem_cons.mpr ⟨mo_234, List.forall_mem_cons.mpr ⟨mo_235, List.forall_mem_cons.mpr ⟨mo_236, List.forall_mem_cons.mpr ⟨mo_237, List.forall_mem_cons.mpr ⟨mo_238, List.forall_mem_cons.mpr ⟨mo_239, fun _ h => absurd h List.not_mem_nil⟩⟩⟩⟩⟩⟩⟩⟩⟩⟩⟩⟩⟩⟩⟩⟩
def mtab_15 : List MT := [mq_240, mq_241, mq_242, mq_243, mq_244, mq_245, mq_246, mq_247, mq_248, mq_249, mq_250, mq_251, mq_252, mq_253, mq_254, mq_255]
theorem mtab_15_ok : ∀ q ∈ mtab_15, mok q := List.forall_mem_cons.mpr ⟨mo_240, List.forall_mem_cons.mpr ⟨mo_241, List.forall_mem_cons.mpr ⟨mo_242, List.forall_mem_cons.mpr ⟨mo_243, List.forall_mem_cons.mpr ⟨mo_244, List.forall_mem_cons.mpr ⟨mo_245, List.forall_mem_cons.mpr ⟨mo_246, List.forall_mem_cons.mpr ⟨mo_247, List.forall_mem_cons.mpr ⟨mo_248, List.forall_mem_cons.mpr ⟨mo_249, List.forall_mem_cons.mpr ⟨mo_250, List.forall_mem_cons.mpr ⟨mo_251, List.forall_mem_cons.mpr ⟨mo_252, List.forall_mem_cons.mpr ⟨mo_253, List.forall_mem_cons.mpr ⟨mo_254, List.forall_mem_cons.mpr ⟨mo_255, fun _ h => absurd h List.not_mem_nil⟩⟩⟩⟩⟩⟩⟩⟩⟩⟩⟩⟩⟩⟩⟩⟩
def mtab_16 : List MT := [mq_256, mq_257, mq_258, mq_259, mq_260, mq_261, mq_262]
theorem mtab_16_ok : ∀ q ∈ mtab_16, mok q := List.forall_mem_cons.mpr ⟨mo_256, List.forall_mem_cons.mpr ⟨mo_257, List.forall_mem_cons.mpr ⟨mo_258, List.forall_mem_cons.mpr ⟨mo_259, List.forall_mem_cons.mpr ⟨mo_260, List.forall_mem_cons.mpr ⟨mo_261, List.forall_mem_cons.mpr ⟨mo_262, fun _ h => absurd h List.not_mem_nil⟩⟩⟩⟩⟩⟩⟩
def mtab : List MT := mtab_0 ++ (mtab_1 ++ (mtab_2 ++ (mtab_3 ++ (mtab_4 ++ (mtab_5 ++ (mtab_6 ++ (mtab_7 ++ (mtab_8 ++ (mtab_9 ++ (mtab_10 ++ (mtab_11 ++ (mtab_12 ++ (mtab_13 ++ (mtab_14 ++ (mtab_15 ++ (mtab_16))))))))))))))))
theorem mtab_ok : ∀ q ∈ mtab, mok q := List.forall_mem_append.mpr ⟨mtab_0_ok, List.forall_mem_append.mpr ⟨mtab_1_ok, List.forall_mem_append.mpr ⟨mtab_2_ok, List.forall_mem_append.mpr ⟨mtab_3_ok, List.forall_mem_append.mpr ⟨mtab_4_ok, List.forall_mem_append.mpr ⟨mtab_5_ok, List.forall_mem_append.mpr ⟨mtab_6_ok, List.forall_mem_append.mpr ⟨mtab_7_ok, List.forall_mem_append.mpr ⟨mtab_8_ok, List.forall_mem_append.mpr ⟨mtab_9_ok, List.forall_mem_append.mpr ⟨mtab_10_ok, List.forall_mem_append.mpr ⟨mtab_11_ok, List.forall_mem_append.mpr ⟨mtab_12_ok, List.forall_mem_append.mpr ⟨mtab_13_ok, List.forall_mem_append.mpr ⟨mtab_14_ok, List.forall_mem_append.mpr ⟨mtab_15_ok, mtab_16_ok⟩⟩⟩⟩⟩⟩⟩⟩⟩⟩⟩⟩⟩⟩⟩⟩
def mq (j : Nat) : MT := if j = 263 then mq_263 else mtab.getD j mq_0
theorem mtab_len : mtab.length = 263 := by decide +kernel
theorem me_0 : mq 0 = mq_0 := rfl
theorem me_1 : mq 1 = mq_1 := rfl
theorem me_2 : mq 2 = mq_2 := rfl
theorem me_3 : mq 3 = mq_3 := rfl
theorem me_4 : mq 4 = mq_4 := rfl
theorem me_5 : mq 5 = mq_5 := rfl
theorem me_6 : mq 6 = mq_6 := rfl
theorem me_7 : mq 7 = mq_7 := rfl
theorem me_8 : mq 8 = mq_8 := rfl
theorem me_9 : mq 9 = mq_9 := rfl
theorem me_10 : mq 10 = mq_10 := rfl
theorem me_11 : mq 11 = mq_11 := rfl
theorem me_12 : mq 12 = mq_12 := rfl
theorem me_13 : mq 13 = mq_13 := rfl
theorem me_14 : mq 14 = mq_14 := rfl
theorem me_15 : mq 15 = mq_15 := rfl
theorem me_16 : mq 16 = mq_16 := rfl
theorem me_17 : mq 17 = mq_17 := rfl
theorem me_18 : mq 18 = mq_18 := rfl
theorem me_19 : mq 19 = mq_19 := rfl
theorem me_20 : mq 20 = mq_20 := rfl
theorem me_21 : mq 21 = mq_21 := rfl
theorem me_22 : mq 22 = mq_22 := rfl
theorem me_23 : mq 23 = mq_23 := rfl
theorem me_24 : mq 24 = mq_24 := rfl
theorem me_25 : mq 25 = mq_25 := rfl
theorem me_26 : mq 26 = mq_26 := rfl
theorem me_27 : mq 27 = mq_27 := rfl
theorem me_28 : mq 28 = mq_28 := rfl
theorem me_29 : mq 29 = mq_29 := rfl
theorem me_30 : mq 30 = mq_30 := rfl
theorem me_31 : mq 31 = mq_31 := rfl
theorem me_32 : mq 32 = mq_32 := rfl
theorem me_33 : mq 33 = mq_33 := rfl
theorem me_34 : mq 34 = mq_34 := rfl
theorem me_35 : mq 35 = mq_35 := rfl
theorem me_36 : mq 36 = mq_36 := rfl
theorem me_37 : mq 37 = mq_37 := rfl
theorem me_38 : mq 38 = mq_38 := rfl
theorem me_39 : mq 39 = mq_39 := rfl
theorem me_40 : mq 40 = mq_40 := rfl
theorem me_41 : mq 41 = mq_41 := rfl
theorem me_42 : mq 42 = mq_42 := rfl
theorem me_43 : mq 43 = mq_43 := rfl
theorem me_44 : mq 44 = mq_44 := rfl
theorem me_45 : mq 45 = mq_45 := rfl
theorem me_46 : mq 46 = mq_46 := rfl
theorem me_47 : mq 47 = mq_47 := rfl
theorem me_48 : mq 48 = mq_48 := rfl
theorem me_49 : mq 49 = mq_49 := rfl
theorem me_50 : mq 50 = mq_50 := rfl
theorem me_51 : mq 51 = mq_51 := rfl
theorem me_52 : mq 52 = mq_52 := rfl
theorem me_53 : mq 53 = mq_53 := rfl
theorem me_54 : mq 54 = mq_54 := rfl
theorem me_55 : mq 55 = mq_55 := rfl
theorem me_56 : mq 56 = mq_56 := rfl
theorem me_57 : mq 57 = mq_57 := rfl
theorem me_58 : mq 58 = mq_58 := rfl
theorem me_59 : mq 59 = mq_59 := rfl
theorem me_60 : mq 60 = mq_60 := rfl
theorem me_61 : mq 61 = mq_61 := rfl
theorem me_62 : mq 62 = mq_62 := rfl
theorem me_63 : mq 63 = mq_63 := rfl
theorem me_64 : mq 64 = mq_64 := rfl
theorem me_65 : mq 65 = mq_65 := rfl
theorem me_66 : mq 66 = mq_66 := rfl
theorem me_67 : mq 67 = mq_67 := rfl
theorem me_68 : mq 68 = mq_68 := rfl
theorem me_69 : mq 69 = mq_69 := rfl
theorem me_70 : mq 70 = mq_70 := rfl
theorem me_71 : mq 71 = mq_71 := rfl
theorem me_72 : mq 72 = mq_72 := rfl
theorem me_73 : mq 73 = mq_73 := rfl
theorem me_74 : mq 74 = mq_74 := rfl
theorem me_75 : mq 75 = mq_75 := rfl
theorem me_76 : mq 76 = mq_76 := rfl
theorem me_77 : mq 77 = mq_77 := rfl
theorem me_78 : mq 78 = mq_78 := rfl
theorem me_79 : mq 79 = mq_79 := rfl
theorem me_80 : mq 80 = mq_80 := rfl
theorem me_81 : mq 81 = mq_81 := rfl
theorem me_82 : mq 82 = mq_82 := rfl
theorem me_83 : mq 83 = mq_83 := rfl
theorem me_84 : mq 84 = mq_84 := rfl
theorem me_85 : mq 85 = mq_85 := rfl
theorem me_86 : mq 86 = mq_86 := rfl
theorem me_87 : mq 87 = mq_87 := rfl
theorem me_88 : mq 88 = mq_88 := rfl
theorem me_89 : mq 89 = mq_89 := rfl
theorem me_90 : mq 90 = mq_90 := rfl
theorem me_91 : mq 91 = mq_91 := rfl
theorem me_92 : mq 92 = mq_92 := rfl
theorem me_93 : mq 93 = mq_93 := rfl
theorem me_94 : mq 94 = mq_94 := rfl
theorem me_95 : mq 95 = mq_95 := rfl
theorem me_96 : mq 96 = mq_96 := rfl
theorem me_97 : mq 97 = mq_97 := rfl
theorem me_98 : mq 98 = mq_98 := rfl
theorem me_99 : mq 99 = mq_99 := rfl
theorem me_100 : mq 100 = mq_100 := rfl
theorem me_101 : mq 101 = mq_101 := rfl
theorem me_102 : mq 102 = mq_102 := rfl
theorem me_103 : mq 103 = mq_103 := rfl
theorem me_104 : mq 104 = mq_104 := rfl
theorem me_105 : mq 105 = mq_105 := rfl
theorem me_106 : mq 106 = mq_106 := rfl
theorem me_107 : mq 107 = mq_107 := rfl
theorem me_108 : mq 108 = mq_108 := rfl
theorem me_109 : mq 109 = mq_109 := rfl
theorem me_110 : mq 110 = mq_110 := rfl
theorem me_111 : mq 111 = mq_111 := rfl
theorem me_112 : mq 112 = mq_112 := rfl
theorem me_113 : mq 113 = mq_113 := rfl
theorem me_114 : mq 114 = mq_114 := rfl
theorem me_115 : mq 115 = mq_115 := rfl
theorem me_116 : mq 116 = mq_116 := rfl
theorem me_117 : mq 117 = mq_117 := rfl
theorem me_118 : mq 118 = mq_118 := rfl
theorem me_119 : mq 119 = mq_119 := rfl
theorem me_120 : mq 120 = mq_120 := rfl
theorem me_121 : mq 121 = mq_121 := rfl
theorem me_122 : mq 122 = mq_122 := rfl
theorem me_123 : mq 123 = mq_123 := rfl
theorem me_124 : mq 124 = mq_124 := rfl
theorem me_125 : mq 125 = mq_125 := rfl
theorem me_126 : mq 126 = mq_126 := rfl
theorem me_127 : mq 127 = mq_127 := rfl
theorem me_128 : mq 128 = mq_128 := rfl
theorem me_129 : mq 129 = mq_129 := rfl
theorem me_130 : mq 130 = mq_130 := rfl
theorem me_131 : mq 131 = mq_131 := rfl
theorem me_132 : mq 132 = mq_132 := rfl
theorem me_133 : mq 133 = mq_133 := rfl
theorem me_134 : mq 134 = mq_134 := rfl
theorem me_135 : mq 135 = mq_135 := rfl
theorem me_136 : mq 136 = mq_136 := rfl
theorem me_137 : mq 137 = mq_137 := rfl
theorem me_138 : mq 138 = mq_138 := rfl
theorem me_139 : mq 139 = mq_139 := rfl
theorem me_140 : mq 140 = mq_140 := rfl
theorem me_141 : mq 141 = mq_141 := rfl
theorem me_142 : mq 142 = mq_142 := rfl
theorem me_143 : mq 143 = mq_143 := rfl
theorem me_144 : mq 144 = mq_144 := rfl
theorem me_145 : mq 145 = mq_145 := rfl
theorem me_146 : mq 146 = mq_146 := rfl
theorem me_147 : mq 147 = mq_147 := rfl
theorem me_148 : mq 148 = mq_148 := rfl
theorem me_149 : mq 149 = mq_149 := rfl
theorem me_150 : mq 150 = mq_150 := rfl
theorem me_151 : mq 151 = mq_151 := rfl
theorem me_152 : mq 152 = mq_152 := rfl
theorem me_153 : mq 153 = mq_153 := rfl
theorem me_154 : mq 154 = mq_154 := rfl
theorem me_155 : mq 155 = mq_155 := rfl
theorem me_156 : mq 156 = mq_156 := rfl
theorem me_157 : mq 157 = mq_157 := rfl
theorem me_158 : mq 158 = mq_158 := rfl
theorem me_159 : mq 159 = mq_159 := rfl
theorem me_160 : mq 160 = mq_160 := rfl
theorem me_161 : mq 161 = mq_161 := rfl
theorem me_162 : mq 162 = mq_162 := rfl
theorem me_163 : mq 163 = mq_163 := rfl
theorem me_164 : mq 164 = mq_164 := rfl
theorem me_165 : mq 165 = mq_165 := rfl
theorem me_166 : mq 166 = mq_166 := rfl
theorem me_167 : mq 167 = mq_167 := rfl
theorem me_168 : mq 168 = mq_168 := rfl
theorem me_169 : mq 169 = mq_169 := rfl
theorem me_170 : mq 170 = mq_170 := rfl
theorem me_171 : mq 171 = mq_171 := rfl
theorem me_172 : mq 172 = mq_172 := rfl
theorem me_173 : mq 173 = mq_173 := rfl
theorem me_174 : mq 174 = mq_174 := rfl
theorem me_175 : mq 175 = mq_175 := rfl
theorem me_176 : mq 176 = mq_176 := rfl
theorem me_177 : mq 177 = mq_177 := rfl
theorem me_178 : mq 178 = mq_178 := rfl
theorem me_179 : mq 179 = mq_179 := rfl
theorem me_180 : mq 180 = mq_180 := rfl
theorem me_181 : mq 181 = mq_181 := rfl
theorem me_182 : mq 182 = mq_182 := rfl
theorem me_183 : mq 183 = mq_183 := rfl
theorem me_184 : mq 184 = mq_184 := rfl
theorem me_185 : mq 185 = mq_185 := rfl
theorem me_186 : mq 186 = mq_186 := rfl
theorem me_187 : mq 187 = mq_187 := rfl
theorem me_188 : mq 188 = mq_188 := rfl
theorem me_189 : mq 189 = mq_189 := rfl
theorem me_190 : mq 190 = mq_190 := rfl
theorem me_191 : mq 191 = mq_191 := rfl
theorem me_192 : mq 192 = mq_192 := rfl
theorem me_193 : mq 193 = mq_193 := rfl
theorem me_194 : mq 194 = mq_194 := rfl
theorem me_195 : mq 195 = mq_195 := rfl
theorem me_196 : mq 196 = mq_196 := rfl
theorem me_197 : mq 197 = mq_197 := rfl
theorem me_198 : mq 198 = mq_198 := rfl
theorem me_199 : mq 199 = mq_199 := rfl
theorem me_200 : mq 200 = mq_200 := rfl
theorem me_201 : mq 201 = mq_201 := rfl
theorem me_202 : mq 202 = mq_202 := rfl
theorem me_203 : mq 203 = mq_203 := rfl
theorem me_204 : mq 204 = mq_204 := rfl
theorem me_205 : mq 205 = mq_205 := rfl
theorem me_206 : mq 206 = mq_206 := rfl
theorem me_207 : mq 207 = mq_207 := rfl
theorem me_208 : mq 208 = mq_208 := rfl
theorem me_209 : mq 209 = mq_209 := rfl
theorem me_210 : mq 210 = mq_210 := rfl
theorem me_211 : mq 211 = mq_211 := rfl
theorem me_212 : mq 212 = mq_212 := rfl
theorem me_213 : mq 213 = mq_213 := rfl
theorem me_214 : mq 214 = mq_214 := rfl
theorem me_215 : mq 215 = mq_215 := rfl
theorem me_216 : mq 216 = mq_216 := rfl
theorem me_217 : mq 217 = mq_217 := rfl
theorem me_218 : mq 218 = mq_218 := rfl
theorem me_219 : mq 219 = mq_219 := rfl
theorem me_220 : mq 220 = mq_220 := rfl
theorem me_221 : mq 221 = mq_221 := rfl
theorem me_222 : mq 222 = mq_222 := rfl
theorem me_223 : mq 223 = mq_223 := rfl
theorem me_224 : mq 224 = mq_224 := rfl
theorem me_225 : mq 225 = mq_225 := rfl
theorem me_226 : mq 226 = mq_226 := rfl
theorem me_227 : mq 227 = mq_227 := rfl
theorem me_228 : mq 228 = mq_228 := rfl
theorem me_229 : mq 229 = mq_229 := rfl
theorem me_230 : mq 230 = mq_230 := rfl
theorem me_231 : mq 231 = mq_231 := rfl
theorem me_232 : mq 232 = mq_232 := rfl
theorem me_233 : mq 233 = mq_233 := rfl
theorem me_234 : mq 234 = mq_234 := rfl
theorem me_235 : mq 235 = mq_235 := rfl
theorem me_236 : mq 236 = mq_236 := rfl
theorem me_237 : mq 237 = mq_237 := rfl
theorem me_238 : mq 238 = mq_238 := rfl
theorem me_239 : mq 239 = mq_239 := rfl
theorem me_240 : mq 240 = mq_240 := rfl
theorem me_241 : mq 241 = mq_241 := rfl
theorem me_242 : mq 242 = mq_242 := rfl
theorem me_243 : mq 243 = mq_243 := rfl
theorem me_244 : mq 244 = mq_244 := rfl
theorem me_245 : mq 245 = mq_245 := rfl
theorem me_246 : mq 246 = mq_246 := rfl
theorem me_247 : mq 247 = mq_247 := rfl
theorem me_248 : mq 248 = mq_248 := rfl
theorem me_249 : mq 249 = mq_249 := rfl
theorem me_250 : mq 250 = mq_250 := rfl
theorem me_251 : mq 251 = mq_251 := rfl
theorem me_252 : mq 252 = mq_252 := rfl
theorem me_253 : mq 253 = mq_253 := rfl
theorem me_254 : mq 254 = mq_254 := rfl
theorem me_255 : mq 255 = mq_255 := rfl
theorem me_256 : mq 256 = mq_256 := rfl
theorem me_257 : mq 257 = mq_257 := rfl
theorem me_258 : mq 258 = mq_258 := rfl
theorem me_259 : mq 259 = mq_259 := rfl
theorem me_260 : mq 260 = mq_260 := rfl
theorem me_261 : mq 261 = mq_261 := rfl
theorem me_262 : mq 262 = mq_262 := rfl
theorem me_263 : mq 263 = mq_263 := rfl
theorem mq_ok {j : Nat} (h : j < 263) : mok (mq j) := by
  have e : mq j = mtab.getD j mq_0 := by unfold mq; rw [if_neg (by omega)]
  have hl : j < mtab.length := by rw [mtab_len]; exact h
  rw [e, List.getD_eq_getElem?_getD, List.getElem?_eq_getElem hl]
  exact mtab_ok _ (List.getElem_mem hl)
def fok (q : Nat × Nat × Nat × Nat) : Prop := ∃ r : vw_C, vwCl[q.2.2.1]? = some r ∧ q.2.2.2 < r.2.2 ∧ Cond.fieldLink (cn q.1) q.2.1 (r.2.1 q.2.2.2).1 (r.2.1 q.2.2.2).2.1 (r.2.1 q.2.2.2).2.2.1 ∈ BIG
theorem fo_0 : fok (0, 11, 0, 1) := ⟨(RX0, TX0, 8), rfl, by decide, w_368⟩
theorem fo_1 : fok (0, 15, 0, 2) := ⟨(RX0, TX0, 8), rfl, by decide, w_369⟩
theorem fo_2 : fok (0, 18, 0, 3) := ⟨(RX0, TX0, 8), rfl, by decide, w_370⟩
theorem fo_3 : fok (0, 26, 0, 4) := ⟨(RX0, TX0, 8), rfl, by decide, w_371⟩
theorem fo_4 : fok (0, 30, 0, 0) := ⟨(RX0, TX0, 8), rfl, by decide, w_367⟩
theorem fo_5 : fok (0, 34, 0, 7) := ⟨(RX0, TX0, 8), rfl, by decide, w_374⟩
theorem fo_6 : fok (0, 38, 0, 5) := ⟨(RX0, TX0, 8), rfl, by decide, w_372⟩
theorem fo_7 : fok (0, 53, 0, 6) := ⟨(RX0, TX0, 8), rfl, by decide, w_373⟩
theorem fo_8 : fok (0, 67, 4, 1) := ⟨(RX4, TX4, 10), rfl, by decide, w_169⟩
theorem fo_9 : fok (1, 9, 1, 0) := ⟨(RX1, TX1, 1), rfl, by decide, w_254⟩
theorem fo_10 : fok (1, 28, 10, 3) := ⟨(RX10, TX10, 4), rfl, by decide, w_136⟩
theorem fo_11 : fok (2, 11, 2, 1) := ⟨(RX2, TX2, 13), rfl, by decide, w_265⟩
theorem fo_12 : fok (2, 15, 2, 2) := ⟨(RX2, TX2, 13), rfl, by decide, w_266⟩
theorem fo_13 : fok (2, 18, 2, 3) := ⟨(RX2, TX2, 13), rfl, by decide, w_267⟩
theorem fo_14 : fok (2, 22, 2, 4) := ⟨(RX2, TX2, 13), rfl, by decide, w_268⟩
theorem fo_15 : fok (2, 25, 2, 5) := ⟨(RX2, TX2, 13), rfl, by decide, w_269⟩
theorem fo_16 : fok (2, 29, 2, 6) := ⟨(RX2, TX2, 13), rfl, by decide, w_270⟩
theorem fo_17 : fok (2, 32, 2, 7) := ⟨(RX2, TX2, 13), rfl, by decide, w_271⟩
theorem fo_18 : fok (2, 35, 2, 0) := ⟨(RX2, TX2, 13), rfl, by decide, w_264⟩
theorem fo_19 : fok (2, 47, 2, 9) := ⟨(RX2, TX2, 13), rfl, by decide, w_273⟩
theorem fo_20 : fok (2, 51, 2, 10) := ⟨(RX2, TX2, 13), rfl, by decide, w_274⟩
theorem fo_21 : fok (2, 54, 2, 12) := ⟨(RX2, TX2, 13), rfl, by decide, w_276⟩
theorem fo_22 : fok (2, 61, 2, 8) := ⟨(RX2, TX2, 13), rfl, by decide, w_272⟩
theorem fo_23 : fok (2, 68, 2, 11) := ⟨(RX2, TX2, 13), rfl, by decide, w_275⟩
theorem fo_24 : fok (2, 118, 10, 3) := ⟨(RX10, TX10, 4), rfl, by decide, w_138⟩
theorem fo_25 : fok (3, 11, 3, 2) := ⟨(RX3, TX3, 4), rfl, by decide, w_348⟩
theorem fo_26 : fok (3, 15, 3, 3) := ⟨(RX3, TX3, 4), rfl, by decide, w_349⟩
theorem fo_27 : fok (3, 18, 3, 0) := ⟨(RX3, TX3, 4), rfl, by decide, w_346⟩
theorem fo_28 : fok (3, 22, 3, 1) := ⟨(RX3, TX3, 4), rfl, by decide, w_347⟩
theorem fo_29 : fok (4, 14, 4, 0) := ⟨(RX4, TX4, 10), rfl, by decide, w_165⟩
theorem fo_30 : fok (4, 20, 4, 1) := ⟨(RX4, TX4, 10), rfl, by decide, w_167⟩
theorem fo_31 : fok (4, 25, 4, 2) := ⟨(RX4, TX4, 10), rfl, by decide, w_173⟩
theorem fo_32 : fok (4, 28, 4, 3) := ⟨(RX4, TX4, 10), rfl, by decide, w_177⟩
theorem fo_33 : fok (4, 33, 4, 4) := ⟨(RX4, TX4, 10), rfl, by decide, w_180⟩
theorem fo_34 : fok (4, 38, 4, 5) := ⟨(RX4, TX4, 10), rfl, by decide, w_181⟩
theorem fo_35 : fok (4, 41, 4, 6) := ⟨(RX4, TX4, 10), rfl, by decide, w_184⟩
theorem fo_36 : fok (4, 46, 4, 7) := ⟨(RX4, TX4, 10), rfl, by decide, w_187⟩
theorem fo_37 : fok (4, 51, 4, 8) := ⟨(RX4, TX4, 10), rfl, by decide, w_190⟩
theorem fo_38 : fok (4, 54, 4, 9) := ⟨(RX4, TX4, 10), rfl, by decide, w_192⟩
theorem fo_39 : fok (4, 65, 10, 3) := ⟨(RX10, TX10, 4), rfl, by decide, w_135⟩
theorem fo_40 : fok (5, 9, 5, 0) := ⟨(RX5, TX5, 8), rfl, by decide, w_223⟩
theorem fo_41 : fok (5, 15, 10, 3) := ⟨(RX10, TX10, 4), rfl, by decide, w_131⟩
theorem fo_42 : fok (5, 25, 5, 1) := ⟨(RX5, TX5, 8), rfl, by decide, w_224⟩
theorem fo_43 : fok (5, 28, 5, 2) := ⟨(RX5, TX5, 8), rfl, by decide, w_225⟩
theorem fo_44 : fok (5, 31, 5, 3) := ⟨(RX5, TX5, 8), rfl, by decide, w_226⟩
theorem fo_45 : fok (5, 34, 5, 4) := ⟨(RX5, TX5, 8), rfl, by decide, w_227⟩
theorem fo_46 : fok (5, 37, 5, 5) := ⟨(RX5, TX5, 8), rfl, by decide, w_228⟩
theorem fo_47 : fok (5, 40, 5, 6) := ⟨(RX5, TX5, 8), rfl, by decide, w_229⟩
theorem fo_48 : fok (5, 43, 5, 7) := ⟨(RX5, TX5, 8), rfl, by decide, w_230⟩
theorem fo_49 : fok (6, 18, 6, 3) := ⟨(RX6, TX6, 8), rfl, by decide, w_318⟩
theorem fo_50 : fok (6, 22, 6, 4) := ⟨(RX6, TX6, 8), rfl, by decide, w_319⟩
theorem fo_51 : fok (6, 26, 6, 5) := ⟨(RX6, TX6, 8), rfl, by decide, w_320⟩
theorem fo_52 : fok (6, 29, 6, 6) := ⟨(RX6, TX6, 8), rfl, by decide, w_321⟩
theorem fo_53 : fok (6, 33, 6, 0) := ⟨(RX6, TX6, 8), rfl, by decide, w_315⟩
theorem fo_54 : fok (6, 37, 6, 1) := ⟨(RX6, TX6, 8), rfl, by decide, w_316⟩
theorem fo_55 : fok (6, 41, 6, 2) := ⟨(RX6, TX6, 8), rfl, by decide, w_317⟩
theorem fo_56 : fok (6, 55, 6, 7) := ⟨(RX6, TX6, 8), rfl, by decide, w_322⟩
theorem fo_57 : fok (6, 76, 10, 3) := ⟨(RX10, TX10, 4), rfl, by decide, w_137⟩
theorem fo_58 : fok (6, 82, 4, 2) := ⟨(RX4, TX4, 10), rfl, by decide, w_176⟩
theorem fo_59 : fok (6, 100, 4, 1) := ⟨(RX4, TX4, 10), rfl, by decide, w_172⟩
theorem fo_60 : fok (6, 119, 2, 12) := ⟨(RX2, TX2, 13), rfl, by decide, w_277⟩
theorem fo_61 : fok (7, 9, 7, 1) := ⟨(RX7, TX7, 2), rfl, by decide, w_437⟩
theorem fo_62 : fok (7, 13, 7, 0) := ⟨(RX7, TX7, 2), rfl, by decide, w_436⟩
theorem fo_63 : fok (7, 17, 4, 9) := ⟨(RX4, TX4, 10), rfl, by decide, w_193⟩
theorem fo_64 : fok (7, 29, 4, 7) := ⟨(RX4, TX4, 10), rfl, by decide, w_188⟩
theorem fo_65 : fok (7, 33, 10, 3) := ⟨(RX10, TX10, 4), rfl, by decide, w_134⟩
theorem fo_66 : fok (7, 55, 4, 1) := ⟨(RX4, TX4, 10), rfl, by decide, w_168⟩
theorem fo_67 : fok (8, 11, 8, 1) := ⟨(RX8, TX8, 6), rfl, by decide, w_399⟩
theorem fo_68 : fok (8, 15, 8, 2) := ⟨(RX8, TX8, 6), rfl, by decide, w_400⟩
theorem fo_69 : fok (8, 18, 8, 3) := ⟨(RX8, TX8, 6), rfl, by decide, w_401⟩
theorem fo_70 : fok (8, 21, 8, 4) := ⟨(RX8, TX8, 6), rfl, by decide, w_402⟩
theorem fo_71 : fok (8, 24, 8, 0) := ⟨(RX8, TX8, 6), rfl, by decide, w_398⟩
theorem fo_72 : fok (8, 28, 4, 2) := ⟨(RX4, TX4, 10), rfl, by decide, w_175⟩
theorem fo_73 : fok (8, 34, 10, 3) := ⟨(RX10, TX10, 4), rfl, by decide, w_133⟩
theorem fo_74 : fok (8, 56, 4, 5) := ⟨(RX4, TX4, 10), rfl, by decide, w_182⟩
theorem fo_75 : fok (8, 62, 8, 5) := ⟨(RX8, TX8, 6), rfl, by decide, w_403⟩
theorem fo_76 : fok (8, 80, 4, 1) := ⟨(RX4, TX4, 10), rfl, by decide, w_170⟩
theorem fo_77 : fok (8, 91, 4, 6) := ⟨(RX4, TX4, 10), rfl, by decide, w_185⟩
theorem fo_78 : fok (9, 9, 9, 1) := ⟨(RX9, TX9, 2), rfl, by decide, w_424⟩
theorem fo_79 : fok (9, 13, 9, 0) := ⟨(RX9, TX9, 2), rfl, by decide, w_423⟩
theorem fo_80 : fok (10, 15, 10, 0) := ⟨(RX10, TX10, 4), rfl, by decide, w_127⟩
theorem fo_81 : fok (10, 21, 10, 1) := ⟨(RX10, TX10, 4), rfl, by decide, w_128⟩
theorem fo_82 : fok (10, 24, 10, 2) := ⟨(RX10, TX10, 4), rfl, by decide, w_129⟩
theorem fo_83 : fok (10, 28, 10, 3) := ⟨(RX10, TX10, 4), rfl, by decide, w_130⟩
theorem fo_84 : fok (11, 10, 11, 0) := ⟨(RX11, TX11, 11), rfl, by decide, w_443⟩
theorem fo_85 : fok (11, 16, 11, 1) := ⟨(RX11, TX11, 11), rfl, by decide, w_444⟩
theorem fo_86 : fok (11, 22, 4, 0) := ⟨(RX4, TX4, 10), rfl, by decide, w_166⟩
theorem fo_87 : fok (11, 29, 11, 2) := ⟨(RX11, TX11, 11), rfl, by decide, w_445⟩
theorem fo_88 : fok (11, 35, 4, 2) := ⟨(RX4, TX4, 10), rfl, by decide, w_174⟩
theorem fo_89 : fok (11, 39, 11, 3) := ⟨(RX11, TX11, 11), rfl, by decide, w_446⟩
theorem fo_90 : fok (11, 44, 4, 4) := ⟨(RX4, TX4, 10), rfl, by decide, w_179⟩
theorem fo_91 : fok (11, 48, 11, 5) := ⟨(RX11, TX11, 11), rfl, by decide, w_448⟩
theorem fo_92 : fok (11, 57, 11, 4) := ⟨(RX11, TX11, 11), rfl, by decide, w_447⟩
theorem fo_93 : fok (11, 66, 11, 6) := ⟨(RX11, TX11, 11), rfl, by decide, w_449⟩
theorem fo_94 : fok (11, 75, 11, 7) := ⟨(RX11, TX11, 11), rfl, by decide, w_450⟩
theorem fo_95 : fok (11, 82, 11, 8) := ⟨(RX11, TX11, 11), rfl, by decide, w_451⟩
theorem fo_96 : fok (11, 88, 4, 8) := ⟨(RX4, TX4, 10), rfl, by decide, w_191⟩
theorem fo_97 : fok (11, 92, 11, 9) := ⟨(RX11, TX11, 11), rfl, by decide, w_452⟩
theorem fo_98 : fok (11, 99, 11, 10) := ⟨(RX11, TX11, 11), rfl, by decide, w_453⟩
theorem fo_99 : fok (11, 103, 10, 3) := ⟨(RX10, TX10, 4), rfl, by decide, w_132⟩
theorem fo_100 : fok (11, 147, 4, 1) := ⟨(RX4, TX4, 10), rfl, by decide, w_171⟩
theorem fo_101 : fok (11, 180, 4, 3) := ⟨(RX4, TX4, 10), rfl, by decide, w_178⟩
theorem fo_102 : fok (11, 225, 4, 5) := ⟨(RX4, TX4, 10), rfl, by decide, w_183⟩
theorem fo_103 : fok (11, 251, 4, 6) := ⟨(RX4, TX4, 10), rfl, by decide, w_186⟩
theorem fo_104 : fok (11, 260, 4, 7) := ⟨(RX4, TX4, 10), rfl, by decide, w_189⟩
theorem fo_105 : fok (11, 263, 4, 9) := ⟨(RX4, TX4, 10), rfl, by decide, w_194⟩
theorem fo_106 : fok (12, 7, 12, 0) := ⟨(RX12, TX12, 41), rfl, by decide, w_1189⟩
theorem fo_107 : fok (12, 14, 12, 1) := ⟨(RX12, TX12, 41), rfl, by decide, w_1190⟩
theorem fo_108 : fok (12, 17, 12, 2) := ⟨(RX12, TX12, 41), rfl, by decide, w_1191⟩
theorem fo_109 : fok (12, 21, 12, 3) := ⟨(RX12, TX12, 41), rfl, by decide, w_1192⟩
theorem fo_110 : fok (12, 24, 12, 4) := ⟨(RX12, TX12, 41), rfl, by decide, w_1193⟩
theorem fo_111 : fok (12, 27, 12, 5) := ⟨(RX12, TX12, 41), rfl, by decide, w_1194⟩
theorem fo_112 : fok (12, 30, 12, 6) := ⟨(RX12, TX12, 41), rfl, by decide, w_1195⟩
theorem fo_113 : fok (12, 33, 12, 7) := ⟨(RX12, TX12, 41), rfl, by decide, w_1196⟩
theorem fo_114 : fok (12, 36, 12, 10) := ⟨(RX12, TX12, 41), rfl, by decide, w_1199⟩
theorem fo_115 : fok (12, 39, 12, 11) := ⟨(RX12, TX12, 41), rfl, by decide, w_1200⟩
theorem fo_116 : fok (12, 42, 12, 12) := ⟨(RX12, TX12, 41), rfl, by decide, w_1201⟩
theorem fo_117 : fok (12, 45, 12, 13) := ⟨(RX12, TX12, 41), rfl, by decide, w_1202⟩
theorem fo_118 : fok (12, 48, 12, 14) := ⟨(RX12, TX12, 41), rfl, by decide, w_1203⟩
theorem fo_119 : fok (12, 51, 12, 15) := ⟨(RX12, TX12, 41), rfl, by decide, w_1204⟩
theorem fo_120 : fok (12, 54, 12, 17) := ⟨(RX12, TX12, 41), rfl, by decide, w_1206⟩
theorem fo_121 : fok (12, 57, 12, 18) := ⟨(RX12, TX12, 41), rfl, by decide, w_1207⟩
theorem fo_122 : fok (12, 60, 12, 20) := ⟨(RX12, TX12, 41), rfl, by decide, w_1209⟩
theorem fo_123 : fok (12, 63, 12, 21) := ⟨(RX12, TX12, 41), rfl, by decide, w_1210⟩
theorem fo_124 : fok (12, 66, 12, 23) := ⟨(RX12, TX12, 41), rfl, by decide, w_1212⟩
theorem fo_125 : fok (12, 69, 12, 24) := ⟨(RX12, TX12, 41), rfl, by decide, w_1213⟩
theorem fo_126 : fok (12, 73, 12, 25) := ⟨(RX12, TX12, 41), rfl, by decide, w_1214⟩
theorem fo_127 : fok (12, 76, 12, 27) := ⟨(RX12, TX12, 41), rfl, by decide, w_1216⟩
theorem fo_128 : fok (12, 79, 12, 28) := ⟨(RX12, TX12, 41), rfl, by decide, w_1217⟩
theorem fo_129 : fok (12, 82, 12, 29) := ⟨(RX12, TX12, 41), rfl, by decide, w_1218⟩
theorem fo_130 : fok (12, 85, 12, 30) := ⟨(RX12, TX12, 41), rfl, by decide, w_1219⟩
theorem fo_131 : fok (12, 88, 12, 33) := ⟨(RX12, TX12, 41), rfl, by decide, w_1222⟩
theorem fo_132 : fok (12, 91, 12, 34) := ⟨(RX12, TX12, 41), rfl, by decide, w_1223⟩
theorem fo_133 : fok (12, 94, 12, 35) := ⟨(RX12, TX12, 41), rfl, by decide, w_1224⟩
theorem fo_134 : fok (12, 97, 12, 37) := ⟨(RX12, TX12, 41), rfl, by decide, w_1226⟩
theorem fo_135 : fok (12, 100, 12, 38) := ⟨(RX12, TX12, 41), rfl, by decide, w_1227⟩
theorem fo_136 : fok (12, 103, 12, 39) := ⟨(RX12, TX12, 41), rfl, by decide, w_1228⟩
theorem fo_137 : fok (12, 106, 12, 40) := ⟨(RX12, TX12, 41), rfl, by decide, w_1229⟩
theorem fo_138 : fok (12, 131, 12, 8) := ⟨(RX12, TX12, 41), rfl, by decide, w_1197⟩
theorem fo_139 : fok (12, 135, 12, 9) := ⟨(RX12, TX12, 41), rfl, by decide, w_1198⟩
theorem fo_140 : fok (12, 181, 12, 16) := ⟨(RX12, TX12, 41), rfl, by decide, w_1205⟩
theorem fo_141 : fok (12, 190, 12, 19) := ⟨(RX12, TX12, 41), rfl, by decide, w_1208⟩
theorem fo_142 : fok (12, 193, 12, 22) := ⟨(RX12, TX12, 41), rfl, by decide, w_1211⟩
theorem fo_143 : fok (12, 234, 12, 26) := ⟨(RX12, TX12, 41), rfl, by decide, w_1215⟩
theorem fo_144 : fok (12, 249, 12, 31) := ⟨(RX12, TX12, 41), rfl, by decide, w_1220⟩
theorem fo_145 : fok (12, 261, 12, 32) := ⟨(RX12, TX12, 41), rfl, by decide, w_1221⟩
theorem fo_146 : fok (12, 264, 12, 36) := ⟨(RX12, TX12, 41), rfl, by decide, w_1225⟩
theorem fo_149 : fok (100, 15, 0, 2) := ⟨(RX0, TX0, 8), rfl, by decide, w_369⟩
theorem fo_150 : fok (100, 18, 0, 3) := ⟨(RX0, TX0, 8), rfl, by decide, w_370⟩
theorem fo_151 : fok (100, 34, 0, 7) := ⟨(RX0, TX0, 8), rfl, by decide, w_374⟩
theorem fo_152 : fok (100, 38, 0, 5) := ⟨(RX0, TX0, 8), rfl, by decide, w_372⟩
theorem fo_153 : fok (100, 53, 0, 6) := ⟨(RX0, TX0, 8), rfl, by decide, w_373⟩
theorem fo_154 : fok (101, 15, 0, 2) := ⟨(RX0, TX0, 8), rfl, by decide, w_369⟩
theorem fo_155 : fok (101, 18, 0, 3) := ⟨(RX0, TX0, 8), rfl, by decide, w_370⟩
theorem fo_156 : fok (101, 34, 0, 7) := ⟨(RX0, TX0, 8), rfl, by decide, w_374⟩
theorem fo_157 : fok (101, 38, 0, 5) := ⟨(RX0, TX0, 8), rfl, by decide, w_372⟩
theorem fo_158 : fok (101, 53, 0, 6) := ⟨(RX0, TX0, 8), rfl, by decide, w_373⟩
theorem fo_159 : fok (102, 15, 0, 2) := ⟨(RX0, TX0, 8), rfl, by decide, w_369⟩
theorem fo_160 : fok (102, 18, 0, 3) := ⟨(RX0, TX0, 8), rfl, by decide, w_370⟩
theorem fo_161 : fok (102, 34, 0, 7) := ⟨(RX0, TX0, 8), rfl, by decide, w_374⟩
theorem fo_162 : fok (102, 38, 0, 5) := ⟨(RX0, TX0, 8), rfl, by decide, w_372⟩
theorem fo_163 : fok (102, 53, 0, 6) := ⟨(RX0, TX0, 8), rfl, by decide, w_373⟩
theorem fo_164 : fok (103, 15, 0, 2) := ⟨(RX0, TX0, 8), rfl, by decide, w_369⟩
theorem fo_165 : fok (103, 18, 0, 3) := ⟨(RX0, TX0, 8), rfl, by decide, w_370⟩
theorem fo_166 : fok (103, 34, 0, 7) := ⟨(RX0, TX0, 8), rfl, by decide, w_374⟩
theorem fo_167 : fok (103, 38, 0, 5) := ⟨(RX0, TX0, 8), rfl, by decide, w_372⟩
theorem fo_168 : fok (103, 53, 0, 6) := ⟨(RX0, TX0, 8), rfl, by decide, w_373⟩
theorem fo_169 : fok (104, 15, 0, 2) := ⟨(RX0, TX0, 8), rfl, by decide, w_369⟩
theorem fo_170 : fok (104, 18, 0, 3) := ⟨(RX0, TX0, 8), rfl, by decide, w_370⟩
theorem fo_171 : fok (104, 34, 0, 7) := ⟨(RX0, TX0, 8), rfl, by decide, w_374⟩
theorem fo_172 : fok (104, 38, 0, 5) := ⟨(RX0, TX0, 8), rfl, by decide, w_372⟩
theorem fo_173 : fok (104, 53, 0, 6) := ⟨(RX0, TX0, 8), rfl, by decide, w_373⟩
theorem fo_174 : fok (105, 15, 0, 2) := ⟨(RX0, TX0, 8), rfl, by decide, w_369⟩
theorem fo_175 : fok (105, 18, 0, 3) := ⟨(RX0, TX0, 8), rfl, by decide, w_370⟩
theorem fo_176 : fok (105, 34, 0, 7) := ⟨(RX0, TX0, 8), rfl, by decide, w_374⟩
theorem fo_177 : fok (105, 38, 0, 5) := ⟨(RX0, TX0, 8), rfl, by decide, w_372⟩
theorem fo_178 : fok (105, 53, 0, 6) := ⟨(RX0, TX0, 8), rfl, by decide, w_373⟩
theorem fo_179 : fok (106, 15, 0, 2) := ⟨(RX0, TX0, 8), rfl, by decide, w_369⟩
theorem fo_180 : fok (106, 18, 0, 3) := ⟨(RX0, TX0, 8), rfl, by decide, w_370⟩
theorem fo_181 : fok (106, 34, 0, 7) := ⟨(RX0, TX0, 8), rfl, by decide, w_374⟩
theorem fo_182 : fok (106, 38, 0, 5) := ⟨(RX0, TX0, 8), rfl, by decide, w_372⟩
theorem fo_183 : fok (106, 53, 0, 6) := ⟨(RX0, TX0, 8), rfl, by decide, w_373⟩
theorem fo_184 : fok (107, 15, 0, 2) := ⟨(RX0, TX0, 8), rfl, by decide, w_369⟩
theorem fo_185 : fok (107, 18, 0, 3) := ⟨(RX0, TX0, 8), rfl, by decide, w_370⟩
theorem fo_186 : fok (107, 34, 0, 7) := ⟨(RX0, TX0, 8), rfl, by decide, w_374⟩
theorem fo_187 : fok (107, 38, 0, 5) := ⟨(RX0, TX0, 8), rfl, by decide, w_372⟩
theorem fo_188 : fok (107, 53, 0, 6) := ⟨(RX0, TX0, 8), rfl, by decide, w_373⟩
theorem fo_189 : fok (108, 15, 0, 2) := ⟨(RX0, TX0, 8), rfl, by decide, w_369⟩
theorem fo_190 : fok (108, 18, 0, 3) := ⟨(RX0, TX0, 8), rfl, by decide, w_370⟩
theorem fo_191 : fok (108, 34, 0, 7) := ⟨(RX0, TX0, 8), rfl, by decide, w_374⟩
theorem fo_192 : fok (108, 38, 0, 5) := ⟨(RX0, TX0, 8), rfl, by decide, w_372⟩
theorem fo_193 : fok (108, 53, 0, 6) := ⟨(RX0, TX0, 8), rfl, by decide, w_373⟩
theorem fo_194 : fok (109, 15, 0, 2) := ⟨(RX0, TX0, 8), rfl, by decide, w_369⟩
theorem fo_195 : fok (109, 18, 0, 3) := ⟨(RX0, TX0, 8), rfl, by decide, w_370⟩
theorem fo_196 : fok (109, 34, 0, 7) := ⟨(RX0, TX0, 8), rfl, by decide, w_374⟩
theorem fo_197 : fok (109, 38, 0, 5) := ⟨(RX0, TX0, 8), rfl, by decide, w_372⟩
theorem fo_198 : fok (109, 53, 0, 6) := ⟨(RX0, TX0, 8), rfl, by decide, w_373⟩
theorem fo_199 : fok (110, 15, 0, 2) := ⟨(RX0, TX0, 8), rfl, by decide, w_369⟩
theorem fo_200 : fok (110, 18, 0, 3) := ⟨(RX0, TX0, 8), rfl, by decide, w_370⟩
theorem fo_201 : fok (110, 34, 0, 7) := ⟨(RX0, TX0, 8), rfl, by decide, w_374⟩
theorem fo_202 : fok (110, 38, 0, 5) := ⟨(RX0, TX0, 8), rfl, by decide, w_372⟩
theorem fo_203 : fok (110, 53, 0, 6) := ⟨(RX0, TX0, 8), rfl, by decide, w_373⟩
theorem fo_204 : fok (111, 15, 0, 2) := ⟨(RX0, TX0, 8), rfl, by decide, w_369⟩
theorem fo_205 : fok (111, 18, 0, 3) := ⟨(RX0, TX0, 8), rfl, by decide, w_370⟩
theorem fo_206 : fok (111, 34, 0, 7) := ⟨(RX0, TX0, 8), rfl, by decide, w_374⟩
theorem fo_207 : fok (111, 38, 0, 5) := ⟨(RX0, TX0, 8), rfl, by decide, w_372⟩
theorem fo_208 : fok (111, 53, 0, 6) := ⟨(RX0, TX0, 8), rfl, by decide, w_373⟩
theorem fo_209 : fok (112, 15, 0, 2) := ⟨(RX0, TX0, 8), rfl, by decide, w_369⟩
theorem fo_210 : fok (112, 18, 0, 3) := ⟨(RX0, TX0, 8), rfl, by decide, w_370⟩
theorem fo_211 : fok (112, 34, 0, 7) := ⟨(RX0, TX0, 8), rfl, by decide, w_374⟩
theorem fo_212 : fok (112, 38, 0, 5) := ⟨(RX0, TX0, 8), rfl, by decide, w_372⟩
theorem fo_213 : fok (112, 53, 0, 6) := ⟨(RX0, TX0, 8), rfl, by decide, w_373⟩
def ftab_0 : List (Nat × Nat × Nat × Nat) := [(0, 11, 0, 1), (0, 15, 0, 2), (0, 18, 0, 3), (0, 26, 0, 4), (0, 30, 0, 0), (0, 34, 0, 7), (0, 38, 0, 5), (0, 53, 0, 6), (0, 67, 4, 1), (1, 9, 1, 0), (1, 28, 10, 3), (2, 11, 2, 1), (2, 15, 2, 2), (2, 18, 2, 3), (2, 22, 2, 4), (2, 25, 2, 5)]
theorem ftab_0_ok : ∀ q ∈ ftab_0, fok q := List.forall_mem_cons.mpr ⟨fo_0, List.forall_mem_cons.mpr ⟨fo_1, List.forall_mem_cons.mpr ⟨fo_2, List.forall_mem_cons.mpr ⟨fo_3, List.forall_mem_cons.mpr ⟨fo_4, List.forall_mem_cons.mpr ⟨fo_5, List.forall_mem_cons.mpr ⟨fo_6, List.forall_mem_cons.mpr ⟨fo_7, List.forall_mem_cons.mpr ⟨fo_8, List.forall_mem_cons.mpr ⟨fo_9, List.forall_mem_cons.mpr ⟨fo_10, List.forall_mem_cons.mpr ⟨fo_11, List.forall_mem_cons.mpr ⟨fo_12, List.forall_mem_cons.mpr ⟨fo_13, List.forall_mem_cons.mpr ⟨fo_14, List.forall_mem_cons.mpr ⟨fo_15, fun _ h => absurd h List.not_mem_nil⟩⟩⟩⟩⟩⟩⟩⟩⟩⟩⟩⟩⟩⟩⟩⟩
def ftab_1 : List (Nat × Nat × Nat × Nat) := [(2, 29, 2, 6), (2, 32, 2, 7), (2, 35, 2, 0), (2, 47, 2, 9), (2, 51, 2, 10), (2, 54, 2, 12), (2, 61, 2, 8), (2, 68, 2, 11), (2, 118, 10, 3), (3, 11, 3, 2), (3, 15, 3, 3), (3, 18, 3, 0), (3, 22, 3, 1), (4, 14, 4, 0), (4, 20, 4, 1), (4, 25, 4, 2)]
theorem ftab_1_ok : ∀ q ∈ ftab_1, fok q := List.forall_mem_cons.mpr ⟨fo_16, List.forall_mem_cons.mpr ⟨fo_17, List.forall_mem_cons.mpr ⟨fo_18, List.forall_mem_cons.mpr ⟨fo_19, List.forall_mem_cons.mpr ⟨fo_20, List.forall_mem_cons.mpr ⟨fo_21, List.forall_mem_cons.mpr ⟨fo_22, List.forall_mem_cons.mpr ⟨fo_23, List.forall_mem_cons.mpr ⟨fo_24, List.forall_mem_cons.mpr ⟨fo_25, List.forall_mem_cons.mpr ⟨fo_26, List.forall_mem_cons.mpr ⟨fo_27, List.forall_mem_cons.mpr ⟨fo_28, List.forall_mem_cons.mpr ⟨fo_29, List.forall_mem_cons.mpr ⟨fo_30, List.forall_mem_cons.mpr ⟨fo_31, fun _ h => absurd h List.not_mem_nil⟩⟩⟩⟩⟩⟩⟩⟩⟩⟩⟩⟩⟩⟩⟩⟩
def ftab_2 : List (Nat × Nat × Nat × Nat) := [(4, 28, 4, 3), (4, 33, 4, 4), (4, 38, 4, 5), (4, 41, 4, 6), (4, 46, 4, 7), (4, 51, 4, 8), (4, 54, 4, 9), (4, 65, 10, 3), (5, 9, 5, 0), (5, 15, 10, 3), (5, 25, 5, 1), (5, 28, 5, 2), (5, 31, 5, 3), (5, 34, 5, 4), (5, 37, 5, 5), (5, 40, 5, 6)]
theorem ftab_2_ok : ∀ q ∈ ftab_2, fok q := List.forall_mem_cons.mpr ⟨fo_32, List.forall_mem_cons.mpr ⟨fo_33, List.forall_mem_cons.mpr ⟨fo_34, List.forall_mem_cons.mpr ⟨fo_35, List.forall_mem_cons.mpr ⟨fo_36, List.forall_mem_cons.mpr ⟨fo_37, List.forall_mem_cons.mpr ⟨fo_38, List.forall_mem_cons.mpr ⟨fo_39, List.forall_mem_cons.mpr ⟨fo_40, List.forall_mem_cons.mpr ⟨fo_41, List.forall_mem_cons.mpr ⟨fo_42, List.forall_mem_cons.mpr ⟨fo_43, List.forall_mem_cons.mpr ⟨fo_44, List.forall_mem_cons.mpr ⟨fo_45, List.forall_mem_cons.mpr ⟨fo_46, List.forall_mem_cons.mpr ⟨fo_47, fun _ h => absurd h List.not_mem_nil⟩⟩⟩⟩⟩⟩⟩⟩⟩⟩⟩⟩⟩⟩⟩⟩
def ftab_3 : List (Nat × Nat × Nat × Nat) := [(5, 43, 5, 7), (6, 18, 6, 3), (6, 22, 6, 4), (6, 26, 6, 5), (6, 29, 6, 6), (6, 33, 6, 0), (6, 37, 6, 1), (6, 41, 6, 2), (6, 55, 6, 7), (6, 76, 10, 3), (6, 82, 4, 2), (6, 100, 4, 1), (6, 119, 2, 12), (7, 9, 7, 1), (7, 13, 7, 0), (7, 17, 4, 9)]
theorem ftab_3_ok : ∀ q ∈ ftab_3, fok q := List.forall_mem_cons.mpr ⟨fo_48, List.forall_mem_cons.mpr ⟨fo_49, List.forall_mem_cons.mpr ⟨fo_50, List.forall_mem_cons.mpr ⟨fo_51, List.forall_mem_cons.mpr ⟨fo_52, List.forall_mem_cons.mpr ⟨fo_53, List.forall_mem_cons.mpr ⟨fo_54, List.forall_mem_cons.mpr ⟨fo_55, List.forall_mem_cons.mpr ⟨fo_56, List.forall_mem_cons.mpr ⟨fo_57, List.forall_mem_cons.mpr ⟨fo_58, List.forall_mem_cons.mpr ⟨fo_59, List.forall_mem_cons.mpr ⟨fo_60, List.forall_mem_cons.mpr ⟨fo_61, List.forall_mem_cons.mpr ⟨fo_62, List.forall_mem_cons.mpr ⟨fo_63, fun _ h => absurd h List.not_mem_nil⟩⟩⟩⟩⟩⟩⟩⟩⟩⟩⟩⟩⟩⟩⟩⟩
def ftab_4 : List (Nat × Nat × Nat × Nat) := [(7, 29, 4, 7), (7, 33, 10, 3), (7, 55, 4, 1), (8, 11, 8, 1), (8, 15, 8, 2), (8, 18, 8, 3), (8, 21, 8, 4), (8, 24, 8, 0), (8, 28, 4, 2), (8, 34, 10, 3), (8, 56, 4, 5), (8, 62, 8, 5), (8, 80, 4, 1), (8, 91, 4, 6), (9, 9, 9, 1), (9, 13, 9, 0)]
theorem ftab_4_ok : ∀ q ∈ ftab_4, fok q := List.forall_mem_cons.mpr ⟨fo_64, List.forall_mem_cons.mpr ⟨fo_65, List.forall_mem_cons.mpr ⟨fo_66, List.forall_mem_cons.mpr ⟨fo_67, List.forall_mem_cons.mpr ⟨fo_68, List.forall_mem_cons.mpr ⟨fo_69, List.forall_mem_cons.mpr ⟨fo_70, List.forall_mem_cons.mpr ⟨fo_71, List.forall_mem_cons.mpr ⟨fo_72, List.forall_mem_cons.mpr ⟨fo_73, List.forall_mem_cons.mpr ⟨fo_74, List.forall_mem_cons.mpr ⟨fo_75, List.forall_mem_cons.mpr ⟨fo_76, List.forall_mem_cons.mpr ⟨fo_77, List.forall_mem_cons.mpr ⟨fo_78, List.forall_mem_cons.mpr ⟨fo_79, fun _ h => absurd h List.not_mem_nil⟩⟩⟩⟩⟩⟩⟩⟩⟩⟩⟩⟩⟩⟩⟩⟩
def ftab_5 : List (Nat × Nat × Nat × Nat) := [(10, 15, 10, 0), (10, 21, 10, 1), (10, 24, 10, 2), (10, 28, 10, 3), (11, 10, 11, 0), (11, 16, 11, 1), (11, 22, 4, 0), (11, 29, 11, 2), (11, 35, 4, 2), (11, 39, 11, 3), (11, 44, 4, 4), (11, 48, 11, 5), (11, 57, 11, 4), (11, 66, 11, 6), (11, 75, 11, 7), (11, 82, 11, 8)]
theorem ftab_5_ok : ∀ q ∈ ftab_5, fok q := List.forall_mem_cons.mpr ⟨fo_80, List.forall_mem_cons.mpr ⟨fo_81, List.forall_mem_cons.mpr ⟨fo_82, List.forall_mem_cons.mpr ⟨fo_83, List.forall_mem_cons.mpr ⟨fo_84, List.forall_mem_cons.mpr ⟨fo_85, List.forall_mem_cons.mpr ⟨fo_86, List.forall_mem_cons.mpr ⟨fo_87, List.forall_mem_cons.mpr ⟨fo_88, List.forall_mem_cons.mpr ⟨fo_89, List.forall_mem_cons.mpr ⟨fo_90, List.forall_mem_cons.mpr ⟨fo_91, List.forall_mem_cons.mpr ⟨fo_92, List.forall_mem_cons.mpr ⟨fo_93, List.forall_mem_cons.mpr ⟨fo_94, List.forall_mem_cons.mpr ⟨fo_95, fun _ h => absurd h List.not_mem_nil⟩⟩⟩⟩⟩⟩⟩⟩⟩⟩⟩⟩⟩⟩⟩⟩
def ftab_6 : List (Nat × Nat × Nat × Nat) := [(11, 88, 4, 8), (11, 92, 11, 9), (11, 99, 11, 10), (11, 103, 10, 3), (11, 147, 4, 1), (11, 180, 4, 3), (11, 225, 4, 5), (11, 251, 4, 6), (11, 260, 4, 7), (11, 263, 4, 9), (12, 7, 12, 0), (12, 14, 12, 1), (12, 17, 12, 2), (12, 21, 12, 3), (12, 24, 12, 4), (12, 27, 12, 5)]
theorem ftab_6_ok : ∀ q ∈ ftab_6, fok q := List.forall_mem_cons.mpr ⟨fo_96, List.forall_mem_cons.mpr ⟨fo_97, List.forall_mem_cons.mpr ⟨fo_98, List.forall_mem_cons.mpr ⟨fo_99, List.forall_mem_cons.mpr ⟨fo_100, List.forall_mem_cons.mpr ⟨fo_101, List.forall_mem_cons.mpr ⟨fo_102, List.forall_mem_cons.mpr ⟨fo_103, List.forall_mem_cons.mpr ⟨fo_104, List.forall_mem_cons.mpr ⟨fo_105, List.forall_mem_cons.mpr ⟨fo_106, List.forall_mem_cons.mpr ⟨fo_107, List.forall_mem_cons.mpr ⟨fo_108, List.forall_mem_cons.mpr ⟨fo_109, List.forall_mem_cons.mpr ⟨fo_110, List.forall_mem_cons.mpr ⟨fo_111, fun _ h => absurd h List.not_mem_nil⟩⟩⟩⟩⟩⟩⟩⟩⟩⟩⟩⟩⟩⟩⟩⟩
def ftab_7 : List (Nat × Nat × Nat × Nat) := [(12, 30, 12, 6), (12, 33, 12, 7), (12, 36, 12, 10), (12, 39, 12, 11), (12, 42, 12, 12), (12, 45, 12, 13), (12, 48, 12, 14), (12, 51, 12, 15), (12, 54, 12, 17), (12, 57, 12, 18), (12, 60, 12, 20), (12, 63, 12, 21), (12, 66, 12, 23), (12, 69, 12, 24), (12, 73, 12, 25), (12, 76, 12, 27)]
theorem ftab_7_ok : ∀ q ∈ ftab_7, fok q := List.forall_mem_cons.mpr ⟨fo_112, List.forall_mem_cons.mpr ⟨fo_113, List.forall_mem_cons.mpr ⟨fo_114, List.forall_mem_cons.mpr ⟨fo_115, List.forall_mem_cons.mpr ⟨fo_116, List.forall_mem_cons.mpr ⟨fo_117, List.forall_mem_cons.mpr ⟨fo_118, List.forall_mem_cons.mpr ⟨fo_119, List.forall_mem_cons.mpr ⟨fo_120, List.forall_mem_cons.mpr ⟨fo_121, List.forall_mem_cons.mpr ⟨fo_122, List.forall_mem_cons.mpr ⟨fo_123, List.forall_mem_cons.mpr ⟨fo_124, List.forall_mem_cons.mpr ⟨fo_125, List.forall_mem_cons.mpr ⟨fo_126, List.forall_mem_cons.mpr ⟨fo_127, fun _ h => absurd h List.not_mem_nil⟩⟩⟩⟩⟩⟩⟩⟩⟩⟩⟩⟩⟩⟩⟩⟩
def ftab_8 : List (Nat × Nat × Nat × Nat) := [(12, 79, 12, 28), (12, 82, 12, 29), (12, 85, 12, 30), (12, 88, 12, 33), (12, 91, 12, 34), (12, 94, 12, 35), (12, 97, 12, 37), (12, 100, 12, 38), (12, 103, 12, 39), (12, 106, 12, 40), (12, 131, 12, 8), (12, 135, 12, 9), (12, 181, 12, 16), (12, 190, 12, 19), (12, 193, 12, 22), (12, 234, 12, 26)]
theorem ftab_8_ok : ∀ q ∈ ftab_8, fok q := List.forall_mem_cons.mpr ⟨fo_128, List.forall_mem_cons.mpr ⟨fo_129, List.forall_mem_cons.mpr ⟨fo_130, List.forall_mem_cons.mpr ⟨fo_131, List.forall_mem_cons.mpr ⟨fo_132, List.forall_mem_cons.mpr ⟨fo_133, List.forall_mem_cons.mpr ⟨fo_134, List.forall_mem_cons.mpr ⟨fo_135, List.forall_mem_cons.mpr ⟨fo_136, List.forall_mem_cons.mpr ⟨fo_137, List.forall_mem_cons.mpr ⟨fo_138, List.forall_mem_cons.mpr ⟨fo_139, List.forall_mem_cons.mpr ⟨fo_140, List.forall_mem_cons.mpr ⟨fo_141, List.forall_mem_cons.mpr ⟨fo_142, List.forall_mem_cons.mpr ⟨fo_143, fun _ h => absurd h List.not_mem_nil⟩⟩⟩⟩⟩⟩⟩⟩⟩⟩⟩⟩⟩⟩⟩⟩
def ftab_9 : List (Nat × Nat × Nat × Nat) := [(12, 249, 12, 31), (12, 261, 12, 32), (12, 264, 12, 36), (100, 15, 0, 2), (100, 18, 0, 3), (100, 34, 0, 7), (100, 38, 0, 5), (100, 53, 0, 6), (101, 15, 0, 2), (101, 18, 0, 3), (101, 34, 0, 7), (101, 38, 0, 5), (101, 53, 0, 6), (102, 15, 0, 2), (102, 18, 0, 3), (102, 34, 0, 7)]
theorem ftab_9_ok : ∀ q ∈ ftab_9, fok q := List.forall_mem_cons.mpr ⟨fo_144, List.forall_mem_cons.mpr ⟨fo_145, List.forall_mem_cons.mpr ⟨fo_146, List.forall_mem_cons.mpr ⟨fo_149, List.forall_mem_cons.mpr ⟨fo_150, List.forall_mem_cons.mpr ⟨fo_151, List.forall_mem_cons.mpr ⟨fo_152, List.forall_mem_cons.mpr ⟨fo_153, List.forall_mem_cons.mpr ⟨fo_154, List.forall_mem_cons.mpr ⟨fo_155, List.forall_mem_cons.mpr ⟨fo_156, List.forall_mem_cons.mpr ⟨fo_157, List.forall_mem_cons.mpr ⟨fo_158, List.forall_mem_cons.mpr ⟨fo_159, List.forall_mem_cons.mpr ⟨fo_160, List.forall_mem_cons.mpr ⟨fo_161, fun _ h => absurd h List.not_mem_nil⟩⟩⟩⟩⟩⟩⟩⟩⟩⟩⟩⟩⟩⟩⟩⟩
def ftab_10 : List (Nat × Nat × Nat × Nat) := [(102, 38, 0, 5), (102, 53, 0, 6), (103, 15, 0, 2), (103, 18, 0, 3), (103, 34, 0, 7), (103, 38, 0, 5), (103, 53, 0, 6), (104, 15, 0, 2), (104, 18, 0, 3), (104, 34, 0, 7), (104, 38, 0, 5), (104, 53, 0, 6), (105, 15, 0, 2), (105, 18, 0, 3), (105, 34, 0, 7), (105, 38, 0, 5)]
theorem ftab_10_ok : ∀ q ∈ ftab_10, fok q := List.forall_mem_cons.mpr ⟨fo_162, List.forall_mem_cons.mpr ⟨fo_163, List.forall_mem_cons.mpr ⟨fo_164, List.forall_mem_cons.mpr ⟨fo_165, List.forall_mem_cons.mpr ⟨fo_166, List.forall_mem_cons.mpr ⟨fo_167, List.forall_mem_cons.mpr ⟨fo_168, List.forall_mem_cons.mpr ⟨fo_169, List.forall_mem_cons.mpr ⟨fo_170, List.forall_mem_cons.mpr ⟨fo_171, List.forall_mem_cons.mpr ⟨fo_172, List.forall_mem_cons.mpr ⟨fo_173, List.forall_mem_cons.mpr ⟨fo_174, List.forall_mem_cons.mpr ⟨fo_175, List.forall_mem_cons.mpr ⟨fo_176, List.forall_mem_cons.mpr ⟨fo_177, fun _ h => absurd h List.not_mem_nil⟩⟩⟩⟩⟩⟩⟩⟩⟩⟩⟩⟩⟩⟩⟩⟩
def ftab_11 : List (Nat × Nat × Nat × Nat) := [(105, 53, 0, 6), (106, 15, 0, 2), (106, 18, 0, 3), (106, 34, 0, 7), (106, 38, 0, 5), (106, 53, 0, 6), (107, 15, 0, 2), (107, 18, 0, 3), (107, 34, 0, 7), (107, 38, 0, 5), (107, 53, 0, 6), (108, 15, 0, 2), (108, 18, 0, 3), (108, 34, 0, 7), (108, 38, 0, 5), (108, 53, 0, 6)]
theorem ftab_11_ok : ∀ q ∈ ftab_11, fok q := List.forall_mem_cons.mpr ⟨fo_178, List.forall_mem_cons.mpr ⟨fo_179, List.forall_mem_cons.mpr ⟨fo_180, List.forall_mem_cons.mpr ⟨fo_181, List.forall_mem_cons.mpr ⟨fo_182, List.forall_mem_cons.mpr ⟨fo_183, List.forall_mem_cons.mpr ⟨fo_184, List.forall_mem_cons.mpr ⟨fo_185, List.forall_mem_cons.mpr ⟨fo_186, List.forall_mem_cons.mpr ⟨fo_187, List.forall_mem_cons.mpr ⟨fo_188, List.forall_mem_cons.mpr ⟨fo_189, List.forall_mem_cons.mpr ⟨fo_190, List.forall_mem_cons.mpr ⟨fo_191, List.forall_mem_cons.mpr ⟨fo_192, List.forall_mem_cons.mpr ⟨fo_193, fun _ h => absurd h List.not_mem_nil⟩⟩⟩⟩⟩⟩⟩⟩⟩⟩⟩⟩⟩⟩⟩⟩
def ftab_12 : List (Nat × Nat × Nat × Nat) := [(109, 15, 0, 2), (109, 18, 0, 3), (109, 34, 0, 7), (109, 38, 0, 5), (109, 53, 0, 6), (110, 15, 0, 2), (110, 18, 0, 3), (110, 34, 0, 7), (110, 38, 0, 5), (110, 53, 0, 6), (111, 15, 0, 2), (111, 18, 0, 3), (111, 34, 0, 7), (111, 38, 0, 5), (111, 53, 0, 6), (112, 15, 0, 2)]
theorem ftab_12_ok : ∀ q ∈ ftab_12, fok q := List.forall_mem_cons.mpr ⟨fo_194, List.forall_mem_cons.mpr ⟨fo_195, List.forall_mem_cons.mpr ⟨fo_196, List.forall_mem_cons.mpr ⟨fo_197, List.forall_mem_cons.mpr ⟨fo_198, List.forall_mem_cons.mpr ⟨fo_199, List.forall_mem_cons.mpr ⟨fo_200, List.forall_mem_cons.mpr ⟨fo_201, List.forall_mem_cons.mpr ⟨fo_202, List.forall_mem_cons.mpr ⟨fo_203, List.forall_mem_cons.mpr ⟨fo_204, List.forall_mem_cons.mpr ⟨fo_205, List.forall_mem_cons.mpr ⟨fo_206, List.forall_mem_cons.mpr ⟨fo_207, List.forall_mem_cons.mpr ⟨fo_208, List.forall_mem_cons.mpr ⟨fo_209, fun _ h => absurd h List.not_mem_nil⟩⟩⟩⟩⟩⟩⟩⟩⟩⟩⟩⟩⟩⟩⟩⟩
def ftab_13 : List (Nat × Nat × Nat × Nat) := [(112, 18, 0, 3), (112, 34, 0, 7), (112, 38, 0, 5), (112, 53, 0, 6)]
theorem ftab_13_ok : ∀ q ∈ ftab_13, fok q := List.forall_mem_cons.mpr ⟨fo_210, List.forall_mem_cons.mpr ⟨fo_211, List.forall_mem_cons.mpr ⟨fo_212, List.forall_mem_cons.mpr ⟨fo_213, fun _ h => absurd h List.not_mem_nil⟩⟩⟩⟩
def ftab : List (Nat × Nat × Nat × Nat) := ftab_0 ++ (ftab_1 ++ (ftab_2 ++ (ftab_3 ++ (ftab_4 ++ (ftab_5 ++ (ftab_6 ++ (ftab_7 ++ (ftab_8 ++ (ftab_9 ++ (ftab_10 ++ (ftab_11 ++ (ftab_12 ++ (ftab_13)))))))))))))
theorem ftab_ok : ∀ q ∈ ftab, fok q := List.forall_mem_append.mpr ⟨ftab_0_ok, List.forall_mem_append.mpr ⟨ftab_1_ok, List.forall_mem_append.mpr ⟨ftab_2_ok, List.forall_mem_append.mpr ⟨ftab_3_ok, List.forall_mem_append.mpr ⟨ftab_4_ok, List.forall_mem_append.mpr ⟨ftab_5_ok, List.forall_mem_append.mpr ⟨ftab_6_ok, List.forall_mem_append.mpr ⟨ftab_7_ok, List.forall_mem_append.mpr ⟨ftab_8_ok, List.forall_mem_append.mpr ⟨ftab_9_ok, List.forall_mem_append.mpr ⟨ftab_10_ok, List.forall_mem_append.mpr ⟨ftab_11_ok, List.forall_mem_append.mpr ⟨ftab_12_ok, ftab_13_ok⟩⟩⟩⟩⟩⟩⟩⟩⟩⟩⟩⟩⟩
def ft (c i : Nat) : Option (Nat × Nat) := (ftab.find? (fun q => q.1 == c && q.2.1 == i)).map (fun q => q.2.2)
theorem tab_find {α : Type} {l : List (Nat × Nat × α)} {c i : Nat} {v : α} (h : (l.find? (fun q => q.1 == c && q.2.1 == i)).map (fun q => q.2.2) = some v) : (c, i, v) ∈ l := by
  cases hf : l.find? (fun q => q.1 == c && q.2.1 == i) with
  | none => rw [hf] at h; cases h
  | some q =>
    rw [hf] at h
    have h1 := List.mem_of_find?_eq_some hf
    have h2 := List.find?_some hf
    simp only [Bool.and_eq_true, beq_iff_eq] at h2
    obtain ⟨a, b, d⟩ := q
    cases h
    obtain ⟨rfl, rfl⟩ := h2
    exact h1
def nestw : List Cond := [.methodLinkNest RX2 39 yX11_within RX11, .methodLinkNest RX3 26 yX11_within RX11, .methodLinkNest RX4 74 yX11_within RX11, .methodLinkNest RX6 59 yX11_within RX11, .methodLinkNest RX7 41 yX11_within RX11, .methodLinkNest RX8 106 yX11_within RX11, .methodLinkNest RX9 35 yX11_within RX11]
theorem NST0 : Cond.methodLinkNest RX2 39 yX11_within RX11 ∈ nestw := List.mem_of_getElem? (i := 0) rfl
theorem NST1 : Cond.methodLinkNest RX3 26 yX11_within RX11 ∈ nestw := List.mem_of_getElem? (i := 1) rfl
theorem NST2 : Cond.methodLinkNest RX4 74 yX11_within RX11 ∈ nestw := List.mem_of_getElem? (i := 2) rfl
theorem NST3 : Cond.methodLinkNest RX6 59 yX11_within RX11 ∈ nestw := List.mem_of_getElem? (i := 3) rfl
theorem NST4 : Cond.methodLinkNest RX7 41 yX11_within RX11 ∈ nestw := List.mem_of_getElem? (i := 4) rfl
theorem NST5 : Cond.methodLinkNest RX8 106 yX11_within RX11 ∈ nestw := List.mem_of_getElem? (i := 5) rfl
theorem NST6 : Cond.methodLinkNest RX9 35 yX11_within RX11 ∈ nestw := List.mem_of_getElem? (i := 6) rfl
theorem nestw_in : ∀ w ∈ nestw, w ∈ lw_tbl := List.forall_mem_cons.mpr ⟨List.mem_append_right _ (List.mem_append_right _ (List.mem_append_right _ (List.mem_append_right _ (List.mem_append_left _ (List.mem_of_getElem? (l := tables_1_4) (i := 56) rfl))))), List.forall_mem_cons.mpr ⟨List.mem_append_right _ (List.mem_append_right _ (List.mem_append_right _ (List.mem_append_right _ (List.mem_append_left _ (List.mem_of_getElem? (l := tables_1_4) (i := 116) rfl))))), List.forall_mem_cons.mpr ⟨List.mem_append_right _ (List.mem_append_right _ (List.mem_append_right _ (List.mem_append_left _ (List.mem_of_getElem? (l := tables_1_3) (i := 111) rfl)))), List.forall_mem_cons.mpr ⟨List.mem_append_right _ (List.mem_append_right _ (List.mem_append_right _ (List.mem_append_left _ (List.mem_of_getElem? (l := tables_1_3) (i := 159) rfl)))), List.forall_mem_cons.mpr ⟨List.mem_append_right _ (List.mem_append_right _ (List.mem_append_right _ (List.mem_append_right _ (List.mem_append_right _ (List.mem_append_left _ (List.mem_of_getElem? (l := tables_1_5) (i := 87) rfl)))))), List.forall_mem_cons.mpr ⟨List.mem_append_right _ (List.mem_append_right _ (List.mem_append_right _ (List.mem_append_right _ (List.mem_append_right _ (List.mem_append_left _ (List.mem_of_getElem? (l := tables_1_5) (i := 64) rfl)))))), List.forall_mem_cons.mpr ⟨List.mem_append_right _ (List.mem_append_right _ (List.mem_append_right _ (List.mem_append_right _ (List.mem_append_right _ (List.mem_append_left _ (List.mem_of_getElem? (l := tables_1_5) (i := 31) rfl)))))), fun _ h => absurd h List.not_mem_nil⟩⟩⟩⟩⟩⟩⟩
def cok (q : Nat × Nat × Nat × Nat) : Prop := q.2.2.1 < 263 ∧ (q.2.2.2 = 0 → Cond.methodLink (cn q.1) q.2.1 (mt_y (mq q.2.2.1)) ∈ BIG) ∧ (q.2.2.2 = 1 → Cond.methodLinkNest (cn q.1) q.2.1 (mt_y (mq q.2.2.1)) RX11 ∈ nestw)
theorem cok_1 : cok (0, 23, 98, 0) := ⟨by decide, fun _ => by rw [me_98]; exact w_366, fun h => absurd h (by decide)⟩
theorem cok_2 : cok (0, 41, 48, 0) := ⟨by decide, fun _ => by rw [me_48]; exact w_953, fun h => absurd h (by decide)⟩
theorem cok_4 : cok (0, 57, 2, 0) := ⟨by decide, fun _ => by rw [me_2]; exact w_956, fun h => absurd h (by decide)⟩
theorem cok_5 : cok (0, 60, 102, 0) := ⟨by decide, fun _ => by rw [me_102]; exact w_961, fun h => absurd h (by decide)⟩
theorem cok_6 : cok (0, 64, 250, 0) := ⟨by decide, fun _ => by rw [me_250]; exact w_962, fun h => absurd h (by decide)⟩
theorem cok_7 : cok (0, 70, 103, 0) := ⟨by decide, fun _ => by rw [me_103]; exact w_960, fun h => absurd h (by decide)⟩
theorem cok_9 : cok (1, 15, 103, 0) := ⟨by decide, fun _ => by rw [me_103]; exact w_590, fun h => absurd h (by decide)⟩
theorem cok_10 : cok (1, 21, 8, 0) := ⟨by decide, fun _ => by rw [me_8]; exact w_693, fun h => absurd h (by decide)⟩
theorem cok_11 : cok (1, 25, 19, 0) := ⟨by decide, fun _ => by rw [me_19]; exact w_694, fun h => absurd h (by decide)⟩
theorem cok_12 : cok (1, 32, 20, 0) := ⟨by decide, fun _ => by rw [me_20]; exact w_943, fun h => absurd h (by decide)⟩
theorem cok_13 : cok (1, 35, 102, 0) := ⟨by decide, fun _ => by rw [me_102]; exact w_600, fun h => absurd h (by decide)⟩
theorem cok_14 : cok (1, 39, 11, 0) := ⟨by decide, fun _ => by rw [me_11]; exact w_605, fun h => absurd h (by decide)⟩
theorem cok_15 : cok (1, 43, 13, 0) := ⟨by decide, fun _ => by rw [me_13]; exact w_613, fun h => absurd h (by decide)⟩
theorem cok_16 : cok (1, 47, 105, 0) := ⟨by decide, fun _ => by rw [me_105]; exact w_595, fun h => absurd h (by decide)⟩
theorem cok_17 : cok (1, 50, 10, 0) := ⟨by decide, fun _ => by rw [me_10]; exact w_601, fun h => absurd h (by decide)⟩
theorem cok_18 : cok (1, 54, 12, 0) := ⟨by decide, fun _ => by rw [me_12]; exact w_609, fun h => absurd h (by decide)⟩
theorem cok_19 : cok (1, 57, 14, 0) := ⟨by decide, fun _ => by rw [me_14]; exact w_617, fun h => absurd h (by decide)⟩
theorem cok_20 : cok (1, 61, 15, 0) := ⟨by decide, fun _ => by rw [me_15]; exact w_621, fun h => absurd h (by decide)⟩
theorem cok_21 : cok (1, 65, 17, 0) := ⟨by decide, fun _ => by rw [me_17]; exact w_629, fun h => absurd h (by decide)⟩
theorem cok_22 : cok (1, 69, 18, 0) := ⟨by decide, fun _ => by rw [me_18]; exact w_633, fun h => absurd h (by decide)⟩
theorem cok_23 : cok (1, 72, 16, 0) := ⟨by decide, fun _ => by rw [me_16]; exact w_625, fun h => absurd h (by decide)⟩
theorem cok_25 : cok (2, 39, 112, 1) := ⟨by decide, fun h => absurd h (by decide), fun _ => by rw [me_112]; exact NST0⟩
theorem cok_26 : cok (2, 43, 25, 0) := ⟨by decide, fun _ => by rw [me_25]; exact w_738, fun h => absurd h (by decide)⟩
theorem cok_27 : cok (2, 58, 26, 0) := ⟨by decide, fun _ => by rw [me_26]; exact w_744, fun h => absurd h (by decide)⟩
theorem cok_28 : cok (2, 64, 27, 0) := ⟨by decide, fun _ => by rw [me_27]; exact w_748, fun h => absurd h (by decide)⟩
theorem cok_29 : cok (2, 72, 35, 0) := ⟨by decide, fun _ => by rw [me_35]; exact w_863, fun h => absurd h (by decide)⟩
theorem cok_30 : cok (2, 75, 103, 0) := ⟨by decide, fun _ => by rw [me_103]; exact w_742, fun h => absurd h (by decide)⟩
theorem cok_32 : cok (2, 86, 28, 0) := ⟨by decide, fun _ => by rw [me_28]; exact w_752, fun h => absurd h (by decide)⟩
theorem cok_33 : cok (2, 89, 29, 0) := ⟨by decide, fun _ => by rw [me_29]; exact w_756, fun h => absurd h (by decide)⟩
theorem cok_34 : cok (2, 93, 30, 0) := ⟨by decide, fun _ => by rw [me_30]; exact w_759, fun h => absurd h (by decide)⟩
theorem cok_35 : cok (2, 96, 33, 0) := ⟨by decide, fun _ => by rw [me_33]; exact w_771, fun h => absurd h (by decide)⟩
theorem cok_36 : cok (2, 100, 34, 0) := ⟨by decide, fun _ => by rw [me_34]; exact w_859, fun h => absurd h (by decide)⟩
theorem cok_37 : cok (2, 103, 31, 0) := ⟨by decide, fun _ => by rw [me_31]; exact w_763, fun h => absurd h (by decide)⟩
theorem cok_38 : cok (2, 107, 32, 0) := ⟨by decide, fun _ => by rw [me_32]; exact w_767, fun h => absurd h (by decide)⟩
theorem cok_39 : cok (2, 113, 243, 0) := ⟨by decide, fun _ => by rw [me_243]; exact w_776, fun h => absurd h (by decide)⟩
theorem cok_41 : cok (3, 26, 112, 1) := ⟨by decide, fun h => absurd h (by decide), fun _ => by rw [me_112]; exact NST1⟩
theorem cok_42 : cok (3, 30, 241, 0) := ⟨by decide, fun _ => by rw [me_241]; exact w_919, fun h => absurd h (by decide)⟩
theorem cok_43 : cok (3, 36, 40, 0) := ⟨by decide, fun _ => by rw [me_40]; exact w_920, fun h => absurd h (by decide)⟩
theorem cok_44 : cok (3, 39, 48, 0) := ⟨by decide, fun _ => by rw [me_48]; exact w_927, fun h => absurd h (by decide)⟩
theorem cok_45 : cok (3, 45, 42, 0) := ⟨by decide, fun _ => by rw [me_42]; exact w_931, fun h => absurd h (by decide)⟩
theorem cok_46 : cok (3, 49, 43, 0) := ⟨by decide, fun _ => by rw [me_43]; exact w_935, fun h => absurd h (by decide)⟩
theorem cok_47 : cok (3, 53, 21, 0) := ⟨by decide, fun _ => by rw [me_21]; exact w_939, fun h => absurd h (by decide)⟩
theorem cok_49 : cok (4, 11, 98, 0) := ⟨by decide, fun _ => by rw [me_98]; exact w_120, fun h => absurd h (by decide)⟩
theorem cok_50 : cok (4, 58, 99, 0) := ⟨by decide, fun _ => by rw [me_99]; exact w_149, fun h => absurd h (by decide)⟩
theorem cok_51 : cok (4, 61, 106, 0) := ⟨by decide, fun _ => by rw [me_106]; exact w_1147, fun h => absurd h (by decide)⟩
theorem cok_52 : cok (4, 68, 241, 0) := ⟨by decide, fun _ => by rw [me_241]; exact w_667, fun h => absurd h (by decide)⟩
theorem cok_53 : cok (4, 74, 112, 1) := ⟨by decide, fun h => absurd h (by decide), fun _ => by rw [me_112]; exact NST2⟩
theorem cok_54 : cok (4, 80, 104, 0) := ⟨by decide, fun _ => by rw [me_104]; exact w_575, fun h => absurd h (by decide)⟩
theorem cok_55 : cok (4, 84, 103, 0) := ⟨by decide, fun _ => by rw [me_103]; exact w_576, fun h => absurd h (by decide)⟩
theorem cok_56 : cok (4, 88, 46, 0) := ⟨by decide, fun _ => by rw [me_46]; exact w_577, fun h => absurd h (by decide)⟩
theorem cok_58 : cok (5, 21, 103, 0) := ⟨by decide, fun _ => by rw [me_103]; exact w_495, fun h => absurd h (by decide)⟩
theorem cok_59 : cok (5, 46, 53, 0) := ⟨by decide, fun _ => by rw [me_53]; exact w_510, fun h => absurd h (by decide)⟩
theorem cok_60 : cok (5, 50, 54, 0) := ⟨by decide, fun _ => by rw [me_54]; exact w_514, fun h => absurd h (by decide)⟩
theorem cok_61 : cok (5, 54, 55, 0) := ⟨by decide, fun _ => by rw [me_55]; exact w_518, fun h => absurd h (by decide)⟩
theorem cok_62 : cok (5, 57, 56, 0) := ⟨by decide, fun _ => by rw [me_56]; exact w_522, fun h => absurd h (by decide)⟩
theorem cok_63 : cok (5, 60, 58, 0) := ⟨by decide, fun _ => by rw [me_58]; exact w_534, fun h => absurd h (by decide)⟩
theorem cok_65 : cok (5, 69, 59, 0) := ⟨by decide, fun _ => by rw [me_59]; exact w_541, fun h => absurd h (by decide)⟩
theorem cok_67 : cok (5, 75, 52, 0) := ⟨by decide, fun _ => by rw [me_52]; exact w_547, fun h => absurd h (by decide)⟩
theorem cok_69 : cok (6, 15, 98, 0) := ⟨by decide, fun _ => by rw [me_98]; exact w_314, fun h => absurd h (by decide)⟩
theorem cok_70 : cok (6, 45, 62, 0) := ⟨by decide, fun _ => by rw [me_62]; exact w_683, fun h => absurd h (by decide)⟩
theorem cok_71 : cok (6, 48, 64, 0) := ⟨by decide, fun _ => by rw [me_64]; exact w_700, fun h => absurd h (by decide)⟩
theorem cok_72 : cok (6, 52, 66, 0) := ⟨by decide, fun _ => by rw [me_66]; exact w_712, fun h => absurd h (by decide)⟩
theorem cok_73 : cok (6, 59, 112, 1) := ⟨by decide, fun h => absurd h (by decide), fun _ => by rw [me_112]; exact NST3⟩
theorem cok_74 : cok (6, 63, 69, 0) := ⟨by decide, fun _ => by rw [me_69]; exact w_878, fun h => absurd h (by decide)⟩
theorem cok_75 : cok (6, 67, 71, 0) := ⟨by decide, fun _ => by rw [me_71]; exact w_895, fun h => absurd h (by decide)⟩
theorem cok_77 : cok (6, 79, 99, 0) := ⟨by decide, fun _ => by rw [me_99]; exact w_687, fun h => absurd h (by decide)⟩
theorem cok_78 : cok (6, 86, 103, 0) := ⟨by decide, fun _ => by rw [me_103]; exact w_688, fun h => absurd h (by decide)⟩
theorem cok_79 : cok (6, 89, 20, 0) := ⟨by decide, fun _ => by rw [me_20]; exact w_689, fun h => absurd h (by decide)⟩
theorem cok_80 : cok (6, 93, 63, 0) := ⟨by decide, fun _ => by rw [me_63]; exact w_695, fun h => absurd h (by decide)⟩
theorem cok_81 : cok (6, 96, 105, 0) := ⟨by decide, fun _ => by rw [me_105]; exact w_699, fun h => absurd h (by decide)⟩
theorem cok_82 : cok (6, 103, 45, 0) := ⟨by decide, fun _ => by rw [me_45]; exact w_716, fun h => absurd h (by decide)⟩
theorem cok_83 : cok (6, 107, 67, 0) := ⟨by decide, fun _ => by rw [me_67]; exact w_717, fun h => absurd h (by decide)⟩
theorem cok_84 : cok (6, 110, 36, 0) := ⟨by decide, fun _ => by rw [me_36]; exact w_882, fun h => absurd h (by decide)⟩
theorem cok_85 : cok (6, 115, 24, 0) := ⟨by decide, fun _ => by rw [me_24]; exact w_886, fun h => absurd h (by decide)⟩
theorem cok_88 : cok (7, 38, 103, 0) := ⟨by decide, fun _ => by rw [me_103]; exact w_1128, fun h => absurd h (by decide)⟩
theorem cok_89 : cok (7, 41, 112, 1) := ⟨by decide, fun h => absurd h (by decide), fun _ => by rw [me_112]; exact NST4⟩
theorem cok_90 : cok (7, 47, 75, 0) := ⟨by decide, fun _ => by rw [me_75]; exact w_1130, fun h => absurd h (by decide)⟩
theorem cok_91 : cok (7, 51, 74, 0) := ⟨by decide, fun _ => by rw [me_74]; exact w_1138, fun h => absurd h (by decide)⟩
theorem cok_94 : cok (8, 46, 241, 0) := ⟨by decide, fun _ => by rw [me_241]; exact w_996, fun h => absurd h (by decide)⟩
theorem cok_95 : cok (8, 52, 80, 0) := ⟨by decide, fun _ => by rw [me_80]; exact w_1001, fun h => absurd h (by decide)⟩
theorem cok_96 : cok (8, 59, 83, 0) := ⟨by decide, fun _ => by rw [me_83]; exact w_1014, fun h => absurd h (by decide)⟩
theorem cok_97 : cok (8, 65, 85, 0) := ⟨by decide, fun _ => by rw [me_85]; exact w_1022, fun h => absurd h (by decide)⟩
theorem cok_98 : cok (8, 68, 81, 0) := ⟨by decide, fun _ => by rw [me_81]; exact w_1005, fun h => absurd h (by decide)⟩
theorem cok_99 : cok (8, 73, 103, 0) := ⟨by decide, fun _ => by rw [me_103]; exact w_1009, fun h => absurd h (by decide)⟩
theorem cok_100 : cok (8, 76, 82, 0) := ⟨by decide, fun _ => by rw [me_82]; exact w_1010, fun h => absurd h (by decide)⟩
theorem cok_101 : cok (8, 83, 84, 0) := ⟨by decide, fun _ => by rw [me_84]; exact w_1018, fun h => absurd h (by decide)⟩
theorem cok_102 : cok (8, 87, 105, 0) := ⟨by decide, fun _ => by rw [me_105]; exact w_1038, fun h => absurd h (by decide)⟩
theorem cok_103 : cok (8, 94, 89, 0) := ⟨by decide, fun _ => by rw [me_89]; exact w_1095, fun h => absurd h (by decide)⟩
theorem cok_104 : cok (8, 97, 90, 0) := ⟨by decide, fun _ => by rw [me_90]; exact w_1099, fun h => absurd h (by decide)⟩
theorem cok_106 : cok (8, 103, 91, 0) := ⟨by decide, fun _ => by rw [me_91]; exact w_1103, fun h => absurd h (by decide)⟩
theorem cok_107 : cok (8, 106, 112, 1) := ⟨by decide, fun h => absurd h (by decide), fun _ => by rw [me_112]; exact NST5⟩
theorem cok_109 : cok (9, 23, 95, 0) := ⟨by decide, fun _ => by rw [me_95]; exact w_1063, fun h => absurd h (by decide)⟩
theorem cok_110 : cok (9, 30, 103, 0) := ⟨by decide, fun _ => by rw [me_103]; exact w_1068, fun h => absurd h (by decide)⟩
theorem cok_111 : cok (9, 35, 112, 1) := ⟨by decide, fun h => absurd h (by decide), fun _ => by rw [me_112]; exact NST6⟩
theorem cok_112 : cok (9, 41, 94, 0) := ⟨by decide, fun _ => by rw [me_94]; exact w_1082, fun h => absurd h (by decide)⟩
theorem cok_115 : cok (10, 31, 103, 0) := ⟨by decide, fun _ => by rw [me_103]; exact w_599, fun h => absurd h (by decide)⟩
theorem cok_116 : cok (10, 34, 102, 0) := ⟨by decide, fun _ => by rw [me_102]; exact w_161, fun h => absurd h (by decide)⟩
theorem cok_117 : cok (10, 38, 101, 0) := ⟨by decide, fun _ => by rw [me_101]; exact w_157, fun h => absurd h (by decide)⟩
theorem cok_118 : cok (10, 42, 100, 0) := ⟨by decide, fun _ => by rw [me_100]; exact w_153, fun h => absurd h (by decide)⟩
theorem cok_122 : cok (11, 9, 44, 0) := ⟨by decide, fun _ => by rw [me_44]; exact w_114, fun h => absurd h (by decide)⟩
theorem cok_123 : cok (11, 26, 50, 0) := ⟨by decide, fun _ => by rw [me_50]; exact w_219, fun h => absurd h (by decide)⟩
theorem cok_124 : cok (11, 38, 7, 0) := ⟨by decide, fun _ => by rw [me_7]; exact w_250, fun h => absurd h (by decide)⟩
theorem cok_125 : cok (11, 47, 23, 0) := ⟨by decide, fun _ => by rw [me_23]; exact w_260, fun h => absurd h (by decide)⟩
theorem cok_126 : cok (11, 54, 60, 0) := ⟨by decide, fun _ => by rw [me_60]; exact w_309, fun h => absurd h (by decide)⟩
theorem cok_127 : cok (11, 63, 38, 0) := ⟨by decide, fun _ => by rw [me_38]; exact w_342, fun h => absurd h (by decide)⟩
theorem cok_128 : cok (11, 72, 0, 0) := ⟨by decide, fun _ => by rw [me_0]; exact w_361, fun h => absurd h (by decide)⟩
theorem cok_129 : cok (11, 81, 77, 0) := ⟨by decide, fun _ => by rw [me_77]; exact w_394, fun h => absurd h (by decide)⟩
theorem cok_130 : cok (11, 91, 92, 0) := ⟨by decide, fun _ => by rw [me_92]; exact w_419, fun h => absurd h (by decide)⟩
theorem cok_131 : cok (11, 98, 73, 0) := ⟨by decide, fun _ => by rw [me_73]; exact w_432, fun h => absurd h (by decide)⟩
theorem cok_132 : cok (11, 109, 111, 0) := ⟨by decide, fun _ => by rw [me_111]; exact w_485, fun h => absurd h (by decide)⟩
theorem cok_133 : cok (11, 113, 112, 0) := ⟨by decide, fun _ => by rw [me_112]; exact w_488, fun h => absurd h (by decide)⟩
theorem cok_134 : cok (11, 117, 51, 0) := ⟨by decide, fun _ => by rw [me_51]; exact w_491, fun h => absurd h (by decide)⟩
theorem cok_135 : cok (11, 121, 101, 0) := ⟨by decide, fun _ => by rw [me_101]; exact w_499, fun h => absurd h (by decide)⟩
theorem cok_136 : cok (11, 125, 100, 0) := ⟨by decide, fun _ => by rw [me_100]; exact w_500, fun h => absurd h (by decide)⟩
theorem cok_137 : cok (11, 128, 102, 0) := ⟨by decide, fun _ => by rw [me_102]; exact w_501, fun h => absurd h (by decide)⟩
theorem cok_138 : cok (11, 132, 52, 0) := ⟨by decide, fun _ => by rw [me_52]; exact w_506, fun h => absurd h (by decide)⟩
theorem cok_139 : cok (11, 136, 57, 0) := ⟨by decide, fun _ => by rw [me_57]; exact w_530, fun h => absurd h (by decide)⟩
theorem cok_140 : cok (11, 140, 116, 0) := ⟨by decide, fun _ => by rw [me_116]; exact w_552, fun h => absurd h (by decide)⟩
theorem cok_141 : cok (11, 144, 117, 0) := ⟨by decide, fun _ => by rw [me_117]; exact w_555, fun h => absurd h (by decide)⟩
theorem cok_142 : cok (11, 150, 104, 0) := ⟨by decide, fun _ => by rw [me_104]; exact w_562, fun h => absurd h (by decide)⟩
theorem cok_143 : cok (11, 153, 103, 0) := ⟨by decide, fun _ => by rw [me_103]; exact w_566, fun h => absurd h (by decide)⟩
theorem cok_144 : cok (11, 156, 45, 0) := ⟨by decide, fun _ => by rw [me_45]; exact w_571, fun h => absurd h (by decide)⟩
theorem cok_145 : cok (11, 160, 8, 0) := ⟨by decide, fun _ => by rw [me_8]; exact w_586, fun h => absurd h (by decide)⟩
theorem cok_146 : cok (11, 163, 9, 0) := ⟨by decide, fun _ => by rw [me_9]; exact w_591, fun h => absurd h (by decide)⟩
theorem cok_147 : cok (11, 167, 12, 0) := ⟨by decide, fun _ => by rw [me_12]; exact w_641, fun h => absurd h (by decide)⟩
theorem cok_148 : cok (11, 170, 13, 0) := ⟨by decide, fun _ => by rw [me_13]; exact w_646, fun h => absurd h (by decide)⟩
theorem cok_149 : cok (11, 174, 19, 0) := ⟨by decide, fun _ => by rw [me_19]; exact w_651, fun h => absurd h (by decide)⟩
theorem cok_150 : cok (11, 177, 47, 0) := ⟨by decide, fun _ => by rw [me_47]; exact w_663, fun h => absurd h (by decide)⟩
theorem cok_151 : cok (11, 183, 61, 0) := ⟨by decide, fun _ => by rw [me_61]; exact w_679, fun h => absurd h (by decide)⟩
theorem cok_152 : cok (11, 187, 65, 0) := ⟨by decide, fun _ => by rw [me_65]; exact w_708, fun h => absurd h (by decide)⟩
theorem cok_153 : cok (11, 190, 24, 0) := ⟨by decide, fun _ => by rw [me_24]; exact w_734, fun h => absurd h (by decide)⟩
theorem cok_154 : cok (11, 197, 68, 0) := ⟨by decide, fun _ => by rw [me_68]; exact w_874, fun h => absurd h (by decide)⟩
theorem cok_155 : cok (11, 201, 70, 0) := ⟨by decide, fun _ => by rw [me_70]; exact w_891, fun h => absurd h (by decide)⟩
theorem cok_156 : cok (11, 204, 72, 0) := ⟨by decide, fun _ => by rw [me_72]; exact w_903, fun h => absurd h (by decide)⟩
theorem cok_157 : cok (11, 207, 39, 0) := ⟨by decide, fun _ => by rw [me_39]; exact w_914, fun h => absurd h (by decide)⟩
theorem cok_158 : cok (11, 210, 41, 0) := ⟨by decide, fun _ => by rw [me_41]; exact w_923, fun h => absurd h (by decide)⟩
theorem cok_159 : cok (11, 213, 46, 0) := ⟨by decide, fun _ => by rw [me_46]; exact w_948, fun h => absurd h (by decide)⟩
theorem cok_160 : cok (11, 216, 1, 0) := ⟨by decide, fun _ => by rw [me_1]; exact w_949, fun h => absurd h (by decide)⟩
theorem cok_161 : cok (11, 219, 5, 0) := ⟨by decide, fun _ => by rw [me_5]; exact w_975, fun h => absurd h (by decide)⟩
theorem cok_162 : cok (11, 222, 6, 0) := ⟨by decide, fun _ => by rw [me_6]; exact w_979, fun h => absurd h (by decide)⟩
theorem cok_163 : cok (11, 227, 78, 0) := ⟨by decide, fun _ => by rw [me_78]; exact w_991, fun h => absurd h (by decide)⟩
theorem cok_164 : cok (11, 230, 79, 0) := ⟨by decide, fun _ => by rw [me_79]; exact w_997, fun h => absurd h (by decide)⟩
theorem cok_165 : cok (11, 233, 86, 0) := ⟨by decide, fun _ => by rw [me_86]; exact w_1026, fun h => absurd h (by decide)⟩
theorem cok_166 : cok (11, 236, 87, 0) := ⟨by decide, fun _ => by rw [me_87]; exact w_1034, fun h => absurd h (by decide)⟩
theorem cok_167 : cok (11, 239, 93, 0) := ⟨by decide, fun _ => by rw [me_93]; exact w_1051, fun h => absurd h (by decide)⟩
theorem cok_168 : cok (11, 242, 94, 0) := ⟨by decide, fun _ => by rw [me_94]; exact w_1057, fun h => absurd h (by decide)⟩
theorem cok_169 : cok (11, 245, 96, 0) := ⟨by decide, fun _ => by rw [me_96]; exact w_1069, fun h => absurd h (by decide)⟩
theorem cok_170 : cok (11, 248, 97, 0) := ⟨by decide, fun _ => by rw [me_97]; exact w_1078, fun h => absurd h (by decide)⟩
theorem cok_171 : cok (11, 254, 88, 0) := ⟨by decide, fun _ => by rw [me_88]; exact w_1091, fun h => absurd h (by decide)⟩
theorem cok_172 : cok (11, 257, 146, 0) := ⟨by decide, fun _ => by rw [me_146]; exact w_1112, fun h => absurd h (by decide)⟩
theorem cok_173 : cok (11, 266, 74, 0) := ⟨by decide, fun _ => by rw [me_74]; exact w_1123, fun h => absurd h (by decide)⟩
theorem cok_174 : cok (11, 269, 76, 0) := ⟨by decide, fun _ => by rw [me_76]; exact w_1134, fun h => absurd h (by decide)⟩
theorem cok_175 : cok (11, 272, 49, 0) := ⟨by decide, fun _ => by rw [me_49]; exact w_1143, fun h => absurd h (by decide)⟩
theorem cok_176 : cok (11, 275, 22, 0) := ⟨by decide, fun _ => by rw [me_22]; exact w_1161, fun h => absurd h (by decide)⟩
theorem cok_177 : cok (11, 282, 151, 0) := ⟨by decide, fun _ => by rw [me_151]; exact w_1171, fun h => absurd h (by decide)⟩
theorem cok_178 : cok (11, 285, 107, 0) := ⟨by decide, fun _ => by rw [me_107]; exact w_1172, fun h => absurd h (by decide)⟩
theorem cok_179 : cok (11, 289, 37, 0) := ⟨by decide, fun _ => by rw [me_37]; exact w_1177, fun h => absurd h (by decide)⟩
theorem cok_181 : cok (12, 109, 156, 0) := ⟨by decide, fun _ => by rw [me_156]; exact w_1321, fun h => absurd h (by decide)⟩
theorem cok_182 : cok (12, 113, 157, 0) := ⟨by decide, fun _ => by rw [me_157]; exact w_1324, fun h => absurd h (by decide)⟩
theorem cok_183 : cok (12, 117, 159, 0) := ⟨by decide, fun _ => by rw [me_159]; exact w_1332, fun h => absurd h (by decide)⟩
theorem cok_184 : cok (12, 121, 161, 0) := ⟨by decide, fun _ => by rw [me_161]; exact w_1340, fun h => absurd h (by decide)⟩
theorem cok_185 : cok (12, 124, 164, 0) := ⟨by decide, fun _ => by rw [me_164]; exact w_1352, fun h => absurd h (by decide)⟩
theorem cok_186 : cok (12, 128, 165, 0) := ⟨by decide, fun _ => by rw [me_165]; exact w_1356, fun h => absurd h (by decide)⟩
theorem cok_187 : cok (12, 139, 170, 0) := ⟨by decide, fun _ => by rw [me_170]; exact w_1377, fun h => absurd h (by decide)⟩
theorem cok_188 : cok (12, 143, 173, 0) := ⟨by decide, fun _ => by rw [me_173]; exact w_1389, fun h => absurd h (by decide)⟩
theorem cok_189 : cok (12, 147, 168, 0) := ⟨by decide, fun _ => by rw [me_168]; exact w_1368, fun h => absurd h (by decide)⟩
theorem cok_190 : cok (12, 150, 171, 0) := ⟨by decide, fun _ => by rw [me_171]; exact w_1381, fun h => absurd h (by decide)⟩
theorem cok_191 : cok (12, 153, 172, 0) := ⟨by decide, fun _ => by rw [me_172]; exact w_1385, fun h => absurd h (by decide)⟩
theorem cok_192 : cok (12, 158, 169, 0) := ⟨by decide, fun _ => by rw [me_169]; exact w_1373, fun h => absurd h (by decide)⟩
theorem cok_193 : cok (12, 161, 178, 0) := ⟨by decide, fun _ => by rw [me_178]; exact w_1409, fun h => absurd h (by decide)⟩
theorem cok_194 : cok (12, 164, 180, 0) := ⟨by decide, fun _ => by rw [me_180]; exact w_1417, fun h => absurd h (by decide)⟩
theorem cok_195 : cok (12, 168, 181, 0) := ⟨by decide, fun _ => by rw [me_181]; exact w_1421, fun h => absurd h (by decide)⟩
theorem cok_196 : cok (12, 171, 183, 0) := ⟨by decide, fun _ => by rw [me_183]; exact w_1428, fun h => absurd h (by decide)⟩
theorem cok_197 : cok (12, 175, 184, 0) := ⟨by decide, fun _ => by rw [me_184]; exact w_1433, fun h => absurd h (by decide)⟩
theorem cok_198 : cok (12, 178, 185, 0) := ⟨by decide, fun _ => by rw [me_185]; exact w_1437, fun h => absurd h (by decide)⟩
theorem cok_199 : cok (12, 184, 188, 0) := ⟨by decide, fun _ => by rw [me_188]; exact w_1449, fun h => absurd h (by decide)⟩
theorem cok_200 : cok (12, 187, 187, 0) := ⟨by decide, fun _ => by rw [me_187]; exact w_1445, fun h => absurd h (by decide)⟩
theorem cok_201 : cok (12, 196, 196, 0) := ⟨by decide, fun _ => by rw [me_196]; exact w_1480, fun h => absurd h (by decide)⟩
theorem cok_202 : cok (12, 199, 197, 0) := ⟨by decide, fun _ => by rw [me_197]; exact w_1483, fun h => absurd h (by decide)⟩
theorem cok_203 : cok (12, 203, 195, 0) := ⟨by decide, fun _ => by rw [me_195]; exact w_1476, fun h => absurd h (by decide)⟩
theorem cok_204 : cok (12, 206, 198, 0) := ⟨by decide, fun _ => by rw [me_198]; exact w_1487, fun h => absurd h (by decide)⟩
theorem cok_205 : cok (12, 209, 199, 0) := ⟨by decide, fun _ => by rw [me_199]; exact w_1490, fun h => absurd h (by decide)⟩
theorem cok_206 : cok (12, 212, 200, 0) := ⟨by decide, fun _ => by rw [me_200]; exact w_1494, fun h => absurd h (by decide)⟩
theorem cok_207 : cok (12, 215, 203, 0) := ⟨by decide, fun _ => by rw [me_203]; exact w_1507, fun h => absurd h (by decide)⟩
theorem cok_208 : cok (12, 219, 191, 0) := ⟨by decide, fun _ => by rw [me_191]; exact w_1461, fun h => absurd h (by decide)⟩
theorem cok_209 : cok (12, 223, 194, 0) := ⟨by decide, fun _ => by rw [me_194]; exact w_1472, fun h => absurd h (by decide)⟩
theorem cok_210 : cok (12, 230, 202, 0) := ⟨by decide, fun _ => by rw [me_202]; exact w_1503, fun h => absurd h (by decide)⟩
theorem cok_211 : cok (12, 237, 206, 0) := ⟨by decide, fun _ => by rw [me_206]; exact w_1519, fun h => absurd h (by decide)⟩
theorem cok_212 : cok (12, 240, 207, 0) := ⟨by decide, fun _ => by rw [me_207]; exact w_1523, fun h => absurd h (by decide)⟩
theorem cok_213 : cok (12, 243, 208, 0) := ⟨by decide, fun _ => by rw [me_208]; exact w_1527, fun h => absurd h (by decide)⟩
theorem cok_214 : cok (12, 246, 213, 0) := ⟨by decide, fun _ => by rw [me_213]; exact w_1547, fun h => absurd h (by decide)⟩
theorem cok_215 : cok (12, 252, 211, 0) := ⟨by decide, fun _ => by rw [me_211]; exact w_1539, fun h => absurd h (by decide)⟩
theorem cok_216 : cok (12, 255, 212, 0) := ⟨by decide, fun _ => by rw [me_212]; exact w_1543, fun h => absurd h (by decide)⟩
theorem cok_217 : cok (12, 258, 210, 0) := ⟨by decide, fun _ => by rw [me_210]; exact w_1535, fun h => absurd h (by decide)⟩
theorem cok_218 : cok (12, 267, 218, 0) := ⟨by decide, fun _ => by rw [me_218]; exact w_1567, fun h => absurd h (by decide)⟩
theorem cok_219 : cok (12, 270, 216, 0) := ⟨by decide, fun _ => by rw [me_216]; exact w_1559, fun h => absurd h (by decide)⟩
theorem cok_220 : cok (12, 273, 217, 0) := ⟨by decide, fun _ => by rw [me_217]; exact w_1563, fun h => absurd h (by decide)⟩
theorem cok_221 : cok (12, 276, 225, 0) := ⟨by decide, fun _ => by rw [me_225]; exact w_1594, fun h => absurd h (by decide)⟩
theorem cok_222 : cok (12, 279, 226, 0) := ⟨by decide, fun _ => by rw [me_226]; exact w_1597, fun h => absurd h (by decide)⟩
theorem cok_223 : cok (12, 282, 223, 0) := ⟨by decide, fun _ => by rw [me_223]; exact w_1587, fun h => absurd h (by decide)⟩
theorem cok_224 : cok (12, 285, 224, 0) := ⟨by decide, fun _ => by rw [me_224]; exact w_1590, fun h => absurd h (by decide)⟩
theorem cok_225 : cok (12, 290, 230, 0) := ⟨by decide, fun _ => by rw [me_230]; exact w_1612, fun h => absurd h (by decide)⟩
theorem cok_226 : cok (12, 293, 234, 0) := ⟨by decide, fun _ => by rw [me_234]; exact w_1629, fun h => absurd h (by decide)⟩
theorem cok_227 : cok (12, 297, 238, 0) := ⟨by decide, fun _ => by rw [me_238]; exact w_1645, fun h => absurd h (by decide)⟩
theorem cok_228 : cok (12, 304, 240, 0) := ⟨by decide, fun _ => by rw [me_240]; exact w_1655, fun h => absurd h (by decide)⟩
theorem cok_229 : cok (13, 9, 108, 0) := ⟨by decide, fun _ => by rw [me_108]; exact w_106, fun h => absurd h (by decide)⟩
theorem cok_230 : cok (13, 12, 153, 0) := ⟨by decide, fun _ => by rw [me_153]; exact w_1184, fun h => absurd h (by decide)⟩
theorem cok_231 : cok (13, 13, 109, 0) := ⟨by decide, fun _ => by rw [me_109]; exact w_477, fun h => absurd h (by decide)⟩
theorem cok_232 : cok (13, 17, 154, 0) := ⟨by decide, fun _ => by rw [me_154]; exact w_1313, fun h => absurd h (by decide)⟩
theorem cok_233 : cok (13, 18, 110, 0) := ⟨by decide, fun _ => by rw [me_110]; exact w_481, fun h => absurd h (by decide)⟩
theorem cok_234 : cok (13, 22, 155, 0) := ⟨by decide, fun _ => by rw [me_155]; exact w_1317, fun h => absurd h (by decide)⟩
theorem cok_235 : cok (13, 23, 113, 0) := ⟨by decide, fun _ => by rw [me_113]; exact w_502, fun h => absurd h (by decide)⟩
theorem cok_236 : cok (13, 27, 158, 0) := ⟨by decide, fun _ => by rw [me_158]; exact w_1328, fun h => absurd h (by decide)⟩
theorem cok_237 : cok (13, 28, 114, 0) := ⟨by decide, fun _ => by rw [me_114]; exact w_526, fun h => absurd h (by decide)⟩
theorem cok_238 : cok (13, 32, 160, 0) := ⟨by decide, fun _ => by rw [me_160]; exact w_1336, fun h => absurd h (by decide)⟩
theorem cok_239 : cok (13, 33, 115, 0) := ⟨by decide, fun _ => by rw [me_115]; exact w_548, fun h => absurd h (by decide)⟩
theorem cok_240 : cok (13, 36, 162, 0) := ⟨by decide, fun _ => by rw [me_162]; exact w_1344, fun h => absurd h (by decide)⟩
theorem cok_241 : cok (13, 37, 118, 0) := ⟨by decide, fun _ => by rw [me_118]; exact w_558, fun h => absurd h (by decide)⟩
theorem cok_242 : cok (13, 40, 163, 0) := ⟨by decide, fun _ => by rw [me_163]; exact w_1348, fun h => absurd h (by decide)⟩
theorem cok_243 : cok (13, 41, 119, 0) := ⟨by decide, fun _ => by rw [me_119]; exact w_567, fun h => absurd h (by decide)⟩
theorem cok_244 : cok (13, 45, 166, 0) := ⟨by decide, fun _ => by rw [me_166]; exact w_1360, fun h => absurd h (by decide)⟩
theorem cok_245 : cok (13, 46, 120, 0) := ⟨by decide, fun _ => by rw [me_120]; exact w_581, fun h => absurd h (by decide)⟩
theorem cok_246 : cok (13, 50, 167, 0) := ⟨by decide, fun _ => by rw [me_167]; exact w_1364, fun h => absurd h (by decide)⟩
theorem cok_247 : cok (13, 51, 121, 0) := ⟨by decide, fun _ => by rw [me_121]; exact w_637, fun h => absurd h (by decide)⟩
theorem cok_248 : cok (13, 54, 174, 0) := ⟨by decide, fun _ => by rw [me_174]; exact w_1393, fun h => absurd h (by decide)⟩
theorem cok_249 : cok (13, 55, 122, 0) := ⟨by decide, fun _ => by rw [me_122]; exact w_642, fun h => absurd h (by decide)⟩
theorem cok_250 : cok (13, 58, 175, 0) := ⟨by decide, fun _ => by rw [me_175]; exact w_1397, fun h => absurd h (by decide)⟩
theorem cok_251 : cok (13, 59, 123, 0) := ⟨by decide, fun _ => by rw [me_123]; exact w_647, fun h => absurd h (by decide)⟩
theorem cok_252 : cok (13, 63, 176, 0) := ⟨by decide, fun _ => by rw [me_176]; exact w_1401, fun h => absurd h (by decide)⟩
theorem cok_253 : cok (13, 64, 124, 0) := ⟨by decide, fun _ => by rw [me_124]; exact w_655, fun h => absurd h (by decide)⟩
theorem cok_254 : cok (13, 67, 177, 0) := ⟨by decide, fun _ => by rw [me_177]; exact w_1405, fun h => absurd h (by decide)⟩
theorem cok_255 : cok (13, 68, 125, 0) := ⟨by decide, fun _ => by rw [me_125]; exact w_659, fun h => absurd h (by decide)⟩
theorem cok_256 : cok (13, 71, 179, 0) := ⟨by decide, fun _ => by rw [me_179]; exact w_1413, fun h => absurd h (by decide)⟩
theorem cok_257 : cok (13, 72, 126, 0) := ⟨by decide, fun _ => by rw [me_126]; exact w_674, fun h => absurd h (by decide)⟩
theorem cok_258 : cok (13, 75, 182, 0) := ⟨by decide, fun _ => by rw [me_182]; exact w_1424, fun h => absurd h (by decide)⟩
theorem cok_259 : cok (13, 76, 127, 0) := ⟨by decide, fun _ => by rw [me_127]; exact w_704, fun h => absurd h (by decide)⟩
theorem cok_260 : cok (13, 79, 186, 0) := ⟨by decide, fun _ => by rw [me_186]; exact w_1441, fun h => absurd h (by decide)⟩
theorem cok_261 : cok (13, 80, 128, 0) := ⟨by decide, fun _ => by rw [me_128]; exact w_722, fun h => absurd h (by decide)⟩
theorem cok_262 : cok (13, 83, 190, 0) := ⟨by decide, fun _ => by rw [me_190]; exact w_1457, fun h => absurd h (by decide)⟩
theorem cok_263 : cok (13, 84, 129, 0) := ⟨by decide, fun _ => by rw [me_129]; exact w_726, fun h => absurd h (by decide)⟩
theorem cok_264 : cok (13, 87, 192, 0) := ⟨by decide, fun _ => by rw [me_192]; exact w_1464, fun h => absurd h (by decide)⟩
theorem cok_265 : cok (13, 88, 130, 0) := ⟨by decide, fun _ => by rw [me_130]; exact w_730, fun h => absurd h (by decide)⟩
theorem cok_266 : cok (13, 91, 193, 0) := ⟨by decide, fun _ => by rw [me_193]; exact w_1468, fun h => absurd h (by decide)⟩
theorem cok_267 : cok (13, 92, 131, 0) := ⟨by decide, fun _ => by rw [me_131]; exact w_868, fun h => absurd h (by decide)⟩
theorem cok_268 : cok (13, 96, 201, 0) := ⟨by decide, fun _ => by rw [me_201]; exact w_1497, fun h => absurd h (by decide)⟩
theorem cok_269 : cok (13, 97, 132, 0) := ⟨by decide, fun _ => by rw [me_132]; exact w_887, fun h => absurd h (by decide)⟩
theorem cok_270 : cok (13, 100, 204, 0) := ⟨by decide, fun _ => by rw [me_204]; exact w_1511, fun h => absurd h (by decide)⟩
theorem cok_271 : cok (13, 101, 133, 0) := ⟨by decide, fun _ => by rw [me_133]; exact w_899, fun h => absurd h (by decide)⟩
theorem cok_272 : cok (13, 104, 189, 0) := ⟨by decide, fun _ => by rw [me_189]; exact w_1453, fun h => absurd h (by decide)⟩
theorem cok_273 : cok (13, 105, 134, 0) := ⟨by decide, fun _ => by rw [me_134]; exact w_910, fun h => absurd h (by decide)⟩
theorem cok_274 : cok (13, 108, 205, 0) := ⟨by decide, fun _ => by rw [me_205]; exact w_1515, fun h => absurd h (by decide)⟩
theorem cok_275 : cok (13, 109, 135, 0) := ⟨by decide, fun _ => by rw [me_135]; exact w_944, fun h => absurd h (by decide)⟩
theorem cok_276 : cok (13, 112, 209, 0) := ⟨by decide, fun _ => by rw [me_209]; exact w_1531, fun h => absurd h (by decide)⟩
theorem cok_277 : cok (13, 113, 136, 0) := ⟨by decide, fun _ => by rw [me_136]; exact w_983, fun h => absurd h (by decide)⟩
theorem cok_278 : cok (13, 116, 214, 0) := ⟨by decide, fun _ => by rw [me_214]; exact w_1551, fun h => absurd h (by decide)⟩
theorem cok_279 : cok (13, 117, 137, 0) := ⟨by decide, fun _ => by rw [me_137]; exact w_987, fun h => absurd h (by decide)⟩
theorem cok_280 : cok (13, 120, 215, 0) := ⟨by decide, fun _ => by rw [me_215]; exact w_1555, fun h => absurd h (by decide)⟩
theorem cok_281 : cok (13, 121, 138, 0) := ⟨by decide, fun _ => by rw [me_138]; exact w_1030, fun h => absurd h (by decide)⟩
theorem cok_282 : cok (13, 124, 219, 0) := ⟨by decide, fun _ => by rw [me_219]; exact w_1571, fun h => absurd h (by decide)⟩
theorem cok_283 : cok (13, 125, 139, 0) := ⟨by decide, fun _ => by rw [me_139]; exact w_1039, fun h => absurd h (by decide)⟩
theorem cok_284 : cok (13, 128, 220, 0) := ⟨by decide, fun _ => by rw [me_220]; exact w_1575, fun h => absurd h (by decide)⟩
theorem cok_285 : cok (13, 129, 140, 0) := ⟨by decide, fun _ => by rw [me_140]; exact w_1043, fun h => absurd h (by decide)⟩
theorem cok_286 : cok (13, 132, 221, 0) := ⟨by decide, fun _ => by rw [me_221]; exact w_1579, fun h => absurd h (by decide)⟩
theorem cok_287 : cok (13, 133, 141, 0) := ⟨by decide, fun _ => by rw [me_141]; exact w_1047, fun h => absurd h (by decide)⟩
theorem cok_288 : cok (13, 136, 222, 0) := ⟨by decide, fun _ => by rw [me_222]; exact w_1583, fun h => absurd h (by decide)⟩
theorem cok_289 : cok (13, 137, 142, 0) := ⟨by decide, fun _ => by rw [me_142]; exact w_1074, fun h => absurd h (by decide)⟩
theorem cok_290 : cok (13, 140, 227, 0) := ⟨by decide, fun _ => by rw [me_227]; exact w_1600, fun h => absurd h (by decide)⟩
theorem cok_291 : cok (13, 141, 143, 0) := ⟨by decide, fun _ => by rw [me_143]; exact w_1083, fun h => absurd h (by decide)⟩
theorem cok_292 : cok (13, 144, 228, 0) := ⟨by decide, fun _ => by rw [me_228]; exact w_1604, fun h => absurd h (by decide)⟩
theorem cok_293 : cok (13, 145, 144, 0) := ⟨by decide, fun _ => by rw [me_144]; exact w_1087, fun h => absurd h (by decide)⟩
theorem cok_294 : cok (13, 148, 229, 0) := ⟨by decide, fun _ => by rw [me_229]; exact w_1608, fun h => absurd h (by decide)⟩
theorem cok_295 : cok (13, 149, 145, 0) := ⟨by decide, fun _ => by rw [me_145]; exact w_1108, fun h => absurd h (by decide)⟩
theorem cok_296 : cok (13, 152, 231, 0) := ⟨by decide, fun _ => by rw [me_231]; exact w_1617, fun h => absurd h (by decide)⟩
theorem cok_297 : cok (13, 153, 147, 0) := ⟨by decide, fun _ => by rw [me_147]; exact w_1115, fun h => absurd h (by decide)⟩
theorem cok_298 : cok (13, 156, 232, 0) := ⟨by decide, fun _ => by rw [me_232]; exact w_1621, fun h => absurd h (by decide)⟩
theorem cok_299 : cok (13, 157, 148, 0) := ⟨by decide, fun _ => by rw [me_148]; exact w_1119, fun h => absurd h (by decide)⟩
theorem cok_300 : cok (13, 160, 233, 0) := ⟨by decide, fun _ => by rw [me_233]; exact w_1625, fun h => absurd h (by decide)⟩
theorem cok_301 : cok (13, 161, 149, 0) := ⟨by decide, fun _ => by rw [me_149]; exact w_1139, fun h => absurd h (by decide)⟩
theorem cok_302 : cok (13, 164, 235, 0) := ⟨by decide, fun _ => by rw [me_235]; exact w_1633, fun h => absurd h (by decide)⟩
theorem cok_303 : cok (13, 165, 150, 0) := ⟨by decide, fun _ => by rw [me_150]; exact w_1153, fun h => absurd h (by decide)⟩
theorem cok_304 : cok (13, 168, 236, 0) := ⟨by decide, fun _ => by rw [me_236]; exact w_1637, fun h => absurd h (by decide)⟩
theorem cok_305 : cok (13, 169, 151, 0) := ⟨by decide, fun _ => by rw [me_151]; exact w_1157, fun h => absurd h (by decide)⟩
theorem cok_306 : cok (13, 172, 237, 0) := ⟨by decide, fun _ => by rw [me_237]; exact w_1641, fun h => absurd h (by decide)⟩
theorem cok_307 : cok (13, 173, 152, 0) := ⟨by decide, fun _ => by rw [me_152]; exact w_1165, fun h => absurd h (by decide)⟩
theorem cok_308 : cok (13, 177, 239, 0) := ⟨by decide, fun _ => by rw [me_239]; exact w_1649, fun h => absurd h (by decide)⟩
theorem cok_309 : cok (15, 335, 245, 0) := ⟨by decide, fun _ => by rw [me_245]; exact w_794, fun h => absurd h (by decide)⟩
theorem cok_310 : cok (15, 492, 246, 0) := ⟨by decide, fun _ => by rw [me_246]; exact w_784, fun h => absurd h (by decide)⟩
theorem cok_311 : cok (15, 505, 242, 0) := ⟨by decide, fun _ => by rw [me_242]; exact w_790, fun h => absurd h (by decide)⟩
theorem cok_312 : cok (15, 633, 244, 0) := ⟨by decide, fun _ => by rw [me_244]; exact w_780, fun h => absurd h (by decide)⟩
theorem cok_313 : cok (15, 637, 248, 0) := ⟨by decide, fun _ => by rw [me_248]; exact w_798, fun h => absurd h (by decide)⟩
theorem cok_316 : cok (16, 88, 247, 0) := ⟨by decide, fun _ => by rw [me_247]; exact w_801, fun h => absurd h (by decide)⟩
theorem cok_318 : cok (16, 95, 249, 0) := ⟨by decide, fun _ => by rw [me_249]; exact w_806, fun h => absurd h (by decide)⟩
theorem cok_319 : cok (100, 64, 251, 0) := ⟨by decide, fun _ => by rw [me_251]; exact w_962, fun h => absurd h (by decide)⟩
theorem cok_321 : cok (100, 79, 3, 0) := ⟨by decide, fun _ => by rw [me_3]; exact w_967, fun h => absurd h (by decide)⟩
theorem cok_322 : cok (100, 83, 4, 0) := ⟨by decide, fun _ => by rw [me_4]; exact w_971, fun h => absurd h (by decide)⟩
theorem cok_323 : cok (101, 64, 252, 0) := ⟨by decide, fun _ => by rw [me_252]; exact w_962, fun h => absurd h (by decide)⟩
theorem cok_325 : cok (101, 79, 3, 0) := ⟨by decide, fun _ => by rw [me_3]; exact w_967, fun h => absurd h (by decide)⟩
theorem cok_326 : cok (101, 83, 4, 0) := ⟨by decide, fun _ => by rw [me_4]; exact w_971, fun h => absurd h (by decide)⟩
theorem cok_327 : cok (102, 64, 253, 0) := ⟨by decide, fun _ => by rw [me_253]; exact w_962, fun h => absurd h (by decide)⟩
theorem cok_329 : cok (102, 79, 3, 0) := ⟨by decide, fun _ => by rw [me_3]; exact w_967, fun h => absurd h (by decide)⟩
theorem cok_330 : cok (102, 83, 4, 0) := ⟨by decide, fun _ => by rw [me_4]; exact w_971, fun h => absurd h (by decide)⟩
theorem cok_331 : cok (103, 64, 254, 0) := ⟨by decide, fun _ => by rw [me_254]; exact w_962, fun h => absurd h (by decide)⟩
theorem cok_333 : cok (103, 79, 3, 0) := ⟨by decide, fun _ => by rw [me_3]; exact w_967, fun h => absurd h (by decide)⟩
theorem cok_334 : cok (103, 83, 4, 0) := ⟨by decide, fun _ => by rw [me_4]; exact w_971, fun h => absurd h (by decide)⟩
theorem cok_335 : cok (104, 64, 255, 0) := ⟨by decide, fun _ => by rw [me_255]; exact w_962, fun h => absurd h (by decide)⟩
theorem cok_337 : cok (104, 79, 3, 0) := ⟨by decide, fun _ => by rw [me_3]; exact w_967, fun h => absurd h (by decide)⟩
theorem cok_338 : cok (104, 83, 4, 0) := ⟨by decide, fun _ => by rw [me_4]; exact w_971, fun h => absurd h (by decide)⟩
theorem cok_339 : cok (105, 64, 256, 0) := ⟨by decide, fun _ => by rw [me_256]; exact w_962, fun h => absurd h (by decide)⟩
theorem cok_341 : cok (105, 79, 3, 0) := ⟨by decide, fun _ => by rw [me_3]; exact w_967, fun h => absurd h (by decide)⟩
theorem cok_342 : cok (105, 83, 4, 0) := ⟨by decide, fun _ => by rw [me_4]; exact w_971, fun h => absurd h (by decide)⟩
theorem cok_343 : cok (106, 64, 257, 0) := ⟨by decide, fun _ => by rw [me_257]; exact w_962, fun h => absurd h (by decide)⟩
theorem cok_345 : cok (106, 79, 3, 0) := ⟨by decide, fun _ => by rw [me_3]; exact w_967, fun h => absurd h (by decide)⟩
theorem cok_346 : cok (106, 83, 4, 0) := ⟨by decide, fun _ => by rw [me_4]; exact w_971, fun h => absurd h (by decide)⟩
theorem cok_347 : cok (107, 64, 258, 0) := ⟨by decide, fun _ => by rw [me_258]; exact w_962, fun h => absurd h (by decide)⟩
theorem cok_349 : cok (107, 79, 3, 0) := ⟨by decide, fun _ => by rw [me_3]; exact w_967, fun h => absurd h (by decide)⟩
theorem cok_350 : cok (107, 83, 4, 0) := ⟨by decide, fun _ => by rw [me_4]; exact w_971, fun h => absurd h (by decide)⟩
theorem cok_351 : cok (108, 64, 259, 0) := ⟨by decide, fun _ => by rw [me_259]; exact w_962, fun h => absurd h (by decide)⟩
theorem cok_353 : cok (108, 79, 3, 0) := ⟨by decide, fun _ => by rw [me_3]; exact w_967, fun h => absurd h (by decide)⟩
theorem cok_354 : cok (108, 83, 4, 0) := ⟨by decide, fun _ => by rw [me_4]; exact w_971, fun h => absurd h (by decide)⟩
theorem cok_355 : cok (109, 64, 260, 0) := ⟨by decide, fun _ => by rw [me_260]; exact w_962, fun h => absurd h (by decide)⟩
theorem cok_357 : cok (109, 79, 3, 0) := ⟨by decide, fun _ => by rw [me_3]; exact w_967, fun h => absurd h (by decide)⟩
theorem cok_358 : cok (109, 83, 4, 0) := ⟨by decide, fun _ => by rw [me_4]; exact w_971, fun h => absurd h (by decide)⟩
theorem cok_359 : cok (110, 64, 261, 0) := ⟨by decide, fun _ => by rw [me_261]; exact w_962, fun h => absurd h (by decide)⟩
theorem cok_361 : cok (110, 79, 3, 0) := ⟨by decide, fun _ => by rw [me_3]; exact w_967, fun h => absurd h (by decide)⟩
theorem cok_362 : cok (110, 83, 4, 0) := ⟨by decide, fun _ => by rw [me_4]; exact w_971, fun h => absurd h (by decide)⟩
theorem cok_363 : cok (111, 64, 262, 0) := ⟨by decide, fun _ => by rw [me_262]; exact w_962, fun h => absurd h (by decide)⟩
theorem cok_365 : cok (111, 79, 3, 0) := ⟨by decide, fun _ => by rw [me_3]; exact w_967, fun h => absurd h (by decide)⟩
theorem cok_366 : cok (111, 83, 4, 0) := ⟨by decide, fun _ => by rw [me_4]; exact w_971, fun h => absurd h (by decide)⟩
theorem cok_369 : cok (112, 79, 3, 0) := ⟨by decide, fun _ => by rw [me_3]; exact w_967, fun h => absurd h (by decide)⟩
theorem cok_370 : cok (112, 83, 4, 0) := ⟨by decide, fun _ => by rw [me_4]; exact w_971, fun h => absurd h (by decide)⟩
def ctab_0 : List (Nat × Nat × Nat × Nat) := [(0, 23, 98, 0), (0, 41, 48, 0), (0, 57, 2, 0), (0, 60, 102, 0), (0, 64, 250, 0), (0, 70, 103, 0), (1, 15, 103, 0), (1, 21, 8, 0), (1, 25, 19, 0), (1, 32, 20, 0), (1, 35, 102, 0), (1, 39, 11, 0), (1, 43, 13, 0), (1, 47, 105, 0), (1, 50, 10, 0), (1, 54, 12, 0)]
theorem ctab_0_ok : ∀ q ∈ ctab_0, cok q := List.forall_mem_cons.mpr ⟨cok_1, List.forall_mem_cons.mpr ⟨cok_2, List.forall_mem_cons.mpr ⟨cok_4, List.forall_mem_cons.mpr ⟨cok_5, List.forall_mem_cons.mpr ⟨cok_6, List.forall_mem_cons.mpr ⟨cok_7, List.forall_mem_cons.mpr ⟨cok_9, List.forall_mem_cons.mpr ⟨cok_10, List.forall_mem_cons.mpr ⟨cok_11, List.forall_mem_cons.mpr ⟨cok_12, List.forall_mem_cons.mpr ⟨cok_13, List.forall_mem_cons.mpr ⟨cok_14, List.forall_mem_cons.mpr ⟨cok_15, List.forall_mem_cons.mpr ⟨cok_16, List.forall_mem_cons.mpr ⟨cok_17, List.forall_mem_cons.mpr ⟨cok_18, fun _ h => absurd h List.not_mem_nil⟩⟩⟩⟩⟩⟩⟩⟩⟩⟩⟩⟩⟩⟩⟩⟩
def ctab_1 : List (Nat × Nat × Nat × Nat) := [(1, 57, 14, 0), (1, 61, 15, 0), (1, 65, 17, 0), (1, 69, 18, 0), (1, 72, 16, 0), (2, 39, 112, 1), (2, 43, 25, 0), (2, 58, 26, 0), (2, 64, 27, 0), (2, 72, 35, 0), (2, 75, 103, 0), (2, 86, 28, 0), (2, 89, 29, 0), (2, 93, 30, 0), (2, 96, 33, 0), (2, 100, 34, 0)]
theorem ctab_1_ok : ∀ q ∈ ctab_1, cok q := List.forall_mem_cons.mpr ⟨cok_19, List.forall_mem_cons.mpr ⟨cok_20, List.forall_mem_cons.mpr ⟨cok_21, List.forall_mem_cons.mpr ⟨cok_22, List.forall_mem_cons.mpr ⟨cok_23, List.forall_mem_cons.mpr ⟨cok_25, List.forall_mem_cons.mpr ⟨cok_26, List.forall_mem_cons.mpr ⟨cok_27, List.forall_mem_cons.mpr ⟨cok_28, List.forall_mem_cons.mpr ⟨cok_29, List.forall_mem_cons.mpr ⟨cok_30, List.forall_mem_cons.mpr ⟨cok_32, List.forall_mem_cons.mpr ⟨cok_33, List.forall_mem_cons.mpr ⟨cok_34, List.forall_mem_cons.mpr ⟨cok_35, List.forall_mem_cons.mpr ⟨cok_36, fun _ h => absurd h List.not_mem_nil⟩⟩⟩⟩⟩⟩⟩⟩⟩⟩⟩⟩⟩⟩⟩⟩
def ctab_2 : List (Nat × Nat × Nat × Nat) := [(2, 103, 31, 0), (2, 107, 32, 0), (2, 113, 243, 0), (3, 26, 112, 1), (3, 30, 241, 0), (3, 36, 40, 0), (3, 39, 48, 0), (3, 45, 42, 0), (3, 49, 43, 0), (3, 53, 21, 0), (4, 11, 98, 0), (4, 58, 99, 0), (4, 61, 106, 0), (4, 68, 241, 0), (4, 74, 112, 1), (4, 80, 104, 0)]
theorem ctab_2_ok : ∀ q ∈ ctab_2, cok q := List.forall_mem_cons.mpr ⟨cok_37, List.forall_mem_cons.mpr ⟨cok_38, List.forall_mem_cons.mpr ⟨cok_39, List.forall_mem_cons.mpr ⟨cok_41, List.forall_mem_cons.mpr ⟨cok_42, List.forall_mem_cons.mpr ⟨cok_43, List.forall_mem_cons.mpr ⟨cok_44, List.forall_mem_cons.mpr ⟨cok_45, List.forall_mem_cons.mpr ⟨cok_46, List.forall_mem_cons.mpr ⟨cok_47, List.forall_mem_cons.mpr ⟨cok_49, List.forall_mem_cons.mpr ⟨cok_50, List.forall_mem_cons.mpr ⟨cok_51, List.forall_mem_cons.mpr ⟨cok_52, List.forall_mem_cons.mpr ⟨cok_53, List.forall_mem_cons.mpr ⟨cok_54, fun _ h => absurd h List.not_mem_nil⟩⟩⟩⟩⟩⟩⟩⟩⟩⟩⟩⟩⟩⟩⟩⟩
def ctab_3 : List (Nat × Nat × Nat × Nat) := [(4, 84, 103, 0), (4, 88, 46, 0), (5, 21, 103, 0), (5, 46, 53, 0), (5, 50, 54, 0), (5, 54, 55, 0), (5, 57, 56, 0), (5, 60, 58, 0), (5, 69, 59, 0), (5, 75, 52, 0), (6, 15, 98, 0), (6, 45, 62, 0), (6, 48, 64, 0), (6, 52, 66, 0), (6, 59, 112, 1), (6, 63, 69, 0)]
theorem ctab_3_ok : ∀ q ∈ ctab_3, cok q := List.forall_mem_cons.mpr ⟨cok_55, List.forall_mem_cons.mpr ⟨cok_56, List.forall_mem_cons.mpr ⟨cok_58, List.forall_mem_cons.mpr ⟨cok_59, List.forall_mem_cons.mpr ⟨cok_60, List.forall_mem_cons.mpr ⟨cok_61, List.forall_mem_cons.mpr ⟨cok_62, List.forall_mem_cons.mpr ⟨cok_63, List.forall_mem_cons.mpr ⟨cok_65, List.forall_mem_cons.mpr ⟨cok_67, List.forall_mem_cons.mpr ⟨cok_69, List.forall_mem_cons.mpr ⟨cok_70, List.forall_mem_cons.mpr ⟨cok_71, List.forall_mem_cons.mpr ⟨cok_72, List.forall_mem_cons.mpr ⟨cok_73, List.forall_mem_cons.mpr ⟨cok_74, fun _ h => absurd h List.not_mem_nil⟩⟩⟩⟩⟩⟩⟩⟩⟩⟩⟩⟩⟩⟩⟩⟩
def ctab_4 : List (Nat × Nat × Nat × Nat) := [(6, 67, 71, 0), (6, 79, 99, 0), (6, 86, 103, 0), (6, 89, 20, 0), (6, 93, 63, 0), (6, 96, 105, 0), (6, 103, 45, 0), (6, 107, 67, 0), (6, 110, 36, 0), (6, 115, 24, 0), (7, 38, 103, 0), (7, 41, 112, 1), (7, 47, 75, 0), (7, 51, 74, 0), (8, 46, 241, 0), (8, 52, 80, 0)]
theorem ctab_4_ok : ∀ q ∈ ctab_4, cok q := List.forall_mem_cons.mpr ⟨cok_75, List.forall_mem_cons.mpr ⟨cok_77, List.forall_mem_cons.mpr ⟨cok_78, List.forall_mem_cons.mpr ⟨cok_79, List.forall_mem_cons.mpr ⟨cok_80, List.forall_mem_cons.mpr ⟨cok_81, List.forall_mem_cons.mpr ⟨cok_82, List.forall_mem_cons.mpr ⟨cok_83, List.forall_mem_cons.mpr ⟨cok_84, List.forall_mem_cons.mpr ⟨cok_85, List.forall_mem_cons.mpr ⟨cok_88, List.forall_mem_cons.mpr ⟨cok_89, List.forall_mem_cons.mpr ⟨cok_90, List.forall_mem_cons.mpr ⟨cok_91, List.forall_mem_cons.mpr ⟨cok_94, List.forall_mem_cons.mpr ⟨cok_95, fun _ h => absurd h List.not_mem_nil⟩⟩⟩⟩⟩⟩⟩⟩⟩⟩⟩⟩⟩⟩⟩⟩
def ctab_5 : List (Nat × Nat × Nat × Nat) := [(8, 59, 83, 0), (8, 65, 85, 0), (8, 68, 81, 0), (8, 73, 103, 0), (8, 76, 82, 0), (8, 83, 84, 0), (8, 87, 105, 0), (8, 94, 89, 0), (8, 97, 90, 0), (8, 103, 91, 0), (8, 106, 112, 1), (9, 23, 95, 0), (9, 30, 103, 0), (9, 35, 112, 1), (9, 41, 94, 0), (10, 31, 103, 0)]
theorem ctab_5_ok : ∀ q ∈ ctab_5, cok q := List.forall_mem_cons.mpr ⟨cok_96, List.forall_mem_cons.mpr ⟨cok_97, List.forall_mem_cons.mpr ⟨cok_98, List.forall_mem_cons.mpr ⟨cok_99, List.forall_mem_cons.mpr ⟨cok_100, List.forall_mem_cons.mpr ⟨cok_101, List.forall_mem_cons.mpr ⟨cok_102, List.forall_mem_cons.mpr ⟨cok_103, List.forall_mem_cons.mpr ⟨cok_104, List.forall_mem_cons.mpr ⟨cok_106, List.forall_mem_cons.mpr ⟨cok_107, List.forall_mem_cons.mpr ⟨cok_109, List.forall_mem_cons.mpr ⟨cok_110, List.forall_mem_cons.mpr ⟨cok_111, List.forall_mem_cons.mpr ⟨cok_112, List.forall_mem_cons.mpr ⟨cok_115, fun _ h => absurd h List.not_mem_nil⟩⟩⟩⟩⟩⟩⟩⟩⟩⟩⟩⟩⟩⟩⟩⟩
def ctab_6 : List (Nat × Nat × Nat × Nat) := [(10, 34, 102, 0), (10, 38, 101, 0), (10, 42, 100, 0), (11, 9, 44, 0), (11, 26, 50, 0), (11, 38, 7, 0), (11, 47, 23, 0), (11, 54, 60, 0), (11, 63, 38, 0), (11, 72, 0, 0), (11, 81, 77, 0), (11, 91, 92, 0), (11, 98, 73, 0), (11, 109, 111, 0), (11, 113, 112, 0), (11, 117, 51, 0)]
theorem ctab_6_ok : ∀ q ∈ ctab_6, cok q := List.forall_mem_cons.mpr ⟨cok_116, List.forall_mem_cons.mpr ⟨cok_117, List.forall_mem_cons.mpr ⟨cok_118, List.forall_mem_cons.mpr ⟨cok_122, List.forall_mem_cons.mpr ⟨cok_123, List.forall_mem_cons.mpr ⟨cok_124, List.forall_mem_cons.mpr ⟨cok_125, List.forall_mem_cons.mpr ⟨cok_126, List.forall_mem_cons.mpr ⟨cok_127, List.forall_mem_cons.mpr ⟨cok_128, List.forall_mem_cons.mpr ⟨cok_129, List.forall_mem_cons.mpr ⟨cok_130, List.forall_mem_cons.mpr ⟨cok_131, List.forall_mem_cons.mpr ⟨cok_132, List.forall_mem_cons.mpr ⟨cok_133, List.forall_mem_cons.mpr ⟨cok_134, fun _ h => absurd h List.not_mem_nil⟩⟩⟩⟩⟩⟩⟩⟩⟩⟩⟩⟩⟩⟩⟩⟩
def ctab_7 : List (Nat × Nat × Nat × Nat) := [(11, 121, 101, 0), (11, 125, 100, 0), (11, 128, 102, 0), (11, 132, 52, 0), (11, 136, 57, 0), (11, 140, 116, 0), (11, 144, 117, 0), (11, 150, 104, 0), (11, 153, 103, 0), (11, 156, 45, 0), (11, 160, 8, 0), (11, 163, 9, 0), (11, 167, 12, 0), (11, 170, 13, 0), (11, 174, 19, 0), (11, 177, 47, 0)]
theorem ctab_7_ok : ∀ q ∈ ctab_7, cok q := List.forall_mem_cons.mpr ⟨cok_135, List.forall_mem_cons.mpr ⟨cok_136, List.forall_mem_cons.mpr ⟨cok_137, List.forall_mem_cons.mpr ⟨cok_138, List.forall_mem_cons.mpr ⟨cok_139, List.forall_mem_cons.mpr ⟨cok_140, List.forall_mem_cons.mpr ⟨cok_141, List.forall_mem_cons.mpr ⟨cok_142, List.forall_mem_cons.mpr ⟨cok_143, List.forall_mem_cons.mpr ⟨cok_144, List.forall_mem_cons.mpr ⟨cok_145, List.forall_mem_cons.mpr ⟨cok_146, List.forall_mem_cons.mpr ⟨cok_147, List.forall_mem_cons.mpr ⟨cok_148, List.forall_mem_cons.mpr ⟨cok_149, List.forall_mem_cons.mpr ⟨cok_150, fun _ h => absurd h List.not_mem_nil⟩⟩⟩⟩⟩⟩⟩⟩⟩⟩⟩⟩⟩⟩⟩⟩
def ctab_8 : List (Nat × Nat × Nat × Nat) := [(11, 183, 61, 0), (11, 187, 65, 0), (11, 190, 24, 0), (11, 197, 68, 0), (11, 201, 70, 0), (11, 204, 72, 0), (11, 207, 39, 0), (11, 210, 41, 0), (11, 213, 46, 0), (11, 216, 1, 0), (11, 219, 5, 0), (11, 222, 6, 0), (11, 227, 78, 0), (11, 230, 79, 0), (11, 233, 86, 0), (11, 236, 87, 0)]
theorem ctab_8_ok : ∀ q ∈ ctab_8, cok q := List.forall_mem_cons.mpr ⟨cok_151, List.forall_mem_cons.mpr ⟨cok_152, List.forall_mem_cons.mpr ⟨cok_153, List.forall_mem_cons.mpr ⟨cok_154, List.forall_mem_cons.mpr ⟨cok_155, List.forall_mem_cons.mpr ⟨cok_156, List.forall_mem_cons.mpr ⟨cok_157, List.forall_mem_cons.mpr ⟨cok_158, List.forall_mem_cons.mpr ⟨cok_159, List.forall_mem_cons.mpr ⟨cok_160, List.forall_mem_cons.mpr ⟨cok_161, List.forall_mem_cons.mpr ⟨cok_162, List.forall_mem_cons.mpr ⟨cok_163, List.forall_mem_cons.mpr ⟨cok_164, List.forall_mem_cons.mpr ⟨cok_165, List.forall_mem_cons.mpr ⟨cok_166, fun _ h => absurd h List.not_mem_nil⟩⟩⟩⟩⟩⟩⟩⟩⟩⟩⟩⟩⟩⟩⟩⟩
def ctab_9 : List (Nat × Nat × Nat × Nat) := [(11, 239, 93, 0), (11, 242, 94, 0), (11, 245, 96, 0), (11, 248, 97, 0), (11, 254, 88, 0), (11, 257, 146, 0), (11, 266, 74, 0), (11, 269, 76, 0), (11, 272, 49, 0), (11, 275, 22, 0), (11, 282, 151, 0), (11, 285, 107, 0), (11, 289, 37, 0), (12, 109, 156, 0), (12, 113, 157, 0), (12, 117, 159, 0)]
theorem ctab_9_ok : ∀ q ∈ ctab_9, cok q := List.forall_mem_cons.mpr ⟨cok_167, List.forall_mem_cons.mpr ⟨cok_168, List.forall_mem_cons.mpr ⟨cok_169, List.forall_mem_cons.mpr ⟨cok_170, List.forall_mem_cons.mpr ⟨cok_171, List.forall_mem_cons.mpr ⟨cok_172, List.forall_mem_cons.mpr ⟨cok_173, List.forall_mem_cons.mpr ⟨cok_174, List.forall_mem_cons.mpr ⟨cok_175, List.forall_mem_cons.mpr ⟨cok_176, List.forall_mem_cons.mpr ⟨cok_177, List.forall_mem_cons.mpr ⟨cok_178, List.forall_mem_cons.mpr ⟨cok_179, List.forall_mem_cons.mpr ⟨cok_181, List.forall_mem_cons.mpr ⟨cok_182, List.forall_mem_cons.mpr ⟨cok_183, fun _ h => absurd h List.not_mem_nil⟩⟩⟩⟩⟩⟩⟩⟩⟩⟩⟩⟩⟩⟩⟩⟩
def ctab_10 : List (Nat × Nat × Nat × Nat) := [(12, 121, 161, 0), (12, 124, 164, 0), (12, 128, 165, 0), (12, 139, 170, 0), (12, 143, 173, 0), (12, 147, 168, 0), (12, 150, 171, 0), (12, 153, 172, 0), (12, 158, 169, 0), (12, 161, 178, 0), (12, 164, 180, 0), (12, 168, 181, 0), (12, 171, 183, 0), (12, 175, 184, 0), (12, 178, 185, 0), (12, 184, 188, 0)]
theorem ctab_10_ok : ∀ q ∈ ctab_10, cok q := List.forall_mem_cons.mpr ⟨cok_184, List.forall_mem_cons.mpr ⟨cok_185, List.forall_mem_cons.mpr ⟨cok_186, List.forall_mem_cons.mpr ⟨cok_187, List.forall_mem_cons.mpr ⟨cok_188, List.forall_mem_cons.mpr ⟨cok_189, List.forall_mem_cons.mpr ⟨cok_190, List.forall_mem_cons.mpr ⟨cok_191, List.forall_mem_cons.mpr ⟨cok_192, List.forall_mem_cons.mpr ⟨cok_193, List.forall_mem_cons.mpr ⟨cok_194, List.forall_mem_cons.mpr ⟨cok_195, List.forall_mem_cons.mpr ⟨cok_196, List.forall_mem_cons.mpr ⟨cok_197, List.forall_mem_cons.mpr ⟨cok_198, List.forall_mem_cons.mpr ⟨cok_199, fun _ h => absurd h List.not_mem_nil⟩⟩⟩⟩⟩⟩⟩⟩⟩⟩⟩⟩⟩⟩⟩⟩
def ctab_11 : List (Nat × Nat × Nat × Nat) := [(12, 187, 187, 0), (12, 196, 196, 0), (12, 199, 197, 0), (12, 203, 195, 0), (12, 206, 198, 0), (12, 209, 199, 0), (12, 212, 200, 0), (12, 215, 203, 0), (12, 219, 191, 0), (12, 223, 194, 0), (12, 230, 202, 0), (12, 237, 206, 0), (12, 240, 207, 0), (12, 243, 208, 0), (12, 246, 213, 0), (12, 252, 211, 0)]
theorem ctab_11_ok : ∀ q ∈ ctab_11, cok q := List.forall_mem_cons.mpr ⟨cok_200, List.forall_mem_cons.mpr ⟨cok_201, List.forall_mem_cons.mpr ⟨cok_202, List.forall_mem_cons.mpr ⟨cok_203, List.forall_mem_cons.mpr ⟨cok_204, List.forall_mem_cons.mpr ⟨cok_205, List.forall_mem_cons.mpr ⟨cok_206, List.forall_mem_cons.mpr ⟨cok_207, List.forall_mem_cons.mpr ⟨cok_208, List.forall_mem_cons.mpr ⟨cok_209, List.forall_mem_cons.mpr ⟨cok_210, List.forall_mem_cons.mpr ⟨cok_211, List.forall_mem_cons.mpr ⟨cok_212, List.forall_mem_cons.mpr ⟨cok_213, List.forall_mem_cons.mpr ⟨cok_214, List.forall_mem_cons.mpr ⟨cok_215, fun _ h => absurd h List.not_mem_nil⟩⟩⟩⟩⟩⟩⟩⟩⟩⟩⟩⟩⟩⟩⟩⟩
def ctab_12 : List (Nat × Nat × Nat × Nat) := [(12, 255, 212, 0), (12, 258, 210, 0), (12, 267, 218, 0), (12, 270, 216, 0), (12, 273, 217, 0), (12, 276, 225, 0), (12, 279, 226, 0), (12, 282, 223, 0), (12, 285, 224, 0), (12, 290, 230, 0), (12, 293, 234, 0), (12, 297, 238, 0), (12, 304, 240, 0), (13, 9, 108, 0), (13, 12, 153, 0), (13, 13, 109, 0)]
theorem ctab_12_ok : ∀ q ∈ ctab_12, cok q := List.forall_mem_cons.mpr ⟨cok_216, List.forall_mem_cons.mpr ⟨cok_217, List.forall_mem_cons.mpr ⟨cok_218, List.forall_mem_cons.mpr ⟨cok_219, List.forall_mem_cons.mpr ⟨cok_220, List.forall_mem_cons.mpr ⟨cok_221, List.forall_mem_cons.mpr ⟨cok_222, List.forall_mem_cons.mpr ⟨cok_223, List.forall_mem_cons.mpr ⟨cok_224, List.forall_mem_cons.mpr ⟨cok_225, List.forall_mem_cons.mpr ⟨cok_226, List.forall_mem_cons.mpr ⟨cok_227, List.forall_mem_cons.mpr ⟨cok_228, List.forall_mem_cons.mpr ⟨cok_229, List.forall_mem_cons.mpr ⟨cok_230, List.forall_mem_cons.mpr ⟨cok_231, fun _ h => absurd h List.not_mem_nil⟩⟩⟩⟩⟩⟩⟩⟩⟩⟩⟩⟩⟩⟩⟩⟩
def ctab_13 : List (Nat × Nat × Nat × Nat) := [(13, 17, 154, 0), (13, 18, 110, 0), (13, 22, 155, 0), (13, 23, 113, 0), (13, 27, 158, 0), (13, 28, 114, 0), (13, 32, 160, 0), (13, 33, 115, 0), (13, 36, 162, 0), (13, 37, 118, 0), (13, 40, 163, 0), (13, 41, 119, 0), (13, 45, 166, 0), (13, 46, 120, 0), (13, 50, 167, 0), (13, 51, 121, 0)]
theorem ctab_13_ok : ∀ q ∈ ctab_13, cok q := List.forall_mem_cons.mpr ⟨cok_232, List.forall_mem_cons.mpr ⟨cok_233, List.forall_mem_cons.mpr ⟨cok_234, List.forall_mem_cons.mpr ⟨cok_235, List.forall_mem_cons.mpr ⟨cok_236, List.forall_mem_cons.mpr ⟨cok_237, List.forall_mem_cons.mpr ⟨cok_238, List.forall_mem_cons.mpr ⟨cok_239, List.forall_mem_cons.mpr ⟨cok_240, List.forall_mem_cons.mpr ⟨cok_241, List.forall_mem_cons.mpr ⟨cok_242, List.forall_mem_cons.mpr ⟨cok_243, List.forall_mem_cons.mpr ⟨cok_244, List.forall_mem_cons.mpr ⟨cok_245, List.forall_mem_cons.mpr ⟨cok_246, List.forall_mem_cons.mpr ⟨cok_247, fun _ h => absurd h List.not_mem_nil⟩⟩⟩⟩⟩⟩⟩⟩⟩⟩⟩⟩⟩⟩⟩⟩
def ctab_14 : List (Nat × Nat × Nat × Nat) := [(13, 54, 174, 0), (13, 55, 122, 0), (13, 58, 175, 0), (13, 59, 123, 0), (13, 63, 176, 0), (13, 64, 124, 0), (13, 67, 177, 0), (13, 68, 125, 0), (13, 71, 179, 0), (13, 72, 126, 0), (13, 75, 182, 0), (13, 76, 127, 0), (13, 79, 186, 0), (13, 80, 128, 0), (13, 83, 190, 0), (13, 84, 129, 0)]
theorem ctab_14_ok : ∀ q ∈ ctab_14, cok q := List.forall_mem_cons.mpr ⟨cok_248, List.forall_mem_cons.mpr ⟨cok_249, List.forall_mem_cons.mpr ⟨cok_250, List.forall_mem_cons.mpr ⟨cok_251, List.forall_mem_cons.mpr ⟨cok_252, List.forall_mem_cons.mpr ⟨cok_253, List.forall_mem_cons.mpr ⟨cok_254, List.forall_mem_cons.mpr ⟨cok_255, List.forall_mem_cons.mpr ⟨cok_256, List.forall_mem_cons.mpr ⟨cok_257, List.forall_mem_cons.mpr ⟨cok_258, List.forall_mem_cons.mpr ⟨cok_259, List.forall_mem_cons.mpr ⟨cok_260, List.forall_mem_cons.mpr ⟨cok_261, List.forall_mem_cons.mpr ⟨cok_262, List.forall_mem_cons.mpr ⟨cok_263, fun _ h => absurd h List.not_mem_nil⟩⟩⟩⟩⟩⟩⟩⟩⟩⟩⟩⟩⟩⟩⟩⟩
def ctab_15 : List (Nat × Nat × Nat × Nat) := [(13, 87, 192, 0), (13, 88, 130, 0), (13, 91, 193, 0), (13, 92, 131, 0), (13, 96, 201, 0), (13, 97, 132, 0), (13, 100, 204, 0), (13, 101, 133, 0), (13, 104, 189, 0), (13, 105, 134, 0), (13, 108, 205, 0), (13, 109, 135, 0), (13, 112, 209, 0), (13, 113, 136, 0), (13, 116, 214, 0), (13, 117, 137, 0)]
theorem ctab_15_ok : ∀ q ∈ ctab_15, cok q := List.forall_mem_cons.mpr ⟨cok_264, List.forall_mem_cons.mpr ⟨cok_265, List.forall_mem_cons.mpr ⟨cok_266, List.forall_mem_cons.mpr ⟨cok_267, List.forall_mem_cons.mpr ⟨cok_268, List.forall_mem_cons.mpr ⟨cok_269, List.forall_mem_cons.mpr ⟨cok_270, List.forall_mem_cons.mpr ⟨cok_271, List.forall_mem_cons.mpr ⟨cok_272, List.forall_mem_cons.mpr ⟨cok_273, List.forall_mem_cons.mpr ⟨cok_274, List.forall_mem_cons.mpr ⟨cok_275, List.forall_mem_cons.mpr ⟨cok_276, List.forall_mem_cons.mpr ⟨cok_277, List.forall_mem_cons.mpr ⟨cok_278, List.forall_mem_cons.mpr ⟨cok_279, fun _ h => absurd h List.not_mem_nil⟩⟩⟩⟩⟩⟩⟩⟩⟩⟩⟩⟩⟩⟩⟩⟩
def ctab_16 : List (Nat × Nat × Nat × Nat) := [(13, 120, 215, 0), (13, 121, 138, 0), (13, 124, 219, 0), (13, 125, 139, 0), (13, 128, 220, 0), (13, 129, 140, 0), (13, 132, 221, 0), (13, 133, 141, 0), (13, 136, 222, 0), (13, 137, 142, 0), (13, 140, 227, 0), (13, 141, 143, 0), (13, 144, 228, 0), (13, 145, 144, 0), (13, 148, 229, 0), (13, 149, 145, 0)]
theorem ctab_16_ok : ∀ q ∈ ctab_16, cok q := List.forall_mem_cons.mpr ⟨cok_280, List.forall_mem_cons.mpr ⟨cok_281, List.forall_mem_cons.mpr ⟨cok_282, List.forall_mem_cons.mpr ⟨cok_283, List.forall_mem_cons.mpr ⟨cok_284, List.forall_mem_cons.mpr ⟨cok_285, List.forall_mem_cons.mpr ⟨cok_286, List.forall_mem_cons.mpr ⟨cok_287, List.forall_mem_cons.mpr ⟨cok_288, List.forall_mem_cons.mpr ⟨cok_289, List.forall_mem_cons.mpr ⟨cok_290, List.forall_mem_cons.mpr ⟨cok_291, List.forall_mem_cons.mpr ⟨cok_292, List.forall_mem_cons.mpr ⟨cok_293, List.forall_mem_cons.mpr ⟨cok_294, List.forall_mem_cons.mpr ⟨cok_295, fun _ h => absurd h List.not_mem_nil⟩⟩⟩⟩⟩⟩⟩⟩⟩⟩⟩⟩⟩⟩⟩⟩
def ctab_17 : List (Nat × Nat × Nat × Nat) := [(13, 152, 231, 0), (13, 153, 147, 0), (13, 156, 232, 0), (13, 157, 148, 0), (13, 160, 233, 0), (13, 161, 149, 0), (13, 164, 235, 0), (13, 165, 150, 0), (13, 168, 236, 0), (13, 169, 151, 0), (13, 172, 237, 0), (13, 173, 152, 0), (13, 177, 239, 0), (15, 335, 245, 0), (15, 492, 246, 0), (15, 505, 242, 0)]
theorem ctab_17_ok : ∀ q ∈ ctab_17, cok q := List.forall_mem_cons.mpr ⟨cok_296, List.forall_mem_cons.mpr ⟨cok_297, List.forall_mem_cons.mpr ⟨cok_298, List.forall_mem_cons.mpr ⟨cok_299, List.forall_mem_cons.mpr ⟨cok_300, List.forall_mem_cons.mpr ⟨cok_301, List.forall_mem_cons.mpr ⟨cok_302, List.forall_mem_cons.mpr ⟨cok_303, List.forall_mem_cons.mpr ⟨cok_304, List.forall_mem_cons.mpr ⟨cok_305, List.forall_mem_cons.mpr ⟨cok_306, List.forall_mem_cons.mpr ⟨cok_307, List.forall_mem_cons.mpr ⟨cok_308, List.forall_mem_cons.mpr ⟨cok_309, List.forall_mem_cons.mpr ⟨cok_310, List.forall_mem_cons.mpr ⟨cok_311, fun _ h => absurd h List.not_mem_nil⟩⟩⟩⟩⟩⟩⟩⟩⟩⟩⟩⟩⟩⟩⟩⟩
def ctab_18 : List (Nat × Nat × Nat × Nat) := [(15, 633, 244, 0), (15, 637, 248, 0), (16, 88, 247, 0), (16, 95, 249, 0), (100, 64, 251, 0), (100, 79, 3, 0), (100, 83, 4, 0), (101, 64, 252, 0), (101, 79, 3, 0), (101, 83, 4, 0), (102, 64, 253, 0), (102, 79, 3, 0), (102, 83, 4, 0), (103, 64, 254, 0), (103, 79, 3, 0), (103, 83, 4, 0)]
theorem ctab_18_ok : ∀ q ∈ ctab_18, cok q := List.forall_mem_cons.mpr ⟨cok_312, List.forall_mem_cons.mpr ⟨cok_313, List.forall_mem_cons.mpr ⟨cok_316, List.forall_mem_cons.mpr ⟨cok_318, List.forall_mem_cons.mpr ⟨cok_319, List.forall_mem_cons.mpr ⟨cok_321, List.forall_mem_cons.mpr ⟨cok_322, List.forall_mem_cons.mpr ⟨cok_323, List.forall_mem_cons.mpr ⟨cok_325, List.forall_mem_cons.mpr ⟨cok_326, List.forall_mem_cons.mpr ⟨cok_327, List.forall_mem_cons.mpr ⟨cok_329, List.forall_mem_cons.mpr ⟨cok_330, List.forall_mem_cons.mpr ⟨cok_331, List.forall_mem_cons.mpr ⟨cok_333, List.forall_mem_cons.mpr ⟨cok_334, fun _ h => absurd h List.not_mem_nil⟩⟩⟩⟩⟩⟩⟩⟩⟩⟩⟩⟩⟩⟩⟩⟩
def ctab_19 : List (Nat × Nat × Nat × Nat) := [(104, 64, 255, 0), (104, 79, 3, 0), (104, 83, 4, 0), (105, 64, 256, 0), (105, 79, 3, 0), (105, 83, 4, 0), (106, 64, 257, 0), (106, 79, 3, 0), (106, 83, 4, 0), (107, 64, 258, 0), (107, 79, 3, 0), (107, 83, 4, 0), (108, 64, 259, 0), (108, 79, 3, 0), (108, 83, 4, 0), (109, 64, 260, 0)]
theorem ctab_19_ok : ∀ q ∈ ctab_19, cok q := List.forall_mem_cons.mpr ⟨cok_335, List.forall_mem_cons.mpr ⟨cok_337, List.forall_mem_cons.mpr ⟨cok_338, List.forall_mem_cons.mpr ⟨cok_339, List.forall_mem_cons.mpr ⟨cok_341, List.forall_mem_cons.mpr ⟨cok_342, List.forall_mem_cons.mpr ⟨cok_343, List.forall_mem_cons.mpr ⟨cok_345, List.forall_mem_cons.mpr ⟨cok_346, List.forall_mem_cons.mpr ⟨cok_347, List.forall_mem_cons.mpr ⟨cok_349, List.forall_mem_cons.mpr ⟨cok_350, List.forall_mem_cons.mpr ⟨cok_351, List.forall_mem_cons.mpr ⟨cok_353, List.forall_mem_cons.mpr ⟨cok_354, List.forall_mem_cons.mpr ⟨cok_355, fun _ h => absurd h List.not_mem_nil⟩⟩⟩⟩⟩⟩⟩⟩⟩⟩⟩⟩⟩⟩⟩⟩
def ctab_20 : List (Nat × Nat × Nat × Nat) := [(109, 79, 3, 0), (109, 83, 4, 0), (110, 64, 261, 0), (110, 79, 3, 0), (110, 83, 4, 0), (111, 64, 262, 0), (111, 79, 3, 0), (111, 83, 4, 0), (112, 79, 3, 0), (112, 83, 4, 0)]
theorem ctab_20_ok : ∀ q ∈ ctab_20, cok q := List.forall_mem_cons.mpr ⟨cok_357, List.forall_mem_cons.mpr ⟨cok_358, List.forall_mem_cons.mpr ⟨cok_359, List.forall_mem_cons.mpr ⟨cok_361, List.forall_mem_cons.mpr ⟨cok_362, List.forall_mem_cons.mpr ⟨cok_363, List.forall_mem_cons.mpr ⟨cok_365, List.forall_mem_cons.mpr ⟨cok_366, List.forall_mem_cons.mpr ⟨cok_369, List.forall_mem_cons.mpr ⟨cok_370, fun _ h => absurd h List.not_mem_nil⟩⟩⟩⟩⟩⟩⟩⟩⟩⟩
def ctab : List (Nat × Nat × Nat × Nat) := ctab_0 ++ (ctab_1 ++ (ctab_2 ++ (ctab_3 ++ (ctab_4 ++ (ctab_5 ++ (ctab_6 ++ (ctab_7 ++ (ctab_8 ++ (ctab_9 ++ (ctab_10 ++ (ctab_11 ++ (ctab_12 ++ (ctab_13 ++ (ctab_14 ++ (ctab_15 ++ (ctab_16 ++ (ctab_17 ++ (ctab_18 ++ (ctab_19 ++ (ctab_20))))))))))))))))))))
theorem ctab_ok : ∀ q ∈ ctab, cok q := List.forall_mem_append.mpr ⟨ctab_0_ok, List.forall_mem_append.mpr ⟨ctab_1_ok, List.forall_mem_append.mpr ⟨ctab_2_ok, List.forall_mem_append.mpr ⟨ctab_3_ok, List.forall_mem_append.mpr ⟨ctab_4_ok, List.forall_mem_append.mpr ⟨ctab_5_ok, List.forall_mem_append.mpr ⟨ctab_6_ok, List.forall_mem_append.mpr ⟨ctab_7_ok, List.forall_mem_append.mpr ⟨ctab_8_ok, List.forall_mem_append.mpr ⟨ctab_9_ok, List.forall_mem_append.mpr ⟨ctab_10_ok, List.forall_mem_append.mpr ⟨ctab_11_ok, List.forall_mem_append.mpr ⟨ctab_12_ok, List.forall_mem_append.mpr ⟨ctab_13_ok, List.forall_mem_append.mpr ⟨ctab_14_ok, List.forall_mem_append.mpr ⟨ctab_15_ok, List.forall_mem_append.mpr ⟨ctab_16_ok, List.forall_mem_append.mpr ⟨ctab_17_ok, List.forall_mem_append.mpr ⟨ctab_18_ok, List.forall_mem_append.mpr ⟨ctab_19_ok, ctab_20_ok⟩⟩⟩⟩⟩⟩⟩⟩⟩⟩⟩⟩⟩⟩⟩⟩⟩⟩⟩⟩
def ct (c i : Nat) : Option (Nat × Nat) := (ctab.find? (fun q => q.1 == c && q.2.1 == i)).map (fun q => q.2.2)
def inm (k : Nat) : MethodName := match k with
  | 0 => Lib.objectInit
  | 1 => arraycopyName
  | 2 => Lib.Math.max.name
  | 3 => Lib.Math.min.name
  | _ => Lib.Math.abs.name
def iok (q : Nat × Nat × Nat) : Prop := Cond.methodLink (cn q.1) q.2.1 (inm q.2.2) ∈ BIG
theorem io_0 : iok (0, 3, 0) := w_364
theorem io_1 : iok (0, 47, 2) := w_954
theorem io_2 : iok (1, 3, 0) := w_253
theorem io_3 : iok (2, 3, 0) := w_263
theorem io_4 : iok (2, 81, 3) := w_743
theorem io_5 : iok (3, 3, 0) := w_345
theorem io_6 : iok (4, 1, 0) := w_117
theorem io_7 : iok (5, 3, 0) := w_222
theorem io_8 : iok (5, 64, 4) := w_538
theorem io_9 : iok (5, 72, 3) := w_544
theorem io_10 : iok (6, 3, 0) := w_312
theorem io_11 : iok (6, 70, 1) := w_907
theorem io_12 : iok (7, 1, 0) := w_435
theorem io_13 : iok (7, 23, 3) := w_1127
theorem io_14 : iok (8, 3, 0) := w_397
theorem io_15 : iok (8, 40, 3) := w_995
theorem io_16 : iok (8, 100, 2) := w_1102
theorem io_17 : iok (9, 1, 0) := w_422
theorem io_18 : iok (10, 3, 0) := w_123
theorem io_19 : iok (10, 9, 2) := w_124
theorem io_20 : iok (10, 46, 3) := w_1151
theorem io_21 : iok (10, 49, 1) := w_1152
theorem io_22 : iok (11, 1, 0) := w_109
theorem io_23 : iok (12, 1, 0) := w_1187
theorem io_24 : iok (16, 38, 3) := w_805
theorem io_25 : iok (16, 92, 2) := w_804
theorem io_26 : iok (100, 73, 1) := w_966
theorem io_27 : iok (101, 73, 1) := w_966
theorem io_28 : iok (102, 73, 1) := w_966
theorem io_29 : iok (103, 73, 1) := w_966
theorem io_30 : iok (104, 73, 1) := w_966
theorem io_31 : iok (105, 73, 1) := w_966
theorem io_32 : iok (106, 73, 1) := w_966
theorem io_33 : iok (107, 73, 1) := w_966
theorem io_34 : iok (108, 73, 1) := w_966
theorem io_35 : iok (109, 73, 1) := w_966
theorem io_36 : iok (110, 73, 1) := w_966
theorem io_37 : iok (111, 73, 1) := w_966
theorem io_38 : iok (112, 73, 1) := w_966
def itab_0 : List (Nat × Nat × Nat) := [(0, 3, 0), (0, 47, 2), (1, 3, 0), (2, 3, 0), (2, 81, 3), (3, 3, 0), (4, 1, 0), (5, 3, 0), (5, 64, 4), (5, 72, 3), (6, 3, 0), (6, 70, 1), (7, 1, 0), (7, 23, 3), (8, 3, 0), (8, 40, 3)]
theorem itab_0_ok : ∀ q ∈ itab_0, iok q := List.forall_mem_cons.mpr ⟨io_0, List.forall_mem_cons.mpr ⟨io_1, List.forall_mem_cons.mpr ⟨io_2, List.forall_mem_cons.mpr ⟨io_3, List.forall_mem_cons.mpr ⟨io_4, List.forall_mem_cons.mpr ⟨io_5, List.forall_mem_cons.mpr ⟨io_6, List.forall_mem_cons.mpr ⟨io_7, List.forall_mem_cons.mpr ⟨io_8, List.forall_mem_cons.mpr ⟨io_9, List.forall_mem_cons.mpr ⟨io_10, List.forall_mem_cons.mpr ⟨io_11, List.forall_mem_cons.mpr ⟨io_12, List.forall_mem_cons.mpr ⟨io_13, List.forall_mem_cons.mpr ⟨io_14, List.forall_mem_cons.mpr ⟨io_15, fun _ h => absurd h List.not_mem_nil⟩⟩⟩⟩⟩⟩⟩⟩⟩⟩⟩⟩⟩⟩⟩⟩
def itab_1 : List (Nat × Nat × Nat) := [(8, 100, 2), (9, 1, 0), (10, 3, 0), (10, 9, 2), (10, 46, 3), (10, 49, 1), (11, 1, 0), (12, 1, 0), (16, 38, 3), (16, 92, 2), (100, 73, 1), (101, 73, 1), (102, 73, 1), (103, 73, 1), (104, 73, 1), (105, 73, 1)]
theorem itab_1_ok : ∀ q ∈ itab_1, iok q := List.forall_mem_cons.mpr ⟨io_16, List.forall_mem_cons.mpr ⟨io_17, List.forall_mem_cons.mpr ⟨io_18, List.forall_mem_cons.mpr ⟨io_19, List.forall_mem_cons.mpr ⟨io_20, List.forall_mem_cons.mpr ⟨io_21, List.forall_mem_cons.mpr ⟨io_22, List.forall_mem_cons.mpr ⟨io_23, List.forall_mem_cons.mpr ⟨io_24, List.forall_mem_cons.mpr ⟨io_25, List.forall_mem_cons.mpr ⟨io_26, List.forall_mem_cons.mpr ⟨io_27, List.forall_mem_cons.mpr ⟨io_28, List.forall_mem_cons.mpr ⟨io_29, List.forall_mem_cons.mpr ⟨io_30, List.forall_mem_cons.mpr ⟨io_31, fun _ h => absurd h List.not_mem_nil⟩⟩⟩⟩⟩⟩⟩⟩⟩⟩⟩⟩⟩⟩⟩⟩
def itab_2 : List (Nat × Nat × Nat) := [(106, 73, 1), (107, 73, 1), (108, 73, 1), (109, 73, 1), (110, 73, 1), (111, 73, 1), (112, 73, 1)]
theorem itab_2_ok : ∀ q ∈ itab_2, iok q := List.forall_mem_cons.mpr ⟨io_32, List.forall_mem_cons.mpr ⟨io_33, List.forall_mem_cons.mpr ⟨io_34, List.forall_mem_cons.mpr ⟨io_35, List.forall_mem_cons.mpr ⟨io_36, List.forall_mem_cons.mpr ⟨io_37, List.forall_mem_cons.mpr ⟨io_38, fun _ h => absurd h List.not_mem_nil⟩⟩⟩⟩⟩⟩⟩
def itab : List (Nat × Nat × Nat) := itab_0 ++ (itab_1 ++ (itab_2))
theorem itab_ok : ∀ q ∈ itab, iok q := List.forall_mem_append.mpr ⟨itab_0_ok, List.forall_mem_append.mpr ⟨itab_1_ok, itab_2_ok⟩⟩
def it (c i : Nat) : Option Nat := (itab.find? (fun q => q.1 == c && q.2.1 == i)).map (fun q => q.2.2)
def nok (q : Nat × Nat × Nat) : Prop := ∃ r : vw_C, vwCl[q.2.2]? = some r ∧ Cond.classLink (cn q.1) q.2.1 r.1 ∈ BIG ∧ Cond.instantiable r.1 r.2.2 ∈ BIG ∧ Cond.initialized r.1 ∈ BIG
theorem no_0 : nok (0, 21, 10) := ⟨(RX10, TX10, 4), rfl, w_365, w_119, w_85⟩
theorem no_1 : nok (4, 7, 10) := ⟨(RX10, TX10, 4), rfl, w_118, w_119, w_85⟩
theorem no_2 : nok (6, 9, 10) := ⟨(RX10, TX10, 4), rfl, w_313, w_119, w_85⟩
theorem no_4 : nok (11, 7, 4) := ⟨(RX4, TX4, 10), rfl, w_112, w_113, w_84⟩
theorem no_5 : nok (11, 20, 5) := ⟨(RX5, TX5, 8), rfl, w_217, w_218, w_87⟩
theorem no_6 : nok (11, 33, 1) := ⟨(RX1, TX1, 1), rfl, w_248, w_249, w_88⟩
theorem no_7 : nok (11, 42, 2) := ⟨(RX2, TX2, 13), rfl, w_258, w_259, w_89⟩
theorem no_8 : nok (11, 52, 6) := ⟨(RX6, TX6, 8), rfl, w_307, w_308, w_90⟩
theorem no_9 : nok (11, 61, 3) := ⟨(RX3, TX3, 4), rfl, w_340, w_341, w_91⟩
theorem no_10 : nok (11, 70, 0) := ⟨(RX0, TX0, 8), rfl, w_359, w_360, w_92⟩
theorem no_11 : nok (11, 79, 8) := ⟨(RX8, TX8, 6), rfl, w_392, w_393, w_93⟩
theorem no_12 : nok (11, 86, 9) := ⟨(RX9, TX9, 2), rfl, w_417, w_418, w_94⟩
theorem no_13 : nok (11, 96, 7) := ⟨(RX7, TX7, 2), rfl, w_430, w_431, w_95⟩
theorem no_14 : nok (13, 7, 11) := ⟨(RX11, TX11, 11), rfl, w_104, w_105, w_83⟩
theorem no_15 : nok (13, 10, 12) := ⟨(RX12, TX12, 41), rfl, w_1182, w_1183, w_96⟩
def ntab_0 : List (Nat × Nat × Nat) := [(0, 21, 10), (4, 7, 10), (6, 9, 10), (11, 7, 4), (11, 20, 5), (11, 33, 1), (11, 42, 2), (11, 52, 6), (11, 61, 3), (11, 70, 0), (11, 79, 8), (11, 86, 9), (11, 96, 7), (13, 7, 11), (13, 10, 12)]
theorem ntab_0_ok : ∀ q ∈ ntab_0, nok q := List.forall_mem_cons.mpr ⟨no_0, List.forall_mem_cons.mpr ⟨no_1, List.forall_mem_cons.mpr ⟨no_2, List.forall_mem_cons.mpr ⟨no_4, List.forall_mem_cons.mpr ⟨no_5, List.forall_mem_cons.mpr ⟨no_6, List.forall_mem_cons.mpr ⟨no_7, List.forall_mem_cons.mpr ⟨no_8, List.forall_mem_cons.mpr ⟨no_9, List.forall_mem_cons.mpr ⟨no_10, List.forall_mem_cons.mpr ⟨no_11, List.forall_mem_cons.mpr ⟨no_12, List.forall_mem_cons.mpr ⟨no_13, List.forall_mem_cons.mpr ⟨no_14, List.forall_mem_cons.mpr ⟨no_15, fun _ h => absurd h List.not_mem_nil⟩⟩⟩⟩⟩⟩⟩⟩⟩⟩⟩⟩⟩⟩⟩
def ntab : List (Nat × Nat × Nat) := ntab_0
theorem ntab_ok : ∀ q ∈ ntab, nok q := ntab_0_ok
def nt (c i : Nat) : Option Nat := (ntab.find? (fun q => q.1 == c && q.2.1 == i)).map (fun q => q.2.2)
def kok (q : Nat × Nat × Int32) : Prop := Cond.constant (cn q.1) q.2.1 q.2.2 ∈ BIG
def jok (q : Nat × Nat × Int64) : Prop := Cond.constantLong (cn q.1) q.2.1 q.2.2 ∈ BIG
theorem ko_0 : kok (0, 56, 1000000) := w_955
theorem jo_2 : jok (2, 121, 31) := w_1181
theorem jo_3 : jok (8, 110, 20) := w_1107
theorem jo_4 : jok (10, 55, 31) := w_1176
theorem ko_5 : kok (11, 159, 99999) := w_585
theorem ko_6 : kok (11, 182, -100000) := w_678
theorem jo_7 : jok (11, 193, -2000000000000000000) := w_872
theorem jo_8 : jok (11, 195, -3000000000000000000) := w_873
theorem jo_9 : jok (11, 278, 293) := w_1169
theorem jo_10 : jok (11, 280, 31) := w_1170
theorem ko_11 : kok (12, 13, 32900) := w_1188
theorem ko_12 : kok (12, 157, 99999) := w_1372
theorem ko_13 : kok (12, 174, -100000) := w_1432
theorem jo_14 : jok (12, 226, -2000000000000000000) := w_1501
theorem jo_15 : jok (12, 228, -3000000000000000000) := w_1502
theorem jo_16 : jok (12, 288, 20) := w_1616
theorem jo_17 : jok (12, 300, 31) := w_1654
theorem jo_18 : jok (12, 302, 293) := w_1653
theorem ko_19 : kok (14, 265, 1431655765) := w_670
theorem ko_20 : kok (14, 266, 858993459) := w_671
theorem ko_21 : kok (14, 267, 252645135) := w_672
def ktab_0 : List (Nat × Nat × Int32) := [(0, 56, 1000000), (11, 159, 99999), (11, 182, -100000), (12, 13, 32900), (12, 157, 99999), (12, 174, -100000), (14, 265, 1431655765), (14, 266, 858993459), (14, 267, 252645135)]
theorem ktab_0_ok : ∀ q ∈ ktab_0, kok q := List.forall_mem_cons.mpr ⟨ko_0, List.forall_mem_cons.mpr ⟨ko_5, List.forall_mem_cons.mpr ⟨ko_6, List.forall_mem_cons.mpr ⟨ko_11, List.forall_mem_cons.mpr ⟨ko_12, List.forall_mem_cons.mpr ⟨ko_13, List.forall_mem_cons.mpr ⟨ko_19, List.forall_mem_cons.mpr ⟨ko_20, List.forall_mem_cons.mpr ⟨ko_21, fun _ h => absurd h List.not_mem_nil⟩⟩⟩⟩⟩⟩⟩⟩⟩
def ktab : List (Nat × Nat × Int32) := ktab_0
theorem ktab_ok : ∀ q ∈ ktab, kok q := ktab_0_ok
def kt (c i : Nat) : Option Int32 := (ktab.find? (fun q => q.1 == c && q.2.1 == i)).map (fun q => q.2.2)
def jtab_0 : List (Nat × Nat × Int64) := [(2, 121, 31), (8, 110, 20), (10, 55, 31), (11, 193, -2000000000000000000), (11, 195, -3000000000000000000), (11, 278, 293), (11, 280, 31), (12, 226, -2000000000000000000), (12, 228, -3000000000000000000), (12, 288, 20), (12, 300, 31), (12, 302, 293)]
theorem jtab_0_ok : ∀ q ∈ jtab_0, jok q := List.forall_mem_cons.mpr ⟨jo_2, List.forall_mem_cons.mpr ⟨jo_3, List.forall_mem_cons.mpr ⟨jo_4, List.forall_mem_cons.mpr ⟨jo_7, List.forall_mem_cons.mpr ⟨jo_8, List.forall_mem_cons.mpr ⟨jo_9, List.forall_mem_cons.mpr ⟨jo_10, List.forall_mem_cons.mpr ⟨jo_14, List.forall_mem_cons.mpr ⟨jo_15, List.forall_mem_cons.mpr ⟨jo_16, List.forall_mem_cons.mpr ⟨jo_17, List.forall_mem_cons.mpr ⟨jo_18, fun _ h => absurd h List.not_mem_nil⟩⟩⟩⟩⟩⟩⟩⟩⟩⟩⟩⟩
def jtab : List (Nat × Nat × Int64) := jtab_0
theorem jtab_ok : ∀ q ∈ jtab, jok q := jtab_0_ok
def jt (c i : Nat) : Option Int64 := (jtab.find? (fun q => q.1 == c && q.2.1 == i)).map (fun q => q.2.2)
theorem inst_ok : ∀ (ci : Nat) (r : vw_C), vwCl[ci]? = some r → Cond.instantiable r.1 r.2.2 ∈ BIG := by
  intro ci r h
  match ci, h with
  | 0, h => cases h; exact w_360
  | 1, h => cases h; exact w_249
  | 2, h => cases h; exact w_259
  | 3, h => cases h; exact w_341
  | 4, h => cases h; exact w_113
  | 5, h => cases h; exact w_218
  | 6, h => cases h; exact w_308
  | 7, h => cases h; exact w_431
  | 8, h => cases h; exact w_393
  | 9, h => cases h; exact w_418
  | 10, h => cases h; exact w_119
  | 11, h => cases h; exact w_105
  | 12, h => cases h; exact w_1183
  | k + 13, h => simp [vwCl] at h
theorem lwm_orders : (Cond.laysStatic "TouchLeague$Relays" "ORDERS" "[I") ∈ lw_tbl := List.mem_append_right _ (List.mem_append_right _ (List.mem_append_right _ (List.mem_append_right _ (List.mem_append_right _ (List.mem_append_left _ (List.mem_of_getElem? (l := tables_1_5) (i := 14) rfl))))))
theorem lwm_first : (Cond.laysStatic "TouchLeague$Relays" "FIRST_PLACES" "[I") ∈ lw_tbl := List.mem_append_right _ (List.mem_append_right _ (List.mem_append_right _ (List.mem_append_right _ (List.mem_append_right _ (List.mem_append_left _ (List.mem_of_getElem? (l := tables_1_5) (i := 20) rfl))))))
theorem lwm_second : (Cond.laysStatic "TouchLeague$Relays" "SECOND_PLACES" "[I") ∈ lw_tbl := List.mem_append_right _ (List.mem_append_right _ (List.mem_append_right _ (List.mem_append_right _ (List.mem_append_right _ (List.mem_append_left _ (List.mem_of_getElem? (l := tables_1_5) (i := 25) rfl))))))
theorem lwm_compact : (Cond.laysStatic "java/lang/String" "COMPACT_STRINGS" "Z") ∈ lw_tbl := List.mem_append_right _ (List.mem_append_right _ (List.mem_append_right _ (List.mem_append_left _ (List.mem_of_getElem? (l := tables_1_3) (i := 227) rfl))))
theorem lwm_string : (Cond.stringRef "TouchLeague$Formula" 111 "wdgbsyr") ∈ lw_tbl := List.mem_append_right _ (List.mem_append_right _ (List.mem_append_right _ (List.mem_append_left _ (List.mem_of_getElem? (l := tables_1_3) (i := 213) rfl))))
theorem lwm_over : (Cond.arrayOver (FieldType.object "TouchLeague$League")) ∈ lw_tbl := List.mem_append_right _ (List.mem_append_left _ (List.mem_of_getElem? (l := tables_1_1) (i := 134) rfl))
