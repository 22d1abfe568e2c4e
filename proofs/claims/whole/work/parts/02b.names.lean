theorem dX1_strike_31 : decode cX1_strike 31 = .ok (.iaload, 1) := by decide +kernel
theorem dX1_strike_32 : decode cX1_strike 32 = .ok (.iastore, 1) := by decide +kernel
theorem dX1_strike_33 : decode cX1_strike 33 = .ok (.iinc 2 1, 3) := by decide +kernel
theorem dX1_strike_36 : decode cX1_strike 36 = .ok (.goto (-25), 3) := by decide +kernel
theorem dX1_strike_39 : decode cX1_strike 39 = .ok (.iconst 1, 1) := by decide +kernel
theorem dX1_strike_40 : decode cX1_strike 40 = .ok (.ireturn, 1) := by decide +kernel
set_option maxRecDepth 20000 in
theorem ggX1_count_X1_guardsSet : GoodIn wsX1_count wsX1_guardsSet := goodIn_r _ [8, 9, 10, 11, 12, 13, 14] (by decide +kernel) (by decide +kernel)
set_option maxRecDepth 20000 in
theorem gX1_count_X1_guardsSet : GoodIn wsX1_count (wsV RX1 86 RX1 yX1_guardsSet wsX1_guardsSet) := goodIn_app (goodIn_of _ (by decide +kernel)) ggX1_count_X1_guardsSet
theorem dX1_count_0 : decode cX1_count 0 = .ok (.iload_n 1, 1) := by decide +kernel
theorem dX1_count_1 : decode cX1_count 1 = .ok (.tableswitch 51 0 3 #[31, 36, 41, 46], 31) := by decide +kernel
theorem dX1_count_32 : decode cX1_count 32 = .ok (.aload_n 0, 1) := by decide +kernel
theorem dX1_count_33 : decode cX1_count 33 = .ok (.getfield 20, 3) := by decide +kernel
theorem dX1_count_36 : decode cX1_count 36 = .ok (.ireturn, 1) := by decide +kernel
theorem dX1_count_37 : decode cX1_count 37 = .ok (.aload_n 0, 1) := by decide +kernel
theorem dX1_count_38 : decode cX1_count 38 = .ok (.getfield 24, 3) := by decide +kernel
theorem dX1_count_41 : decode cX1_count 41 = .ok (.ireturn, 1) := by decide +kernel
theorem dX1_count_42 : decode cX1_count 42 = .ok (.aload_n 0, 1) := by decide +kernel
theorem dX1_count_43 : decode cX1_count 43 = .ok (.invokevirtual 86, 3) := by decide +kernel
theorem dX1_count_46 : decode cX1_count 46 = .ok (.ireturn, 1) := by decide +kernel
theorem dX1_count_47 : decode cX1_count 47 = .ok (.aload_n 0, 1) := by decide +kernel
theorem dX1_count_48 : decode cX1_count 48 = .ok (.getfield 27, 3) := by decide +kernel
theorem dX1_count_51 : decode cX1_count 51 = .ok (.ireturn, 1) := by decide +kernel
theorem dX1_count_52 : decode cX1_count 52 = .ok (.iconst (-1), 1) := by decide +kernel
theorem dX1_count_53 : decode cX1_count 53 = .ok (.ireturn, 1) := by decide +kernel
theorem dX1_isWhat_0 : decode cX1_isWhat 0 = .ok (.iload_n 0, 1) := by decide +kernel
theorem dX1_isWhat_1 : decode cX1_isWhat 1 = .ok (.ifCond .lt 12, 3) := by decide +kernel
theorem dX1_isWhat_4 : decode cX1_isWhat 4 = .ok (.iload_n 0, 1) := by decide +kernel
theorem dX1_isWhat_5 : decode cX1_isWhat 5 = .ok (.iconst 2, 1) := by decide +kernel
theorem dX1_isWhat_6 : decode cX1_isWhat 6 = .ok (.if_icmp .ge 7, 3) := by decide +kernel
theorem dX1_isWhat_9 : decode cX1_isWhat 9 = .ok (.iconst 1, 1) := by decide +kernel
theorem dX1_isWhat_10 : decode cX1_isWhat 10 = .ok (.goto 4, 3) := by decide +kernel
theorem dX1_isWhat_13 : decode cX1_isWhat 13 = .ok (.iconst 0, 1) := by decide +kernel
theorem dX1_isWhat_14 : decode cX1_isWhat 14 = .ok (.ireturn, 1) := by decide +kernel
theorem dX1_isHow_0 : decode cX1_isHow 0 = .ok (.iload_n 0, 1) := by decide +kernel
theorem dX1_isHow_1 : decode cX1_isHow 1 = .ok (.ifCond .lt 12, 3) := by decide +kernel
theorem dX1_isHow_4 : decode cX1_isHow 4 = .ok (.iload_n 0, 1) := by decide +kernel
theorem dX1_isHow_5 : decode cX1_isHow 5 = .ok (.iconst 5, 1) := by decide +kernel
theorem dX1_isHow_6 : decode cX1_isHow 6 = .ok (.if_icmp .gt 7, 3) := by decide +kernel
theorem dX1_isHow_9 : decode cX1_isHow 9 = .ok (.iconst 1, 1) := by decide +kernel
theorem dX1_isHow_10 : decode cX1_isHow 10 = .ok (.goto 4, 3) := by decide +kernel
theorem dX1_isHow_13 : decode cX1_isHow 13 = .ok (.iconst 0, 1) := by decide +kernel
theorem dX1_isHow_14 : decode cX1_isHow 14 = .ok (.ireturn, 1) := by decide +kernel
set_option maxRecDepth 20000 in
theorem ggX1_isQuestion_X1_isWhat : GoodIn wsX1_isQuestion wsX1_isWhat := goodIn_r _ [4] (by decide +kernel) (by decide +kernel)
set_option maxRecDepth 20000 in
theorem gX1_isQuestion_X1_isWhat : GoodIn wsX1_isQuestion (va_wsS RX1 37 yX1_isWhat wsX1_isWhat) := goodIn_app (goodIn_of _ (by decide +kernel)) ggX1_isQuestion_X1_isWhat
set_option maxRecDepth 20000 in
theorem ggX1_isQuestion_X1_isHow : GoodIn wsX1_isQuestion wsX1_isHow := goodIn_r _ [7] (by decide +kernel) (by decide +kernel)
set_option maxRecDepth 20000 in
theorem gX1_isQuestion_X1_isHow : GoodIn wsX1_isQuestion (va_wsS RX1 90 yX1_isHow wsX1_isHow) := goodIn_app (goodIn_of _ (by decide +kernel)) ggX1_isQuestion_X1_isHow
theorem dX1_isQuestion_0 : decode cX1_isQuestion 0 = .ok (.iload_n 0, 1) := by decide +kernel
theorem dX1_isQuestion_1 : decode cX1_isQuestion 1 = .ok (.invokestatic 37, 3) := by decide +kernel
theorem dX1_isQuestion_4 : decode cX1_isQuestion 4 = .ok (.ifCond .eq 14, 3) := by decide +kernel
theorem dX1_isQuestion_7 : decode cX1_isQuestion 7 = .ok (.iload_n 1, 1) := by decide +kernel
theorem dX1_isQuestion_8 : decode cX1_isQuestion 8 = .ok (.invokestatic 90, 3) := by decide +kernel
theorem dX1_isQuestion_11 : decode cX1_isQuestion 11 = .ok (.ifCond .eq 7, 3) := by decide +kernel
theorem dX1_isQuestion_14 : decode cX1_isQuestion 14 = .ok (.iconst 1, 1) := by decide +kernel
theorem dX1_isQuestion_15 : decode cX1_isQuestion 15 = .ok (.goto 4, 3) := by decide +kernel
theorem dX1_isQuestion_18 : decode cX1_isQuestion 18 = .ok (.iconst 0, 1) := by decide +kernel
theorem dX1_isQuestion_19 : decode cX1_isQuestion 19 = .ok (.ireturn, 1) := by decide +kernel
theorem dX1_isString_0 : decode cX1_isString 0 = .ok (.iload_n 0, 1) := by decide +kernel
theorem dX1_isString_1 : decode cX1_isString 1 = .ok (.ifCond .lt 13, 3) := by decide +kernel
theorem dX1_isString_4 : decode cX1_isString 4 = .ok (.iload_n 0, 1) := by decide +kernel
theorem dX1_isString_5 : decode cX1_isString 5 = .ok (.bipush 32, 2) := by decide +kernel
theorem dX1_isString_7 : decode cX1_isString 7 = .ok (.if_icmp .ge 7, 3) := by decide +kernel
theorem dX1_isString_10 : decode cX1_isString 10 = .ok (.iconst 1, 1) := by decide +kernel
theorem dX1_isString_11 : decode cX1_isString 11 = .ok (.goto 4, 3) := by decide +kernel
theorem dX1_isString_14 : decode cX1_isString 14 = .ok (.iconst 0, 1) := by decide +kernel
theorem dX1_isString_15 : decode cX1_isString 15 = .ok (.ireturn, 1) := by decide +kernel
set_option maxRecDepth 20000 in
theorem ggX1_isStringOrFork_X1_isString : GoodIn wsX1_isStringOrFork wsX1_isString := goodIn_r _ [4] (by decide +kernel) (by decide +kernel)
set_option maxRecDepth 20000 in
theorem gX1_isStringOrFork_X1_isString : GoodIn wsX1_isStringOrFork (va_wsS RX1 63 yX1_isString wsX1_isString) := goodIn_app (goodIn_of _ (by decide +kernel)) ggX1_isStringOrFork_X1_isString
theorem dX1_isStringOrFork_0 : decode cX1_isStringOrFork 0 = .ok (.iload_n 0, 1) := by decide +kernel
theorem dX1_isStringOrFork_1 : decode cX1_isStringOrFork 1 = .ok (.invokestatic 63, 3) := by decide +kernel
theorem dX1_isStringOrFork_4 : decode cX1_isStringOrFork 4 = .ok (.ifCond .ne 9, 3) := by decide +kernel
theorem dX1_isStringOrFork_7 : decode cX1_isStringOrFork 7 = .ok (.iload_n 0, 1) := by decide +kernel
theorem dX1_isStringOrFork_8 : decode cX1_isStringOrFork 8 = .ok (.bipush 32, 2) := by decide +kernel
theorem dX1_isStringOrFork_10 : decode cX1_isStringOrFork 10 = .ok (.if_icmp .ne 7, 3) := by decide +kernel
theorem dX1_isStringOrFork_13 : decode cX1_isStringOrFork 13 = .ok (.iconst 1, 1) := by decide +kernel
theorem dX1_isStringOrFork_14 : decode cX1_isStringOrFork 14 = .ok (.goto 4, 3) := by decide +kernel
theorem dX1_isStringOrFork_17 : decode cX1_isStringOrFork 17 = .ok (.iconst 0, 1) := by decide +kernel
theorem dX1_isStringOrFork_18 : decode cX1_isStringOrFork 18 = .ok (.ireturn, 1) := by decide +kernel
theorem dX1_isGuard_0 : decode cX1_isGuard 0 = .ok (.iload_n 0, 1) := by decide +kernel
theorem dX1_isGuard_1 : decode cX1_isGuard 1 = .ok (.ifCond .lt 13, 3) := by decide +kernel
theorem dX1_isGuard_4 : decode cX1_isGuard 4 = .ok (.iload_n 0, 1) := by decide +kernel
theorem dX1_isGuard_5 : decode cX1_isGuard 5 = .ok (.bipush 8, 2) := by decide +kernel
theorem dX1_isGuard_7 : decode cX1_isGuard 7 = .ok (.if_icmp .ge 7, 3) := by decide +kernel
theorem dX1_isGuard_10 : decode cX1_isGuard 10 = .ok (.iconst 1, 1) := by decide +kernel
theorem dX1_isGuard_11 : decode cX1_isGuard 11 = .ok (.goto 4, 3) := by decide +kernel
theorem dX1_isGuard_14 : decode cX1_isGuard 14 = .ok (.iconst 0, 1) := by decide +kernel
theorem dX1_isGuard_15 : decode cX1_isGuard 15 = .ok (.ireturn, 1) := by decide +kernel
theorem dX1_isMode_0 : decode cX1_isMode 0 = .ok (.iload_n 0, 1) := by decide +kernel
theorem dX1_isMode_1 : decode cX1_isMode 1 = .ok (.ifCond .lt 12, 3) := by decide +kernel
theorem dX1_isMode_4 : decode cX1_isMode 4 = .ok (.iload_n 0, 1) := by decide +kernel
theorem dX1_isMode_5 : decode cX1_isMode 5 = .ok (.iconst 2, 1) := by decide +kernel
theorem dX1_isMode_6 : decode cX1_isMode 6 = .ok (.if_icmp .gt 7, 3) := by decide +kernel
theorem dX1_isMode_9 : decode cX1_isMode 9 = .ok (.iconst 1, 1) := by decide +kernel
theorem dX1_isMode_10 : decode cX1_isMode 10 = .ok (.goto 4, 3) := by decide +kernel
theorem dX1_isMode_13 : decode cX1_isMode 13 = .ok (.iconst 0, 1) := by decide +kernel
theorem dX1_isMode_14 : decode cX1_isMode 14 = .ok (.ireturn, 1) := by decide +kernel
theorem dX1_isValue_0 : decode cX1_isValue 0 = .ok (.iload_n 0, 1) := by decide +kernel
theorem dX1_isValue_1 : decode cX1_isValue 1 = .ok (.ifCond .ne 21, 3) := by decide +kernel
theorem dX1_isValue_4 : decode cX1_isValue 4 = .ok (.iload_n 1, 1) := by decide +kernel
theorem dX1_isValue_5 : decode cX1_isValue 5 = .ok (.ldc 93, 2) := by decide +kernel
theorem dX1_isValue_7 : decode cX1_isValue 7 = .ok (.if_icmp .lt 13, 3) := by decide +kernel
theorem dX1_isValue_10 : decode cX1_isValue 10 = .ok (.iload_n 1, 1) := by decide +kernel
theorem dX1_isValue_11 : decode cX1_isValue 11 = .ok (.ldc 94, 2) := by decide +kernel
theorem dX1_isValue_13 : decode cX1_isValue 13 = .ok (.if_icmp .gt 7, 3) := by decide +kernel
theorem dX1_isValue_16 : decode cX1_isValue 16 = .ok (.iconst 1, 1) := by decide +kernel
theorem dX1_isValue_17 : decode cX1_isValue 17 = .ok (.goto 4, 3) := by decide +kernel
theorem dX1_isValue_20 : decode cX1_isValue 20 = .ok (.iconst 0, 1) := by decide +kernel
theorem dX1_isValue_21 : decode cX1_isValue 21 = .ok (.ireturn, 1) := by decide +kernel
theorem dX1_isValue_22 : decode cX1_isValue 22 = .ok (.iload_n 0, 1) := by decide +kernel
theorem dX1_isValue_23 : decode cX1_isValue 23 = .ok (.iconst 1, 1) := by decide +kernel
theorem dX1_isValue_24 : decode cX1_isValue 24 = .ok (.if_icmp .lt 12, 3) := by decide +kernel
theorem dX1_isValue_27 : decode cX1_isValue 27 = .ok (.iload_n 0, 1) := by decide +kernel
theorem dX1_isValue_28 : decode cX1_isValue 28 = .ok (.iconst 4, 1) := by decide +kernel
theorem dX1_isValue_29 : decode cX1_isValue 29 = .ok (.if_icmp .gt 7, 3) := by decide +kernel
theorem dX1_isValue_32 : decode cX1_isValue 32 = .ok (.iconst 1, 1) := by decide +kernel
theorem dX1_isValue_33 : decode cX1_isValue 33 = .ok (.goto 4, 3) := by decide +kernel
theorem dX1_isValue_36 : decode cX1_isValue 36 = .ok (.iconst 0, 1) := by decide +kernel
theorem dX1_isValue_37 : decode cX1_isValue 37 = .ok (.ireturn, 1) := by decide +kernel
theorem dX1_valueOf_0 : decode cX1_valueOf 0 = .ok (.iload_n 0, 1) := by decide +kernel
theorem dX1_valueOf_1 : decode cX1_valueOf 1 = .ok (.tableswitch 46 0 4 #[35, 46, 37, 40, 43], 35) := by decide +kernel
theorem dX1_valueOf_36 : decode cX1_valueOf 36 = .ok (.iload_n 1, 1) := by decide +kernel
theorem dX1_valueOf_37 : decode cX1_valueOf 37 = .ok (.ireturn, 1) := by decide +kernel
theorem dX1_valueOf_38 : decode cX1_valueOf 38 = .ok (.ldc 95, 2) := by decide +kernel
theorem dX1_valueOf_40 : decode cX1_valueOf 40 = .ok (.ireturn, 1) := by decide +kernel
theorem dX1_valueOf_41 : decode cX1_valueOf 41 = .ok (.ldc 96, 2) := by decide +kernel
theorem dX1_valueOf_43 : decode cX1_valueOf 43 = .ok (.ireturn, 1) := by decide +kernel
theorem dX1_valueOf_44 : decode cX1_valueOf 44 = .ok (.ldc 97, 2) := by decide +kernel
theorem dX1_valueOf_46 : decode cX1_valueOf 46 = .ok (.ireturn, 1) := by decide +kernel
theorem dX1_valueOf_47 : decode cX1_valueOf 47 = .ok (.ldc 30, 2) := by decide +kernel
theorem dX1_valueOf_49 : decode cX1_valueOf 49 = .ok (.ireturn, 1) := by decide +kernel
theorem dX1_sortOf_0 : decode cX1_sortOf 0 = .ok (.iload_n 0, 1) := by decide +kernel
theorem dX1_sortOf_1 : decode cX1_sortOf 1 = .ok (.lookupswitch 51 #[(-40001, 49), (40001, 47), (40002, 45), (40003, 43)], 43) := by decide +kernel
theorem dX1_sortOf_44 : decode cX1_sortOf 44 = .ok (.iconst 1, 1) := by decide +kernel
theorem dX1_sortOf_45 : decode cX1_sortOf 45 = .ok (.ireturn, 1) := by decide +kernel
theorem dX1_sortOf_46 : decode cX1_sortOf 46 = .ok (.iconst 2, 1) := by decide +kernel
theorem dX1_sortOf_47 : decode cX1_sortOf 47 = .ok (.ireturn, 1) := by decide +kernel
theorem dX1_sortOf_48 : decode cX1_sortOf 48 = .ok (.iconst 3, 1) := by decide +kernel
theorem dX1_sortOf_49 : decode cX1_sortOf 49 = .ok (.ireturn, 1) := by decide +kernel
theorem dX1_sortOf_50 : decode cX1_sortOf 50 = .ok (.iconst 4, 1) := by decide +kernel
theorem dX1_sortOf_51 : decode cX1_sortOf 51 = .ok (.ireturn, 1) := by decide +kernel
theorem dX1_sortOf_52 : decode cX1_sortOf 52 = .ok (.iconst 0, 1) := by decide +kernel
theorem dX1_sortOf_53 : decode cX1_sortOf 53 = .ok (.ireturn, 1) := by decide +kernel
theorem dX1_sizeOf_0 : decode cX1_sizeOf 0 = .ok (.iload_n 0, 1) := by decide +kernel
theorem dX1_sizeOf_1 : decode cX1_sizeOf 1 = .ok (.ldc 95, 2) := by decide +kernel
theorem dX1_sizeOf_3 : decode cX1_sizeOf 3 = .ok (.if_icmp .ne 7, 3) := by decide +kernel
theorem dX1_sizeOf_6 : decode cX1_sizeOf 6 = .ok (.iconst 0, 1) := by decide +kernel
theorem dX1_sizeOf_7 : decode cX1_sizeOf 7 = .ok (.goto 4, 3) := by decide +kernel
theorem dX1_sizeOf_10 : decode cX1_sizeOf 10 = .ok (.iload_n 0, 1) := by decide +kernel
theorem dX1_sizeOf_11 : decode cX1_sizeOf 11 = .ok (.ireturn, 1) := by decide +kernel
set_option maxRecDepth 20000 in
theorem ggX1_stands_X1_valueStands : GoodIn wsX1_stands wsX1_valueStands := goodIn_r _ [5, 6, 7, 8, 4, 9, 10, 11, 12, 13] (by decide +kernel) (by decide +kernel)
set_option maxRecDepth 20000 in
theorem gX1_stands_X1_valueStands : GoodIn wsX1_stands (va_wsS RX1 98 yX1_valueStands wsX1_valueStands) := goodIn_app (goodIn_of _ (by decide +kernel)) ggX1_stands_X1_valueStands
theorem dX1_stands_0 : decode cX1_stands 0 = .ok (.iload_n 2, 1) := by decide +kernel
theorem dX1_stands_1 : decode cX1_stands 1 = .ok (.aload_n 0, 1) := by decide +kernel
theorem dX1_stands_2 : decode cX1_stands 2 = .ok (.getfield 11, 3) := by decide +kernel
theorem dX1_stands_5 : decode cX1_stands 5 = .ok (.iload_n 1, 1) := by decide +kernel
theorem dX1_stands_6 : decode cX1_stands 6 = .ok (.aaload, 1) := by decide +kernel
theorem dX1_stands_7 : decode cX1_stands 7 = .ok (.iload_n 3, 1) := by decide +kernel
theorem dX1_stands_8 : decode cX1_stands 8 = .ok (.iaload, 1) := by decide +kernel
theorem dX1_stands_9 : decode cX1_stands 9 = .ok (.aload_n 0, 1) := by decide +kernel
theorem dX1_stands_10 : decode cX1_stands 10 = .ok (.getfield 11, 3) := by decide +kernel
theorem dX1_stands_13 : decode cX1_stands 13 = .ok (.iload_n 1, 1) := by decide +kernel
theorem dX1_stands_14 : decode cX1_stands 14 = .ok (.aaload, 1) := by decide +kernel
theorem dX1_stands_15 : decode cX1_stands 15 = .ok (.iload 4, 2) := by decide +kernel
theorem dX1_stands_17 : decode cX1_stands 17 = .ok (.iaload, 1) := by decide +kernel
theorem dX1_stands_18 : decode cX1_stands 18 = .ok (.invokestatic 98, 3) := by decide +kernel
theorem dX1_stands_21 : decode cX1_stands 21 = .ok (.ireturn, 1) := by decide +kernel
set_option maxRecDepth 20000 in
theorem ggX1_valueStands_X1_sizeOf : GoodIn wsX1_valueStands wsX1_sizeOf := goodIn_r _ [5, 6] (by decide +kernel) (by decide +kernel)
set_option maxRecDepth 20000 in
theorem gX1_valueStands_X1_sizeOf : GoodIn wsX1_valueStands (va_wsS RX1 102 yX1_sizeOf wsX1_sizeOf) := goodIn_app (goodIn_of _ (by decide +kernel)) ggX1_valueStands_X1_sizeOf
set_option maxRecDepth 20000 in
theorem ggX1_valueStands_X1_sizeStands : GoodIn wsX1_valueStands wsX1_sizeStands := goodIn_r _ [9] (by decide +kernel) (by decide +kernel)
set_option maxRecDepth 20000 in
theorem gX1_valueStands_X1_sizeStands : GoodIn wsX1_valueStands (va_wsS RX1 105 yX1_sizeStands wsX1_sizeStands) := goodIn_app (goodIn_of _ (by decide +kernel)) ggX1_valueStands_X1_sizeStands
theorem dX1_valueStands_0 : decode cX1_valueStands 0 = .ok (.iload_n 1, 1) := by decide +kernel
theorem dX1_valueStands_1 : decode cX1_valueStands 1 = .ok (.ldc 30, 2) := by decide +kernel
theorem dX1_valueStands_3 : decode cX1_valueStands 3 = .ok (.if_icmp .eq 9, 3) := by decide +kernel
theorem dX1_valueStands_6 : decode cX1_valueStands 6 = .ok (.iload_n 2, 1) := by decide +kernel
theorem dX1_valueStands_7 : decode cX1_valueStands 7 = .ok (.ldc 30, 2) := by decide +kernel
theorem dX1_valueStands_9 : decode cX1_valueStands 9 = .ok (.if_icmp .ne 14, 3) := by decide +kernel
theorem dX1_valueStands_12 : decode cX1_valueStands 12 = .ok (.iload_n 0, 1) := by decide +kernel
theorem dX1_valueStands_13 : decode cX1_valueStands 13 = .ok (.iconst 5, 1) := by decide +kernel
theorem dX1_valueStands_14 : decode cX1_valueStands 14 = .ok (.if_icmp .ne 7, 3) := by decide +kernel
theorem dX1_valueStands_17 : decode cX1_valueStands 17 = .ok (.iconst 1, 1) := by decide +kernel
theorem dX1_valueStands_18 : decode cX1_valueStands 18 = .ok (.goto 4, 3) := by decide +kernel
theorem dX1_valueStands_21 : decode cX1_valueStands 21 = .ok (.iconst 0, 1) := by decide +kernel
theorem dX1_valueStands_22 : decode cX1_valueStands 22 = .ok (.ireturn, 1) := by decide +kernel
theorem dX1_valueStands_23 : decode cX1_valueStands 23 = .ok (.iload_n 0, 1) := by decide +kernel
theorem dX1_valueStands_24 : decode cX1_valueStands 24 = .ok (.iload_n 1, 1) := by decide +kernel
theorem dX1_valueStands_25 : decode cX1_valueStands 25 = .ok (.invokestatic 102, 3) := by decide +kernel
theorem dX1_valueStands_28 : decode cX1_valueStands 28 = .ok (.iload_n 2, 1) := by decide +kernel
theorem dX1_valueStands_29 : decode cX1_valueStands 29 = .ok (.invokestatic 102, 3) := by decide +kernel
theorem dX1_valueStands_32 : decode cX1_valueStands 32 = .ok (.invokestatic 105, 3) := by decide +kernel
theorem dX1_valueStands_35 : decode cX1_valueStands 35 = .ok (.ireturn, 1) := by decide +kernel
theorem dX1_sizeStands_0 : decode cX1_sizeStands 0 = .ok (.iload_n 0, 1) := by decide +kernel
theorem dX1_sizeStands_1 : decode cX1_sizeStands 1 = .ok (.tableswitch 90 0 4 #[35, 46, 57, 68, 79], 35) := by decide +kernel
theorem dX1_sizeStands_36 : decode cX1_sizeStands 36 = .ok (.iload_n 1, 1) := by decide +kernel
theorem dX1_sizeStands_37 : decode cX1_sizeStands 37 = .ok (.iload_n 2, 1) := by decide +kernel
theorem dX1_sizeStands_38 : decode cX1_sizeStands 38 = .ok (.if_icmp .ge 7, 3) := by decide +kernel
theorem dX1_sizeStands_41 : decode cX1_sizeStands 41 = .ok (.iconst 1, 1) := by decide +kernel
theorem dX1_sizeStands_42 : decode cX1_sizeStands 42 = .ok (.goto 4, 3) := by decide +kernel
theorem dX1_sizeStands_45 : decode cX1_sizeStands 45 = .ok (.iconst 0, 1) := by decide +kernel
theorem dX1_sizeStands_46 : decode cX1_sizeStands 46 = .ok (.ireturn, 1) := by decide +kernel
theorem dX1_sizeStands_47 : decode cX1_sizeStands 47 = .ok (.iload_n 1, 1) := by decide +kernel
theorem dX1_sizeStands_48 : decode cX1_sizeStands 48 = .ok (.iload_n 2, 1) := by decide +kernel
theorem dX1_sizeStands_49 : decode cX1_sizeStands 49 = .ok (.if_icmp .gt 7, 3) := by decide +kernel
theorem dX1_sizeStands_52 : decode cX1_sizeStands 52 = .ok (.iconst 1, 1) := by decide +kernel
theorem dX1_sizeStands_53 : decode cX1_sizeStands 53 = .ok (.goto 4, 3) := by decide +kernel
theorem dX1_sizeStands_56 : decode cX1_sizeStands 56 = .ok (.iconst 0, 1) := by decide +kernel
theorem dX1_sizeStands_57 : decode cX1_sizeStands 57 = .ok (.ireturn, 1) := by decide +kernel
theorem dX1_sizeStands_58 : decode cX1_sizeStands 58 = .ok (.iload_n 1, 1) := by decide +kernel
theorem dX1_sizeStands_59 : decode cX1_sizeStands 59 = .ok (.iload_n 2, 1) := by decide +kernel
theorem dX1_sizeStands_60 : decode cX1_sizeStands 60 = .ok (.if_icmp .le 7, 3) := by decide +kernel
theorem dX1_sizeStands_63 : decode cX1_sizeStands 63 = .ok (.iconst 1, 1) := by decide +kernel
theorem dX1_sizeStands_64 : decode cX1_sizeStands 64 = .ok (.goto 4, 3) := by decide +kernel
theorem dX1_sizeStands_67 : decode cX1_sizeStands 67 = .ok (.iconst 0, 1) := by decide +kernel
theorem dX1_sizeStands_68 : decode cX1_sizeStands 68 = .ok (.ireturn, 1) := by decide +kernel
theorem dX1_sizeStands_69 : decode cX1_sizeStands 69 = .ok (.iload_n 1, 1) := by decide +kernel
theorem dX1_sizeStands_70 : decode cX1_sizeStands 70 = .ok (.iload_n 2, 1) := by decide +kernel
theorem dX1_sizeStands_71 : decode cX1_sizeStands 71 = .ok (.if_icmp .lt 7, 3) := by decide +kernel
theorem dX1_sizeStands_74 : decode cX1_sizeStands 74 = .ok (.iconst 1, 1) := by decide +kernel
theorem dX1_sizeStands_75 : decode cX1_sizeStands 75 = .ok (.goto 4, 3) := by decide +kernel
theorem dX1_sizeStands_78 : decode cX1_sizeStands 78 = .ok (.iconst 0, 1) := by decide +kernel
theorem dX1_sizeStands_79 : decode cX1_sizeStands 79 = .ok (.ireturn, 1) := by decide +kernel
theorem dX1_sizeStands_80 : decode cX1_sizeStands 80 = .ok (.iload_n 1, 1) := by decide +kernel
theorem dX1_sizeStands_81 : decode cX1_sizeStands 81 = .ok (.iload_n 2, 1) := by decide +kernel
theorem dX1_sizeStands_82 : decode cX1_sizeStands 82 = .ok (.if_icmp .ne 7, 3) := by decide +kernel
theorem dX1_sizeStands_85 : decode cX1_sizeStands 85 = .ok (.iconst 1, 1) := by decide +kernel
theorem dX1_sizeStands_86 : decode cX1_sizeStands 86 = .ok (.goto 4, 3) := by decide +kernel
theorem dX1_sizeStands_89 : decode cX1_sizeStands 89 = .ok (.iconst 0, 1) := by decide +kernel
theorem dX1_sizeStands_90 : decode cX1_sizeStands 90 = .ok (.ireturn, 1) := by decide +kernel
theorem dX1_sizeStands_91 : decode cX1_sizeStands 91 = .ok (.iload_n 1, 1) := by decide +kernel
theorem dX1_sizeStands_92 : decode cX1_sizeStands 92 = .ok (.iload_n 2, 1) := by decide +kernel
theorem dX1_sizeStands_93 : decode cX1_sizeStands 93 = .ok (.if_icmp .eq 7, 3) := by decide +kernel
theorem dX1_sizeStands_96 : decode cX1_sizeStands 96 = .ok (.iconst 1, 1) := by decide +kernel
theorem dX1_sizeStands_97 : decode cX1_sizeStands 97 = .ok (.goto 4, 3) := by decide +kernel
theorem dX1_sizeStands_100 : decode cX1_sizeStands 100 = .ok (.iconst 0, 1) := by decide +kernel
theorem dX1_sizeStands_101 : decode cX1_sizeStands 101 = .ok (.ireturn, 1) := by decide +kernel
theorem dX1_changeWithNext_0 : decode cX1_changeWithNext 0 = .ok (.aload_n 0, 1) := by decide +kernel
theorem dX1_changeWithNext_1 : decode cX1_changeWithNext 1 = .ok (.getfield 11, 3) := by decide +kernel
theorem dX1_changeWithNext_4 : decode cX1_changeWithNext 4 = .ok (.iload_n 1, 1) := by decide +kernel
theorem dX1_changeWithNext_5 : decode cX1_changeWithNext 5 = .ok (.aaload, 1) := by decide +kernel
theorem dX1_changeWithNext_6 : decode cX1_changeWithNext 6 = .ok (.astore_n 3, 1) := by decide +kernel
theorem dX1_changeWithNext_7 : decode cX1_changeWithNext 7 = .ok (.aload_n 3, 1) := by decide +kernel
theorem dX1_changeWithNext_8 : decode cX1_changeWithNext 8 = .ok (.iload_n 2, 1) := by decide +kernel
theorem dX1_changeWithNext_9 : decode cX1_changeWithNext 9 = .ok (.iaload, 1) := by decide +kernel
theorem dX1_changeWithNext_10 : decode cX1_changeWithNext 10 = .ok (.istore 4, 2) := by decide +kernel
theorem dX1_changeWithNext_12 : decode cX1_changeWithNext 12 = .ok (.aload_n 3, 1) := by decide +kernel
theorem dX1_changeWithNext_13 : decode cX1_changeWithNext 13 = .ok (.iload_n 2, 1) := by decide +kernel
theorem dX1_changeWithNext_14 : decode cX1_changeWithNext 14 = .ok (.aload_n 3, 1) := by decide +kernel
theorem dX1_changeWithNext_15 : decode cX1_changeWithNext 15 = .ok (.iload_n 2, 1) := by decide +kernel
theorem dX1_changeWithNext_16 : decode cX1_changeWithNext 16 = .ok (.iconst 1, 1) := by decide +kernel
theorem dX1_changeWithNext_17 : decode cX1_changeWithNext 17 = .ok (.iadd, 1) := by decide +kernel
theorem dX1_changeWithNext_18 : decode cX1_changeWithNext 18 = .ok (.iaload, 1) := by decide +kernel
theorem dX1_changeWithNext_19 : decode cX1_changeWithNext 19 = .ok (.iastore, 1) := by decide +kernel
theorem dX1_changeWithNext_20 : decode cX1_changeWithNext 20 = .ok (.aload_n 3, 1) := by decide +kernel
theorem dX1_changeWithNext_21 : decode cX1_changeWithNext 21 = .ok (.iload_n 2, 1) := by decide +kernel
theorem dX1_changeWithNext_22 : decode cX1_changeWithNext 22 = .ok (.iconst 1, 1) := by decide +kernel
theorem dX1_changeWithNext_23 : decode cX1_changeWithNext 23 = .ok (.iadd, 1) := by decide +kernel
theorem dX1_changeWithNext_24 : decode cX1_changeWithNext 24 = .ok (.iload 4, 2) := by decide +kernel
theorem dX1_changeWithNext_26 : decode cX1_changeWithNext 26 = .ok (.iastore, 1) := by decide +kernel
theorem dX1_changeWithNext_27 : decode cX1_changeWithNext 27 = .ok (.return_, 1) := by decide +kernel
set_option maxRecDepth 20000 in
theorem ggX1_ringsNow_X1_valueStands : GoodIn wsX1_ringsNow wsX1_valueStands := goodIn_r _ [5, 6, 7, 8, 4, 9, 10, 11, 12, 13] (by decide +kernel) (by decide +kernel)
set_option maxRecDepth 20000 in
theorem gX1_ringsNow_X1_valueStands : GoodIn wsX1_ringsNow (va_wsS RX1 98 yX1_valueStands wsX1_valueStands) := goodIn_app (goodIn_of _ (by decide +kernel)) ggX1_ringsNow_X1_valueStands
set_option maxRecDepth 20000 in
theorem ggX1_ringsNow_X1_isRung : GoodIn wsX1_ringsNow wsX1_isRung := goodIn_r _ [16] (by decide +kernel) (by decide +kernel)
set_option maxRecDepth 20000 in
theorem gX1_ringsNow_X1_isRung : GoodIn wsX1_ringsNow (va_wsS RX1 124 yX1_isRung wsX1_isRung) := goodIn_app (goodIn_of _ (by decide +kernel)) ggX1_ringsNow_X1_isRung
theorem dX1_ringsNow_0 : decode cX1_ringsNow 0 = .ok (.aload_n 1, 1) := by decide +kernel
theorem dX1_ringsNow_1 : decode cX1_ringsNow 1 = .ok (.getfield 108, 3) := by decide +kernel
theorem dX1_ringsNow_4 : decode cX1_ringsNow 4 = .ok (.aload_n 0, 1) := by decide +kernel
theorem dX1_ringsNow_5 : decode cX1_ringsNow 5 = .ok (.getfield 11, 3) := by decide +kernel
theorem dX1_ringsNow_8 : decode cX1_ringsNow 8 = .ok (.aload_n 1, 1) := by decide +kernel
theorem dX1_ringsNow_9 : decode cX1_ringsNow 9 = .ok (.getfield 111, 3) := by decide +kernel
theorem dX1_ringsNow_12 : decode cX1_ringsNow 12 = .ok (.aaload, 1) := by decide +kernel
theorem dX1_ringsNow_13 : decode cX1_ringsNow 13 = .ok (.bipush 32, 2) := by decide +kernel
theorem dX1_ringsNow_15 : decode cX1_ringsNow 15 = .ok (.iaload, 1) := by decide +kernel
theorem dX1_ringsNow_16 : decode cX1_ringsNow 16 = .ok (.aload_n 1, 1) := by decide +kernel
theorem dX1_ringsNow_17 : decode cX1_ringsNow 17 = .ok (.getfield 114, 3) := by decide +kernel
theorem dX1_ringsNow_20 : decode cX1_ringsNow 20 = .ok (.invokestatic 98, 3) := by decide +kernel
theorem dX1_ringsNow_23 : decode cX1_ringsNow 23 = .ok (.istore_n 2, 1) := by decide +kernel
theorem dX1_ringsNow_24 : decode cX1_ringsNow 24 = .ok (.aload_n 1, 1) := by decide +kernel
theorem dX1_ringsNow_25 : decode cX1_ringsNow 25 = .ok (.getfield 117, 3) := by decide +kernel
theorem dX1_ringsNow_28 : decode cX1_ringsNow 28 = .ok (.iload_n 2, 1) := by decide +kernel
theorem dX1_ringsNow_29 : decode cX1_ringsNow 29 = .ok (.aload_n 1, 1) := by decide +kernel
theorem dX1_ringsNow_30 : decode cX1_ringsNow 30 = .ok (.getfield 120, 3) := by decide +kernel
theorem dX1_ringsNow_33 : decode cX1_ringsNow 33 = .ok (.invokestatic 124, 3) := by decide +kernel
theorem dX1_ringsNow_36 : decode cX1_ringsNow 36 = .ok (.istore_n 3, 1) := by decide +kernel
theorem dX1_ringsNow_37 : decode cX1_ringsNow 37 = .ok (.aload_n 1, 1) := by decide +kernel
theorem dX1_ringsNow_38 : decode cX1_ringsNow 38 = .ok (.iload_n 2, 1) := by decide +kernel
theorem dX1_ringsNow_39 : decode cX1_ringsNow 39 = .ok (.putfield 120, 3) := by decide +kernel
theorem dX1_ringsNow_42 : decode cX1_ringsNow 42 = .ok (.iload_n 3, 1) := by decide +kernel
theorem dX1_ringsNow_43 : decode cX1_ringsNow 43 = .ok (.ifCond .eq 13, 3) := by decide +kernel
theorem dX1_ringsNow_46 : decode cX1_ringsNow 46 = .ok (.aload_n 1, 1) := by decide +kernel
theorem dX1_ringsNow_47 : decode cX1_ringsNow 47 = .ok (.dup, 1) := by decide +kernel
theorem dX1_ringsNow_48 : decode cX1_ringsNow 48 = .ok (.getfield 83, 3) := by decide +kernel
theorem dX1_ringsNow_51 : decode cX1_ringsNow 51 = .ok (.iconst 1, 1) := by decide +kernel
theorem dX1_ringsNow_52 : decode cX1_ringsNow 52 = .ok (.iadd, 1) := by decide +kernel
theorem dX1_ringsNow_53 : decode cX1_ringsNow 53 = .ok (.putfield 83, 3) := by decide +kernel
theorem dX1_ringsNow_56 : decode cX1_ringsNow 56 = .ok (.iload_n 3, 1) := by decide +kernel
theorem dX1_ringsNow_57 : decode cX1_ringsNow 57 = .ok (.ireturn, 1) := by decide +kernel
theorem dX1_isRung_0 : decode cX1_isRung 0 = .ok (.iload_n 0, 1) := by decide +kernel
theorem dX1_isRung_1 : decode cX1_isRung 1 = .ok (.lookupswitch 39 #[(0, 27), (1, 29)], 27) := by decide +kernel
theorem dX1_isRung_28 : decode cX1_isRung 28 = .ok (.iload_n 1, 1) := by decide +kernel
theorem dX1_isRung_29 : decode cX1_isRung 29 = .ok (.ireturn, 1) := by decide +kernel
theorem dX1_isRung_30 : decode cX1_isRung 30 = .ok (.iload_n 1, 1) := by decide +kernel
theorem dX1_isRung_31 : decode cX1_isRung 31 = .ok (.ifCond .ne 7, 3) := by decide +kernel
theorem dX1_isRung_34 : decode cX1_isRung 34 = .ok (.iconst 1, 1) := by decide +kernel
theorem dX1_isRung_35 : decode cX1_isRung 35 = .ok (.goto 4, 3) := by decide +kernel
theorem dX1_isRung_38 : decode cX1_isRung 38 = .ok (.iconst 0, 1) := by decide +kernel
theorem dX1_isRung_39 : decode cX1_isRung 39 = .ok (.ireturn, 1) := by decide +kernel
theorem dX1_isRung_40 : decode cX1_isRung 40 = .ok (.iload_n 1, 1) := by decide +kernel
theorem dX1_isRung_41 : decode cX1_isRung 41 = .ok (.iload_n 2, 1) := by decide +kernel
theorem dX1_isRung_42 : decode cX1_isRung 42 = .ok (.if_icmp .eq 7, 3) := by decide +kernel
theorem dX1_isRung_45 : decode cX1_isRung 45 = .ok (.iconst 1, 1) := by decide +kernel
theorem dX1_isRung_46 : decode cX1_isRung 46 = .ok (.goto 4, 3) := by decide +kernel
theorem dX1_isRung_49 : decode cX1_isRung 49 = .ok (.iconst 0, 1) := by decide +kernel
theorem dX1_isRung_50 : decode cX1_isRung 50 = .ok (.ireturn, 1) := by decide +kernel
theorem dX1_guardsSet_0 : decode cX1_guardsSet 0 = .ok (.iconst 0, 1) := by decide +kernel
theorem dX1_guardsSet_1 : decode cX1_guardsSet 1 = .ok (.istore_n 1, 1) := by decide +kernel
theorem dX1_guardsSet_2 : decode cX1_guardsSet 2 = .ok (.iconst 0, 1) := by decide +kernel
theorem dX1_guardsSet_3 : decode cX1_guardsSet 3 = .ok (.istore_n 2, 1) := by decide +kernel
theorem dX1_guardsSet_4 : decode cX1_guardsSet 4 = .ok (.iload_n 2, 1) := by decide +kernel
theorem dX1_guardsSet_5 : decode cX1_guardsSet 5 = .ok (.bipush 8, 2) := by decide +kernel
theorem dX1_guardsSet_7 : decode cX1_guardsSet 7 = .ok (.if_icmp .ge 21, 3) := by decide +kernel
theorem dX1_guardsSet_10 : decode cX1_guardsSet 10 = .ok (.aload_n 0, 1) := by decide +kernel
theorem dX1_guardsSet_11 : decode cX1_guardsSet 11 = .ok (.getfield 16, 3) := by decide +kernel
theorem dX1_guardsSet_14 : decode cX1_guardsSet 14 = .ok (.iload_n 2, 1) := by decide +kernel
theorem dX1_guardsSet_15 : decode cX1_guardsSet 15 = .ok (.aaload, 1) := by decide +kernel
theorem dX1_guardsSet_16 : decode cX1_guardsSet 16 = .ok (.ifnull 6, 3) := by decide +kernel
theorem dX1_guardsSet_19 : decode cX1_guardsSet 19 = .ok (.iinc 1 1, 3) := by decide +kernel
theorem dX1_guardsSet_22 : decode cX1_guardsSet 22 = .ok (.iinc 2 1, 3) := by decide +kernel
theorem dX1_guardsSet_25 : decode cX1_guardsSet 25 = .ok (.goto (-21), 3) := by decide +kernel
theorem dX1_guardsSet_28 : decode cX1_guardsSet 28 = .ok (.iload_n 1, 1) := by decide +kernel
theorem dX1_guardsSet_29 : decode cX1_guardsSet 29 = .ok (.ireturn, 1) := by decide +kernel
theorem dX2_init_0 : decode cX2_init 0 = .ok (.aload_n 0, 1) := by decide +kernel
theorem dX2_init_1 : decode cX2_init 1 = .ok (.invokespecial 1, 3) := by decide +kernel
theorem dX2_init_4 : decode cX2_init 4 = .ok (.aload_n 0, 1) := by decide +kernel
theorem dX2_init_5 : decode cX2_init 5 = .ok (.bipush 66, 2) := by decide +kernel
theorem dX2_init_7 : decode cX2_init 7 = .ok (.newarray .int, 2) := by decide +kernel
theorem dX2_init_9 : decode cX2_init 9 = .ok (.putfield 7, 3) := by decide +kernel
theorem dX2_init_12 : decode cX2_init 12 = .ok (.aload_n 0, 1) := by decide +kernel
theorem dX2_init_13 : decode cX2_init 13 = .ok (.bipush 66, 2) := by decide +kernel
theorem dX2_init_15 : decode cX2_init 15 = .ok (.newarray .int, 2) := by decide +kernel
theorem dX2_init_17 : decode cX2_init 17 = .ok (.putfield 13, 3) := by decide +kernel
theorem dX2_init_20 : decode cX2_init 20 = .ok (.aload_n 0, 1) := by decide +kernel
theorem dX2_init_21 : decode cX2_init 21 = .ok (.iconst (-1), 1) := by decide +kernel
theorem dX2_init_22 : decode cX2_init 22 = .ok (.putfield 16, 3) := by decide +kernel
theorem dX2_init_25 : decode cX2_init 25 = .ok (.aload_n 0, 1) := by decide +kernel
theorem dX2_init_26 : decode cX2_init 26 = .ok (.bipush 8, 2) := by decide +kernel
theorem dX2_init_28 : decode cX2_init 28 = .ok (.newarray .boolean, 2) := by decide +kernel
theorem dX2_init_30 : decode cX2_init 30 = .ok (.putfield 20, 3) := by decide +kernel
theorem dX2_init_33 : decode cX2_init 33 = .ok (.aload_n 0, 1) := by decide +kernel
theorem dX2_init_34 : decode cX2_init 34 = .ok (.bipush 8, 2) := by decide +kernel
theorem dX2_init_36 : decode cX2_init 36 = .ok (.newarray .int, 2) := by decide +kernel
theorem dX2_init_38 : decode cX2_init 38 = .ok (.putfield 24, 3) := by decide +kernel
theorem dX2_init_41 : decode cX2_init 41 = .ok (.aload_n 0, 1) := by decide +kernel
theorem dX2_init_42 : decode cX2_init 42 = .ok (.bipush 8, 2) := by decide +kernel
theorem dX2_init_44 : decode cX2_init 44 = .ok (.newarray .int, 2) := by decide +kernel
theorem dX2_init_46 : decode cX2_init 46 = .ok (.putfield 27, 3) := by decide +kernel
theorem dX2_init_49 : decode cX2_init 49 = .ok (.aload_n 0, 1) := by decide +kernel
theorem dX2_init_50 : decode cX2_init 50 = .ok (.bipush 8, 2) := by decide +kernel
theorem dX2_init_52 : decode cX2_init 52 = .ok (.newarray .int, 2) := by decide +kernel
theorem dX2_init_54 : decode cX2_init 54 = .ok (.putfield 30, 3) := by decide +kernel
theorem dX2_init_57 : decode cX2_init 57 = .ok (.aload_n 0, 1) := by decide +kernel
theorem dX2_init_58 : decode cX2_init 58 = .ok (.bipush 8, 2) := by decide +kernel
theorem dX2_init_60 : decode cX2_init 60 = .ok (.newarray .int, 2) := by decide +kernel
theorem dX2_init_62 : decode cX2_init 62 = .ok (.putfield 33, 3) := by decide +kernel
theorem dX2_init_65 : decode cX2_init 65 = .ok (.aload_n 0, 1) := by decide +kernel
theorem dX2_init_66 : decode cX2_init 66 = .ok (.bipush 8, 2) := by decide +kernel
theorem dX2_init_68 : decode cX2_init 68 = .ok (.newarray .int, 2) := by decide +kernel
theorem dX2_init_70 : decode cX2_init 70 = .ok (.putfield 36, 3) := by decide +kernel
theorem dX2_init_73 : decode cX2_init 73 = .ok (.aload_n 0, 1) := by decide +kernel
theorem dX2_init_74 : decode cX2_init 74 = .ok (.bipush 8, 2) := by decide +kernel
theorem dX2_init_76 : decode cX2_init 76 = .ok (.newarray .boolean, 2) := by decide +kernel
theorem dX2_init_78 : decode cX2_init 78 = .ok (.putfield 39, 3) := by decide +kernel
theorem dX2_init_81 : decode cX2_init 81 = .ok (.aload_n 0, 1) := by decide +kernel
theorem dX2_init_82 : decode cX2_init 82 = .ok (.bipush 8, 2) := by decide +kernel
theorem dX2_init_84 : decode cX2_init 84 = .ok (.newarray .int, 2) := by decide +kernel
theorem dX2_init_86 : decode cX2_init 86 = .ok (.putfield 42, 3) := by decide +kernel
theorem dX2_init_89 : decode cX2_init 89 = .ok (.iconst 0, 1) := by decide +kernel
theorem dX2_init_90 : decode cX2_init 90 = .ok (.istore_n 1, 1) := by decide +kernel
theorem dX2_init_91 : decode cX2_init 91 = .ok (.iload_n 1, 1) := by decide +kernel
theorem dX2_init_92 : decode cX2_init 92 = .ok (.aload_n 0, 1) := by decide +kernel
theorem dX2_init_93 : decode cX2_init 93 = .ok (.getfield 7, 3) := by decide +kernel
theorem dX2_init_96 : decode cX2_init 96 = .ok (.arraylength, 1) := by decide +kernel
theorem dX2_init_97 : decode cX2_init 97 = .ok (.if_icmp .ge 16, 3) := by decide +kernel
theorem dX2_init_100 : decode cX2_init 100 = .ok (.aload_n 0, 1) := by decide +kernel
theorem dX2_init_101 : decode cX2_init 101 = .ok (.getfield 7, 3) := by decide +kernel
theorem dX2_init_104 : decode cX2_init 104 = .ok (.iload_n 1, 1) := by decide +kernel
theorem dX2_init_105 : decode cX2_init 105 = .ok (.iconst 1, 1) := by decide +kernel
theorem dX2_init_106 : decode cX2_init 106 = .ok (.iastore, 1) := by decide +kernel
theorem dX2_init_107 : decode cX2_init 107 = .ok (.iinc 1 1, 3) := by decide +kernel
theorem dX2_init_110 : decode cX2_init 110 = .ok (.goto (-19), 3) := by decide +kernel
theorem dX2_init_113 : decode cX2_init 113 = .ok (.return_, 1) := by decide +kernel
theorem dX2_in_0 : decode cX2_in 0 = .ok (.iload_n 0, 1) := by decide +kernel
theorem dX2_in_1 : decode cX2_in 1 = .ok (.iload_n 1, 1) := by decide +kernel
theorem dX2_in_2 : decode cX2_in 2 = .ok (.if_icmp .lt 12, 3) := by decide +kernel
theorem dX2_in_5 : decode cX2_in 5 = .ok (.iload_n 0, 1) := by decide +kernel
theorem dX2_in_6 : decode cX2_in 6 = .ok (.iload_n 2, 1) := by decide +kernel
theorem dX2_in_7 : decode cX2_in 7 = .ok (.if_icmp .gt 7, 3) := by decide +kernel
theorem dX2_in_10 : decode cX2_in 10 = .ok (.iconst 1, 1) := by decide +kernel
theorem dX2_in_11 : decode cX2_in 11 = .ok (.goto 4, 3) := by decide +kernel
theorem dX2_in_14 : decode cX2_in 14 = .ok (.iconst 0, 1) := by decide +kernel
theorem dX2_in_15 : decode cX2_in 15 = .ok (.ireturn, 1) := by decide +kernel
set_option maxRecDepth 20000 in
theorem ggX2_isString_X2_in : GoodIn wsX2_isString wsX2_in := goodIn_r _ [4] (by decide +kernel) (by decide +kernel)
set_option maxRecDepth 20000 in
theorem gX2_isString_X2_in : GoodIn wsX2_isString (va_wsS RX2 45 yX2_in wsX2_in) := goodIn_app (goodIn_of _ (by decide +kernel)) ggX2_isString_X2_in
theorem dX2_isString_0 : decode cX2_isString 0 = .ok (.iload_n 0, 1) := by decide +kernel
theorem dX2_isString_1 : decode cX2_isString 1 = .ok (.iconst 0, 1) := by decide +kernel
theorem dX2_isString_2 : decode cX2_isString 2 = .ok (.bipush 31, 2) := by decide +kernel
theorem dX2_isString_4 : decode cX2_isString 4 = .ok (.invokestatic 45, 3) := by decide +kernel
theorem dX2_isString_7 : decode cX2_isString 7 = .ok (.ireturn, 1) := by decide +kernel
set_option maxRecDepth 20000 in
theorem ggX2_isStringOrFork_X2_in : GoodIn wsX2_isStringOrFork wsX2_in := goodIn_r _ [4] (by decide +kernel) (by decide +kernel)
set_option maxRecDepth 20000 in
theorem gX2_isStringOrFork_X2_in : GoodIn wsX2_isStringOrFork (va_wsS RX2 45 yX2_in wsX2_in) := goodIn_app (goodIn_of _ (by decide +kernel)) ggX2_isStringOrFork_X2_in
theorem dX2_isStringOrFork_0 : decode cX2_isStringOrFork 0 = .ok (.iload_n 0, 1) := by decide +kernel
theorem dX2_isStringOrFork_1 : decode cX2_isStringOrFork 1 = .ok (.iconst 0, 1) := by decide +kernel
theorem dX2_isStringOrFork_2 : decode cX2_isStringOrFork 2 = .ok (.bipush 32, 2) := by decide +kernel
theorem dX2_isStringOrFork_4 : decode cX2_isStringOrFork 4 = .ok (.invokestatic 45, 3) := by decide +kernel
theorem dX2_isStringOrFork_7 : decode cX2_isStringOrFork 7 = .ok (.ireturn, 1) := by decide +kernel
set_option maxRecDepth 20000 in
theorem ggX2_isAsked_X2_in : GoodIn wsX2_isAsked wsX2_in := goodIn_r _ [4] (by decide +kernel) (by decide +kernel)
set_option maxRecDepth 20000 in
theorem gX2_isAsked_X2_in : GoodIn wsX2_isAsked (va_wsS RX2 45 yX2_in wsX2_in) := goodIn_app (goodIn_of _ (by decide +kernel)) ggX2_isAsked_X2_in
theorem dX2_isAsked_0 : decode cX2_isAsked 0 = .ok (.iload_n 0, 1) := by decide +kernel
theorem dX2_isAsked_1 : decode cX2_isAsked 1 = .ok (.iconst 0, 1) := by decide +kernel
theorem dX2_isAsked_2 : decode cX2_isAsked 2 = .ok (.iconst 1, 1) := by decide +kernel
theorem dX2_isAsked_3 : decode cX2_isAsked 3 = .ok (.invokestatic 45, 3) := by decide +kernel
theorem dX2_isAsked_6 : decode cX2_isAsked 6 = .ok (.ifCond .eq 16, 3) := by decide +kernel
theorem dX2_isAsked_9 : decode cX2_isAsked 9 = .ok (.iload_n 1, 1) := by decide +kernel
theorem dX2_isAsked_10 : decode cX2_isAsked 10 = .ok (.iconst 0, 1) := by decide +kernel
theorem dX2_isAsked_11 : decode cX2_isAsked 11 = .ok (.iconst 5, 1) := by decide +kernel
theorem dX2_isAsked_12 : decode cX2_isAsked 12 = .ok (.invokestatic 45, 3) := by decide +kernel
theorem dX2_isAsked_15 : decode cX2_isAsked 15 = .ok (.ifCond .eq 7, 3) := by decide +kernel
theorem dX2_isAsked_18 : decode cX2_isAsked 18 = .ok (.iconst 1, 1) := by decide +kernel
theorem dX2_isAsked_19 : decode cX2_isAsked 19 = .ok (.goto 4, 3) := by decide +kernel
theorem dX2_isAsked_22 : decode cX2_isAsked 22 = .ok (.iconst 0, 1) := by decide +kernel
theorem dX2_isAsked_23 : decode cX2_isAsked 23 = .ok (.ireturn, 1) := by decide +kernel
theorem dX2_at_0 : decode cX2_at 0 = .ok (.bipush 33, 2) := by decide +kernel
theorem dX2_at_2 : decode cX2_at 2 = .ok (.iload_n 0, 1) := by decide +kernel
theorem dX2_at_3 : decode cX2_at 3 = .ok (.imul, 1) := by decide +kernel
theorem dX2_at_4 : decode cX2_at 4 = .ok (.iload_n 1, 1) := by decide +kernel
theorem dX2_at_5 : decode cX2_at 5 = .ok (.iadd, 1) := by decide +kernel
theorem dX2_at_6 : decode cX2_at 6 = .ok (.ireturn, 1) := by decide +kernel
theorem dX2_place_0 : decode cX2_place 0 = .ok (.iload_n 0, 1) := by decide +kernel
theorem dX2_place_1 : decode cX2_place 1 = .ok (.ifCond .ne 7, 3) := by decide +kernel
theorem dX2_place_4 : decode cX2_place 4 = .ok (.iload_n 1, 1) := by decide +kernel
theorem dX2_place_5 : decode cX2_place 5 = .ok (.goto 24, 3) := by decide +kernel
theorem dX2_place_8 : decode cX2_place 8 = .ok (.iload_n 0, 1) := by decide +kernel
theorem dX2_place_9 : decode cX2_place 9 = .ok (.iconst 3, 1) := by decide +kernel
theorem dX2_place_10 : decode cX2_place 10 = .ok (.if_icmp .ne 8, 3) := by decide +kernel
theorem dX2_place_13 : decode cX2_place 13 = .ok (.ldc 49, 2) := by decide +kernel
theorem dX2_place_15 : decode cX2_place 15 = .ok (.goto 14, 3) := by decide +kernel
theorem dX2_place_18 : decode cX2_place 18 = .ok (.iload_n 0, 1) := by decide +kernel
theorem dX2_place_19 : decode cX2_place 19 = .ok (.iconst 4, 1) := by decide +kernel
theorem dX2_place_20 : decode cX2_place 20 = .ok (.if_icmp .ne 8, 3) := by decide +kernel
theorem dX2_place_23 : decode cX2_place 23 = .ok (.ldc 50, 2) := by decide +kernel
theorem dX2_place_25 : decode cX2_place 25 = .ok (.goto 4, 3) := by decide +kernel
theorem dX2_place_28 : decode cX2_place 28 = .ok (.iconst 0, 1) := by decide +kernel
theorem dX2_place_29 : decode cX2_place 29 = .ok (.ireturn, 1) := by decide +kernel
set_option maxRecDepth 20000 in
theorem ggX2_goes_X2_place : GoodIn wsX2_goes wsX2_place := goodIn_r _ [4, 5, 6] (by decide +kernel) (by decide +kernel)
set_option maxRecDepth 20000 in
theorem gX2_goes_X2_place : GoodIn wsX2_goes (va_wsS RX2 51 yX2_place wsX2_place) := goodIn_app (goodIn_of _ (by decide +kernel)) ggX2_goes_X2_place
theorem dX2_goes_0 : decode cX2_goes 0 = .ok (.iload_n 1, 1) := by decide +kernel
theorem dX2_goes_1 : decode cX2_goes 1 = .ok (.iconst 1, 1) := by decide +kernel
theorem dX2_goes_2 : decode cX2_goes 2 = .ok (.if_icmp .eq 8, 3) := by decide +kernel
theorem dX2_goes_5 : decode cX2_goes 5 = .ok (.iload_n 3, 1) := by decide +kernel
theorem dX2_goes_6 : decode cX2_goes 6 = .ok (.iconst 1, 1) := by decide +kernel
theorem dX2_goes_7 : decode cX2_goes 7 = .ok (.if_icmp .ne 14, 3) := by decide +kernel
theorem dX2_goes_10 : decode cX2_goes 10 = .ok (.iload_n 0, 1) := by decide +kernel
theorem dX2_goes_11 : decode cX2_goes 11 = .ok (.iconst 5, 1) := by decide +kernel
theorem dX2_goes_12 : decode cX2_goes 12 = .ok (.if_icmp .ne 7, 3) := by decide +kernel
theorem dX2_goes_15 : decode cX2_goes 15 = .ok (.iconst 1, 1) := by decide +kernel
theorem dX2_goes_16 : decode cX2_goes 16 = .ok (.goto 4, 3) := by decide +kernel
theorem dX2_goes_19 : decode cX2_goes 19 = .ok (.iconst 0, 1) := by decide +kernel
theorem dX2_goes_20 : decode cX2_goes 20 = .ok (.ireturn, 1) := by decide +kernel
theorem dX2_goes_21 : decode cX2_goes 21 = .ok (.iload_n 1, 1) := by decide +kernel
theorem dX2_goes_22 : decode cX2_goes 22 = .ok (.iload_n 2, 1) := by decide +kernel
theorem dX2_goes_23 : decode cX2_goes 23 = .ok (.invokestatic 51, 3) := by decide +kernel
theorem dX2_goes_26 : decode cX2_goes 26 = .ok (.istore 5, 2) := by decide +kernel
theorem dX2_goes_28 : decode cX2_goes 28 = .ok (.iload_n 3, 1) := by decide +kernel
theorem dX2_goes_29 : decode cX2_goes 29 = .ok (.iload 4, 2) := by decide +kernel
theorem dX2_goes_31 : decode cX2_goes 31 = .ok (.invokestatic 51, 3) := by decide +kernel
theorem dX2_goes_34 : decode cX2_goes 34 = .ok (.istore 6, 2) := by decide +kernel
theorem dX2_goes_36 : decode cX2_goes 36 = .ok (.iload 5, 2) := by decide +kernel
theorem dX2_goes_38 : decode cX2_goes 38 = .ok (.iload 6, 2) := by decide +kernel
theorem dX2_goes_40 : decode cX2_goes 40 = .ok (.if_icmp .ne 24, 3) := by decide +kernel
theorem dX2_goes_43 : decode cX2_goes 43 = .ok (.iload_n 0, 1) := by decide +kernel
theorem dX2_goes_44 : decode cX2_goes 44 = .ok (.iconst 1, 1) := by decide +kernel
theorem dX2_goes_45 : decode cX2_goes 45 = .ok (.if_icmp .eq 13, 3) := by decide +kernel
theorem dX2_goes_48 : decode cX2_goes 48 = .ok (.iload_n 0, 1) := by decide +kernel
theorem dX2_goes_49 : decode cX2_goes 49 = .ok (.iconst 3, 1) := by decide +kernel
theorem dX2_goes_50 : decode cX2_goes 50 = .ok (.if_icmp .eq 8, 3) := by decide +kernel
theorem dX2_goes_53 : decode cX2_goes 53 = .ok (.iload_n 0, 1) := by decide +kernel
theorem dX2_goes_54 : decode cX2_goes 54 = .ok (.iconst 4, 1) := by decide +kernel
theorem dX2_goes_55 : decode cX2_goes 55 = .ok (.if_icmp .ne 7, 3) := by decide +kernel
theorem dX2_goes_58 : decode cX2_goes 58 = .ok (.iconst 1, 1) := by decide +kernel
theorem dX2_goes_59 : decode cX2_goes 59 = .ok (.goto 4, 3) := by decide +kernel
theorem dX2_goes_62 : decode cX2_goes 62 = .ok (.iconst 0, 1) := by decide +kernel
theorem dX2_goes_63 : decode cX2_goes 63 = .ok (.ireturn, 1) := by decide +kernel
theorem dX2_goes_64 : decode cX2_goes 64 = .ok (.iload_n 0, 1) := by decide +kernel
theorem dX2_goes_65 : decode cX2_goes 65 = .ok (.iconst 5, 1) := by decide +kernel
theorem dX2_goes_66 : decode cX2_goes 66 = .ok (.if_icmp .ne 5, 3) := by decide +kernel
theorem dX2_goes_69 : decode cX2_goes 69 = .ok (.iconst 1, 1) := by decide +kernel
theorem dX2_goes_70 : decode cX2_goes 70 = .ok (.ireturn, 1) := by decide +kernel
theorem dX2_goes_71 : decode cX2_goes 71 = .ok (.iload 5, 2) := by decide +kernel
theorem dX2_goes_73 : decode cX2_goes 73 = .ok (.iload 6, 2) := by decide +kernel
theorem dX2_goes_75 : decode cX2_goes 75 = .ok (.if_icmp .ge 20, 3) := by decide +kernel
theorem dX2_goes_78 : decode cX2_goes 78 = .ok (.iload_n 0, 1) := by decide +kernel
theorem dX2_goes_79 : decode cX2_goes 79 = .ok (.ifCond .eq 8, 3) := by decide +kernel
theorem dX2_goes_82 : decode cX2_goes 82 = .ok (.iload_n 0, 1) := by decide +kernel
theorem dX2_goes_83 : decode cX2_goes 83 = .ok (.iconst 1, 1) := by decide +kernel
theorem dX2_goes_84 : decode cX2_goes 84 = .ok (.if_icmp .ne 7, 3) := by decide +kernel
theorem dX2_goes_87 : decode cX2_goes 87 = .ok (.iconst 1, 1) := by decide +kernel
theorem dX2_goes_88 : decode cX2_goes 88 = .ok (.goto 22, 3) := by decide +kernel
theorem dX2_goes_91 : decode cX2_goes 91 = .ok (.iconst 0, 1) := by decide +kernel
theorem dX2_goes_92 : decode cX2_goes 92 = .ok (.goto 18, 3) := by decide +kernel
theorem dX2_goes_95 : decode cX2_goes 95 = .ok (.iload_n 0, 1) := by decide +kernel
theorem dX2_goes_96 : decode cX2_goes 96 = .ok (.iconst 2, 1) := by decide +kernel
theorem dX2_goes_97 : decode cX2_goes 97 = .ok (.if_icmp .eq 8, 3) := by decide +kernel
theorem dX2_goes_100 : decode cX2_goes 100 = .ok (.iload_n 0, 1) := by decide +kernel
theorem dX2_goes_101 : decode cX2_goes 101 = .ok (.iconst 3, 1) := by decide +kernel
theorem dX2_goes_102 : decode cX2_goes 102 = .ok (.if_icmp .ne 7, 3) := by decide +kernel
theorem dX2_goes_105 : decode cX2_goes 105 = .ok (.iconst 1, 1) := by decide +kernel
theorem dX2_goes_106 : decode cX2_goes 106 = .ok (.goto 4, 3) := by decide +kernel
theorem dX2_goes_109 : decode cX2_goes 109 = .ok (.iconst 0, 1) := by decide +kernel
theorem dX2_goes_110 : decode cX2_goes 110 = .ok (.ireturn, 1) := by decide +kernel
set_option maxRecDepth 20000 in
theorem ggX2_stands_X2_at : GoodIn wsX2_stands wsX2_at := goodIn_r _ [6] (by decide +kernel) (by decide +kernel)
set_option maxRecDepth 20000 in
theorem gX2_stands_X2_at : GoodIn wsX2_stands (va_wsS RX2 55 yX2_at wsX2_at) := goodIn_app (goodIn_of _ (by decide +kernel)) ggX2_stands_X2_at
set_option maxRecDepth 20000 in
theorem ggX2_stands_X2_goes : GoodIn wsX2_stands wsX2_goes := goodIn_r _ [9, 10, 11, 5, 12, 13, 14] (by decide +kernel) (by decide +kernel)
set_option maxRecDepth 20000 in
theorem gX2_stands_X2_goes : GoodIn wsX2_stands (va_wsS RX2 58 yX2_goes wsX2_goes) := goodIn_app (goodIn_of _ (by decide +kernel)) ggX2_stands_X2_goes
theorem dX2_stands_0 : decode cX2_stands 0 = .ok (.iload_n 1, 1) := by decide +kernel
theorem dX2_stands_1 : decode cX2_stands 1 = .ok (.iload_n 3, 1) := by decide +kernel
theorem dX2_stands_2 : decode cX2_stands 2 = .ok (.invokestatic 55, 3) := by decide +kernel
theorem dX2_stands_5 : decode cX2_stands 5 = .ok (.istore 5, 2) := by decide +kernel
theorem dX2_stands_7 : decode cX2_stands 7 = .ok (.iload_n 1, 1) := by decide +kernel
theorem dX2_stands_8 : decode cX2_stands 8 = .ok (.iload 4, 2) := by decide +kernel
theorem dX2_stands_10 : decode cX2_stands 10 = .ok (.invokestatic 55, 3) := by decide +kernel
theorem dX2_stands_13 : decode cX2_stands 13 = .ok (.istore 6, 2) := by decide +kernel
theorem dX2_stands_15 : decode cX2_stands 15 = .ok (.iload_n 2, 1) := by decide +kernel
theorem dX2_stands_16 : decode cX2_stands 16 = .ok (.aload_n 0, 1) := by decide +kernel
theorem dX2_stands_17 : decode cX2_stands 17 = .ok (.getfield 7, 3) := by decide +kernel
theorem dX2_stands_20 : decode cX2_stands 20 = .ok (.iload 5, 2) := by decide +kernel
theorem dX2_stands_22 : decode cX2_stands 22 = .ok (.iaload, 1) := by decide +kernel
theorem dX2_stands_23 : decode cX2_stands 23 = .ok (.aload_n 0, 1) := by decide +kernel
theorem dX2_stands_24 : decode cX2_stands 24 = .ok (.getfield 13, 3) := by decide +kernel
theorem dX2_stands_27 : decode cX2_stands 27 = .ok (.iload 5, 2) := by decide +kernel
theorem dX2_stands_29 : decode cX2_stands 29 = .ok (.iaload, 1) := by decide +kernel
theorem dX2_stands_30 : decode cX2_stands 30 = .ok (.aload_n 0, 1) := by decide +kernel
theorem dX2_stands_31 : decode cX2_stands 31 = .ok (.getfield 7, 3) := by decide +kernel
theorem dX2_stands_34 : decode cX2_stands 34 = .ok (.iload 6, 2) := by decide +kernel
theorem dX2_stands_36 : decode cX2_stands 36 = .ok (.iaload, 1) := by decide +kernel
theorem dX2_stands_37 : decode cX2_stands 37 = .ok (.aload_n 0, 1) := by decide +kernel
theorem dX2_stands_38 : decode cX2_stands 38 = .ok (.getfield 13, 3) := by decide +kernel
theorem dX2_stands_41 : decode cX2_stands 41 = .ok (.iload 6, 2) := by decide +kernel
theorem dX2_stands_43 : decode cX2_stands 43 = .ok (.iaload, 1) := by decide +kernel
theorem dX2_stands_44 : decode cX2_stands 44 = .ok (.invokestatic 58, 3) := by decide +kernel
theorem dX2_stands_47 : decode cX2_stands 47 = .ok (.ireturn, 1) := by decide +kernel
set_option maxRecDepth 20000 in
theorem ggX2_put_X2_in : GoodIn wsX2_put wsX2_in := goodIn_r _ [8] (by decide +kernel) (by decide +kernel)
set_option maxRecDepth 20000 in
theorem gX2_put_X2_in : GoodIn wsX2_put (va_wsS RX2 45 yX2_in wsX2_in) := goodIn_app (goodIn_of _ (by decide +kernel)) ggX2_put_X2_in
set_option maxRecDepth 20000 in
theorem ggX2_put_X2_isStringOrFork : GoodIn wsX2_put wsX2_isStringOrFork := goodIn_r _ [11, 5, 6, 7, 8] (by decide +kernel) (by decide +kernel)
set_option maxRecDepth 20000 in
theorem gX2_put_X2_isStringOrFork : GoodIn wsX2_put (va_wsS RX2 62 yX2_isStringOrFork wsX2_isStringOrFork) := goodIn_app (goodIn_of _ (by decide +kernel)) ggX2_put_X2_isStringOrFork
set_option maxRecDepth 20000 in
theorem ggX2_put_X2_at : GoodIn wsX2_put wsX2_at := goodIn_r _ [14] (by decide +kernel) (by decide +kernel)
set_option maxRecDepth 20000 in
theorem gX2_put_X2_at : GoodIn wsX2_put (va_wsS RX2 55 yX2_at wsX2_at) := goodIn_app (goodIn_of _ (by decide +kernel)) ggX2_put_X2_at
theorem dX2_put_0 : decode cX2_put 0 = .ok (.iload_n 1, 1) := by decide +kernel
theorem dX2_put_1 : decode cX2_put 1 = .ok (.iconst 0, 1) := by decide +kernel
theorem dX2_put_2 : decode cX2_put 2 = .ok (.iconst 1, 1) := by decide +kernel
theorem dX2_put_3 : decode cX2_put 3 = .ok (.invokestatic 45, 3) := by decide +kernel
theorem dX2_put_6 : decode cX2_put 6 = .ok (.ifCond .eq 19, 3) := by decide +kernel
theorem dX2_put_9 : decode cX2_put 9 = .ok (.iload_n 2, 1) := by decide +kernel
theorem dX2_put_10 : decode cX2_put 10 = .ok (.invokestatic 62, 3) := by decide +kernel
theorem dX2_put_13 : decode cX2_put 13 = .ok (.ifCond .eq 12, 3) := by decide +kernel
theorem dX2_put_16 : decode cX2_put 16 = .ok (.iload_n 3, 1) := by decide +kernel
theorem dX2_put_17 : decode cX2_put 17 = .ok (.iconst 0, 1) := by decide +kernel
theorem dX2_put_18 : decode cX2_put 18 = .ok (.iconst 4, 1) := by decide +kernel
theorem dX2_put_19 : decode cX2_put 19 = .ok (.invokestatic 45, 3) := by decide +kernel
theorem dX2_put_22 : decode cX2_put 22 = .ok (.ifCond .ne 5, 3) := by decide +kernel
theorem dX2_put_25 : decode cX2_put 25 = .ok (.iconst 0, 1) := by decide +kernel
theorem dX2_put_26 : decode cX2_put 26 = .ok (.ireturn, 1) := by decide +kernel
theorem dX2_put_27 : decode cX2_put 27 = .ok (.iload_n 3, 1) := by decide +kernel
theorem dX2_put_28 : decode cX2_put 28 = .ok (.ifCond .ne 17, 3) := by decide +kernel
theorem dX2_put_31 : decode cX2_put 31 = .ok (.iload 4, 2) := by decide +kernel
theorem dX2_put_33 : decode cX2_put 33 = .ok (.ldc 66, 2) := by decide +kernel
theorem dX2_put_35 : decode cX2_put 35 = .ok (.ldc 67, 2) := by decide +kernel
theorem dX2_put_37 : decode cX2_put 37 = .ok (.invokestatic 45, 3) := by decide +kernel
theorem dX2_put_40 : decode cX2_put 40 = .ok (.ifCond .ne 5, 3) := by decide +kernel
theorem dX2_put_43 : decode cX2_put 43 = .ok (.iconst 0, 1) := by decide +kernel
theorem dX2_put_44 : decode cX2_put 44 = .ok (.ireturn, 1) := by decide +kernel
theorem dX2_put_45 : decode cX2_put 45 = .ok (.aload_n 0, 1) := by decide +kernel
theorem dX2_put_46 : decode cX2_put 46 = .ok (.getfield 7, 3) := by decide +kernel
theorem dX2_put_49 : decode cX2_put 49 = .ok (.iload_n 1, 1) := by decide +kernel
theorem dX2_put_50 : decode cX2_put 50 = .ok (.iload_n 2, 1) := by decide +kernel
theorem dX2_put_51 : decode cX2_put 51 = .ok (.invokestatic 55, 3) := by decide +kernel
theorem dX2_put_54 : decode cX2_put 54 = .ok (.iload_n 3, 1) := by decide +kernel
theorem dX2_put_55 : decode cX2_put 55 = .ok (.iastore, 1) := by decide +kernel
theorem dX2_put_56 : decode cX2_put 56 = .ok (.aload_n 0, 1) := by decide +kernel
theorem dX2_put_57 : decode cX2_put 57 = .ok (.getfield 13, 3) := by decide +kernel
theorem dX2_put_60 : decode cX2_put 60 = .ok (.iload_n 1, 1) := by decide +kernel
theorem dX2_put_61 : decode cX2_put 61 = .ok (.iload_n 2, 1) := by decide +kernel
theorem dX2_put_62 : decode cX2_put 62 = .ok (.invokestatic 55, 3) := by decide +kernel
theorem dX2_put_65 : decode cX2_put 65 = .ok (.iload_n 3, 1) := by decide +kernel
theorem dX2_put_66 : decode cX2_put 66 = .ok (.ifCond .ne 8, 3) := by decide +kernel
theorem dX2_put_69 : decode cX2_put 69 = .ok (.iload 4, 2) := by decide +kernel
theorem dX2_put_71 : decode cX2_put 71 = .ok (.goto 4, 3) := by decide +kernel
theorem dX2_put_74 : decode cX2_put 74 = .ok (.iconst 0, 1) := by decide +kernel
theorem dX2_put_75 : decode cX2_put 75 = .ok (.iastore, 1) := by decide +kernel
theorem dX2_put_76 : decode cX2_put 76 = .ok (.iconst 1, 1) := by decide +kernel
theorem dX2_put_77 : decode cX2_put 77 = .ok (.ireturn, 1) := by decide +kernel
set_option maxRecDepth 20000 in
theorem ggX2_sort_X2_in : GoodIn wsX2_sort wsX2_in := goodIn_r _ [5] (by decide +kernel) (by decide +kernel)
set_option maxRecDepth 20000 in
theorem gX2_sort_X2_in : GoodIn wsX2_sort (va_wsS RX2 45 yX2_in wsX2_in) := goodIn_app (goodIn_of _ (by decide +kernel)) ggX2_sort_X2_in
set_option maxRecDepth 20000 in
theorem ggX2_sort_X2_isStringOrFork : GoodIn wsX2_sort wsX2_isStringOrFork := goodIn_r _ [8, 2, 3, 4, 5] (by decide +kernel) (by decide +kernel)
set_option maxRecDepth 20000 in
theorem gX2_sort_X2_isStringOrFork : GoodIn wsX2_sort (va_wsS RX2 62 yX2_isStringOrFork wsX2_isStringOrFork) := goodIn_app (goodIn_of _ (by decide +kernel)) ggX2_sort_X2_isStringOrFork
set_option maxRecDepth 20000 in
theorem ggX2_sort_X2_at : GoodIn wsX2_sort wsX2_at := goodIn_r _ [11] (by decide +kernel) (by decide +kernel)
set_option maxRecDepth 20000 in
theorem gX2_sort_X2_at : GoodIn wsX2_sort (va_wsS RX2 55 yX2_at wsX2_at) := goodIn_app (goodIn_of _ (by decide +kernel)) ggX2_sort_X2_at
theorem dX2_sort_0 : decode cX2_sort 0 = .ok (.iload_n 1, 1) := by decide +kernel
theorem dX2_sort_1 : decode cX2_sort 1 = .ok (.iconst 0, 1) := by decide +kernel
theorem dX2_sort_2 : decode cX2_sort 2 = .ok (.iconst 1, 1) := by decide +kernel
theorem dX2_sort_3 : decode cX2_sort 3 = .ok (.invokestatic 45, 3) := by decide +kernel
theorem dX2_sort_6 : decode cX2_sort 6 = .ok (.ifCond .eq 23, 3) := by decide +kernel
theorem dX2_sort_9 : decode cX2_sort 9 = .ok (.iload_n 2, 1) := by decide +kernel
theorem dX2_sort_10 : decode cX2_sort 10 = .ok (.invokestatic 62, 3) := by decide +kernel
theorem dX2_sort_13 : decode cX2_sort 13 = .ok (.ifCond .eq 16, 3) := by decide +kernel
theorem dX2_sort_16 : decode cX2_sort 16 = .ok (.aload_n 0, 1) := by decide +kernel
theorem dX2_sort_17 : decode cX2_sort 17 = .ok (.getfield 7, 3) := by decide +kernel
theorem dX2_sort_20 : decode cX2_sort 20 = .ok (.iload_n 1, 1) := by decide +kernel
theorem dX2_sort_21 : decode cX2_sort 21 = .ok (.iload_n 2, 1) := by decide +kernel
theorem dX2_sort_22 : decode cX2_sort 22 = .ok (.invokestatic 55, 3) := by decide +kernel
theorem dX2_sort_25 : decode cX2_sort 25 = .ok (.iaload, 1) := by decide +kernel
theorem dX2_sort_26 : decode cX2_sort 26 = .ok (.goto 4, 3) := by decide +kernel
theorem dX2_sort_29 : decode cX2_sort 29 = .ok (.iconst (-1), 1) := by decide +kernel
theorem dX2_sort_30 : decode cX2_sort 30 = .ok (.ireturn, 1) := by decide +kernel
set_option maxRecDepth 20000 in
theorem ggX2_quarters_X2_in : GoodIn wsX2_quarters wsX2_in := goodIn_r _ [5] (by decide +kernel) (by decide +kernel)
set_option maxRecDepth 20000 in
theorem gX2_quarters_X2_in : GoodIn wsX2_quarters (va_wsS RX2 45 yX2_in wsX2_in) := goodIn_app (goodIn_of _ (by decide +kernel)) ggX2_quarters_X2_in
set_option maxRecDepth 20000 in
theorem ggX2_quarters_X2_isStringOrFork : GoodIn wsX2_quarters wsX2_isStringOrFork := goodIn_r _ [8, 2, 3, 4, 5] (by decide +kernel) (by decide +kernel)
set_option maxRecDepth 20000 in
theorem gX2_quarters_X2_isStringOrFork : GoodIn wsX2_quarters (va_wsS RX2 62 yX2_isStringOrFork wsX2_isStringOrFork) := goodIn_app (goodIn_of _ (by decide +kernel)) ggX2_quarters_X2_isStringOrFork
set_option maxRecDepth 20000 in
theorem ggX2_quarters_X2_at : GoodIn wsX2_quarters wsX2_at := goodIn_r _ [11] (by decide +kernel) (by decide +kernel)
set_option maxRecDepth 20000 in
theorem gX2_quarters_X2_at : GoodIn wsX2_quarters (va_wsS RX2 55 yX2_at wsX2_at) := goodIn_app (goodIn_of _ (by decide +kernel)) ggX2_quarters_X2_at
theorem dX2_quarters_0 : decode cX2_quarters 0 = .ok (.iload_n 1, 1) := by decide +kernel
theorem dX2_quarters_1 : decode cX2_quarters 1 = .ok (.iconst 0, 1) := by decide +kernel
theorem dX2_quarters_2 : decode cX2_quarters 2 = .ok (.iconst 1, 1) := by decide +kernel
theorem dX2_quarters_3 : decode cX2_quarters 3 = .ok (.invokestatic 45, 3) := by decide +kernel
theorem dX2_quarters_6 : decode cX2_quarters 6 = .ok (.ifCond .eq 23, 3) := by decide +kernel
theorem dX2_quarters_9 : decode cX2_quarters 9 = .ok (.iload_n 2, 1) := by decide +kernel
theorem dX2_quarters_10 : decode cX2_quarters 10 = .ok (.invokestatic 62, 3) := by decide +kernel
theorem dX2_quarters_13 : decode cX2_quarters 13 = .ok (.ifCond .eq 16, 3) := by decide +kernel
theorem dX2_quarters_16 : decode cX2_quarters 16 = .ok (.aload_n 0, 1) := by decide +kernel
theorem dX2_quarters_17 : decode cX2_quarters 17 = .ok (.getfield 13, 3) := by decide +kernel
theorem dX2_quarters_20 : decode cX2_quarters 20 = .ok (.iload_n 1, 1) := by decide +kernel
theorem dX2_quarters_21 : decode cX2_quarters 21 = .ok (.iload_n 2, 1) := by decide +kernel
theorem dX2_quarters_22 : decode cX2_quarters 22 = .ok (.invokestatic 55, 3) := by decide +kernel
theorem dX2_quarters_25 : decode cX2_quarters 25 = .ok (.iaload, 1) := by decide +kernel
theorem dX2_quarters_26 : decode cX2_quarters 26 = .ok (.goto 4, 3) := by decide +kernel
theorem dX2_quarters_29 : decode cX2_quarters 29 = .ok (.iconst 0, 1) := by decide +kernel
theorem dX2_quarters_30 : decode cX2_quarters 30 = .ok (.ireturn, 1) := by decide +kernel
set_option maxRecDepth 20000 in
theorem ggX2_holds_X2_isAsked : GoodIn wsX2_holds wsX2_isAsked := goodIn_r _ [5, 6, 7, 4, 8] (by decide +kernel) (by decide +kernel)
set_option maxRecDepth 20000 in
theorem gX2_holds_X2_isAsked : GoodIn wsX2_holds (va_wsS RX2 68 yX2_isAsked wsX2_isAsked) := goodIn_app (goodIn_of _ (by decide +kernel)) ggX2_holds_X2_isAsked
set_option maxRecDepth 20000 in
theorem ggX2_holds_X2_isStringOrFork : GoodIn wsX2_holds wsX2_isStringOrFork := goodIn_r _ [11, 6, 7, 4, 8] (by decide +kernel) (by decide +kernel)
set_option maxRecDepth 20000 in
theorem gX2_holds_X2_isStringOrFork : GoodIn wsX2_holds (va_wsS RX2 62 yX2_isStringOrFork wsX2_isStringOrFork) := goodIn_app (goodIn_of _ (by decide +kernel)) ggX2_holds_X2_isStringOrFork
set_option maxRecDepth 20000 in
theorem ggX2_holds_X2_stands : GoodIn wsX2_holds wsX2_stands := goodIn_r _ [15, 16, 17, 18, 19, 4, 20, 21, 22, 23, 24, 25, 26, 27, 28, 29, 30, 31, 32, 33, 34, 35, 36, 37, 38, 39, 40, 41, 42] (by decide +kernel) (by decide +kernel)
set_option maxRecDepth 20000 in
theorem gX2_holds_X2_stands : GoodIn wsX2_holds (wsV RX2 72 RX2 yX2_stands wsX2_stands) := goodIn_app (goodIn_of _ (by decide +kernel)) ggX2_holds_X2_stands
theorem dX2_holds_0 : decode cX2_holds 0 = .ok (.iload_n 1, 1) := by decide +kernel
theorem dX2_holds_1 : decode cX2_holds 1 = .ok (.iload_n 2, 1) := by decide +kernel
theorem dX2_holds_2 : decode cX2_holds 2 = .ok (.invokestatic 68, 3) := by decide +kernel
theorem dX2_holds_5 : decode cX2_holds 5 = .ok (.ifCond .eq 18, 3) := by decide +kernel
theorem dX2_holds_8 : decode cX2_holds 8 = .ok (.iload_n 3, 1) := by decide +kernel
theorem dX2_holds_9 : decode cX2_holds 9 = .ok (.invokestatic 62, 3) := by decide +kernel
theorem dX2_holds_12 : decode cX2_holds 12 = .ok (.ifCond .eq 11, 3) := by decide +kernel
theorem dX2_holds_15 : decode cX2_holds 15 = .ok (.iload 4, 2) := by decide +kernel
theorem dX2_holds_17 : decode cX2_holds 17 = .ok (.invokestatic 62, 3) := by decide +kernel
theorem dX2_holds_20 : decode cX2_holds 20 = .ok (.ifCond .ne 5, 3) := by decide +kernel
theorem dX2_holds_23 : decode cX2_holds 23 = .ok (.iconst (-1), 1) := by decide +kernel
theorem dX2_holds_24 : decode cX2_holds 24 = .ok (.ireturn, 1) := by decide +kernel
theorem dX2_holds_25 : decode cX2_holds 25 = .ok (.aload_n 0, 1) := by decide +kernel
theorem dX2_holds_26 : decode cX2_holds 26 = .ok (.aload_n 0, 1) := by decide +kernel
theorem dX2_holds_27 : decode cX2_holds 27 = .ok (.iload_n 1, 1) := by decide +kernel
theorem dX2_holds_28 : decode cX2_holds 28 = .ok (.iload_n 2, 1) := by decide +kernel
theorem dX2_holds_29 : decode cX2_holds 29 = .ok (.iload_n 3, 1) := by decide +kernel
theorem dX2_holds_30 : decode cX2_holds 30 = .ok (.iload 4, 2) := by decide +kernel
theorem dX2_holds_32 : decode cX2_holds 32 = .ok (.invokevirtual 72, 3) := by decide +kernel
theorem dX2_holds_35 : decode cX2_holds 35 = .ok (.ifCond .eq 7, 3) := by decide +kernel
theorem dX2_holds_38 : decode cX2_holds 38 = .ok (.iconst 1, 1) := by decide +kernel
theorem dX2_holds_39 : decode cX2_holds 39 = .ok (.goto 4, 3) := by decide +kernel
theorem dX2_holds_42 : decode cX2_holds 42 = .ok (.iconst 0, 1) := by decide +kernel
theorem dX2_holds_43 : decode cX2_holds 43 = .ok (.putfield 16, 3) := by decide +kernel
theorem dX2_holds_46 : decode cX2_holds 46 = .ok (.aload_n 0, 1) := by decide +kernel
theorem dX2_holds_47 : decode cX2_holds 47 = .ok (.getfield 16, 3) := by decide +kernel
theorem dX2_holds_50 : decode cX2_holds 50 = .ok (.ireturn, 1) := by decide +kernel
set_option maxRecDepth 20000 in
theorem ggX2_denies_X2_isAsked : GoodIn wsX2_denies wsX2_isAsked := goodIn_r _ [5, 6, 7, 4, 8] (by decide +kernel) (by decide +kernel)
set_option maxRecDepth 20000 in
theorem gX2_denies_X2_isAsked : GoodIn wsX2_denies (va_wsS RX2 68 yX2_isAsked wsX2_isAsked) := goodIn_app (goodIn_of _ (by decide +kernel)) ggX2_denies_X2_isAsked
set_option maxRecDepth 20000 in
theorem ggX2_denies_X2_isStringOrFork : GoodIn wsX2_denies wsX2_isStringOrFork := goodIn_r _ [11, 6, 7, 4, 8] (by decide +kernel) (by decide +kernel)
set_option maxRecDepth 20000 in
theorem gX2_denies_X2_isStringOrFork : GoodIn wsX2_denies (va_wsS RX2 62 yX2_isStringOrFork wsX2_isStringOrFork) := goodIn_app (goodIn_of _ (by decide +kernel)) ggX2_denies_X2_isStringOrFork
set_option maxRecDepth 20000 in
theorem ggX2_denies_X2_stands : GoodIn wsX2_denies wsX2_stands := goodIn_r _ [15, 16, 17, 18, 19, 4, 20, 21, 22, 23, 24, 25, 26, 27, 28, 29, 30, 31, 32, 33, 34, 35, 36, 37, 38, 39, 40, 41, 42] (by decide +kernel) (by decide +kernel)
set_option maxRecDepth 20000 in
theorem gX2_denies_X2_stands : GoodIn wsX2_denies (wsV RX2 72 RX2 yX2_stands wsX2_stands) := goodIn_app (goodIn_of _ (by decide +kernel)) ggX2_denies_X2_stands
theorem dX2_denies_0 : decode cX2_denies 0 = .ok (.iload_n 1, 1) := by decide +kernel
theorem dX2_denies_1 : decode cX2_denies 1 = .ok (.iload_n 2, 1) := by decide +kernel
theorem dX2_denies_2 : decode cX2_denies 2 = .ok (.invokestatic 68, 3) := by decide +kernel
theorem dX2_denies_5 : decode cX2_denies 5 = .ok (.ifCond .eq 18, 3) := by decide +kernel
theorem dX2_denies_8 : decode cX2_denies 8 = .ok (.iload_n 3, 1) := by decide +kernel
theorem dX2_denies_9 : decode cX2_denies 9 = .ok (.invokestatic 62, 3) := by decide +kernel
theorem dX2_denies_12 : decode cX2_denies 12 = .ok (.ifCond .eq 11, 3) := by decide +kernel
theorem dX2_denies_15 : decode cX2_denies 15 = .ok (.iload 4, 2) := by decide +kernel
theorem dX2_denies_17 : decode cX2_denies 17 = .ok (.invokestatic 62, 3) := by decide +kernel
theorem dX2_denies_20 : decode cX2_denies 20 = .ok (.ifCond .ne 5, 3) := by decide +kernel
theorem dX2_denies_23 : decode cX2_denies 23 = .ok (.iconst (-1), 1) := by decide +kernel
theorem dX2_denies_24 : decode cX2_denies 24 = .ok (.ireturn, 1) := by decide +kernel
theorem dX2_denies_25 : decode cX2_denies 25 = .ok (.aload_n 0, 1) := by decide +kernel
theorem dX2_denies_26 : decode cX2_denies 26 = .ok (.iload_n 1, 1) := by decide +kernel
theorem dX2_denies_27 : decode cX2_denies 27 = .ok (.iload_n 2, 1) := by decide +kernel
theorem dX2_denies_28 : decode cX2_denies 28 = .ok (.iload_n 3, 1) := by decide +kernel
theorem dX2_denies_29 : decode cX2_denies 29 = .ok (.iload 4, 2) := by decide +kernel
theorem dX2_denies_31 : decode cX2_denies 31 = .ok (.invokevirtual 72, 3) := by decide +kernel
theorem dX2_denies_34 : decode cX2_denies 34 = .ok (.ifCond .eq 5, 3) := by decide +kernel
theorem dX2_denies_37 : decode cX2_denies 37 = .ok (.iconst 0, 1) := by decide +kernel
theorem dX2_denies_38 : decode cX2_denies 38 = .ok (.ireturn, 1) := by decide +kernel
theorem dX2_denies_39 : decode cX2_denies 39 = .ok (.aload_n 0, 1) := by decide +kernel
theorem dX2_denies_40 : decode cX2_denies 40 = .ok (.dup, 1) := by decide +kernel
theorem dX2_denies_41 : decode cX2_denies 41 = .ok (.getfield 76, 3) := by decide +kernel
theorem dX2_denies_44 : decode cX2_denies 44 = .ok (.iconst 1, 1) := by decide +kernel
theorem dX2_denies_45 : decode cX2_denies 45 = .ok (.iadd, 1) := by decide +kernel
theorem dX2_denies_46 : decode cX2_denies 46 = .ok (.putfield 76, 3) := by decide +kernel
theorem dX2_denies_49 : decode cX2_denies 49 = .ok (.iconst 1, 1) := by decide +kernel
theorem dX2_denies_50 : decode cX2_denies 50 = .ok (.ireturn, 1) := by decide +kernel
set_option maxRecDepth 20000 in
theorem ggX2_pick_X2_isAsked : GoodIn wsX2_pick wsX2_isAsked := goodIn_r _ [4, 5, 6, 3, 7] (by decide +kernel) (by decide +kernel)
set_option maxRecDepth 20000 in
theorem gX2_pick_X2_isAsked : GoodIn wsX2_pick (va_wsS RX2 68 yX2_isAsked wsX2_isAsked) := goodIn_app (goodIn_of _ (by decide +kernel)) ggX2_pick_X2_isAsked
set_option maxRecDepth 20000 in
theorem ggX2_pick_X2_isStringOrFork : GoodIn wsX2_pick wsX2_isStringOrFork := goodIn_r _ [10, 5, 6, 3, 7] (by decide +kernel) (by decide +kernel)
set_option maxRecDepth 20000 in
theorem gX2_pick_X2_isStringOrFork : GoodIn wsX2_pick (va_wsS RX2 62 yX2_isStringOrFork wsX2_isStringOrFork) := goodIn_app (goodIn_of _ (by decide +kernel)) ggX2_pick_X2_isStringOrFork
set_option maxRecDepth 20000 in
theorem ggX2_pick_X2_stands : GoodIn wsX2_pick wsX2_stands := goodIn_r _ [14, 15, 16, 17, 18, 3, 19, 20, 21, 22, 23, 24, 25, 26, 27, 28, 29, 30, 31, 32, 33, 34, 35, 36, 37, 38, 39, 40, 41] (by decide +kernel) (by decide +kernel)
set_option maxRecDepth 20000 in
theorem gX2_pick_X2_stands : GoodIn wsX2_pick (wsV RX2 72 RX2 yX2_stands wsX2_stands) := goodIn_app (goodIn_of _ (by decide +kernel)) ggX2_pick_X2_stands
theorem dX2_pick_0 : decode cX2_pick 0 = .ok (.iload_n 1, 1) := by decide +kernel
theorem dX2_pick_1 : decode cX2_pick 1 = .ok (.iload_n 2, 1) := by decide +kernel
theorem dX2_pick_2 : decode cX2_pick 2 = .ok (.invokestatic 68, 3) := by decide +kernel
theorem dX2_pick_5 : decode cX2_pick 5 = .ok (.ifCond .eq 18, 3) := by decide +kernel
theorem dX2_pick_8 : decode cX2_pick 8 = .ok (.iload_n 3, 1) := by decide +kernel
theorem dX2_pick_9 : decode cX2_pick 9 = .ok (.invokestatic 62, 3) := by decide +kernel
theorem dX2_pick_12 : decode cX2_pick 12 = .ok (.ifCond .eq 11, 3) := by decide +kernel
theorem dX2_pick_15 : decode cX2_pick 15 = .ok (.iload 4, 2) := by decide +kernel
theorem dX2_pick_17 : decode cX2_pick 17 = .ok (.invokestatic 62, 3) := by decide +kernel
theorem dX2_pick_20 : decode cX2_pick 20 = .ok (.ifCond .ne 5, 3) := by decide +kernel
theorem dX2_pick_23 : decode cX2_pick 23 = .ok (.iconst (-1), 1) := by decide +kernel
theorem dX2_pick_24 : decode cX2_pick 24 = .ok (.ireturn, 1) := by decide +kernel
theorem dX2_pick_25 : decode cX2_pick 25 = .ok (.aload_n 0, 1) := by decide +kernel
theorem dX2_pick_26 : decode cX2_pick 26 = .ok (.iload_n 1, 1) := by decide +kernel
theorem dX2_pick_27 : decode cX2_pick 27 = .ok (.iload_n 2, 1) := by decide +kernel
theorem dX2_pick_28 : decode cX2_pick 28 = .ok (.iload_n 3, 1) := by decide +kernel
theorem dX2_pick_29 : decode cX2_pick 29 = .ok (.iload 4, 2) := by decide +kernel
theorem dX2_pick_31 : decode cX2_pick 31 = .ok (.invokevirtual 72, 3) := by decide +kernel
theorem dX2_pick_34 : decode cX2_pick 34 = .ok (.ifCond .eq 7, 3) := by decide +kernel
theorem dX2_pick_37 : decode cX2_pick 37 = .ok (.iload_n 3, 1) := by decide +kernel
theorem dX2_pick_38 : decode cX2_pick 38 = .ok (.goto 5, 3) := by decide +kernel
theorem dX2_pick_41 : decode cX2_pick 41 = .ok (.iload 4, 2) := by decide +kernel
theorem dX2_pick_43 : decode cX2_pick 43 = .ok (.ireturn, 1) := by decide +kernel
set_option maxRecDepth 20000 in
theorem ggX2_climb_X2_isAsked : GoodIn wsX2_climb wsX2_isAsked := goodIn_r _ [4, 5, 6, 3, 7] (by decide +kernel) (by decide +kernel)
set_option maxRecDepth 20000 in
theorem gX2_climb_X2_isAsked : GoodIn wsX2_climb (va_wsS RX2 68 yX2_isAsked wsX2_isAsked) := goodIn_app (goodIn_of _ (by decide +kernel)) ggX2_climb_X2_isAsked
set_option maxRecDepth 20000 in
theorem ggX2_climb_X2_isString : GoodIn wsX2_climb wsX2_isString := goodIn_r _ [10, 5, 6, 3, 7] (by decide +kernel) (by decide +kernel)
set_option maxRecDepth 20000 in
theorem gX2_climb_X2_isString : GoodIn wsX2_climb (va_wsS RX2 79 yX2_isString wsX2_isString) := goodIn_app (goodIn_of _ (by decide +kernel)) ggX2_climb_X2_isString
set_option maxRecDepth 20000 in
theorem ggX2_climb_X2_stands : GoodIn wsX2_climb wsX2_stands := goodIn_r _ [14, 15, 16, 17, 18, 3, 19, 20, 21, 22, 23, 24, 25, 26, 27, 28, 29, 30, 31, 32, 33, 34, 35, 36, 37, 38, 39, 40, 41] (by decide +kernel) (by decide +kernel)
set_option maxRecDepth 20000 in
theorem gX2_climb_X2_stands : GoodIn wsX2_climb (wsV RX2 72 RX2 yX2_stands wsX2_stands) := goodIn_app (goodIn_of _ (by decide +kernel)) ggX2_climb_X2_stands
theorem dX2_climb_0 : decode cX2_climb 0 = .ok (.iload_n 1, 1) := by decide +kernel
theorem dX2_climb_1 : decode cX2_climb 1 = .ok (.iload_n 2, 1) := by decide +kernel
theorem dX2_climb_2 : decode cX2_climb 2 = .ok (.invokestatic 68, 3) := by decide +kernel
theorem dX2_climb_5 : decode cX2_climb 5 = .ok (.ifCond .eq 10, 3) := by decide +kernel
theorem dX2_climb_8 : decode cX2_climb 8 = .ok (.iload_n 3, 1) := by decide +kernel
theorem dX2_climb_9 : decode cX2_climb 9 = .ok (.invokestatic 79, 3) := by decide +kernel
theorem dX2_climb_12 : decode cX2_climb 12 = .ok (.ifCond .ne 5, 3) := by decide +kernel
theorem dX2_climb_15 : decode cX2_climb 15 = .ok (.iconst (-1), 1) := by decide +kernel
theorem dX2_climb_16 : decode cX2_climb 16 = .ok (.ireturn, 1) := by decide +kernel
theorem dX2_climb_17 : decode cX2_climb 17 = .ok (.iload_n 3, 1) := by decide +kernel
theorem dX2_climb_18 : decode cX2_climb 18 = .ok (.istore 4, 2) := by decide +kernel
theorem dX2_climb_20 : decode cX2_climb 20 = .ok (.iload 4, 2) := by decide +kernel
theorem dX2_climb_22 : decode cX2_climb 22 = .ok (.iconst 1, 1) := by decide +kernel
theorem dX2_climb_23 : decode cX2_climb 23 = .ok (.iadd, 1) := by decide +kernel
theorem dX2_climb_24 : decode cX2_climb 24 = .ok (.bipush 32, 2) := by decide +kernel
theorem dX2_climb_26 : decode cX2_climb 26 = .ok (.if_icmp .ge 24, 3) := by decide +kernel
theorem dX2_climb_29 : decode cX2_climb 29 = .ok (.aload_n 0, 1) := by decide +kernel
theorem dX2_climb_30 : decode cX2_climb 30 = .ok (.iload_n 1, 1) := by decide +kernel
theorem dX2_climb_31 : decode cX2_climb 31 = .ok (.iload_n 2, 1) := by decide +kernel
theorem dX2_climb_32 : decode cX2_climb 32 = .ok (.iload 4, 2) := by decide +kernel
theorem dX2_climb_34 : decode cX2_climb 34 = .ok (.iload 4, 2) := by decide +kernel
theorem dX2_climb_36 : decode cX2_climb 36 = .ok (.iconst 1, 1) := by decide +kernel
theorem dX2_climb_37 : decode cX2_climb 37 = .ok (.iadd, 1) := by decide +kernel
theorem dX2_climb_38 : decode cX2_climb 38 = .ok (.invokevirtual 72, 3) := by decide +kernel
theorem dX2_climb_41 : decode cX2_climb 41 = .ok (.ifCond .eq 9, 3) := by decide +kernel
theorem dX2_climb_44 : decode cX2_climb 44 = .ok (.iinc 4 1, 3) := by decide +kernel
theorem dX2_climb_47 : decode cX2_climb 47 = .ok (.goto (-27), 3) := by decide +kernel
theorem dX2_climb_50 : decode cX2_climb 50 = .ok (.iload 4, 2) := by decide +kernel
theorem dX2_climb_52 : decode cX2_climb 52 = .ok (.ireturn, 1) := by decide +kernel
set_option maxRecDepth 20000 in
theorem ggX2_first_X2_isAsked : GoodIn wsX2_first wsX2_isAsked := goodIn_r _ [4, 5, 6, 3, 7] (by decide +kernel) (by decide +kernel)
set_option maxRecDepth 20000 in
theorem gX2_first_X2_isAsked : GoodIn wsX2_first (va_wsS RX2 68 yX2_isAsked wsX2_isAsked) := goodIn_app (goodIn_of _ (by decide +kernel)) ggX2_first_X2_isAsked
set_option maxRecDepth 20000 in
theorem ggX2_first_X2_isString : GoodIn wsX2_first wsX2_isString := goodIn_r _ [10, 5, 6, 3, 7] (by decide +kernel) (by decide +kernel)
set_option maxRecDepth 20000 in
theorem gX2_first_X2_isString : GoodIn wsX2_first (va_wsS RX2 79 yX2_isString wsX2_isString) := goodIn_app (goodIn_of _ (by decide +kernel)) ggX2_first_X2_isString
set_option maxRecDepth 20000 in
theorem ggX2_first_X2_stands : GoodIn wsX2_first wsX2_stands := goodIn_r _ [14, 15, 16, 17, 18, 3, 19, 20, 21, 22, 23, 24, 25, 26, 27, 28, 29, 30, 31, 32, 33, 34, 35, 36, 37, 38, 39, 40, 41] (by decide +kernel) (by decide +kernel)
set_option maxRecDepth 20000 in
theorem gX2_first_X2_stands : GoodIn wsX2_first (wsV RX2 72 RX2 yX2_stands wsX2_stands) := goodIn_app (goodIn_of _ (by decide +kernel)) ggX2_first_X2_stands
theorem dX2_first_0 : decode cX2_first 0 = .ok (.iload_n 1, 1) := by decide +kernel
theorem dX2_first_1 : decode cX2_first 1 = .ok (.iload_n 2, 1) := by decide +kernel
theorem dX2_first_2 : decode cX2_first 2 = .ok (.invokestatic 68, 3) := by decide +kernel
theorem dX2_first_5 : decode cX2_first 5 = .ok (.ifCond .eq 10, 3) := by decide +kernel
theorem dX2_first_8 : decode cX2_first 8 = .ok (.iload_n 3, 1) := by decide +kernel
theorem dX2_first_9 : decode cX2_first 9 = .ok (.invokestatic 79, 3) := by decide +kernel
theorem dX2_first_12 : decode cX2_first 12 = .ok (.ifCond .ne 5, 3) := by decide +kernel
theorem dX2_first_15 : decode cX2_first 15 = .ok (.iconst (-1), 1) := by decide +kernel
theorem dX2_first_16 : decode cX2_first 16 = .ok (.ireturn, 1) := by decide +kernel
theorem dX2_first_17 : decode cX2_first 17 = .ok (.iload_n 3, 1) := by decide +kernel
theorem dX2_first_18 : decode cX2_first 18 = .ok (.istore 5, 2) := by decide +kernel
theorem dX2_first_20 : decode cX2_first 20 = .ok (.iload 5, 2) := by decide +kernel
theorem dX2_first_22 : decode cX2_first 22 = .ok (.bipush 32, 2) := by decide +kernel
theorem dX2_first_24 : decode cX2_first 24 = .ok (.if_icmp .ge 27, 3) := by decide +kernel
theorem dX2_first_27 : decode cX2_first 27 = .ok (.aload_n 0, 1) := by decide +kernel
theorem dX2_first_28 : decode cX2_first 28 = .ok (.iload_n 1, 1) := by decide +kernel
theorem dX2_first_29 : decode cX2_first 29 = .ok (.iload_n 2, 1) := by decide +kernel
theorem dX2_first_30 : decode cX2_first 30 = .ok (.iload 5, 2) := by decide +kernel
theorem dX2_first_32 : decode cX2_first 32 = .ok (.bipush 32, 2) := by decide +kernel
theorem dX2_first_34 : decode cX2_first 34 = .ok (.invokevirtual 72, 3) := by decide +kernel
theorem dX2_first_37 : decode cX2_first 37 = .ok (.iload 4, 2) := by decide +kernel
theorem dX2_first_39 : decode cX2_first 39 = .ok (.if_icmp .eq 6, 3) := by decide +kernel
theorem dX2_first_42 : decode cX2_first 42 = .ok (.iload 5, 2) := by decide +kernel
theorem dX2_first_44 : decode cX2_first 44 = .ok (.ireturn, 1) := by decide +kernel
theorem dX2_first_45 : decode cX2_first 45 = .ok (.iinc 5 1, 3) := by decide +kernel
theorem dX2_first_48 : decode cX2_first 48 = .ok (.goto (-28), 3) := by decide +kernel
theorem dX2_first_51 : decode cX2_first 51 = .ok (.iconst (-1), 1) := by decide +kernel
theorem dX2_first_52 : decode cX2_first 52 = .ok (.ireturn, 1) := by decide +kernel
set_option maxRecDepth 20000 in
theorem ggX2_best_X2_isAsked : GoodIn wsX2_best wsX2_isAsked := goodIn_r _ [4, 5, 6, 3, 7] (by decide +kernel) (by decide +kernel)
set_option maxRecDepth 20000 in
theorem gX2_best_X2_isAsked : GoodIn wsX2_best (va_wsS RX2 68 yX2_isAsked wsX2_isAsked) := goodIn_app (goodIn_of _ (by decide +kernel)) ggX2_best_X2_isAsked
set_option maxRecDepth 20000 in
theorem ggX2_best_X2_stands : GoodIn wsX2_best wsX2_stands := goodIn_r _ [11, 12, 13, 14, 15, 3, 16, 17, 18, 19, 20, 21, 22, 23, 24, 25, 26, 27, 28, 29, 30, 31, 32, 33, 34, 35, 36, 37, 38] (by decide +kernel) (by decide +kernel)
set_option maxRecDepth 20000 in
theorem gX2_best_X2_stands : GoodIn wsX2_best (wsV RX2 72 RX2 yX2_stands wsX2_stands) := goodIn_app (goodIn_of _ (by decide +kernel)) ggX2_best_X2_stands
theorem dX2_best_0 : decode cX2_best 0 = .ok (.iload_n 1, 1) := by decide +kernel
theorem dX2_best_1 : decode cX2_best 1 = .ok (.iload_n 2, 1) := by decide +kernel
theorem dX2_best_2 : decode cX2_best 2 = .ok (.invokestatic 68, 3) := by decide +kernel
theorem dX2_best_5 : decode cX2_best 5 = .ok (.ifCond .ne 5, 3) := by decide +kernel
theorem dX2_best_8 : decode cX2_best 8 = .ok (.iconst (-1), 1) := by decide +kernel
theorem dX2_best_9 : decode cX2_best 9 = .ok (.ireturn, 1) := by decide +kernel
theorem dX2_best_10 : decode cX2_best 10 = .ok (.iconst 0, 1) := by decide +kernel
theorem dX2_best_11 : decode cX2_best 11 = .ok (.istore 4, 2) := by decide +kernel
theorem dX2_best_13 : decode cX2_best 13 = .ok (.iconst 1, 1) := by decide +kernel
theorem dX2_best_14 : decode cX2_best 14 = .ok (.istore 5, 2) := by decide +kernel
theorem dX2_best_16 : decode cX2_best 16 = .ok (.iload 5, 2) := by decide +kernel
theorem dX2_best_18 : decode cX2_best 18 = .ok (.bipush 32, 2) := by decide +kernel
theorem dX2_best_20 : decode cX2_best 20 = .ok (.if_icmp .ge 27, 3) := by decide +kernel
theorem dX2_best_23 : decode cX2_best 23 = .ok (.aload_n 0, 1) := by decide +kernel
theorem dX2_best_24 : decode cX2_best 24 = .ok (.iload_n 1, 1) := by decide +kernel
theorem dX2_best_25 : decode cX2_best 25 = .ok (.iload_n 2, 1) := by decide +kernel
theorem dX2_best_26 : decode cX2_best 26 = .ok (.iload 5, 2) := by decide +kernel
theorem dX2_best_28 : decode cX2_best 28 = .ok (.iload 4, 2) := by decide +kernel
theorem dX2_best_30 : decode cX2_best 30 = .ok (.invokevirtual 72, 3) := by decide +kernel
theorem dX2_best_33 : decode cX2_best 33 = .ok (.iload_n 3, 1) := by decide +kernel
theorem dX2_best_34 : decode cX2_best 34 = .ok (.if_icmp .eq 7, 3) := by decide +kernel
theorem dX2_best_37 : decode cX2_best 37 = .ok (.iload 5, 2) := by decide +kernel
theorem dX2_best_39 : decode cX2_best 39 = .ok (.istore 4, 2) := by decide +kernel
theorem dX2_best_41 : decode cX2_best 41 = .ok (.iinc 5 1, 3) := by decide +kernel
theorem dX2_best_44 : decode cX2_best 44 = .ok (.goto (-28), 3) := by decide +kernel
theorem dX2_best_47 : decode cX2_best 47 = .ok (.iload 4, 2) := by decide +kernel
theorem dX2_best_49 : decode cX2_best 49 = .ok (.ireturn, 1) := by decide +kernel
set_option maxRecDepth 20000 in
theorem ggX2_pass_X2_isAsked : GoodIn wsX2_pass wsX2_isAsked := goodIn_r _ [7, 8, 9, 6, 10] (by decide +kernel) (by decide +kernel)
set_option maxRecDepth 20000 in
theorem gX2_pass_X2_isAsked : GoodIn wsX2_pass (va_wsS RX2 68 yX2_isAsked wsX2_isAsked) := goodIn_app (goodIn_of _ (by decide +kernel)) ggX2_pass_X2_isAsked
set_option maxRecDepth 20000 in
theorem ggX2_pass_X2_isString : GoodIn wsX2_pass wsX2_isString := goodIn_r _ [13, 8, 9, 6, 10] (by decide +kernel) (by decide +kernel)
set_option maxRecDepth 20000 in
theorem gX2_pass_X2_isString : GoodIn wsX2_pass (va_wsS RX2 79 yX2_isString wsX2_isString) := goodIn_app (goodIn_of _ (by decide +kernel)) ggX2_pass_X2_isString
set_option maxRecDepth 20000 in
theorem ggX2_pass_X2_stands : GoodIn wsX2_pass wsX2_stands := goodIn_r _ [17, 1, 2, 18, 19, 6, 20, 21, 22, 23, 24, 25, 26, 27, 28, 29, 30, 31, 32, 33, 34, 35, 36, 37, 38, 39, 40, 41, 42] (by decide +kernel) (by decide +kernel)
set_option maxRecDepth 20000 in
theorem gX2_pass_X2_stands : GoodIn wsX2_pass (wsV RX2 72 RX2 yX2_stands wsX2_stands) := goodIn_app (goodIn_of _ (by decide +kernel)) ggX2_pass_X2_stands
set_option maxRecDepth 20000 in
theorem ggX2_pass_X2_at : GoodIn wsX2_pass wsX2_at := goodIn_r _ [20] (by decide +kernel) (by decide +kernel)
set_option maxRecDepth 20000 in
theorem gX2_pass_X2_at : GoodIn wsX2_pass (va_wsS RX2 55 yX2_at wsX2_at) := goodIn_app (goodIn_of _ (by decide +kernel)) ggX2_pass_X2_at
theorem dX2_pass_0 : decode cX2_pass 0 = .ok (.iload_n 1, 1) := by decide +kernel
theorem dX2_pass_1 : decode cX2_pass 1 = .ok (.iload_n 2, 1) := by decide +kernel
theorem dX2_pass_2 : decode cX2_pass 2 = .ok (.invokestatic 68, 3) := by decide +kernel
theorem dX2_pass_5 : decode cX2_pass 5 = .ok (.ifCond .eq 24, 3) := by decide +kernel
theorem dX2_pass_8 : decode cX2_pass 8 = .ok (.iload_n 3, 1) := by decide +kernel
theorem dX2_pass_9 : decode cX2_pass 9 = .ok (.invokestatic 79, 3) := by decide +kernel
theorem dX2_pass_12 : decode cX2_pass 12 = .ok (.ifCond .eq 17, 3) := by decide +kernel
theorem dX2_pass_15 : decode cX2_pass 15 = .ok (.iload 4, 2) := by decide +kernel
theorem dX2_pass_17 : decode cX2_pass 17 = .ok (.invokestatic 79, 3) := by decide +kernel
theorem dX2_pass_20 : decode cX2_pass 20 = .ok (.ifCond .eq 9, 3) := by decide +kernel
theorem dX2_pass_23 : decode cX2_pass 23 = .ok (.iload_n 3, 1) := by decide +kernel
theorem dX2_pass_24 : decode cX2_pass 24 = .ok (.iload 4, 2) := by decide +kernel
theorem dX2_pass_26 : decode cX2_pass 26 = .ok (.if_icmp .le 5, 3) := by decide +kernel
theorem dX2_pass_29 : decode cX2_pass 29 = .ok (.iconst (-1), 1) := by decide +kernel
theorem dX2_pass_30 : decode cX2_pass 30 = .ok (.ireturn, 1) := by decide +kernel
theorem dX2_pass_31 : decode cX2_pass 31 = .ok (.iconst 0, 1) := by decide +kernel
theorem dX2_pass_32 : decode cX2_pass 32 = .ok (.istore 5, 2) := by decide +kernel
theorem dX2_pass_34 : decode cX2_pass 34 = .ok (.iload_n 3, 1) := by decide +kernel
theorem dX2_pass_35 : decode cX2_pass 35 = .ok (.istore 6, 2) := by decide +kernel
theorem dX2_pass_37 : decode cX2_pass 37 = .ok (.iload 6, 2) := by decide +kernel
theorem dX2_pass_39 : decode cX2_pass 39 = .ok (.iload 4, 2) := by decide +kernel
theorem dX2_pass_41 : decode cX2_pass 41 = .ok (.if_icmp .ge 110, 3) := by decide +kernel
theorem dX2_pass_44 : decode cX2_pass 44 = .ok (.aload_n 0, 1) := by decide +kernel
theorem dX2_pass_45 : decode cX2_pass 45 = .ok (.iload_n 1, 1) := by decide +kernel
theorem dX2_pass_46 : decode cX2_pass 46 = .ok (.iload_n 2, 1) := by decide +kernel
theorem dX2_pass_47 : decode cX2_pass 47 = .ok (.iload 6, 2) := by decide +kernel
theorem dX2_pass_49 : decode cX2_pass 49 = .ok (.iload 6, 2) := by decide +kernel
theorem dX2_pass_51 : decode cX2_pass 51 = .ok (.iconst 1, 1) := by decide +kernel
theorem dX2_pass_52 : decode cX2_pass 52 = .ok (.iadd, 1) := by decide +kernel
theorem dX2_pass_53 : decode cX2_pass 53 = .ok (.invokevirtual 72, 3) := by decide +kernel
theorem dX2_pass_56 : decode cX2_pass 56 = .ok (.ifCond .eq 6, 3) := by decide +kernel
theorem dX2_pass_59 : decode cX2_pass 59 = .ok (.goto 86, 3) := by decide +kernel
theorem dX2_pass_62 : decode cX2_pass 62 = .ok (.iload_n 1, 1) := by decide +kernel
theorem dX2_pass_63 : decode cX2_pass 63 = .ok (.iload 6, 2) := by decide +kernel
theorem dX2_pass_65 : decode cX2_pass 65 = .ok (.invokestatic 55, 3) := by decide +kernel
theorem dX2_pass_68 : decode cX2_pass 68 = .ok (.istore 7, 2) := by decide +kernel
theorem dX2_pass_70 : decode cX2_pass 70 = .ok (.aload_n 0, 1) := by decide +kernel
theorem dX2_pass_71 : decode cX2_pass 71 = .ok (.getfield 7, 3) := by decide +kernel
theorem dX2_pass_74 : decode cX2_pass 74 = .ok (.iload 7, 2) := by decide +kernel
theorem dX2_pass_76 : decode cX2_pass 76 = .ok (.iaload, 1) := by decide +kernel
theorem dX2_pass_77 : decode cX2_pass 77 = .ok (.istore 8, 2) := by decide +kernel
theorem dX2_pass_79 : decode cX2_pass 79 = .ok (.aload_n 0, 1) := by decide +kernel
theorem dX2_pass_80 : decode cX2_pass 80 = .ok (.getfield 13, 3) := by decide +kernel
theorem dX2_pass_83 : decode cX2_pass 83 = .ok (.iload 7, 2) := by decide +kernel
theorem dX2_pass_85 : decode cX2_pass 85 = .ok (.iaload, 1) := by decide +kernel
theorem dX2_pass_86 : decode cX2_pass 86 = .ok (.istore 9, 2) := by decide +kernel
theorem dX2_pass_88 : decode cX2_pass 88 = .ok (.aload_n 0, 1) := by decide +kernel
theorem dX2_pass_89 : decode cX2_pass 89 = .ok (.getfield 7, 3) := by decide +kernel
theorem dX2_pass_92 : decode cX2_pass 92 = .ok (.iload 7, 2) := by decide +kernel
theorem dX2_pass_94 : decode cX2_pass 94 = .ok (.aload_n 0, 1) := by decide +kernel
theorem dX2_pass_95 : decode cX2_pass 95 = .ok (.getfield 7, 3) := by decide +kernel
theorem dX2_pass_98 : decode cX2_pass 98 = .ok (.iload 7, 2) := by decide +kernel
theorem dX2_pass_100 : decode cX2_pass 100 = .ok (.iconst 1, 1) := by decide +kernel
theorem dX2_pass_101 : decode cX2_pass 101 = .ok (.iadd, 1) := by decide +kernel
theorem dX2_pass_102 : decode cX2_pass 102 = .ok (.iaload, 1) := by decide +kernel
theorem dX2_pass_103 : decode cX2_pass 103 = .ok (.iastore, 1) := by decide +kernel
theorem dX2_pass_104 : decode cX2_pass 104 = .ok (.aload_n 0, 1) := by decide +kernel
theorem dX2_pass_105 : decode cX2_pass 105 = .ok (.getfield 13, 3) := by decide +kernel
theorem dX2_pass_108 : decode cX2_pass 108 = .ok (.iload 7, 2) := by decide +kernel
theorem dX2_pass_110 : decode cX2_pass 110 = .ok (.aload_n 0, 1) := by decide +kernel
theorem dX2_pass_111 : decode cX2_pass 111 = .ok (.getfield 13, 3) := by decide +kernel
theorem dX2_pass_114 : decode cX2_pass 114 = .ok (.iload 7, 2) := by decide +kernel
