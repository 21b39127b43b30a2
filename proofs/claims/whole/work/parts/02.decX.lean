theorem dX0_init_0 : decode cX0_init 0 = .ok (.aload_n 0, 1) := by decide +kernel
theorem dX0_init_1 : decode cX0_init 1 = .ok (.invokespecial 3, 3) := by decide +kernel
theorem dX0_init_4 : decode cX0_init 4 = .ok (.aload_n 0, 1) := by decide +kernel
theorem dX0_init_5 : decode cX0_init 5 = .ok (.iconst 4, 1) := by decide +kernel
theorem dX0_init_6 : decode cX0_init 6 = .ok (.newarray .int, 2) := by decide +kernel
theorem dX0_init_8 : decode cX0_init 8 = .ok (.putfield 9, 3) := by decide +kernel
theorem dX0_init_11 : decode cX0_init 11 = .ok (.aload_n 0, 1) := by decide +kernel
theorem dX0_init_12 : decode cX0_init 12 = .ok (.iconst 4, 1) := by decide +kernel
theorem dX0_init_13 : decode cX0_init 13 = .ok (.newarray .int, 2) := by decide +kernel
theorem dX0_init_15 : decode cX0_init 15 = .ok (.putfield 15, 3) := by decide +kernel
theorem dX0_init_18 : decode cX0_init 18 = .ok (.aload_n 0, 1) := by decide +kernel
theorem dX0_init_19 : decode cX0_init 19 = .ok (.iconst 4, 1) := by decide +kernel
theorem dX0_init_20 : decode cX0_init 20 = .ok (.newarray .int, 2) := by decide +kernel
theorem dX0_init_22 : decode cX0_init 22 = .ok (.putfield 18, 3) := by decide +kernel
theorem dX0_init_25 : decode cX0_init 25 = .ok (.aload_n 0, 1) := by decide +kernel
theorem dX0_init_26 : decode cX0_init 26 = .ok (.iconst 4, 1) := by decide +kernel
theorem dX0_init_27 : decode cX0_init 27 = .ok (.newarray .int, 2) := by decide +kernel
theorem dX0_init_29 : decode cX0_init 29 = .ok (.putfield 21, 3) := by decide +kernel
theorem dX0_init_32 : decode cX0_init 32 = .ok (.return_, 1) := by decide +kernel
theorem dX0_has_0 : decode cX0_has 0 = .ok (.iload_n 1, 1) := by decide +kernel
theorem dX0_has_1 : decode cX0_has 1 = .ok (.ifCond .lt 20, 3) := by decide +kernel
theorem dX0_has_4 : decode cX0_has 4 = .ok (.iload_n 1, 1) := by decide +kernel
theorem dX0_has_5 : decode cX0_has 5 = .ok (.aload_n 0, 1) := by decide +kernel
theorem dX0_has_6 : decode cX0_has 6 = .ok (.getfield 24, 3) := by decide +kernel
theorem dX0_has_9 : decode cX0_has 9 = .ok (.if_icmp .ge 12, 3) := by decide +kernel
theorem dX0_has_12 : decode cX0_has 12 = .ok (.iload_n 1, 1) := by decide +kernel
theorem dX0_has_13 : decode cX0_has 13 = .ok (.iconst 4, 1) := by decide +kernel
theorem dX0_has_14 : decode cX0_has 14 = .ok (.if_icmp .ge 7, 3) := by decide +kernel
theorem dX0_has_17 : decode cX0_has 17 = .ok (.iconst 1, 1) := by decide +kernel
theorem dX0_has_18 : decode cX0_has 18 = .ok (.goto 4, 3) := by decide +kernel
theorem dX0_has_21 : decode cX0_has 21 = .ok (.iconst 0, 1) := by decide +kernel
theorem dX0_has_22 : decode cX0_has 22 = .ok (.ireturn, 1) := by decide +kernel
theorem dX0_join_0 : decode cX0_join 0 = .ok (.aload_n 0, 1) := by decide +kernel
theorem dX0_join_1 : decode cX0_join 1 = .ok (.getfield 24, 3) := by decide +kernel
theorem dX0_join_4 : decode cX0_join 4 = .ok (.ifCond .lt 11, 3) := by decide +kernel
theorem dX0_join_7 : decode cX0_join 7 = .ok (.aload_n 0, 1) := by decide +kernel
theorem dX0_join_8 : decode cX0_join 8 = .ok (.getfield 24, 3) := by decide +kernel
theorem dX0_join_11 : decode cX0_join 11 = .ok (.iconst 4, 1) := by decide +kernel
theorem dX0_join_12 : decode cX0_join 12 = .ok (.if_icmp .lt 5, 3) := by decide +kernel
theorem dX0_join_15 : decode cX0_join 15 = .ok (.iconst 0, 1) := by decide +kernel
theorem dX0_join_16 : decode cX0_join 16 = .ok (.ireturn, 1) := by decide +kernel
theorem dX0_join_17 : decode cX0_join 17 = .ok (.aload_n 0, 1) := by decide +kernel
theorem dX0_join_18 : decode cX0_join 18 = .ok (.getfield 9, 3) := by decide +kernel
theorem dX0_join_21 : decode cX0_join 21 = .ok (.aload_n 0, 1) := by decide +kernel
theorem dX0_join_22 : decode cX0_join 22 = .ok (.getfield 24, 3) := by decide +kernel
theorem dX0_join_25 : decode cX0_join 25 = .ok (.iload_n 1, 1) := by decide +kernel
theorem dX0_join_26 : decode cX0_join 26 = .ok (.iastore, 1) := by decide +kernel
theorem dX0_join_27 : decode cX0_join 27 = .ok (.aload_n 0, 1) := by decide +kernel
theorem dX0_join_28 : decode cX0_join 28 = .ok (.getfield 15, 3) := by decide +kernel
theorem dX0_join_31 : decode cX0_join 31 = .ok (.aload_n 0, 1) := by decide +kernel
theorem dX0_join_32 : decode cX0_join 32 = .ok (.getfield 24, 3) := by decide +kernel
theorem dX0_join_35 : decode cX0_join 35 = .ok (.iload_n 2, 1) := by decide +kernel
theorem dX0_join_36 : decode cX0_join 36 = .ok (.iastore, 1) := by decide +kernel
theorem dX0_join_37 : decode cX0_join 37 = .ok (.aload_n 0, 1) := by decide +kernel
theorem dX0_join_38 : decode cX0_join 38 = .ok (.getfield 18, 3) := by decide +kernel
theorem dX0_join_41 : decode cX0_join 41 = .ok (.aload_n 0, 1) := by decide +kernel
theorem dX0_join_42 : decode cX0_join 42 = .ok (.getfield 24, 3) := by decide +kernel
theorem dX0_join_45 : decode cX0_join 45 = .ok (.iload_n 3, 1) := by decide +kernel
theorem dX0_join_46 : decode cX0_join 46 = .ok (.iastore, 1) := by decide +kernel
theorem dX0_join_47 : decode cX0_join 47 = .ok (.aload_n 0, 1) := by decide +kernel
theorem dX0_join_48 : decode cX0_join 48 = .ok (.getfield 21, 3) := by decide +kernel
theorem dX0_join_51 : decode cX0_join 51 = .ok (.aload_n 0, 1) := by decide +kernel
theorem dX0_join_52 : decode cX0_join 52 = .ok (.getfield 24, 3) := by decide +kernel
theorem dX0_join_55 : decode cX0_join 55 = .ok (.iconst 0, 1) := by decide +kernel
theorem dX0_join_56 : decode cX0_join 56 = .ok (.iastore, 1) := by decide +kernel
theorem dX0_join_57 : decode cX0_join 57 = .ok (.aload_n 0, 1) := by decide +kernel
theorem dX0_join_58 : decode cX0_join 58 = .ok (.dup, 1) := by decide +kernel
theorem dX0_join_59 : decode cX0_join 59 = .ok (.getfield 24, 3) := by decide +kernel
theorem dX0_join_62 : decode cX0_join 62 = .ok (.iconst 1, 1) := by decide +kernel
theorem dX0_join_63 : decode cX0_join 63 = .ok (.iadd, 1) := by decide +kernel
theorem dX0_join_64 : decode cX0_join 64 = .ok (.putfield 24, 3) := by decide +kernel
theorem dX0_join_67 : decode cX0_join 67 = .ok (.iconst 1, 1) := by decide +kernel
theorem dX0_join_68 : decode cX0_join 68 = .ok (.ireturn, 1) := by decide +kernel
theorem dX0_kindOf_0 : decode cX0_kindOf 0 = .ok (.iload_n 1, 1) := by decide +kernel
theorem dX0_kindOf_1 : decode cX0_kindOf 1 = .ok (.ifCond .lt 29, 3) := by decide +kernel
theorem dX0_kindOf_4 : decode cX0_kindOf 4 = .ok (.iload_n 1, 1) := by decide +kernel
theorem dX0_kindOf_5 : decode cX0_kindOf 5 = .ok (.aload_n 0, 1) := by decide +kernel
theorem dX0_kindOf_6 : decode cX0_kindOf 6 = .ok (.getfield 24, 3) := by decide +kernel
theorem dX0_kindOf_9 : decode cX0_kindOf 9 = .ok (.if_icmp .ge 21, 3) := by decide +kernel
theorem dX0_kindOf_12 : decode cX0_kindOf 12 = .ok (.iload_n 1, 1) := by decide +kernel
theorem dX0_kindOf_13 : decode cX0_kindOf 13 = .ok (.aload_n 0, 1) := by decide +kernel
theorem dX0_kindOf_14 : decode cX0_kindOf 14 = .ok (.getfield 9, 3) := by decide +kernel
theorem dX0_kindOf_17 : decode cX0_kindOf 17 = .ok (.arraylength, 1) := by decide +kernel
theorem dX0_kindOf_18 : decode cX0_kindOf 18 = .ok (.if_icmp .ge 12, 3) := by decide +kernel
theorem dX0_kindOf_21 : decode cX0_kindOf 21 = .ok (.aload_n 0, 1) := by decide +kernel
theorem dX0_kindOf_22 : decode cX0_kindOf 22 = .ok (.getfield 9, 3) := by decide +kernel
theorem dX0_kindOf_25 : decode cX0_kindOf 25 = .ok (.iload_n 1, 1) := by decide +kernel
theorem dX0_kindOf_26 : decode cX0_kindOf 26 = .ok (.iaload, 1) := by decide +kernel
theorem dX0_kindOf_27 : decode cX0_kindOf 27 = .ok (.goto 4, 3) := by decide +kernel
theorem dX0_kindOf_30 : decode cX0_kindOf 30 = .ok (.iconst (-1), 1) := by decide +kernel
theorem dX0_kindOf_31 : decode cX0_kindOf 31 = .ok (.ireturn, 1) := by decide +kernel
theorem dX0_factOf_0 : decode cX0_factOf 0 = .ok (.iload_n 1, 1) := by decide +kernel
theorem dX0_factOf_1 : decode cX0_factOf 1 = .ok (.ifCond .lt 29, 3) := by decide +kernel
theorem dX0_factOf_4 : decode cX0_factOf 4 = .ok (.iload_n 1, 1) := by decide +kernel
theorem dX0_factOf_5 : decode cX0_factOf 5 = .ok (.aload_n 0, 1) := by decide +kernel
theorem dX0_factOf_6 : decode cX0_factOf 6 = .ok (.getfield 24, 3) := by decide +kernel
theorem dX0_factOf_9 : decode cX0_factOf 9 = .ok (.if_icmp .ge 21, 3) := by decide +kernel
theorem dX0_factOf_12 : decode cX0_factOf 12 = .ok (.iload_n 1, 1) := by decide +kernel
theorem dX0_factOf_13 : decode cX0_factOf 13 = .ok (.aload_n 0, 1) := by decide +kernel
theorem dX0_factOf_14 : decode cX0_factOf 14 = .ok (.getfield 15, 3) := by decide +kernel
theorem dX0_factOf_17 : decode cX0_factOf 17 = .ok (.arraylength, 1) := by decide +kernel
theorem dX0_factOf_18 : decode cX0_factOf 18 = .ok (.if_icmp .ge 12, 3) := by decide +kernel
theorem dX0_factOf_21 : decode cX0_factOf 21 = .ok (.aload_n 0, 1) := by decide +kernel
theorem dX0_factOf_22 : decode cX0_factOf 22 = .ok (.getfield 15, 3) := by decide +kernel
theorem dX0_factOf_25 : decode cX0_factOf 25 = .ok (.iload_n 1, 1) := by decide +kernel
theorem dX0_factOf_26 : decode cX0_factOf 26 = .ok (.iaload, 1) := by decide +kernel
theorem dX0_factOf_27 : decode cX0_factOf 27 = .ok (.goto 4, 3) := by decide +kernel
theorem dX0_factOf_30 : decode cX0_factOf 30 = .ok (.iconst (-1), 1) := by decide +kernel
theorem dX0_factOf_31 : decode cX0_factOf 31 = .ok (.ireturn, 1) := by decide +kernel
theorem dX0_valueOf_0 : decode cX0_valueOf 0 = .ok (.iload_n 1, 1) := by decide +kernel
theorem dX0_valueOf_1 : decode cX0_valueOf 1 = .ok (.ifCond .lt 29, 3) := by decide +kernel
theorem dX0_valueOf_4 : decode cX0_valueOf 4 = .ok (.iload_n 1, 1) := by decide +kernel
theorem dX0_valueOf_5 : decode cX0_valueOf 5 = .ok (.aload_n 0, 1) := by decide +kernel
theorem dX0_valueOf_6 : decode cX0_valueOf 6 = .ok (.getfield 24, 3) := by decide +kernel
theorem dX0_valueOf_9 : decode cX0_valueOf 9 = .ok (.if_icmp .ge 21, 3) := by decide +kernel
theorem dX0_valueOf_12 : decode cX0_valueOf 12 = .ok (.iload_n 1, 1) := by decide +kernel
theorem dX0_valueOf_13 : decode cX0_valueOf 13 = .ok (.aload_n 0, 1) := by decide +kernel
theorem dX0_valueOf_14 : decode cX0_valueOf 14 = .ok (.getfield 18, 3) := by decide +kernel
theorem dX0_valueOf_17 : decode cX0_valueOf 17 = .ok (.arraylength, 1) := by decide +kernel
theorem dX0_valueOf_18 : decode cX0_valueOf 18 = .ok (.if_icmp .ge 12, 3) := by decide +kernel
theorem dX0_valueOf_21 : decode cX0_valueOf 21 = .ok (.aload_n 0, 1) := by decide +kernel
theorem dX0_valueOf_22 : decode cX0_valueOf 22 = .ok (.getfield 18, 3) := by decide +kernel
theorem dX0_valueOf_25 : decode cX0_valueOf 25 = .ok (.iload_n 1, 1) := by decide +kernel
theorem dX0_valueOf_26 : decode cX0_valueOf 26 = .ok (.iaload, 1) := by decide +kernel
theorem dX0_valueOf_27 : decode cX0_valueOf 27 = .ok (.goto 4, 3) := by decide +kernel
theorem dX0_valueOf_30 : decode cX0_valueOf 30 = .ok (.iconst (-1), 1) := by decide +kernel
theorem dX0_valueOf_31 : decode cX0_valueOf 31 = .ok (.ireturn, 1) := by decide +kernel
theorem dX0_changesOf_0 : decode cX0_changesOf 0 = .ok (.iload_n 1, 1) := by decide +kernel
theorem dX0_changesOf_1 : decode cX0_changesOf 1 = .ok (.ifCond .lt 29, 3) := by decide +kernel
theorem dX0_changesOf_4 : decode cX0_changesOf 4 = .ok (.iload_n 1, 1) := by decide +kernel
theorem dX0_changesOf_5 : decode cX0_changesOf 5 = .ok (.aload_n 0, 1) := by decide +kernel
theorem dX0_changesOf_6 : decode cX0_changesOf 6 = .ok (.getfield 24, 3) := by decide +kernel
theorem dX0_changesOf_9 : decode cX0_changesOf 9 = .ok (.if_icmp .ge 21, 3) := by decide +kernel
theorem dX0_changesOf_12 : decode cX0_changesOf 12 = .ok (.iload_n 1, 1) := by decide +kernel
theorem dX0_changesOf_13 : decode cX0_changesOf 13 = .ok (.aload_n 0, 1) := by decide +kernel
theorem dX0_changesOf_14 : decode cX0_changesOf 14 = .ok (.getfield 21, 3) := by decide +kernel
theorem dX0_changesOf_17 : decode cX0_changesOf 17 = .ok (.arraylength, 1) := by decide +kernel
theorem dX0_changesOf_18 : decode cX0_changesOf 18 = .ok (.if_icmp .ge 12, 3) := by decide +kernel
theorem dX0_changesOf_21 : decode cX0_changesOf 21 = .ok (.aload_n 0, 1) := by decide +kernel
theorem dX0_changesOf_22 : decode cX0_changesOf 22 = .ok (.getfield 21, 3) := by decide +kernel
theorem dX0_changesOf_25 : decode cX0_changesOf 25 = .ok (.iload_n 1, 1) := by decide +kernel
theorem dX0_changesOf_26 : decode cX0_changesOf 26 = .ok (.iaload, 1) := by decide +kernel
theorem dX0_changesOf_27 : decode cX0_changesOf 27 = .ok (.goto 4, 3) := by decide +kernel
theorem dX0_changesOf_30 : decode cX0_changesOf 30 = .ok (.iconst (-1), 1) := by decide +kernel
theorem dX0_changesOf_31 : decode cX0_changesOf 31 = .ok (.ireturn, 1) := by decide +kernel
theorem dX0_countChange_0 : decode cX0_countChange 0 = .ok (.aload_n 0, 1) := by decide +kernel
theorem dX0_countChange_1 : decode cX0_countChange 1 = .ok (.iload_n 1, 1) := by decide +kernel
theorem dX0_countChange_2 : decode cX0_countChange 2 = .ok (.invokevirtual 28, 3) := by decide +kernel
theorem dX0_countChange_5 : decode cX0_countChange 5 = .ok (.ifCond .eq 13, 3) := by decide +kernel
theorem dX0_countChange_8 : decode cX0_countChange 8 = .ok (.aload_n 0, 1) := by decide +kernel
theorem dX0_countChange_9 : decode cX0_countChange 9 = .ok (.getfield 21, 3) := by decide +kernel
theorem dX0_countChange_12 : decode cX0_countChange 12 = .ok (.iload_n 1, 1) := by decide +kernel
theorem dX0_countChange_13 : decode cX0_countChange 13 = .ok (.dup2, 1) := by decide +kernel
theorem dX0_countChange_14 : decode cX0_countChange 14 = .ok (.iaload, 1) := by decide +kernel
theorem dX0_countChange_15 : decode cX0_countChange 15 = .ok (.iconst 1, 1) := by decide +kernel
theorem dX0_countChange_16 : decode cX0_countChange 16 = .ok (.iadd, 1) := by decide +kernel
theorem dX0_countChange_17 : decode cX0_countChange 17 = .ok (.iastore, 1) := by decide +kernel
theorem dX0_countChange_18 : decode cX0_countChange 18 = .ok (.return_, 1) := by decide +kernel
theorem dX0_become_0 : decode cX0_become 0 = .ok (.aload_n 0, 1) := by decide +kernel
theorem dX0_become_1 : decode cX0_become 1 = .ok (.iconst 0, 1) := by decide +kernel
theorem dX0_become_2 : decode cX0_become 2 = .ok (.putfield 24, 3) := by decide +kernel
theorem dX0_become_5 : decode cX0_become 5 = .ok (.iconst 0, 1) := by decide +kernel
theorem dX0_become_6 : decode cX0_become 6 = .ok (.istore_n 2, 1) := by decide +kernel
theorem dX0_become_7 : decode cX0_become 7 = .ok (.iload_n 2, 1) := by decide +kernel
theorem dX0_become_8 : decode cX0_become 8 = .ok (.aload_n 1, 1) := by decide +kernel
theorem dX0_become_9 : decode cX0_become 9 = .ok (.getfield 24, 3) := by decide +kernel
theorem dX0_become_12 : decode cX0_become 12 = .ok (.if_icmp .ge 72, 3) := by decide +kernel
theorem dX0_become_15 : decode cX0_become 15 = .ok (.iload_n 2, 1) := by decide +kernel
theorem dX0_become_16 : decode cX0_become 16 = .ok (.iconst 4, 1) := by decide +kernel
theorem dX0_become_17 : decode cX0_become 17 = .ok (.if_icmp .ge 67, 3) := by decide +kernel
theorem dX0_become_20 : decode cX0_become 20 = .ok (.aload_n 0, 1) := by decide +kernel
theorem dX0_become_21 : decode cX0_become 21 = .ok (.getfield 9, 3) := by decide +kernel
theorem dX0_become_24 : decode cX0_become 24 = .ok (.iload_n 2, 1) := by decide +kernel
theorem dX0_become_25 : decode cX0_become 25 = .ok (.aload_n 1, 1) := by decide +kernel
theorem dX0_become_26 : decode cX0_become 26 = .ok (.getfield 9, 3) := by decide +kernel
theorem dX0_become_29 : decode cX0_become 29 = .ok (.iload_n 2, 1) := by decide +kernel
theorem dX0_become_30 : decode cX0_become 30 = .ok (.iaload, 1) := by decide +kernel
theorem dX0_become_31 : decode cX0_become 31 = .ok (.iastore, 1) := by decide +kernel
theorem dX0_become_32 : decode cX0_become 32 = .ok (.aload_n 0, 1) := by decide +kernel
theorem dX0_become_33 : decode cX0_become 33 = .ok (.getfield 15, 3) := by decide +kernel
theorem dX0_become_36 : decode cX0_become 36 = .ok (.iload_n 2, 1) := by decide +kernel
theorem dX0_become_37 : decode cX0_become 37 = .ok (.aload_n 1, 1) := by decide +kernel
theorem dX0_become_38 : decode cX0_become 38 = .ok (.getfield 15, 3) := by decide +kernel
theorem dX0_become_41 : decode cX0_become 41 = .ok (.iload_n 2, 1) := by decide +kernel
theorem dX0_become_42 : decode cX0_become 42 = .ok (.iaload, 1) := by decide +kernel
theorem dX0_become_43 : decode cX0_become 43 = .ok (.iastore, 1) := by decide +kernel
theorem dX0_become_44 : decode cX0_become 44 = .ok (.aload_n 0, 1) := by decide +kernel
theorem dX0_become_45 : decode cX0_become 45 = .ok (.getfield 18, 3) := by decide +kernel
theorem dX0_become_48 : decode cX0_become 48 = .ok (.iload_n 2, 1) := by decide +kernel
theorem dX0_become_49 : decode cX0_become 49 = .ok (.aload_n 1, 1) := by decide +kernel
theorem dX0_become_50 : decode cX0_become 50 = .ok (.getfield 18, 3) := by decide +kernel
theorem dX0_become_53 : decode cX0_become 53 = .ok (.iload_n 2, 1) := by decide +kernel
theorem dX0_become_54 : decode cX0_become 54 = .ok (.iaload, 1) := by decide +kernel
theorem dX0_become_55 : decode cX0_become 55 = .ok (.iastore, 1) := by decide +kernel
theorem dX0_become_56 : decode cX0_become 56 = .ok (.aload_n 0, 1) := by decide +kernel
theorem dX0_become_57 : decode cX0_become 57 = .ok (.getfield 21, 3) := by decide +kernel
theorem dX0_become_60 : decode cX0_become 60 = .ok (.iload_n 2, 1) := by decide +kernel
theorem dX0_become_61 : decode cX0_become 61 = .ok (.aload_n 1, 1) := by decide +kernel
theorem dX0_become_62 : decode cX0_become 62 = .ok (.getfield 21, 3) := by decide +kernel
theorem dX0_become_65 : decode cX0_become 65 = .ok (.iload_n 2, 1) := by decide +kernel
theorem dX0_become_66 : decode cX0_become 66 = .ok (.iaload, 1) := by decide +kernel
theorem dX0_become_67 : decode cX0_become 67 = .ok (.iastore, 1) := by decide +kernel
theorem dX0_become_68 : decode cX0_become 68 = .ok (.aload_n 0, 1) := by decide +kernel
theorem dX0_become_69 : decode cX0_become 69 = .ok (.dup, 1) := by decide +kernel
theorem dX0_become_70 : decode cX0_become 70 = .ok (.getfield 24, 3) := by decide +kernel
theorem dX0_become_73 : decode cX0_become 73 = .ok (.iconst 1, 1) := by decide +kernel
theorem dX0_become_74 : decode cX0_become 74 = .ok (.iadd, 1) := by decide +kernel
theorem dX0_become_75 : decode cX0_become 75 = .ok (.putfield 24, 3) := by decide +kernel
theorem dX0_become_78 : decode cX0_become 78 = .ok (.iinc 2 1, 3) := by decide +kernel
theorem dX0_become_81 : decode cX0_become 81 = .ok (.goto (-74), 3) := by decide +kernel
theorem dX0_become_84 : decode cX0_become 84 = .ok (.return_, 1) := by decide +kernel
theorem dX1_init_0 : decode cX1_init 0 = .ok (.aload_n 0, 1) := by decide +kernel
theorem dX1_init_1 : decode cX1_init 1 = .ok (.invokespecial 1, 3) := by decide +kernel
theorem dX1_init_4 : decode cX1_init 4 = .ok (.aload_n 0, 1) := by decide +kernel
theorem dX1_init_5 : decode cX1_init 5 = .ok (.new 7, 3) := by decide +kernel
theorem dX1_init_8 : decode cX1_init 8 = .ok (.dup, 1) := by decide +kernel
theorem dX1_init_9 : decode cX1_init 9 = .ok (.invokespecial 9, 3) := by decide +kernel
theorem dX1_init_12 : decode cX1_init 12 = .ok (.putfield 10, 3) := by decide +kernel
theorem dX1_init_15 : decode cX1_init 15 = .ok (.aload_n 0, 1) := by decide +kernel
theorem dX1_init_16 : decode cX1_init 16 = .ok (.new 16, 3) := by decide +kernel
theorem dX1_init_19 : decode cX1_init 19 = .ok (.dup, 1) := by decide +kernel
theorem dX1_init_20 : decode cX1_init 20 = .ok (.invokespecial 18, 3) := by decide +kernel
theorem dX1_init_23 : decode cX1_init 23 = .ok (.putfield 19, 3) := by decide +kernel
theorem dX1_init_26 : decode cX1_init 26 = .ok (.return_, 1) := by decide +kernel
theorem dX2_init_0 : decode cX2_init 0 = .ok (.aload_n 0, 1) := by decide +kernel
theorem dX2_init_1 : decode cX2_init 1 = .ok (.invokespecial 3, 3) := by decide +kernel
theorem dX2_init_4 : decode cX2_init 4 = .ok (.aload_n 0, 1) := by decide +kernel
theorem dX2_init_5 : decode cX2_init 5 = .ok (.bipush 14, 2) := by decide +kernel
theorem dX2_init_7 : decode cX2_init 7 = .ok (.newarray .int, 2) := by decide +kernel
theorem dX2_init_9 : decode cX2_init 9 = .ok (.putfield 9, 3) := by decide +kernel
theorem dX2_init_12 : decode cX2_init 12 = .ok (.return_, 1) := by decide +kernel
theorem dX2_write_0 : decode cX2_write 0 = .ok (.aload_n 0, 1) := by decide +kernel
theorem dX2_write_1 : decode cX2_write 1 = .ok (.getfield 15, 3) := by decide +kernel
theorem dX2_write_4 : decode cX2_write 4 = .ok (.ifCond .lt 15, 3) := by decide +kernel
theorem dX2_write_7 : decode cX2_write 7 = .ok (.aload_n 0, 1) := by decide +kernel
theorem dX2_write_8 : decode cX2_write 8 = .ok (.getfield 15, 3) := by decide +kernel
theorem dX2_write_11 : decode cX2_write 11 = .ok (.aload_n 0, 1) := by decide +kernel
theorem dX2_write_12 : decode cX2_write 12 = .ok (.getfield 9, 3) := by decide +kernel
theorem dX2_write_15 : decode cX2_write 15 = .ok (.arraylength, 1) := by decide +kernel
theorem dX2_write_16 : decode cX2_write 16 = .ok (.if_icmp .lt 5, 3) := by decide +kernel
theorem dX2_write_19 : decode cX2_write 19 = .ok (.iconst 0, 1) := by decide +kernel
theorem dX2_write_20 : decode cX2_write 20 = .ok (.ireturn, 1) := by decide +kernel
theorem dX2_write_21 : decode cX2_write 21 = .ok (.aload_n 0, 1) := by decide +kernel
theorem dX2_write_22 : decode cX2_write 22 = .ok (.getfield 9, 3) := by decide +kernel
theorem dX2_write_25 : decode cX2_write 25 = .ok (.aload_n 0, 1) := by decide +kernel
theorem dX2_write_26 : decode cX2_write 26 = .ok (.getfield 15, 3) := by decide +kernel
theorem dX2_write_29 : decode cX2_write 29 = .ok (.iload_n 1, 1) := by decide +kernel
theorem dX2_write_30 : decode cX2_write 30 = .ok (.iastore, 1) := by decide +kernel
theorem dX2_write_31 : decode cX2_write 31 = .ok (.aload_n 0, 1) := by decide +kernel
theorem dX2_write_32 : decode cX2_write 32 = .ok (.dup, 1) := by decide +kernel
theorem dX2_write_33 : decode cX2_write 33 = .ok (.getfield 15, 3) := by decide +kernel
theorem dX2_write_36 : decode cX2_write 36 = .ok (.iconst 1, 1) := by decide +kernel
theorem dX2_write_37 : decode cX2_write 37 = .ok (.iadd, 1) := by decide +kernel
theorem dX2_write_38 : decode cX2_write 38 = .ok (.putfield 15, 3) := by decide +kernel
theorem dX2_write_41 : decode cX2_write 41 = .ok (.iconst 1, 1) := by decide +kernel
theorem dX2_write_42 : decode cX2_write 42 = .ok (.ireturn, 1) := by decide +kernel
theorem dX2_clear_0 : decode cX2_clear 0 = .ok (.aload_n 0, 1) := by decide +kernel
theorem dX2_clear_1 : decode cX2_clear 1 = .ok (.getfield 15, 3) := by decide +kernel
theorem dX2_clear_4 : decode cX2_clear 4 = .ok (.istore_n 1, 1) := by decide +kernel
theorem dX2_clear_5 : decode cX2_clear 5 = .ok (.aload_n 0, 1) := by decide +kernel
theorem dX2_clear_6 : decode cX2_clear 6 = .ok (.iconst 0, 1) := by decide +kernel
theorem dX2_clear_7 : decode cX2_clear 7 = .ok (.putfield 15, 3) := by decide +kernel
theorem dX2_clear_10 : decode cX2_clear 10 = .ok (.iload_n 1, 1) := by decide +kernel
theorem dX2_clear_11 : decode cX2_clear 11 = .ok (.ireturn, 1) := by decide +kernel
theorem dX2_codeAt_0 : decode cX2_codeAt 0 = .ok (.iload_n 1, 1) := by decide +kernel
theorem dX2_codeAt_1 : decode cX2_codeAt 1 = .ok (.ifCond .lt 29, 3) := by decide +kernel
theorem dX2_codeAt_4 : decode cX2_codeAt 4 = .ok (.iload_n 1, 1) := by decide +kernel
theorem dX2_codeAt_5 : decode cX2_codeAt 5 = .ok (.aload_n 0, 1) := by decide +kernel
theorem dX2_codeAt_6 : decode cX2_codeAt 6 = .ok (.getfield 15, 3) := by decide +kernel
theorem dX2_codeAt_9 : decode cX2_codeAt 9 = .ok (.if_icmp .ge 21, 3) := by decide +kernel
theorem dX2_codeAt_12 : decode cX2_codeAt 12 = .ok (.iload_n 1, 1) := by decide +kernel
theorem dX2_codeAt_13 : decode cX2_codeAt 13 = .ok (.aload_n 0, 1) := by decide +kernel
theorem dX2_codeAt_14 : decode cX2_codeAt 14 = .ok (.getfield 9, 3) := by decide +kernel
theorem dX2_codeAt_17 : decode cX2_codeAt 17 = .ok (.arraylength, 1) := by decide +kernel
theorem dX2_codeAt_18 : decode cX2_codeAt 18 = .ok (.if_icmp .ge 12, 3) := by decide +kernel
theorem dX2_codeAt_21 : decode cX2_codeAt 21 = .ok (.aload_n 0, 1) := by decide +kernel
theorem dX2_codeAt_22 : decode cX2_codeAt 22 = .ok (.getfield 9, 3) := by decide +kernel
theorem dX2_codeAt_25 : decode cX2_codeAt 25 = .ok (.iload_n 1, 1) := by decide +kernel
theorem dX2_codeAt_26 : decode cX2_codeAt 26 = .ok (.iaload, 1) := by decide +kernel
theorem dX2_codeAt_27 : decode cX2_codeAt 27 = .ok (.goto 4, 3) := by decide +kernel
theorem dX2_codeAt_30 : decode cX2_codeAt 30 = .ok (.iconst (-1), 1) := by decide +kernel
theorem dX2_codeAt_31 : decode cX2_codeAt 31 = .ok (.ireturn, 1) := by decide +kernel
theorem dX2_faultAsSaying_0 : decode cX2_faultAsSaying 0 = .ok (.iconst 0, 1) := by decide +kernel
theorem dX2_faultAsSaying_1 : decode cX2_faultAsSaying 1 = .ok (.istore_n 1, 1) := by decide +kernel
theorem dX2_faultAsSaying_2 : decode cX2_faultAsSaying 2 = .ok (.iconst 0, 1) := by decide +kernel
theorem dX2_faultAsSaying_3 : decode cX2_faultAsSaying 3 = .ok (.istore_n 2, 1) := by decide +kernel
theorem dX2_faultAsSaying_4 : decode cX2_faultAsSaying 4 = .ok (.iconst 1, 1) := by decide +kernel
theorem dX2_faultAsSaying_5 : decode cX2_faultAsSaying 5 = .ok (.istore_n 3, 1) := by decide +kernel
theorem dX2_faultAsSaying_6 : decode cX2_faultAsSaying 6 = .ok (.iconst 0, 1) := by decide +kernel
theorem dX2_faultAsSaying_7 : decode cX2_faultAsSaying 7 = .ok (.istore 4, 2) := by decide +kernel
theorem dX2_faultAsSaying_9 : decode cX2_faultAsSaying 9 = .ok (.iload 4, 2) := by decide +kernel
theorem dX2_faultAsSaying_11 : decode cX2_faultAsSaying 11 = .ok (.aload_n 0, 1) := by decide +kernel
theorem dX2_faultAsSaying_12 : decode cX2_faultAsSaying 12 = .ok (.getfield 15, 3) := by decide +kernel
theorem dX2_faultAsSaying_15 : decode cX2_faultAsSaying 15 = .ok (.if_icmp .ge 84, 3) := by decide +kernel
theorem dX2_faultAsSaying_18 : decode cX2_faultAsSaying 18 = .ok (.aload_n 0, 1) := by decide +kernel
theorem dX2_faultAsSaying_19 : decode cX2_faultAsSaying 19 = .ok (.iload 4, 2) := by decide +kernel
theorem dX2_faultAsSaying_21 : decode cX2_faultAsSaying 21 = .ok (.invokevirtual 19, 3) := by decide +kernel
theorem dX2_faultAsSaying_24 : decode cX2_faultAsSaying 24 = .ok (.istore 5, 2) := by decide +kernel
theorem dX2_faultAsSaying_26 : decode cX2_faultAsSaying 26 = .ok (.iload_n 3, 1) := by decide +kernel
theorem dX2_faultAsSaying_27 : decode cX2_faultAsSaying 27 = .ok (.ifCond .eq 21, 3) := by decide +kernel
theorem dX2_faultAsSaying_30 : decode cX2_faultAsSaying 30 = .ok (.iload 5, 2) := by decide +kernel
theorem dX2_faultAsSaying_32 : decode cX2_faultAsSaying 32 = .ok (.invokestatic 23, 3) := by decide +kernel
theorem dX2_faultAsSaying_35 : decode cX2_faultAsSaying 35 = .ok (.ifCond .eq 13, 3) := by decide +kernel
theorem dX2_faultAsSaying_38 : decode cX2_faultAsSaying 38 = .ok (.iinc 1 1, 3) := by decide +kernel
theorem dX2_faultAsSaying_41 : decode cX2_faultAsSaying 41 = .ok (.iconst 0, 1) := by decide +kernel
theorem dX2_faultAsSaying_42 : decode cX2_faultAsSaying 42 = .ok (.istore_n 2, 1) := by decide +kernel
theorem dX2_faultAsSaying_43 : decode cX2_faultAsSaying 43 = .ok (.iconst 0, 1) := by decide +kernel
theorem dX2_faultAsSaying_44 : decode cX2_faultAsSaying 44 = .ok (.istore_n 3, 1) := by decide +kernel
theorem dX2_faultAsSaying_45 : decode cX2_faultAsSaying 45 = .ok (.goto 48, 3) := by decide +kernel
theorem dX2_faultAsSaying_48 : decode cX2_faultAsSaying 48 = .ok (.iload_n 3, 1) := by decide +kernel
theorem dX2_faultAsSaying_49 : decode cX2_faultAsSaying 49 = .ok (.ifCond .eq 19, 3) := by decide +kernel
theorem dX2_faultAsSaying_52 : decode cX2_faultAsSaying 52 = .ok (.iload 5, 2) := by decide +kernel
theorem dX2_faultAsSaying_54 : decode cX2_faultAsSaying 54 = .ok (.bipush 110, 2) := by decide +kernel
theorem dX2_faultAsSaying_56 : decode cX2_faultAsSaying 56 = .ok (.if_icmp .ne 12, 3) := by decide +kernel
theorem dX2_faultAsSaying_59 : decode cX2_faultAsSaying 59 = .ok (.iload_n 2, 1) := by decide +kernel
theorem dX2_faultAsSaying_60 : decode cX2_faultAsSaying 60 = .ok (.ifCond .ne 8, 3) := by decide +kernel
theorem dX2_faultAsSaying_63 : decode cX2_faultAsSaying 63 = .ok (.iconst 1, 1) := by decide +kernel
theorem dX2_faultAsSaying_64 : decode cX2_faultAsSaying 64 = .ok (.istore_n 2, 1) := by decide +kernel
theorem dX2_faultAsSaying_65 : decode cX2_faultAsSaying 65 = .ok (.goto 28, 3) := by decide +kernel
theorem dX2_faultAsSaying_68 : decode cX2_faultAsSaying 68 = .ok (.iload_n 3, 1) := by decide +kernel
theorem dX2_faultAsSaying_69 : decode cX2_faultAsSaying 69 = .ok (.ifCond .ne 21, 3) := by decide +kernel
theorem dX2_faultAsSaying_72 : decode cX2_faultAsSaying 72 = .ok (.iload_n 1, 1) := by decide +kernel
theorem dX2_faultAsSaying_73 : decode cX2_faultAsSaying 73 = .ok (.iconst 4, 1) := by decide +kernel
theorem dX2_faultAsSaying_74 : decode cX2_faultAsSaying 74 = .ok (.if_icmp .ge 16, 3) := by decide +kernel
theorem dX2_faultAsSaying_77 : decode cX2_faultAsSaying 77 = .ok (.iload 5, 2) := by decide +kernel
theorem dX2_faultAsSaying_79 : decode cX2_faultAsSaying 79 = .ok (.invokestatic 27, 3) := by decide +kernel
theorem dX2_faultAsSaying_82 : decode cX2_faultAsSaying 82 = .ok (.ifCond .eq 8, 3) := by decide +kernel
theorem dX2_faultAsSaying_85 : decode cX2_faultAsSaying 85 = .ok (.iconst 1, 1) := by decide +kernel
theorem dX2_faultAsSaying_86 : decode cX2_faultAsSaying 86 = .ok (.istore_n 3, 1) := by decide +kernel
theorem dX2_faultAsSaying_87 : decode cX2_faultAsSaying 87 = .ok (.goto 6, 3) := by decide +kernel
theorem dX2_faultAsSaying_90 : decode cX2_faultAsSaying 90 = .ok (.iload 4, 2) := by decide +kernel
theorem dX2_faultAsSaying_92 : decode cX2_faultAsSaying 92 = .ok (.ireturn, 1) := by decide +kernel
theorem dX2_faultAsSaying_93 : decode cX2_faultAsSaying 93 = .ok (.iinc 4 1, 3) := by decide +kernel
theorem dX2_faultAsSaying_96 : decode cX2_faultAsSaying 96 = .ok (.goto (-87), 3) := by decide +kernel
theorem dX2_faultAsSaying_99 : decode cX2_faultAsSaying 99 = .ok (.aload_n 0, 1) := by decide +kernel
theorem dX2_faultAsSaying_100 : decode cX2_faultAsSaying 100 = .ok (.getfield 15, 3) := by decide +kernel
theorem dX2_faultAsSaying_103 : decode cX2_faultAsSaying 103 = .ok (.ireturn, 1) := by decide +kernel
theorem dX2_faultAsSenses_0 : decode cX2_faultAsSenses 0 = .ok (.iconst 0, 1) := by decide +kernel
theorem dX2_faultAsSenses_1 : decode cX2_faultAsSenses 1 = .ok (.istore_n 1, 1) := by decide +kernel
theorem dX2_faultAsSenses_2 : decode cX2_faultAsSenses 2 = .ok (.iload_n 1, 1) := by decide +kernel
theorem dX2_faultAsSenses_3 : decode cX2_faultAsSenses 3 = .ok (.aload_n 0, 1) := by decide +kernel
theorem dX2_faultAsSenses_4 : decode cX2_faultAsSenses 4 = .ok (.getfield 15, 3) := by decide +kernel
theorem dX2_faultAsSenses_7 : decode cX2_faultAsSenses 7 = .ok (.if_icmp .ge 35, 3) := by decide +kernel
theorem dX2_faultAsSenses_10 : decode cX2_faultAsSenses 10 = .ok (.aload_n 0, 1) := by decide +kernel
theorem dX2_faultAsSenses_11 : decode cX2_faultAsSenses 11 = .ok (.iload_n 1, 1) := by decide +kernel
theorem dX2_faultAsSenses_12 : decode cX2_faultAsSenses 12 = .ok (.invokevirtual 19, 3) := by decide +kernel
theorem dX2_faultAsSenses_15 : decode cX2_faultAsSenses 15 = .ok (.istore_n 2, 1) := by decide +kernel
theorem dX2_faultAsSenses_16 : decode cX2_faultAsSenses 16 = .ok (.iload_n 1, 1) := by decide +kernel
theorem dX2_faultAsSenses_17 : decode cX2_faultAsSenses 17 = .ok (.bipush 6, 2) := by decide +kernel
theorem dX2_faultAsSenses_19 : decode cX2_faultAsSenses 19 = .ok (.if_icmp .ge 15, 3) := by decide +kernel
theorem dX2_faultAsSenses_22 : decode cX2_faultAsSenses 22 = .ok (.iload_n 2, 1) := by decide +kernel
theorem dX2_faultAsSenses_23 : decode cX2_faultAsSenses 23 = .ok (.bipush 48, 2) := by decide +kernel
theorem dX2_faultAsSenses_25 : decode cX2_faultAsSenses 25 = .ok (.if_icmp .lt 9, 3) := by decide +kernel
theorem dX2_faultAsSenses_28 : decode cX2_faultAsSenses 28 = .ok (.iload_n 2, 1) := by decide +kernel
theorem dX2_faultAsSenses_29 : decode cX2_faultAsSenses 29 = .ok (.bipush 53, 2) := by decide +kernel
theorem dX2_faultAsSenses_31 : decode cX2_faultAsSenses 31 = .ok (.if_icmp .le 5, 3) := by decide +kernel
theorem dX2_faultAsSenses_34 : decode cX2_faultAsSenses 34 = .ok (.iload_n 1, 1) := by decide +kernel
theorem dX2_faultAsSenses_35 : decode cX2_faultAsSenses 35 = .ok (.ireturn, 1) := by decide +kernel
theorem dX2_faultAsSenses_36 : decode cX2_faultAsSenses 36 = .ok (.iinc 1 1, 3) := by decide +kernel
theorem dX2_faultAsSenses_39 : decode cX2_faultAsSenses 39 = .ok (.goto (-37), 3) := by decide +kernel
theorem dX2_faultAsSenses_42 : decode cX2_faultAsSenses 42 = .ok (.aload_n 0, 1) := by decide +kernel
theorem dX2_faultAsSenses_43 : decode cX2_faultAsSenses 43 = .ok (.getfield 15, 3) := by decide +kernel
theorem dX2_faultAsSenses_46 : decode cX2_faultAsSenses 46 = .ok (.ireturn, 1) := by decide +kernel
theorem dX2_isSaying_0 : decode cX2_isSaying 0 = .ok (.aload_n 0, 1) := by decide +kernel
theorem dX2_isSaying_1 : decode cX2_isSaying 1 = .ok (.invokevirtual 30, 3) := by decide +kernel
theorem dX2_isSaying_4 : decode cX2_isSaying 4 = .ok (.aload_n 0, 1) := by decide +kernel
theorem dX2_isSaying_5 : decode cX2_isSaying 5 = .ok (.getfield 15, 3) := by decide +kernel
theorem dX2_isSaying_8 : decode cX2_isSaying 8 = .ok (.if_icmp .ne 23, 3) := by decide +kernel
theorem dX2_isSaying_11 : decode cX2_isSaying 11 = .ok (.aload_n 0, 1) := by decide +kernel
theorem dX2_isSaying_12 : decode cX2_isSaying 12 = .ok (.aload_n 0, 1) := by decide +kernel
theorem dX2_isSaying_13 : decode cX2_isSaying 13 = .ok (.getfield 15, 3) := by decide +kernel
theorem dX2_isSaying_16 : decode cX2_isSaying 16 = .ok (.iconst 1, 1) := by decide +kernel
theorem dX2_isSaying_17 : decode cX2_isSaying 17 = .ok (.isub, 1) := by decide +kernel
theorem dX2_isSaying_18 : decode cX2_isSaying 18 = .ok (.invokevirtual 19, 3) := by decide +kernel
theorem dX2_isSaying_21 : decode cX2_isSaying 21 = .ok (.invokestatic 23, 3) := by decide +kernel
theorem dX2_isSaying_24 : decode cX2_isSaying 24 = .ok (.ifCond .eq 7, 3) := by decide +kernel
theorem dX2_isSaying_27 : decode cX2_isSaying 27 = .ok (.iconst 1, 1) := by decide +kernel
theorem dX2_isSaying_28 : decode cX2_isSaying 28 = .ok (.goto 4, 3) := by decide +kernel
theorem dX2_isSaying_31 : decode cX2_isSaying 31 = .ok (.iconst 0, 1) := by decide +kernel
theorem dX2_isSaying_32 : decode cX2_isSaying 32 = .ok (.ireturn, 1) := by decide +kernel
theorem dX2_isSenses_0 : decode cX2_isSenses 0 = .ok (.aload_n 0, 1) := by decide +kernel
theorem dX2_isSenses_1 : decode cX2_isSenses 1 = .ok (.getfield 15, 3) := by decide +kernel
theorem dX2_isSenses_4 : decode cX2_isSenses 4 = .ok (.bipush 6, 2) := by decide +kernel
theorem dX2_isSenses_6 : decode cX2_isSenses 6 = .ok (.if_icmp .ne 18, 3) := by decide +kernel
theorem dX2_isSenses_9 : decode cX2_isSenses 9 = .ok (.aload_n 0, 1) := by decide +kernel
theorem dX2_isSenses_10 : decode cX2_isSenses 10 = .ok (.invokevirtual 34, 3) := by decide +kernel
theorem dX2_isSenses_13 : decode cX2_isSenses 13 = .ok (.aload_n 0, 1) := by decide +kernel
theorem dX2_isSenses_14 : decode cX2_isSenses 14 = .ok (.getfield 15, 3) := by decide +kernel
theorem dX2_isSenses_17 : decode cX2_isSenses 17 = .ok (.if_icmp .ne 7, 3) := by decide +kernel
theorem dX2_isSenses_20 : decode cX2_isSenses 20 = .ok (.iconst 1, 1) := by decide +kernel
theorem dX2_isSenses_21 : decode cX2_isSenses 21 = .ok (.goto 4, 3) := by decide +kernel
theorem dX2_isSenses_24 : decode cX2_isSenses 24 = .ok (.iconst 0, 1) := by decide +kernel
theorem dX2_isSenses_25 : decode cX2_isSenses 25 = .ok (.ireturn, 1) := by decide +kernel
theorem dX2_isWordLetter_0 : decode cX2_isWordLetter 0 = .ok (.iload_n 0, 1) := by decide +kernel
theorem dX2_isWordLetter_1 : decode cX2_isWordLetter 1 = .ok (.bipush 97, 2) := by decide +kernel
theorem dX2_isWordLetter_3 : decode cX2_isWordLetter 3 = .ok (.if_icmp .lt 13, 3) := by decide +kernel
theorem dX2_isWordLetter_6 : decode cX2_isWordLetter 6 = .ok (.iload_n 0, 1) := by decide +kernel
theorem dX2_isWordLetter_7 : decode cX2_isWordLetter 7 = .ok (.bipush 102, 2) := by decide +kernel
theorem dX2_isWordLetter_9 : decode cX2_isWordLetter 9 = .ok (.if_icmp .gt 7, 3) := by decide +kernel
theorem dX2_isWordLetter_12 : decode cX2_isWordLetter 12 = .ok (.iconst 1, 1) := by decide +kernel
theorem dX2_isWordLetter_13 : decode cX2_isWordLetter 13 = .ok (.goto 4, 3) := by decide +kernel
theorem dX2_isWordLetter_16 : decode cX2_isWordLetter 16 = .ok (.iconst 0, 1) := by decide +kernel
theorem dX2_isWordLetter_17 : decode cX2_isWordLetter 17 = .ok (.ireturn, 1) := by decide +kernel
theorem dX2_isJoining_0 : decode cX2_isJoining 0 = .ok (.iload_n 0, 1) := by decide +kernel
theorem dX2_isJoining_1 : decode cX2_isJoining 1 = .ok (.bipush 38, 2) := by decide +kernel
theorem dX2_isJoining_3 : decode cX2_isJoining 3 = .ok (.if_icmp .eq 9, 3) := by decide +kernel
theorem dX2_isJoining_6 : decode cX2_isJoining 6 = .ok (.iload_n 0, 1) := by decide +kernel
theorem dX2_isJoining_7 : decode cX2_isJoining 7 = .ok (.bipush 43, 2) := by decide +kernel
theorem dX2_isJoining_9 : decode cX2_isJoining 9 = .ok (.if_icmp .ne 7, 3) := by decide +kernel
theorem dX2_isJoining_12 : decode cX2_isJoining 12 = .ok (.iconst 1, 1) := by decide +kernel
theorem dX2_isJoining_13 : decode cX2_isJoining 13 = .ok (.goto 4, 3) := by decide +kernel
theorem dX2_isJoining_16 : decode cX2_isJoining 16 = .ok (.iconst 0, 1) := by decide +kernel
theorem dX2_isJoining_17 : decode cX2_isJoining 17 = .ok (.ireturn, 1) := by decide +kernel
theorem dX3_init_0 : decode cX3_init 0 = .ok (.aload_n 0, 1) := by decide +kernel
theorem dX3_init_1 : decode cX3_init 1 = .ok (.invokespecial 3, 3) := by decide +kernel
theorem dX3_init_4 : decode cX3_init 4 = .ok (.aload_n 0, 1) := by decide +kernel
theorem dX3_init_5 : decode cX3_init 5 = .ok (.iconst 4, 1) := by decide +kernel
theorem dX3_init_6 : decode cX3_init 6 = .ok (.newarray .int, 2) := by decide +kernel
theorem dX3_init_8 : decode cX3_init 8 = .ok (.putfield 9, 3) := by decide +kernel
theorem dX3_init_11 : decode cX3_init 11 = .ok (.aload_n 0, 1) := by decide +kernel
theorem dX3_init_12 : decode cX3_init 12 = .ok (.iconst 4, 1) := by decide +kernel
theorem dX3_init_13 : decode cX3_init 13 = .ok (.newarray .boolean, 2) := by decide +kernel
theorem dX3_init_15 : decode cX3_init 15 = .ok (.putfield 15, 3) := by decide +kernel
theorem dX3_init_18 : decode cX3_init 18 = .ok (.aload_n 0, 1) := by decide +kernel
theorem dX3_init_19 : decode cX3_init 19 = .ok (.iconst 4, 1) := by decide +kernel
theorem dX3_init_20 : decode cX3_init 20 = .ok (.newarray .boolean, 2) := by decide +kernel
theorem dX3_init_22 : decode cX3_init 22 = .ok (.putfield 19, 3) := by decide +kernel
theorem dX3_init_25 : decode cX3_init 25 = .ok (.aload_n 0, 1) := by decide +kernel
theorem dX3_init_26 : decode cX3_init 26 = .ok (.iconst 4, 1) := by decide +kernel
theorem dX3_init_27 : decode cX3_init 27 = .ok (.newarray .long, 2) := by decide +kernel
theorem dX3_init_29 : decode cX3_init 29 = .ok (.putfield 22, 3) := by decide +kernel
theorem dX3_init_32 : decode cX3_init 32 = .ok (.aload_n 0, 1) := by decide +kernel
theorem dX3_init_33 : decode cX3_init 33 = .ok (.iconst 4, 1) := by decide +kernel
theorem dX3_init_34 : decode cX3_init 34 = .ok (.newarray .long, 2) := by decide +kernel
theorem dX3_init_36 : decode cX3_init 36 = .ok (.putfield 26, 3) := by decide +kernel
theorem dX3_init_39 : decode cX3_init 39 = .ok (.aload_n 0, 1) := by decide +kernel
theorem dX3_init_40 : decode cX3_init 40 = .ok (.sipush 640, 3) := by decide +kernel
theorem dX3_init_43 : decode cX3_init 43 = .ok (.newarray .long, 2) := by decide +kernel
theorem dX3_init_45 : decode cX3_init 45 = .ok (.putfield 29, 3) := by decide +kernel
theorem dX3_init_48 : decode cX3_init 48 = .ok (.return_, 1) := by decide +kernel
theorem dX3_isNone_0 : decode cX3_isNone 0 = .ok (.aload_n 0, 1) := by decide +kernel
theorem dX3_isNone_1 : decode cX3_isNone 1 = .ok (.getfield 32, 3) := by decide +kernel
theorem dX3_isNone_4 : decode cX3_isNone 4 = .ok (.ifCond .ne 7, 3) := by decide +kernel
theorem dX3_isNone_7 : decode cX3_isNone 7 = .ok (.iconst 1, 1) := by decide +kernel
theorem dX3_isNone_8 : decode cX3_isNone 8 = .ok (.goto 4, 3) := by decide +kernel
theorem dX3_isNone_11 : decode cX3_isNone 11 = .ok (.iconst 0, 1) := by decide +kernel
theorem dX3_isNone_12 : decode cX3_isNone 12 = .ok (.ireturn, 1) := by decide +kernel
theorem dX3_hasReading_0 : decode cX3_hasReading 0 = .ok (.iload_n 1, 1) := by decide +kernel
theorem dX3_hasReading_1 : decode cX3_hasReading 1 = .ok (.ifCond .lt 15, 3) := by decide +kernel
theorem dX3_hasReading_4 : decode cX3_hasReading 4 = .ok (.iload_n 1, 1) := by decide +kernel
theorem dX3_hasReading_5 : decode cX3_hasReading 5 = .ok (.aload_n 0, 1) := by decide +kernel
theorem dX3_hasReading_6 : decode cX3_hasReading 6 = .ok (.getfield 36, 3) := by decide +kernel
theorem dX3_hasReading_9 : decode cX3_hasReading 9 = .ok (.if_icmp .ge 7, 3) := by decide +kernel
theorem dX3_hasReading_12 : decode cX3_hasReading 12 = .ok (.iconst 1, 1) := by decide +kernel
theorem dX3_hasReading_13 : decode cX3_hasReading 13 = .ok (.goto 4, 3) := by decide +kernel
theorem dX3_hasReading_16 : decode cX3_hasReading 16 = .ok (.iconst 0, 1) := by decide +kernel
theorem dX3_hasReading_17 : decode cX3_hasReading 17 = .ok (.ireturn, 1) := by decide +kernel
theorem dX3_truth_0 : decode cX3_truth 0 = .ok (.iload_n 1, 1) := by decide +kernel
theorem dX3_truth_1 : decode cX3_truth 1 = .ok (.ifCond .lt 29, 3) := by decide +kernel
theorem dX3_truth_4 : decode cX3_truth 4 = .ok (.iload_n 1, 1) := by decide +kernel
theorem dX3_truth_5 : decode cX3_truth 5 = .ok (.aload_n 0, 1) := by decide +kernel
theorem dX3_truth_6 : decode cX3_truth 6 = .ok (.getfield 36, 3) := by decide +kernel
theorem dX3_truth_9 : decode cX3_truth 9 = .ok (.if_icmp .ge 21, 3) := by decide +kernel
theorem dX3_truth_12 : decode cX3_truth 12 = .ok (.iload_n 1, 1) := by decide +kernel
theorem dX3_truth_13 : decode cX3_truth 13 = .ok (.aload_n 0, 1) := by decide +kernel
theorem dX3_truth_14 : decode cX3_truth 14 = .ok (.getfield 29, 3) := by decide +kernel
theorem dX3_truth_17 : decode cX3_truth 17 = .ok (.arraylength, 1) := by decide +kernel
theorem dX3_truth_18 : decode cX3_truth 18 = .ok (.if_icmp .ge 12, 3) := by decide +kernel
theorem dX3_truth_21 : decode cX3_truth 21 = .ok (.aload_n 0, 1) := by decide +kernel
theorem dX3_truth_22 : decode cX3_truth 22 = .ok (.getfield 29, 3) := by decide +kernel
theorem dX3_truth_25 : decode cX3_truth 25 = .ok (.iload_n 1, 1) := by decide +kernel
theorem dX3_truth_26 : decode cX3_truth 26 = .ok (.laload, 1) := by decide +kernel
theorem dX3_truth_27 : decode cX3_truth 27 = .ok (.goto 4, 3) := by decide +kernel
theorem dX3_truth_30 : decode cX3_truth 30 = .ok (.lconst 0, 1) := by decide +kernel
theorem dX3_truth_31 : decode cX3_truth 31 = .ok (.lreturn, 1) := by decide +kernel
theorem dX3_read_0 : decode cX3_read 0 = .ok (.aload_n 0, 1) := by decide +kernel
theorem dX3_read_1 : decode cX3_read 1 = .ok (.iconst 0, 1) := by decide +kernel
theorem dX3_read_2 : decode cX3_read 2 = .ok (.putfield 32, 3) := by decide +kernel
theorem dX3_read_5 : decode cX3_read 5 = .ok (.iconst 0, 1) := by decide +kernel
theorem dX3_read_6 : decode cX3_read 6 = .ok (.istore_n 2, 1) := by decide +kernel
theorem dX3_read_7 : decode cX3_read 7 = .ok (.iconst 0, 1) := by decide +kernel
theorem dX3_read_8 : decode cX3_read 8 = .ok (.istore_n 3, 1) := by decide +kernel
theorem dX3_read_9 : decode cX3_read 9 = .ok (.iconst 0, 1) := by decide +kernel
theorem dX3_read_10 : decode cX3_read 10 = .ok (.istore 4, 2) := by decide +kernel
theorem dX3_read_12 : decode cX3_read 12 = .ok (.iload 4, 2) := by decide +kernel
theorem dX3_read_14 : decode cX3_read 14 = .ok (.aload_n 1, 1) := by decide +kernel
theorem dX3_read_15 : decode cX3_read 15 = .ok (.getfield 39, 3) := by decide +kernel
theorem dX3_read_18 : decode cX3_read 18 = .ok (.if_icmp .ge 66, 3) := by decide +kernel
theorem dX3_read_21 : decode cX3_read 21 = .ok (.aload_n 1, 1) := by decide +kernel
theorem dX3_read_22 : decode cX3_read 22 = .ok (.iload 4, 2) := by decide +kernel
theorem dX3_read_24 : decode cX3_read 24 = .ok (.invokevirtual 44, 3) := by decide +kernel
theorem dX3_read_27 : decode cX3_read 27 = .ok (.istore 5, 2) := by decide +kernel
theorem dX3_read_29 : decode cX3_read 29 = .ok (.iload 5, 2) := by decide +kernel
theorem dX3_read_31 : decode cX3_read 31 = .ok (.bipush 110, 2) := by decide +kernel
theorem dX3_read_33 : decode cX3_read 33 = .ok (.if_icmp .ne 8, 3) := by decide +kernel
theorem dX3_read_36 : decode cX3_read 36 = .ok (.iconst 1, 1) := by decide +kernel
theorem dX3_read_37 : decode cX3_read 37 = .ok (.istore_n 3, 1) := by decide +kernel
theorem dX3_read_38 : decode cX3_read 38 = .ok (.goto 40, 3) := by decide +kernel
theorem dX3_read_41 : decode cX3_read 41 = .ok (.iload 5, 2) := by decide +kernel
theorem dX3_read_43 : decode cX3_read 43 = .ok (.invokestatic 48, 3) := by decide +kernel
theorem dX3_read_46 : decode cX3_read 46 = .ok (.ifCond .eq 19, 3) := by decide +kernel
theorem dX3_read_49 : decode cX3_read 49 = .ok (.iload 5, 2) := by decide +kernel
theorem dX3_read_51 : decode cX3_read 51 = .ok (.bipush 43, 2) := by decide +kernel
theorem dX3_read_53 : decode cX3_read 53 = .ok (.if_icmp .ne 7, 3) := by decide +kernel
theorem dX3_read_56 : decode cX3_read 56 = .ok (.iconst 1, 1) := by decide +kernel
theorem dX3_read_57 : decode cX3_read 57 = .ok (.goto 4, 3) := by decide +kernel
theorem dX3_read_60 : decode cX3_read 60 = .ok (.iconst 0, 1) := by decide +kernel
theorem dX3_read_61 : decode cX3_read 61 = .ok (.istore_n 2, 1) := by decide +kernel
theorem dX3_read_62 : decode cX3_read 62 = .ok (.goto 16, 3) := by decide +kernel
theorem dX3_read_65 : decode cX3_read 65 = .ok (.aload_n 0, 1) := by decide +kernel
theorem dX3_read_66 : decode cX3_read 66 = .ok (.iload_n 2, 1) := by decide +kernel
theorem dX3_read_67 : decode cX3_read 67 = .ok (.iload_n 3, 1) := by decide +kernel
theorem dX3_read_68 : decode cX3_read 68 = .ok (.iload 5, 2) := by decide +kernel
theorem dX3_read_70 : decode cX3_read 70 = .ok (.bipush 97, 2) := by decide +kernel
theorem dX3_read_72 : decode cX3_read 72 = .ok (.isub, 1) := by decide +kernel
theorem dX3_read_73 : decode cX3_read 73 = .ok (.invokevirtual 52, 3) := by decide +kernel
theorem dX3_read_76 : decode cX3_read 76 = .ok (.iconst 0, 1) := by decide +kernel
theorem dX3_read_77 : decode cX3_read 77 = .ok (.istore_n 3, 1) := by decide +kernel
theorem dX3_read_78 : decode cX3_read 78 = .ok (.iinc 4 1, 3) := by decide +kernel
theorem dX3_read_81 : decode cX3_read 81 = .ok (.goto (-69), 3) := by decide +kernel
theorem dX3_read_84 : decode cX3_read 84 = .ok (.return_, 1) := by decide +kernel
theorem dX3_append_0 : decode cX3_append 0 = .ok (.aload_n 0, 1) := by decide +kernel
theorem dX3_append_1 : decode cX3_append 1 = .ok (.getfield 32, 3) := by decide +kernel
theorem dX3_append_4 : decode cX3_append 4 = .ok (.ifCond .lt 11, 3) := by decide +kernel
theorem dX3_append_7 : decode cX3_append 7 = .ok (.aload_n 0, 1) := by decide +kernel
theorem dX3_append_8 : decode cX3_append 8 = .ok (.getfield 32, 3) := by decide +kernel
theorem dX3_append_11 : decode cX3_append 11 = .ok (.iconst 4, 1) := by decide +kernel
theorem dX3_append_12 : decode cX3_append 12 = .ok (.if_icmp .lt 4, 3) := by decide +kernel
theorem dX3_append_15 : decode cX3_append 15 = .ok (.return_, 1) := by decide +kernel
theorem dX3_append_16 : decode cX3_append 16 = .ok (.aload_n 0, 1) := by decide +kernel
theorem dX3_append_17 : decode cX3_append 17 = .ok (.getfield 19, 3) := by decide +kernel
theorem dX3_append_20 : decode cX3_append 20 = .ok (.aload_n 0, 1) := by decide +kernel
theorem dX3_append_21 : decode cX3_append 21 = .ok (.getfield 32, 3) := by decide +kernel
theorem dX3_append_24 : decode cX3_append 24 = .ok (.iload_n 1, 1) := by decide +kernel
theorem dX3_append_25 : decode cX3_append 25 = .ok (.bastore, 1) := by decide +kernel
theorem dX3_append_26 : decode cX3_append 26 = .ok (.aload_n 0, 1) := by decide +kernel
theorem dX3_append_27 : decode cX3_append 27 = .ok (.getfield 15, 3) := by decide +kernel
theorem dX3_append_30 : decode cX3_append 30 = .ok (.aload_n 0, 1) := by decide +kernel
theorem dX3_append_31 : decode cX3_append 31 = .ok (.getfield 32, 3) := by decide +kernel
theorem dX3_append_34 : decode cX3_append 34 = .ok (.iload_n 2, 1) := by decide +kernel
theorem dX3_append_35 : decode cX3_append 35 = .ok (.bastore, 1) := by decide +kernel
theorem dX3_append_36 : decode cX3_append 36 = .ok (.aload_n 0, 1) := by decide +kernel
theorem dX3_append_37 : decode cX3_append 37 = .ok (.getfield 9, 3) := by decide +kernel
theorem dX3_append_40 : decode cX3_append 40 = .ok (.aload_n 0, 1) := by decide +kernel
theorem dX3_append_41 : decode cX3_append 41 = .ok (.getfield 32, 3) := by decide +kernel
theorem dX3_append_44 : decode cX3_append 44 = .ok (.iload_n 3, 1) := by decide +kernel
theorem dX3_append_45 : decode cX3_append 45 = .ok (.iastore, 1) := by decide +kernel
theorem dX3_append_46 : decode cX3_append 46 = .ok (.aload_n 0, 1) := by decide +kernel
theorem dX3_append_47 : decode cX3_append 47 = .ok (.dup, 1) := by decide +kernel
theorem dX3_append_48 : decode cX3_append 48 = .ok (.getfield 32, 3) := by decide +kernel
theorem dX3_append_51 : decode cX3_append 51 = .ok (.iconst 1, 1) := by decide +kernel
theorem dX3_append_52 : decode cX3_append 52 = .ok (.iadd, 1) := by decide +kernel
theorem dX3_append_53 : decode cX3_append 53 = .ok (.putfield 32, 3) := by decide +kernel
theorem dX3_append_56 : decode cX3_append 56 = .ok (.return_, 1) := by decide +kernel
theorem dX3_become_0 : decode cX3_become 0 = .ok (.aload_n 0, 1) := by decide +kernel
theorem dX3_become_1 : decode cX3_become 1 = .ok (.iconst 0, 1) := by decide +kernel
theorem dX3_become_2 : decode cX3_become 2 = .ok (.putfield 32, 3) := by decide +kernel
theorem dX3_become_5 : decode cX3_become 5 = .ok (.iconst 0, 1) := by decide +kernel
theorem dX3_become_6 : decode cX3_become 6 = .ok (.istore_n 2, 1) := by decide +kernel
theorem dX3_become_7 : decode cX3_become 7 = .ok (.iload_n 2, 1) := by decide +kernel
theorem dX3_become_8 : decode cX3_become 8 = .ok (.aload_n 1, 1) := by decide +kernel
theorem dX3_become_9 : decode cX3_become 9 = .ok (.getfield 32, 3) := by decide +kernel
theorem dX3_become_12 : decode cX3_become 12 = .ok (.if_icmp .ge 36, 3) := by decide +kernel
theorem dX3_become_15 : decode cX3_become 15 = .ok (.iload_n 2, 1) := by decide +kernel
theorem dX3_become_16 : decode cX3_become 16 = .ok (.iconst 4, 1) := by decide +kernel
theorem dX3_become_17 : decode cX3_become 17 = .ok (.if_icmp .ge 31, 3) := by decide +kernel
theorem dX3_become_20 : decode cX3_become 20 = .ok (.aload_n 0, 1) := by decide +kernel
theorem dX3_become_21 : decode cX3_become 21 = .ok (.aload_n 1, 1) := by decide +kernel
theorem dX3_become_22 : decode cX3_become 22 = .ok (.getfield 19, 3) := by decide +kernel
theorem dX3_become_25 : decode cX3_become 25 = .ok (.iload_n 2, 1) := by decide +kernel
theorem dX3_become_26 : decode cX3_become 26 = .ok (.baload, 1) := by decide +kernel
theorem dX3_become_27 : decode cX3_become 27 = .ok (.aload_n 1, 1) := by decide +kernel
theorem dX3_become_28 : decode cX3_become 28 = .ok (.getfield 15, 3) := by decide +kernel
theorem dX3_become_31 : decode cX3_become 31 = .ok (.iload_n 2, 1) := by decide +kernel
theorem dX3_become_32 : decode cX3_become 32 = .ok (.baload, 1) := by decide +kernel
theorem dX3_become_33 : decode cX3_become 33 = .ok (.aload_n 1, 1) := by decide +kernel
theorem dX3_become_34 : decode cX3_become 34 = .ok (.getfield 9, 3) := by decide +kernel
theorem dX3_become_37 : decode cX3_become 37 = .ok (.iload_n 2, 1) := by decide +kernel
theorem dX3_become_38 : decode cX3_become 38 = .ok (.iaload, 1) := by decide +kernel
theorem dX3_become_39 : decode cX3_become 39 = .ok (.invokevirtual 52, 3) := by decide +kernel
theorem dX3_become_42 : decode cX3_become 42 = .ok (.iinc 2 1, 3) := by decide +kernel
theorem dX3_become_45 : decode cX3_become 45 = .ok (.goto (-38), 3) := by decide +kernel
theorem dX3_become_48 : decode cX3_become 48 = .ok (.return_, 1) := by decide +kernel
theorem dX3_workOut_0 : decode cX3_workOut 0 = .ok (.aload_n 0, 1) := by decide +kernel
theorem dX3_workOut_1 : decode cX3_workOut 1 = .ok (.aload_n 1, 1) := by decide +kernel
theorem dX3_workOut_2 : decode cX3_workOut 2 = .ok (.invokevirtual 56, 3) := by decide +kernel
theorem dX3_workOut_5 : decode cX3_workOut 5 = .ok (.aload_n 0, 1) := by decide +kernel
theorem dX3_workOut_6 : decode cX3_workOut 6 = .ok (.invokevirtual 60, 3) := by decide +kernel
theorem dX3_workOut_9 : decode cX3_workOut 9 = .ok (.return_, 1) := by decide +kernel
theorem dX3_workOutReadings_0 : decode cX3_workOutReadings 0 = .ok (.aload_n 0, 1) := by decide +kernel
theorem dX3_workOutReadings_1 : decode cX3_workOutReadings 1 = .ok (.iconst 0, 1) := by decide +kernel
theorem dX3_workOutReadings_2 : decode cX3_workOutReadings 2 = .ok (.putfield 36, 3) := by decide +kernel
theorem dX3_workOutReadings_5 : decode cX3_workOutReadings 5 = .ok (.aload_n 0, 1) := by decide +kernel
theorem dX3_workOutReadings_6 : decode cX3_workOutReadings 6 = .ok (.invokevirtual 63, 3) := by decide +kernel
theorem dX3_workOutReadings_9 : decode cX3_workOutReadings 9 = .ok (.ifCond .eq 4, 3) := by decide +kernel
theorem dX3_workOutReadings_12 : decode cX3_workOutReadings 12 = .ok (.return_, 1) := by decide +kernel
theorem dX3_workOutReadings_13 : decode cX3_workOutReadings 13 = .ok (.aload_n 0, 1) := by decide +kernel
theorem dX3_workOutReadings_14 : decode cX3_workOutReadings 14 = .ok (.aload_n 1, 1) := by decide +kernel
theorem dX3_workOutReadings_15 : decode cX3_workOutReadings 15 = .ok (.invokevirtual 67, 3) := by decide +kernel
theorem dX3_workOutReadings_18 : decode cX3_workOutReadings 18 = .ok (.iconst 1, 1) := by decide +kernel
theorem dX3_workOutReadings_19 : decode cX3_workOutReadings 19 = .ok (.aload_n 0, 1) := by decide +kernel
theorem dX3_workOutReadings_20 : decode cX3_workOutReadings 20 = .ok (.invokevirtual 70, 3) := by decide +kernel
theorem dX3_workOutReadings_23 : decode cX3_workOutReadings 23 = .ok (.ishl, 1) := by decide +kernel
theorem dX3_workOutReadings_24 : decode cX3_workOutReadings 24 = .ok (.istore_n 2, 1) := by decide +kernel
theorem dX3_workOutReadings_25 : decode cX3_workOutReadings 25 = .ok (.iconst 1, 1) := by decide +kernel
theorem dX3_workOutReadings_26 : decode cX3_workOutReadings 26 = .ok (.aload_n 0, 1) := by decide +kernel
theorem dX3_workOutReadings_27 : decode cX3_workOutReadings 27 = .ok (.getfield 32, 3) := by decide +kernel
theorem dX3_workOutReadings_30 : decode cX3_workOutReadings 30 = .ok (.ishl, 1) := by decide +kernel
theorem dX3_workOutReadings_31 : decode cX3_workOutReadings 31 = .ok (.istore_n 3, 1) := by decide +kernel
theorem dX3_workOutReadings_32 : decode cX3_workOutReadings 32 = .ok (.iconst 0, 1) := by decide +kernel
theorem dX3_workOutReadings_33 : decode cX3_workOutReadings 33 = .ok (.istore 4, 2) := by decide +kernel
theorem dX3_workOutReadings_35 : decode cX3_workOutReadings 35 = .ok (.iload 4, 2) := by decide +kernel
theorem dX3_workOutReadings_37 : decode cX3_workOutReadings 37 = .ok (.aload_n 0, 1) := by decide +kernel
theorem dX3_workOutReadings_38 : decode cX3_workOutReadings 38 = .ok (.invokevirtual 74, 3) := by decide +kernel
theorem dX3_workOutReadings_41 : decode cX3_workOutReadings 41 = .ok (.if_icmp .ge 88, 3) := by decide +kernel
theorem dX3_workOutReadings_44 : decode cX3_workOutReadings 44 = .ok (.iconst 0, 1) := by decide +kernel
theorem dX3_workOutReadings_45 : decode cX3_workOutReadings 45 = .ok (.istore 5, 2) := by decide +kernel
theorem dX3_workOutReadings_47 : decode cX3_workOutReadings 47 = .ok (.iload 5, 2) := by decide +kernel
theorem dX3_workOutReadings_49 : decode cX3_workOutReadings 49 = .ok (.iload_n 2, 1) := by decide +kernel
theorem dX3_workOutReadings_50 : decode cX3_workOutReadings 50 = .ok (.if_icmp .ge 73, 3) := by decide +kernel
theorem dX3_workOutReadings_53 : decode cX3_workOutReadings 53 = .ok (.aload_n 0, 1) := by decide +kernel
theorem dX3_workOutReadings_54 : decode cX3_workOutReadings 54 = .ok (.iload 5, 2) := by decide +kernel
theorem dX3_workOutReadings_56 : decode cX3_workOutReadings 56 = .ok (.invokevirtual 77, 3) := by decide +kernel
theorem dX3_workOutReadings_59 : decode cX3_workOutReadings 59 = .ok (.istore 6, 2) := by decide +kernel
theorem dX3_workOutReadings_61 : decode cX3_workOutReadings 61 = .ok (.iconst 0, 1) := by decide +kernel
theorem dX3_workOutReadings_62 : decode cX3_workOutReadings 62 = .ok (.istore 7, 2) := by decide +kernel
theorem dX3_workOutReadings_64 : decode cX3_workOutReadings 64 = .ok (.iload 7, 2) := by decide +kernel
theorem dX3_workOutReadings_66 : decode cX3_workOutReadings 66 = .ok (.iload_n 3, 1) := by decide +kernel
theorem dX3_workOutReadings_67 : decode cX3_workOutReadings 67 = .ok (.if_icmp .ge 50, 3) := by decide +kernel
theorem dX3_workOutReadings_70 : decode cX3_workOutReadings 70 = .ok (.aload_n 0, 1) := by decide +kernel
theorem dX3_workOutReadings_71 : decode cX3_workOutReadings 71 = .ok (.getfield 36, 3) := by decide +kernel
theorem dX3_workOutReadings_74 : decode cX3_workOutReadings 74 = .ok (.aload_n 0, 1) := by decide +kernel
theorem dX3_workOutReadings_75 : decode cX3_workOutReadings 75 = .ok (.getfield 29, 3) := by decide +kernel
theorem dX3_workOutReadings_78 : decode cX3_workOutReadings 78 = .ok (.arraylength, 1) := by decide +kernel
theorem dX3_workOutReadings_79 : decode cX3_workOutReadings 79 = .ok (.if_icmp .ge 38, 3) := by decide +kernel
theorem dX3_workOutReadings_82 : decode cX3_workOutReadings 82 = .ok (.aload_n 0, 1) := by decide +kernel
theorem dX3_workOutReadings_83 : decode cX3_workOutReadings 83 = .ok (.getfield 29, 3) := by decide +kernel
theorem dX3_workOutReadings_86 : decode cX3_workOutReadings 86 = .ok (.aload_n 0, 1) := by decide +kernel
theorem dX3_workOutReadings_87 : decode cX3_workOutReadings 87 = .ok (.getfield 36, 3) := by decide +kernel
theorem dX3_workOutReadings_90 : decode cX3_workOutReadings 90 = .ok (.aload_n 0, 1) := by decide +kernel
theorem dX3_workOutReadings_91 : decode cX3_workOutReadings 91 = .ok (.iload 4, 2) := by decide +kernel
theorem dX3_workOutReadings_93 : decode cX3_workOutReadings 93 = .ok (.iload 6, 2) := by decide +kernel
theorem dX3_workOutReadings_95 : decode cX3_workOutReadings 95 = .ok (.iload 7, 2) := by decide +kernel
theorem dX3_workOutReadings_97 : decode cX3_workOutReadings 97 = .ok (.invokevirtual 80, 3) := by decide +kernel
theorem dX3_workOutReadings_100 : decode cX3_workOutReadings 100 = .ok (.lastore, 1) := by decide +kernel
theorem dX3_workOutReadings_101 : decode cX3_workOutReadings 101 = .ok (.aload_n 0, 1) := by decide +kernel
theorem dX3_workOutReadings_102 : decode cX3_workOutReadings 102 = .ok (.dup, 1) := by decide +kernel
theorem dX3_workOutReadings_103 : decode cX3_workOutReadings 103 = .ok (.getfield 36, 3) := by decide +kernel
theorem dX3_workOutReadings_106 : decode cX3_workOutReadings 106 = .ok (.iconst 1, 1) := by decide +kernel
theorem dX3_workOutReadings_107 : decode cX3_workOutReadings 107 = .ok (.iadd, 1) := by decide +kernel
theorem dX3_workOutReadings_108 : decode cX3_workOutReadings 108 = .ok (.putfield 36, 3) := by decide +kernel
theorem dX3_workOutReadings_111 : decode cX3_workOutReadings 111 = .ok (.iinc 7 1, 3) := by decide +kernel
theorem dX3_workOutReadings_114 : decode cX3_workOutReadings 114 = .ok (.goto (-50), 3) := by decide +kernel
theorem dX3_workOutReadings_117 : decode cX3_workOutReadings 117 = .ok (.iinc 5 1, 3) := by decide +kernel
theorem dX3_workOutReadings_120 : decode cX3_workOutReadings 120 = .ok (.goto (-73), 3) := by decide +kernel
theorem dX3_workOutReadings_123 : decode cX3_workOutReadings 123 = .ok (.iinc 4 1, 3) := by decide +kernel
theorem dX3_workOutReadings_126 : decode cX3_workOutReadings 126 = .ok (.goto (-91), 3) := by decide +kernel
theorem dX3_workOutReadings_129 : decode cX3_workOutReadings 129 = .ok (.return_, 1) := by decide +kernel
theorem dX3_workOutWords_0 : decode cX3_workOutWords 0 = .ok (.iconst 0, 1) := by decide +kernel
theorem dX3_workOutWords_1 : decode cX3_workOutWords 1 = .ok (.istore_n 2, 1) := by decide +kernel
theorem dX3_workOutWords_2 : decode cX3_workOutWords 2 = .ok (.iload_n 2, 1) := by decide +kernel
theorem dX3_workOutWords_3 : decode cX3_workOutWords 3 = .ok (.aload_n 0, 1) := by decide +kernel
theorem dX3_workOutWords_4 : decode cX3_workOutWords 4 = .ok (.getfield 32, 3) := by decide +kernel
theorem dX3_workOutWords_7 : decode cX3_workOutWords 7 = .ok (.if_icmp .ge 85, 3) := by decide +kernel
theorem dX3_workOutWords_10 : decode cX3_workOutWords 10 = .ok (.iload_n 2, 1) := by decide +kernel
theorem dX3_workOutWords_11 : decode cX3_workOutWords 11 = .ok (.iconst 4, 1) := by decide +kernel
theorem dX3_workOutWords_12 : decode cX3_workOutWords 12 = .ok (.if_icmp .ge 80, 3) := by decide +kernel
theorem dX3_workOutWords_15 : decode cX3_workOutWords 15 = .ok (.aload_n 0, 1) := by decide +kernel
theorem dX3_workOutWords_16 : decode cX3_workOutWords 16 = .ok (.getfield 9, 3) := by decide +kernel
theorem dX3_workOutWords_19 : decode cX3_workOutWords 19 = .ok (.iload_n 2, 1) := by decide +kernel
theorem dX3_workOutWords_20 : decode cX3_workOutWords 20 = .ok (.iaload, 1) := by decide +kernel
theorem dX3_workOutWords_21 : decode cX3_workOutWords 21 = .ok (.istore_n 3, 1) := by decide +kernel
theorem dX3_workOutWords_22 : decode cX3_workOutWords 22 = .ok (.iload_n 3, 1) := by decide +kernel
theorem dX3_workOutWords_23 : decode cX3_workOutWords 23 = .ok (.ifCond .lt 15, 3) := by decide +kernel
theorem dX3_workOutWords_26 : decode cX3_workOutWords 26 = .ok (.iload_n 3, 1) := by decide +kernel
theorem dX3_workOutWords_27 : decode cX3_workOutWords 27 = .ok (.aload_n 1, 1) := by decide +kernel
theorem dX3_workOutWords_28 : decode cX3_workOutWords 28 = .ok (.arraylength, 1) := by decide +kernel
theorem dX3_workOutWords_29 : decode cX3_workOutWords 29 = .ok (.if_icmp .ge 9, 3) := by decide +kernel
theorem dX3_workOutWords_32 : decode cX3_workOutWords 32 = .ok (.aload_n 1, 1) := by decide +kernel
theorem dX3_workOutWords_33 : decode cX3_workOutWords 33 = .ok (.iload_n 3, 1) := by decide +kernel
theorem dX3_workOutWords_34 : decode cX3_workOutWords 34 = .ok (.iaload, 1) := by decide +kernel
theorem dX3_workOutWords_35 : decode cX3_workOutWords 35 = .ok (.goto 4, 3) := by decide +kernel
theorem dX3_workOutWords_38 : decode cX3_workOutWords 38 = .ok (.iload_n 3, 1) := by decide +kernel
theorem dX3_workOutWords_39 : decode cX3_workOutWords 39 = .ok (.istore 4, 2) := by decide +kernel
theorem dX3_workOutWords_41 : decode cX3_workOutWords 41 = .ok (.aload_n 0, 1) := by decide +kernel
theorem dX3_workOutWords_42 : decode cX3_workOutWords 42 = .ok (.getfield 15, 3) := by decide +kernel
theorem dX3_workOutWords_45 : decode cX3_workOutWords 45 = .ok (.iload_n 2, 1) := by decide +kernel
theorem dX3_workOutWords_46 : decode cX3_workOutWords 46 = .ok (.baload, 1) := by decide +kernel
theorem dX3_workOutWords_47 : decode cX3_workOutWords 47 = .ok (.ifCond .eq 9, 3) := by decide +kernel
theorem dX3_workOutWords_50 : decode cX3_workOutWords 50 = .ok (.ldc2_w 84, 3) := by decide +kernel
theorem dX3_workOutWords_53 : decode cX3_workOutWords 53 = .ok (.goto 4, 3) := by decide +kernel
theorem dX3_workOutWords_56 : decode cX3_workOutWords 56 = .ok (.lconst 0, 1) := by decide +kernel
theorem dX3_workOutWords_57 : decode cX3_workOutWords 57 = .ok (.lstore 5, 2) := by decide +kernel
theorem dX3_workOutWords_59 : decode cX3_workOutWords 59 = .ok (.aload_n 0, 1) := by decide +kernel
theorem dX3_workOutWords_60 : decode cX3_workOutWords 60 = .ok (.getfield 22, 3) := by decide +kernel
theorem dX3_workOutWords_63 : decode cX3_workOutWords 63 = .ok (.iload_n 2, 1) := by decide +kernel
theorem dX3_workOutWords_64 : decode cX3_workOutWords 64 = .ok (.iload_n 3, 1) := by decide +kernel
theorem dX3_workOutWords_65 : decode cX3_workOutWords 65 = .ok (.invokestatic 86, 3) := by decide +kernel
theorem dX3_workOutWords_68 : decode cX3_workOutWords 68 = .ok (.lload 5, 2) := by decide +kernel
theorem dX3_workOutWords_70 : decode cX3_workOutWords 70 = .ok (.lxor, 1) := by decide +kernel
theorem dX3_workOutWords_71 : decode cX3_workOutWords 71 = .ok (.lastore, 1) := by decide +kernel
theorem dX3_workOutWords_72 : decode cX3_workOutWords 72 = .ok (.aload_n 0, 1) := by decide +kernel
theorem dX3_workOutWords_73 : decode cX3_workOutWords 73 = .ok (.getfield 26, 3) := by decide +kernel
theorem dX3_workOutWords_76 : decode cX3_workOutWords 76 = .ok (.iload_n 2, 1) := by decide +kernel
theorem dX3_workOutWords_77 : decode cX3_workOutWords 77 = .ok (.iload 4, 2) := by decide +kernel
theorem dX3_workOutWords_79 : decode cX3_workOutWords 79 = .ok (.invokestatic 86, 3) := by decide +kernel
theorem dX3_workOutWords_82 : decode cX3_workOutWords 82 = .ok (.lload 5, 2) := by decide +kernel
theorem dX3_workOutWords_84 : decode cX3_workOutWords 84 = .ok (.lxor, 1) := by decide +kernel
theorem dX3_workOutWords_85 : decode cX3_workOutWords 85 = .ok (.lastore, 1) := by decide +kernel
theorem dX3_workOutWords_86 : decode cX3_workOutWords 86 = .ok (.iinc 2 1, 3) := by decide +kernel
theorem dX3_workOutWords_89 : decode cX3_workOutWords 89 = .ok (.goto (-87), 3) := by decide +kernel
theorem dX3_workOutWords_92 : decode cX3_workOutWords 92 = .ok (.return_, 1) := by decide +kernel
theorem dX3_countPluses_0 : decode cX3_countPluses 0 = .ok (.iconst 0, 1) := by decide +kernel
theorem dX3_countPluses_1 : decode cX3_countPluses 1 = .ok (.istore_n 1, 1) := by decide +kernel
theorem dX3_countPluses_2 : decode cX3_countPluses 2 = .ok (.iconst 1, 1) := by decide +kernel
theorem dX3_countPluses_3 : decode cX3_countPluses 3 = .ok (.istore_n 2, 1) := by decide +kernel
theorem dX3_countPluses_4 : decode cX3_countPluses 4 = .ok (.iload_n 2, 1) := by decide +kernel
theorem dX3_countPluses_5 : decode cX3_countPluses 5 = .ok (.aload_n 0, 1) := by decide +kernel
theorem dX3_countPluses_6 : decode cX3_countPluses 6 = .ok (.getfield 32, 3) := by decide +kernel
theorem dX3_countPluses_9 : decode cX3_countPluses 9 = .ok (.if_icmp .ge 31, 3) := by decide +kernel
theorem dX3_countPluses_12 : decode cX3_countPluses 12 = .ok (.iload_n 2, 1) := by decide +kernel
theorem dX3_countPluses_13 : decode cX3_countPluses 13 = .ok (.iconst 4, 1) := by decide +kernel
theorem dX3_countPluses_14 : decode cX3_countPluses 14 = .ok (.if_icmp .ge 26, 3) := by decide +kernel
theorem dX3_countPluses_17 : decode cX3_countPluses 17 = .ok (.iload_n 1, 1) := by decide +kernel
theorem dX3_countPluses_18 : decode cX3_countPluses 18 = .ok (.aload_n 0, 1) := by decide +kernel
theorem dX3_countPluses_19 : decode cX3_countPluses 19 = .ok (.getfield 19, 3) := by decide +kernel
theorem dX3_countPluses_22 : decode cX3_countPluses 22 = .ok (.iload_n 2, 1) := by decide +kernel
theorem dX3_countPluses_23 : decode cX3_countPluses 23 = .ok (.baload, 1) := by decide +kernel
theorem dX3_countPluses_24 : decode cX3_countPluses 24 = .ok (.ifCond .eq 7, 3) := by decide +kernel
theorem dX3_countPluses_27 : decode cX3_countPluses 27 = .ok (.iconst 1, 1) := by decide +kernel
theorem dX3_countPluses_28 : decode cX3_countPluses 28 = .ok (.goto 4, 3) := by decide +kernel
theorem dX3_countPluses_31 : decode cX3_countPluses 31 = .ok (.iconst 0, 1) := by decide +kernel
theorem dX3_countPluses_32 : decode cX3_countPluses 32 = .ok (.iadd, 1) := by decide +kernel
theorem dX3_countPluses_33 : decode cX3_countPluses 33 = .ok (.istore_n 1, 1) := by decide +kernel
theorem dX3_countPluses_34 : decode cX3_countPluses 34 = .ok (.iinc 2 1, 3) := by decide +kernel
theorem dX3_countPluses_37 : decode cX3_countPluses 37 = .ok (.goto (-33), 3) := by decide +kernel
theorem dX3_countPluses_40 : decode cX3_countPluses 40 = .ok (.iload_n 1, 1) := by decide +kernel
theorem dX3_countPluses_41 : decode cX3_countPluses 41 = .ok (.ireturn, 1) := by decide +kernel
theorem dX3_bracketings_0 : decode cX3_bracketings 0 = .ok (.aload_n 0, 1) := by decide +kernel
theorem dX3_bracketings_1 : decode cX3_bracketings 1 = .ok (.getfield 32, 3) := by decide +kernel
theorem dX3_bracketings_4 : decode cX3_bracketings 4 = .ok (.iconst 4, 1) := by decide +kernel
theorem dX3_bracketings_5 : decode cX3_bracketings 5 = .ok (.if_icmp .ne 7, 3) := by decide +kernel
theorem dX3_bracketings_8 : decode cX3_bracketings 8 = .ok (.iconst 5, 1) := by decide +kernel
theorem dX3_bracketings_9 : decode cX3_bracketings 9 = .ok (.goto 16, 3) := by decide +kernel
theorem dX3_bracketings_12 : decode cX3_bracketings 12 = .ok (.aload_n 0, 1) := by decide +kernel
theorem dX3_bracketings_13 : decode cX3_bracketings 13 = .ok (.getfield 32, 3) := by decide +kernel
theorem dX3_bracketings_16 : decode cX3_bracketings 16 = .ok (.iconst 3, 1) := by decide +kernel
theorem dX3_bracketings_17 : decode cX3_bracketings 17 = .ok (.if_icmp .ne 7, 3) := by decide +kernel
theorem dX3_bracketings_20 : decode cX3_bracketings 20 = .ok (.iconst 2, 1) := by decide +kernel
theorem dX3_bracketings_21 : decode cX3_bracketings 21 = .ok (.goto 4, 3) := by decide +kernel
theorem dX3_bracketings_24 : decode cX3_bracketings 24 = .ok (.iconst 1, 1) := by decide +kernel
theorem dX3_bracketings_25 : decode cX3_bracketings 25 = .ok (.ireturn, 1) := by decide +kernel
theorem dX3_joiningsThatAreOr_0 : decode cX3_joiningsThatAreOr 0 = .ok (.iconst 0, 1) := by decide +kernel
theorem dX3_joiningsThatAreOr_1 : decode cX3_joiningsThatAreOr 1 = .ok (.istore_n 2, 1) := by decide +kernel
theorem dX3_joiningsThatAreOr_2 : decode cX3_joiningsThatAreOr 2 = .ok (.iconst 0, 1) := by decide +kernel
theorem dX3_joiningsThatAreOr_3 : decode cX3_joiningsThatAreOr 3 = .ok (.istore_n 3, 1) := by decide +kernel
theorem dX3_joiningsThatAreOr_4 : decode cX3_joiningsThatAreOr 4 = .ok (.iconst 1, 1) := by decide +kernel
theorem dX3_joiningsThatAreOr_5 : decode cX3_joiningsThatAreOr 5 = .ok (.istore 4, 2) := by decide +kernel
theorem dX3_joiningsThatAreOr_7 : decode cX3_joiningsThatAreOr 7 = .ok (.iload 4, 2) := by decide +kernel
theorem dX3_joiningsThatAreOr_9 : decode cX3_joiningsThatAreOr 9 = .ok (.aload_n 0, 1) := by decide +kernel
theorem dX3_joiningsThatAreOr_10 : decode cX3_joiningsThatAreOr 10 = .ok (.getfield 32, 3) := by decide +kernel
theorem dX3_joiningsThatAreOr_13 : decode cX3_joiningsThatAreOr 13 = .ok (.if_icmp .ge 42, 3) := by decide +kernel
theorem dX3_joiningsThatAreOr_16 : decode cX3_joiningsThatAreOr 16 = .ok (.iload 4, 2) := by decide +kernel
theorem dX3_joiningsThatAreOr_18 : decode cX3_joiningsThatAreOr 18 = .ok (.iconst 4, 1) := by decide +kernel
theorem dX3_joiningsThatAreOr_19 : decode cX3_joiningsThatAreOr 19 = .ok (.if_icmp .ge 36, 3) := by decide +kernel
theorem dX3_joiningsThatAreOr_22 : decode cX3_joiningsThatAreOr 22 = .ok (.aload_n 0, 1) := by decide +kernel
theorem dX3_joiningsThatAreOr_23 : decode cX3_joiningsThatAreOr 23 = .ok (.getfield 19, 3) := by decide +kernel
theorem dX3_joiningsThatAreOr_26 : decode cX3_joiningsThatAreOr 26 = .ok (.iload 4, 2) := by decide +kernel
theorem dX3_joiningsThatAreOr_28 : decode cX3_joiningsThatAreOr 28 = .ok (.baload, 1) := by decide +kernel
theorem dX3_joiningsThatAreOr_29 : decode cX3_joiningsThatAreOr 29 = .ok (.ifCond .eq 20, 3) := by decide +kernel
theorem dX3_joiningsThatAreOr_32 : decode cX3_joiningsThatAreOr 32 = .ok (.iload_n 2, 1) := by decide +kernel
theorem dX3_joiningsThatAreOr_33 : decode cX3_joiningsThatAreOr 33 = .ok (.iload_n 1, 1) := by decide +kernel
theorem dX3_joiningsThatAreOr_34 : decode cX3_joiningsThatAreOr 34 = .ok (.i2l, 1) := by decide +kernel
theorem dX3_joiningsThatAreOr_35 : decode cX3_joiningsThatAreOr 35 = .ok (.iload_n 3, 1) := by decide +kernel
theorem dX3_joiningsThatAreOr_36 : decode cX3_joiningsThatAreOr 36 = .ok (.invokestatic 90, 3) := by decide +kernel
theorem dX3_joiningsThatAreOr_39 : decode cX3_joiningsThatAreOr 39 = .ok (.iload 4, 2) := by decide +kernel
theorem dX3_joiningsThatAreOr_41 : decode cX3_joiningsThatAreOr 41 = .ok (.iconst 1, 1) := by decide +kernel
theorem dX3_joiningsThatAreOr_42 : decode cX3_joiningsThatAreOr 42 = .ok (.isub, 1) := by decide +kernel
theorem dX3_joiningsThatAreOr_43 : decode cX3_joiningsThatAreOr 43 = .ok (.ishl, 1) := by decide +kernel
theorem dX3_joiningsThatAreOr_44 : decode cX3_joiningsThatAreOr 44 = .ok (.ior, 1) := by decide +kernel
theorem dX3_joiningsThatAreOr_45 : decode cX3_joiningsThatAreOr 45 = .ok (.istore_n 2, 1) := by decide +kernel
theorem dX3_joiningsThatAreOr_46 : decode cX3_joiningsThatAreOr 46 = .ok (.iinc 3 1, 3) := by decide +kernel
theorem dX3_joiningsThatAreOr_49 : decode cX3_joiningsThatAreOr 49 = .ok (.iinc 4 1, 3) := by decide +kernel
theorem dX3_joiningsThatAreOr_52 : decode cX3_joiningsThatAreOr 52 = .ok (.goto (-45), 3) := by decide +kernel
theorem dX3_joiningsThatAreOr_55 : decode cX3_joiningsThatAreOr 55 = .ok (.iload_n 2, 1) := by decide +kernel
theorem dX3_joiningsThatAreOr_56 : decode cX3_joiningsThatAreOr 56 = .ok (.ireturn, 1) := by decide +kernel
theorem dX3_truthOf_0 : decode cX3_truthOf 0 = .ok (.aload_n 0, 1) := by decide +kernel
theorem dX3_truthOf_1 : decode cX3_truthOf 1 = .ok (.getfield 32, 3) := by decide +kernel
theorem dX3_truthOf_4 : decode cX3_truthOf 4 = .ok (.tableswitch 61 1 3 #[28, 35, 53], 28) := by decide +kernel
theorem dX3_truthOf_32 : decode cX3_truthOf 32 = .ok (.aload_n 0, 1) := by decide +kernel
theorem dX3_truthOf_33 : decode cX3_truthOf 33 = .ok (.iconst 0, 1) := by decide +kernel
theorem dX3_truthOf_34 : decode cX3_truthOf 34 = .ok (.iload_n 3, 1) := by decide +kernel
theorem dX3_truthOf_35 : decode cX3_truthOf 35 = .ok (.invokevirtual 94, 3) := by decide +kernel
theorem dX3_truthOf_38 : decode cX3_truthOf 38 = .ok (.lreturn, 1) := by decide +kernel
theorem dX3_truthOf_39 : decode cX3_truthOf 39 = .ok (.iload_n 2, 1) := by decide +kernel
theorem dX3_truthOf_40 : decode cX3_truthOf 40 = .ok (.iconst 0, 1) := by decide +kernel
theorem dX3_truthOf_41 : decode cX3_truthOf 41 = .ok (.aload_n 0, 1) := by decide +kernel
theorem dX3_truthOf_42 : decode cX3_truthOf 42 = .ok (.iconst 0, 1) := by decide +kernel
theorem dX3_truthOf_43 : decode cX3_truthOf 43 = .ok (.iload_n 3, 1) := by decide +kernel
theorem dX3_truthOf_44 : decode cX3_truthOf 44 = .ok (.invokevirtual 94, 3) := by decide +kernel
theorem dX3_truthOf_47 : decode cX3_truthOf 47 = .ok (.aload_n 0, 1) := by decide +kernel
theorem dX3_truthOf_48 : decode cX3_truthOf 48 = .ok (.iconst 1, 1) := by decide +kernel
theorem dX3_truthOf_49 : decode cX3_truthOf 49 = .ok (.iload_n 3, 1) := by decide +kernel
theorem dX3_truthOf_50 : decode cX3_truthOf 50 = .ok (.invokevirtual 94, 3) := by decide +kernel
theorem dX3_truthOf_53 : decode cX3_truthOf 53 = .ok (.invokestatic 98, 3) := by decide +kernel
theorem dX3_truthOf_56 : decode cX3_truthOf 56 = .ok (.lreturn, 1) := by decide +kernel
theorem dX3_truthOf_57 : decode cX3_truthOf 57 = .ok (.aload_n 0, 1) := by decide +kernel
theorem dX3_truthOf_58 : decode cX3_truthOf 58 = .ok (.iload_n 1, 1) := by decide +kernel
theorem dX3_truthOf_59 : decode cX3_truthOf 59 = .ok (.iload_n 2, 1) := by decide +kernel
theorem dX3_truthOf_60 : decode cX3_truthOf 60 = .ok (.iload_n 3, 1) := by decide +kernel
theorem dX3_truthOf_61 : decode cX3_truthOf 61 = .ok (.invokevirtual 102, 3) := by decide +kernel
theorem dX3_truthOf_64 : decode cX3_truthOf 64 = .ok (.lreturn, 1) := by decide +kernel
theorem dX3_truthOf_65 : decode cX3_truthOf 65 = .ok (.aload_n 0, 1) := by decide +kernel
theorem dX3_truthOf_66 : decode cX3_truthOf 66 = .ok (.iload_n 1, 1) := by decide +kernel
theorem dX3_truthOf_67 : decode cX3_truthOf 67 = .ok (.iload_n 2, 1) := by decide +kernel
theorem dX3_truthOf_68 : decode cX3_truthOf 68 = .ok (.iload_n 3, 1) := by decide +kernel
theorem dX3_truthOf_69 : decode cX3_truthOf 69 = .ok (.invokevirtual 105, 3) := by decide +kernel
theorem dX3_truthOf_72 : decode cX3_truthOf 72 = .ok (.lreturn, 1) := by decide +kernel
theorem dX3_truthOfThree_0 : decode cX3_truthOfThree 0 = .ok (.aload_n 0, 1) := by decide +kernel
theorem dX3_truthOfThree_1 : decode cX3_truthOfThree 1 = .ok (.iconst 0, 1) := by decide +kernel
theorem dX3_truthOfThree_2 : decode cX3_truthOfThree 2 = .ok (.iload_n 3, 1) := by decide +kernel
theorem dX3_truthOfThree_3 : decode cX3_truthOfThree 3 = .ok (.invokevirtual 94, 3) := by decide +kernel
theorem dX3_truthOfThree_6 : decode cX3_truthOfThree 6 = .ok (.lstore 4, 2) := by decide +kernel
theorem dX3_truthOfThree_8 : decode cX3_truthOfThree 8 = .ok (.aload_n 0, 1) := by decide +kernel
theorem dX3_truthOfThree_9 : decode cX3_truthOfThree 9 = .ok (.iconst 1, 1) := by decide +kernel
theorem dX3_truthOfThree_10 : decode cX3_truthOfThree 10 = .ok (.iload_n 3, 1) := by decide +kernel
theorem dX3_truthOfThree_11 : decode cX3_truthOfThree 11 = .ok (.invokevirtual 94, 3) := by decide +kernel
theorem dX3_truthOfThree_14 : decode cX3_truthOfThree 14 = .ok (.lstore 6, 2) := by decide +kernel
theorem dX3_truthOfThree_16 : decode cX3_truthOfThree 16 = .ok (.aload_n 0, 1) := by decide +kernel
theorem dX3_truthOfThree_17 : decode cX3_truthOfThree 17 = .ok (.iconst 2, 1) := by decide +kernel
theorem dX3_truthOfThree_18 : decode cX3_truthOfThree 18 = .ok (.iload_n 3, 1) := by decide +kernel
theorem dX3_truthOfThree_19 : decode cX3_truthOfThree 19 = .ok (.invokevirtual 94, 3) := by decide +kernel
theorem dX3_truthOfThree_22 : decode cX3_truthOfThree 22 = .ok (.lstore 8, 2) := by decide +kernel
theorem dX3_truthOfThree_24 : decode cX3_truthOfThree 24 = .ok (.iload_n 1, 1) := by decide +kernel
theorem dX3_truthOfThree_25 : decode cX3_truthOfThree 25 = .ok (.ifCond .ne 20, 3) := by decide +kernel
theorem dX3_truthOfThree_28 : decode cX3_truthOfThree 28 = .ok (.iload_n 2, 1) := by decide +kernel
theorem dX3_truthOfThree_29 : decode cX3_truthOfThree 29 = .ok (.iconst 1, 1) := by decide +kernel
theorem dX3_truthOfThree_30 : decode cX3_truthOfThree 30 = .ok (.iload_n 2, 1) := by decide +kernel
theorem dX3_truthOfThree_31 : decode cX3_truthOfThree 31 = .ok (.iconst 0, 1) := by decide +kernel
theorem dX3_truthOfThree_32 : decode cX3_truthOfThree 32 = .ok (.lload 4, 2) := by decide +kernel
theorem dX3_truthOfThree_34 : decode cX3_truthOfThree 34 = .ok (.lload 6, 2) := by decide +kernel
theorem dX3_truthOfThree_36 : decode cX3_truthOfThree 36 = .ok (.invokestatic 98, 3) := by decide +kernel
theorem dX3_truthOfThree_39 : decode cX3_truthOfThree 39 = .ok (.lload 8, 2) := by decide +kernel
theorem dX3_truthOfThree_41 : decode cX3_truthOfThree 41 = .ok (.invokestatic 98, 3) := by decide +kernel
theorem dX3_truthOfThree_44 : decode cX3_truthOfThree 44 = .ok (.lreturn, 1) := by decide +kernel
theorem dX3_truthOfThree_45 : decode cX3_truthOfThree 45 = .ok (.iload_n 2, 1) := by decide +kernel
theorem dX3_truthOfThree_46 : decode cX3_truthOfThree 46 = .ok (.iconst 0, 1) := by decide +kernel
theorem dX3_truthOfThree_47 : decode cX3_truthOfThree 47 = .ok (.lload 4, 2) := by decide +kernel
theorem dX3_truthOfThree_49 : decode cX3_truthOfThree 49 = .ok (.iload_n 2, 1) := by decide +kernel
theorem dX3_truthOfThree_50 : decode cX3_truthOfThree 50 = .ok (.iconst 1, 1) := by decide +kernel
theorem dX3_truthOfThree_51 : decode cX3_truthOfThree 51 = .ok (.lload 6, 2) := by decide +kernel
theorem dX3_truthOfThree_53 : decode cX3_truthOfThree 53 = .ok (.lload 8, 2) := by decide +kernel
theorem dX3_truthOfThree_55 : decode cX3_truthOfThree 55 = .ok (.invokestatic 98, 3) := by decide +kernel
theorem dX3_truthOfThree_58 : decode cX3_truthOfThree 58 = .ok (.invokestatic 98, 3) := by decide +kernel
theorem dX3_truthOfThree_61 : decode cX3_truthOfThree 61 = .ok (.lreturn, 1) := by decide +kernel
theorem dX3_truthOfFour_0 : decode cX3_truthOfFour 0 = .ok (.aload_n 0, 1) := by decide +kernel
theorem dX3_truthOfFour_1 : decode cX3_truthOfFour 1 = .ok (.iconst 0, 1) := by decide +kernel
theorem dX3_truthOfFour_2 : decode cX3_truthOfFour 2 = .ok (.iload_n 3, 1) := by decide +kernel
theorem dX3_truthOfFour_3 : decode cX3_truthOfFour 3 = .ok (.invokevirtual 94, 3) := by decide +kernel
theorem dX3_truthOfFour_6 : decode cX3_truthOfFour 6 = .ok (.lstore 4, 2) := by decide +kernel
theorem dX3_truthOfFour_8 : decode cX3_truthOfFour 8 = .ok (.aload_n 0, 1) := by decide +kernel
theorem dX3_truthOfFour_9 : decode cX3_truthOfFour 9 = .ok (.iconst 1, 1) := by decide +kernel
theorem dX3_truthOfFour_10 : decode cX3_truthOfFour 10 = .ok (.iload_n 3, 1) := by decide +kernel
theorem dX3_truthOfFour_11 : decode cX3_truthOfFour 11 = .ok (.invokevirtual 94, 3) := by decide +kernel
theorem dX3_truthOfFour_14 : decode cX3_truthOfFour 14 = .ok (.lstore 6, 2) := by decide +kernel
theorem dX3_truthOfFour_16 : decode cX3_truthOfFour 16 = .ok (.aload_n 0, 1) := by decide +kernel
theorem dX3_truthOfFour_17 : decode cX3_truthOfFour 17 = .ok (.iconst 2, 1) := by decide +kernel
theorem dX3_truthOfFour_18 : decode cX3_truthOfFour 18 = .ok (.iload_n 3, 1) := by decide +kernel
theorem dX3_truthOfFour_19 : decode cX3_truthOfFour 19 = .ok (.invokevirtual 94, 3) := by decide +kernel
theorem dX3_truthOfFour_22 : decode cX3_truthOfFour 22 = .ok (.lstore 8, 2) := by decide +kernel
theorem dX3_truthOfFour_24 : decode cX3_truthOfFour 24 = .ok (.aload_n 0, 1) := by decide +kernel
theorem dX3_truthOfFour_25 : decode cX3_truthOfFour 25 = .ok (.iconst 3, 1) := by decide +kernel
theorem dX3_truthOfFour_26 : decode cX3_truthOfFour 26 = .ok (.iload_n 3, 1) := by decide +kernel
theorem dX3_truthOfFour_27 : decode cX3_truthOfFour 27 = .ok (.invokevirtual 94, 3) := by decide +kernel
theorem dX3_truthOfFour_30 : decode cX3_truthOfFour 30 = .ok (.lstore 10, 2) := by decide +kernel
theorem dX3_truthOfFour_32 : decode cX3_truthOfFour 32 = .ok (.iload_n 1, 1) := by decide +kernel
theorem dX3_truthOfFour_33 : decode cX3_truthOfFour 33 = .ok (.tableswitch 127 0 3 #[31, 55, 79, 103], 31) := by decide +kernel
theorem dX3_truthOfFour_64 : decode cX3_truthOfFour 64 = .ok (.iload_n 2, 1) := by decide +kernel
theorem dX3_truthOfFour_65 : decode cX3_truthOfFour 65 = .ok (.iconst 2, 1) := by decide +kernel
theorem dX3_truthOfFour_66 : decode cX3_truthOfFour 66 = .ok (.iload_n 2, 1) := by decide +kernel
theorem dX3_truthOfFour_67 : decode cX3_truthOfFour 67 = .ok (.iconst 1, 1) := by decide +kernel
theorem dX3_truthOfFour_68 : decode cX3_truthOfFour 68 = .ok (.iload_n 2, 1) := by decide +kernel
theorem dX3_truthOfFour_69 : decode cX3_truthOfFour 69 = .ok (.iconst 0, 1) := by decide +kernel
theorem dX3_truthOfFour_70 : decode cX3_truthOfFour 70 = .ok (.lload 4, 2) := by decide +kernel
theorem dX3_truthOfFour_72 : decode cX3_truthOfFour 72 = .ok (.lload 6, 2) := by decide +kernel
theorem dX3_truthOfFour_74 : decode cX3_truthOfFour 74 = .ok (.invokestatic 98, 3) := by decide +kernel
theorem dX3_truthOfFour_77 : decode cX3_truthOfFour 77 = .ok (.lload 8, 2) := by decide +kernel
theorem dX3_truthOfFour_79 : decode cX3_truthOfFour 79 = .ok (.invokestatic 98, 3) := by decide +kernel
theorem dX3_truthOfFour_82 : decode cX3_truthOfFour 82 = .ok (.lload 10, 2) := by decide +kernel
theorem dX3_truthOfFour_84 : decode cX3_truthOfFour 84 = .ok (.invokestatic 98, 3) := by decide +kernel
theorem dX3_truthOfFour_87 : decode cX3_truthOfFour 87 = .ok (.lreturn, 1) := by decide +kernel
theorem dX3_truthOfFour_88 : decode cX3_truthOfFour 88 = .ok (.iload_n 2, 1) := by decide +kernel
theorem dX3_truthOfFour_89 : decode cX3_truthOfFour 89 = .ok (.iconst 2, 1) := by decide +kernel
theorem dX3_truthOfFour_90 : decode cX3_truthOfFour 90 = .ok (.iload_n 2, 1) := by decide +kernel
theorem dX3_truthOfFour_91 : decode cX3_truthOfFour 91 = .ok (.iconst 0, 1) := by decide +kernel
theorem dX3_truthOfFour_92 : decode cX3_truthOfFour 92 = .ok (.lload 4, 2) := by decide +kernel
theorem dX3_truthOfFour_94 : decode cX3_truthOfFour 94 = .ok (.iload_n 2, 1) := by decide +kernel
theorem dX3_truthOfFour_95 : decode cX3_truthOfFour 95 = .ok (.iconst 1, 1) := by decide +kernel
theorem dX3_truthOfFour_96 : decode cX3_truthOfFour 96 = .ok (.lload 6, 2) := by decide +kernel
theorem dX3_truthOfFour_98 : decode cX3_truthOfFour 98 = .ok (.lload 8, 2) := by decide +kernel
theorem dX3_truthOfFour_100 : decode cX3_truthOfFour 100 = .ok (.invokestatic 98, 3) := by decide +kernel
theorem dX3_truthOfFour_103 : decode cX3_truthOfFour 103 = .ok (.invokestatic 98, 3) := by decide +kernel
theorem dX3_truthOfFour_106 : decode cX3_truthOfFour 106 = .ok (.lload 10, 2) := by decide +kernel
theorem dX3_truthOfFour_108 : decode cX3_truthOfFour 108 = .ok (.invokestatic 98, 3) := by decide +kernel
theorem dX3_truthOfFour_111 : decode cX3_truthOfFour 111 = .ok (.lreturn, 1) := by decide +kernel
theorem dX3_truthOfFour_112 : decode cX3_truthOfFour 112 = .ok (.iload_n 2, 1) := by decide +kernel
theorem dX3_truthOfFour_113 : decode cX3_truthOfFour 113 = .ok (.iconst 1, 1) := by decide +kernel
theorem dX3_truthOfFour_114 : decode cX3_truthOfFour 114 = .ok (.iload_n 2, 1) := by decide +kernel
theorem dX3_truthOfFour_115 : decode cX3_truthOfFour 115 = .ok (.iconst 0, 1) := by decide +kernel
theorem dX3_truthOfFour_116 : decode cX3_truthOfFour 116 = .ok (.lload 4, 2) := by decide +kernel
theorem dX3_truthOfFour_118 : decode cX3_truthOfFour 118 = .ok (.lload 6, 2) := by decide +kernel
theorem dX3_truthOfFour_120 : decode cX3_truthOfFour 120 = .ok (.invokestatic 98, 3) := by decide +kernel
theorem dX3_truthOfFour_123 : decode cX3_truthOfFour 123 = .ok (.iload_n 2, 1) := by decide +kernel
theorem dX3_truthOfFour_124 : decode cX3_truthOfFour 124 = .ok (.iconst 2, 1) := by decide +kernel
theorem dX3_truthOfFour_125 : decode cX3_truthOfFour 125 = .ok (.lload 8, 2) := by decide +kernel
theorem dX3_truthOfFour_127 : decode cX3_truthOfFour 127 = .ok (.lload 10, 2) := by decide +kernel
theorem dX3_truthOfFour_129 : decode cX3_truthOfFour 129 = .ok (.invokestatic 98, 3) := by decide +kernel
theorem dX3_truthOfFour_132 : decode cX3_truthOfFour 132 = .ok (.invokestatic 98, 3) := by decide +kernel
theorem dX3_truthOfFour_135 : decode cX3_truthOfFour 135 = .ok (.lreturn, 1) := by decide +kernel
theorem dX3_truthOfFour_136 : decode cX3_truthOfFour 136 = .ok (.iload_n 2, 1) := by decide +kernel
theorem dX3_truthOfFour_137 : decode cX3_truthOfFour 137 = .ok (.iconst 0, 1) := by decide +kernel
theorem dX3_truthOfFour_138 : decode cX3_truthOfFour 138 = .ok (.lload 4, 2) := by decide +kernel
theorem dX3_truthOfFour_140 : decode cX3_truthOfFour 140 = .ok (.iload_n 2, 1) := by decide +kernel
theorem dX3_truthOfFour_141 : decode cX3_truthOfFour 141 = .ok (.iconst 2, 1) := by decide +kernel
theorem dX3_truthOfFour_142 : decode cX3_truthOfFour 142 = .ok (.iload_n 2, 1) := by decide +kernel
theorem dX3_truthOfFour_143 : decode cX3_truthOfFour 143 = .ok (.iconst 1, 1) := by decide +kernel
theorem dX3_truthOfFour_144 : decode cX3_truthOfFour 144 = .ok (.lload 6, 2) := by decide +kernel
theorem dX3_truthOfFour_146 : decode cX3_truthOfFour 146 = .ok (.lload 8, 2) := by decide +kernel
theorem dX3_truthOfFour_148 : decode cX3_truthOfFour 148 = .ok (.invokestatic 98, 3) := by decide +kernel
theorem dX3_truthOfFour_151 : decode cX3_truthOfFour 151 = .ok (.lload 10, 2) := by decide +kernel
theorem dX3_truthOfFour_153 : decode cX3_truthOfFour 153 = .ok (.invokestatic 98, 3) := by decide +kernel
theorem dX3_truthOfFour_156 : decode cX3_truthOfFour 156 = .ok (.invokestatic 98, 3) := by decide +kernel
theorem dX3_truthOfFour_159 : decode cX3_truthOfFour 159 = .ok (.lreturn, 1) := by decide +kernel
theorem dX3_truthOfFour_160 : decode cX3_truthOfFour 160 = .ok (.iload_n 2, 1) := by decide +kernel
theorem dX3_truthOfFour_161 : decode cX3_truthOfFour 161 = .ok (.iconst 0, 1) := by decide +kernel
theorem dX3_truthOfFour_162 : decode cX3_truthOfFour 162 = .ok (.lload 4, 2) := by decide +kernel
theorem dX3_truthOfFour_164 : decode cX3_truthOfFour 164 = .ok (.iload_n 2, 1) := by decide +kernel
theorem dX3_truthOfFour_165 : decode cX3_truthOfFour 165 = .ok (.iconst 1, 1) := by decide +kernel
theorem dX3_truthOfFour_166 : decode cX3_truthOfFour 166 = .ok (.lload 6, 2) := by decide +kernel
theorem dX3_truthOfFour_168 : decode cX3_truthOfFour 168 = .ok (.iload_n 2, 1) := by decide +kernel
theorem dX3_truthOfFour_169 : decode cX3_truthOfFour 169 = .ok (.iconst 2, 1) := by decide +kernel
theorem dX3_truthOfFour_170 : decode cX3_truthOfFour 170 = .ok (.lload 8, 2) := by decide +kernel
theorem dX3_truthOfFour_172 : decode cX3_truthOfFour 172 = .ok (.lload 10, 2) := by decide +kernel
theorem dX3_truthOfFour_174 : decode cX3_truthOfFour 174 = .ok (.invokestatic 98, 3) := by decide +kernel
theorem dX3_truthOfFour_177 : decode cX3_truthOfFour 177 = .ok (.invokestatic 98, 3) := by decide +kernel
theorem dX3_truthOfFour_180 : decode cX3_truthOfFour 180 = .ok (.invokestatic 98, 3) := by decide +kernel
theorem dX3_truthOfFour_183 : decode cX3_truthOfFour 183 = .ok (.lreturn, 1) := by decide +kernel
theorem dX3_wordTruth_0 : decode cX3_wordTruth 0 = .ok (.iload_n 1, 1) := by decide +kernel
theorem dX3_wordTruth_1 : decode cX3_wordTruth 1 = .ok (.ifCond .lt 8, 3) := by decide +kernel
theorem dX3_wordTruth_4 : decode cX3_wordTruth 4 = .ok (.iload_n 1, 1) := by decide +kernel
theorem dX3_wordTruth_5 : decode cX3_wordTruth 5 = .ok (.iconst 4, 1) := by decide +kernel
theorem dX3_wordTruth_6 : decode cX3_wordTruth 6 = .ok (.if_icmp .lt 5, 3) := by decide +kernel
theorem dX3_wordTruth_9 : decode cX3_wordTruth 9 = .ok (.lconst 0, 1) := by decide +kernel
theorem dX3_wordTruth_10 : decode cX3_wordTruth 10 = .ok (.lreturn, 1) := by decide +kernel
theorem dX3_wordTruth_11 : decode cX3_wordTruth 11 = .ok (.iload_n 2, 1) := by decide +kernel
theorem dX3_wordTruth_12 : decode cX3_wordTruth 12 = .ok (.iconst 1, 1) := by decide +kernel
theorem dX3_wordTruth_13 : decode cX3_wordTruth 13 = .ok (.iload_n 1, 1) := by decide +kernel
theorem dX3_wordTruth_14 : decode cX3_wordTruth 14 = .ok (.ishl, 1) := by decide +kernel
theorem dX3_wordTruth_15 : decode cX3_wordTruth 15 = .ok (.iand, 1) := by decide +kernel
theorem dX3_wordTruth_16 : decode cX3_wordTruth 16 = .ok (.ifCond .eq 12, 3) := by decide +kernel
theorem dX3_wordTruth_19 : decode cX3_wordTruth 19 = .ok (.aload_n 0, 1) := by decide +kernel
theorem dX3_wordTruth_20 : decode cX3_wordTruth 20 = .ok (.getfield 26, 3) := by decide +kernel
theorem dX3_wordTruth_23 : decode cX3_wordTruth 23 = .ok (.iload_n 1, 1) := by decide +kernel
theorem dX3_wordTruth_24 : decode cX3_wordTruth 24 = .ok (.laload, 1) := by decide +kernel
theorem dX3_wordTruth_25 : decode cX3_wordTruth 25 = .ok (.goto 9, 3) := by decide +kernel
theorem dX3_wordTruth_28 : decode cX3_wordTruth 28 = .ok (.aload_n 0, 1) := by decide +kernel
theorem dX3_wordTruth_29 : decode cX3_wordTruth 29 = .ok (.getfield 22, 3) := by decide +kernel
theorem dX3_wordTruth_32 : decode cX3_wordTruth 32 = .ok (.iload_n 1, 1) := by decide +kernel
theorem dX3_wordTruth_33 : decode cX3_wordTruth 33 = .ok (.laload, 1) := by decide +kernel
theorem dX3_wordTruth_34 : decode cX3_wordTruth 34 = .ok (.lreturn, 1) := by decide +kernel
theorem dX3_joined_0 : decode cX3_joined 0 = .ok (.iload_n 0, 1) := by decide +kernel
theorem dX3_joined_1 : decode cX3_joined 1 = .ok (.iconst 1, 1) := by decide +kernel
theorem dX3_joined_2 : decode cX3_joined 2 = .ok (.iload_n 1, 1) := by decide +kernel
theorem dX3_joined_3 : decode cX3_joined 3 = .ok (.ishl, 1) := by decide +kernel
theorem dX3_joined_4 : decode cX3_joined 4 = .ok (.iand, 1) := by decide +kernel
theorem dX3_joined_5 : decode cX3_joined 5 = .ok (.ifCond .eq 10, 3) := by decide +kernel
theorem dX3_joined_8 : decode cX3_joined 8 = .ok (.lload_n 2, 1) := by decide +kernel
theorem dX3_joined_9 : decode cX3_joined 9 = .ok (.lload 4, 2) := by decide +kernel
theorem dX3_joined_11 : decode cX3_joined 11 = .ok (.lor, 1) := by decide +kernel
theorem dX3_joined_12 : decode cX3_joined 12 = .ok (.goto 7, 3) := by decide +kernel
theorem dX3_joined_15 : decode cX3_joined 15 = .ok (.lload_n 2, 1) := by decide +kernel
theorem dX3_joined_16 : decode cX3_joined 16 = .ok (.lload 4, 2) := by decide +kernel
theorem dX3_joined_18 : decode cX3_joined 18 = .ok (.land, 1) := by decide +kernel
theorem dX3_joined_19 : decode cX3_joined 19 = .ok (.lreturn, 1) := by decide +kernel
theorem dX3_weigh_0 : decode cX3_weigh 0 = .ok (.aload_n 0, 1) := by decide +kernel
theorem dX3_weigh_1 : decode cX3_weigh 1 = .ok (.lconst 0, 1) := by decide +kernel
theorem dX3_weigh_2 : decode cX3_weigh 2 = .ok (.putfield 108, 3) := by decide +kernel
theorem dX3_weigh_5 : decode cX3_weigh 5 = .ok (.aload_n 0, 1) := by decide +kernel
theorem dX3_weigh_6 : decode cX3_weigh 6 = .ok (.iconst 0, 1) := by decide +kernel
theorem dX3_weigh_7 : decode cX3_weigh 7 = .ok (.putfield 112, 3) := by decide +kernel
theorem dX3_weigh_10 : decode cX3_weigh 10 = .ok (.aload_n 0, 1) := by decide +kernel
theorem dX3_weigh_11 : decode cX3_weigh 11 = .ok (.iconst 0, 1) := by decide +kernel
theorem dX3_weigh_12 : decode cX3_weigh 12 = .ok (.putfield 115, 3) := by decide +kernel
theorem dX3_weigh_15 : decode cX3_weigh 15 = .ok (.iconst (-1), 1) := by decide +kernel
theorem dX3_weigh_16 : decode cX3_weigh 16 = .ok (.istore_n 1, 1) := by decide +kernel
theorem dX3_weigh_17 : decode cX3_weigh 17 = .ok (.bipush 65, 2) := by decide +kernel
theorem dX3_weigh_19 : decode cX3_weigh 19 = .ok (.istore_n 2, 1) := by decide +kernel
theorem dX3_weigh_20 : decode cX3_weigh 20 = .ok (.iconst 0, 1) := by decide +kernel
theorem dX3_weigh_21 : decode cX3_weigh 21 = .ok (.istore_n 3, 1) := by decide +kernel
theorem dX3_weigh_22 : decode cX3_weigh 22 = .ok (.iload_n 3, 1) := by decide +kernel
theorem dX3_weigh_23 : decode cX3_weigh 23 = .ok (.aload_n 0, 1) := by decide +kernel
theorem dX3_weigh_24 : decode cX3_weigh 24 = .ok (.getfield 36, 3) := by decide +kernel
theorem dX3_weigh_27 : decode cX3_weigh 27 = .ok (.if_icmp .ge 72, 3) := by decide +kernel
theorem dX3_weigh_30 : decode cX3_weigh 30 = .ok (.iload_n 3, 1) := by decide +kernel
theorem dX3_weigh_31 : decode cX3_weigh 31 = .ok (.aload_n 0, 1) := by decide +kernel
theorem dX3_weigh_32 : decode cX3_weigh 32 = .ok (.getfield 29, 3) := by decide +kernel
theorem dX3_weigh_35 : decode cX3_weigh 35 = .ok (.arraylength, 1) := by decide +kernel
theorem dX3_weigh_36 : decode cX3_weigh 36 = .ok (.if_icmp .ge 63, 3) := by decide +kernel
theorem dX3_weigh_39 : decode cX3_weigh 39 = .ok (.aload_n 0, 1) := by decide +kernel
theorem dX3_weigh_40 : decode cX3_weigh 40 = .ok (.dup, 1) := by decide +kernel
theorem dX3_weigh_41 : decode cX3_weigh 41 = .ok (.getfield 108, 3) := by decide +kernel
theorem dX3_weigh_44 : decode cX3_weigh 44 = .ok (.aload_n 0, 1) := by decide +kernel
theorem dX3_weigh_45 : decode cX3_weigh 45 = .ok (.getfield 29, 3) := by decide +kernel
theorem dX3_weigh_48 : decode cX3_weigh 48 = .ok (.iload_n 3, 1) := by decide +kernel
theorem dX3_weigh_49 : decode cX3_weigh 49 = .ok (.laload, 1) := by decide +kernel
theorem dX3_weigh_50 : decode cX3_weigh 50 = .ok (.lor, 1) := by decide +kernel
theorem dX3_weigh_51 : decode cX3_weigh 51 = .ok (.putfield 108, 3) := by decide +kernel
theorem dX3_weigh_54 : decode cX3_weigh 54 = .ok (.aload_n 0, 1) := by decide +kernel
theorem dX3_weigh_55 : decode cX3_weigh 55 = .ok (.getfield 29, 3) := by decide +kernel
theorem dX3_weigh_58 : decode cX3_weigh 58 = .ok (.iload_n 3, 1) := by decide +kernel
theorem dX3_weigh_59 : decode cX3_weigh 59 = .ok (.laload, 1) := by decide +kernel
theorem dX3_weigh_60 : decode cX3_weigh 60 = .ok (.invokestatic 118, 3) := by decide +kernel
theorem dX3_weigh_63 : decode cX3_weigh 63 = .ok (.istore 4, 2) := by decide +kernel
theorem dX3_weigh_65 : decode cX3_weigh 65 = .ok (.iload 4, 2) := by decide +kernel
theorem dX3_weigh_67 : decode cX3_weigh 67 = .ok (.iload_n 1, 1) := by decide +kernel
theorem dX3_weigh_68 : decode cX3_weigh 68 = .ok (.if_icmp .le 11, 3) := by decide +kernel
theorem dX3_weigh_71 : decode cX3_weigh 71 = .ok (.iload 4, 2) := by decide +kernel
theorem dX3_weigh_73 : decode cX3_weigh 73 = .ok (.istore_n 1, 1) := by decide +kernel
theorem dX3_weigh_74 : decode cX3_weigh 74 = .ok (.aload_n 0, 1) := by decide +kernel
theorem dX3_weigh_75 : decode cX3_weigh 75 = .ok (.iload_n 3, 1) := by decide +kernel
theorem dX3_weigh_76 : decode cX3_weigh 76 = .ok (.putfield 112, 3) := by decide +kernel
theorem dX3_weigh_79 : decode cX3_weigh 79 = .ok (.iload 4, 2) := by decide +kernel
theorem dX3_weigh_81 : decode cX3_weigh 81 = .ok (.iload_n 2, 1) := by decide +kernel
theorem dX3_weigh_82 : decode cX3_weigh 82 = .ok (.if_icmp .ge 11, 3) := by decide +kernel
theorem dX3_weigh_85 : decode cX3_weigh 85 = .ok (.iload 4, 2) := by decide +kernel
theorem dX3_weigh_87 : decode cX3_weigh 87 = .ok (.istore_n 2, 1) := by decide +kernel
theorem dX3_weigh_88 : decode cX3_weigh 88 = .ok (.aload_n 0, 1) := by decide +kernel
theorem dX3_weigh_89 : decode cX3_weigh 89 = .ok (.iload_n 3, 1) := by decide +kernel
theorem dX3_weigh_90 : decode cX3_weigh 90 = .ok (.putfield 115, 3) := by decide +kernel
theorem dX3_weigh_93 : decode cX3_weigh 93 = .ok (.iinc 3 1, 3) := by decide +kernel
theorem dX3_weigh_96 : decode cX3_weigh 96 = .ok (.goto (-74), 3) := by decide +kernel
theorem dX3_weigh_99 : decode cX3_weigh 99 = .ok (.return_, 1) := by decide +kernel
theorem dX3_readingsSoIn_0 : decode cX3_readingsSoIn 0 = .ok (.iconst 0, 1) := by decide +kernel
theorem dX3_readingsSoIn_1 : decode cX3_readingsSoIn 1 = .ok (.istore_n 2, 1) := by decide +kernel
theorem dX3_readingsSoIn_2 : decode cX3_readingsSoIn 2 = .ok (.iconst 0, 1) := by decide +kernel
theorem dX3_readingsSoIn_3 : decode cX3_readingsSoIn 3 = .ok (.istore_n 3, 1) := by decide +kernel
theorem dX3_readingsSoIn_4 : decode cX3_readingsSoIn 4 = .ok (.iload_n 3, 1) := by decide +kernel
theorem dX3_readingsSoIn_5 : decode cX3_readingsSoIn 5 = .ok (.aload_n 0, 1) := by decide +kernel
theorem dX3_readingsSoIn_6 : decode cX3_readingsSoIn 6 = .ok (.getfield 36, 3) := by decide +kernel
theorem dX3_readingsSoIn_9 : decode cX3_readingsSoIn 9 = .ok (.if_icmp .ge 21, 3) := by decide +kernel
theorem dX3_readingsSoIn_12 : decode cX3_readingsSoIn 12 = .ok (.iload_n 2, 1) := by decide +kernel
theorem dX3_readingsSoIn_13 : decode cX3_readingsSoIn 13 = .ok (.aload_n 0, 1) := by decide +kernel
theorem dX3_readingsSoIn_14 : decode cX3_readingsSoIn 14 = .ok (.iload_n 3, 1) := by decide +kernel
theorem dX3_readingsSoIn_15 : decode cX3_readingsSoIn 15 = .ok (.invokevirtual 124, 3) := by decide +kernel
theorem dX3_readingsSoIn_18 : decode cX3_readingsSoIn 18 = .ok (.iload_n 1, 1) := by decide +kernel
theorem dX3_readingsSoIn_19 : decode cX3_readingsSoIn 19 = .ok (.invokestatic 90, 3) := by decide +kernel
theorem dX3_readingsSoIn_22 : decode cX3_readingsSoIn 22 = .ok (.iadd, 1) := by decide +kernel
theorem dX3_readingsSoIn_23 : decode cX3_readingsSoIn 23 = .ok (.istore_n 2, 1) := by decide +kernel
theorem dX3_readingsSoIn_24 : decode cX3_readingsSoIn 24 = .ok (.iinc 3 1, 3) := by decide +kernel
theorem dX3_readingsSoIn_27 : decode cX3_readingsSoIn 27 = .ok (.goto (-23), 3) := by decide +kernel
theorem dX3_readingsSoIn_30 : decode cX3_readingsSoIn 30 = .ok (.iload_n 2, 1) := by decide +kernel
theorem dX3_readingsSoIn_31 : decode cX3_readingsSoIn 31 = .ok (.ireturn, 1) := by decide +kernel
theorem dX3_firstReadingSoIn_0 : decode cX3_firstReadingSoIn 0 = .ok (.iconst 0, 1) := by decide +kernel
theorem dX3_firstReadingSoIn_1 : decode cX3_firstReadingSoIn 1 = .ok (.istore_n 2, 1) := by decide +kernel
theorem dX3_firstReadingSoIn_2 : decode cX3_firstReadingSoIn 2 = .ok (.iload_n 2, 1) := by decide +kernel
theorem dX3_firstReadingSoIn_3 : decode cX3_firstReadingSoIn 3 = .ok (.aload_n 0, 1) := by decide +kernel
theorem dX3_firstReadingSoIn_4 : decode cX3_firstReadingSoIn 4 = .ok (.getfield 36, 3) := by decide +kernel
theorem dX3_firstReadingSoIn_7 : decode cX3_firstReadingSoIn 7 = .ok (.if_icmp .ge 24, 3) := by decide +kernel
theorem dX3_firstReadingSoIn_10 : decode cX3_firstReadingSoIn 10 = .ok (.aload_n 0, 1) := by decide +kernel
theorem dX3_firstReadingSoIn_11 : decode cX3_firstReadingSoIn 11 = .ok (.iload_n 2, 1) := by decide +kernel
theorem dX3_firstReadingSoIn_12 : decode cX3_firstReadingSoIn 12 = .ok (.invokevirtual 124, 3) := by decide +kernel
theorem dX3_firstReadingSoIn_15 : decode cX3_firstReadingSoIn 15 = .ok (.iload_n 1, 1) := by decide +kernel
theorem dX3_firstReadingSoIn_16 : decode cX3_firstReadingSoIn 16 = .ok (.invokestatic 90, 3) := by decide +kernel
theorem dX3_firstReadingSoIn_19 : decode cX3_firstReadingSoIn 19 = .ok (.iconst 1, 1) := by decide +kernel
theorem dX3_firstReadingSoIn_20 : decode cX3_firstReadingSoIn 20 = .ok (.if_icmp .ne 5, 3) := by decide +kernel
theorem dX3_firstReadingSoIn_23 : decode cX3_firstReadingSoIn 23 = .ok (.iload_n 2, 1) := by decide +kernel
theorem dX3_firstReadingSoIn_24 : decode cX3_firstReadingSoIn 24 = .ok (.ireturn, 1) := by decide +kernel
theorem dX3_firstReadingSoIn_25 : decode cX3_firstReadingSoIn 25 = .ok (.iinc 2 1, 3) := by decide +kernel
theorem dX3_firstReadingSoIn_28 : decode cX3_firstReadingSoIn 28 = .ok (.goto (-26), 3) := by decide +kernel
theorem dX3_firstReadingSoIn_31 : decode cX3_firstReadingSoIn 31 = .ok (.iconst (-1), 1) := by decide +kernel
theorem dX3_firstReadingSoIn_32 : decode cX3_firstReadingSoIn 32 = .ok (.ireturn, 1) := by decide +kernel
theorem dX4_init_0 : decode cX4_init 0 = .ok (.aload_n 0, 1) := by decide +kernel
theorem dX4_init_1 : decode cX4_init 1 = .ok (.invokespecial 3, 3) := by decide +kernel
theorem dX4_init_4 : decode cX4_init 4 = .ok (.aload_n 0, 1) := by decide +kernel
theorem dX4_init_5 : decode cX4_init 5 = .ok (.bipush 6, 2) := by decide +kernel
theorem dX4_init_7 : decode cX4_init 7 = .ok (.newarray .int, 2) := by decide +kernel
theorem dX4_init_9 : decode cX4_init 9 = .ok (.putfield 9, 3) := by decide +kernel
theorem dX4_init_12 : decode cX4_init 12 = .ok (.return_, 1) := by decide +kernel
theorem dX4_append_0 : decode cX4_append 0 = .ok (.aload_n 0, 1) := by decide +kernel
theorem dX4_append_1 : decode cX4_append 1 = .ok (.getfield 15, 3) := by decide +kernel
theorem dX4_append_4 : decode cX4_append 4 = .ok (.ifCond .lt 15, 3) := by decide +kernel
theorem dX4_append_7 : decode cX4_append 7 = .ok (.aload_n 0, 1) := by decide +kernel
theorem dX4_append_8 : decode cX4_append 8 = .ok (.getfield 15, 3) := by decide +kernel
theorem dX4_append_11 : decode cX4_append 11 = .ok (.aload_n 0, 1) := by decide +kernel
theorem dX4_append_12 : decode cX4_append 12 = .ok (.getfield 9, 3) := by decide +kernel
theorem dX4_append_15 : decode cX4_append 15 = .ok (.arraylength, 1) := by decide +kernel
theorem dX4_append_16 : decode cX4_append 16 = .ok (.if_icmp .lt 5, 3) := by decide +kernel
theorem dX4_append_19 : decode cX4_append 19 = .ok (.iconst 0, 1) := by decide +kernel
theorem dX4_append_20 : decode cX4_append 20 = .ok (.ireturn, 1) := by decide +kernel
theorem dX4_append_21 : decode cX4_append 21 = .ok (.aload_n 0, 1) := by decide +kernel
theorem dX4_append_22 : decode cX4_append 22 = .ok (.getfield 9, 3) := by decide +kernel
theorem dX4_append_25 : decode cX4_append 25 = .ok (.aload_n 0, 1) := by decide +kernel
theorem dX4_append_26 : decode cX4_append 26 = .ok (.getfield 15, 3) := by decide +kernel
theorem dX4_append_29 : decode cX4_append 29 = .ok (.iload_n 1, 1) := by decide +kernel
theorem dX4_append_30 : decode cX4_append 30 = .ok (.iastore, 1) := by decide +kernel
theorem dX4_append_31 : decode cX4_append 31 = .ok (.aload_n 0, 1) := by decide +kernel
theorem dX4_append_32 : decode cX4_append 32 = .ok (.dup, 1) := by decide +kernel
theorem dX4_append_33 : decode cX4_append 33 = .ok (.getfield 15, 3) := by decide +kernel
theorem dX4_append_36 : decode cX4_append 36 = .ok (.iconst 1, 1) := by decide +kernel
theorem dX4_append_37 : decode cX4_append 37 = .ok (.iadd, 1) := by decide +kernel
theorem dX4_append_38 : decode cX4_append 38 = .ok (.putfield 15, 3) := by decide +kernel
theorem dX4_append_41 : decode cX4_append 41 = .ok (.iconst 1, 1) := by decide +kernel
theorem dX4_append_42 : decode cX4_append 42 = .ok (.ireturn, 1) := by decide +kernel
theorem dX4_worldAt_0 : decode cX4_worldAt 0 = .ok (.iload_n 1, 1) := by decide +kernel
theorem dX4_worldAt_1 : decode cX4_worldAt 1 = .ok (.ifCond .lt 29, 3) := by decide +kernel
theorem dX4_worldAt_4 : decode cX4_worldAt 4 = .ok (.iload_n 1, 1) := by decide +kernel
theorem dX4_worldAt_5 : decode cX4_worldAt 5 = .ok (.aload_n 0, 1) := by decide +kernel
theorem dX4_worldAt_6 : decode cX4_worldAt 6 = .ok (.getfield 15, 3) := by decide +kernel
theorem dX4_worldAt_9 : decode cX4_worldAt 9 = .ok (.if_icmp .ge 21, 3) := by decide +kernel
theorem dX4_worldAt_12 : decode cX4_worldAt 12 = .ok (.iload_n 1, 1) := by decide +kernel
theorem dX4_worldAt_13 : decode cX4_worldAt 13 = .ok (.aload_n 0, 1) := by decide +kernel
theorem dX4_worldAt_14 : decode cX4_worldAt 14 = .ok (.getfield 9, 3) := by decide +kernel
theorem dX4_worldAt_17 : decode cX4_worldAt 17 = .ok (.arraylength, 1) := by decide +kernel
theorem dX4_worldAt_18 : decode cX4_worldAt 18 = .ok (.if_icmp .ge 12, 3) := by decide +kernel
theorem dX4_worldAt_21 : decode cX4_worldAt 21 = .ok (.aload_n 0, 1) := by decide +kernel
theorem dX4_worldAt_22 : decode cX4_worldAt 22 = .ok (.getfield 9, 3) := by decide +kernel
theorem dX4_worldAt_25 : decode cX4_worldAt 25 = .ok (.iload_n 1, 1) := by decide +kernel
theorem dX4_worldAt_26 : decode cX4_worldAt 26 = .ok (.iaload, 1) := by decide +kernel
theorem dX4_worldAt_27 : decode cX4_worldAt 27 = .ok (.goto 4, 3) := by decide +kernel
theorem dX4_worldAt_30 : decode cX4_worldAt 30 = .ok (.iconst (-1), 1) := by decide +kernel
theorem dX4_worldAt_31 : decode cX4_worldAt 31 = .ok (.ireturn, 1) := by decide +kernel
theorem dX4_become_0 : decode cX4_become 0 = .ok (.aload_n 0, 1) := by decide +kernel
theorem dX4_become_1 : decode cX4_become 1 = .ok (.iconst 0, 1) := by decide +kernel
theorem dX4_become_2 : decode cX4_become 2 = .ok (.putfield 15, 3) := by decide +kernel
theorem dX4_become_5 : decode cX4_become 5 = .ok (.iconst 0, 1) := by decide +kernel
theorem dX4_become_6 : decode cX4_become 6 = .ok (.istore_n 2, 1) := by decide +kernel
theorem dX4_become_7 : decode cX4_become 7 = .ok (.iload_n 2, 1) := by decide +kernel
theorem dX4_become_8 : decode cX4_become 8 = .ok (.aload_n 1, 1) := by decide +kernel
theorem dX4_become_9 : decode cX4_become 9 = .ok (.getfield 15, 3) := by decide +kernel
theorem dX4_become_12 : decode cX4_become 12 = .ok (.if_icmp .ge 19, 3) := by decide +kernel
theorem dX4_become_15 : decode cX4_become 15 = .ok (.aload_n 0, 1) := by decide +kernel
theorem dX4_become_16 : decode cX4_become 16 = .ok (.aload_n 1, 1) := by decide +kernel
theorem dX4_become_17 : decode cX4_become 17 = .ok (.iload_n 2, 1) := by decide +kernel
theorem dX4_become_18 : decode cX4_become 18 = .ok (.invokevirtual 19, 3) := by decide +kernel
theorem dX4_become_21 : decode cX4_become 21 = .ok (.invokevirtual 23, 3) := by decide +kernel
theorem dX4_become_24 : decode cX4_become 24 = .ok (.pop, 1) := by decide +kernel
theorem dX4_become_25 : decode cX4_become 25 = .ok (.iinc 2 1, 3) := by decide +kernel
theorem dX4_become_28 : decode cX4_become 28 = .ok (.goto (-21), 3) := by decide +kernel
theorem dX4_become_31 : decode cX4_become 31 = .ok (.return_, 1) := by decide +kernel
theorem dX5_init_0 : decode cX5_init 0 = .ok (.aload_n 0, 1) := by decide +kernel
theorem dX5_init_1 : decode cX5_init 1 = .ok (.invokespecial 1, 3) := by decide +kernel
theorem dX5_init_4 : decode cX5_init 4 = .ok (.aload_n 0, 1) := by decide +kernel
theorem dX5_init_5 : decode cX5_init 5 = .ok (.new 7, 3) := by decide +kernel
theorem dX5_init_8 : decode cX5_init 8 = .ok (.dup, 1) := by decide +kernel
theorem dX5_init_9 : decode cX5_init 9 = .ok (.invokespecial 9, 3) := by decide +kernel
theorem dX5_init_12 : decode cX5_init 12 = .ok (.putfield 10, 3) := by decide +kernel
theorem dX5_init_15 : decode cX5_init 15 = .ok (.aload_n 0, 1) := by decide +kernel
theorem dX5_init_16 : decode cX5_init 16 = .ok (.bipush 6, 2) := by decide +kernel
theorem dX5_init_18 : decode cX5_init 18 = .ok (.newarray .int, 2) := by decide +kernel
theorem dX5_init_20 : decode cX5_init 20 = .ok (.putfield 16, 3) := by decide +kernel
theorem dX5_init_23 : decode cX5_init 23 = .ok (.iconst 0, 1) := by decide +kernel
theorem dX5_init_24 : decode cX5_init 24 = .ok (.istore_n 1, 1) := by decide +kernel
theorem dX5_init_25 : decode cX5_init 25 = .ok (.iload_n 1, 1) := by decide +kernel
theorem dX5_init_26 : decode cX5_init 26 = .ok (.aload_n 0, 1) := by decide +kernel
theorem dX5_init_27 : decode cX5_init 27 = .ok (.getfield 16, 3) := by decide +kernel
theorem dX5_init_30 : decode cX5_init 30 = .ok (.arraylength, 1) := by decide +kernel
theorem dX5_init_31 : decode cX5_init 31 = .ok (.if_icmp .ge 16, 3) := by decide +kernel
theorem dX5_init_34 : decode cX5_init 34 = .ok (.aload_n 0, 1) := by decide +kernel
theorem dX5_init_35 : decode cX5_init 35 = .ok (.getfield 16, 3) := by decide +kernel
theorem dX5_init_38 : decode cX5_init 38 = .ok (.iload_n 1, 1) := by decide +kernel
theorem dX5_init_39 : decode cX5_init 39 = .ok (.iload_n 1, 1) := by decide +kernel
theorem dX5_init_40 : decode cX5_init 40 = .ok (.iastore, 1) := by decide +kernel
theorem dX5_init_41 : decode cX5_init 41 = .ok (.iinc 1 1, 3) := by decide +kernel
theorem dX5_init_44 : decode cX5_init 44 = .ok (.goto (-19), 3) := by decide +kernel
theorem dX5_init_47 : decode cX5_init 47 = .ok (.aload_n 0, 1) := by decide +kernel
theorem dX5_init_48 : decode cX5_init 48 = .ok (.new 20, 3) := by decide +kernel
theorem dX5_init_51 : decode cX5_init 51 = .ok (.dup, 1) := by decide +kernel
theorem dX5_init_52 : decode cX5_init 52 = .ok (.invokespecial 22, 3) := by decide +kernel
theorem dX5_init_55 : decode cX5_init 55 = .ok (.putfield 23, 3) := by decide +kernel
theorem dX5_init_58 : decode cX5_init 58 = .ok (.aload_n 0, 1) := by decide +kernel
theorem dX5_init_59 : decode cX5_init 59 = .ok (.new 20, 3) := by decide +kernel
theorem dX5_init_62 : decode cX5_init 62 = .ok (.dup, 1) := by decide +kernel
theorem dX5_init_63 : decode cX5_init 63 = .ok (.invokespecial 22, 3) := by decide +kernel
theorem dX5_init_66 : decode cX5_init 66 = .ok (.putfield 27, 3) := by decide +kernel
theorem dX5_init_69 : decode cX5_init 69 = .ok (.aload_n 0, 1) := by decide +kernel
theorem dX5_init_70 : decode cX5_init 70 = .ok (.new 20, 3) := by decide +kernel
theorem dX5_init_73 : decode cX5_init 73 = .ok (.dup, 1) := by decide +kernel
theorem dX5_init_74 : decode cX5_init 74 = .ok (.invokespecial 22, 3) := by decide +kernel
theorem dX5_init_77 : decode cX5_init 77 = .ok (.putfield 30, 3) := by decide +kernel
theorem dX5_init_80 : decode cX5_init 80 = .ok (.aload_n 0, 1) := by decide +kernel
theorem dX5_init_81 : decode cX5_init 81 = .ok (.new 33, 3) := by decide +kernel
theorem dX5_init_84 : decode cX5_init 84 = .ok (.dup, 1) := by decide +kernel
theorem dX5_init_85 : decode cX5_init 85 = .ok (.invokespecial 35, 3) := by decide +kernel
theorem dX5_init_88 : decode cX5_init 88 = .ok (.putfield 36, 3) := by decide +kernel
theorem dX5_init_91 : decode cX5_init 91 = .ok (.aload_n 0, 1) := by decide +kernel
theorem dX5_init_92 : decode cX5_init 92 = .ok (.new 40, 3) := by decide +kernel
theorem dX5_init_95 : decode cX5_init 95 = .ok (.dup, 1) := by decide +kernel
theorem dX5_init_96 : decode cX5_init 96 = .ok (.invokespecial 42, 3) := by decide +kernel
theorem dX5_init_99 : decode cX5_init 99 = .ok (.putfield 43, 3) := by decide +kernel
theorem dX5_init_102 : decode cX5_init 102 = .ok (.aload_n 0, 1) := by decide +kernel
theorem dX5_init_103 : decode cX5_init 103 = .ok (.new 47, 3) := by decide +kernel
theorem dX5_init_106 : decode cX5_init 106 = .ok (.dup, 1) := by decide +kernel
theorem dX5_init_107 : decode cX5_init 107 = .ok (.invokespecial 49, 3) := by decide +kernel
theorem dX5_init_110 : decode cX5_init 110 = .ok (.putfield 50, 3) := by decide +kernel
theorem dX5_init_113 : decode cX5_init 113 = .ok (.return_, 1) := by decide +kernel
theorem dX5_letter_0 : decode cX5_letter 0 = .ok (.iload_n 1, 1) := by decide +kernel
theorem dX5_letter_1 : decode cX5_letter 1 = .ok (.bipush 32, 2) := by decide +kernel
theorem dX5_letter_3 : decode cX5_letter 3 = .ok (.if_icmp .lt 9, 3) := by decide +kernel
theorem dX5_letter_6 : decode cX5_letter 6 = .ok (.iload_n 1, 1) := by decide +kernel
theorem dX5_letter_7 : decode cX5_letter 7 = .ok (.bipush 126, 2) := by decide +kernel
theorem dX5_letter_9 : decode cX5_letter 9 = .ok (.if_icmp .le 6, 3) := by decide +kernel
theorem dX5_letter_12 : decode cX5_letter 12 = .ok (.bipush (-102), 2) := by decide +kernel
theorem dX5_letter_14 : decode cX5_letter 14 = .ok (.ireturn, 1) := by decide +kernel
theorem dX5_letter_15 : decode cX5_letter 15 = .ok (.aload_n 0, 1) := by decide +kernel
theorem dX5_letter_16 : decode cX5_letter 16 = .ok (.getfield 10, 3) := by decide +kernel
theorem dX5_letter_19 : decode cX5_letter 19 = .ok (.iload_n 1, 1) := by decide +kernel
theorem dX5_letter_20 : decode cX5_letter 20 = .ok (.invokevirtual 54, 3) := by decide +kernel
theorem dX5_letter_23 : decode cX5_letter 23 = .ok (.ifCond .eq 13, 3) := by decide +kernel
theorem dX5_letter_26 : decode cX5_letter 26 = .ok (.aload_n 0, 1) := by decide +kernel
theorem dX5_letter_27 : decode cX5_letter 27 = .ok (.getfield 10, 3) := by decide +kernel
theorem dX5_letter_30 : decode cX5_letter 30 = .ok (.getfield 58, 3) := by decide +kernel
theorem dX5_letter_33 : decode cX5_letter 33 = .ok (.goto 5, 3) := by decide +kernel
theorem dX5_letter_36 : decode cX5_letter 36 = .ok (.bipush (-104), 2) := by decide +kernel
theorem dX5_letter_38 : decode cX5_letter 38 = .ok (.ireturn, 1) := by decide +kernel
theorem dX5_blank_0 : decode cX5_blank 0 = .ok (.aload_n 0, 1) := by decide +kernel
theorem dX5_blank_1 : decode cX5_blank 1 = .ok (.getfield 10, 3) := by decide +kernel
theorem dX5_blank_4 : decode cX5_blank 4 = .ok (.invokevirtual 62, 3) := by decide +kernel
theorem dX5_blank_7 : decode cX5_blank 7 = .ok (.ireturn, 1) := by decide +kernel
theorem dX5_fault_0 : decode cX5_fault 0 = .ok (.iload_n 1, 1) := by decide +kernel
theorem dX5_fault_1 : decode cX5_fault 1 = .ok (.lookupswitch 43 #[(0, 27), (1, 35)], 27) := by decide +kernel
theorem dX5_fault_28 : decode cX5_fault 28 = .ok (.aload_n 0, 1) := by decide +kernel
theorem dX5_fault_29 : decode cX5_fault 29 = .ok (.getfield 10, 3) := by decide +kernel
theorem dX5_fault_32 : decode cX5_fault 32 = .ok (.invokevirtual 66, 3) := by decide +kernel
theorem dX5_fault_35 : decode cX5_fault 35 = .ok (.ireturn, 1) := by decide +kernel
theorem dX5_fault_36 : decode cX5_fault 36 = .ok (.aload_n 0, 1) := by decide +kernel
theorem dX5_fault_37 : decode cX5_fault 37 = .ok (.getfield 10, 3) := by decide +kernel
theorem dX5_fault_40 : decode cX5_fault 40 = .ok (.invokevirtual 69, 3) := by decide +kernel
theorem dX5_fault_43 : decode cX5_fault 43 = .ok (.ireturn, 1) := by decide +kernel
theorem dX5_fault_44 : decode cX5_fault 44 = .ok (.bipush (-102), 2) := by decide +kernel
theorem dX5_fault_46 : decode cX5_fault 46 = .ok (.ireturn, 1) := by decide +kernel
theorem dX5_say_0 : decode cX5_say 0 = .ok (.aload_n 0, 1) := by decide +kernel
theorem dX5_say_1 : decode cX5_say 1 = .ok (.getfield 10, 3) := by decide +kernel
theorem dX5_say_4 : decode cX5_say 4 = .ok (.invokevirtual 72, 3) := by decide +kernel
theorem dX5_say_7 : decode cX5_say 7 = .ok (.ifCond .ne 6, 3) := by decide +kernel
theorem dX5_say_10 : decode cX5_say 10 = .ok (.bipush (-103), 2) := by decide +kernel
theorem dX5_say_12 : decode cX5_say 12 = .ok (.ireturn, 1) := by decide +kernel
theorem dX5_say_13 : decode cX5_say 13 = .ok (.aload_n 0, 1) := by decide +kernel
theorem dX5_say_14 : decode cX5_say 14 = .ok (.getfield 27, 3) := by decide +kernel
theorem dX5_say_17 : decode cX5_say 17 = .ok (.aload_n 0, 1) := by decide +kernel
theorem dX5_say_18 : decode cX5_say 18 = .ok (.getfield 23, 3) := by decide +kernel
theorem dX5_say_21 : decode cX5_say 21 = .ok (.invokevirtual 76, 3) := by decide +kernel
theorem dX5_say_24 : decode cX5_say 24 = .ok (.aload_n 0, 1) := by decide +kernel
theorem dX5_say_25 : decode cX5_say 25 = .ok (.getfield 27, 3) := by decide +kernel
theorem dX5_say_28 : decode cX5_say 28 = .ok (.aload_n 0, 1) := by decide +kernel
theorem dX5_say_29 : decode cX5_say 29 = .ok (.getfield 16, 3) := by decide +kernel
theorem dX5_say_32 : decode cX5_say 32 = .ok (.invokevirtual 80, 3) := by decide +kernel
theorem dX5_say_35 : decode cX5_say 35 = .ok (.aload_n 0, 1) := by decide +kernel
theorem dX5_say_36 : decode cX5_say 36 = .ok (.getfield 23, 3) := by decide +kernel
theorem dX5_say_39 : decode cX5_say 39 = .ok (.aload_n 0, 1) := by decide +kernel
theorem dX5_say_40 : decode cX5_say 40 = .ok (.getfield 10, 3) := by decide +kernel
theorem dX5_say_43 : decode cX5_say 43 = .ok (.invokevirtual 84, 3) := by decide +kernel
theorem dX5_say_46 : decode cX5_say 46 = .ok (.aload_n 0, 1) := by decide +kernel
theorem dX5_say_47 : decode cX5_say 47 = .ok (.getfield 23, 3) := by decide +kernel
theorem dX5_say_50 : decode cX5_say 50 = .ok (.aload_n 0, 1) := by decide +kernel
theorem dX5_say_51 : decode cX5_say 51 = .ok (.getfield 16, 3) := by decide +kernel
theorem dX5_say_54 : decode cX5_say 54 = .ok (.invokevirtual 80, 3) := by decide +kernel
theorem dX5_say_57 : decode cX5_say 57 = .ok (.aload_n 0, 1) := by decide +kernel
theorem dX5_say_58 : decode cX5_say 58 = .ok (.getfield 10, 3) := by decide +kernel
theorem dX5_say_61 : decode cX5_say 61 = .ok (.invokevirtual 62, 3) := by decide +kernel
theorem dX5_say_64 : decode cX5_say 64 = .ok (.pop, 1) := by decide +kernel
theorem dX5_say_65 : decode cX5_say 65 = .ok (.aload_n 0, 1) := by decide +kernel
theorem dX5_say_66 : decode cX5_say 66 = .ok (.dup, 1) := by decide +kernel
theorem dX5_say_67 : decode cX5_say 67 = .ok (.getfield 88, 3) := by decide +kernel
theorem dX5_say_70 : decode cX5_say 70 = .ok (.iconst 1, 1) := by decide +kernel
theorem dX5_say_71 : decode cX5_say 71 = .ok (.iadd, 1) := by decide +kernel
theorem dX5_say_72 : decode cX5_say 72 = .ok (.putfield 88, 3) := by decide +kernel
theorem dX5_say_75 : decode cX5_say 75 = .ok (.aload_n 0, 1) := by decide +kernel
theorem dX5_say_76 : decode cX5_say 76 = .ok (.getfield 23, 3) := by decide +kernel
theorem dX5_say_79 : decode cX5_say 79 = .ok (.getfield 91, 3) := by decide +kernel
theorem dX5_say_82 : decode cX5_say 82 = .ok (.ireturn, 1) := by decide +kernel
theorem dX5_senses_0 : decode cX5_senses 0 = .ok (.aload_n 0, 1) := by decide +kernel
theorem dX5_senses_1 : decode cX5_senses 1 = .ok (.getfield 10, 3) := by decide +kernel
theorem dX5_senses_4 : decode cX5_senses 4 = .ok (.invokevirtual 94, 3) := by decide +kernel
theorem dX5_senses_7 : decode cX5_senses 7 = .ok (.ifCond .ne 6, 3) := by decide +kernel
theorem dX5_senses_10 : decode cX5_senses 10 = .ok (.bipush (-103), 2) := by decide +kernel
theorem dX5_senses_12 : decode cX5_senses 12 = .ok (.ireturn, 1) := by decide +kernel
theorem dX5_senses_13 : decode cX5_senses 13 = .ok (.iconst 0, 1) := by decide +kernel
theorem dX5_senses_14 : decode cX5_senses 14 = .ok (.istore_n 1, 1) := by decide +kernel
theorem dX5_senses_15 : decode cX5_senses 15 = .ok (.iconst 0, 1) := by decide +kernel
theorem dX5_senses_16 : decode cX5_senses 16 = .ok (.istore_n 2, 1) := by decide +kernel
theorem dX5_senses_17 : decode cX5_senses 17 = .ok (.iload_n 2, 1) := by decide +kernel
theorem dX5_senses_18 : decode cX5_senses 18 = .ok (.aload_n 0, 1) := by decide +kernel
theorem dX5_senses_19 : decode cX5_senses 19 = .ok (.getfield 16, 3) := by decide +kernel
theorem dX5_senses_22 : decode cX5_senses 22 = .ok (.arraylength, 1) := by decide +kernel
theorem dX5_senses_23 : decode cX5_senses 23 = .ok (.if_icmp .ge 39, 3) := by decide +kernel
theorem dX5_senses_26 : decode cX5_senses 26 = .ok (.aload_n 0, 1) := by decide +kernel
theorem dX5_senses_27 : decode cX5_senses 27 = .ok (.getfield 16, 3) := by decide +kernel
theorem dX5_senses_30 : decode cX5_senses 30 = .ok (.iload_n 2, 1) := by decide +kernel
theorem dX5_senses_31 : decode cX5_senses 31 = .ok (.aload_n 0, 1) := by decide +kernel
theorem dX5_senses_32 : decode cX5_senses 32 = .ok (.getfield 10, 3) := by decide +kernel
theorem dX5_senses_35 : decode cX5_senses 35 = .ok (.iload_n 2, 1) := by decide +kernel
theorem dX5_senses_36 : decode cX5_senses 36 = .ok (.invokevirtual 97, 3) := by decide +kernel
theorem dX5_senses_39 : decode cX5_senses 39 = .ok (.bipush 48, 2) := by decide +kernel
theorem dX5_senses_41 : decode cX5_senses 41 = .ok (.isub, 1) := by decide +kernel
theorem dX5_senses_42 : decode cX5_senses 42 = .ok (.iastore, 1) := by decide +kernel
theorem dX5_senses_43 : decode cX5_senses 43 = .ok (.aload_n 0, 1) := by decide +kernel
theorem dX5_senses_44 : decode cX5_senses 44 = .ok (.getfield 16, 3) := by decide +kernel
theorem dX5_senses_47 : decode cX5_senses 47 = .ok (.iload_n 2, 1) := by decide +kernel
theorem dX5_senses_48 : decode cX5_senses 48 = .ok (.iaload, 1) := by decide +kernel
theorem dX5_senses_49 : decode cX5_senses 49 = .ok (.iload_n 2, 1) := by decide +kernel
theorem dX5_senses_50 : decode cX5_senses 50 = .ok (.if_icmp .eq 6, 3) := by decide +kernel
theorem dX5_senses_53 : decode cX5_senses 53 = .ok (.iinc 1 1, 3) := by decide +kernel
theorem dX5_senses_56 : decode cX5_senses 56 = .ok (.iinc 2 1, 3) := by decide +kernel
theorem dX5_senses_59 : decode cX5_senses 59 = .ok (.goto (-42), 3) := by decide +kernel
theorem dX5_senses_62 : decode cX5_senses 62 = .ok (.aload_n 0, 1) := by decide +kernel
theorem dX5_senses_63 : decode cX5_senses 63 = .ok (.getfield 23, 3) := by decide +kernel
theorem dX5_senses_66 : decode cX5_senses 66 = .ok (.aload_n 0, 1) := by decide +kernel
theorem dX5_senses_67 : decode cX5_senses 67 = .ok (.getfield 16, 3) := by decide +kernel
theorem dX5_senses_70 : decode cX5_senses 70 = .ok (.invokevirtual 80, 3) := by decide +kernel
theorem dX5_senses_73 : decode cX5_senses 73 = .ok (.aload_n 0, 1) := by decide +kernel
theorem dX5_senses_74 : decode cX5_senses 74 = .ok (.getfield 27, 3) := by decide +kernel
theorem dX5_senses_77 : decode cX5_senses 77 = .ok (.aload_n 0, 1) := by decide +kernel
theorem dX5_senses_78 : decode cX5_senses 78 = .ok (.getfield 16, 3) := by decide +kernel
theorem dX5_senses_81 : decode cX5_senses 81 = .ok (.invokevirtual 80, 3) := by decide +kernel
theorem dX5_senses_84 : decode cX5_senses 84 = .ok (.aload_n 0, 1) := by decide +kernel
theorem dX5_senses_85 : decode cX5_senses 85 = .ok (.getfield 10, 3) := by decide +kernel
theorem dX5_senses_88 : decode cX5_senses 88 = .ok (.invokevirtual 62, 3) := by decide +kernel
theorem dX5_senses_91 : decode cX5_senses 91 = .ok (.pop, 1) := by decide +kernel
theorem dX5_senses_92 : decode cX5_senses 92 = .ok (.iload_n 1, 1) := by decide +kernel
theorem dX5_senses_93 : decode cX5_senses 93 = .ok (.ireturn, 1) := by decide +kernel
theorem dX5_sense_0 : decode cX5_sense 0 = .ok (.iload_n 1, 1) := by decide +kernel
theorem dX5_sense_1 : decode cX5_sense 1 = .ok (.ifCond .lt 12, 3) := by decide +kernel
theorem dX5_sense_4 : decode cX5_sense 4 = .ok (.iload_n 1, 1) := by decide +kernel
theorem dX5_sense_5 : decode cX5_sense 5 = .ok (.aload_n 0, 1) := by decide +kernel
theorem dX5_sense_6 : decode cX5_sense 6 = .ok (.getfield 16, 3) := by decide +kernel
theorem dX5_sense_9 : decode cX5_sense 9 = .ok (.arraylength, 1) := by decide +kernel
theorem dX5_sense_10 : decode cX5_sense 10 = .ok (.if_icmp .lt 6, 3) := by decide +kernel
theorem dX5_sense_13 : decode cX5_sense 13 = .ok (.bipush (-101), 2) := by decide +kernel
theorem dX5_sense_15 : decode cX5_sense 15 = .ok (.ireturn, 1) := by decide +kernel
theorem dX5_sense_16 : decode cX5_sense 16 = .ok (.aload_n 0, 1) := by decide +kernel
theorem dX5_sense_17 : decode cX5_sense 17 = .ok (.getfield 16, 3) := by decide +kernel
theorem dX5_sense_20 : decode cX5_sense 20 = .ok (.iload_n 1, 1) := by decide +kernel
theorem dX5_sense_21 : decode cX5_sense 21 = .ok (.iaload, 1) := by decide +kernel
theorem dX5_sense_22 : decode cX5_sense 22 = .ok (.ireturn, 1) := by decide +kernel
theorem dX5_reading_0 : decode cX5_reading 0 = .ok (.aload_n 0, 1) := by decide +kernel
theorem dX5_reading_1 : decode cX5_reading 1 = .ok (.getfield 23, 3) := by decide +kernel
theorem dX5_reading_4 : decode cX5_reading 4 = .ok (.iload_n 1, 1) := by decide +kernel
theorem dX5_reading_5 : decode cX5_reading 5 = .ok (.invokevirtual 101, 3) := by decide +kernel
theorem dX5_reading_8 : decode cX5_reading 8 = .ok (.ifCond .ne 6, 3) := by decide +kernel
theorem dX5_reading_11 : decode cX5_reading 11 = .ok (.bipush (-101), 2) := by decide +kernel
theorem dX5_reading_13 : decode cX5_reading 13 = .ok (.ireturn, 1) := by decide +kernel
theorem dX5_reading_14 : decode cX5_reading 14 = .ok (.aload_n 0, 1) := by decide +kernel
theorem dX5_reading_15 : decode cX5_reading 15 = .ok (.getfield 23, 3) := by decide +kernel
theorem dX5_reading_18 : decode cX5_reading 18 = .ok (.iload_n 1, 1) := by decide +kernel
theorem dX5_reading_19 : decode cX5_reading 19 = .ok (.invokevirtual 104, 3) := by decide +kernel
theorem dX5_reading_22 : decode cX5_reading 22 = .ok (.invokestatic 108, 3) := by decide +kernel
theorem dX5_reading_25 : decode cX5_reading 25 = .ok (.ireturn, 1) := by decide +kernel
theorem dX5_isSo_0 : decode cX5_isSo 0 = .ok (.aload_n 0, 1) := by decide +kernel
theorem dX5_isSo_1 : decode cX5_isSo 1 = .ok (.getfield 23, 3) := by decide +kernel
theorem dX5_isSo_4 : decode cX5_isSo 4 = .ok (.iload_n 1, 1) := by decide +kernel
theorem dX5_isSo_5 : decode cX5_isSo 5 = .ok (.invokevirtual 101, 3) := by decide +kernel
theorem dX5_isSo_8 : decode cX5_isSo 8 = .ok (.ifCond .eq 10, 3) := by decide +kernel
theorem dX5_isSo_11 : decode cX5_isSo 11 = .ok (.iload_n 2, 1) := by decide +kernel
theorem dX5_isSo_12 : decode cX5_isSo 12 = .ok (.invokestatic 114, 3) := by decide +kernel
theorem dX5_isSo_15 : decode cX5_isSo 15 = .ok (.ifCond .ne 6, 3) := by decide +kernel
theorem dX5_isSo_18 : decode cX5_isSo 18 = .ok (.bipush (-101), 2) := by decide +kernel
theorem dX5_isSo_20 : decode cX5_isSo 20 = .ok (.ireturn, 1) := by decide +kernel
theorem dX5_isSo_21 : decode cX5_isSo 21 = .ok (.aload_n 0, 1) := by decide +kernel
theorem dX5_isSo_22 : decode cX5_isSo 22 = .ok (.getfield 23, 3) := by decide +kernel
theorem dX5_isSo_25 : decode cX5_isSo 25 = .ok (.iload_n 1, 1) := by decide +kernel
theorem dX5_isSo_26 : decode cX5_isSo 26 = .ok (.invokevirtual 104, 3) := by decide +kernel
theorem dX5_isSo_29 : decode cX5_isSo 29 = .ok (.iload_n 2, 1) := by decide +kernel
theorem dX5_isSo_30 : decode cX5_isSo 30 = .ok (.invokestatic 117, 3) := by decide +kernel
theorem dX5_isSo_33 : decode cX5_isSo 33 = .ok (.ireturn, 1) := by decide +kernel
theorem dX5_come_0 : decode cX5_come 0 = .ok (.iload_n 1, 1) := by decide +kernel
theorem dX5_come_1 : decode cX5_come 1 = .ok (.ifCond .lt 8, 3) := by decide +kernel
theorem dX5_come_4 : decode cX5_come 4 = .ok (.iload_n 1, 1) := by decide +kernel
theorem dX5_come_5 : decode cX5_come 5 = .ok (.iconst 1, 1) := by decide +kernel
theorem dX5_come_6 : decode cX5_come 6 = .ok (.if_icmp .le 6, 3) := by decide +kernel
theorem dX5_come_9 : decode cX5_come 9 = .ok (.bipush (-102), 2) := by decide +kernel
theorem dX5_come_11 : decode cX5_come 11 = .ok (.ireturn, 1) := by decide +kernel
theorem dX5_come_12 : decode cX5_come 12 = .ok (.aload_n 0, 1) := by decide +kernel
theorem dX5_come_13 : decode cX5_come 13 = .ok (.getfield 23, 3) := by decide +kernel
theorem dX5_come_16 : decode cX5_come 16 = .ok (.invokevirtual 121, 3) := by decide +kernel
theorem dX5_come_19 : decode cX5_come 19 = .ok (.ifCond .eq 6, 3) := by decide +kernel
theorem dX5_come_22 : decode cX5_come 22 = .ok (.bipush (-103), 2) := by decide +kernel
theorem dX5_come_24 : decode cX5_come 24 = .ok (.ireturn, 1) := by decide +kernel
theorem dX5_come_25 : decode cX5_come 25 = .ok (.iload_n 1, 1) := by decide +kernel
theorem dX5_come_26 : decode cX5_come 26 = .ok (.ifCond .ne 17, 3) := by decide +kernel
theorem dX5_come_29 : decode cX5_come 29 = .ok (.aload_n 0, 1) := by decide +kernel
theorem dX5_come_30 : decode cX5_come 30 = .ok (.getfield 23, 3) := by decide +kernel
theorem dX5_come_33 : decode cX5_come 33 = .ok (.aload_n 0, 1) := by decide +kernel
theorem dX5_come_34 : decode cX5_come 34 = .ok (.getfield 124, 3) := by decide +kernel
theorem dX5_come_37 : decode cX5_come 37 = .ok (.invokevirtual 127, 3) := by decide +kernel
theorem dX5_come_40 : decode cX5_come 40 = .ok (.goto 14, 3) := by decide +kernel
theorem dX5_come_43 : decode cX5_come 43 = .ok (.aload_n 0, 1) := by decide +kernel
theorem dX5_come_44 : decode cX5_come 44 = .ok (.getfield 23, 3) := by decide +kernel
theorem dX5_come_47 : decode cX5_come 47 = .ok (.aload_n 0, 1) := by decide +kernel
theorem dX5_come_48 : decode cX5_come 48 = .ok (.getfield 124, 3) := by decide +kernel
theorem dX5_come_51 : decode cX5_come 51 = .ok (.invokevirtual 130, 3) := by decide +kernel
theorem dX5_come_54 : decode cX5_come 54 = .ok (.ireturn, 1) := by decide +kernel
theorem dX5_fact_0 : decode cX5_fact 0 = .ok (.iload_n 1, 1) := by decide +kernel
theorem dX5_fact_1 : decode cX5_fact 1 = .ok (.invokestatic 133, 3) := by decide +kernel
theorem dX5_fact_4 : decode cX5_fact 4 = .ok (.ifCond .eq 15, 3) := by decide +kernel
theorem dX5_fact_7 : decode cX5_fact 7 = .ok (.aload_n 0, 1) := by decide +kernel
theorem dX5_fact_8 : decode cX5_fact 8 = .ok (.getfield 124, 3) := by decide +kernel
theorem dX5_fact_11 : decode cX5_fact 11 = .ok (.i2l, 1) := by decide +kernel
theorem dX5_fact_12 : decode cX5_fact 12 = .ok (.iload_n 1, 1) := by decide +kernel
theorem dX5_fact_13 : decode cX5_fact 13 = .ok (.invokestatic 117, 3) := by decide +kernel
theorem dX5_fact_16 : decode cX5_fact 16 = .ok (.goto 5, 3) := by decide +kernel
theorem dX5_fact_19 : decode cX5_fact 19 = .ok (.bipush (-101), 2) := by decide +kernel
theorem dX5_fact_21 : decode cX5_fact 21 = .ok (.ireturn, 1) := by decide +kernel
theorem dX5_set_0 : decode cX5_set 0 = .ok (.iload_n 1, 1) := by decide +kernel
theorem dX5_set_1 : decode cX5_set 1 = .ok (.invokestatic 133, 3) := by decide +kernel
theorem dX5_set_4 : decode cX5_set 4 = .ok (.ifCond .ne 6, 3) := by decide +kernel
theorem dX5_set_7 : decode cX5_set 7 = .ok (.bipush (-101), 2) := by decide +kernel
theorem dX5_set_9 : decode cX5_set 9 = .ok (.ireturn, 1) := by decide +kernel
theorem dX5_set_10 : decode cX5_set 10 = .ok (.iload_n 2, 1) := by decide +kernel
theorem dX5_set_11 : decode cX5_set 11 = .ok (.invokestatic 136, 3) := by decide +kernel
theorem dX5_set_14 : decode cX5_set 14 = .ok (.ifCond .ne 6, 3) := by decide +kernel
theorem dX5_set_17 : decode cX5_set 17 = .ok (.bipush (-102), 2) := by decide +kernel
theorem dX5_set_19 : decode cX5_set 19 = .ok (.ireturn, 1) := by decide +kernel
theorem dX5_set_20 : decode cX5_set 20 = .ok (.aload_n 0, 1) := by decide +kernel
theorem dX5_set_21 : decode cX5_set 21 = .ok (.getfield 124, 3) := by decide +kernel
theorem dX5_set_24 : decode cX5_set 24 = .ok (.i2l, 1) := by decide +kernel
theorem dX5_set_25 : decode cX5_set 25 = .ok (.iload_n 1, 1) := by decide +kernel
theorem dX5_set_26 : decode cX5_set 26 = .ok (.invokestatic 117, 3) := by decide +kernel
theorem dX5_set_29 : decode cX5_set 29 = .ok (.istore_n 3, 1) := by decide +kernel
theorem dX5_set_30 : decode cX5_set 30 = .ok (.aload_n 0, 1) := by decide +kernel
theorem dX5_set_31 : decode cX5_set 31 = .ok (.aload_n 0, 1) := by decide +kernel
theorem dX5_set_32 : decode cX5_set 32 = .ok (.getfield 124, 3) := by decide +kernel
theorem dX5_set_35 : decode cX5_set 35 = .ok (.iload_n 1, 1) := by decide +kernel
theorem dX5_set_36 : decode cX5_set 36 = .ok (.iload_n 2, 1) := by decide +kernel
theorem dX5_set_37 : decode cX5_set 37 = .ok (.invokestatic 139, 3) := by decide +kernel
theorem dX5_set_40 : decode cX5_set 40 = .ok (.putfield 124, 3) := by decide +kernel
theorem dX5_set_43 : decode cX5_set 43 = .ok (.iload_n 3, 1) := by decide +kernel
theorem dX5_set_44 : decode cX5_set 44 = .ok (.ireturn, 1) := by decide +kernel
theorem dX5_hearer_0 : decode cX5_hearer 0 = .ok (.iload_n 2, 1) := by decide +kernel
theorem dX5_hearer_1 : decode cX5_hearer 1 = .ok (.invokestatic 133, 3) := by decide +kernel
theorem dX5_hearer_4 : decode cX5_hearer 4 = .ok (.ifCond .ne 6, 3) := by decide +kernel
theorem dX5_hearer_7 : decode cX5_hearer 7 = .ok (.bipush (-101), 2) := by decide +kernel
theorem dX5_hearer_9 : decode cX5_hearer 9 = .ok (.ireturn, 1) := by decide +kernel
theorem dX5_hearer_10 : decode cX5_hearer 10 = .ok (.iload_n 1, 1) := by decide +kernel
theorem dX5_hearer_11 : decode cX5_hearer 11 = .ok (.invokestatic 143, 3) := by decide +kernel
theorem dX5_hearer_14 : decode cX5_hearer 14 = .ok (.ifCond .eq 10, 3) := by decide +kernel
theorem dX5_hearer_17 : decode cX5_hearer 17 = .ok (.iload_n 3, 1) := by decide +kernel
theorem dX5_hearer_18 : decode cX5_hearer 18 = .ok (.invokestatic 136, 3) := by decide +kernel
theorem dX5_hearer_21 : decode cX5_hearer 21 = .ok (.ifCond .ne 6, 3) := by decide +kernel
theorem dX5_hearer_24 : decode cX5_hearer 24 = .ok (.bipush (-102), 2) := by decide +kernel
theorem dX5_hearer_26 : decode cX5_hearer 26 = .ok (.ireturn, 1) := by decide +kernel
theorem dX5_hearer_27 : decode cX5_hearer 27 = .ok (.aload_n 0, 1) := by decide +kernel
theorem dX5_hearer_28 : decode cX5_hearer 28 = .ok (.getfield 36, 3) := by decide +kernel
theorem dX5_hearer_31 : decode cX5_hearer 31 = .ok (.iload_n 1, 1) := by decide +kernel
theorem dX5_hearer_32 : decode cX5_hearer 32 = .ok (.iload_n 2, 1) := by decide +kernel
theorem dX5_hearer_33 : decode cX5_hearer 33 = .ok (.iload_n 3, 1) := by decide +kernel
theorem dX5_hearer_34 : decode cX5_hearer 34 = .ok (.invokevirtual 146, 3) := by decide +kernel
theorem dX5_hearer_37 : decode cX5_hearer 37 = .ok (.ifCond .eq 15, 3) := by decide +kernel
theorem dX5_hearer_40 : decode cX5_hearer 40 = .ok (.aload_n 0, 1) := by decide +kernel
theorem dX5_hearer_41 : decode cX5_hearer 41 = .ok (.getfield 36, 3) := by decide +kernel
theorem dX5_hearer_44 : decode cX5_hearer 44 = .ok (.getfield 150, 3) := by decide +kernel
theorem dX5_hearer_47 : decode cX5_hearer 47 = .ok (.iconst 1, 1) := by decide +kernel
theorem dX5_hearer_48 : decode cX5_hearer 48 = .ok (.isub, 1) := by decide +kernel
theorem dX5_hearer_49 : decode cX5_hearer 49 = .ok (.goto 5, 3) := by decide +kernel
theorem dX5_hearer_52 : decode cX5_hearer 52 = .ok (.bipush (-104), 2) := by decide +kernel
theorem dX5_hearer_54 : decode cX5_hearer 54 = .ok (.ireturn, 1) := by decide +kernel
theorem dX5_about_0 : decode cX5_about 0 = .ok (.aload_n 0, 1) := by decide +kernel
theorem dX5_about_1 : decode cX5_about 1 = .ok (.getfield 36, 3) := by decide +kernel
theorem dX5_about_4 : decode cX5_about 4 = .ok (.iload_n 1, 1) := by decide +kernel
theorem dX5_about_5 : decode cX5_about 5 = .ok (.invokevirtual 153, 3) := by decide +kernel
theorem dX5_about_8 : decode cX5_about 8 = .ok (.ifCond .ne 6, 3) := by decide +kernel
theorem dX5_about_11 : decode cX5_about 11 = .ok (.bipush (-101), 2) := by decide +kernel
theorem dX5_about_13 : decode cX5_about 13 = .ok (.ireturn, 1) := by decide +kernel
theorem dX5_about_14 : decode cX5_about 14 = .ok (.iload_n 2, 1) := by decide +kernel
theorem dX5_about_15 : decode cX5_about 15 = .ok (.tableswitch 93 0 5 #[37, 46, 55, 64, 70, 84], 37) := by decide +kernel
theorem dX5_about_52 : decode cX5_about 52 = .ok (.aload_n 0, 1) := by decide +kernel
theorem dX5_about_53 : decode cX5_about 53 = .ok (.getfield 36, 3) := by decide +kernel
theorem dX5_about_56 : decode cX5_about 56 = .ok (.iload_n 1, 1) := by decide +kernel
theorem dX5_about_57 : decode cX5_about 57 = .ok (.invokevirtual 156, 3) := by decide +kernel
theorem dX5_about_60 : decode cX5_about 60 = .ok (.ireturn, 1) := by decide +kernel
theorem dX5_about_61 : decode cX5_about 61 = .ok (.aload_n 0, 1) := by decide +kernel
theorem dX5_about_62 : decode cX5_about 62 = .ok (.getfield 36, 3) := by decide +kernel
theorem dX5_about_65 : decode cX5_about 65 = .ok (.iload_n 1, 1) := by decide +kernel
theorem dX5_about_66 : decode cX5_about 66 = .ok (.invokevirtual 159, 3) := by decide +kernel
theorem dX5_about_69 : decode cX5_about 69 = .ok (.ireturn, 1) := by decide +kernel
theorem dX5_about_70 : decode cX5_about 70 = .ok (.aload_n 0, 1) := by decide +kernel
theorem dX5_about_71 : decode cX5_about 71 = .ok (.getfield 36, 3) := by decide +kernel
theorem dX5_about_74 : decode cX5_about 74 = .ok (.iload_n 1, 1) := by decide +kernel
theorem dX5_about_75 : decode cX5_about 75 = .ok (.invokevirtual 162, 3) := by decide +kernel
theorem dX5_about_78 : decode cX5_about 78 = .ok (.ireturn, 1) := by decide +kernel
theorem dX5_about_79 : decode cX5_about 79 = .ok (.aload_n 0, 1) := by decide +kernel
theorem dX5_about_80 : decode cX5_about 80 = .ok (.iload_n 1, 1) := by decide +kernel
theorem dX5_about_81 : decode cX5_about 81 = .ok (.invokevirtual 165, 3) := by decide +kernel
theorem dX5_about_84 : decode cX5_about 84 = .ok (.ireturn, 1) := by decide +kernel
theorem dX5_about_85 : decode cX5_about 85 = .ok (.aload_n 0, 1) := by decide +kernel
theorem dX5_about_86 : decode cX5_about 86 = .ok (.iload_n 1, 1) := by decide +kernel
theorem dX5_about_87 : decode cX5_about 87 = .ok (.invokevirtual 168, 3) := by decide +kernel
theorem dX5_about_90 : decode cX5_about 90 = .ok (.ifCond .eq 7, 3) := by decide +kernel
theorem dX5_about_93 : decode cX5_about 93 = .ok (.iconst 1, 1) := by decide +kernel
theorem dX5_about_94 : decode cX5_about 94 = .ok (.goto 4, 3) := by decide +kernel
theorem dX5_about_97 : decode cX5_about 97 = .ok (.iconst 0, 1) := by decide +kernel
theorem dX5_about_98 : decode cX5_about 98 = .ok (.ireturn, 1) := by decide +kernel
theorem dX5_about_99 : decode cX5_about 99 = .ok (.aload_n 0, 1) := by decide +kernel
theorem dX5_about_100 : decode cX5_about 100 = .ok (.getfield 36, 3) := by decide +kernel
theorem dX5_about_103 : decode cX5_about 103 = .ok (.iload_n 1, 1) := by decide +kernel
theorem dX5_about_104 : decode cX5_about 104 = .ok (.invokevirtual 171, 3) := by decide +kernel
theorem dX5_about_107 : decode cX5_about 107 = .ok (.ireturn, 1) := by decide +kernel
theorem dX5_about_108 : decode cX5_about 108 = .ok (.bipush (-102), 2) := by decide +kernel
theorem dX5_about_110 : decode cX5_about 110 = .ok (.ireturn, 1) := by decide +kernel
theorem dX5_as_0 : decode cX5_as 0 = .ok (.aload_n 0, 1) := by decide +kernel
theorem dX5_as_1 : decode cX5_as 1 = .ok (.getfield 36, 3) := by decide +kernel
theorem dX5_as_4 : decode cX5_as 4 = .ok (.iload_n 1, 1) := by decide +kernel
theorem dX5_as_5 : decode cX5_as 5 = .ok (.invokevirtual 153, 3) := by decide +kernel
theorem dX5_as_8 : decode cX5_as 8 = .ok (.ifCond .ne 6, 3) := by decide +kernel
theorem dX5_as_11 : decode cX5_as 11 = .ok (.bipush (-101), 2) := by decide +kernel
theorem dX5_as_13 : decode cX5_as 13 = .ok (.ireturn, 1) := by decide +kernel
theorem dX5_as_14 : decode cX5_as 14 = .ok (.iload_n 2, 1) := by decide +kernel
theorem dX5_as_15 : decode cX5_as 15 = .ok (.invokestatic 143, 3) := by decide +kernel
theorem dX5_as_18 : decode cX5_as 18 = .ok (.ifCond .ne 6, 3) := by decide +kernel
theorem dX5_as_21 : decode cX5_as 21 = .ok (.bipush (-102), 2) := by decide +kernel
theorem dX5_as_23 : decode cX5_as 23 = .ok (.ireturn, 1) := by decide +kernel
theorem dX5_as_24 : decode cX5_as 24 = .ok (.aload_n 0, 1) := by decide +kernel
theorem dX5_as_25 : decode cX5_as 25 = .ok (.getfield 36, 3) := by decide +kernel
theorem dX5_as_28 : decode cX5_as 28 = .ok (.iload_n 1, 1) := by decide +kernel
theorem dX5_as_29 : decode cX5_as 29 = .ok (.invokevirtual 156, 3) := by decide +kernel
theorem dX5_as_32 : decode cX5_as 32 = .ok (.iload_n 2, 1) := by decide +kernel
theorem dX5_as_33 : decode cX5_as 33 = .ok (.invokestatic 174, 3) := by decide +kernel
theorem dX5_as_36 : decode cX5_as 36 = .ok (.ifCond .eq 7, 3) := by decide +kernel
theorem dX5_as_39 : decode cX5_as 39 = .ok (.iload_n 1, 1) := by decide +kernel
theorem dX5_as_40 : decode cX5_as 40 = .ok (.goto 4, 3) := by decide +kernel
theorem dX5_as_43 : decode cX5_as 43 = .ok (.iconst (-1), 1) := by decide +kernel
theorem dX5_as_44 : decode cX5_as 44 = .ok (.ireturn, 1) := by decide +kernel
theorem dX5_act_0 : decode cX5_act 0 = .ok (.aload_n 0, 1) := by decide +kernel
theorem dX5_act_1 : decode cX5_act 1 = .ok (.getfield 36, 3) := by decide +kernel
theorem dX5_act_4 : decode cX5_act 4 = .ok (.iload_n 1, 1) := by decide +kernel
theorem dX5_act_5 : decode cX5_act 5 = .ok (.invokevirtual 153, 3) := by decide +kernel
theorem dX5_act_8 : decode cX5_act 8 = .ok (.ifCond .ne 6, 3) := by decide +kernel
theorem dX5_act_11 : decode cX5_act 11 = .ok (.bipush (-101), 2) := by decide +kernel
theorem dX5_act_13 : decode cX5_act 13 = .ok (.ireturn, 1) := by decide +kernel
theorem dX5_act_14 : decode cX5_act 14 = .ok (.aload_n 0, 1) := by decide +kernel
theorem dX5_act_15 : decode cX5_act 15 = .ok (.getfield 23, 3) := by decide +kernel
theorem dX5_act_18 : decode cX5_act 18 = .ok (.invokevirtual 121, 3) := by decide +kernel
theorem dX5_act_21 : decode cX5_act 21 = .ok (.ifCond .eq 6, 3) := by decide +kernel
theorem dX5_act_24 : decode cX5_act 24 = .ok (.bipush (-103), 2) := by decide +kernel
theorem dX5_act_26 : decode cX5_act 26 = .ok (.ireturn, 1) := by decide +kernel
theorem dX5_act_27 : decode cX5_act 27 = .ok (.aload_n 0, 1) := by decide +kernel
theorem dX5_act_28 : decode cX5_act 28 = .ok (.iload_n 1, 1) := by decide +kernel
theorem dX5_act_29 : decode cX5_act 29 = .ok (.invokevirtual 178, 3) := by decide +kernel
theorem dX5_act_32 : decode cX5_act 32 = .ok (.aload_n 0, 1) := by decide +kernel
theorem dX5_act_33 : decode cX5_act 33 = .ok (.getfield 124, 3) := by decide +kernel
theorem dX5_act_36 : decode cX5_act 36 = .ok (.ireturn, 1) := by decide +kernel
theorem dX5_round_0 : decode cX5_round 0 = .ok (.aload_n 0, 1) := by decide +kernel
theorem dX5_round_1 : decode cX5_round 1 = .ok (.getfield 23, 3) := by decide +kernel
theorem dX5_round_4 : decode cX5_round 4 = .ok (.invokevirtual 121, 3) := by decide +kernel
theorem dX5_round_7 : decode cX5_round 7 = .ok (.ifCond .eq 6, 3) := by decide +kernel
theorem dX5_round_10 : decode cX5_round 10 = .ok (.bipush (-103), 2) := by decide +kernel
theorem dX5_round_12 : decode cX5_round 12 = .ok (.ireturn, 1) := by decide +kernel
theorem dX5_round_13 : decode cX5_round 13 = .ok (.iconst 0, 1) := by decide +kernel
theorem dX5_round_14 : decode cX5_round 14 = .ok (.istore_n 1, 1) := by decide +kernel
theorem dX5_round_15 : decode cX5_round 15 = .ok (.iload_n 1, 1) := by decide +kernel
theorem dX5_round_16 : decode cX5_round 16 = .ok (.aload_n 0, 1) := by decide +kernel
theorem dX5_round_17 : decode cX5_round 17 = .ok (.getfield 36, 3) := by decide +kernel
theorem dX5_round_20 : decode cX5_round 20 = .ok (.getfield 150, 3) := by decide +kernel
theorem dX5_round_23 : decode cX5_round 23 = .ok (.if_icmp .ge 14, 3) := by decide +kernel
theorem dX5_round_26 : decode cX5_round 26 = .ok (.aload_n 0, 1) := by decide +kernel
theorem dX5_round_27 : decode cX5_round 27 = .ok (.iload_n 1, 1) := by decide +kernel
theorem dX5_round_28 : decode cX5_round 28 = .ok (.invokevirtual 178, 3) := by decide +kernel
theorem dX5_round_31 : decode cX5_round 31 = .ok (.iinc 1 1, 3) := by decide +kernel
theorem dX5_round_34 : decode cX5_round 34 = .ok (.goto (-19), 3) := by decide +kernel
theorem dX5_round_37 : decode cX5_round 37 = .ok (.aload_n 0, 1) := by decide +kernel
theorem dX5_round_38 : decode cX5_round 38 = .ok (.dup, 1) := by decide +kernel
theorem dX5_round_39 : decode cX5_round 39 = .ok (.getfield 182, 3) := by decide +kernel
theorem dX5_round_42 : decode cX5_round 42 = .ok (.iconst 1, 1) := by decide +kernel
theorem dX5_round_43 : decode cX5_round 43 = .ok (.iadd, 1) := by decide +kernel
theorem dX5_round_44 : decode cX5_round 44 = .ok (.putfield 182, 3) := by decide +kernel
theorem dX5_round_47 : decode cX5_round 47 = .ok (.aload_n 0, 1) := by decide +kernel
theorem dX5_round_48 : decode cX5_round 48 = .ok (.getfield 124, 3) := by decide +kernel
theorem dX5_round_51 : decode cX5_round 51 = .ok (.ireturn, 1) := by decide +kernel
theorem dX5_anyhow_0 : decode cX5_anyhow 0 = .ok (.aload_n 0, 1) := by decide +kernel
theorem dX5_anyhow_1 : decode cX5_anyhow 1 = .ok (.getfield 23, 3) := by decide +kernel
theorem dX5_anyhow_4 : decode cX5_anyhow 4 = .ok (.invokevirtual 121, 3) := by decide +kernel
theorem dX5_anyhow_7 : decode cX5_anyhow 7 = .ok (.ifCond .eq 6, 3) := by decide +kernel
theorem dX5_anyhow_10 : decode cX5_anyhow 10 = .ok (.bipush (-103), 2) := by decide +kernel
theorem dX5_anyhow_12 : decode cX5_anyhow 12 = .ok (.ireturn, 1) := by decide +kernel
theorem dX5_anyhow_13 : decode cX5_anyhow 13 = .ok (.iconst 0, 1) := by decide +kernel
theorem dX5_anyhow_14 : decode cX5_anyhow 14 = .ok (.istore_n 1, 1) := by decide +kernel
theorem dX5_anyhow_15 : decode cX5_anyhow 15 = .ok (.iconst 0, 1) := by decide +kernel
theorem dX5_anyhow_16 : decode cX5_anyhow 16 = .ok (.istore_n 2, 1) := by decide +kernel
theorem dX5_anyhow_17 : decode cX5_anyhow 17 = .ok (.iload_n 2, 1) := by decide +kernel
theorem dX5_anyhow_18 : decode cX5_anyhow 18 = .ok (.bipush 64, 2) := by decide +kernel
theorem dX5_anyhow_20 : decode cX5_anyhow 20 = .ok (.if_icmp .ge 27, 3) := by decide +kernel
theorem dX5_anyhow_23 : decode cX5_anyhow 23 = .ok (.iload_n 1, 1) := by decide +kernel
theorem dX5_anyhow_24 : decode cX5_anyhow 24 = .ok (.aload_n 0, 1) := by decide +kernel
theorem dX5_anyhow_25 : decode cX5_anyhow 25 = .ok (.getfield 23, 3) := by decide +kernel
theorem dX5_anyhow_28 : decode cX5_anyhow 28 = .ok (.getfield 185, 3) := by decide +kernel
theorem dX5_anyhow_31 : decode cX5_anyhow 31 = .ok (.aload_n 0, 1) := by decide +kernel
theorem dX5_anyhow_32 : decode cX5_anyhow 32 = .ok (.iload_n 2, 1) := by decide +kernel
theorem dX5_anyhow_33 : decode cX5_anyhow 33 = .ok (.invokevirtual 189, 3) := by decide +kernel
theorem dX5_anyhow_36 : decode cX5_anyhow 36 = .ok (.invokestatic 117, 3) := by decide +kernel
theorem dX5_anyhow_39 : decode cX5_anyhow 39 = .ok (.iadd, 1) := by decide +kernel
theorem dX5_anyhow_40 : decode cX5_anyhow 40 = .ok (.istore_n 1, 1) := by decide +kernel
theorem dX5_anyhow_41 : decode cX5_anyhow 41 = .ok (.iinc 2 1, 3) := by decide +kernel
theorem dX5_anyhow_44 : decode cX5_anyhow 44 = .ok (.goto (-27), 3) := by decide +kernel
theorem dX5_anyhow_47 : decode cX5_anyhow 47 = .ok (.iload_n 1, 1) := by decide +kernel
theorem dX5_anyhow_48 : decode cX5_anyhow 48 = .ok (.ireturn, 1) := by decide +kernel
theorem dX5_left_0 : decode cX5_left 0 = .ok (.iload_n 1, 1) := by decide +kernel
theorem dX5_left_1 : decode cX5_left 1 = .ok (.ifCond .lt 8, 3) := by decide +kernel
theorem dX5_left_4 : decode cX5_left 4 = .ok (.iload_n 1, 1) := by decide +kernel
theorem dX5_left_5 : decode cX5_left 5 = .ok (.iconst 2, 1) := by decide +kernel
theorem dX5_left_6 : decode cX5_left 6 = .ok (.if_icmp .le 6, 3) := by decide +kernel
theorem dX5_left_9 : decode cX5_left 9 = .ok (.bipush (-102), 2) := by decide +kernel
theorem dX5_left_11 : decode cX5_left 11 = .ok (.ireturn, 1) := by decide +kernel
theorem dX5_left_12 : decode cX5_left 12 = .ok (.aload_n 0, 1) := by decide +kernel
theorem dX5_left_13 : decode cX5_left 13 = .ok (.getfield 23, 3) := by decide +kernel
theorem dX5_left_16 : decode cX5_left 16 = .ok (.invokevirtual 121, 3) := by decide +kernel
theorem dX5_left_19 : decode cX5_left 19 = .ok (.ifCond .eq 6, 3) := by decide +kernel
theorem dX5_left_22 : decode cX5_left 22 = .ok (.bipush (-103), 2) := by decide +kernel
theorem dX5_left_24 : decode cX5_left 24 = .ok (.ireturn, 1) := by decide +kernel
theorem dX5_left_25 : decode cX5_left 25 = .ok (.aload_n 0, 1) := by decide +kernel
theorem dX5_left_26 : decode cX5_left 26 = .ok (.invokevirtual 192, 3) := by decide +kernel
theorem dX5_left_29 : decode cX5_left 29 = .ok (.lstore_n 2, 1) := by decide +kernel
theorem dX5_left_30 : decode cX5_left 30 = .ok (.iload_n 1, 1) := by decide +kernel
theorem dX5_left_31 : decode cX5_left 31 = .ok (.lookupswitch 35 #[(0, 25), (1, 30)], 25) := by decide +kernel
theorem dX5_left_56 : decode cX5_left 56 = .ok (.lload_n 2, 1) := by decide +kernel
theorem dX5_left_57 : decode cX5_left 57 = .ok (.invokestatic 108, 3) := by decide +kernel
theorem dX5_left_60 : decode cX5_left 60 = .ok (.ireturn, 1) := by decide +kernel
theorem dX5_left_61 : decode cX5_left 61 = .ok (.lload_n 2, 1) := by decide +kernel
theorem dX5_left_62 : decode cX5_left 62 = .ok (.invokestatic 196, 3) := by decide +kernel
theorem dX5_left_65 : decode cX5_left 65 = .ok (.ireturn, 1) := by decide +kernel
theorem dX5_left_66 : decode cX5_left 66 = .ok (.lload_n 2, 1) := by decide +kernel
theorem dX5_left_67 : decode cX5_left 67 = .ok (.invokestatic 199, 3) := by decide +kernel
theorem dX5_left_70 : decode cX5_left 70 = .ok (.ireturn, 1) := by decide +kernel
theorem dX5_ask_0 : decode cX5_ask 0 = .ok (.aload_n 0, 1) := by decide +kernel
theorem dX5_ask_1 : decode cX5_ask 1 = .ok (.getfield 23, 3) := by decide +kernel
theorem dX5_ask_4 : decode cX5_ask 4 = .ok (.invokevirtual 121, 3) := by decide +kernel
theorem dX5_ask_7 : decode cX5_ask 7 = .ok (.ifCond .eq 6, 3) := by decide +kernel
theorem dX5_ask_10 : decode cX5_ask 10 = .ok (.bipush (-103), 2) := by decide +kernel
theorem dX5_ask_12 : decode cX5_ask 12 = .ok (.ireturn, 1) := by decide +kernel
theorem dX5_ask_13 : decode cX5_ask 13 = .ok (.iconst 0, 1) := by decide +kernel
theorem dX5_ask_14 : decode cX5_ask 14 = .ok (.istore_n 1, 1) := by decide +kernel
theorem dX5_ask_15 : decode cX5_ask 15 = .ok (.aload_n 0, 1) := by decide +kernel
theorem dX5_ask_16 : decode cX5_ask 16 = .ok (.iconst 0, 1) := by decide +kernel
theorem dX5_ask_17 : decode cX5_ask 17 = .ok (.invokevirtual 202, 3) := by decide +kernel
theorem dX5_ask_20 : decode cX5_ask 20 = .ok (.istore_n 2, 1) := by decide +kernel
theorem dX5_ask_21 : decode cX5_ask 21 = .ok (.iconst 1, 1) := by decide +kernel
theorem dX5_ask_22 : decode cX5_ask 22 = .ok (.istore_n 3, 1) := by decide +kernel
theorem dX5_ask_23 : decode cX5_ask 23 = .ok (.iload_n 3, 1) := by decide +kernel
theorem dX5_ask_24 : decode cX5_ask 24 = .ok (.bipush 6, 2) := by decide +kernel
theorem dX5_ask_26 : decode cX5_ask 26 = .ok (.if_icmp .ge 27, 3) := by decide +kernel
theorem dX5_ask_29 : decode cX5_ask 29 = .ok (.aload_n 0, 1) := by decide +kernel
theorem dX5_ask_30 : decode cX5_ask 30 = .ok (.iload_n 3, 1) := by decide +kernel
theorem dX5_ask_31 : decode cX5_ask 31 = .ok (.invokevirtual 202, 3) := by decide +kernel
theorem dX5_ask_34 : decode cX5_ask 34 = .ok (.istore 4, 2) := by decide +kernel
theorem dX5_ask_36 : decode cX5_ask 36 = .ok (.iload 4, 2) := by decide +kernel
theorem dX5_ask_38 : decode cX5_ask 38 = .ok (.iload_n 2, 1) := by decide +kernel
theorem dX5_ask_39 : decode cX5_ask 39 = .ok (.if_icmp .ge 8, 3) := by decide +kernel
theorem dX5_ask_42 : decode cX5_ask 42 = .ok (.iload 4, 2) := by decide +kernel
theorem dX5_ask_44 : decode cX5_ask 44 = .ok (.istore_n 2, 1) := by decide +kernel
theorem dX5_ask_45 : decode cX5_ask 45 = .ok (.iload_n 3, 1) := by decide +kernel
theorem dX5_ask_46 : decode cX5_ask 46 = .ok (.istore_n 1, 1) := by decide +kernel
theorem dX5_ask_47 : decode cX5_ask 47 = .ok (.iinc 3 1, 3) := by decide +kernel
theorem dX5_ask_50 : decode cX5_ask 50 = .ok (.goto (-27), 3) := by decide +kernel
theorem dX5_ask_53 : decode cX5_ask 53 = .ok (.iload_n 1, 1) := by decide +kernel
theorem dX5_ask_54 : decode cX5_ask 54 = .ok (.ireturn, 1) := by decide +kernel
theorem dX5_add_0 : decode cX5_add 0 = .ok (.iload_n 1, 1) := by decide +kernel
theorem dX5_add_1 : decode cX5_add 1 = .ok (.ifCond .lt 8, 3) := by decide +kernel
theorem dX5_add_4 : decode cX5_add 4 = .ok (.iload_n 1, 1) := by decide +kernel
theorem dX5_add_5 : decode cX5_add 5 = .ok (.iconst 1, 1) := by decide +kernel
theorem dX5_add_6 : decode cX5_add 6 = .ok (.if_icmp .le 6, 3) := by decide +kernel
theorem dX5_add_9 : decode cX5_add 9 = .ok (.bipush (-102), 2) := by decide +kernel
theorem dX5_add_11 : decode cX5_add 11 = .ok (.ireturn, 1) := by decide +kernel
theorem dX5_add_12 : decode cX5_add 12 = .ok (.aload_n 0, 1) := by decide +kernel
theorem dX5_add_13 : decode cX5_add 13 = .ok (.getfield 23, 3) := by decide +kernel
theorem dX5_add_16 : decode cX5_add 16 = .ok (.invokevirtual 121, 3) := by decide +kernel
theorem dX5_add_19 : decode cX5_add 19 = .ok (.ifCond .ne 23, 3) := by decide +kernel
theorem dX5_add_22 : decode cX5_add 22 = .ok (.aload_n 0, 1) := by decide +kernel
theorem dX5_add_23 : decode cX5_add 23 = .ok (.getfield 23, 3) := by decide +kernel
theorem dX5_add_26 : decode cX5_add 26 = .ok (.getfield 205, 3) := by decide +kernel
theorem dX5_add_29 : decode cX5_add 29 = .ok (.iconst 4, 1) := by decide +kernel
theorem dX5_add_30 : decode cX5_add 30 = .ok (.if_icmp .ge 12, 3) := by decide +kernel
theorem dX5_add_33 : decode cX5_add 33 = .ok (.aload_n 0, 1) := by decide +kernel
theorem dX5_add_34 : decode cX5_add 34 = .ok (.getfield 208, 3) := by decide +kernel
theorem dX5_add_37 : decode cX5_add 37 = .ok (.bipush 60, 2) := by decide +kernel
theorem dX5_add_39 : decode cX5_add 39 = .ok (.if_icmp .lt 6, 3) := by decide +kernel
theorem dX5_add_42 : decode cX5_add 42 = .ok (.bipush (-103), 2) := by decide +kernel
theorem dX5_add_44 : decode cX5_add 44 = .ok (.ireturn, 1) := by decide +kernel
theorem dX5_add_45 : decode cX5_add 45 = .ok (.aload_n 0, 1) := by decide +kernel
theorem dX5_add_46 : decode cX5_add 46 = .ok (.dup, 1) := by decide +kernel
theorem dX5_add_47 : decode cX5_add 47 = .ok (.getfield 208, 3) := by decide +kernel
theorem dX5_add_50 : decode cX5_add 50 = .ok (.iconst 1, 1) := by decide +kernel
theorem dX5_add_51 : decode cX5_add 51 = .ok (.iadd, 1) := by decide +kernel
theorem dX5_add_52 : decode cX5_add 52 = .ok (.putfield 208, 3) := by decide +kernel
theorem dX5_add_55 : decode cX5_add 55 = .ok (.iconst 0, 1) := by decide +kernel
theorem dX5_add_56 : decode cX5_add 56 = .ok (.istore_n 2, 1) := by decide +kernel
theorem dX5_add_57 : decode cX5_add 57 = .ok (.aload_n 0, 1) := by decide +kernel
theorem dX5_add_58 : decode cX5_add 58 = .ok (.iconst 0, 1) := by decide +kernel
theorem dX5_add_59 : decode cX5_add 59 = .ok (.invokevirtual 211, 3) := by decide +kernel
theorem dX5_add_62 : decode cX5_add 62 = .ok (.istore_n 3, 1) := by decide +kernel
theorem dX5_add_63 : decode cX5_add 63 = .ok (.iconst 1, 1) := by decide +kernel
theorem dX5_add_64 : decode cX5_add 64 = .ok (.istore 4, 2) := by decide +kernel
theorem dX5_add_66 : decode cX5_add 66 = .ok (.iload 4, 2) := by decide +kernel
theorem dX5_add_68 : decode cX5_add 68 = .ok (.bipush 24, 2) := by decide +kernel
theorem dX5_add_70 : decode cX5_add 70 = .ok (.if_icmp .ge 29, 3) := by decide +kernel
theorem dX5_add_73 : decode cX5_add 73 = .ok (.aload_n 0, 1) := by decide +kernel
theorem dX5_add_74 : decode cX5_add 74 = .ok (.iload 4, 2) := by decide +kernel
theorem dX5_add_76 : decode cX5_add 76 = .ok (.invokevirtual 211, 3) := by decide +kernel
theorem dX5_add_79 : decode cX5_add 79 = .ok (.istore 5, 2) := by decide +kernel
theorem dX5_add_81 : decode cX5_add 81 = .ok (.iload 5, 2) := by decide +kernel
theorem dX5_add_83 : decode cX5_add 83 = .ok (.iload_n 3, 1) := by decide +kernel
theorem dX5_add_84 : decode cX5_add 84 = .ok (.if_icmp .le 9, 3) := by decide +kernel
theorem dX5_add_87 : decode cX5_add 87 = .ok (.iload 5, 2) := by decide +kernel
theorem dX5_add_89 : decode cX5_add 89 = .ok (.istore_n 3, 1) := by decide +kernel
theorem dX5_add_90 : decode cX5_add 90 = .ok (.iload 4, 2) := by decide +kernel
theorem dX5_add_92 : decode cX5_add 92 = .ok (.istore_n 2, 1) := by decide +kernel
theorem dX5_add_93 : decode cX5_add 93 = .ok (.iinc 4 1, 3) := by decide +kernel
theorem dX5_add_96 : decode cX5_add 96 = .ok (.goto (-30), 3) := by decide +kernel
theorem dX5_add_99 : decode cX5_add 99 = .ok (.iload_n 1, 1) := by decide +kernel
theorem dX5_add_100 : decode cX5_add 100 = .ok (.ifCond .ne 7, 3) := by decide +kernel
theorem dX5_add_103 : decode cX5_add 103 = .ok (.iload_n 2, 1) := by decide +kernel
theorem dX5_add_104 : decode cX5_add 104 = .ok (.goto 4, 3) := by decide +kernel
theorem dX5_add_107 : decode cX5_add 107 = .ok (.iload_n 3, 1) := by decide +kernel
theorem dX5_add_108 : decode cX5_add 108 = .ok (.ireturn, 1) := by decide +kernel
theorem dX5_tell_0 : decode cX5_tell 0 = .ok (.iload_n 1, 1) := by decide +kernel
theorem dX5_tell_1 : decode cX5_tell 1 = .ok (.invokestatic 114, 3) := by decide +kernel
theorem dX5_tell_4 : decode cX5_tell 4 = .ok (.ifCond .ne 6, 3) := by decide +kernel
theorem dX5_tell_7 : decode cX5_tell 7 = .ok (.bipush (-101), 2) := by decide +kernel
theorem dX5_tell_9 : decode cX5_tell 9 = .ok (.ireturn, 1) := by decide +kernel
theorem dX5_tell_10 : decode cX5_tell 10 = .ok (.aload_n 0, 1) := by decide +kernel
theorem dX5_tell_11 : decode cX5_tell 11 = .ok (.getfield 43, 3) := by decide +kernel
theorem dX5_tell_14 : decode cX5_tell 14 = .ok (.getfield 214, 3) := by decide +kernel
theorem dX5_tell_17 : decode cX5_tell 17 = .ok (.istore_n 2, 1) := by decide +kernel
theorem dX5_tell_18 : decode cX5_tell 18 = .ok (.aload_n 0, 1) := by decide +kernel
theorem dX5_tell_19 : decode cX5_tell 19 = .ok (.getfield 43, 3) := by decide +kernel
theorem dX5_tell_22 : decode cX5_tell 22 = .ok (.iconst 0, 1) := by decide +kernel
theorem dX5_tell_23 : decode cX5_tell 23 = .ok (.putfield 214, 3) := by decide +kernel
theorem dX5_tell_26 : decode cX5_tell 26 = .ok (.aload_n 0, 1) := by decide +kernel
theorem dX5_tell_27 : decode cX5_tell 27 = .ok (.getfield 43, 3) := by decide +kernel
theorem dX5_tell_30 : decode cX5_tell 30 = .ok (.iload_n 1, 1) := by decide +kernel
theorem dX5_tell_31 : decode cX5_tell 31 = .ok (.invokevirtual 215, 3) := by decide +kernel
theorem dX5_tell_34 : decode cX5_tell 34 = .ok (.pop, 1) := by decide +kernel
theorem dX5_tell_35 : decode cX5_tell 35 = .ok (.iload_n 2, 1) := by decide +kernel
theorem dX5_tell_36 : decode cX5_tell 36 = .ok (.ireturn, 1) := by decide +kernel
theorem dX5_then_0 : decode cX5_then 0 = .ok (.aload_n 0, 1) := by decide +kernel
theorem dX5_then_1 : decode cX5_then 1 = .ok (.getfield 43, 3) := by decide +kernel
theorem dX5_then_4 : decode cX5_then 4 = .ok (.getfield 214, 3) := by decide +kernel
theorem dX5_then_7 : decode cX5_then 7 = .ok (.ifCond .ne 6, 3) := by decide +kernel
theorem dX5_then_10 : decode cX5_then 10 = .ok (.bipush (-103), 2) := by decide +kernel
theorem dX5_then_12 : decode cX5_then 12 = .ok (.ireturn, 1) := by decide +kernel
theorem dX5_then_13 : decode cX5_then 13 = .ok (.iload_n 1, 1) := by decide +kernel
theorem dX5_then_14 : decode cX5_then 14 = .ok (.invokestatic 114, 3) := by decide +kernel
theorem dX5_then_17 : decode cX5_then 17 = .ok (.ifCond .ne 6, 3) := by decide +kernel
theorem dX5_then_20 : decode cX5_then 20 = .ok (.bipush (-101), 2) := by decide +kernel
theorem dX5_then_22 : decode cX5_then 22 = .ok (.ireturn, 1) := by decide +kernel
theorem dX5_then_23 : decode cX5_then 23 = .ok (.aload_n 0, 1) := by decide +kernel
theorem dX5_then_24 : decode cX5_then 24 = .ok (.getfield 43, 3) := by decide +kernel
theorem dX5_then_27 : decode cX5_then 27 = .ok (.iload_n 1, 1) := by decide +kernel
theorem dX5_then_28 : decode cX5_then 28 = .ok (.invokevirtual 215, 3) := by decide +kernel
theorem dX5_then_31 : decode cX5_then 31 = .ok (.ifCond .eq 13, 3) := by decide +kernel
theorem dX5_then_34 : decode cX5_then 34 = .ok (.aload_n 0, 1) := by decide +kernel
theorem dX5_then_35 : decode cX5_then 35 = .ok (.getfield 43, 3) := by decide +kernel
theorem dX5_then_38 : decode cX5_then 38 = .ok (.getfield 214, 3) := by decide +kernel
theorem dX5_then_41 : decode cX5_then 41 = .ok (.goto 5, 3) := by decide +kernel
theorem dX5_then_44 : decode cX5_then 44 = .ok (.bipush (-104), 2) := by decide +kernel
theorem dX5_then_46 : decode cX5_then 46 = .ok (.ireturn, 1) := by decide +kernel
theorem dX5_fits_0 : decode cX5_fits 0 = .ok (.aload_n 0, 1) := by decide +kernel
theorem dX5_fits_1 : decode cX5_fits 1 = .ok (.getfield 36, 3) := by decide +kernel
theorem dX5_fits_4 : decode cX5_fits 4 = .ok (.iload_n 1, 1) := by decide +kernel
theorem dX5_fits_5 : decode cX5_fits 5 = .ok (.invokevirtual 153, 3) := by decide +kernel
theorem dX5_fits_8 : decode cX5_fits 8 = .ok (.ifCond .ne 6, 3) := by decide +kernel
theorem dX5_fits_11 : decode cX5_fits 11 = .ok (.bipush (-101), 2) := by decide +kernel
theorem dX5_fits_13 : decode cX5_fits 13 = .ok (.ireturn, 1) := by decide +kernel
theorem dX5_fits_14 : decode cX5_fits 14 = .ok (.iload_n 2, 1) := by decide +kernel
theorem dX5_fits_15 : decode cX5_fits 15 = .ok (.ifCond .lt 8, 3) := by decide +kernel
theorem dX5_fits_18 : decode cX5_fits 18 = .ok (.iload_n 2, 1) := by decide +kernel
theorem dX5_fits_19 : decode cX5_fits 19 = .ok (.iconst 1, 1) := by decide +kernel
theorem dX5_fits_20 : decode cX5_fits 20 = .ok (.if_icmp .le 6, 3) := by decide +kernel
theorem dX5_fits_23 : decode cX5_fits 23 = .ok (.bipush (-102), 2) := by decide +kernel
theorem dX5_fits_25 : decode cX5_fits 25 = .ok (.ireturn, 1) := by decide +kernel
theorem dX5_fits_26 : decode cX5_fits 26 = .ok (.aload_n 0, 1) := by decide +kernel
theorem dX5_fits_27 : decode cX5_fits 27 = .ok (.getfield 23, 3) := by decide +kernel
theorem dX5_fits_30 : decode cX5_fits 30 = .ok (.invokevirtual 121, 3) := by decide +kernel
theorem dX5_fits_33 : decode cX5_fits 33 = .ok (.ifCond .ne 13, 3) := by decide +kernel
theorem dX5_fits_36 : decode cX5_fits 36 = .ok (.aload_n 0, 1) := by decide +kernel
theorem dX5_fits_37 : decode cX5_fits 37 = .ok (.getfield 43, 3) := by decide +kernel
theorem dX5_fits_40 : decode cX5_fits 40 = .ok (.getfield 214, 3) := by decide +kernel
theorem dX5_fits_43 : decode cX5_fits 43 = .ok (.ifCond .ne 6, 3) := by decide +kernel
theorem dX5_fits_46 : decode cX5_fits 46 = .ok (.bipush (-103), 2) := by decide +kernel
theorem dX5_fits_48 : decode cX5_fits 48 = .ok (.ireturn, 1) := by decide +kernel
theorem dX5_fits_49 : decode cX5_fits 49 = .ok (.iconst 0, 1) := by decide +kernel
theorem dX5_fits_50 : decode cX5_fits 50 = .ok (.istore_n 3, 1) := by decide +kernel
theorem dX5_fits_51 : decode cX5_fits 51 = .ok (.iconst (-1), 1) := by decide +kernel
theorem dX5_fits_52 : decode cX5_fits 52 = .ok (.istore 4, 2) := by decide +kernel
theorem dX5_fits_54 : decode cX5_fits 54 = .ok (.iconst 0, 1) := by decide +kernel
theorem dX5_fits_55 : decode cX5_fits 55 = .ok (.istore 5, 2) := by decide +kernel
theorem dX5_fits_57 : decode cX5_fits 57 = .ok (.iload 5, 2) := by decide +kernel
theorem dX5_fits_59 : decode cX5_fits 59 = .ok (.aload_n 0, 1) := by decide +kernel
theorem dX5_fits_60 : decode cX5_fits 60 = .ok (.getfield 23, 3) := by decide +kernel
theorem dX5_fits_63 : decode cX5_fits 63 = .ok (.getfield 91, 3) := by decide +kernel
theorem dX5_fits_66 : decode cX5_fits 66 = .ok (.if_icmp .ge 35, 3) := by decide +kernel
theorem dX5_fits_69 : decode cX5_fits 69 = .ok (.aload_n 0, 1) := by decide +kernel
theorem dX5_fits_70 : decode cX5_fits 70 = .ok (.iload_n 1, 1) := by decide +kernel
theorem dX5_fits_71 : decode cX5_fits 71 = .ok (.iload 5, 2) := by decide +kernel
theorem dX5_fits_73 : decode cX5_fits 73 = .ok (.invokevirtual 218, 3) := by decide +kernel
theorem dX5_fits_76 : decode cX5_fits 76 = .ok (.ifCond .eq 19, 3) := by decide +kernel
theorem dX5_fits_79 : decode cX5_fits 79 = .ok (.iload_n 3, 1) := by decide +kernel
theorem dX5_fits_80 : decode cX5_fits 80 = .ok (.ifCond .ne 8, 3) := by decide +kernel
theorem dX5_fits_83 : decode cX5_fits 83 = .ok (.iload 5, 2) := by decide +kernel
theorem dX5_fits_85 : decode cX5_fits 85 = .ok (.goto 5, 3) := by decide +kernel
theorem dX5_fits_88 : decode cX5_fits 88 = .ok (.iload 4, 2) := by decide +kernel
theorem dX5_fits_90 : decode cX5_fits 90 = .ok (.istore 4, 2) := by decide +kernel
theorem dX5_fits_92 : decode cX5_fits 92 = .ok (.iinc 3 1, 3) := by decide +kernel
theorem dX5_fits_95 : decode cX5_fits 95 = .ok (.iinc 5 1, 3) := by decide +kernel
theorem dX5_fits_98 : decode cX5_fits 98 = .ok (.goto (-41), 3) := by decide +kernel
theorem dX5_fits_101 : decode cX5_fits 101 = .ok (.iload_n 2, 1) := by decide +kernel
theorem dX5_fits_102 : decode cX5_fits 102 = .ok (.ifCond .ne 7, 3) := by decide +kernel
theorem dX5_fits_105 : decode cX5_fits 105 = .ok (.iload_n 3, 1) := by decide +kernel
theorem dX5_fits_106 : decode cX5_fits 106 = .ok (.goto 5, 3) := by decide +kernel
theorem dX5_fits_109 : decode cX5_fits 109 = .ok (.iload 4, 2) := by decide +kernel
theorem dX5_fits_111 : decode cX5_fits 111 = .ok (.ireturn, 1) := by decide +kernel
theorem dX5_times_0 : decode cX5_times 0 = .ok (.iload_n 1, 1) := by decide +kernel
theorem dX5_times_1 : decode cX5_times 1 = .ok (.iconst 1, 1) := by decide +kernel
theorem dX5_times_2 : decode cX5_times 2 = .ok (.if_icmp .lt 22, 3) := by decide +kernel
theorem dX5_times_5 : decode cX5_times 5 = .ok (.iload_n 1, 1) := by decide +kernel
theorem dX5_times_6 : decode cX5_times 6 = .ok (.bipush 60, 2) := by decide +kernel
theorem dX5_times_8 : decode cX5_times 8 = .ok (.if_icmp .gt 16, 3) := by decide +kernel
theorem dX5_times_11 : decode cX5_times 11 = .ok (.iload_n 2, 1) := by decide +kernel
theorem dX5_times_12 : decode cX5_times 12 = .ok (.ifCond .lt 12, 3) := by decide +kernel
theorem dX5_times_15 : decode cX5_times 15 = .ok (.iload_n 3, 1) := by decide +kernel
theorem dX5_times_16 : decode cX5_times 16 = .ok (.ifCond .lt 8, 3) := by decide +kernel
theorem dX5_times_19 : decode cX5_times 19 = .ok (.iload_n 3, 1) := by decide +kernel
theorem dX5_times_20 : decode cX5_times 20 = .ok (.iconst 2, 1) := by decide +kernel
theorem dX5_times_21 : decode cX5_times 21 = .ok (.if_icmp .le 6, 3) := by decide +kernel
theorem dX5_times_24 : decode cX5_times 24 = .ok (.bipush (-102), 2) := by decide +kernel
theorem dX5_times_26 : decode cX5_times 26 = .ok (.ireturn, 1) := by decide +kernel
theorem dX5_times_27 : decode cX5_times 27 = .ok (.aload_n 0, 1) := by decide +kernel
theorem dX5_times_28 : decode cX5_times 28 = .ok (.getfield 23, 3) := by decide +kernel
theorem dX5_times_31 : decode cX5_times 31 = .ok (.invokevirtual 121, 3) := by decide +kernel
theorem dX5_times_34 : decode cX5_times 34 = .ok (.ifCond .eq 6, 3) := by decide +kernel
theorem dX5_times_37 : decode cX5_times 37 = .ok (.bipush (-103), 2) := by decide +kernel
theorem dX5_times_39 : decode cX5_times 39 = .ok (.ireturn, 1) := by decide +kernel
theorem dX5_times_40 : decode cX5_times 40 = .ok (.aload_n 0, 1) := by decide +kernel
theorem dX5_times_41 : decode cX5_times 41 = .ok (.getfield 124, 3) := by decide +kernel
theorem dX5_times_44 : decode cX5_times 44 = .ok (.istore 4, 2) := by decide +kernel
theorem dX5_times_46 : decode cX5_times 46 = .ok (.iload_n 2, 1) := by decide +kernel
theorem dX5_times_47 : decode cX5_times 47 = .ok (.istore 5, 2) := by decide +kernel
theorem dX5_times_49 : decode cX5_times 49 = .ok (.iconst 0, 1) := by decide +kernel
theorem dX5_times_50 : decode cX5_times 50 = .ok (.istore 6, 2) := by decide +kernel
theorem dX5_times_52 : decode cX5_times 52 = .ok (.iconst 0, 1) := by decide +kernel
theorem dX5_times_53 : decode cX5_times 53 = .ok (.istore 7, 2) := by decide +kernel
theorem dX5_times_55 : decode cX5_times 55 = .ok (.iload 7, 2) := by decide +kernel
theorem dX5_times_57 : decode cX5_times 57 = .ok (.iload_n 1, 1) := by decide +kernel
theorem dX5_times_58 : decode cX5_times 58 = .ok (.if_icmp .ge 74, 3) := by decide +kernel
theorem dX5_times_61 : decode cX5_times 61 = .ok (.iload 5, 2) := by decide +kernel
theorem dX5_times_63 : decode cX5_times 63 = .ok (.invokestatic 221, 3) := by decide +kernel
theorem dX5_times_66 : decode cX5_times 66 = .ok (.istore 5, 2) := by decide +kernel
theorem dX5_times_68 : decode cX5_times 68 = .ok (.iload 5, 2) := by decide +kernel
theorem dX5_times_70 : decode cX5_times 70 = .ok (.iconst 2, 1) := by decide +kernel
theorem dX5_times_71 : decode cX5_times 71 = .ok (.invokestatic 224, 3) := by decide +kernel
theorem dX5_times_74 : decode cX5_times 74 = .ok (.ifCond .ne 14, 3) := by decide +kernel
theorem dX5_times_77 : decode cX5_times 77 = .ok (.aload_n 0, 1) := by decide +kernel
theorem dX5_times_78 : decode cX5_times 78 = .ok (.iload 4, 2) := by decide +kernel
theorem dX5_times_80 : decode cX5_times 80 = .ok (.invokevirtual 189, 3) := by decide +kernel
theorem dX5_times_83 : decode cX5_times 83 = .ok (.istore 4, 2) := by decide +kernel
theorem dX5_times_85 : decode cX5_times 85 = .ok (.goto 24, 3) := by decide +kernel
theorem dX5_times_88 : decode cX5_times 88 = .ok (.iload 5, 2) := by decide +kernel
theorem dX5_times_90 : decode cX5_times 90 = .ok (.invokestatic 221, 3) := by decide +kernel
theorem dX5_times_93 : decode cX5_times 93 = .ok (.istore 5, 2) := by decide +kernel
theorem dX5_times_95 : decode cX5_times 95 = .ok (.iload 4, 2) := by decide +kernel
theorem dX5_times_97 : decode cX5_times 97 = .ok (.iconst 1, 1) := by decide +kernel
theorem dX5_times_98 : decode cX5_times 98 = .ok (.iload 5, 2) := by decide +kernel
theorem dX5_times_100 : decode cX5_times 100 = .ok (.bipush 6, 2) := by decide +kernel
theorem dX5_times_102 : decode cX5_times 102 = .ok (.invokestatic 224, 3) := by decide +kernel
theorem dX5_times_105 : decode cX5_times 105 = .ok (.ishl, 1) := by decide +kernel
theorem dX5_times_106 : decode cX5_times 106 = .ok (.ixor, 1) := by decide +kernel
theorem dX5_times_107 : decode cX5_times 107 = .ok (.istore 4, 2) := by decide +kernel
theorem dX5_times_109 : decode cX5_times 109 = .ok (.iload 6, 2) := by decide +kernel
theorem dX5_times_111 : decode cX5_times 111 = .ok (.aload_n 0, 1) := by decide +kernel
theorem dX5_times_112 : decode cX5_times 112 = .ok (.getfield 23, 3) := by decide +kernel
theorem dX5_times_115 : decode cX5_times 115 = .ok (.getfield 185, 3) := by decide +kernel
theorem dX5_times_118 : decode cX5_times 118 = .ok (.iload 4, 2) := by decide +kernel
theorem dX5_times_120 : decode cX5_times 120 = .ok (.invokestatic 117, 3) := by decide +kernel
theorem dX5_times_123 : decode cX5_times 123 = .ok (.iadd, 1) := by decide +kernel
theorem dX5_times_124 : decode cX5_times 124 = .ok (.istore 6, 2) := by decide +kernel
theorem dX5_times_126 : decode cX5_times 126 = .ok (.iinc 7 1, 3) := by decide +kernel
theorem dX5_times_129 : decode cX5_times 129 = .ok (.goto (-74), 3) := by decide +kernel
theorem dX5_times_132 : decode cX5_times 132 = .ok (.iload_n 3, 1) := by decide +kernel
theorem dX5_times_133 : decode cX5_times 133 = .ok (.ifCond .ne 8, 3) := by decide +kernel
theorem dX5_times_136 : decode cX5_times 136 = .ok (.iload 4, 2) := by decide +kernel
theorem dX5_times_138 : decode cX5_times 138 = .ok (.goto 15, 3) := by decide +kernel
theorem dX5_times_141 : decode cX5_times 141 = .ok (.iload_n 3, 1) := by decide +kernel
theorem dX5_times_142 : decode cX5_times 142 = .ok (.iconst 1, 1) := by decide +kernel
theorem dX5_times_143 : decode cX5_times 143 = .ok (.if_icmp .ne 8, 3) := by decide +kernel
theorem dX5_times_146 : decode cX5_times 146 = .ok (.iload 6, 2) := by decide +kernel
theorem dX5_times_148 : decode cX5_times 148 = .ok (.goto 5, 3) := by decide +kernel
theorem dX5_times_151 : decode cX5_times 151 = .ok (.iload 5, 2) := by decide +kernel
theorem dX5_times_153 : decode cX5_times 153 = .ok (.ireturn, 1) := by decide +kernel
theorem dX5_image_0 : decode cX5_image 0 = .ok (.aload_n 0, 1) := by decide +kernel
theorem dX5_image_1 : decode cX5_image 1 = .ok (.getfield 50, 3) := by decide +kernel
theorem dX5_image_4 : decode cX5_image 4 = .ok (.iconst 1, 1) := by decide +kernel
theorem dX5_image_5 : decode cX5_image 5 = .ok (.putfield 228, 3) := by decide +kernel
theorem dX5_image_8 : decode cX5_image 8 = .ok (.aload_n 0, 1) := by decide +kernel
theorem dX5_image_9 : decode cX5_image 9 = .ok (.getfield 50, 3) := by decide +kernel
theorem dX5_image_12 : decode cX5_image 12 = .ok (.aload_n 0, 1) := by decide +kernel
theorem dX5_image_13 : decode cX5_image 13 = .ok (.getfield 124, 3) := by decide +kernel
theorem dX5_image_16 : decode cX5_image 16 = .ok (.putfield 232, 3) := by decide +kernel
theorem dX5_image_19 : decode cX5_image 19 = .ok (.aload_n 0, 1) := by decide +kernel
theorem dX5_image_20 : decode cX5_image 20 = .ok (.getfield 50, 3) := by decide +kernel
theorem dX5_image_23 : decode cX5_image 23 = .ok (.aload_n 0, 1) := by decide +kernel
theorem dX5_image_24 : decode cX5_image 24 = .ok (.getfield 182, 3) := by decide +kernel
theorem dX5_image_27 : decode cX5_image 27 = .ok (.putfield 233, 3) := by decide +kernel
theorem dX5_image_30 : decode cX5_image 30 = .ok (.aload_n 0, 1) := by decide +kernel
theorem dX5_image_31 : decode cX5_image 31 = .ok (.getfield 50, 3) := by decide +kernel
theorem dX5_image_34 : decode cX5_image 34 = .ok (.getfield 234, 3) := by decide +kernel
theorem dX5_image_37 : decode cX5_image 37 = .ok (.aload_n 0, 1) := by decide +kernel
theorem dX5_image_38 : decode cX5_image 38 = .ok (.getfield 36, 3) := by decide +kernel
theorem dX5_image_41 : decode cX5_image 41 = .ok (.invokevirtual 235, 3) := by decide +kernel
theorem dX5_image_44 : decode cX5_image 44 = .ok (.aload_n 0, 1) := by decide +kernel
theorem dX5_image_45 : decode cX5_image 45 = .ok (.getfield 50, 3) := by decide +kernel
theorem dX5_image_48 : decode cX5_image 48 = .ok (.getfield 238, 3) := by decide +kernel
theorem dX5_image_51 : decode cX5_image 51 = .ok (.aload_n 0, 1) := by decide +kernel
theorem dX5_image_52 : decode cX5_image 52 = .ok (.getfield 43, 3) := by decide +kernel
theorem dX5_image_55 : decode cX5_image 55 = .ok (.invokevirtual 239, 3) := by decide +kernel
theorem dX5_image_58 : decode cX5_image 58 = .ok (.aload_n 0, 1) := by decide +kernel
theorem dX5_image_59 : decode cX5_image 59 = .ok (.getfield 124, 3) := by decide +kernel
theorem dX5_image_62 : decode cX5_image 62 = .ok (.ireturn, 1) := by decide +kernel
theorem dX5_restore_0 : decode cX5_restore 0 = .ok (.aload_n 0, 1) := by decide +kernel
theorem dX5_restore_1 : decode cX5_restore 1 = .ok (.getfield 50, 3) := by decide +kernel
theorem dX5_restore_4 : decode cX5_restore 4 = .ok (.getfield 228, 3) := by decide +kernel
theorem dX5_restore_7 : decode cX5_restore 7 = .ok (.ifCond .ne 6, 3) := by decide +kernel
theorem dX5_restore_10 : decode cX5_restore 10 = .ok (.bipush (-103), 2) := by decide +kernel
theorem dX5_restore_12 : decode cX5_restore 12 = .ok (.ireturn, 1) := by decide +kernel
theorem dX5_restore_13 : decode cX5_restore 13 = .ok (.aload_n 0, 1) := by decide +kernel
theorem dX5_restore_14 : decode cX5_restore 14 = .ok (.aload_n 0, 1) := by decide +kernel
theorem dX5_restore_15 : decode cX5_restore 15 = .ok (.getfield 50, 3) := by decide +kernel
theorem dX5_restore_18 : decode cX5_restore 18 = .ok (.getfield 232, 3) := by decide +kernel
theorem dX5_restore_21 : decode cX5_restore 21 = .ok (.putfield 124, 3) := by decide +kernel
theorem dX5_restore_24 : decode cX5_restore 24 = .ok (.aload_n 0, 1) := by decide +kernel
theorem dX5_restore_25 : decode cX5_restore 25 = .ok (.aload_n 0, 1) := by decide +kernel
theorem dX5_restore_26 : decode cX5_restore 26 = .ok (.getfield 50, 3) := by decide +kernel
theorem dX5_restore_29 : decode cX5_restore 29 = .ok (.getfield 233, 3) := by decide +kernel
theorem dX5_restore_32 : decode cX5_restore 32 = .ok (.putfield 182, 3) := by decide +kernel
theorem dX5_restore_35 : decode cX5_restore 35 = .ok (.aload_n 0, 1) := by decide +kernel
theorem dX5_restore_36 : decode cX5_restore 36 = .ok (.getfield 36, 3) := by decide +kernel
theorem dX5_restore_39 : decode cX5_restore 39 = .ok (.aload_n 0, 1) := by decide +kernel
theorem dX5_restore_40 : decode cX5_restore 40 = .ok (.getfield 50, 3) := by decide +kernel
theorem dX5_restore_43 : decode cX5_restore 43 = .ok (.getfield 234, 3) := by decide +kernel
theorem dX5_restore_46 : decode cX5_restore 46 = .ok (.invokevirtual 235, 3) := by decide +kernel
theorem dX5_restore_49 : decode cX5_restore 49 = .ok (.aload_n 0, 1) := by decide +kernel
theorem dX5_restore_50 : decode cX5_restore 50 = .ok (.getfield 43, 3) := by decide +kernel
theorem dX5_restore_53 : decode cX5_restore 53 = .ok (.aload_n 0, 1) := by decide +kernel
theorem dX5_restore_54 : decode cX5_restore 54 = .ok (.getfield 50, 3) := by decide +kernel
theorem dX5_restore_57 : decode cX5_restore 57 = .ok (.getfield 238, 3) := by decide +kernel
theorem dX5_restore_60 : decode cX5_restore 60 = .ok (.invokevirtual 239, 3) := by decide +kernel
theorem dX5_restore_63 : decode cX5_restore 63 = .ok (.aload_n 0, 1) := by decide +kernel
theorem dX5_restore_64 : decode cX5_restore 64 = .ok (.getfield 124, 3) := by decide +kernel
theorem dX5_restore_67 : decode cX5_restore 67 = .ok (.ireturn, 1) := by decide +kernel
theorem dX5_count_0 : decode cX5_count 0 = .ok (.iload_n 1, 1) := by decide +kernel
theorem dX5_count_1 : decode cX5_count 1 = .ok (.tableswitch 123 0 9 #[55, 63, 71, 79, 87, 92, 97, 105, 113, 118], 55) := by decide +kernel
theorem dX5_count_56 : decode cX5_count 56 = .ok (.aload_n 0, 1) := by decide +kernel
theorem dX5_count_57 : decode cX5_count 57 = .ok (.getfield 23, 3) := by decide +kernel
theorem dX5_count_60 : decode cX5_count 60 = .ok (.getfield 91, 3) := by decide +kernel
theorem dX5_count_63 : decode cX5_count 63 = .ok (.ireturn, 1) := by decide +kernel
theorem dX5_count_64 : decode cX5_count 64 = .ok (.aload_n 0, 1) := by decide +kernel
theorem dX5_count_65 : decode cX5_count 65 = .ok (.getfield 23, 3) := by decide +kernel
theorem dX5_count_68 : decode cX5_count 68 = .ok (.getfield 205, 3) := by decide +kernel
theorem dX5_count_71 : decode cX5_count 71 = .ok (.ireturn, 1) := by decide +kernel
theorem dX5_count_72 : decode cX5_count 72 = .ok (.aload_n 0, 1) := by decide +kernel
theorem dX5_count_73 : decode cX5_count 73 = .ok (.getfield 27, 3) := by decide +kernel
theorem dX5_count_76 : decode cX5_count 76 = .ok (.getfield 91, 3) := by decide +kernel
theorem dX5_count_79 : decode cX5_count 79 = .ok (.ireturn, 1) := by decide +kernel
theorem dX5_count_80 : decode cX5_count 80 = .ok (.aload_n 0, 1) := by decide +kernel
theorem dX5_count_81 : decode cX5_count 81 = .ok (.getfield 36, 3) := by decide +kernel
theorem dX5_count_84 : decode cX5_count 84 = .ok (.getfield 150, 3) := by decide +kernel
theorem dX5_count_87 : decode cX5_count 87 = .ok (.ireturn, 1) := by decide +kernel
theorem dX5_count_88 : decode cX5_count 88 = .ok (.aload_n 0, 1) := by decide +kernel
theorem dX5_count_89 : decode cX5_count 89 = .ok (.getfield 182, 3) := by decide +kernel
theorem dX5_count_92 : decode cX5_count 92 = .ok (.ireturn, 1) := by decide +kernel
theorem dX5_count_93 : decode cX5_count 93 = .ok (.aload_n 0, 1) := by decide +kernel
theorem dX5_count_94 : decode cX5_count 94 = .ok (.getfield 124, 3) := by decide +kernel
theorem dX5_count_97 : decode cX5_count 97 = .ok (.ireturn, 1) := by decide +kernel
theorem dX5_count_98 : decode cX5_count 98 = .ok (.aload_n 0, 1) := by decide +kernel
theorem dX5_count_99 : decode cX5_count 99 = .ok (.getfield 43, 3) := by decide +kernel
theorem dX5_count_102 : decode cX5_count 102 = .ok (.getfield 214, 3) := by decide +kernel
theorem dX5_count_105 : decode cX5_count 105 = .ok (.ireturn, 1) := by decide +kernel
theorem dX5_count_106 : decode cX5_count 106 = .ok (.aload_n 0, 1) := by decide +kernel
theorem dX5_count_107 : decode cX5_count 107 = .ok (.getfield 10, 3) := by decide +kernel
theorem dX5_count_110 : decode cX5_count 110 = .ok (.getfield 58, 3) := by decide +kernel
theorem dX5_count_113 : decode cX5_count 113 = .ok (.ireturn, 1) := by decide +kernel
theorem dX5_count_114 : decode cX5_count 114 = .ok (.aload_n 0, 1) := by decide +kernel
theorem dX5_count_115 : decode cX5_count 115 = .ok (.getfield 88, 3) := by decide +kernel
theorem dX5_count_118 : decode cX5_count 118 = .ok (.ireturn, 1) := by decide +kernel
theorem dX5_count_119 : decode cX5_count 119 = .ok (.aload_n 0, 1) := by decide +kernel
theorem dX5_count_120 : decode cX5_count 120 = .ok (.getfield 208, 3) := by decide +kernel
theorem dX5_count_123 : decode cX5_count 123 = .ok (.ireturn, 1) := by decide +kernel
theorem dX5_count_124 : decode cX5_count 124 = .ok (.bipush (-102), 2) := by decide +kernel
theorem dX5_count_126 : decode cX5_count 126 = .ok (.ireturn, 1) := by decide +kernel
theorem dX5_digest_0 : decode cX5_digest 0 = .ok (.ldc2_w 242, 3) := by decide +kernel
theorem dX5_digest_3 : decode cX5_digest 3 = .ok (.lstore_n 1, 1) := by decide +kernel
theorem dX5_digest_4 : decode cX5_digest 4 = .ok (.iconst 0, 1) := by decide +kernel
theorem dX5_digest_5 : decode cX5_digest 5 = .ok (.istore_n 3, 1) := by decide +kernel
theorem dX5_digest_6 : decode cX5_digest 6 = .ok (.iload_n 3, 1) := by decide +kernel
theorem dX5_digest_7 : decode cX5_digest 7 = .ok (.bipush 6, 2) := by decide +kernel
theorem dX5_digest_9 : decode cX5_digest 9 = .ok (.if_icmp .ge 20, 3) := by decide +kernel
theorem dX5_digest_12 : decode cX5_digest 12 = .ok (.lload_n 1, 1) := by decide +kernel
theorem dX5_digest_13 : decode cX5_digest 13 = .ok (.aload_n 0, 1) := by decide +kernel
theorem dX5_digest_14 : decode cX5_digest 14 = .ok (.iload_n 3, 1) := by decide +kernel
theorem dX5_digest_15 : decode cX5_digest 15 = .ok (.invokevirtual 244, 3) := by decide +kernel
theorem dX5_digest_18 : decode cX5_digest 18 = .ok (.i2l, 1) := by decide +kernel
theorem dX5_digest_19 : decode cX5_digest 19 = .ok (.invokestatic 247, 3) := by decide +kernel
theorem dX5_digest_22 : decode cX5_digest 22 = .ok (.lstore_n 1, 1) := by decide +kernel
theorem dX5_digest_23 : decode cX5_digest 23 = .ok (.iinc 3 1, 3) := by decide +kernel
theorem dX5_digest_26 : decode cX5_digest 26 = .ok (.goto (-20), 3) := by decide +kernel
theorem dX5_digest_29 : decode cX5_digest 29 = .ok (.iconst 0, 1) := by decide +kernel
theorem dX5_digest_30 : decode cX5_digest 30 = .ok (.istore_n 3, 1) := by decide +kernel
theorem dX5_digest_31 : decode cX5_digest 31 = .ok (.iload_n 3, 1) := by decide +kernel
theorem dX5_digest_32 : decode cX5_digest 32 = .ok (.bipush 6, 2) := by decide +kernel
theorem dX5_digest_34 : decode cX5_digest 34 = .ok (.if_icmp .ge 20, 3) := by decide +kernel
theorem dX5_digest_37 : decode cX5_digest 37 = .ok (.lload_n 1, 1) := by decide +kernel
theorem dX5_digest_38 : decode cX5_digest 38 = .ok (.aload_n 0, 1) := by decide +kernel
theorem dX5_digest_39 : decode cX5_digest 39 = .ok (.iload_n 3, 1) := by decide +kernel
theorem dX5_digest_40 : decode cX5_digest 40 = .ok (.invokevirtual 251, 3) := by decide +kernel
theorem dX5_digest_43 : decode cX5_digest 43 = .ok (.i2l, 1) := by decide +kernel
theorem dX5_digest_44 : decode cX5_digest 44 = .ok (.invokestatic 247, 3) := by decide +kernel
theorem dX5_digest_47 : decode cX5_digest 47 = .ok (.lstore_n 1, 1) := by decide +kernel
theorem dX5_digest_48 : decode cX5_digest 48 = .ok (.iinc 3 1, 3) := by decide +kernel
theorem dX5_digest_51 : decode cX5_digest 51 = .ok (.goto (-20), 3) := by decide +kernel
theorem dX5_digest_54 : decode cX5_digest 54 = .ok (.aload_n 0, 1) := by decide +kernel
theorem dX5_digest_55 : decode cX5_digest 55 = .ok (.lload_n 1, 1) := by decide +kernel
theorem dX5_digest_56 : decode cX5_digest 56 = .ok (.invokevirtual 254, 3) := by decide +kernel
theorem dX5_digest_59 : decode cX5_digest 59 = .ok (.lstore_n 1, 1) := by decide +kernel
theorem dX5_digest_60 : decode cX5_digest 60 = .ok (.aload_n 0, 1) := by decide +kernel
theorem dX5_digest_61 : decode cX5_digest 61 = .ok (.getfield 23, 3) := by decide +kernel
theorem dX5_digest_64 : decode cX5_digest 64 = .ok (.invokevirtual 121, 3) := by decide +kernel
theorem dX5_digest_67 : decode cX5_digest 67 = .ok (.ifCond .ne 25, 3) := by decide +kernel
theorem dX5_digest_70 : decode cX5_digest 70 = .ok (.aload_n 0, 1) := by decide +kernel
theorem dX5_digest_71 : decode cX5_digest 71 = .ok (.lload_n 1, 1) := by decide +kernel
theorem dX5_digest_72 : decode cX5_digest 72 = .ok (.invokevirtual 258, 3) := by decide +kernel
theorem dX5_digest_75 : decode cX5_digest 75 = .ok (.lstore_n 1, 1) := by decide +kernel
theorem dX5_digest_76 : decode cX5_digest 76 = .ok (.aload_n 0, 1) := by decide +kernel
theorem dX5_digest_77 : decode cX5_digest 77 = .ok (.getfield 43, 3) := by decide +kernel
theorem dX5_digest_80 : decode cX5_digest 80 = .ok (.getfield 214, 3) := by decide +kernel
theorem dX5_digest_83 : decode cX5_digest 83 = .ok (.ifCond .le 9, 3) := by decide +kernel
theorem dX5_digest_86 : decode cX5_digest 86 = .ok (.aload_n 0, 1) := by decide +kernel
theorem dX5_digest_87 : decode cX5_digest 87 = .ok (.lload_n 1, 1) := by decide +kernel
theorem dX5_digest_88 : decode cX5_digest 88 = .ok (.invokevirtual 261, 3) := by decide +kernel
theorem dX5_digest_91 : decode cX5_digest 91 = .ok (.lstore_n 1, 1) := by decide +kernel
theorem dX5_digest_92 : decode cX5_digest 92 = .ok (.iconst 0, 1) := by decide +kernel
theorem dX5_digest_93 : decode cX5_digest 93 = .ok (.istore_n 3, 1) := by decide +kernel
theorem dX5_digest_94 : decode cX5_digest 94 = .ok (.iload_n 3, 1) := by decide +kernel
theorem dX5_digest_95 : decode cX5_digest 95 = .ok (.aload_n 0, 1) := by decide +kernel
theorem dX5_digest_96 : decode cX5_digest 96 = .ok (.getfield 10, 3) := by decide +kernel
theorem dX5_digest_99 : decode cX5_digest 99 = .ok (.getfield 58, 3) := by decide +kernel
theorem dX5_digest_102 : decode cX5_digest 102 = .ok (.if_icmp .ge 23, 3) := by decide +kernel
theorem dX5_digest_105 : decode cX5_digest 105 = .ok (.lload_n 1, 1) := by decide +kernel
theorem dX5_digest_106 : decode cX5_digest 106 = .ok (.aload_n 0, 1) := by decide +kernel
theorem dX5_digest_107 : decode cX5_digest 107 = .ok (.getfield 10, 3) := by decide +kernel
theorem dX5_digest_110 : decode cX5_digest 110 = .ok (.iload_n 3, 1) := by decide +kernel
theorem dX5_digest_111 : decode cX5_digest 111 = .ok (.invokevirtual 97, 3) := by decide +kernel
theorem dX5_digest_114 : decode cX5_digest 114 = .ok (.i2l, 1) := by decide +kernel
theorem dX5_digest_115 : decode cX5_digest 115 = .ok (.invokestatic 247, 3) := by decide +kernel
theorem dX5_digest_118 : decode cX5_digest 118 = .ok (.lstore_n 1, 1) := by decide +kernel
theorem dX5_digest_119 : decode cX5_digest 119 = .ok (.iinc 3 1, 3) := by decide +kernel
theorem dX5_digest_122 : decode cX5_digest 122 = .ok (.goto (-28), 3) := by decide +kernel
theorem dX5_digest_125 : decode cX5_digest 125 = .ok (.iconst 0, 1) := by decide +kernel
theorem dX5_digest_126 : decode cX5_digest 126 = .ok (.istore_n 3, 1) := by decide +kernel
theorem dX5_digest_127 : decode cX5_digest 127 = .ok (.iload_n 3, 1) := by decide +kernel
theorem dX5_digest_128 : decode cX5_digest 128 = .ok (.bipush 9, 2) := by decide +kernel
theorem dX5_digest_130 : decode cX5_digest 130 = .ok (.if_icmp .gt 20, 3) := by decide +kernel
theorem dX5_digest_133 : decode cX5_digest 133 = .ok (.lload_n 1, 1) := by decide +kernel
theorem dX5_digest_134 : decode cX5_digest 134 = .ok (.aload_n 0, 1) := by decide +kernel
theorem dX5_digest_135 : decode cX5_digest 135 = .ok (.iload_n 3, 1) := by decide +kernel
theorem dX5_digest_136 : decode cX5_digest 136 = .ok (.invokevirtual 264, 3) := by decide +kernel
theorem dX5_digest_139 : decode cX5_digest 139 = .ok (.i2l, 1) := by decide +kernel
theorem dX5_digest_140 : decode cX5_digest 140 = .ok (.invokestatic 247, 3) := by decide +kernel
theorem dX5_digest_143 : decode cX5_digest 143 = .ok (.lstore_n 1, 1) := by decide +kernel
theorem dX5_digest_144 : decode cX5_digest 144 = .ok (.iinc 3 1, 3) := by decide +kernel
theorem dX5_digest_147 : decode cX5_digest 147 = .ok (.goto (-20), 3) := by decide +kernel
theorem dX5_digest_150 : decode cX5_digest 150 = .ok (.lload_n 1, 1) := by decide +kernel
theorem dX5_digest_151 : decode cX5_digest 151 = .ok (.lreturn, 1) := by decide +kernel
theorem dX5_mixed_0 : decode cX5_mixed 0 = .ok (.ldc2_w 267, 3) := by decide +kernel
theorem dX5_mixed_3 : decode cX5_mixed 3 = .ok (.lload_n 0, 1) := by decide +kernel
theorem dX5_mixed_4 : decode cX5_mixed 4 = .ok (.lmul, 1) := by decide +kernel
theorem dX5_mixed_5 : decode cX5_mixed 5 = .ok (.lload_n 2, 1) := by decide +kernel
theorem dX5_mixed_6 : decode cX5_mixed 6 = .ok (.ladd, 1) := by decide +kernel
theorem dX5_mixed_7 : decode cX5_mixed 7 = .ok (.lreturn, 1) := by decide +kernel
theorem dX5_mixedWithHearers_0 : decode cX5_mixedWithHearers 0 = .ok (.lload_n 1, 1) := by decide +kernel
theorem dX5_mixedWithHearers_1 : decode cX5_mixedWithHearers 1 = .ok (.lstore_n 3, 1) := by decide +kernel
theorem dX5_mixedWithHearers_2 : decode cX5_mixedWithHearers 2 = .ok (.iconst 0, 1) := by decide +kernel
theorem dX5_mixedWithHearers_3 : decode cX5_mixedWithHearers 3 = .ok (.istore 5, 2) := by decide +kernel
theorem dX5_mixedWithHearers_5 : decode cX5_mixedWithHearers 5 = .ok (.iload 5, 2) := by decide +kernel
theorem dX5_mixedWithHearers_7 : decode cX5_mixedWithHearers 7 = .ok (.aload_n 0, 1) := by decide +kernel
theorem dX5_mixedWithHearers_8 : decode cX5_mixedWithHearers 8 = .ok (.getfield 36, 3) := by decide +kernel
theorem dX5_mixedWithHearers_11 : decode cX5_mixedWithHearers 11 = .ok (.getfield 150, 3) := by decide +kernel
theorem dX5_mixedWithHearers_14 : decode cX5_mixedWithHearers 14 = .ok (.if_icmp .ge 38, 3) := by decide +kernel
theorem dX5_mixedWithHearers_17 : decode cX5_mixedWithHearers 17 = .ok (.iconst 0, 1) := by decide +kernel
theorem dX5_mixedWithHearers_18 : decode cX5_mixedWithHearers 18 = .ok (.istore 6, 2) := by decide +kernel
theorem dX5_mixedWithHearers_20 : decode cX5_mixedWithHearers 20 = .ok (.iload 6, 2) := by decide +kernel
theorem dX5_mixedWithHearers_22 : decode cX5_mixedWithHearers 22 = .ok (.iconst 5, 1) := by decide +kernel
theorem dX5_mixedWithHearers_23 : decode cX5_mixedWithHearers 23 = .ok (.if_icmp .gt 23, 3) := by decide +kernel
theorem dX5_mixedWithHearers_26 : decode cX5_mixedWithHearers 26 = .ok (.lload_n 3, 1) := by decide +kernel
theorem dX5_mixedWithHearers_27 : decode cX5_mixedWithHearers 27 = .ok (.aload_n 0, 1) := by decide +kernel
theorem dX5_mixedWithHearers_28 : decode cX5_mixedWithHearers 28 = .ok (.iload 5, 2) := by decide +kernel
theorem dX5_mixedWithHearers_30 : decode cX5_mixedWithHearers 30 = .ok (.iload 6, 2) := by decide +kernel
theorem dX5_mixedWithHearers_32 : decode cX5_mixedWithHearers 32 = .ok (.invokevirtual 269, 3) := by decide +kernel
theorem dX5_mixedWithHearers_35 : decode cX5_mixedWithHearers 35 = .ok (.i2l, 1) := by decide +kernel
theorem dX5_mixedWithHearers_36 : decode cX5_mixedWithHearers 36 = .ok (.invokestatic 247, 3) := by decide +kernel
theorem dX5_mixedWithHearers_39 : decode cX5_mixedWithHearers 39 = .ok (.lstore_n 3, 1) := by decide +kernel
theorem dX5_mixedWithHearers_40 : decode cX5_mixedWithHearers 40 = .ok (.iinc 6 1, 3) := by decide +kernel
theorem dX5_mixedWithHearers_43 : decode cX5_mixedWithHearers 43 = .ok (.goto (-23), 3) := by decide +kernel
theorem dX5_mixedWithHearers_46 : decode cX5_mixedWithHearers 46 = .ok (.iinc 5 1, 3) := by decide +kernel
theorem dX5_mixedWithHearers_49 : decode cX5_mixedWithHearers 49 = .ok (.goto (-44), 3) := by decide +kernel
theorem dX5_mixedWithHearers_52 : decode cX5_mixedWithHearers 52 = .ok (.lload_n 3, 1) := by decide +kernel
theorem dX5_mixedWithHearers_53 : decode cX5_mixedWithHearers 53 = .ok (.lreturn, 1) := by decide +kernel
theorem dX5_mixedWithSaying_0 : decode cX5_mixedWithSaying 0 = .ok (.lload_n 1, 1) := by decide +kernel
theorem dX5_mixedWithSaying_1 : decode cX5_mixedWithSaying 1 = .ok (.aload_n 0, 1) := by decide +kernel
theorem dX5_mixedWithSaying_2 : decode cX5_mixedWithSaying 2 = .ok (.iconst 0, 1) := by decide +kernel
theorem dX5_mixedWithSaying_3 : decode cX5_mixedWithSaying 3 = .ok (.invokevirtual 272, 3) := by decide +kernel
theorem dX5_mixedWithSaying_6 : decode cX5_mixedWithSaying 6 = .ok (.i2l, 1) := by decide +kernel
theorem dX5_mixedWithSaying_7 : decode cX5_mixedWithSaying 7 = .ok (.invokestatic 247, 3) := by decide +kernel
theorem dX5_mixedWithSaying_10 : decode cX5_mixedWithSaying 10 = .ok (.aload_n 0, 1) := by decide +kernel
theorem dX5_mixedWithSaying_11 : decode cX5_mixedWithSaying 11 = .ok (.iconst 1, 1) := by decide +kernel
theorem dX5_mixedWithSaying_12 : decode cX5_mixedWithSaying 12 = .ok (.invokevirtual 272, 3) := by decide +kernel
theorem dX5_mixedWithSaying_15 : decode cX5_mixedWithSaying 15 = .ok (.i2l, 1) := by decide +kernel
theorem dX5_mixedWithSaying_16 : decode cX5_mixedWithSaying 16 = .ok (.invokestatic 247, 3) := by decide +kernel
theorem dX5_mixedWithSaying_19 : decode cX5_mixedWithSaying 19 = .ok (.lstore_n 3, 1) := by decide +kernel
theorem dX5_mixedWithSaying_20 : decode cX5_mixedWithSaying 20 = .ok (.lload_n 3, 1) := by decide +kernel
theorem dX5_mixedWithSaying_21 : decode cX5_mixedWithSaying 21 = .ok (.aload_n 0, 1) := by decide +kernel
theorem dX5_mixedWithSaying_22 : decode cX5_mixedWithSaying 22 = .ok (.invokevirtual 275, 3) := by decide +kernel
theorem dX5_mixedWithSaying_25 : decode cX5_mixedWithSaying 25 = .ok (.i2l, 1) := by decide +kernel
theorem dX5_mixedWithSaying_26 : decode cX5_mixedWithSaying 26 = .ok (.invokestatic 247, 3) := by decide +kernel
theorem dX5_mixedWithSaying_29 : decode cX5_mixedWithSaying 29 = .ok (.lstore_n 3, 1) := by decide +kernel
theorem dX5_mixedWithSaying_30 : decode cX5_mixedWithSaying 30 = .ok (.iconst 0, 1) := by decide +kernel
theorem dX5_mixedWithSaying_31 : decode cX5_mixedWithSaying 31 = .ok (.istore 5, 2) := by decide +kernel
theorem dX5_mixedWithSaying_33 : decode cX5_mixedWithSaying 33 = .ok (.iload 5, 2) := by decide +kernel
theorem dX5_mixedWithSaying_35 : decode cX5_mixedWithSaying 35 = .ok (.iconst 2, 1) := by decide +kernel
theorem dX5_mixedWithSaying_36 : decode cX5_mixedWithSaying 36 = .ok (.if_icmp .gt 21, 3) := by decide +kernel
theorem dX5_mixedWithSaying_39 : decode cX5_mixedWithSaying 39 = .ok (.lload_n 3, 1) := by decide +kernel
theorem dX5_mixedWithSaying_40 : decode cX5_mixedWithSaying 40 = .ok (.aload_n 0, 1) := by decide +kernel
theorem dX5_mixedWithSaying_41 : decode cX5_mixedWithSaying 41 = .ok (.iload 5, 2) := by decide +kernel
theorem dX5_mixedWithSaying_43 : decode cX5_mixedWithSaying 43 = .ok (.invokevirtual 278, 3) := by decide +kernel
theorem dX5_mixedWithSaying_46 : decode cX5_mixedWithSaying 46 = .ok (.i2l, 1) := by decide +kernel
theorem dX5_mixedWithSaying_47 : decode cX5_mixedWithSaying 47 = .ok (.invokestatic 247, 3) := by decide +kernel
theorem dX5_mixedWithSaying_50 : decode cX5_mixedWithSaying 50 = .ok (.lstore_n 3, 1) := by decide +kernel
theorem dX5_mixedWithSaying_51 : decode cX5_mixedWithSaying 51 = .ok (.iinc 5 1, 3) := by decide +kernel
theorem dX5_mixedWithSaying_54 : decode cX5_mixedWithSaying 54 = .ok (.goto (-21), 3) := by decide +kernel
theorem dX5_mixedWithSaying_57 : decode cX5_mixedWithSaying 57 = .ok (.lload_n 3, 1) := by decide +kernel
theorem dX5_mixedWithSaying_58 : decode cX5_mixedWithSaying 58 = .ok (.aload_n 0, 1) := by decide +kernel
theorem dX5_mixedWithSaying_59 : decode cX5_mixedWithSaying 59 = .ok (.invokevirtual 281, 3) := by decide +kernel
theorem dX5_mixedWithSaying_62 : decode cX5_mixedWithSaying 62 = .ok (.i2l, 1) := by decide +kernel
theorem dX5_mixedWithSaying_63 : decode cX5_mixedWithSaying 63 = .ok (.invokestatic 247, 3) := by decide +kernel
theorem dX5_mixedWithSaying_66 : decode cX5_mixedWithSaying 66 = .ok (.lreturn, 1) := by decide +kernel
theorem dX5_mixedWithFits_0 : decode cX5_mixedWithFits 0 = .ok (.lload_n 1, 1) := by decide +kernel
theorem dX5_mixedWithFits_1 : decode cX5_mixedWithFits 1 = .ok (.lstore_n 3, 1) := by decide +kernel
theorem dX5_mixedWithFits_2 : decode cX5_mixedWithFits 2 = .ok (.iconst 0, 1) := by decide +kernel
theorem dX5_mixedWithFits_3 : decode cX5_mixedWithFits 3 = .ok (.istore 5, 2) := by decide +kernel
theorem dX5_mixedWithFits_5 : decode cX5_mixedWithFits 5 = .ok (.iload 5, 2) := by decide +kernel
theorem dX5_mixedWithFits_7 : decode cX5_mixedWithFits 7 = .ok (.aload_n 0, 1) := by decide +kernel
theorem dX5_mixedWithFits_8 : decode cX5_mixedWithFits 8 = .ok (.getfield 36, 3) := by decide +kernel
theorem dX5_mixedWithFits_11 : decode cX5_mixedWithFits 11 = .ok (.getfield 150, 3) := by decide +kernel
theorem dX5_mixedWithFits_14 : decode cX5_mixedWithFits 14 = .ok (.if_icmp .ge 33, 3) := by decide +kernel
theorem dX5_mixedWithFits_17 : decode cX5_mixedWithFits 17 = .ok (.lload_n 3, 1) := by decide +kernel
theorem dX5_mixedWithFits_18 : decode cX5_mixedWithFits 18 = .ok (.aload_n 0, 1) := by decide +kernel
theorem dX5_mixedWithFits_19 : decode cX5_mixedWithFits 19 = .ok (.iload 5, 2) := by decide +kernel
theorem dX5_mixedWithFits_21 : decode cX5_mixedWithFits 21 = .ok (.iconst 0, 1) := by decide +kernel
theorem dX5_mixedWithFits_22 : decode cX5_mixedWithFits 22 = .ok (.invokevirtual 284, 3) := by decide +kernel
theorem dX5_mixedWithFits_25 : decode cX5_mixedWithFits 25 = .ok (.i2l, 1) := by decide +kernel
theorem dX5_mixedWithFits_26 : decode cX5_mixedWithFits 26 = .ok (.invokestatic 247, 3) := by decide +kernel
theorem dX5_mixedWithFits_29 : decode cX5_mixedWithFits 29 = .ok (.aload_n 0, 1) := by decide +kernel
theorem dX5_mixedWithFits_30 : decode cX5_mixedWithFits 30 = .ok (.iload 5, 2) := by decide +kernel
theorem dX5_mixedWithFits_32 : decode cX5_mixedWithFits 32 = .ok (.iconst 1, 1) := by decide +kernel
theorem dX5_mixedWithFits_33 : decode cX5_mixedWithFits 33 = .ok (.invokevirtual 284, 3) := by decide +kernel
theorem dX5_mixedWithFits_36 : decode cX5_mixedWithFits 36 = .ok (.i2l, 1) := by decide +kernel
theorem dX5_mixedWithFits_37 : decode cX5_mixedWithFits 37 = .ok (.invokestatic 247, 3) := by decide +kernel
theorem dX5_mixedWithFits_40 : decode cX5_mixedWithFits 40 = .ok (.lstore_n 3, 1) := by decide +kernel
theorem dX5_mixedWithFits_41 : decode cX5_mixedWithFits 41 = .ok (.iinc 5 1, 3) := by decide +kernel
theorem dX5_mixedWithFits_44 : decode cX5_mixedWithFits 44 = .ok (.goto (-39), 3) := by decide +kernel
theorem dX5_mixedWithFits_47 : decode cX5_mixedWithFits 47 = .ok (.lload_n 3, 1) := by decide +kernel
theorem dX5_mixedWithFits_48 : decode cX5_mixedWithFits 48 = .ok (.lreturn, 1) := by decide +kernel
theorem dX5_isFact_0 : decode cX5_isFact 0 = .ok (.iload_n 0, 1) := by decide +kernel
theorem dX5_isFact_1 : decode cX5_isFact 1 = .ok (.ifCond .lt 13, 3) := by decide +kernel
theorem dX5_isFact_4 : decode cX5_isFact 4 = .ok (.iload_n 0, 1) := by decide +kernel
theorem dX5_isFact_5 : decode cX5_isFact 5 = .ok (.bipush 6, 2) := by decide +kernel
theorem dX5_isFact_7 : decode cX5_isFact 7 = .ok (.if_icmp .ge 7, 3) := by decide +kernel
theorem dX5_isFact_10 : decode cX5_isFact 10 = .ok (.iconst 1, 1) := by decide +kernel
theorem dX5_isFact_11 : decode cX5_isFact 11 = .ok (.goto 4, 3) := by decide +kernel
theorem dX5_isFact_14 : decode cX5_isFact 14 = .ok (.iconst 0, 1) := by decide +kernel
theorem dX5_isFact_15 : decode cX5_isFact 15 = .ok (.ireturn, 1) := by decide +kernel
theorem dX5_isValue_0 : decode cX5_isValue 0 = .ok (.iload_n 0, 1) := by decide +kernel
theorem dX5_isValue_1 : decode cX5_isValue 1 = .ok (.ifCond .eq 8, 3) := by decide +kernel
theorem dX5_isValue_4 : decode cX5_isValue 4 = .ok (.iload_n 0, 1) := by decide +kernel
theorem dX5_isValue_5 : decode cX5_isValue 5 = .ok (.iconst 1, 1) := by decide +kernel
theorem dX5_isValue_6 : decode cX5_isValue 6 = .ok (.if_icmp .ne 7, 3) := by decide +kernel
theorem dX5_isValue_9 : decode cX5_isValue 9 = .ok (.iconst 1, 1) := by decide +kernel
theorem dX5_isValue_10 : decode cX5_isValue 10 = .ok (.goto 4, 3) := by decide +kernel
theorem dX5_isValue_13 : decode cX5_isValue 13 = .ok (.iconst 0, 1) := by decide +kernel
theorem dX5_isValue_14 : decode cX5_isValue 14 = .ok (.ireturn, 1) := by decide +kernel
theorem dX5_isWorld_0 : decode cX5_isWorld 0 = .ok (.iload_n 0, 1) := by decide +kernel
theorem dX5_isWorld_1 : decode cX5_isWorld 1 = .ok (.ifCond .lt 13, 3) := by decide +kernel
theorem dX5_isWorld_4 : decode cX5_isWorld 4 = .ok (.iload_n 0, 1) := by decide +kernel
theorem dX5_isWorld_5 : decode cX5_isWorld 5 = .ok (.bipush 64, 2) := by decide +kernel
theorem dX5_isWorld_7 : decode cX5_isWorld 7 = .ok (.if_icmp .ge 7, 3) := by decide +kernel
theorem dX5_isWorld_10 : decode cX5_isWorld 10 = .ok (.iconst 1, 1) := by decide +kernel
theorem dX5_isWorld_11 : decode cX5_isWorld 11 = .ok (.goto 4, 3) := by decide +kernel
theorem dX5_isWorld_14 : decode cX5_isWorld 14 = .ok (.iconst 0, 1) := by decide +kernel
theorem dX5_isWorld_15 : decode cX5_isWorld 15 = .ok (.ireturn, 1) := by decide +kernel
theorem dX5_isKind_0 : decode cX5_isKind 0 = .ok (.iload_n 0, 1) := by decide +kernel
theorem dX5_isKind_1 : decode cX5_isKind 1 = .ok (.ifCond .lt 12, 3) := by decide +kernel
theorem dX5_isKind_4 : decode cX5_isKind 4 = .ok (.iload_n 0, 1) := by decide +kernel
theorem dX5_isKind_5 : decode cX5_isKind 5 = .ok (.iconst 4, 1) := by decide +kernel
theorem dX5_isKind_6 : decode cX5_isKind 6 = .ok (.if_icmp .gt 7, 3) := by decide +kernel
theorem dX5_isKind_9 : decode cX5_isKind 9 = .ok (.iconst 1, 1) := by decide +kernel
theorem dX5_isKind_10 : decode cX5_isKind 10 = .ok (.goto 4, 3) := by decide +kernel
theorem dX5_isKind_13 : decode cX5_isKind 13 = .ok (.iconst 0, 1) := by decide +kernel
theorem dX5_isKind_14 : decode cX5_isKind 14 = .ok (.ireturn, 1) := by decide +kernel
theorem dX5_isOfKind_0 : decode cX5_isOfKind 0 = .ok (.iload_n 1, 1) := by decide +kernel
theorem dX5_isOfKind_1 : decode cX5_isOfKind 1 = .ok (.ifCond .eq 18, 3) := by decide +kernel
theorem dX5_isOfKind_4 : decode cX5_isOfKind 4 = .ok (.iload_n 1, 1) := by decide +kernel
theorem dX5_isOfKind_5 : decode cX5_isOfKind 5 = .ok (.iload_n 0, 1) := by decide +kernel
theorem dX5_isOfKind_6 : decode cX5_isOfKind 6 = .ok (.if_icmp .eq 13, 3) := by decide +kernel
theorem dX5_isOfKind_9 : decode cX5_isOfKind 9 = .ok (.iload_n 1, 1) := by decide +kernel
theorem dX5_isOfKind_10 : decode cX5_isOfKind 10 = .ok (.iconst 3, 1) := by decide +kernel
theorem dX5_isOfKind_11 : decode cX5_isOfKind 11 = .ok (.if_icmp .ne 12, 3) := by decide +kernel
theorem dX5_isOfKind_14 : decode cX5_isOfKind 14 = .ok (.iload_n 0, 1) := by decide +kernel
theorem dX5_isOfKind_15 : decode cX5_isOfKind 15 = .ok (.iconst 4, 1) := by decide +kernel
theorem dX5_isOfKind_16 : decode cX5_isOfKind 16 = .ok (.if_icmp .ne 7, 3) := by decide +kernel
theorem dX5_isOfKind_19 : decode cX5_isOfKind 19 = .ok (.iconst 1, 1) := by decide +kernel
theorem dX5_isOfKind_20 : decode cX5_isOfKind 20 = .ok (.goto 4, 3) := by decide +kernel
theorem dX5_isOfKind_23 : decode cX5_isOfKind 23 = .ok (.iconst 0, 1) := by decide +kernel
theorem dX5_isOfKind_24 : decode cX5_isOfKind 24 = .ok (.ireturn, 1) := by decide +kernel
theorem dX5_bitOf_0 : decode cX5_bitOf 0 = .ok (.lload_n 0, 1) := by decide +kernel
theorem dX5_bitOf_1 : decode cX5_bitOf 1 = .ok (.iload_n 2, 1) := by decide +kernel
theorem dX5_bitOf_2 : decode cX5_bitOf 2 = .ok (.lushr, 1) := by decide +kernel
theorem dX5_bitOf_3 : decode cX5_bitOf 3 = .ok (.lconst 1, 1) := by decide +kernel
theorem dX5_bitOf_4 : decode cX5_bitOf 4 = .ok (.land, 1) := by decide +kernel
theorem dX5_bitOf_5 : decode cX5_bitOf 5 = .ok (.l2i, 1) := by decide +kernel
theorem dX5_bitOf_6 : decode cX5_bitOf 6 = .ok (.ireturn, 1) := by decide +kernel
theorem dX5_withFact_0 : decode cX5_withFact 0 = .ok (.iload_n 0, 1) := by decide +kernel
theorem dX5_withFact_1 : decode cX5_withFact 1 = .ok (.iconst 1, 1) := by decide +kernel
theorem dX5_withFact_2 : decode cX5_withFact 2 = .ok (.iload_n 1, 1) := by decide +kernel
theorem dX5_withFact_3 : decode cX5_withFact 3 = .ok (.ishl, 1) := by decide +kernel
theorem dX5_withFact_4 : decode cX5_withFact 4 = .ok (.iconst (-1), 1) := by decide +kernel
theorem dX5_withFact_5 : decode cX5_withFact 5 = .ok (.ixor, 1) := by decide +kernel
theorem dX5_withFact_6 : decode cX5_withFact 6 = .ok (.iand, 1) := by decide +kernel
theorem dX5_withFact_7 : decode cX5_withFact 7 = .ok (.iload_n 2, 1) := by decide +kernel
theorem dX5_withFact_8 : decode cX5_withFact 8 = .ok (.iload_n 1, 1) := by decide +kernel
theorem dX5_withFact_9 : decode cX5_withFact 9 = .ok (.ishl, 1) := by decide +kernel
theorem dX5_withFact_10 : decode cX5_withFact 10 = .ok (.ior, 1) := by decide +kernel
theorem dX5_withFact_11 : decode cX5_withFact 11 = .ok (.ireturn, 1) := by decide +kernel
theorem dX5_worldsOfFact_0 : decode cX5_worldsOfFact 0 = .ok (.iload_n 0, 1) := by decide +kernel
theorem dX5_worldsOfFact_1 : decode cX5_worldsOfFact 1 = .ok (.ifCond .lt 19, 3) := by decide +kernel
theorem dX5_worldsOfFact_4 : decode cX5_worldsOfFact 4 = .ok (.iload_n 0, 1) := by decide +kernel
theorem dX5_worldsOfFact_5 : decode cX5_worldsOfFact 5 = .ok (.getstatic 287, 3) := by decide +kernel
theorem dX5_worldsOfFact_8 : decode cX5_worldsOfFact 8 = .ok (.arraylength, 1) := by decide +kernel
theorem dX5_worldsOfFact_9 : decode cX5_worldsOfFact 9 = .ok (.if_icmp .ge 11, 3) := by decide +kernel
theorem dX5_worldsOfFact_12 : decode cX5_worldsOfFact 12 = .ok (.getstatic 287, 3) := by decide +kernel
theorem dX5_worldsOfFact_15 : decode cX5_worldsOfFact 15 = .ok (.iload_n 0, 1) := by decide +kernel
theorem dX5_worldsOfFact_16 : decode cX5_worldsOfFact 16 = .ok (.laload, 1) := by decide +kernel
theorem dX5_worldsOfFact_17 : decode cX5_worldsOfFact 17 = .ok (.goto 4, 3) := by decide +kernel
theorem dX5_worldsOfFact_20 : decode cX5_worldsOfFact 20 = .ok (.lconst 0, 1) := by decide +kernel
theorem dX5_worldsOfFact_21 : decode cX5_worldsOfFact 21 = .ok (.lreturn, 1) := by decide +kernel
theorem dX5_taken_0 : decode cX5_taken 0 = .ok (.aload_n 0, 1) := by decide +kernel
theorem dX5_taken_1 : decode cX5_taken 1 = .ok (.getfield 23, 3) := by decide +kernel
theorem dX5_taken_4 : decode cX5_taken 4 = .ok (.invokevirtual 121, 3) := by decide +kernel
theorem dX5_taken_7 : decode cX5_taken 7 = .ok (.ifCond .eq 5, 3) := by decide +kernel
theorem dX5_taken_10 : decode cX5_taken 10 = .ok (.iconst (-1), 1) := by decide +kernel
theorem dX5_taken_11 : decode cX5_taken 11 = .ok (.ireturn, 1) := by decide +kernel
theorem dX5_taken_12 : decode cX5_taken 12 = .ok (.aload_n 0, 1) := by decide +kernel
theorem dX5_taken_13 : decode cX5_taken 13 = .ok (.getfield 36, 3) := by decide +kernel
theorem dX5_taken_16 : decode cX5_taken 16 = .ok (.iload_n 1, 1) := by decide +kernel
theorem dX5_taken_17 : decode cX5_taken 17 = .ok (.invokevirtual 156, 3) := by decide +kernel
theorem dX5_taken_20 : decode cX5_taken 20 = .ok (.tableswitch 58 1 4 #[32, 42, 50, 50], 32) := by decide +kernel
theorem dX5_taken_52 : decode cX5_taken 52 = .ok (.aload_n 0, 1) := by decide +kernel
theorem dX5_taken_53 : decode cX5_taken 53 = .ok (.getfield 23, 3) := by decide +kernel
theorem dX5_taken_56 : decode cX5_taken 56 = .ok (.getfield 91, 3) := by decide +kernel
theorem dX5_taken_59 : decode cX5_taken 59 = .ok (.iconst 1, 1) := by decide +kernel
theorem dX5_taken_60 : decode cX5_taken 60 = .ok (.isub, 1) := by decide +kernel
theorem dX5_taken_61 : decode cX5_taken 61 = .ok (.ireturn, 1) := by decide +kernel
theorem dX5_taken_62 : decode cX5_taken 62 = .ok (.aload_n 0, 1) := by decide +kernel
theorem dX5_taken_63 : decode cX5_taken 63 = .ok (.getfield 23, 3) := by decide +kernel
theorem dX5_taken_66 : decode cX5_taken 66 = .ok (.getfield 291, 3) := by decide +kernel
theorem dX5_taken_69 : decode cX5_taken 69 = .ok (.ireturn, 1) := by decide +kernel
theorem dX5_taken_70 : decode cX5_taken 70 = .ok (.aload_n 0, 1) := by decide +kernel
theorem dX5_taken_71 : decode cX5_taken 71 = .ok (.getfield 23, 3) := by decide +kernel
theorem dX5_taken_74 : decode cX5_taken 74 = .ok (.getfield 294, 3) := by decide +kernel
theorem dX5_taken_77 : decode cX5_taken 77 = .ok (.ireturn, 1) := by decide +kernel
theorem dX5_taken_78 : decode cX5_taken 78 = .ok (.iconst 0, 1) := by decide +kernel
theorem dX5_taken_79 : decode cX5_taken 79 = .ok (.ireturn, 1) := by decide +kernel
theorem dX5_actsNow_0 : decode cX5_actsNow 0 = .ok (.aload_n 0, 1) := by decide +kernel
theorem dX5_actsNow_1 : decode cX5_actsNow 1 = .ok (.getfield 23, 3) := by decide +kernel
theorem dX5_actsNow_4 : decode cX5_actsNow 4 = .ok (.invokevirtual 121, 3) := by decide +kernel
theorem dX5_actsNow_7 : decode cX5_actsNow 7 = .ok (.ifCond .ne 24, 3) := by decide +kernel
theorem dX5_actsNow_10 : decode cX5_actsNow 10 = .ok (.aload_n 0, 1) := by decide +kernel
theorem dX5_actsNow_11 : decode cX5_actsNow 11 = .ok (.iload_n 1, 1) := by decide +kernel
theorem dX5_actsNow_12 : decode cX5_actsNow 12 = .ok (.aload_n 0, 1) := by decide +kernel
theorem dX5_actsNow_13 : decode cX5_actsNow 13 = .ok (.iload_n 1, 1) := by decide +kernel
theorem dX5_actsNow_14 : decode cX5_actsNow 14 = .ok (.invokevirtual 165, 3) := by decide +kernel
theorem dX5_actsNow_17 : decode cX5_actsNow 17 = .ok (.aload_n 0, 1) := by decide +kernel
theorem dX5_actsNow_18 : decode cX5_actsNow 18 = .ok (.getfield 124, 3) := by decide +kernel
theorem dX5_actsNow_21 : decode cX5_actsNow 21 = .ok (.invokevirtual 297, 3) := by decide +kernel
theorem dX5_actsNow_24 : decode cX5_actsNow 24 = .ok (.ifCond .eq 7, 3) := by decide +kernel
theorem dX5_actsNow_27 : decode cX5_actsNow 27 = .ok (.iconst 1, 1) := by decide +kernel
theorem dX5_actsNow_28 : decode cX5_actsNow 28 = .ok (.goto 4, 3) := by decide +kernel
theorem dX5_actsNow_31 : decode cX5_actsNow 31 = .ok (.iconst 0, 1) := by decide +kernel
theorem dX5_actsNow_32 : decode cX5_actsNow 32 = .ok (.ireturn, 1) := by decide +kernel
theorem dX5_actsBy_0 : decode cX5_actsBy 0 = .ok (.aload_n 0, 1) := by decide +kernel
theorem dX5_actsBy_1 : decode cX5_actsBy 1 = .ok (.getfield 23, 3) := by decide +kernel
theorem dX5_actsBy_4 : decode cX5_actsBy 4 = .ok (.iload_n 2, 1) := by decide +kernel
theorem dX5_actsBy_5 : decode cX5_actsBy 5 = .ok (.invokevirtual 104, 3) := by decide +kernel
theorem dX5_actsBy_8 : decode cX5_actsBy 8 = .ok (.iload_n 3, 1) := by decide +kernel
theorem dX5_actsBy_9 : decode cX5_actsBy 9 = .ok (.invokestatic 117, 3) := by decide +kernel
theorem dX5_actsBy_12 : decode cX5_actsBy 12 = .ok (.iconst 1, 1) := by decide +kernel
theorem dX5_actsBy_13 : decode cX5_actsBy 13 = .ok (.if_icmp .ne 7, 3) := by decide +kernel
theorem dX5_actsBy_16 : decode cX5_actsBy 16 = .ok (.iconst 1, 1) := by decide +kernel
theorem dX5_actsBy_17 : decode cX5_actsBy 17 = .ok (.goto 4, 3) := by decide +kernel
theorem dX5_actsBy_20 : decode cX5_actsBy 20 = .ok (.iconst 0, 1) := by decide +kernel
theorem dX5_actsBy_21 : decode cX5_actsBy 21 = .ok (.istore 4, 2) := by decide +kernel
theorem dX5_actsBy_23 : decode cX5_actsBy 23 = .ok (.aload_n 0, 1) := by decide +kernel
theorem dX5_actsBy_24 : decode cX5_actsBy 24 = .ok (.getfield 36, 3) := by decide +kernel
theorem dX5_actsBy_27 : decode cX5_actsBy 27 = .ok (.iload_n 1, 1) := by decide +kernel
theorem dX5_actsBy_28 : decode cX5_actsBy 28 = .ok (.invokevirtual 156, 3) := by decide +kernel
theorem dX5_actsBy_31 : decode cX5_actsBy 31 = .ok (.iconst 4, 1) := by decide +kernel
theorem dX5_actsBy_32 : decode cX5_actsBy 32 = .ok (.if_icmp .ne 8, 3) := by decide +kernel
theorem dX5_actsBy_35 : decode cX5_actsBy 35 = .ok (.iload 4, 2) := by decide +kernel
theorem dX5_actsBy_37 : decode cX5_actsBy 37 = .ok (.goto 13, 3) := by decide +kernel
theorem dX5_actsBy_40 : decode cX5_actsBy 40 = .ok (.iload 4, 2) := by decide +kernel
theorem dX5_actsBy_42 : decode cX5_actsBy 42 = .ok (.ifCond .ne 7, 3) := by decide +kernel
theorem dX5_actsBy_45 : decode cX5_actsBy 45 = .ok (.iconst 1, 1) := by decide +kernel
theorem dX5_actsBy_46 : decode cX5_actsBy 46 = .ok (.goto 4, 3) := by decide +kernel
theorem dX5_actsBy_49 : decode cX5_actsBy 49 = .ok (.iconst 0, 1) := by decide +kernel
theorem dX5_actsBy_50 : decode cX5_actsBy 50 = .ok (.ireturn, 1) := by decide +kernel
theorem dX5_behindAct_0 : decode cX5_behindAct 0 = .ok (.aload_n 0, 1) := by decide +kernel
theorem dX5_behindAct_1 : decode cX5_behindAct 1 = .ok (.iload_n 1, 1) := by decide +kernel
theorem dX5_behindAct_2 : decode cX5_behindAct 2 = .ok (.iload_n 2, 1) := by decide +kernel
theorem dX5_behindAct_3 : decode cX5_behindAct 3 = .ok (.iload_n 3, 1) := by decide +kernel
theorem dX5_behindAct_4 : decode cX5_behindAct 4 = .ok (.invokevirtual 297, 3) := by decide +kernel
theorem dX5_behindAct_7 : decode cX5_behindAct 7 = .ok (.ifCond .ne 5, 3) := by decide +kernel
theorem dX5_behindAct_10 : decode cX5_behindAct 10 = .ok (.iload_n 3, 1) := by decide +kernel
theorem dX5_behindAct_11 : decode cX5_behindAct 11 = .ok (.ireturn, 1) := by decide +kernel
theorem dX5_behindAct_12 : decode cX5_behindAct 12 = .ok (.iload_n 3, 1) := by decide +kernel
theorem dX5_behindAct_13 : decode cX5_behindAct 13 = .ok (.aload_n 0, 1) := by decide +kernel
theorem dX5_behindAct_14 : decode cX5_behindAct 14 = .ok (.getfield 36, 3) := by decide +kernel
theorem dX5_behindAct_17 : decode cX5_behindAct 17 = .ok (.iload_n 1, 1) := by decide +kernel
theorem dX5_behindAct_18 : decode cX5_behindAct 18 = .ok (.invokevirtual 159, 3) := by decide +kernel
theorem dX5_behindAct_21 : decode cX5_behindAct 21 = .ok (.aload_n 0, 1) := by decide +kernel
theorem dX5_behindAct_22 : decode cX5_behindAct 22 = .ok (.getfield 36, 3) := by decide +kernel
theorem dX5_behindAct_25 : decode cX5_behindAct 25 = .ok (.iload_n 1, 1) := by decide +kernel
theorem dX5_behindAct_26 : decode cX5_behindAct 26 = .ok (.invokevirtual 162, 3) := by decide +kernel
theorem dX5_behindAct_29 : decode cX5_behindAct 29 = .ok (.invokestatic 139, 3) := by decide +kernel
theorem dX5_behindAct_32 : decode cX5_behindAct 32 = .ok (.ireturn, 1) := by decide +kernel
theorem dX5_behindRound_0 : decode cX5_behindRound 0 = .ok (.iload_n 1, 1) := by decide +kernel
theorem dX5_behindRound_1 : decode cX5_behindRound 1 = .ok (.istore_n 2, 1) := by decide +kernel
theorem dX5_behindRound_2 : decode cX5_behindRound 2 = .ok (.iconst 0, 1) := by decide +kernel
theorem dX5_behindRound_3 : decode cX5_behindRound 3 = .ok (.istore_n 3, 1) := by decide +kernel
theorem dX5_behindRound_4 : decode cX5_behindRound 4 = .ok (.iload_n 3, 1) := by decide +kernel
theorem dX5_behindRound_5 : decode cX5_behindRound 5 = .ok (.aload_n 0, 1) := by decide +kernel
theorem dX5_behindRound_6 : decode cX5_behindRound 6 = .ok (.getfield 36, 3) := by decide +kernel
theorem dX5_behindRound_9 : decode cX5_behindRound 9 = .ok (.getfield 150, 3) := by decide +kernel
theorem dX5_behindRound_12 : decode cX5_behindRound 12 = .ok (.if_icmp .ge 21, 3) := by decide +kernel
theorem dX5_behindRound_15 : decode cX5_behindRound 15 = .ok (.aload_n 0, 1) := by decide +kernel
theorem dX5_behindRound_16 : decode cX5_behindRound 16 = .ok (.iload_n 3, 1) := by decide +kernel
theorem dX5_behindRound_17 : decode cX5_behindRound 17 = .ok (.aload_n 0, 1) := by decide +kernel
theorem dX5_behindRound_18 : decode cX5_behindRound 18 = .ok (.iload_n 3, 1) := by decide +kernel
theorem dX5_behindRound_19 : decode cX5_behindRound 19 = .ok (.invokevirtual 165, 3) := by decide +kernel
theorem dX5_behindRound_22 : decode cX5_behindRound 22 = .ok (.iload_n 2, 1) := by decide +kernel
theorem dX5_behindRound_23 : decode cX5_behindRound 23 = .ok (.invokevirtual 300, 3) := by decide +kernel
theorem dX5_behindRound_26 : decode cX5_behindRound 26 = .ok (.istore_n 2, 1) := by decide +kernel
theorem dX5_behindRound_27 : decode cX5_behindRound 27 = .ok (.iinc 3 1, 3) := by decide +kernel
theorem dX5_behindRound_30 : decode cX5_behindRound 30 = .ok (.goto (-26), 3) := by decide +kernel
theorem dX5_behindRound_33 : decode cX5_behindRound 33 = .ok (.iload_n 2, 1) := by decide +kernel
theorem dX5_behindRound_34 : decode cX5_behindRound 34 = .ok (.ireturn, 1) := by decide +kernel
theorem dX5_letAct_0 : decode cX5_letAct 0 = .ok (.aload_n 0, 1) := by decide +kernel
theorem dX5_letAct_1 : decode cX5_letAct 1 = .ok (.iload_n 1, 1) := by decide +kernel
theorem dX5_letAct_2 : decode cX5_letAct 2 = .ok (.aload_n 0, 1) := by decide +kernel
theorem dX5_letAct_3 : decode cX5_letAct 3 = .ok (.iload_n 1, 1) := by decide +kernel
theorem dX5_letAct_4 : decode cX5_letAct 4 = .ok (.invokevirtual 165, 3) := by decide +kernel
theorem dX5_letAct_7 : decode cX5_letAct 7 = .ok (.aload_n 0, 1) := by decide +kernel
theorem dX5_letAct_8 : decode cX5_letAct 8 = .ok (.getfield 124, 3) := by decide +kernel
theorem dX5_letAct_11 : decode cX5_letAct 11 = .ok (.invokevirtual 300, 3) := by decide +kernel
theorem dX5_letAct_14 : decode cX5_letAct 14 = .ok (.istore_n 2, 1) := by decide +kernel
theorem dX5_letAct_15 : decode cX5_letAct 15 = .ok (.iload_n 2, 1) := by decide +kernel
theorem dX5_letAct_16 : decode cX5_letAct 16 = .ok (.aload_n 0, 1) := by decide +kernel
theorem dX5_letAct_17 : decode cX5_letAct 17 = .ok (.getfield 124, 3) := by decide +kernel
theorem dX5_letAct_20 : decode cX5_letAct 20 = .ok (.if_icmp .eq 11, 3) := by decide +kernel
theorem dX5_letAct_23 : decode cX5_letAct 23 = .ok (.aload_n 0, 1) := by decide +kernel
theorem dX5_letAct_24 : decode cX5_letAct 24 = .ok (.getfield 36, 3) := by decide +kernel
theorem dX5_letAct_27 : decode cX5_letAct 27 = .ok (.iload_n 1, 1) := by decide +kernel
theorem dX5_letAct_28 : decode cX5_letAct 28 = .ok (.invokevirtual 303, 3) := by decide +kernel
theorem dX5_letAct_31 : decode cX5_letAct 31 = .ok (.aload_n 0, 1) := by decide +kernel
theorem dX5_letAct_32 : decode cX5_letAct 32 = .ok (.iload_n 2, 1) := by decide +kernel
theorem dX5_letAct_33 : decode cX5_letAct 33 = .ok (.putfield 124, 3) := by decide +kernel
theorem dX5_letAct_36 : decode cX5_letAct 36 = .ok (.return_, 1) := by decide +kernel
theorem dX5_worldsLeft_0 : decode cX5_worldsLeft 0 = .ok (.aload_n 0, 1) := by decide +kernel
theorem dX5_worldsLeft_1 : decode cX5_worldsLeft 1 = .ok (.getfield 27, 3) := by decide +kernel
theorem dX5_worldsLeft_4 : decode cX5_worldsLeft 4 = .ok (.invokevirtual 121, 3) := by decide +kernel
theorem dX5_worldsLeft_7 : decode cX5_worldsLeft 7 = .ok (.ifCond .eq 13, 3) := by decide +kernel
theorem dX5_worldsLeft_10 : decode cX5_worldsLeft 10 = .ok (.aload_n 0, 1) := by decide +kernel
theorem dX5_worldsLeft_11 : decode cX5_worldsLeft 11 = .ok (.getfield 23, 3) := by decide +kernel
theorem dX5_worldsLeft_14 : decode cX5_worldsLeft 14 = .ok (.getfield 185, 3) := by decide +kernel
theorem dX5_worldsLeft_17 : decode cX5_worldsLeft 17 = .ok (.goto 18, 3) := by decide +kernel
theorem dX5_worldsLeft_20 : decode cX5_worldsLeft 20 = .ok (.aload_n 0, 1) := by decide +kernel
theorem dX5_worldsLeft_21 : decode cX5_worldsLeft 21 = .ok (.getfield 23, 3) := by decide +kernel
theorem dX5_worldsLeft_24 : decode cX5_worldsLeft 24 = .ok (.getfield 185, 3) := by decide +kernel
theorem dX5_worldsLeft_27 : decode cX5_worldsLeft 27 = .ok (.aload_n 0, 1) := by decide +kernel
theorem dX5_worldsLeft_28 : decode cX5_worldsLeft 28 = .ok (.getfield 27, 3) := by decide +kernel
theorem dX5_worldsLeft_31 : decode cX5_worldsLeft 31 = .ok (.getfield 185, 3) := by decide +kernel
theorem dX5_worldsLeft_34 : decode cX5_worldsLeft 34 = .ok (.land, 1) := by decide +kernel
theorem dX5_worldsLeft_35 : decode cX5_worldsLeft 35 = .ok (.lreturn, 1) := by decide +kernel
theorem dX5_factsSoInAll_0 : decode cX5_factsSoInAll 0 = .ok (.iconst 0, 1) := by decide +kernel
theorem dX5_factsSoInAll_1 : decode cX5_factsSoInAll 1 = .ok (.istore_n 2, 1) := by decide +kernel
theorem dX5_factsSoInAll_2 : decode cX5_factsSoInAll 2 = .ok (.iconst 0, 1) := by decide +kernel
theorem dX5_factsSoInAll_3 : decode cX5_factsSoInAll 3 = .ok (.istore_n 3, 1) := by decide +kernel
theorem dX5_factsSoInAll_4 : decode cX5_factsSoInAll 4 = .ok (.iload_n 3, 1) := by decide +kernel
theorem dX5_factsSoInAll_5 : decode cX5_factsSoInAll 5 = .ok (.bipush 6, 2) := by decide +kernel
theorem dX5_factsSoInAll_7 : decode cX5_factsSoInAll 7 = .ok (.if_icmp .ge 30, 3) := by decide +kernel
theorem dX5_factsSoInAll_10 : decode cX5_factsSoInAll 10 = .ok (.lload_n 0, 1) := by decide +kernel
theorem dX5_factsSoInAll_11 : decode cX5_factsSoInAll 11 = .ok (.iload_n 3, 1) := by decide +kernel
theorem dX5_factsSoInAll_12 : decode cX5_factsSoInAll 12 = .ok (.invokestatic 306, 3) := by decide +kernel
theorem dX5_factsSoInAll_15 : decode cX5_factsSoInAll 15 = .ok (.ldc2_w 309, 3) := by decide +kernel
theorem dX5_factsSoInAll_18 : decode cX5_factsSoInAll 18 = .ok (.lxor, 1) := by decide +kernel
theorem dX5_factsSoInAll_19 : decode cX5_factsSoInAll 19 = .ok (.land, 1) := by decide +kernel
theorem dX5_factsSoInAll_20 : decode cX5_factsSoInAll 20 = .ok (.lconst 0, 1) := by decide +kernel
theorem dX5_factsSoInAll_21 : decode cX5_factsSoInAll 21 = .ok (.lcmp, 1) := by decide +kernel
theorem dX5_factsSoInAll_22 : decode cX5_factsSoInAll 22 = .ok (.ifCond .ne 9, 3) := by decide +kernel
theorem dX5_factsSoInAll_25 : decode cX5_factsSoInAll 25 = .ok (.iload_n 2, 1) := by decide +kernel
theorem dX5_factsSoInAll_26 : decode cX5_factsSoInAll 26 = .ok (.iconst 1, 1) := by decide +kernel
theorem dX5_factsSoInAll_27 : decode cX5_factsSoInAll 27 = .ok (.iload_n 3, 1) := by decide +kernel
theorem dX5_factsSoInAll_28 : decode cX5_factsSoInAll 28 = .ok (.ishl, 1) := by decide +kernel
theorem dX5_factsSoInAll_29 : decode cX5_factsSoInAll 29 = .ok (.ior, 1) := by decide +kernel
theorem dX5_factsSoInAll_30 : decode cX5_factsSoInAll 30 = .ok (.istore_n 2, 1) := by decide +kernel
theorem dX5_factsSoInAll_31 : decode cX5_factsSoInAll 31 = .ok (.iinc 3 1, 3) := by decide +kernel
theorem dX5_factsSoInAll_34 : decode cX5_factsSoInAll 34 = .ok (.goto (-30), 3) := by decide +kernel
theorem dX5_factsSoInAll_37 : decode cX5_factsSoInAll 37 = .ok (.iload_n 2, 1) := by decide +kernel
theorem dX5_factsSoInAll_38 : decode cX5_factsSoInAll 38 = .ok (.ireturn, 1) := by decide +kernel
theorem dX5_factsSoInNone_0 : decode cX5_factsSoInNone 0 = .ok (.bipush 63, 2) := by decide +kernel
theorem dX5_factsSoInNone_2 : decode cX5_factsSoInNone 2 = .ok (.istore_n 2, 1) := by decide +kernel
theorem dX5_factsSoInNone_3 : decode cX5_factsSoInNone 3 = .ok (.iconst 0, 1) := by decide +kernel
theorem dX5_factsSoInNone_4 : decode cX5_factsSoInNone 4 = .ok (.istore_n 3, 1) := by decide +kernel
theorem dX5_factsSoInNone_5 : decode cX5_factsSoInNone 5 = .ok (.iload_n 3, 1) := by decide +kernel
theorem dX5_factsSoInNone_6 : decode cX5_factsSoInNone 6 = .ok (.bipush 6, 2) := by decide +kernel
theorem dX5_factsSoInNone_8 : decode cX5_factsSoInNone 8 = .ok (.if_icmp .ge 28, 3) := by decide +kernel
theorem dX5_factsSoInNone_11 : decode cX5_factsSoInNone 11 = .ok (.lload_n 0, 1) := by decide +kernel
theorem dX5_factsSoInNone_12 : decode cX5_factsSoInNone 12 = .ok (.iload_n 3, 1) := by decide +kernel
theorem dX5_factsSoInNone_13 : decode cX5_factsSoInNone 13 = .ok (.invokestatic 306, 3) := by decide +kernel
theorem dX5_factsSoInNone_16 : decode cX5_factsSoInNone 16 = .ok (.land, 1) := by decide +kernel
theorem dX5_factsSoInNone_17 : decode cX5_factsSoInNone 17 = .ok (.lconst 0, 1) := by decide +kernel
theorem dX5_factsSoInNone_18 : decode cX5_factsSoInNone 18 = .ok (.lcmp, 1) := by decide +kernel
theorem dX5_factsSoInNone_19 : decode cX5_factsSoInNone 19 = .ok (.ifCond .eq 11, 3) := by decide +kernel
theorem dX5_factsSoInNone_22 : decode cX5_factsSoInNone 22 = .ok (.iload_n 2, 1) := by decide +kernel
theorem dX5_factsSoInNone_23 : decode cX5_factsSoInNone 23 = .ok (.iconst 1, 1) := by decide +kernel
theorem dX5_factsSoInNone_24 : decode cX5_factsSoInNone 24 = .ok (.iload_n 3, 1) := by decide +kernel
theorem dX5_factsSoInNone_25 : decode cX5_factsSoInNone 25 = .ok (.ishl, 1) := by decide +kernel
theorem dX5_factsSoInNone_26 : decode cX5_factsSoInNone 26 = .ok (.iconst (-1), 1) := by decide +kernel
theorem dX5_factsSoInNone_27 : decode cX5_factsSoInNone 27 = .ok (.ixor, 1) := by decide +kernel
theorem dX5_factsSoInNone_28 : decode cX5_factsSoInNone 28 = .ok (.iand, 1) := by decide +kernel
theorem dX5_factsSoInNone_29 : decode cX5_factsSoInNone 29 = .ok (.istore_n 2, 1) := by decide +kernel
theorem dX5_factsSoInNone_30 : decode cX5_factsSoInNone 30 = .ok (.iinc 3 1, 3) := by decide +kernel
theorem dX5_factsSoInNone_33 : decode cX5_factsSoInNone 33 = .ok (.goto (-28), 3) := by decide +kernel
theorem dX5_factsSoInNone_36 : decode cX5_factsSoInNone 36 = .ok (.iload_n 2, 1) := by decide +kernel
theorem dX5_factsSoInNone_37 : decode cX5_factsSoInNone 37 = .ok (.ireturn, 1) := by decide +kernel
theorem dX5_leftAtWorst_0 : decode cX5_leftAtWorst 0 = .ok (.aload_n 0, 1) := by decide +kernel
theorem dX5_leftAtWorst_1 : decode cX5_leftAtWorst 1 = .ok (.getfield 23, 3) := by decide +kernel
theorem dX5_leftAtWorst_4 : decode cX5_leftAtWorst 4 = .ok (.getfield 185, 3) := by decide +kernel
theorem dX5_leftAtWorst_7 : decode cX5_leftAtWorst 7 = .ok (.iload_n 1, 1) := by decide +kernel
theorem dX5_leftAtWorst_8 : decode cX5_leftAtWorst 8 = .ok (.invokestatic 306, 3) := by decide +kernel
theorem dX5_leftAtWorst_11 : decode cX5_leftAtWorst 11 = .ok (.land, 1) := by decide +kernel
theorem dX5_leftAtWorst_12 : decode cX5_leftAtWorst 12 = .ok (.invokestatic 108, 3) := by decide +kernel
theorem dX5_leftAtWorst_15 : decode cX5_leftAtWorst 15 = .ok (.istore_n 2, 1) := by decide +kernel
theorem dX5_leftAtWorst_16 : decode cX5_leftAtWorst 16 = .ok (.aload_n 0, 1) := by decide +kernel
theorem dX5_leftAtWorst_17 : decode cX5_leftAtWorst 17 = .ok (.getfield 23, 3) := by decide +kernel
theorem dX5_leftAtWorst_20 : decode cX5_leftAtWorst 20 = .ok (.getfield 185, 3) := by decide +kernel
theorem dX5_leftAtWorst_23 : decode cX5_leftAtWorst 23 = .ok (.iload_n 1, 1) := by decide +kernel
theorem dX5_leftAtWorst_24 : decode cX5_leftAtWorst 24 = .ok (.invokestatic 306, 3) := by decide +kernel
theorem dX5_leftAtWorst_27 : decode cX5_leftAtWorst 27 = .ok (.ldc2_w 309, 3) := by decide +kernel
theorem dX5_leftAtWorst_30 : decode cX5_leftAtWorst 30 = .ok (.lxor, 1) := by decide +kernel
theorem dX5_leftAtWorst_31 : decode cX5_leftAtWorst 31 = .ok (.land, 1) := by decide +kernel
theorem dX5_leftAtWorst_32 : decode cX5_leftAtWorst 32 = .ok (.invokestatic 108, 3) := by decide +kernel
theorem dX5_leftAtWorst_35 : decode cX5_leftAtWorst 35 = .ok (.istore_n 3, 1) := by decide +kernel
theorem dX5_leftAtWorst_36 : decode cX5_leftAtWorst 36 = .ok (.iload_n 2, 1) := by decide +kernel
theorem dX5_leftAtWorst_37 : decode cX5_leftAtWorst 37 = .ok (.iload_n 3, 1) := by decide +kernel
theorem dX5_leftAtWorst_38 : decode cX5_leftAtWorst 38 = .ok (.invokestatic 311, 3) := by decide +kernel
theorem dX5_leftAtWorst_41 : decode cX5_leftAtWorst 41 = .ok (.ireturn, 1) := by decide +kernel
theorem dX5_readingsWith_0 : decode cX5_readingsWith 0 = .ok (.iload_n 1, 1) := by decide +kernel
theorem dX5_readingsWith_1 : decode cX5_readingsWith 1 = .ok (.bipush 12, 2) := by decide +kernel
theorem dX5_readingsWith_3 : decode cX5_readingsWith 3 = .ok (.if_icmp .lt 7, 3) := by decide +kernel
theorem dX5_readingsWith_6 : decode cX5_readingsWith 6 = .ok (.iconst 1, 1) := by decide +kernel
theorem dX5_readingsWith_7 : decode cX5_readingsWith 7 = .ok (.goto 4, 3) := by decide +kernel
theorem dX5_readingsWith_10 : decode cX5_readingsWith 10 = .ok (.iconst 0, 1) := by decide +kernel
theorem dX5_readingsWith_11 : decode cX5_readingsWith 11 = .ok (.istore_n 2, 1) := by decide +kernel
theorem dX5_readingsWith_12 : decode cX5_readingsWith 12 = .ok (.iload_n 1, 1) := by decide +kernel
theorem dX5_readingsWith_13 : decode cX5_readingsWith 13 = .ok (.bipush 12, 2) := by decide +kernel
theorem dX5_readingsWith_15 : decode cX5_readingsWith 15 = .ok (.irem, 1) := by decide +kernel
theorem dX5_readingsWith_16 : decode cX5_readingsWith 16 = .ok (.bipush 6, 2) := by decide +kernel
theorem dX5_readingsWith_18 : decode cX5_readingsWith 18 = .ok (.if_icmp .lt 7, 3) := by decide +kernel
theorem dX5_readingsWith_21 : decode cX5_readingsWith 21 = .ok (.iconst 1, 1) := by decide +kernel
theorem dX5_readingsWith_22 : decode cX5_readingsWith 22 = .ok (.goto 4, 3) := by decide +kernel
theorem dX5_readingsWith_25 : decode cX5_readingsWith 25 = .ok (.iconst 0, 1) := by decide +kernel
theorem dX5_readingsWith_26 : decode cX5_readingsWith 26 = .ok (.istore_n 3, 1) := by decide +kernel
theorem dX5_readingsWith_27 : decode cX5_readingsWith 27 = .ok (.aload_n 0, 1) := by decide +kernel
theorem dX5_readingsWith_28 : decode cX5_readingsWith 28 = .ok (.getfield 30, 3) := by decide +kernel
theorem dX5_readingsWith_31 : decode cX5_readingsWith 31 = .ok (.aload_n 0, 1) := by decide +kernel
theorem dX5_readingsWith_32 : decode cX5_readingsWith 32 = .ok (.getfield 23, 3) := by decide +kernel
theorem dX5_readingsWith_35 : decode cX5_readingsWith 35 = .ok (.invokevirtual 76, 3) := by decide +kernel
theorem dX5_readingsWith_38 : decode cX5_readingsWith 38 = .ok (.aload_n 0, 1) := by decide +kernel
theorem dX5_readingsWith_39 : decode cX5_readingsWith 39 = .ok (.getfield 30, 3) := by decide +kernel
theorem dX5_readingsWith_42 : decode cX5_readingsWith 42 = .ok (.iload_n 2, 1) := by decide +kernel
theorem dX5_readingsWith_43 : decode cX5_readingsWith 43 = .ok (.iload_n 3, 1) := by decide +kernel
theorem dX5_readingsWith_44 : decode cX5_readingsWith 44 = .ok (.iload_n 1, 1) := by decide +kernel
theorem dX5_readingsWith_45 : decode cX5_readingsWith 45 = .ok (.bipush 6, 2) := by decide +kernel
theorem dX5_readingsWith_47 : decode cX5_readingsWith 47 = .ok (.irem, 1) := by decide +kernel
theorem dX5_readingsWith_48 : decode cX5_readingsWith 48 = .ok (.invokevirtual 316, 3) := by decide +kernel
theorem dX5_readingsWith_51 : decode cX5_readingsWith 51 = .ok (.aload_n 0, 1) := by decide +kernel
theorem dX5_readingsWith_52 : decode cX5_readingsWith 52 = .ok (.getfield 30, 3) := by decide +kernel
theorem dX5_readingsWith_55 : decode cX5_readingsWith 55 = .ok (.aload_n 0, 1) := by decide +kernel
theorem dX5_readingsWith_56 : decode cX5_readingsWith 56 = .ok (.getfield 16, 3) := by decide +kernel
theorem dX5_readingsWith_59 : decode cX5_readingsWith 59 = .ok (.invokevirtual 319, 3) := by decide +kernel
theorem dX5_readingsWith_62 : decode cX5_readingsWith 62 = .ok (.aload_n 0, 1) := by decide +kernel
theorem dX5_readingsWith_63 : decode cX5_readingsWith 63 = .ok (.getfield 30, 3) := by decide +kernel
theorem dX5_readingsWith_66 : decode cX5_readingsWith 66 = .ok (.aload_n 0, 1) := by decide +kernel
theorem dX5_readingsWith_67 : decode cX5_readingsWith 67 = .ok (.getfield 124, 3) := by decide +kernel
theorem dX5_readingsWith_70 : decode cX5_readingsWith 70 = .ok (.invokevirtual 127, 3) := by decide +kernel
theorem dX5_readingsWith_73 : decode cX5_readingsWith 73 = .ok (.ireturn, 1) := by decide +kernel
theorem dX5_doesFit_0 : decode cX5_doesFit 0 = .ok (.iconst 1, 1) := by decide +kernel
theorem dX5_doesFit_1 : decode cX5_doesFit 1 = .ok (.istore_n 3, 1) := by decide +kernel
theorem dX5_doesFit_2 : decode cX5_doesFit 2 = .ok (.iload_n 3, 1) := by decide +kernel
theorem dX5_doesFit_3 : decode cX5_doesFit 3 = .ok (.aload_n 0, 1) := by decide +kernel
theorem dX5_doesFit_4 : decode cX5_doesFit 4 = .ok (.getfield 43, 3) := by decide +kernel
theorem dX5_doesFit_7 : decode cX5_doesFit 7 = .ok (.getfield 214, 3) := by decide +kernel
theorem dX5_doesFit_10 : decode cX5_doesFit 10 = .ok (.if_icmp .ge 38, 3) := by decide +kernel
theorem dX5_doesFit_13 : decode cX5_doesFit 13 = .ok (.aload_n 0, 1) := by decide +kernel
theorem dX5_doesFit_14 : decode cX5_doesFit 14 = .ok (.iload_n 1, 1) := by decide +kernel
theorem dX5_doesFit_15 : decode cX5_doesFit 15 = .ok (.iload_n 2, 1) := by decide +kernel
theorem dX5_doesFit_16 : decode cX5_doesFit 16 = .ok (.aload_n 0, 1) := by decide +kernel
theorem dX5_doesFit_17 : decode cX5_doesFit 17 = .ok (.getfield 43, 3) := by decide +kernel
theorem dX5_doesFit_20 : decode cX5_doesFit 20 = .ok (.iload_n 3, 1) := by decide +kernel
theorem dX5_doesFit_21 : decode cX5_doesFit 21 = .ok (.iconst 1, 1) := by decide +kernel
theorem dX5_doesFit_22 : decode cX5_doesFit 22 = .ok (.isub, 1) := by decide +kernel
theorem dX5_doesFit_23 : decode cX5_doesFit 23 = .ok (.invokevirtual 322, 3) := by decide +kernel
theorem dX5_doesFit_26 : decode cX5_doesFit 26 = .ok (.invokevirtual 300, 3) := by decide +kernel
theorem dX5_doesFit_29 : decode cX5_doesFit 29 = .ok (.aload_n 0, 1) := by decide +kernel
theorem dX5_doesFit_30 : decode cX5_doesFit 30 = .ok (.getfield 43, 3) := by decide +kernel
theorem dX5_doesFit_33 : decode cX5_doesFit 33 = .ok (.iload_n 3, 1) := by decide +kernel
theorem dX5_doesFit_34 : decode cX5_doesFit 34 = .ok (.invokevirtual 322, 3) := by decide +kernel
theorem dX5_doesFit_37 : decode cX5_doesFit 37 = .ok (.if_icmp .eq 5, 3) := by decide +kernel
theorem dX5_doesFit_40 : decode cX5_doesFit 40 = .ok (.iconst 0, 1) := by decide +kernel
theorem dX5_doesFit_41 : decode cX5_doesFit 41 = .ok (.ireturn, 1) := by decide +kernel
theorem dX5_doesFit_42 : decode cX5_doesFit 42 = .ok (.iinc 3 1, 3) := by decide +kernel
theorem dX5_doesFit_45 : decode cX5_doesFit 45 = .ok (.goto (-43), 3) := by decide +kernel
theorem dX5_doesFit_48 : decode cX5_doesFit 48 = .ok (.iconst 1, 1) := by decide +kernel
theorem dX5_doesFit_49 : decode cX5_doesFit 49 = .ok (.ireturn, 1) := by decide +kernel
theorem dX5_nextSeed_0 : decode cX5_nextSeed 0 = .ok (.ldc2_w 325, 3) := by decide +kernel
theorem dX5_nextSeed_3 : decode cX5_nextSeed 3 = .ok (.iload_n 0, 1) := by decide +kernel
theorem dX5_nextSeed_4 : decode cX5_nextSeed 4 = .ok (.i2l, 1) := by decide +kernel
theorem dX5_nextSeed_5 : decode cX5_nextSeed 5 = .ok (.lmul, 1) := by decide +kernel
theorem dX5_nextSeed_6 : decode cX5_nextSeed 6 = .ok (.ldc2_w 327, 3) := by decide +kernel
theorem dX5_nextSeed_9 : decode cX5_nextSeed 9 = .ok (.ladd, 1) := by decide +kernel
theorem dX5_nextSeed_10 : decode cX5_nextSeed 10 = .ok (.ldc2_w 329, 3) := by decide +kernel
theorem dX5_nextSeed_13 : decode cX5_nextSeed 13 = .ok (.land, 1) := by decide +kernel
theorem dX5_nextSeed_14 : decode cX5_nextSeed 14 = .ok (.l2i, 1) := by decide +kernel
theorem dX5_nextSeed_15 : decode cX5_nextSeed 15 = .ok (.ireturn, 1) := by decide +kernel
theorem dX5_drawOf_0 : decode cX5_drawOf 0 = .ok (.iload_n 1, 1) := by decide +kernel
theorem dX5_drawOf_1 : decode cX5_drawOf 1 = .ok (.ifCond .le 13, 3) := by decide +kernel
theorem dX5_drawOf_4 : decode cX5_drawOf 4 = .ok (.iload_n 0, 1) := by decide +kernel
theorem dX5_drawOf_5 : decode cX5_drawOf 5 = .ok (.ldc_w 331, 3) := by decide +kernel
theorem dX5_drawOf_8 : decode cX5_drawOf 8 = .ok (.idiv, 1) := by decide +kernel
theorem dX5_drawOf_9 : decode cX5_drawOf 9 = .ok (.iload_n 1, 1) := by decide +kernel
theorem dX5_drawOf_10 : decode cX5_drawOf 10 = .ok (.irem, 1) := by decide +kernel
theorem dX5_drawOf_11 : decode cX5_drawOf 11 = .ok (.goto 4, 3) := by decide +kernel
theorem dX5_drawOf_14 : decode cX5_drawOf 14 = .ok (.iconst 0, 1) := by decide +kernel
theorem dX5_drawOf_15 : decode cX5_drawOf 15 = .ok (.ireturn, 1) := by decide +kernel
theorem dJ13_bitCount_95d88_0 : decode cJ13_bitCount_95d88 0 = .ok (.lload_n 0, 1) := by decide +kernel
theorem dJ13_bitCount_95d88_1 : decode cJ13_bitCount_95d88 1 = .ok (.lload_n 0, 1) := by decide +kernel
theorem dJ13_bitCount_95d88_2 : decode cJ13_bitCount_95d88 2 = .ok (.iconst 1, 1) := by decide +kernel
theorem dJ13_bitCount_95d88_3 : decode cJ13_bitCount_95d88 3 = .ok (.lushr, 1) := by decide +kernel
theorem dJ13_bitCount_95d88_4 : decode cJ13_bitCount_95d88 4 = .ok (.ldc2_w 314, 3) := by decide +kernel
theorem dJ13_bitCount_95d88_7 : decode cJ13_bitCount_95d88 7 = .ok (.land, 1) := by decide +kernel
theorem dJ13_bitCount_95d88_8 : decode cJ13_bitCount_95d88 8 = .ok (.lsub, 1) := by decide +kernel
theorem dJ13_bitCount_95d88_9 : decode cJ13_bitCount_95d88 9 = .ok (.lstore_n 0, 1) := by decide +kernel
theorem dJ13_bitCount_95d88_10 : decode cJ13_bitCount_95d88 10 = .ok (.lload_n 0, 1) := by decide +kernel
theorem dJ13_bitCount_95d88_11 : decode cJ13_bitCount_95d88 11 = .ok (.ldc2_w 316, 3) := by decide +kernel
theorem dJ13_bitCount_95d88_14 : decode cJ13_bitCount_95d88 14 = .ok (.land, 1) := by decide +kernel
theorem dJ13_bitCount_95d88_15 : decode cJ13_bitCount_95d88 15 = .ok (.lload_n 0, 1) := by decide +kernel
theorem dJ13_bitCount_95d88_16 : decode cJ13_bitCount_95d88 16 = .ok (.iconst 2, 1) := by decide +kernel
theorem dJ13_bitCount_95d88_17 : decode cJ13_bitCount_95d88 17 = .ok (.lushr, 1) := by decide +kernel
theorem dJ13_bitCount_95d88_18 : decode cJ13_bitCount_95d88 18 = .ok (.ldc2_w 316, 3) := by decide +kernel
theorem dJ13_bitCount_95d88_21 : decode cJ13_bitCount_95d88 21 = .ok (.land, 1) := by decide +kernel
theorem dJ13_bitCount_95d88_22 : decode cJ13_bitCount_95d88 22 = .ok (.ladd, 1) := by decide +kernel
theorem dJ13_bitCount_95d88_23 : decode cJ13_bitCount_95d88 23 = .ok (.lstore_n 0, 1) := by decide +kernel
theorem dJ13_bitCount_95d88_24 : decode cJ13_bitCount_95d88 24 = .ok (.lload_n 0, 1) := by decide +kernel
theorem dJ13_bitCount_95d88_25 : decode cJ13_bitCount_95d88 25 = .ok (.lload_n 0, 1) := by decide +kernel
theorem dJ13_bitCount_95d88_26 : decode cJ13_bitCount_95d88 26 = .ok (.iconst 4, 1) := by decide +kernel
theorem dJ13_bitCount_95d88_27 : decode cJ13_bitCount_95d88 27 = .ok (.lushr, 1) := by decide +kernel
theorem dJ13_bitCount_95d88_28 : decode cJ13_bitCount_95d88 28 = .ok (.ladd, 1) := by decide +kernel
theorem dJ13_bitCount_95d88_29 : decode cJ13_bitCount_95d88 29 = .ok (.ldc2_w 318, 3) := by decide +kernel
theorem dJ13_bitCount_95d88_32 : decode cJ13_bitCount_95d88 32 = .ok (.land, 1) := by decide +kernel
theorem dJ13_bitCount_95d88_33 : decode cJ13_bitCount_95d88 33 = .ok (.lstore_n 0, 1) := by decide +kernel
theorem dJ13_bitCount_95d88_34 : decode cJ13_bitCount_95d88 34 = .ok (.lload_n 0, 1) := by decide +kernel
theorem dJ13_bitCount_95d88_35 : decode cJ13_bitCount_95d88 35 = .ok (.lload_n 0, 1) := by decide +kernel
theorem dJ13_bitCount_95d88_36 : decode cJ13_bitCount_95d88 36 = .ok (.bipush 8, 2) := by decide +kernel
theorem dJ13_bitCount_95d88_38 : decode cJ13_bitCount_95d88 38 = .ok (.lushr, 1) := by decide +kernel
theorem dJ13_bitCount_95d88_39 : decode cJ13_bitCount_95d88 39 = .ok (.ladd, 1) := by decide +kernel
theorem dJ13_bitCount_95d88_40 : decode cJ13_bitCount_95d88 40 = .ok (.lstore_n 0, 1) := by decide +kernel
theorem dJ13_bitCount_95d88_41 : decode cJ13_bitCount_95d88 41 = .ok (.lload_n 0, 1) := by decide +kernel
theorem dJ13_bitCount_95d88_42 : decode cJ13_bitCount_95d88 42 = .ok (.lload_n 0, 1) := by decide +kernel
theorem dJ13_bitCount_95d88_43 : decode cJ13_bitCount_95d88 43 = .ok (.bipush 16, 2) := by decide +kernel
theorem dJ13_bitCount_95d88_45 : decode cJ13_bitCount_95d88 45 = .ok (.lushr, 1) := by decide +kernel
theorem dJ13_bitCount_95d88_46 : decode cJ13_bitCount_95d88 46 = .ok (.ladd, 1) := by decide +kernel
theorem dJ13_bitCount_95d88_47 : decode cJ13_bitCount_95d88 47 = .ok (.lstore_n 0, 1) := by decide +kernel
theorem dJ13_bitCount_95d88_48 : decode cJ13_bitCount_95d88 48 = .ok (.lload_n 0, 1) := by decide +kernel
theorem dJ13_bitCount_95d88_49 : decode cJ13_bitCount_95d88 49 = .ok (.lload_n 0, 1) := by decide +kernel
theorem dJ13_bitCount_95d88_50 : decode cJ13_bitCount_95d88 50 = .ok (.bipush 32, 2) := by decide +kernel
theorem dJ13_bitCount_95d88_52 : decode cJ13_bitCount_95d88 52 = .ok (.lushr, 1) := by decide +kernel
theorem dJ13_bitCount_95d88_53 : decode cJ13_bitCount_95d88 53 = .ok (.ladd, 1) := by decide +kernel
theorem dJ13_bitCount_95d88_54 : decode cJ13_bitCount_95d88 54 = .ok (.lstore_n 0, 1) := by decide +kernel
theorem dJ13_bitCount_95d88_55 : decode cJ13_bitCount_95d88 55 = .ok (.lload_n 0, 1) := by decide +kernel
theorem dJ13_bitCount_95d88_56 : decode cJ13_bitCount_95d88 56 = .ok (.l2i, 1) := by decide +kernel
theorem dJ13_bitCount_95d88_57 : decode cJ13_bitCount_95d88 57 = .ok (.bipush 127, 2) := by decide +kernel
theorem dJ13_bitCount_95d88_59 : decode cJ13_bitCount_95d88 59 = .ok (.iand, 1) := by decide +kernel
theorem dJ13_bitCount_95d88_60 : decode cJ13_bitCount_95d88 60 = .ok (.ireturn, 1) := by decide +kernel
theorem dJ9_max_7cf53_0 : decode cJ9_max_7cf53 0 = .ok (.iload_n 0, 1) := by decide +kernel
theorem dJ9_max_7cf53_1 : decode cJ9_max_7cf53 1 = .ok (.iload_n 1, 1) := by decide +kernel
theorem dJ9_max_7cf53_2 : decode cJ9_max_7cf53 2 = .ok (.if_icmp .lt 7, 3) := by decide +kernel
theorem dJ9_max_7cf53_5 : decode cJ9_max_7cf53 5 = .ok (.iload_n 0, 1) := by decide +kernel
theorem dJ9_max_7cf53_6 : decode cJ9_max_7cf53 6 = .ok (.goto 4, 3) := by decide +kernel
theorem dJ9_max_7cf53_9 : decode cJ9_max_7cf53 9 = .ok (.iload_n 1, 1) := by decide +kernel
theorem dJ9_max_7cf53_10 : decode cJ9_max_7cf53 10 = .ok (.ireturn, 1) := by decide +kernel
