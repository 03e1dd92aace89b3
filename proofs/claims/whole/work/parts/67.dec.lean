theorem d_Rf_enter_89 : decode b_Rf_enter 89 = .ok (.baload, 1) := by decide +kernel
theorem d_Rf_enter_90 : decode b_Rf_enter 90 = .ok (.ifCond .eq 19, 3) := by decide +kernel
theorem d_Rf_enter_93 : decode b_Rf_enter 93 = .ok (.aload_n 0, 1) := by decide +kernel
theorem d_Rf_enter_94 : decode b_Rf_enter 94 = .ok (.getfield 54, 3) := by decide +kernel
theorem d_Rf_enter_97 : decode b_Rf_enter 97 = .ok (.iload_n 2, 1) := by decide +kernel
theorem d_Rf_enter_98 : decode b_Rf_enter 98 = .ok (.aload_n 0, 1) := by decide +kernel
theorem d_Rf_enter_99 : decode b_Rf_enter 99 = .ok (.getfield 19, 3) := by decide +kernel
theorem d_Rf_enter_102 : decode b_Rf_enter 102 = .ok (.iload_n 3, 1) := by decide +kernel
theorem d_Rf_enter_103 : decode b_Rf_enter 103 = .ok (.iaload, 1) := by decide +kernel
theorem d_Rf_enter_104 : decode b_Rf_enter 104 = .ok (.iastore, 1) := by decide +kernel
theorem d_Rf_enter_105 : decode b_Rf_enter 105 = .ok (.iload_n 2, 1) := by decide +kernel
theorem d_Rf_enter_106 : decode b_Rf_enter 106 = .ok (.iconst 1, 1) := by decide +kernel
theorem d_Rf_enter_107 : decode b_Rf_enter 107 = .ok (.iadd, 1) := by decide +kernel
theorem d_Rf_enter_108 : decode b_Rf_enter 108 = .ok (.istore_n 2, 1) := by decide +kernel
theorem d_Rf_enter_109 : decode b_Rf_enter 109 = .ok (.goto (-100), 3) := by decide +kernel
theorem d_Rf_enter_112 : decode b_Rf_enter 112 = .ok (.return_, 1) := by decide +kernel
theorem d_Rf_leave_0 : decode b_Rf_leave 0 = .ok (.iload_n 1, 1) := by decide +kernel
theorem d_Rf_leave_1 : decode b_Rf_leave 1 = .ok (.istore_n 2, 1) := by decide +kernel
theorem d_Rf_leave_2 : decode b_Rf_leave 2 = .ok (.iconst 1, 1) := by decide +kernel
theorem d_Rf_leave_3 : decode b_Rf_leave 3 = .ok (.istore_n 3, 1) := by decide +kernel
theorem d_Rf_leave_4 : decode b_Rf_leave 4 = .ok (.iload_n 3, 1) := by decide +kernel
theorem d_Rf_leave_5 : decode b_Rf_leave 5 = .ok (.ifCond .eq 103, 3) := by decide +kernel
theorem d_Rf_leave_8 : decode b_Rf_leave 8 = .ok (.aload_n 0, 1) := by decide +kernel
theorem d_Rf_leave_9 : decode b_Rf_leave 9 = .ok (.getfield 22, 3) := by decide +kernel
theorem d_Rf_leave_12 : decode b_Rf_leave 12 = .ok (.iload_n 2, 1) := by decide +kernel
theorem d_Rf_leave_13 : decode b_Rf_leave 13 = .ok (.iaload, 1) := by decide +kernel
theorem d_Rf_leave_14 : decode b_Rf_leave 14 = .ok (.ifCond .lt 94, 3) := by decide +kernel
theorem d_Rf_leave_17 : decode b_Rf_leave 17 = .ok (.aload_n 0, 1) := by decide +kernel
theorem d_Rf_leave_18 : decode b_Rf_leave 18 = .ok (.getfield 22, 3) := by decide +kernel
theorem d_Rf_leave_21 : decode b_Rf_leave 21 = .ok (.iload_n 2, 1) := by decide +kernel
theorem d_Rf_leave_22 : decode b_Rf_leave 22 = .ok (.iaload, 1) := by decide +kernel
theorem d_Rf_leave_23 : decode b_Rf_leave 23 = .ok (.istore 4, 2) := by decide +kernel
theorem d_Rf_leave_25 : decode b_Rf_leave 25 = .ok (.aload_n 0, 1) := by decide +kernel
theorem d_Rf_leave_26 : decode b_Rf_leave 26 = .ok (.getfield 7, 3) := by decide +kernel
theorem d_Rf_leave_29 : decode b_Rf_leave 29 = .ok (.iload 4, 2) := by decide +kernel
theorem d_Rf_leave_31 : decode b_Rf_leave 31 = .ok (.iaload, 1) := by decide +kernel
theorem d_Rf_leave_32 : decode b_Rf_leave 32 = .ok (.iconst 4, 1) := by decide +kernel
theorem d_Rf_leave_33 : decode b_Rf_leave 33 = .ok (.if_icmp .ne 41, 3) := by decide +kernel
theorem d_Rf_leave_36 : decode b_Rf_leave 36 = .ok (.aload_n 0, 1) := by decide +kernel
theorem d_Rf_leave_37 : decode b_Rf_leave 37 = .ok (.getfield 16, 3) := by decide +kernel
theorem d_Rf_leave_40 : decode b_Rf_leave 40 = .ok (.iload 4, 2) := by decide +kernel
theorem d_Rf_leave_42 : decode b_Rf_leave 42 = .ok (.iaload, 1) := by decide +kernel
theorem d_Rf_leave_43 : decode b_Rf_leave 43 = .ok (.iload_n 2, 1) := by decide +kernel
theorem d_Rf_leave_44 : decode b_Rf_leave 44 = .ok (.if_icmp .ne 30, 3) := by decide +kernel
theorem d_Rf_leave_47 : decode b_Rf_leave 47 = .ok (.aload_n 0, 1) := by decide +kernel
theorem d_Rf_leave_48 : decode b_Rf_leave 48 = .ok (.aload_n 0, 1) := by decide +kernel
theorem d_Rf_leave_49 : decode b_Rf_leave 49 = .ok (.getfield 19, 3) := by decide +kernel
theorem d_Rf_leave_52 : decode b_Rf_leave 52 = .ok (.iload 4, 2) := by decide +kernel
theorem d_Rf_leave_54 : decode b_Rf_leave 54 = .ok (.iaload, 1) := by decide +kernel
theorem d_Rf_leave_55 : decode b_Rf_leave 55 = .ok (.invokevirtual 90, 3) := by decide +kernel
theorem d_Rf_leave_58 : decode b_Rf_leave 58 = .ok (.aload_n 0, 1) := by decide +kernel
theorem d_Rf_leave_59 : decode b_Rf_leave 59 = .ok (.getfield 25, 3) := by decide +kernel
theorem d_Rf_leave_62 : decode b_Rf_leave 62 = .ok (.aload_n 0, 1) := by decide +kernel
theorem d_Rf_leave_63 : decode b_Rf_leave 63 = .ok (.getfield 19, 3) := by decide +kernel
theorem d_Rf_leave_66 : decode b_Rf_leave 66 = .ok (.iload 4, 2) := by decide +kernel
theorem d_Rf_leave_68 : decode b_Rf_leave 68 = .ok (.iaload, 1) := by decide +kernel
theorem d_Rf_leave_69 : decode b_Rf_leave 69 = .ok (.baload, 1) := by decide +kernel
theorem d_Rf_leave_70 : decode b_Rf_leave 70 = .ok (.istore_n 3, 1) := by decide +kernel
theorem d_Rf_leave_71 : decode b_Rf_leave 71 = .ok (.goto 31, 3) := by decide +kernel
theorem d_Rf_leave_74 : decode b_Rf_leave 74 = .ok (.aload_n 0, 1) := by decide +kernel
theorem d_Rf_leave_75 : decode b_Rf_leave 75 = .ok (.getfield 7, 3) := by decide +kernel
theorem d_Rf_leave_78 : decode b_Rf_leave 78 = .ok (.iload 4, 2) := by decide +kernel
theorem d_Rf_leave_80 : decode b_Rf_leave 80 = .ok (.iaload, 1) := by decide +kernel
theorem d_Rf_leave_81 : decode b_Rf_leave 81 = .ok (.iconst 2, 1) := by decide +kernel
theorem d_Rf_leave_82 : decode b_Rf_leave 82 = .ok (.if_icmp .eq 14, 3) := by decide +kernel
theorem d_Rf_leave_85 : decode b_Rf_leave 85 = .ok (.aload_n 0, 1) := by decide +kernel
theorem d_Rf_leave_86 : decode b_Rf_leave 86 = .ok (.getfield 7, 3) := by decide +kernel
theorem d_Rf_leave_89 : decode b_Rf_leave 89 = .ok (.iload 4, 2) := by decide +kernel
theorem d_Rf_leave_91 : decode b_Rf_leave 91 = .ok (.iaload, 1) := by decide +kernel
theorem d_Rf_leave_92 : decode b_Rf_leave 92 = .ok (.iconst 3, 1) := by decide +kernel
theorem d_Rf_leave_93 : decode b_Rf_leave 93 = .ok (.if_icmp .ne 9, 3) := by decide +kernel
theorem d_Rf_leave_96 : decode b_Rf_leave 96 = .ok (.aload_n 0, 1) := by decide +kernel
theorem d_Rf_leave_97 : decode b_Rf_leave 97 = .ok (.iload 4, 2) := by decide +kernel
theorem d_Rf_leave_99 : decode b_Rf_leave 99 = .ok (.invokevirtual 90, 3) := by decide +kernel
theorem d_Rf_leave_102 : decode b_Rf_leave 102 = .ok (.iload 4, 2) := by decide +kernel
theorem d_Rf_leave_104 : decode b_Rf_leave 104 = .ok (.istore_n 2, 1) := by decide +kernel
theorem d_Rf_leave_105 : decode b_Rf_leave 105 = .ok (.goto (-101), 3) := by decide +kernel
theorem d_Rf_leave_108 : decode b_Rf_leave 108 = .ok (.aload_n 0, 1) := by decide +kernel
theorem d_Rf_leave_109 : decode b_Rf_leave 109 = .ok (.aload_n 0, 1) := by decide +kernel
theorem d_Rf_leave_110 : decode b_Rf_leave 110 = .ok (.getfield 94, 3) := by decide +kernel
theorem d_Rf_leave_113 : decode b_Rf_leave 113 = .ok (.ifCond .ne 7, 3) := by decide +kernel
theorem d_Rf_leave_116 : decode b_Rf_leave 116 = .ok (.iload_n 3, 1) := by decide +kernel
theorem d_Rf_leave_117 : decode b_Rf_leave 117 = .ok (.ifCond .eq 7, 3) := by decide +kernel
theorem d_Rf_leave_120 : decode b_Rf_leave 120 = .ok (.iconst 1, 1) := by decide +kernel
theorem d_Rf_leave_121 : decode b_Rf_leave 121 = .ok (.goto 4, 3) := by decide +kernel
theorem d_Rf_leave_124 : decode b_Rf_leave 124 = .ok (.iconst 0, 1) := by decide +kernel
theorem d_Rf_leave_125 : decode b_Rf_leave 125 = .ok (.putfield 94, 3) := by decide +kernel
theorem d_Rf_leave_128 : decode b_Rf_leave 128 = .ok (.return_, 1) := by decide +kernel
theorem d_Rf_clearLater_0 : decode b_Rf_clearLater 0 = .ok (.aload_n 0, 1) := by decide +kernel
theorem d_Rf_clearLater_1 : decode b_Rf_clearLater 1 = .ok (.iconst 0, 1) := by decide +kernel
theorem d_Rf_clearLater_2 : decode b_Rf_clearLater 2 = .ok (.putfield 94, 3) := by decide +kernel
theorem d_Rf_clearLater_5 : decode b_Rf_clearLater 5 = .ok (.aload_n 0, 1) := by decide +kernel
theorem d_Rf_clearLater_6 : decode b_Rf_clearLater 6 = .ok (.getfield 32, 3) := by decide +kernel
theorem d_Rf_clearLater_9 : decode b_Rf_clearLater 9 = .ok (.iload_n 1, 1) := by decide +kernel
theorem d_Rf_clearLater_10 : decode b_Rf_clearLater 10 = .ok (.iaload, 1) := by decide +kernel
theorem d_Rf_clearLater_11 : decode b_Rf_clearLater 11 = .ok (.istore_n 2, 1) := by decide +kernel
theorem d_Rf_clearLater_12 : decode b_Rf_clearLater 12 = .ok (.iload_n 2, 1) := by decide +kernel
theorem d_Rf_clearLater_13 : decode b_Rf_clearLater 13 = .ok (.aload_n 0, 1) := by decide +kernel
theorem d_Rf_clearLater_14 : decode b_Rf_clearLater 14 = .ok (.getfield 35, 3) := by decide +kernel
theorem d_Rf_clearLater_17 : decode b_Rf_clearLater 17 = .ok (.iload_n 1, 1) := by decide +kernel
theorem d_Rf_clearLater_18 : decode b_Rf_clearLater 18 = .ok (.iaload, 1) := by decide +kernel
theorem d_Rf_clearLater_19 : decode b_Rf_clearLater 19 = .ok (.if_icmp .gt 16, 3) := by decide +kernel
theorem d_Rf_clearLater_22 : decode b_Rf_clearLater 22 = .ok (.aload_n 0, 1) := by decide +kernel
theorem d_Rf_clearLater_23 : decode b_Rf_clearLater 23 = .ok (.getfield 51, 3) := by decide +kernel
theorem d_Rf_clearLater_26 : decode b_Rf_clearLater 26 = .ok (.iload_n 2, 1) := by decide +kernel
theorem d_Rf_clearLater_27 : decode b_Rf_clearLater 27 = .ok (.iconst 0, 1) := by decide +kernel
theorem d_Rf_clearLater_28 : decode b_Rf_clearLater 28 = .ok (.bastore, 1) := by decide +kernel
theorem d_Rf_clearLater_29 : decode b_Rf_clearLater 29 = .ok (.iinc 2 1, 3) := by decide +kernel
theorem d_Rf_clearLater_32 : decode b_Rf_clearLater 32 = .ok (.goto (-20), 3) := by decide +kernel
theorem d_Rf_clearLater_35 : decode b_Rf_clearLater 35 = .ok (.return_, 1) := by decide +kernel
theorem d_Rf_hasTwins_0 : decode b_Rf_hasTwins 0 = .ok (.aload_n 0, 1) := by decide +kernel
theorem d_Rf_hasTwins_1 : decode b_Rf_hasTwins 1 = .ok (.getfield 32, 3) := by decide +kernel
theorem d_Rf_hasTwins_4 : decode b_Rf_hasTwins 4 = .ok (.iload_n 1, 1) := by decide +kernel
theorem d_Rf_hasTwins_5 : decode b_Rf_hasTwins 5 = .ok (.iaload, 1) := by decide +kernel
theorem d_Rf_hasTwins_6 : decode b_Rf_hasTwins 6 = .ok (.istore_n 2, 1) := by decide +kernel
theorem d_Rf_hasTwins_7 : decode b_Rf_hasTwins 7 = .ok (.iload_n 2, 1) := by decide +kernel
theorem d_Rf_hasTwins_8 : decode b_Rf_hasTwins 8 = .ok (.aload_n 0, 1) := by decide +kernel
theorem d_Rf_hasTwins_9 : decode b_Rf_hasTwins 9 = .ok (.getfield 35, 3) := by decide +kernel
theorem d_Rf_hasTwins_12 : decode b_Rf_hasTwins 12 = .ok (.iload_n 1, 1) := by decide +kernel
theorem d_Rf_hasTwins_13 : decode b_Rf_hasTwins 13 = .ok (.iaload, 1) := by decide +kernel
theorem d_Rf_hasTwins_14 : decode b_Rf_hasTwins 14 = .ok (.if_icmp .gt 62, 3) := by decide +kernel
theorem d_Rf_hasTwins_17 : decode b_Rf_hasTwins 17 = .ok (.aload_n 0, 1) := by decide +kernel
theorem d_Rf_hasTwins_18 : decode b_Rf_hasTwins 18 = .ok (.getfield 32, 3) := by decide +kernel
theorem d_Rf_hasTwins_21 : decode b_Rf_hasTwins 21 = .ok (.iload_n 1, 1) := by decide +kernel
theorem d_Rf_hasTwins_22 : decode b_Rf_hasTwins 22 = .ok (.iaload, 1) := by decide +kernel
theorem d_Rf_hasTwins_23 : decode b_Rf_hasTwins 23 = .ok (.istore_n 3, 1) := by decide +kernel
theorem d_Rf_hasTwins_24 : decode b_Rf_hasTwins 24 = .ok (.iload_n 3, 1) := by decide +kernel
theorem d_Rf_hasTwins_25 : decode b_Rf_hasTwins 25 = .ok (.iload_n 2, 1) := by decide +kernel
theorem d_Rf_hasTwins_26 : decode b_Rf_hasTwins 26 = .ok (.if_icmp .ge 44, 3) := by decide +kernel
theorem d_Rf_hasTwins_29 : decode b_Rf_hasTwins 29 = .ok (.aload_n 0, 1) := by decide +kernel
theorem d_Rf_hasTwins_30 : decode b_Rf_hasTwins 30 = .ok (.getfield 51, 3) := by decide +kernel
theorem d_Rf_hasTwins_33 : decode b_Rf_hasTwins 33 = .ok (.iload_n 2, 1) := by decide +kernel
theorem d_Rf_hasTwins_34 : decode b_Rf_hasTwins 34 = .ok (.baload, 1) := by decide +kernel
theorem d_Rf_hasTwins_35 : decode b_Rf_hasTwins 35 = .ok (.ifCond .eq 35, 3) := by decide +kernel
theorem d_Rf_hasTwins_38 : decode b_Rf_hasTwins 38 = .ok (.aload_n 0, 1) := by decide +kernel
theorem d_Rf_hasTwins_39 : decode b_Rf_hasTwins 39 = .ok (.getfield 51, 3) := by decide +kernel
theorem d_Rf_hasTwins_42 : decode b_Rf_hasTwins 42 = .ok (.iload_n 3, 1) := by decide +kernel
theorem d_Rf_hasTwins_43 : decode b_Rf_hasTwins 43 = .ok (.baload, 1) := by decide +kernel
theorem d_Rf_hasTwins_44 : decode b_Rf_hasTwins 44 = .ok (.ifCond .eq 20, 3) := by decide +kernel
theorem d_Rf_hasTwins_47 : decode b_Rf_hasTwins 47 = .ok (.aload_n 0, 1) := by decide +kernel
theorem d_Rf_hasTwins_48 : decode b_Rf_hasTwins 48 = .ok (.getfield 13, 3) := by decide +kernel
theorem d_Rf_hasTwins_51 : decode b_Rf_hasTwins 51 = .ok (.iload_n 2, 1) := by decide +kernel
theorem d_Rf_hasTwins_52 : decode b_Rf_hasTwins 52 = .ok (.iaload, 1) := by decide +kernel
theorem d_Rf_hasTwins_53 : decode b_Rf_hasTwins 53 = .ok (.aload_n 0, 1) := by decide +kernel
theorem d_Rf_hasTwins_54 : decode b_Rf_hasTwins 54 = .ok (.getfield 13, 3) := by decide +kernel
theorem d_Rf_hasTwins_57 : decode b_Rf_hasTwins 57 = .ok (.iload_n 3, 1) := by decide +kernel
theorem d_Rf_hasTwins_58 : decode b_Rf_hasTwins 58 = .ok (.iaload, 1) := by decide +kernel
theorem d_Rf_hasTwins_59 : decode b_Rf_hasTwins 59 = .ok (.if_icmp .ne 5, 3) := by decide +kernel
theorem d_Rf_hasTwins_62 : decode b_Rf_hasTwins 62 = .ok (.iconst 1, 1) := by decide +kernel
theorem d_Rf_hasTwins_63 : decode b_Rf_hasTwins 63 = .ok (.ireturn, 1) := by decide +kernel
theorem d_Rf_hasTwins_64 : decode b_Rf_hasTwins 64 = .ok (.iinc 3 1, 3) := by decide +kernel
theorem d_Rf_hasTwins_67 : decode b_Rf_hasTwins 67 = .ok (.goto (-43), 3) := by decide +kernel
theorem d_Rf_hasTwins_70 : decode b_Rf_hasTwins 70 = .ok (.iinc 2 1, 3) := by decide +kernel
theorem d_Rf_hasTwins_73 : decode b_Rf_hasTwins 73 = .ok (.goto (-66), 3) := by decide +kernel
theorem d_Rf_hasTwins_76 : decode b_Rf_hasTwins 76 = .ok (.iconst 0, 1) := by decide +kernel
theorem d_Rf_hasTwins_77 : decode b_Rf_hasTwins 77 = .ok (.ireturn, 1) := by decide +kernel
theorem d_Rf_isDeterministic_0 : decode b_Rf_isDeterministic 0 = .ok (.aload_n 0, 1) := by decide +kernel
theorem d_Rf_isDeterministic_1 : decode b_Rf_isDeterministic 1 = .ok (.iload_n 1, 1) := by decide +kernel
theorem d_Rf_isDeterministic_2 : decode b_Rf_isDeterministic 2 = .ok (.invokevirtual 87, 3) := by decide +kernel
theorem d_Rf_isDeterministic_5 : decode b_Rf_isDeterministic 5 = .ok (.ifCond .ne 5, 3) := by decide +kernel
theorem d_Rf_isDeterministic_8 : decode b_Rf_isDeterministic 8 = .ok (.iconst 0, 1) := by decide +kernel
theorem d_Rf_isDeterministic_9 : decode b_Rf_isDeterministic 9 = .ok (.ireturn, 1) := by decide +kernel
theorem d_Rf_isDeterministic_10 : decode b_Rf_isDeterministic 10 = .ok (.aload_n 0, 1) := by decide +kernel
theorem d_Rf_isDeterministic_11 : decode b_Rf_isDeterministic 11 = .ok (.iload_n 1, 1) := by decide +kernel
theorem d_Rf_isDeterministic_12 : decode b_Rf_isDeterministic 12 = .ok (.invokevirtual 98, 3) := by decide +kernel
theorem d_Rf_isDeterministic_15 : decode b_Rf_isDeterministic 15 = .ok (.aload_n 0, 1) := by decide +kernel
theorem d_Rf_isDeterministic_16 : decode b_Rf_isDeterministic 16 = .ok (.aload_n 0, 1) := by decide +kernel
theorem d_Rf_isDeterministic_17 : decode b_Rf_isDeterministic 17 = .ok (.getfield 35, 3) := by decide +kernel
theorem d_Rf_isDeterministic_20 : decode b_Rf_isDeterministic 20 = .ok (.iload_n 1, 1) := by decide +kernel
theorem d_Rf_isDeterministic_21 : decode b_Rf_isDeterministic 21 = .ok (.iaload, 1) := by decide +kernel
theorem d_Rf_isDeterministic_22 : decode b_Rf_isDeterministic 22 = .ok (.invokevirtual 90, 3) := by decide +kernel
theorem d_Rf_isDeterministic_25 : decode b_Rf_isDeterministic 25 = .ok (.aload_n 0, 1) := by decide +kernel
theorem d_Rf_isDeterministic_26 : decode b_Rf_isDeterministic 26 = .ok (.iload_n 1, 1) := by decide +kernel
theorem d_Rf_isDeterministic_27 : decode b_Rf_isDeterministic 27 = .ok (.invokevirtual 101, 3) := by decide +kernel
theorem d_Rf_isDeterministic_30 : decode b_Rf_isDeterministic 30 = .ok (.ifCond .ne 7, 3) := by decide +kernel
theorem d_Rf_isDeterministic_33 : decode b_Rf_isDeterministic 33 = .ok (.iconst 1, 1) := by decide +kernel
theorem d_Rf_isDeterministic_34 : decode b_Rf_isDeterministic 34 = .ok (.goto 4, 3) := by decide +kernel
theorem d_Rf_isDeterministic_37 : decode b_Rf_isDeterministic 37 = .ok (.iconst 0, 1) := by decide +kernel
theorem d_Rf_isDeterministic_38 : decode b_Rf_isDeterministic 38 = .ok (.istore_n 2, 1) := by decide +kernel
theorem d_Rf_isDeterministic_39 : decode b_Rf_isDeterministic 39 = .ok (.aload_n 0, 1) := by decide +kernel
theorem d_Rf_isDeterministic_40 : decode b_Rf_isDeterministic 40 = .ok (.getfield 32, 3) := by decide +kernel
theorem d_Rf_isDeterministic_43 : decode b_Rf_isDeterministic 43 = .ok (.iload_n 1, 1) := by decide +kernel
theorem d_Rf_isDeterministic_44 : decode b_Rf_isDeterministic 44 = .ok (.iaload, 1) := by decide +kernel
theorem d_Rf_isDeterministic_45 : decode b_Rf_isDeterministic 45 = .ok (.istore_n 3, 1) := by decide +kernel
theorem d_Rf_isDeterministic_46 : decode b_Rf_isDeterministic 46 = .ok (.iload_n 3, 1) := by decide +kernel
theorem d_Rf_isDeterministic_47 : decode b_Rf_isDeterministic 47 = .ok (.aload_n 0, 1) := by decide +kernel
theorem d_Rf_isDeterministic_48 : decode b_Rf_isDeterministic 48 = .ok (.getfield 35, 3) := by decide +kernel
theorem d_Rf_isDeterministic_51 : decode b_Rf_isDeterministic 51 = .ok (.iload_n 1, 1) := by decide +kernel
theorem d_Rf_isDeterministic_52 : decode b_Rf_isDeterministic 52 = .ok (.iaload, 1) := by decide +kernel
theorem d_Rf_isDeterministic_53 : decode b_Rf_isDeterministic 53 = .ok (.if_icmp .gt 46, 3) := by decide +kernel
theorem d_Rf_isDeterministic_56 : decode b_Rf_isDeterministic 56 = .ok (.iload_n 2, 1) := by decide +kernel
theorem d_Rf_isDeterministic_57 : decode b_Rf_isDeterministic 57 = .ok (.ifCond .eq 42, 3) := by decide +kernel
theorem d_Rf_isDeterministic_60 : decode b_Rf_isDeterministic 60 = .ok (.aload_n 0, 1) := by decide +kernel
theorem d_Rf_isDeterministic_61 : decode b_Rf_isDeterministic 61 = .ok (.getfield 7, 3) := by decide +kernel
theorem d_Rf_isDeterministic_64 : decode b_Rf_isDeterministic 64 = .ok (.iload_n 3, 1) := by decide +kernel
theorem d_Rf_isDeterministic_65 : decode b_Rf_isDeterministic 65 = .ok (.iaload, 1) := by decide +kernel
theorem d_Rf_isDeterministic_66 : decode b_Rf_isDeterministic 66 = .ok (.ifCond .ne 27, 3) := by decide +kernel
theorem d_Rf_isDeterministic_69 : decode b_Rf_isDeterministic 69 = .ok (.aload_n 0, 1) := by decide +kernel
theorem d_Rf_isDeterministic_70 : decode b_Rf_isDeterministic 70 = .ok (.iload_n 1, 1) := by decide +kernel
theorem d_Rf_isDeterministic_71 : decode b_Rf_isDeterministic 71 = .ok (.invokevirtual 98, 3) := by decide +kernel
theorem d_Rf_isDeterministic_74 : decode b_Rf_isDeterministic 74 = .ok (.aload_n 0, 1) := by decide +kernel
theorem d_Rf_isDeterministic_75 : decode b_Rf_isDeterministic 75 = .ok (.iload_n 3, 1) := by decide +kernel
theorem d_Rf_isDeterministic_76 : decode b_Rf_isDeterministic 76 = .ok (.invokevirtual 104, 3) := by decide +kernel
theorem d_Rf_isDeterministic_79 : decode b_Rf_isDeterministic 79 = .ok (.aload_n 0, 1) := by decide +kernel
theorem d_Rf_isDeterministic_80 : decode b_Rf_isDeterministic 80 = .ok (.iload_n 1, 1) := by decide +kernel
theorem d_Rf_isDeterministic_81 : decode b_Rf_isDeterministic 81 = .ok (.invokevirtual 101, 3) := by decide +kernel
theorem d_Rf_isDeterministic_84 : decode b_Rf_isDeterministic 84 = .ok (.ifCond .ne 7, 3) := by decide +kernel
theorem d_Rf_isDeterministic_87 : decode b_Rf_isDeterministic 87 = .ok (.iconst 1, 1) := by decide +kernel
theorem d_Rf_isDeterministic_88 : decode b_Rf_isDeterministic 88 = .ok (.goto 4, 3) := by decide +kernel
theorem d_Rf_isDeterministic_91 : decode b_Rf_isDeterministic 91 = .ok (.iconst 0, 1) := by decide +kernel
theorem d_Rf_isDeterministic_92 : decode b_Rf_isDeterministic 92 = .ok (.istore_n 2, 1) := by decide +kernel
theorem d_Rf_isDeterministic_93 : decode b_Rf_isDeterministic 93 = .ok (.iinc 3 1, 3) := by decide +kernel
theorem d_Rf_isDeterministic_96 : decode b_Rf_isDeterministic 96 = .ok (.goto (-50), 3) := by decide +kernel
theorem d_Rf_isDeterministic_99 : decode b_Rf_isDeterministic 99 = .ok (.iload_n 2, 1) := by decide +kernel
theorem d_Rf_isDeterministic_100 : decode b_Rf_isDeterministic 100 = .ok (.ireturn, 1) := by decide +kernel
theorem d_Rf_first_0 : decode b_Rf_first 0 = .ok (.aload_n 0, 1) := by decide +kernel
theorem d_Rf_first_1 : decode b_Rf_first 1 = .ok (.aload_n 0, 1) := by decide +kernel
theorem d_Rf_first_2 : decode b_Rf_first 2 = .ok (.getfield 41, 3) := by decide +kernel
theorem d_Rf_first_5 : decode b_Rf_first 5 = .ok (.invokevirtual 98, 3) := by decide +kernel
theorem d_Rf_first_8 : decode b_Rf_first 8 = .ok (.aload_n 0, 1) := by decide +kernel
theorem d_Rf_first_9 : decode b_Rf_first 9 = .ok (.aload_n 0, 1) := by decide +kernel
theorem d_Rf_first_10 : decode b_Rf_first 10 = .ok (.getfield 35, 3) := by decide +kernel
theorem d_Rf_first_13 : decode b_Rf_first 13 = .ok (.aload_n 0, 1) := by decide +kernel
theorem d_Rf_first_14 : decode b_Rf_first 14 = .ok (.getfield 41, 3) := by decide +kernel
theorem d_Rf_first_17 : decode b_Rf_first 17 = .ok (.iaload, 1) := by decide +kernel
theorem d_Rf_first_18 : decode b_Rf_first 18 = .ok (.invokevirtual 90, 3) := by decide +kernel
theorem d_Rf_first_21 : decode b_Rf_first 21 = .ok (.aload_n 0, 1) := by decide +kernel
theorem d_Rf_first_22 : decode b_Rf_first 22 = .ok (.getfield 32, 3) := by decide +kernel
theorem d_Rf_first_25 : decode b_Rf_first 25 = .ok (.aload_n 0, 1) := by decide +kernel
theorem d_Rf_first_26 : decode b_Rf_first 26 = .ok (.getfield 41, 3) := by decide +kernel
theorem d_Rf_first_29 : decode b_Rf_first 29 = .ok (.iaload, 1) := by decide +kernel
theorem d_Rf_first_30 : decode b_Rf_first 30 = .ok (.istore_n 1, 1) := by decide +kernel
theorem d_Rf_first_31 : decode b_Rf_first 31 = .ok (.iload_n 1, 1) := by decide +kernel
theorem d_Rf_first_32 : decode b_Rf_first 32 = .ok (.aload_n 0, 1) := by decide +kernel
theorem d_Rf_first_33 : decode b_Rf_first 33 = .ok (.getfield 35, 3) := by decide +kernel
theorem d_Rf_first_36 : decode b_Rf_first 36 = .ok (.aload_n 0, 1) := by decide +kernel
theorem d_Rf_first_37 : decode b_Rf_first 37 = .ok (.getfield 41, 3) := by decide +kernel
theorem d_Rf_first_40 : decode b_Rf_first 40 = .ok (.iaload, 1) := by decide +kernel
theorem d_Rf_first_41 : decode b_Rf_first 41 = .ok (.if_icmp .gt 21, 3) := by decide +kernel
theorem d_Rf_first_44 : decode b_Rf_first 44 = .ok (.aload_n 0, 1) := by decide +kernel
theorem d_Rf_first_45 : decode b_Rf_first 45 = .ok (.getfield 48, 3) := by decide +kernel
theorem d_Rf_first_48 : decode b_Rf_first 48 = .ok (.iload_n 1, 1) := by decide +kernel
theorem d_Rf_first_49 : decode b_Rf_first 49 = .ok (.aload_n 0, 1) := by decide +kernel
theorem d_Rf_first_50 : decode b_Rf_first 50 = .ok (.getfield 51, 3) := by decide +kernel
theorem d_Rf_first_53 : decode b_Rf_first 53 = .ok (.iload_n 1, 1) := by decide +kernel
theorem d_Rf_first_54 : decode b_Rf_first 54 = .ok (.baload, 1) := by decide +kernel
theorem d_Rf_first_55 : decode b_Rf_first 55 = .ok (.bastore, 1) := by decide +kernel
theorem d_Rf_first_56 : decode b_Rf_first 56 = .ok (.iinc 1 1, 3) := by decide +kernel
theorem d_Rf_first_59 : decode b_Rf_first 59 = .ok (.goto (-28), 3) := by decide +kernel
theorem d_Rf_first_62 : decode b_Rf_first 62 = .ok (.aload_n 0, 1) := by decide +kernel
theorem d_Rf_first_63 : decode b_Rf_first 63 = .ok (.aload_n 0, 1) := by decide +kernel
theorem d_Rf_first_64 : decode b_Rf_first 64 = .ok (.getfield 25, 3) := by decide +kernel
theorem d_Rf_first_67 : decode b_Rf_first 67 = .ok (.aload_n 0, 1) := by decide +kernel
theorem d_Rf_first_68 : decode b_Rf_first 68 = .ok (.getfield 35, 3) := by decide +kernel
theorem d_Rf_first_71 : decode b_Rf_first 71 = .ok (.aload_n 0, 1) := by decide +kernel
theorem d_Rf_first_72 : decode b_Rf_first 72 = .ok (.getfield 41, 3) := by decide +kernel
theorem d_Rf_first_75 : decode b_Rf_first 75 = .ok (.iaload, 1) := by decide +kernel
theorem d_Rf_first_76 : decode b_Rf_first 76 = .ok (.baload, 1) := by decide +kernel
theorem d_Rf_first_77 : decode b_Rf_first 77 = .ok (.putfield 107, 3) := by decide +kernel
theorem d_Rf_first_80 : decode b_Rf_first 80 = .ok (.return_, 1) := by decide +kernel
theorem d_Rf_go_0 : decode b_Rf_go 0 = .ok (.aload_n 0, 1) := by decide +kernel
theorem d_Rf_go_1 : decode b_Rf_go 1 = .ok (.aload_n 0, 1) := by decide +kernel
theorem d_Rf_go_2 : decode b_Rf_go 2 = .ok (.getfield 41, 3) := by decide +kernel
theorem d_Rf_go_5 : decode b_Rf_go 5 = .ok (.invokevirtual 98, 3) := by decide +kernel
theorem d_Rf_go_8 : decode b_Rf_go 8 = .ok (.aload_n 0, 1) := by decide +kernel
theorem d_Rf_go_9 : decode b_Rf_go 9 = .ok (.getfield 32, 3) := by decide +kernel
theorem d_Rf_go_12 : decode b_Rf_go 12 = .ok (.aload_n 0, 1) := by decide +kernel
theorem d_Rf_go_13 : decode b_Rf_go 13 = .ok (.getfield 41, 3) := by decide +kernel
theorem d_Rf_go_16 : decode b_Rf_go 16 = .ok (.iaload, 1) := by decide +kernel
theorem d_Rf_go_17 : decode b_Rf_go 17 = .ok (.istore_n 2, 1) := by decide +kernel
theorem d_Rf_go_18 : decode b_Rf_go 18 = .ok (.iload_n 2, 1) := by decide +kernel
theorem d_Rf_go_19 : decode b_Rf_go 19 = .ok (.aload_n 0, 1) := by decide +kernel
theorem d_Rf_go_20 : decode b_Rf_go 20 = .ok (.getfield 35, 3) := by decide +kernel
theorem d_Rf_go_23 : decode b_Rf_go 23 = .ok (.aload_n 0, 1) := by decide +kernel
theorem d_Rf_go_24 : decode b_Rf_go 24 = .ok (.getfield 41, 3) := by decide +kernel
theorem d_Rf_go_27 : decode b_Rf_go 27 = .ok (.iaload, 1) := by decide +kernel
theorem d_Rf_go_28 : decode b_Rf_go 28 = .ok (.if_icmp .gt 33, 3) := by decide +kernel
theorem d_Rf_go_31 : decode b_Rf_go 31 = .ok (.aload_n 0, 1) := by decide +kernel
theorem d_Rf_go_32 : decode b_Rf_go 32 = .ok (.getfield 48, 3) := by decide +kernel
theorem d_Rf_go_35 : decode b_Rf_go 35 = .ok (.iload_n 2, 1) := by decide +kernel
theorem d_Rf_go_36 : decode b_Rf_go 36 = .ok (.baload, 1) := by decide +kernel
theorem d_Rf_go_37 : decode b_Rf_go 37 = .ok (.ifCond .eq 18, 3) := by decide +kernel
theorem d_Rf_go_40 : decode b_Rf_go 40 = .ok (.aload_n 0, 1) := by decide +kernel
theorem d_Rf_go_41 : decode b_Rf_go 41 = .ok (.getfield 13, 3) := by decide +kernel
theorem d_Rf_go_44 : decode b_Rf_go 44 = .ok (.iload_n 2, 1) := by decide +kernel
theorem d_Rf_go_45 : decode b_Rf_go 45 = .ok (.iaload, 1) := by decide +kernel
theorem d_Rf_go_46 : decode b_Rf_go 46 = .ok (.iload_n 1, 1) := by decide +kernel
theorem d_Rf_go_47 : decode b_Rf_go 47 = .ok (.if_icmp .ne 8, 3) := by decide +kernel
theorem d_Rf_go_50 : decode b_Rf_go 50 = .ok (.aload_n 0, 1) := by decide +kernel
theorem d_Rf_go_51 : decode b_Rf_go 51 = .ok (.iload_n 2, 1) := by decide +kernel
theorem d_Rf_go_52 : decode b_Rf_go 52 = .ok (.invokevirtual 104, 3) := by decide +kernel
theorem d_Rf_go_55 : decode b_Rf_go 55 = .ok (.iinc 2 1, 3) := by decide +kernel
theorem d_Rf_go_58 : decode b_Rf_go 58 = .ok (.goto (-40), 3) := by decide +kernel
theorem d_Rf_go_61 : decode b_Rf_go 61 = .ok (.aload_n 0, 1) := by decide +kernel
theorem d_Rf_go_62 : decode b_Rf_go 62 = .ok (.getfield 32, 3) := by decide +kernel
theorem d_Rf_go_65 : decode b_Rf_go 65 = .ok (.aload_n 0, 1) := by decide +kernel
theorem d_Rf_go_66 : decode b_Rf_go 66 = .ok (.getfield 41, 3) := by decide +kernel
theorem d_Rf_go_69 : decode b_Rf_go 69 = .ok (.iaload, 1) := by decide +kernel
theorem d_Rf_go_70 : decode b_Rf_go 70 = .ok (.istore_n 2, 1) := by decide +kernel
theorem d_Rf_go_71 : decode b_Rf_go 71 = .ok (.iload_n 2, 1) := by decide +kernel
theorem d_Rf_go_72 : decode b_Rf_go 72 = .ok (.aload_n 0, 1) := by decide +kernel
theorem d_Rf_go_73 : decode b_Rf_go 73 = .ok (.getfield 35, 3) := by decide +kernel
theorem d_Rf_go_76 : decode b_Rf_go 76 = .ok (.aload_n 0, 1) := by decide +kernel
theorem d_Rf_go_77 : decode b_Rf_go 77 = .ok (.getfield 41, 3) := by decide +kernel
theorem d_Rf_go_80 : decode b_Rf_go 80 = .ok (.iaload, 1) := by decide +kernel
theorem d_Rf_go_81 : decode b_Rf_go 81 = .ok (.if_icmp .gt 21, 3) := by decide +kernel
theorem d_Rf_go_84 : decode b_Rf_go 84 = .ok (.aload_n 0, 1) := by decide +kernel
theorem d_Rf_go_85 : decode b_Rf_go 85 = .ok (.getfield 48, 3) := by decide +kernel
theorem d_Rf_go_88 : decode b_Rf_go 88 = .ok (.iload_n 2, 1) := by decide +kernel
theorem d_Rf_go_89 : decode b_Rf_go 89 = .ok (.aload_n 0, 1) := by decide +kernel
theorem d_Rf_go_90 : decode b_Rf_go 90 = .ok (.getfield 51, 3) := by decide +kernel
theorem d_Rf_go_93 : decode b_Rf_go 93 = .ok (.iload_n 2, 1) := by decide +kernel
theorem d_Rf_go_94 : decode b_Rf_go 94 = .ok (.baload, 1) := by decide +kernel
theorem d_Rf_go_95 : decode b_Rf_go 95 = .ok (.bastore, 1) := by decide +kernel
theorem d_Rf_go_96 : decode b_Rf_go 96 = .ok (.iinc 2 1, 3) := by decide +kernel
theorem d_Rf_go_99 : decode b_Rf_go 99 = .ok (.goto (-28), 3) := by decide +kernel
theorem d_Rf_go_102 : decode b_Rf_go 102 = .ok (.aload_n 0, 1) := by decide +kernel
theorem d_Rf_go_103 : decode b_Rf_go 103 = .ok (.aload_n 0, 1) := by decide +kernel
theorem d_Rf_go_104 : decode b_Rf_go 104 = .ok (.getfield 94, 3) := by decide +kernel
theorem d_Rf_go_107 : decode b_Rf_go 107 = .ok (.putfield 107, 3) := by decide +kernel
theorem d_Rf_go_110 : decode b_Rf_go 110 = .ok (.return_, 1) := by decide +kernel
theorem d_Rf_begin_0 : decode b_Rf_begin 0 = .ok (.aload_n 0, 1) := by decide +kernel
theorem d_Rf_begin_1 : decode b_Rf_begin 1 = .ok (.iload_n 1, 1) := by decide +kernel
theorem d_Rf_begin_2 : decode b_Rf_begin 2 = .ok (.invokevirtual 87, 3) := by decide +kernel
theorem d_Rf_begin_5 : decode b_Rf_begin 5 = .ok (.ifCond .ne 5, 3) := by decide +kernel
theorem d_Rf_begin_8 : decode b_Rf_begin 8 = .ok (.iconst 0, 1) := by decide +kernel
theorem d_Rf_begin_9 : decode b_Rf_begin 9 = .ok (.ireturn, 1) := by decide +kernel
theorem d_Rf_begin_10 : decode b_Rf_begin 10 = .ok (.aload_n 0, 1) := by decide +kernel
theorem d_Rf_begin_11 : decode b_Rf_begin 11 = .ok (.iload_n 1, 1) := by decide +kernel
theorem d_Rf_begin_12 : decode b_Rf_begin 12 = .ok (.putfield 41, 3) := by decide +kernel
theorem d_Rf_begin_15 : decode b_Rf_begin 15 = .ok (.aload_n 0, 1) := by decide +kernel
theorem d_Rf_begin_16 : decode b_Rf_begin 16 = .ok (.iconst 0, 1) := by decide +kernel
theorem d_Rf_begin_17 : decode b_Rf_begin 17 = .ok (.putfield 110, 3) := by decide +kernel
theorem d_Rf_begin_20 : decode b_Rf_begin 20 = .ok (.aload_n 0, 1) := by decide +kernel
theorem d_Rf_begin_21 : decode b_Rf_begin 21 = .ok (.invokevirtual 113, 3) := by decide +kernel
theorem d_Rf_begin_24 : decode b_Rf_begin 24 = .ok (.iconst 1, 1) := by decide +kernel
theorem d_Rf_begin_25 : decode b_Rf_begin 25 = .ok (.ireturn, 1) := by decide +kernel
theorem d_Rf_read_0 : decode b_Rf_read 0 = .ok (.aload_n 0, 1) := by decide +kernel
theorem d_Rf_read_1 : decode b_Rf_read 1 = .ok (.getfield 41, 3) := by decide +kernel
theorem d_Rf_read_4 : decode b_Rf_read 4 = .ok (.ifCond .lt 20, 3) := by decide +kernel
theorem d_Rf_read_7 : decode b_Rf_read 7 = .ok (.iload_n 1, 1) := by decide +kernel
theorem d_Rf_read_8 : decode b_Rf_read 8 = .ok (.invokestatic 60, 3) := by decide +kernel
theorem d_Rf_read_11 : decode b_Rf_read 11 = .ok (.ifCond .eq 13, 3) := by decide +kernel
theorem d_Rf_read_14 : decode b_Rf_read 14 = .ok (.aload_n 0, 1) := by decide +kernel
theorem d_Rf_read_15 : decode b_Rf_read 15 = .ok (.getfield 110, 3) := by decide +kernel
theorem d_Rf_read_18 : decode b_Rf_read 18 = .ok (.sipush 1000, 3) := by decide +kernel
theorem d_Rf_read_21 : decode b_Rf_read 21 = .ok (.if_icmp .ne 5, 3) := by decide +kernel
theorem d_Rf_read_24 : decode b_Rf_read 24 = .ok (.iconst (-1), 1) := by decide +kernel
theorem d_Rf_read_25 : decode b_Rf_read 25 = .ok (.ireturn, 1) := by decide +kernel
theorem d_Rf_read_26 : decode b_Rf_read 26 = .ok (.aload_n 0, 1) := by decide +kernel
theorem d_Rf_read_27 : decode b_Rf_read 27 = .ok (.getfield 45, 3) := by decide +kernel
theorem d_Rf_read_30 : decode b_Rf_read 30 = .ok (.aload_n 0, 1) := by decide +kernel
theorem d_Rf_read_31 : decode b_Rf_read 31 = .ok (.getfield 110, 3) := by decide +kernel
theorem d_Rf_read_34 : decode b_Rf_read 34 = .ok (.iload_n 1, 1) := by decide +kernel
theorem d_Rf_read_35 : decode b_Rf_read 35 = .ok (.iastore, 1) := by decide +kernel
theorem d_Rf_read_36 : decode b_Rf_read 36 = .ok (.aload_n 0, 1) := by decide +kernel
theorem d_Rf_read_37 : decode b_Rf_read 37 = .ok (.aload_n 0, 1) := by decide +kernel
theorem d_Rf_read_38 : decode b_Rf_read 38 = .ok (.getfield 110, 3) := by decide +kernel
theorem d_Rf_read_41 : decode b_Rf_read 41 = .ok (.iconst 1, 1) := by decide +kernel
theorem d_Rf_read_42 : decode b_Rf_read 42 = .ok (.iadd, 1) := by decide +kernel
theorem d_Rf_read_43 : decode b_Rf_read 43 = .ok (.putfield 110, 3) := by decide +kernel
theorem d_Rf_read_46 : decode b_Rf_read 46 = .ok (.aload_n 0, 1) := by decide +kernel
theorem d_Rf_read_47 : decode b_Rf_read 47 = .ok (.iload_n 1, 1) := by decide +kernel
theorem d_Rf_read_48 : decode b_Rf_read 48 = .ok (.invokevirtual 116, 3) := by decide +kernel
theorem d_Rf_read_51 : decode b_Rf_read 51 = .ok (.aload_n 0, 1) := by decide +kernel
theorem d_Rf_read_52 : decode b_Rf_read 52 = .ok (.getfield 110, 3) := by decide +kernel
theorem d_Rf_read_55 : decode b_Rf_read 55 = .ok (.ireturn, 1) := by decide +kernel
theorem d_Rf_isWhole_0 : decode b_Rf_isWhole 0 = .ok (.aload_n 0, 1) := by decide +kernel
theorem d_Rf_isWhole_1 : decode b_Rf_isWhole 1 = .ok (.getfield 41, 3) := by decide +kernel
theorem d_Rf_isWhole_4 : decode b_Rf_isWhole 4 = .ok (.ifCond .lt 14, 3) := by decide +kernel
theorem d_Rf_isWhole_7 : decode b_Rf_isWhole 7 = .ok (.aload_n 0, 1) := by decide +kernel
theorem d_Rf_isWhole_8 : decode b_Rf_isWhole 8 = .ok (.getfield 107, 3) := by decide +kernel
theorem d_Rf_isWhole_11 : decode b_Rf_isWhole 11 = .ok (.ifCond .eq 7, 3) := by decide +kernel
theorem d_Rf_isWhole_14 : decode b_Rf_isWhole 14 = .ok (.iconst 1, 1) := by decide +kernel
theorem d_Rf_isWhole_15 : decode b_Rf_isWhole 15 = .ok (.goto 4, 3) := by decide +kernel
theorem d_Rf_isWhole_18 : decode b_Rf_isWhole 18 = .ok (.iconst 0, 1) := by decide +kernel
theorem d_Rf_isWhole_19 : decode b_Rf_isWhole 19 = .ok (.ireturn, 1) := by decide +kernel
theorem d_Rf_can_0 : decode b_Rf_can 0 = .ok (.iconst 0, 1) := by decide +kernel
theorem d_Rf_can_1 : decode b_Rf_can 1 = .ok (.istore_n 2, 1) := by decide +kernel
theorem d_Rf_can_2 : decode b_Rf_can 2 = .ok (.aload_n 0, 1) := by decide +kernel
theorem d_Rf_can_3 : decode b_Rf_can 3 = .ok (.getfield 41, 3) := by decide +kernel
theorem d_Rf_can_6 : decode b_Rf_can 6 = .ok (.ifCond .ge 7, 3) := by decide +kernel
theorem d_Rf_can_9 : decode b_Rf_can 9 = .ok (.iconst 1, 1) := by decide +kernel
theorem d_Rf_can_10 : decode b_Rf_can 10 = .ok (.goto 12, 3) := by decide +kernel
theorem d_Rf_can_13 : decode b_Rf_can 13 = .ok (.aload_n 0, 1) := by decide +kernel
theorem d_Rf_can_14 : decode b_Rf_can 14 = .ok (.getfield 32, 3) := by decide +kernel
theorem d_Rf_can_17 : decode b_Rf_can 17 = .ok (.aload_n 0, 1) := by decide +kernel
theorem d_Rf_can_18 : decode b_Rf_can 18 = .ok (.getfield 41, 3) := by decide +kernel
theorem d_Rf_can_21 : decode b_Rf_can 21 = .ok (.iaload, 1) := by decide +kernel
theorem d_Rf_can_22 : decode b_Rf_can 22 = .ok (.istore_n 3, 1) := by decide +kernel
theorem d_Rf_can_23 : decode b_Rf_can 23 = .ok (.aload_n 0, 1) := by decide +kernel
theorem d_Rf_can_24 : decode b_Rf_can 24 = .ok (.getfield 41, 3) := by decide +kernel
theorem d_Rf_can_27 : decode b_Rf_can 27 = .ok (.ifCond .lt 51, 3) := by decide +kernel
theorem d_Rf_can_30 : decode b_Rf_can 30 = .ok (.iload_n 3, 1) := by decide +kernel
theorem d_Rf_can_31 : decode b_Rf_can 31 = .ok (.aload_n 0, 1) := by decide +kernel
theorem d_Rf_can_32 : decode b_Rf_can 32 = .ok (.getfield 35, 3) := by decide +kernel
theorem d_Rf_can_35 : decode b_Rf_can 35 = .ok (.aload_n 0, 1) := by decide +kernel
theorem d_Rf_can_36 : decode b_Rf_can 36 = .ok (.getfield 41, 3) := by decide +kernel
theorem d_Rf_can_39 : decode b_Rf_can 39 = .ok (.iaload, 1) := by decide +kernel
theorem d_Rf_can_40 : decode b_Rf_can 40 = .ok (.if_icmp .gt 38, 3) := by decide +kernel
theorem d_Rf_can_43 : decode b_Rf_can 43 = .ok (.iload_n 2, 1) := by decide +kernel
theorem d_Rf_can_44 : decode b_Rf_can 44 = .ok (.ifCond .ne 22, 3) := by decide +kernel
theorem d_Rf_can_47 : decode b_Rf_can 47 = .ok (.aload_n 0, 1) := by decide +kernel
theorem d_Rf_can_48 : decode b_Rf_can 48 = .ok (.getfield 48, 3) := by decide +kernel
theorem d_Rf_can_51 : decode b_Rf_can 51 = .ok (.iload_n 3, 1) := by decide +kernel
theorem d_Rf_can_52 : decode b_Rf_can 52 = .ok (.baload, 1) := by decide +kernel
theorem d_Rf_can_53 : decode b_Rf_can 53 = .ok (.ifCond .eq 17, 3) := by decide +kernel
theorem d_Rf_can_56 : decode b_Rf_can 56 = .ok (.aload_n 0, 1) := by decide +kernel
theorem d_Rf_can_57 : decode b_Rf_can 57 = .ok (.getfield 13, 3) := by decide +kernel
theorem d_Rf_can_60 : decode b_Rf_can 60 = .ok (.iload_n 3, 1) := by decide +kernel
theorem d_Rf_can_61 : decode b_Rf_can 61 = .ok (.iaload, 1) := by decide +kernel
theorem d_Rf_can_62 : decode b_Rf_can 62 = .ok (.iload_n 1, 1) := by decide +kernel
theorem d_Rf_can_63 : decode b_Rf_can 63 = .ok (.if_icmp .ne 7, 3) := by decide +kernel
theorem d_Rf_can_66 : decode b_Rf_can 66 = .ok (.iconst 1, 1) := by decide +kernel
theorem d_Rf_can_67 : decode b_Rf_can 67 = .ok (.goto 4, 3) := by decide +kernel
theorem d_Rf_can_70 : decode b_Rf_can 70 = .ok (.iconst 0, 1) := by decide +kernel
theorem d_Rf_can_71 : decode b_Rf_can 71 = .ok (.istore_n 2, 1) := by decide +kernel
theorem d_Rf_can_72 : decode b_Rf_can 72 = .ok (.iinc 3 1, 3) := by decide +kernel
theorem d_Rf_can_75 : decode b_Rf_can 75 = .ok (.goto (-52), 3) := by decide +kernel
theorem d_Rf_can_78 : decode b_Rf_can 78 = .ok (.iload_n 2, 1) := by decide +kernel
theorem d_Rf_can_79 : decode b_Rf_can 79 = .ok (.ireturn, 1) := by decide +kernel
theorem d_Rf_next_0 : decode b_Rf_next 0 = .ok (.iload_n 1, 1) := by decide +kernel
theorem d_Rf_next_1 : decode b_Rf_next 1 = .ok (.istore_n 2, 1) := by decide +kernel
theorem d_Rf_next_2 : decode b_Rf_next 2 = .ok (.iconst 1, 1) := by decide +kernel
theorem d_Rf_next_3 : decode b_Rf_next 3 = .ok (.istore_n 3, 1) := by decide +kernel
theorem d_Rf_next_4 : decode b_Rf_next 4 = .ok (.iload_n 3, 1) := by decide +kernel
theorem d_Rf_next_5 : decode b_Rf_next 5 = .ok (.sipush 1000, 3) := by decide +kernel
theorem d_Rf_next_8 : decode b_Rf_next 8 = .ok (.if_icmp .gt 31, 3) := by decide +kernel
theorem d_Rf_next_11 : decode b_Rf_next 11 = .ok (.iload_n 1, 1) := by decide +kernel
theorem d_Rf_next_12 : decode b_Rf_next 12 = .ok (.ifCond .lt 27, 3) := by decide +kernel
theorem d_Rf_next_15 : decode b_Rf_next 15 = .ok (.aload_n 0, 1) := by decide +kernel
theorem d_Rf_next_16 : decode b_Rf_next 16 = .ok (.iload_n 3, 1) := by decide +kernel
theorem d_Rf_next_17 : decode b_Rf_next 17 = .ok (.invokevirtual 119, 3) := by decide +kernel
theorem d_Rf_next_20 : decode b_Rf_next 20 = .ok (.ifCond .eq 13, 3) := by decide +kernel
theorem d_Rf_next_23 : decode b_Rf_next 23 = .ok (.iload_n 2, 1) := by decide +kernel
theorem d_Rf_next_24 : decode b_Rf_next 24 = .ok (.ifCond .ne 5, 3) := by decide +kernel
theorem d_Rf_next_27 : decode b_Rf_next 27 = .ok (.iload_n 3, 1) := by decide +kernel
theorem d_Rf_next_28 : decode b_Rf_next 28 = .ok (.ireturn, 1) := by decide +kernel
theorem d_Rf_next_29 : decode b_Rf_next 29 = .ok (.iload_n 2, 1) := by decide +kernel
theorem d_Rf_next_30 : decode b_Rf_next 30 = .ok (.iconst 1, 1) := by decide +kernel
theorem d_Rf_next_31 : decode b_Rf_next 31 = .ok (.isub, 1) := by decide +kernel
theorem d_Rf_next_32 : decode b_Rf_next 32 = .ok (.istore_n 2, 1) := by decide +kernel
theorem d_Rf_next_33 : decode b_Rf_next 33 = .ok (.iinc 3 1, 3) := by decide +kernel
theorem d_Rf_next_36 : decode b_Rf_next 36 = .ok (.goto (-32), 3) := by decide +kernel
theorem d_Rf_next_39 : decode b_Rf_next 39 = .ok (.iconst (-1), 1) := by decide +kernel
theorem d_Rf_next_40 : decode b_Rf_next 40 = .ok (.ireturn, 1) := by decide +kernel
theorem d_Rf_back_0 : decode b_Rf_back 0 = .ok (.aload_n 0, 1) := by decide +kernel
theorem d_Rf_back_1 : decode b_Rf_back 1 = .ok (.getfield 110, 3) := by decide +kernel
theorem d_Rf_back_4 : decode b_Rf_back 4 = .ok (.ifCond .ne 5, 3) := by decide +kernel
theorem d_Rf_back_7 : decode b_Rf_back 7 = .ok (.iconst (-1), 1) := by decide +kernel
theorem d_Rf_back_8 : decode b_Rf_back 8 = .ok (.ireturn, 1) := by decide +kernel
theorem d_Rf_back_9 : decode b_Rf_back 9 = .ok (.aload_n 0, 1) := by decide +kernel
theorem d_Rf_back_10 : decode b_Rf_back 10 = .ok (.aload_n 0, 1) := by decide +kernel
theorem d_Rf_back_11 : decode b_Rf_back 11 = .ok (.getfield 110, 3) := by decide +kernel
theorem d_Rf_back_14 : decode b_Rf_back 14 = .ok (.iconst 1, 1) := by decide +kernel
theorem d_Rf_back_15 : decode b_Rf_back 15 = .ok (.isub, 1) := by decide +kernel
theorem d_Rf_back_16 : decode b_Rf_back 16 = .ok (.putfield 110, 3) := by decide +kernel
theorem d_Rf_back_19 : decode b_Rf_back 19 = .ok (.aload_n 0, 1) := by decide +kernel
theorem d_Rf_back_20 : decode b_Rf_back 20 = .ok (.getfield 45, 3) := by decide +kernel
theorem d_Rf_back_23 : decode b_Rf_back 23 = .ok (.aload_n 0, 1) := by decide +kernel
theorem d_Rf_back_24 : decode b_Rf_back 24 = .ok (.getfield 110, 3) := by decide +kernel
theorem d_Rf_back_27 : decode b_Rf_back 27 = .ok (.iaload, 1) := by decide +kernel
theorem d_Rf_back_28 : decode b_Rf_back 28 = .ok (.istore_n 1, 1) := by decide +kernel
theorem d_Rf_back_29 : decode b_Rf_back 29 = .ok (.aload_n 0, 1) := by decide +kernel
theorem d_Rf_back_30 : decode b_Rf_back 30 = .ok (.invokevirtual 113, 3) := by decide +kernel
theorem d_Rf_back_33 : decode b_Rf_back 33 = .ok (.iconst 0, 1) := by decide +kernel
theorem d_Rf_back_34 : decode b_Rf_back 34 = .ok (.istore_n 2, 1) := by decide +kernel
theorem d_Rf_back_35 : decode b_Rf_back 35 = .ok (.iload_n 2, 1) := by decide +kernel
theorem d_Rf_back_36 : decode b_Rf_back 36 = .ok (.aload_n 0, 1) := by decide +kernel
theorem d_Rf_back_37 : decode b_Rf_back 37 = .ok (.getfield 110, 3) := by decide +kernel
theorem d_Rf_back_40 : decode b_Rf_back 40 = .ok (.if_icmp .ge 19, 3) := by decide +kernel
theorem d_Rf_back_43 : decode b_Rf_back 43 = .ok (.aload_n 0, 1) := by decide +kernel
theorem d_Rf_back_44 : decode b_Rf_back 44 = .ok (.aload_n 0, 1) := by decide +kernel
theorem d_Rf_back_45 : decode b_Rf_back 45 = .ok (.getfield 45, 3) := by decide +kernel
theorem d_Rf_back_48 : decode b_Rf_back 48 = .ok (.iload_n 2, 1) := by decide +kernel
theorem d_Rf_back_49 : decode b_Rf_back 49 = .ok (.iaload, 1) := by decide +kernel
theorem d_Rf_back_50 : decode b_Rf_back 50 = .ok (.invokevirtual 116, 3) := by decide +kernel
theorem d_Rf_back_53 : decode b_Rf_back 53 = .ok (.iinc 2 1, 3) := by decide +kernel
theorem d_Rf_back_56 : decode b_Rf_back 56 = .ok (.goto (-21), 3) := by decide +kernel
theorem d_Rf_back_59 : decode b_Rf_back 59 = .ok (.iload_n 1, 1) := by decide +kernel
theorem d_Rf_back_60 : decode b_Rf_back 60 = .ok (.ireturn, 1) := by decide +kernel
