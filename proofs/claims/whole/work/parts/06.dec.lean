theorem d_Dr_toModel_70 : decode b_Dr_toModel 70 = .ok (.iload_n 3, 1) := by decide +kernel
theorem d_Dr_toModel_71 : decode b_Dr_toModel 71 = .ok (.invokevirtual 59, 3) := by decide +kernel
theorem d_Dr_toModel_74 : decode b_Dr_toModel 74 = .ok (.ifCond .eq 11, 3) := by decide +kernel
theorem d_Dr_toModel_77 : decode b_Dr_toModel 77 = .ok (.aload_n 2, 1) := by decide +kernel
theorem d_Dr_toModel_78 : decode b_Dr_toModel 78 = .ok (.iload_n 3, 1) := by decide +kernel
theorem d_Dr_toModel_79 : decode b_Dr_toModel 79 = .ok (.sipush 255, 3) := by decide +kernel
theorem d_Dr_toModel_82 : decode b_Dr_toModel 82 = .ok (.invokevirtual 44, 3) := by decide +kernel
theorem d_Dr_toModel_85 : decode b_Dr_toModel 85 = .ok (.iinc 3 1, 3) := by decide +kernel
theorem d_Dr_toModel_88 : decode b_Dr_toModel 88 = .ok (.goto (-61), 3) := by decide +kernel
theorem d_Dr_toModel_91 : decode b_Dr_toModel 91 = .ok (.aload_n 2, 1) := by decide +kernel
theorem d_Dr_toModel_92 : decode b_Dr_toModel 92 = .ok (.aload_n 0, 1) := by decide +kernel
theorem d_Dr_toModel_93 : decode b_Dr_toModel 93 = .ok (.getfield 38, 3) := by decide +kernel
theorem d_Dr_toModel_96 : decode b_Dr_toModel 96 = .ok (.aload_n 0, 1) := by decide +kernel
theorem d_Dr_toModel_97 : decode b_Dr_toModel 97 = .ok (.getfield 24, 3) := by decide +kernel
theorem d_Dr_toModel_100 : decode b_Dr_toModel 100 = .ok (.iconst 0, 1) := by decide +kernel
theorem d_Dr_toModel_101 : decode b_Dr_toModel 101 = .ok (.invokevirtual 55, 3) := by decide +kernel
theorem d_Dr_toModel_104 : decode b_Dr_toModel 104 = .ok (.aload_n 0, 1) := by decide +kernel
theorem d_Dr_toModel_105 : decode b_Dr_toModel 105 = .ok (.getfield 30, 3) := by decide +kernel
theorem d_Dr_toModel_108 : decode b_Dr_toModel 108 = .ok (.iconst 0, 1) := by decide +kernel
theorem d_Dr_toModel_109 : decode b_Dr_toModel 109 = .ok (.baload, 1) := by decide +kernel
theorem d_Dr_toModel_110 : decode b_Dr_toModel 110 = .ok (.ifCond .eq 14, 3) := by decide +kernel
theorem d_Dr_toModel_113 : decode b_Dr_toModel 113 = .ok (.aload_n 2, 1) := by decide +kernel
theorem d_Dr_toModel_114 : decode b_Dr_toModel 114 = .ok (.aload_n 0, 1) := by decide +kernel
theorem d_Dr_toModel_115 : decode b_Dr_toModel 115 = .ok (.getfield 38, 3) := by decide +kernel
theorem d_Dr_toModel_118 : decode b_Dr_toModel 118 = .ok (.sipush 255, 3) := by decide +kernel
theorem d_Dr_toModel_121 : decode b_Dr_toModel 121 = .ok (.invokevirtual 44, 3) := by decide +kernel
theorem d_Dr_toModel_124 : decode b_Dr_toModel 124 = .ok (.aload_n 1, 1) := by decide +kernel
theorem d_Dr_toModel_125 : decode b_Dr_toModel 125 = .ok (.invokestatic 74, 3) := by decide +kernel
theorem d_Dr_toModel_128 : decode b_Dr_toModel 128 = .ok (.new 70, 3) := by decide +kernel
theorem d_Dr_toModel_131 : decode b_Dr_toModel 131 = .ok (.dup, 1) := by decide +kernel
theorem d_Dr_toModel_132 : decode b_Dr_toModel 132 = .ok (.aload_n 1, 1) := by decide +kernel
theorem d_Dr_toModel_133 : decode b_Dr_toModel 133 = .ok (.aload_n 2, 1) := by decide +kernel
theorem d_Dr_toModel_134 : decode b_Dr_toModel 134 = .ok (.invokespecial 78, 3) := by decide +kernel
theorem d_Dr_toModel_137 : decode b_Dr_toModel 137 = .ok (.areturn, 1) := by decide +kernel
theorem d_Mo_init_0 : decode b_Mo_init 0 = .ok (.aload_n 0, 1) := by decide +kernel
theorem d_Mo_init_1 : decode b_Mo_init 1 = .ok (.invokespecial 3, 3) := by decide +kernel
theorem d_Mo_init_4 : decode b_Mo_init 4 = .ok (.aload_n 0, 1) := by decide +kernel
theorem d_Mo_init_5 : decode b_Mo_init 5 = .ok (.aload_n 1, 1) := by decide +kernel
theorem d_Mo_init_6 : decode b_Mo_init 6 = .ok (.putfield 9, 3) := by decide +kernel
theorem d_Mo_init_9 : decode b_Mo_init 9 = .ok (.aload_n 0, 1) := by decide +kernel
theorem d_Mo_init_10 : decode b_Mo_init 10 = .ok (.aload_n 2, 1) := by decide +kernel
theorem d_Mo_init_11 : decode b_Mo_init 11 = .ok (.putfield 15, 3) := by decide +kernel
theorem d_Mo_init_14 : decode b_Mo_init 14 = .ok (.aload_n 0, 1) := by decide +kernel
theorem d_Mo_init_15 : decode b_Mo_init 15 = .ok (.aload_n 1, 1) := by decide +kernel
theorem d_Mo_init_16 : decode b_Mo_init 16 = .ok (.aload_n 2, 1) := by decide +kernel
theorem d_Mo_init_17 : decode b_Mo_init 17 = .ok (.invokestatic 19, 3) := by decide +kernel
theorem d_Mo_init_20 : decode b_Mo_init 20 = .ok (.ifCond .ne 7, 3) := by decide +kernel
theorem d_Mo_init_23 : decode b_Mo_init 23 = .ok (.iconst 1, 1) := by decide +kernel
theorem d_Mo_init_24 : decode b_Mo_init 24 = .ok (.goto 4, 3) := by decide +kernel
theorem d_Mo_init_27 : decode b_Mo_init 27 = .ok (.iconst 0, 1) := by decide +kernel
theorem d_Mo_init_28 : decode b_Mo_init 28 = .ok (.putfield 23, 3) := by decide +kernel
theorem d_Mo_init_31 : decode b_Mo_init 31 = .ok (.return_, 1) := by decide +kernel
theorem d_Mo_entry_0 : decode b_Mo_entry 0 = .ok (.iload_n 0, 1) := by decide +kernel
theorem d_Mo_entry_1 : decode b_Mo_entry 1 = .ok (.bipush 8, 2) := by decide +kernel
theorem d_Mo_entry_3 : decode b_Mo_entry 3 = .ok (.ishl, 1) := by decide +kernel
theorem d_Mo_entry_4 : decode b_Mo_entry 4 = .ok (.iload_n 1, 1) := by decide +kernel
theorem d_Mo_entry_5 : decode b_Mo_entry 5 = .ok (.ior, 1) := by decide +kernel
theorem d_Mo_entry_6 : decode b_Mo_entry 6 = .ok (.ireturn, 1) := by decide +kernel
theorem d_Mo_nameOf_0 : decode b_Mo_nameOf 0 = .ok (.iload_n 0, 1) := by decide +kernel
theorem d_Mo_nameOf_1 : decode b_Mo_nameOf 1 = .ok (.bipush 8, 2) := by decide +kernel
theorem d_Mo_nameOf_3 : decode b_Mo_nameOf 3 = .ok (.ishr, 1) := by decide +kernel
theorem d_Mo_nameOf_4 : decode b_Mo_nameOf 4 = .ok (.ireturn, 1) := by decide +kernel
theorem d_Mo_occurrenceOf_0 : decode b_Mo_occurrenceOf 0 = .ok (.iload_n 0, 1) := by decide +kernel
theorem d_Mo_occurrenceOf_1 : decode b_Mo_occurrenceOf 1 = .ok (.sipush 255, 3) := by decide +kernel
theorem d_Mo_occurrenceOf_4 : decode b_Mo_occurrenceOf 4 = .ok (.iand, 1) := by decide +kernel
theorem d_Mo_occurrenceOf_5 : decode b_Mo_occurrenceOf 5 = .ok (.ireturn, 1) := by decide +kernel
theorem d_Mo_sort_0 : decode b_Mo_sort 0 = .ok (.iconst 1, 1) := by decide +kernel
theorem d_Mo_sort_1 : decode b_Mo_sort 1 = .ok (.istore_n 1, 1) := by decide +kernel
theorem d_Mo_sort_2 : decode b_Mo_sort 2 = .ok (.iload_n 1, 1) := by decide +kernel
theorem d_Mo_sort_3 : decode b_Mo_sort 3 = .ok (.aload_n 0, 1) := by decide +kernel
theorem d_Mo_sort_4 : decode b_Mo_sort 4 = .ok (.arraylength, 1) := by decide +kernel
theorem d_Mo_sort_5 : decode b_Mo_sort 5 = .ok (.if_icmp .ge 46, 3) := by decide +kernel
theorem d_Mo_sort_8 : decode b_Mo_sort 8 = .ok (.aload_n 0, 1) := by decide +kernel
theorem d_Mo_sort_9 : decode b_Mo_sort 9 = .ok (.iload_n 1, 1) := by decide +kernel
theorem d_Mo_sort_10 : decode b_Mo_sort 10 = .ok (.iaload, 1) := by decide +kernel
theorem d_Mo_sort_11 : decode b_Mo_sort 11 = .ok (.istore_n 2, 1) := by decide +kernel
theorem d_Mo_sort_12 : decode b_Mo_sort 12 = .ok (.iload_n 1, 1) := by decide +kernel
theorem d_Mo_sort_13 : decode b_Mo_sort 13 = .ok (.istore_n 3, 1) := by decide +kernel
theorem d_Mo_sort_14 : decode b_Mo_sort 14 = .ok (.iload_n 3, 1) := by decide +kernel
theorem d_Mo_sort_15 : decode b_Mo_sort 15 = .ok (.ifCond .le 26, 3) := by decide +kernel
theorem d_Mo_sort_18 : decode b_Mo_sort 18 = .ok (.aload_n 0, 1) := by decide +kernel
theorem d_Mo_sort_19 : decode b_Mo_sort 19 = .ok (.iload_n 3, 1) := by decide +kernel
theorem d_Mo_sort_20 : decode b_Mo_sort 20 = .ok (.iconst 1, 1) := by decide +kernel
theorem d_Mo_sort_21 : decode b_Mo_sort 21 = .ok (.isub, 1) := by decide +kernel
theorem d_Mo_sort_22 : decode b_Mo_sort 22 = .ok (.iaload, 1) := by decide +kernel
theorem d_Mo_sort_23 : decode b_Mo_sort 23 = .ok (.iload_n 2, 1) := by decide +kernel
theorem d_Mo_sort_24 : decode b_Mo_sort 24 = .ok (.if_icmp .le 17, 3) := by decide +kernel
theorem d_Mo_sort_27 : decode b_Mo_sort 27 = .ok (.aload_n 0, 1) := by decide +kernel
theorem d_Mo_sort_28 : decode b_Mo_sort 28 = .ok (.iload_n 3, 1) := by decide +kernel
theorem d_Mo_sort_29 : decode b_Mo_sort 29 = .ok (.aload_n 0, 1) := by decide +kernel
theorem d_Mo_sort_30 : decode b_Mo_sort 30 = .ok (.iload_n 3, 1) := by decide +kernel
theorem d_Mo_sort_31 : decode b_Mo_sort 31 = .ok (.iconst 1, 1) := by decide +kernel
theorem d_Mo_sort_32 : decode b_Mo_sort 32 = .ok (.isub, 1) := by decide +kernel
theorem d_Mo_sort_33 : decode b_Mo_sort 33 = .ok (.iaload, 1) := by decide +kernel
theorem d_Mo_sort_34 : decode b_Mo_sort 34 = .ok (.iastore, 1) := by decide +kernel
theorem d_Mo_sort_35 : decode b_Mo_sort 35 = .ok (.iinc 3 (-1), 3) := by decide +kernel
theorem d_Mo_sort_38 : decode b_Mo_sort 38 = .ok (.goto (-24), 3) := by decide +kernel
theorem d_Mo_sort_41 : decode b_Mo_sort 41 = .ok (.aload_n 0, 1) := by decide +kernel
theorem d_Mo_sort_42 : decode b_Mo_sort 42 = .ok (.iload_n 3, 1) := by decide +kernel
theorem d_Mo_sort_43 : decode b_Mo_sort 43 = .ok (.iload_n 2, 1) := by decide +kernel
theorem d_Mo_sort_44 : decode b_Mo_sort 44 = .ok (.iastore, 1) := by decide +kernel
theorem d_Mo_sort_45 : decode b_Mo_sort 45 = .ok (.iinc 1 1, 3) := by decide +kernel
theorem d_Mo_sort_48 : decode b_Mo_sort 48 = .ok (.goto (-46), 3) := by decide +kernel
theorem d_Mo_sort_51 : decode b_Mo_sort 51 = .ok (.return_, 1) := by decide +kernel
theorem d_Mo_hasTwinsAnywhere_0 : decode b_Mo_hasTwinsAnywhere 0 = .ok (.iconst 0, 1) := by decide +kernel
theorem d_Mo_hasTwinsAnywhere_1 : decode b_Mo_hasTwinsAnywhere 1 = .ok (.istore_n 2, 1) := by decide +kernel
theorem d_Mo_hasTwinsAnywhere_2 : decode b_Mo_hasTwinsAnywhere 2 = .ok (.iload_n 2, 1) := by decide +kernel
theorem d_Mo_hasTwinsAnywhere_3 : decode b_Mo_hasTwinsAnywhere 3 = .ok (.aload_n 0, 1) := by decide +kernel
theorem d_Mo_hasTwinsAnywhere_4 : decode b_Mo_hasTwinsAnywhere 4 = .ok (.arraylength, 1) := by decide +kernel
theorem d_Mo_hasTwinsAnywhere_5 : decode b_Mo_hasTwinsAnywhere 5 = .ok (.if_icmp .gt 20, 3) := by decide +kernel
theorem d_Mo_hasTwinsAnywhere_8 : decode b_Mo_hasTwinsAnywhere 8 = .ok (.aload_n 0, 1) := by decide +kernel
theorem d_Mo_hasTwinsAnywhere_9 : decode b_Mo_hasTwinsAnywhere 9 = .ok (.aload_n 1, 1) := by decide +kernel
theorem d_Mo_hasTwinsAnywhere_10 : decode b_Mo_hasTwinsAnywhere 10 = .ok (.iload_n 2, 1) := by decide +kernel
theorem d_Mo_hasTwinsAnywhere_11 : decode b_Mo_hasTwinsAnywhere 11 = .ok (.invokestatic 27, 3) := by decide +kernel
theorem d_Mo_hasTwinsAnywhere_14 : decode b_Mo_hasTwinsAnywhere 14 = .ok (.ifCond .eq 5, 3) := by decide +kernel
theorem d_Mo_hasTwinsAnywhere_17 : decode b_Mo_hasTwinsAnywhere 17 = .ok (.iconst 1, 1) := by decide +kernel
theorem d_Mo_hasTwinsAnywhere_18 : decode b_Mo_hasTwinsAnywhere 18 = .ok (.ireturn, 1) := by decide +kernel
theorem d_Mo_hasTwinsAnywhere_19 : decode b_Mo_hasTwinsAnywhere 19 = .ok (.iinc 2 1, 3) := by decide +kernel
theorem d_Mo_hasTwinsAnywhere_22 : decode b_Mo_hasTwinsAnywhere 22 = .ok (.goto (-20), 3) := by decide +kernel
theorem d_Mo_hasTwinsAnywhere_25 : decode b_Mo_hasTwinsAnywhere 25 = .ok (.iconst 0, 1) := by decide +kernel
theorem d_Mo_hasTwinsAnywhere_26 : decode b_Mo_hasTwinsAnywhere 26 = .ok (.ireturn, 1) := by decide +kernel
theorem d_Mo_hasTwins_0 : decode b_Mo_hasTwins 0 = .ok (.iconst 0, 1) := by decide +kernel
theorem d_Mo_hasTwins_1 : decode b_Mo_hasTwins 1 = .ok (.istore_n 3, 1) := by decide +kernel
theorem d_Mo_hasTwins_2 : decode b_Mo_hasTwins 2 = .ok (.iconst 0, 1) := by decide +kernel
theorem d_Mo_hasTwins_3 : decode b_Mo_hasTwins 3 = .ok (.istore 4, 2) := by decide +kernel
theorem d_Mo_hasTwins_5 : decode b_Mo_hasTwins 5 = .ok (.iload 4, 2) := by decide +kernel
theorem d_Mo_hasTwins_7 : decode b_Mo_hasTwins 7 = .ok (.aload_n 0, 1) := by decide +kernel
theorem d_Mo_hasTwins_8 : decode b_Mo_hasTwins 8 = .ok (.arraylength, 1) := by decide +kernel
theorem d_Mo_hasTwins_9 : decode b_Mo_hasTwins 9 = .ok (.if_icmp .ge 45, 3) := by decide +kernel
theorem d_Mo_hasTwins_12 : decode b_Mo_hasTwins 12 = .ok (.aload_n 1, 1) := by decide +kernel
theorem d_Mo_hasTwins_13 : decode b_Mo_hasTwins 13 = .ok (.iload_n 2, 1) := by decide +kernel
theorem d_Mo_hasTwins_14 : decode b_Mo_hasTwins 14 = .ok (.aload_n 0, 1) := by decide +kernel
theorem d_Mo_hasTwins_15 : decode b_Mo_hasTwins 15 = .ok (.iload 4, 2) := by decide +kernel
theorem d_Mo_hasTwins_17 : decode b_Mo_hasTwins 17 = .ok (.iaload, 1) := by decide +kernel
theorem d_Mo_hasTwins_18 : decode b_Mo_hasTwins 18 = .ok (.invokestatic 31, 3) := by decide +kernel
theorem d_Mo_hasTwins_21 : decode b_Mo_hasTwins 21 = .ok (.invokevirtual 35, 3) := by decide +kernel
theorem d_Mo_hasTwins_24 : decode b_Mo_hasTwins 24 = .ok (.ifCond .eq 24, 3) := by decide +kernel
theorem d_Mo_hasTwins_27 : decode b_Mo_hasTwins 27 = .ok (.aload_n 0, 1) := by decide +kernel
theorem d_Mo_hasTwins_28 : decode b_Mo_hasTwins 28 = .ok (.iload 4, 2) := by decide +kernel
theorem d_Mo_hasTwins_30 : decode b_Mo_hasTwins 30 = .ok (.iaload, 1) := by decide +kernel
theorem d_Mo_hasTwins_31 : decode b_Mo_hasTwins 31 = .ok (.invokestatic 41, 3) := by decide +kernel
theorem d_Mo_hasTwins_34 : decode b_Mo_hasTwins 34 = .ok (.iload_n 3, 1) := by decide +kernel
theorem d_Mo_hasTwins_35 : decode b_Mo_hasTwins 35 = .ok (.if_icmp .ne 5, 3) := by decide +kernel
theorem d_Mo_hasTwins_38 : decode b_Mo_hasTwins 38 = .ok (.iconst 1, 1) := by decide +kernel
theorem d_Mo_hasTwins_39 : decode b_Mo_hasTwins 39 = .ok (.ireturn, 1) := by decide +kernel
theorem d_Mo_hasTwins_40 : decode b_Mo_hasTwins 40 = .ok (.aload_n 0, 1) := by decide +kernel
theorem d_Mo_hasTwins_41 : decode b_Mo_hasTwins 41 = .ok (.iload 4, 2) := by decide +kernel
theorem d_Mo_hasTwins_43 : decode b_Mo_hasTwins 43 = .ok (.iaload, 1) := by decide +kernel
theorem d_Mo_hasTwins_44 : decode b_Mo_hasTwins 44 = .ok (.invokestatic 41, 3) := by decide +kernel
theorem d_Mo_hasTwins_47 : decode b_Mo_hasTwins 47 = .ok (.istore_n 3, 1) := by decide +kernel
theorem d_Mo_hasTwins_48 : decode b_Mo_hasTwins 48 = .ok (.iinc 4 1, 3) := by decide +kernel
theorem d_Mo_hasTwins_51 : decode b_Mo_hasTwins 51 = .ok (.goto (-46), 3) := by decide +kernel
theorem d_Mo_hasTwins_54 : decode b_Mo_hasTwins 54 = .ok (.iconst 0, 1) := by decide +kernel
theorem d_Mo_hasTwins_55 : decode b_Mo_hasTwins 55 = .ok (.ireturn, 1) := by decide +kernel
theorem d_Mo_putFirst_0 : decode b_Mo_putFirst 0 = .ok (.aload_n 1, 1) := by decide +kernel
theorem d_Mo_putFirst_1 : decode b_Mo_putFirst 1 = .ok (.iload_n 2, 1) := by decide +kernel
theorem d_Mo_putFirst_2 : decode b_Mo_putFirst 2 = .ok (.invokevirtual 44, 3) := by decide +kernel
theorem d_Mo_putFirst_5 : decode b_Mo_putFirst 5 = .ok (.aload_n 1, 1) := by decide +kernel
theorem d_Mo_putFirst_6 : decode b_Mo_putFirst 6 = .ok (.iload_n 2, 1) := by decide +kernel
theorem d_Mo_putFirst_7 : decode b_Mo_putFirst 7 = .ok (.aload_n 0, 1) := by decide +kernel
theorem d_Mo_putFirst_8 : decode b_Mo_putFirst 8 = .ok (.getfield 15, 3) := by decide +kernel
theorem d_Mo_putFirst_11 : decode b_Mo_putFirst 11 = .ok (.aload_n 0, 1) := by decide +kernel
theorem d_Mo_putFirst_12 : decode b_Mo_putFirst 12 = .ok (.getfield 9, 3) := by decide +kernel
theorem d_Mo_putFirst_15 : decode b_Mo_putFirst 15 = .ok (.arraylength, 1) := by decide +kernel
theorem d_Mo_putFirst_16 : decode b_Mo_putFirst 16 = .ok (.invokevirtual 48, 3) := by decide +kernel
theorem d_Mo_putFirst_19 : decode b_Mo_putFirst 19 = .ok (.return_, 1) := by decide +kernel
theorem d_Mo_putBehind_0 : decode b_Mo_putBehind 0 = .ok (.aload_n 1, 1) := by decide +kernel
theorem d_Mo_putBehind_1 : decode b_Mo_putBehind 1 = .ok (.iload_n 2, 1) := by decide +kernel
theorem d_Mo_putBehind_2 : decode b_Mo_putBehind 2 = .ok (.iconst 1, 1) := by decide +kernel
theorem d_Mo_putBehind_3 : decode b_Mo_putBehind 3 = .ok (.iadd, 1) := by decide +kernel
theorem d_Mo_putBehind_4 : decode b_Mo_putBehind 4 = .ok (.invokevirtual 44, 3) := by decide +kernel
theorem d_Mo_putBehind_7 : decode b_Mo_putBehind 7 = .ok (.iconst 0, 1) := by decide +kernel
theorem d_Mo_putBehind_8 : decode b_Mo_putBehind 8 = .ok (.istore 4, 2) := by decide +kernel
theorem d_Mo_putBehind_10 : decode b_Mo_putBehind 10 = .ok (.iload 4, 2) := by decide +kernel
theorem d_Mo_putBehind_12 : decode b_Mo_putBehind 12 = .ok (.aload_n 0, 1) := by decide +kernel
theorem d_Mo_putBehind_13 : decode b_Mo_putBehind 13 = .ok (.getfield 9, 3) := by decide +kernel
theorem d_Mo_putBehind_16 : decode b_Mo_putBehind 16 = .ok (.arraylength, 1) := by decide +kernel
theorem d_Mo_putBehind_17 : decode b_Mo_putBehind 17 = .ok (.if_icmp .ge 58, 3) := by decide +kernel
theorem d_Mo_putBehind_20 : decode b_Mo_putBehind 20 = .ok (.aload_n 0, 1) := by decide +kernel
theorem d_Mo_putBehind_21 : decode b_Mo_putBehind 21 = .ok (.getfield 9, 3) := by decide +kernel
theorem d_Mo_putBehind_24 : decode b_Mo_putBehind 24 = .ok (.iload 4, 2) := by decide +kernel
theorem d_Mo_putBehind_26 : decode b_Mo_putBehind 26 = .ok (.iaload, 1) := by decide +kernel
theorem d_Mo_putBehind_27 : decode b_Mo_putBehind 27 = .ok (.invokestatic 31, 3) := by decide +kernel
theorem d_Mo_putBehind_30 : decode b_Mo_putBehind 30 = .ok (.istore 5, 2) := by decide +kernel
theorem d_Mo_putBehind_32 : decode b_Mo_putBehind 32 = .ok (.aload_n 0, 1) := by decide +kernel
theorem d_Mo_putBehind_33 : decode b_Mo_putBehind 33 = .ok (.getfield 9, 3) := by decide +kernel
theorem d_Mo_putBehind_36 : decode b_Mo_putBehind 36 = .ok (.iload 4, 2) := by decide +kernel
theorem d_Mo_putBehind_38 : decode b_Mo_putBehind 38 = .ok (.iaload, 1) := by decide +kernel
theorem d_Mo_putBehind_39 : decode b_Mo_putBehind 39 = .ok (.invokestatic 41, 3) := by decide +kernel
theorem d_Mo_putBehind_42 : decode b_Mo_putBehind 42 = .ok (.iload_n 3, 1) := by decide +kernel
theorem d_Mo_putBehind_43 : decode b_Mo_putBehind 43 = .ok (.if_icmp .ne 26, 3) := by decide +kernel
theorem d_Mo_putBehind_46 : decode b_Mo_putBehind 46 = .ok (.aload_n 1, 1) := by decide +kernel
theorem d_Mo_putBehind_47 : decode b_Mo_putBehind 47 = .ok (.iload_n 2, 1) := by decide +kernel
theorem d_Mo_putBehind_48 : decode b_Mo_putBehind 48 = .ok (.iload 5, 2) := by decide +kernel
theorem d_Mo_putBehind_50 : decode b_Mo_putBehind 50 = .ok (.invokevirtual 35, 3) := by decide +kernel
theorem d_Mo_putBehind_53 : decode b_Mo_putBehind 53 = .ok (.ifCond .eq 16, 3) := by decide +kernel
theorem d_Mo_putBehind_56 : decode b_Mo_putBehind 56 = .ok (.aload_n 1, 1) := by decide +kernel
theorem d_Mo_putBehind_57 : decode b_Mo_putBehind 57 = .ok (.iload_n 2, 1) := by decide +kernel
theorem d_Mo_putBehind_58 : decode b_Mo_putBehind 58 = .ok (.iconst 1, 1) := by decide +kernel
theorem d_Mo_putBehind_59 : decode b_Mo_putBehind 59 = .ok (.iadd, 1) := by decide +kernel
theorem d_Mo_putBehind_60 : decode b_Mo_putBehind 60 = .ok (.aload_n 0, 1) := by decide +kernel
theorem d_Mo_putBehind_61 : decode b_Mo_putBehind 61 = .ok (.getfield 15, 3) := by decide +kernel
theorem d_Mo_putBehind_64 : decode b_Mo_putBehind 64 = .ok (.iload 5, 2) := by decide +kernel
theorem d_Mo_putBehind_66 : decode b_Mo_putBehind 66 = .ok (.invokevirtual 48, 3) := by decide +kernel
theorem d_Mo_putBehind_69 : decode b_Mo_putBehind 69 = .ok (.iinc 4 1, 3) := by decide +kernel
theorem d_Mo_putBehind_72 : decode b_Mo_putBehind 72 = .ok (.goto (-62), 3) := by decide +kernel
theorem d_Mo_putBehind_75 : decode b_Mo_putBehind 75 = .ok (.return_, 1) := by decide +kernel
theorem d_Mo_hasName_0 : decode b_Mo_hasName 0 = .ok (.iconst 0, 1) := by decide +kernel
theorem d_Mo_hasName_1 : decode b_Mo_hasName 1 = .ok (.istore 4, 2) := by decide +kernel
theorem d_Mo_hasName_3 : decode b_Mo_hasName 3 = .ok (.iload 4, 2) := by decide +kernel
theorem d_Mo_hasName_5 : decode b_Mo_hasName 5 = .ok (.aload_n 0, 1) := by decide +kernel
theorem d_Mo_hasName_6 : decode b_Mo_hasName 6 = .ok (.getfield 9, 3) := by decide +kernel
theorem d_Mo_hasName_9 : decode b_Mo_hasName 9 = .ok (.arraylength, 1) := by decide +kernel
theorem d_Mo_hasName_10 : decode b_Mo_hasName 10 = .ok (.if_icmp .ge 43, 3) := by decide +kernel
theorem d_Mo_hasName_13 : decode b_Mo_hasName 13 = .ok (.aload_n 0, 1) := by decide +kernel
theorem d_Mo_hasName_14 : decode b_Mo_hasName 14 = .ok (.getfield 9, 3) := by decide +kernel
theorem d_Mo_hasName_17 : decode b_Mo_hasName 17 = .ok (.iload 4, 2) := by decide +kernel
theorem d_Mo_hasName_19 : decode b_Mo_hasName 19 = .ok (.iaload, 1) := by decide +kernel
theorem d_Mo_hasName_20 : decode b_Mo_hasName 20 = .ok (.invokestatic 41, 3) := by decide +kernel
theorem d_Mo_hasName_23 : decode b_Mo_hasName 23 = .ok (.iload_n 3, 1) := by decide +kernel
theorem d_Mo_hasName_24 : decode b_Mo_hasName 24 = .ok (.if_icmp .ne 23, 3) := by decide +kernel
theorem d_Mo_hasName_27 : decode b_Mo_hasName 27 = .ok (.aload_n 1, 1) := by decide +kernel
theorem d_Mo_hasName_28 : decode b_Mo_hasName 28 = .ok (.iload_n 2, 1) := by decide +kernel
theorem d_Mo_hasName_29 : decode b_Mo_hasName 29 = .ok (.aload_n 0, 1) := by decide +kernel
theorem d_Mo_hasName_30 : decode b_Mo_hasName 30 = .ok (.getfield 9, 3) := by decide +kernel
theorem d_Mo_hasName_33 : decode b_Mo_hasName 33 = .ok (.iload 4, 2) := by decide +kernel
theorem d_Mo_hasName_35 : decode b_Mo_hasName 35 = .ok (.iaload, 1) := by decide +kernel
theorem d_Mo_hasName_36 : decode b_Mo_hasName 36 = .ok (.invokestatic 31, 3) := by decide +kernel
theorem d_Mo_hasName_39 : decode b_Mo_hasName 39 = .ok (.invokevirtual 35, 3) := by decide +kernel
theorem d_Mo_hasName_42 : decode b_Mo_hasName 42 = .ok (.ifCond .eq 5, 3) := by decide +kernel
theorem d_Mo_hasName_45 : decode b_Mo_hasName 45 = .ok (.iconst 1, 1) := by decide +kernel
theorem d_Mo_hasName_46 : decode b_Mo_hasName 46 = .ok (.ireturn, 1) := by decide +kernel
theorem d_Mo_hasName_47 : decode b_Mo_hasName 47 = .ok (.iinc 4 1, 3) := by decide +kernel
theorem d_Mo_hasName_50 : decode b_Mo_hasName 50 = .ok (.goto (-47), 3) := by decide +kernel
theorem d_Mo_hasName_53 : decode b_Mo_hasName 53 = .ok (.iconst 0, 1) := by decide +kernel
theorem d_Mo_hasName_54 : decode b_Mo_hasName 54 = .ok (.ireturn, 1) := by decide +kernel
theorem d_Mo_nameAt_0 : decode b_Mo_nameAt 0 = .ok (.iconst (-1), 1) := by decide +kernel
theorem d_Mo_nameAt_1 : decode b_Mo_nameAt 1 = .ok (.istore 4, 2) := by decide +kernel
theorem d_Mo_nameAt_3 : decode b_Mo_nameAt 3 = .ok (.iconst 0, 1) := by decide +kernel
theorem d_Mo_nameAt_4 : decode b_Mo_nameAt 4 = .ok (.istore 5, 2) := by decide +kernel
theorem d_Mo_nameAt_6 : decode b_Mo_nameAt 6 = .ok (.iconst 0, 1) := by decide +kernel
theorem d_Mo_nameAt_7 : decode b_Mo_nameAt 7 = .ok (.istore 6, 2) := by decide +kernel
theorem d_Mo_nameAt_9 : decode b_Mo_nameAt 9 = .ok (.iload 6, 2) := by decide +kernel
theorem d_Mo_nameAt_11 : decode b_Mo_nameAt 11 = .ok (.aload_n 0, 1) := by decide +kernel
theorem d_Mo_nameAt_12 : decode b_Mo_nameAt 12 = .ok (.getfield 9, 3) := by decide +kernel
theorem d_Mo_nameAt_15 : decode b_Mo_nameAt 15 = .ok (.arraylength, 1) := by decide +kernel
theorem d_Mo_nameAt_16 : decode b_Mo_nameAt 16 = .ok (.if_icmp .ge 62, 3) := by decide +kernel
theorem d_Mo_nameAt_19 : decode b_Mo_nameAt 19 = .ok (.aload_n 0, 1) := by decide +kernel
theorem d_Mo_nameAt_20 : decode b_Mo_nameAt 20 = .ok (.getfield 9, 3) := by decide +kernel
theorem d_Mo_nameAt_23 : decode b_Mo_nameAt 23 = .ok (.iload 6, 2) := by decide +kernel
theorem d_Mo_nameAt_25 : decode b_Mo_nameAt 25 = .ok (.iaload, 1) := by decide +kernel
theorem d_Mo_nameAt_26 : decode b_Mo_nameAt 26 = .ok (.invokestatic 41, 3) := by decide +kernel
theorem d_Mo_nameAt_29 : decode b_Mo_nameAt 29 = .ok (.istore 7, 2) := by decide +kernel
theorem d_Mo_nameAt_31 : decode b_Mo_nameAt 31 = .ok (.iload 7, 2) := by decide +kernel
theorem d_Mo_nameAt_33 : decode b_Mo_nameAt 33 = .ok (.iload 5, 2) := by decide +kernel
theorem d_Mo_nameAt_35 : decode b_Mo_nameAt 35 = .ok (.if_icmp .eq 37, 3) := by decide +kernel
theorem d_Mo_nameAt_38 : decode b_Mo_nameAt 38 = .ok (.aload_n 1, 1) := by decide +kernel
theorem d_Mo_nameAt_39 : decode b_Mo_nameAt 39 = .ok (.iload_n 2, 1) := by decide +kernel
theorem d_Mo_nameAt_40 : decode b_Mo_nameAt 40 = .ok (.aload_n 0, 1) := by decide +kernel
theorem d_Mo_nameAt_41 : decode b_Mo_nameAt 41 = .ok (.getfield 9, 3) := by decide +kernel
theorem d_Mo_nameAt_44 : decode b_Mo_nameAt 44 = .ok (.iload 6, 2) := by decide +kernel
theorem d_Mo_nameAt_46 : decode b_Mo_nameAt 46 = .ok (.iaload, 1) := by decide +kernel
theorem d_Mo_nameAt_47 : decode b_Mo_nameAt 47 = .ok (.invokestatic 31, 3) := by decide +kernel
theorem d_Mo_nameAt_50 : decode b_Mo_nameAt 50 = .ok (.invokevirtual 35, 3) := by decide +kernel
theorem d_Mo_nameAt_53 : decode b_Mo_nameAt 53 = .ok (.ifCond .eq 19, 3) := by decide +kernel
theorem d_Mo_nameAt_56 : decode b_Mo_nameAt 56 = .ok (.iload 7, 2) := by decide +kernel
theorem d_Mo_nameAt_58 : decode b_Mo_nameAt 58 = .ok (.istore 5, 2) := by decide +kernel
theorem d_Mo_nameAt_60 : decode b_Mo_nameAt 60 = .ok (.iinc 4 1, 3) := by decide +kernel
theorem d_Mo_nameAt_63 : decode b_Mo_nameAt 63 = .ok (.iload 4, 2) := by decide +kernel
theorem d_Mo_nameAt_65 : decode b_Mo_nameAt 65 = .ok (.iload_n 3, 1) := by decide +kernel
theorem d_Mo_nameAt_66 : decode b_Mo_nameAt 66 = .ok (.if_icmp .ne 6, 3) := by decide +kernel
theorem d_Mo_nameAt_69 : decode b_Mo_nameAt 69 = .ok (.iload 7, 2) := by decide +kernel
theorem d_Mo_nameAt_71 : decode b_Mo_nameAt 71 = .ok (.ireturn, 1) := by decide +kernel
theorem d_Mo_nameAt_72 : decode b_Mo_nameAt 72 = .ok (.iinc 6 1, 3) := by decide +kernel
theorem d_Mo_nameAt_75 : decode b_Mo_nameAt 75 = .ok (.goto (-66), 3) := by decide +kernel
theorem d_Mo_nameAt_78 : decode b_Mo_nameAt 78 = .ok (.iconst (-1), 1) := by decide +kernel
theorem d_Mo_nameAt_79 : decode b_Mo_nameAt 79 = .ok (.ireturn, 1) := by decide +kernel
theorem d_Re_init_0 : decode b_Re_init 0 = .ok (.aload_n 0, 1) := by decide +kernel
theorem d_Re_init_1 : decode b_Re_init 1 = .ok (.invokespecial 3, 3) := by decide +kernel
theorem d_Re_init_4 : decode b_Re_init 4 = .ok (.aload_n 0, 1) := by decide +kernel
theorem d_Re_init_5 : decode b_Re_init 5 = .ok (.sipush 1000, 3) := by decide +kernel
theorem d_Re_init_8 : decode b_Re_init 8 = .ok (.newarray .int, 2) := by decide +kernel
theorem d_Re_init_10 : decode b_Re_init 10 = .ok (.putfield 9, 3) := by decide +kernel
theorem d_Re_init_13 : decode b_Re_init 13 = .ok (.aload_n 0, 1) := by decide +kernel
theorem d_Re_init_14 : decode b_Re_init 14 = .ok (.new 15, 3) := by decide +kernel
theorem d_Re_init_17 : decode b_Re_init 17 = .ok (.dup, 1) := by decide +kernel
theorem d_Re_init_18 : decode b_Re_init 18 = .ok (.sipush 1001, 3) := by decide +kernel
theorem d_Re_init_21 : decode b_Re_init 21 = .ok (.invokespecial 17, 3) := by decide +kernel
theorem d_Re_init_24 : decode b_Re_init 24 = .ok (.putfield 20, 3) := by decide +kernel
theorem d_Re_init_27 : decode b_Re_init 27 = .ok (.return_, 1) := by decide +kernel
theorem d_Re_startWith_0 : decode b_Re_startWith 0 = .ok (.aload_n 0, 1) := by decide +kernel
theorem d_Re_startWith_1 : decode b_Re_startWith 1 = .ok (.aload_n 1, 1) := by decide +kernel
theorem d_Re_startWith_2 : decode b_Re_startWith 2 = .ok (.putfield 24, 3) := by decide +kernel
theorem d_Re_startWith_5 : decode b_Re_startWith 5 = .ok (.aload_n 0, 1) := by decide +kernel
theorem d_Re_startWith_6 : decode b_Re_startWith 6 = .ok (.iconst 0, 1) := by decide +kernel
theorem d_Re_startWith_7 : decode b_Re_startWith 7 = .ok (.putfield 28, 3) := by decide +kernel
theorem d_Re_startWith_10 : decode b_Re_startWith 10 = .ok (.aload_n 1, 1) := by decide +kernel
theorem d_Re_startWith_11 : decode b_Re_startWith 11 = .ok (.aload_n 0, 1) := by decide +kernel
theorem d_Re_startWith_12 : decode b_Re_startWith 12 = .ok (.getfield 20, 3) := by decide +kernel
theorem d_Re_startWith_15 : decode b_Re_startWith 15 = .ok (.iconst 0, 1) := by decide +kernel
theorem d_Re_startWith_16 : decode b_Re_startWith 16 = .ok (.invokevirtual 32, 3) := by decide +kernel
theorem d_Re_startWith_19 : decode b_Re_startWith 19 = .ok (.return_, 1) := by decide +kernel
theorem d_Re_take_0 : decode b_Re_take 0 = .ok (.aload_n 0, 1) := by decide +kernel
theorem d_Re_take_1 : decode b_Re_take 1 = .ok (.getfield 24, 3) := by decide +kernel
theorem d_Re_take_4 : decode b_Re_take 4 = .ok (.ifnull 22, 3) := by decide +kernel
theorem d_Re_take_7 : decode b_Re_take 7 = .ok (.aload_n 0, 1) := by decide +kernel
theorem d_Re_take_8 : decode b_Re_take 8 = .ok (.getfield 28, 3) := by decide +kernel
theorem d_Re_take_11 : decode b_Re_take 11 = .ok (.ifCond .lt 15, 3) := by decide +kernel
theorem d_Re_take_14 : decode b_Re_take 14 = .ok (.aload_n 0, 1) := by decide +kernel
theorem d_Re_take_15 : decode b_Re_take 15 = .ok (.getfield 28, 3) := by decide +kernel
theorem d_Re_take_18 : decode b_Re_take 18 = .ok (.aload_n 0, 1) := by decide +kernel
theorem d_Re_take_19 : decode b_Re_take 19 = .ok (.getfield 9, 3) := by decide +kernel
theorem d_Re_take_22 : decode b_Re_take 22 = .ok (.arraylength, 1) := by decide +kernel
theorem d_Re_take_23 : decode b_Re_take 23 = .ok (.if_icmp .lt 5, 3) := by decide +kernel
theorem d_Re_take_26 : decode b_Re_take 26 = .ok (.iconst 0, 1) := by decide +kernel
theorem d_Re_take_27 : decode b_Re_take 27 = .ok (.ireturn, 1) := by decide +kernel
theorem d_Re_take_28 : decode b_Re_take 28 = .ok (.aload_n 0, 1) := by decide +kernel
theorem d_Re_take_29 : decode b_Re_take 29 = .ok (.getfield 9, 3) := by decide +kernel
theorem d_Re_take_32 : decode b_Re_take 32 = .ok (.aload_n 0, 1) := by decide +kernel
theorem d_Re_take_33 : decode b_Re_take 33 = .ok (.getfield 28, 3) := by decide +kernel
theorem d_Re_take_36 : decode b_Re_take 36 = .ok (.iload_n 1, 1) := by decide +kernel
theorem d_Re_take_37 : decode b_Re_take 37 = .ok (.iastore, 1) := by decide +kernel
theorem d_Re_take_38 : decode b_Re_take 38 = .ok (.aload_n 0, 1) := by decide +kernel
theorem d_Re_take_39 : decode b_Re_take 39 = .ok (.getfield 24, 3) := by decide +kernel
theorem d_Re_take_42 : decode b_Re_take 42 = .ok (.aload_n 0, 1) := by decide +kernel
theorem d_Re_take_43 : decode b_Re_take 43 = .ok (.getfield 20, 3) := by decide +kernel
theorem d_Re_take_46 : decode b_Re_take 46 = .ok (.aload_n 0, 1) := by decide +kernel
theorem d_Re_take_47 : decode b_Re_take 47 = .ok (.getfield 28, 3) := by decide +kernel
theorem d_Re_take_50 : decode b_Re_take 50 = .ok (.iload_n 1, 1) := by decide +kernel
theorem d_Re_take_51 : decode b_Re_take 51 = .ok (.invokevirtual 38, 3) := by decide +kernel
theorem d_Re_take_54 : decode b_Re_take 54 = .ok (.aload_n 0, 1) := by decide +kernel
theorem d_Re_take_55 : decode b_Re_take 55 = .ok (.dup, 1) := by decide +kernel
theorem d_Re_take_56 : decode b_Re_take 56 = .ok (.getfield 28, 3) := by decide +kernel
theorem d_Re_take_59 : decode b_Re_take 59 = .ok (.iconst 1, 1) := by decide +kernel
theorem d_Re_take_60 : decode b_Re_take 60 = .ok (.iadd, 1) := by decide +kernel
theorem d_Re_take_61 : decode b_Re_take 61 = .ok (.putfield 28, 3) := by decide +kernel
theorem d_Re_take_64 : decode b_Re_take 64 = .ok (.iconst 1, 1) := by decide +kernel
theorem d_Re_take_65 : decode b_Re_take 65 = .ok (.ireturn, 1) := by decide +kernel
theorem d_Re_mayEnd_0 : decode b_Re_mayEnd 0 = .ok (.aload_n 0, 1) := by decide +kernel
theorem d_Re_mayEnd_1 : decode b_Re_mayEnd 1 = .ok (.getfield 24, 3) := by decide +kernel
theorem d_Re_mayEnd_4 : decode b_Re_mayEnd 4 = .ok (.ifnull 24, 3) := by decide +kernel
theorem d_Re_mayEnd_7 : decode b_Re_mayEnd 7 = .ok (.aload_n 0, 1) := by decide +kernel
theorem d_Re_mayEnd_8 : decode b_Re_mayEnd 8 = .ok (.getfield 20, 3) := by decide +kernel
theorem d_Re_mayEnd_11 : decode b_Re_mayEnd 11 = .ok (.aload_n 0, 1) := by decide +kernel
theorem d_Re_mayEnd_12 : decode b_Re_mayEnd 12 = .ok (.getfield 28, 3) := by decide +kernel
theorem d_Re_mayEnd_15 : decode b_Re_mayEnd 15 = .ok (.sipush 255, 3) := by decide +kernel
theorem d_Re_mayEnd_18 : decode b_Re_mayEnd 18 = .ok (.invokevirtual 42, 3) := by decide +kernel
theorem d_Re_mayEnd_21 : decode b_Re_mayEnd 21 = .ok (.ifCond .eq 7, 3) := by decide +kernel
theorem d_Re_mayEnd_24 : decode b_Re_mayEnd 24 = .ok (.iconst 1, 1) := by decide +kernel
theorem d_Re_mayEnd_25 : decode b_Re_mayEnd 25 = .ok (.goto 4, 3) := by decide +kernel
theorem d_Re_mayEnd_28 : decode b_Re_mayEnd 28 = .ok (.iconst 0, 1) := by decide +kernel
theorem d_Re_mayEnd_29 : decode b_Re_mayEnd 29 = .ok (.ireturn, 1) := by decide +kernel
theorem d_Re_mayTake_0 : decode b_Re_mayTake 0 = .ok (.aload_n 0, 1) := by decide +kernel
theorem d_Re_mayTake_1 : decode b_Re_mayTake 1 = .ok (.getfield 24, 3) := by decide +kernel
theorem d_Re_mayTake_4 : decode b_Re_mayTake 4 = .ok (.ifnull 26, 3) := by decide +kernel
theorem d_Re_mayTake_7 : decode b_Re_mayTake 7 = .ok (.aload_n 0, 1) := by decide +kernel
theorem d_Re_mayTake_8 : decode b_Re_mayTake 8 = .ok (.getfield 24, 3) := by decide +kernel
theorem d_Re_mayTake_11 : decode b_Re_mayTake 11 = .ok (.aload_n 0, 1) := by decide +kernel
theorem d_Re_mayTake_12 : decode b_Re_mayTake 12 = .ok (.getfield 20, 3) := by decide +kernel
theorem d_Re_mayTake_15 : decode b_Re_mayTake 15 = .ok (.aload_n 0, 1) := by decide +kernel
theorem d_Re_mayTake_16 : decode b_Re_mayTake 16 = .ok (.getfield 28, 3) := by decide +kernel
theorem d_Re_mayTake_19 : decode b_Re_mayTake 19 = .ok (.iload_n 1, 1) := by decide +kernel
theorem d_Re_mayTake_20 : decode b_Re_mayTake 20 = .ok (.invokevirtual 46, 3) := by decide +kernel
theorem d_Re_mayTake_23 : decode b_Re_mayTake 23 = .ok (.ifCond .eq 7, 3) := by decide +kernel
theorem d_Re_mayTake_26 : decode b_Re_mayTake 26 = .ok (.iconst 1, 1) := by decide +kernel
theorem d_Re_mayTake_27 : decode b_Re_mayTake 27 = .ok (.goto 4, 3) := by decide +kernel
theorem d_Re_mayTake_30 : decode b_Re_mayTake 30 = .ok (.iconst 0, 1) := by decide +kernel
theorem d_Re_mayTake_31 : decode b_Re_mayTake 31 = .ok (.ireturn, 1) := by decide +kernel
theorem d_Re_offer_0 : decode b_Re_offer 0 = .ok (.aload_n 0, 1) := by decide +kernel
theorem d_Re_offer_1 : decode b_Re_offer 1 = .ok (.getfield 24, 3) := by decide +kernel
theorem d_Re_offer_4 : decode b_Re_offer 4 = .ok (.ifnonnull 7, 3) := by decide +kernel
theorem d_Re_offer_7 : decode b_Re_offer 7 = .ok (.iconst (-1), 1) := by decide +kernel
theorem d_Re_offer_8 : decode b_Re_offer 8 = .ok (.goto 19, 3) := by decide +kernel
theorem d_Re_offer_11 : decode b_Re_offer 11 = .ok (.aload_n 0, 1) := by decide +kernel
theorem d_Re_offer_12 : decode b_Re_offer 12 = .ok (.getfield 24, 3) := by decide +kernel
theorem d_Re_offer_15 : decode b_Re_offer 15 = .ok (.aload_n 0, 1) := by decide +kernel
theorem d_Re_offer_16 : decode b_Re_offer 16 = .ok (.getfield 20, 3) := by decide +kernel
theorem d_Re_offer_19 : decode b_Re_offer 19 = .ok (.aload_n 0, 1) := by decide +kernel
theorem d_Re_offer_20 : decode b_Re_offer 20 = .ok (.getfield 28, 3) := by decide +kernel
theorem d_Re_offer_23 : decode b_Re_offer 23 = .ok (.iload_n 1, 1) := by decide +kernel
theorem d_Re_offer_24 : decode b_Re_offer 24 = .ok (.invokevirtual 50, 3) := by decide +kernel
theorem d_Re_offer_27 : decode b_Re_offer 27 = .ok (.ireturn, 1) := by decide +kernel
theorem d_Re_takeBack_0 : decode b_Re_takeBack 0 = .ok (.aload_n 0, 1) := by decide +kernel
theorem d_Re_takeBack_1 : decode b_Re_takeBack 1 = .ok (.getfield 28, 3) := by decide +kernel
theorem d_Re_takeBack_4 : decode b_Re_takeBack 4 = .ok (.iconst 1, 1) := by decide +kernel
theorem d_Re_takeBack_5 : decode b_Re_takeBack 5 = .ok (.isub, 1) := by decide +kernel
theorem d_Re_takeBack_6 : decode b_Re_takeBack 6 = .ok (.istore_n 1, 1) := by decide +kernel
theorem d_Re_takeBack_7 : decode b_Re_takeBack 7 = .ok (.aload_n 0, 1) := by decide +kernel
theorem d_Re_takeBack_8 : decode b_Re_takeBack 8 = .ok (.getfield 24, 3) := by decide +kernel
theorem d_Re_takeBack_11 : decode b_Re_takeBack 11 = .ok (.ifnull 16, 3) := by decide +kernel
theorem d_Re_takeBack_14 : decode b_Re_takeBack 14 = .ok (.iload_n 1, 1) := by decide +kernel
theorem d_Re_takeBack_15 : decode b_Re_takeBack 15 = .ok (.ifCond .lt 12, 3) := by decide +kernel
theorem d_Re_takeBack_18 : decode b_Re_takeBack 18 = .ok (.iload_n 1, 1) := by decide +kernel
theorem d_Re_takeBack_19 : decode b_Re_takeBack 19 = .ok (.aload_n 0, 1) := by decide +kernel
theorem d_Re_takeBack_20 : decode b_Re_takeBack 20 = .ok (.getfield 9, 3) := by decide +kernel
theorem d_Re_takeBack_23 : decode b_Re_takeBack 23 = .ok (.arraylength, 1) := by decide +kernel
theorem d_Re_takeBack_24 : decode b_Re_takeBack 24 = .ok (.if_icmp .lt 5, 3) := by decide +kernel
theorem d_Re_takeBack_27 : decode b_Re_takeBack 27 = .ok (.iconst (-1), 1) := by decide +kernel
theorem d_Re_takeBack_28 : decode b_Re_takeBack 28 = .ok (.ireturn, 1) := by decide +kernel
theorem d_Re_takeBack_29 : decode b_Re_takeBack 29 = .ok (.aload_n 0, 1) := by decide +kernel
theorem d_Re_takeBack_30 : decode b_Re_takeBack 30 = .ok (.iload_n 1, 1) := by decide +kernel
theorem d_Re_takeBack_31 : decode b_Re_takeBack 31 = .ok (.putfield 28, 3) := by decide +kernel
theorem d_Re_takeBack_34 : decode b_Re_takeBack 34 = .ok (.aload_n 0, 1) := by decide +kernel
theorem d_Re_takeBack_35 : decode b_Re_takeBack 35 = .ok (.getfield 9, 3) := by decide +kernel
theorem d_Re_takeBack_38 : decode b_Re_takeBack 38 = .ok (.iload_n 1, 1) := by decide +kernel
theorem d_Re_takeBack_39 : decode b_Re_takeBack 39 = .ok (.iaload, 1) := by decide +kernel
theorem d_Re_takeBack_40 : decode b_Re_takeBack 40 = .ok (.ireturn, 1) := by decide +kernel
theorem d_Se_init_0 : decode b_Se_init 0 = .ok (.aload_n 0, 1) := by decide +kernel
theorem d_Se_init_1 : decode b_Se_init 1 = .ok (.invokespecial 3, 3) := by decide +kernel
theorem d_Se_init_4 : decode b_Se_init 4 = .ok (.aload_n 0, 1) := by decide +kernel
theorem d_Se_init_5 : decode b_Se_init 5 = .ok (.iconst 0, 1) := by decide +kernel
theorem d_Se_init_6 : decode b_Se_init 6 = .ok (.iload_n 1, 1) := by decide +kernel
theorem d_Se_init_7 : decode b_Se_init 7 = .ok (.sipush 1001, 3) := by decide +kernel
theorem d_Se_init_10 : decode b_Se_init 10 = .ok (.invokestatic 11, 3) := by decide +kernel
theorem d_Se_init_13 : decode b_Se_init 13 = .ok (.invokestatic 17, 3) := by decide +kernel
theorem d_Se_init_16 : decode b_Se_init 16 = .ok (.iconst 4, 1) := by decide +kernel
theorem d_Se_init_17 : decode b_Se_init 17 = .ok (.imul, 1) := by decide +kernel
theorem d_Se_init_18 : decode b_Se_init 18 = .ok (.newarray .long, 2) := by decide +kernel
theorem d_Se_init_20 : decode b_Se_init 20 = .ok (.putfield 20, 3) := by decide +kernel
theorem d_Se_init_23 : decode b_Se_init 23 = .ok (.return_, 1) := by decide +kernel
theorem d_Se_hasSet_0 : decode b_Se_hasSet 0 = .ok (.iload_n 1, 1) := by decide +kernel
theorem d_Se_hasSet_1 : decode b_Se_hasSet 1 = .ok (.ifCond .lt 18, 3) := by decide +kernel
theorem d_Se_hasSet_4 : decode b_Se_hasSet 4 = .ok (.iload_n 1, 1) := by decide +kernel
theorem d_Se_hasSet_5 : decode b_Se_hasSet 5 = .ok (.aload_n 0, 1) := by decide +kernel
theorem d_Se_hasSet_6 : decode b_Se_hasSet 6 = .ok (.getfield 20, 3) := by decide +kernel
theorem d_Se_hasSet_9 : decode b_Se_hasSet 9 = .ok (.arraylength, 1) := by decide +kernel
theorem d_Se_hasSet_10 : decode b_Se_hasSet 10 = .ok (.iconst 4, 1) := by decide +kernel
theorem d_Se_hasSet_11 : decode b_Se_hasSet 11 = .ok (.idiv, 1) := by decide +kernel
theorem d_Se_hasSet_12 : decode b_Se_hasSet 12 = .ok (.if_icmp .ge 7, 3) := by decide +kernel
theorem d_Se_hasSet_15 : decode b_Se_hasSet 15 = .ok (.iconst 1, 1) := by decide +kernel
theorem d_Se_hasSet_16 : decode b_Se_hasSet 16 = .ok (.goto 4, 3) := by decide +kernel
theorem d_Se_hasSet_19 : decode b_Se_hasSet 19 = .ok (.iconst 0, 1) := by decide +kernel
theorem d_Se_hasSet_20 : decode b_Se_hasSet 20 = .ok (.ireturn, 1) := by decide +kernel
theorem d_Se_hasPlace_0 : decode b_Se_hasPlace 0 = .ok (.aload_n 0, 1) := by decide +kernel
theorem d_Se_hasPlace_1 : decode b_Se_hasPlace 1 = .ok (.iload_n 1, 1) := by decide +kernel
theorem d_Se_hasPlace_2 : decode b_Se_hasPlace 2 = .ok (.invokevirtual 24, 3) := by decide +kernel
theorem d_Se_hasPlace_5 : decode b_Se_hasPlace 5 = .ok (.ifCond .eq 18, 3) := by decide +kernel
theorem d_Se_hasPlace_8 : decode b_Se_hasPlace 8 = .ok (.iload_n 2, 1) := by decide +kernel
theorem d_Se_hasPlace_9 : decode b_Se_hasPlace 9 = .ok (.ifCond .lt 14, 3) := by decide +kernel
theorem d_Se_hasPlace_12 : decode b_Se_hasPlace 12 = .ok (.iload_n 2, 1) := by decide +kernel
theorem d_Se_hasPlace_13 : decode b_Se_hasPlace 13 = .ok (.sipush 255, 3) := by decide +kernel
theorem d_Se_hasPlace_16 : decode b_Se_hasPlace 16 = .ok (.if_icmp .gt 7, 3) := by decide +kernel
theorem d_Se_hasPlace_19 : decode b_Se_hasPlace 19 = .ok (.iconst 1, 1) := by decide +kernel
theorem d_Se_hasPlace_20 : decode b_Se_hasPlace 20 = .ok (.goto 4, 3) := by decide +kernel
theorem d_Se_hasPlace_23 : decode b_Se_hasPlace 23 = .ok (.iconst 0, 1) := by decide +kernel
theorem d_Se_hasPlace_24 : decode b_Se_hasPlace 24 = .ok (.ireturn, 1) := by decide +kernel
theorem d_Se_holds_0 : decode b_Se_holds 0 = .ok (.aload_n 0, 1) := by decide +kernel
theorem d_Se_holds_1 : decode b_Se_holds 1 = .ok (.iload_n 1, 1) := by decide +kernel
theorem d_Se_holds_2 : decode b_Se_holds 2 = .ok (.iload_n 2, 1) := by decide +kernel
theorem d_Se_holds_3 : decode b_Se_holds 3 = .ok (.invokevirtual 28, 3) := by decide +kernel
theorem d_Se_holds_6 : decode b_Se_holds 6 = .ok (.ifCond .ne 5, 3) := by decide +kernel
theorem d_Se_holds_9 : decode b_Se_holds 9 = .ok (.iconst 0, 1) := by decide +kernel
theorem d_Se_holds_10 : decode b_Se_holds 10 = .ok (.ireturn, 1) := by decide +kernel
theorem d_Se_holds_11 : decode b_Se_holds 11 = .ok (.aload_n 0, 1) := by decide +kernel
theorem d_Se_holds_12 : decode b_Se_holds 12 = .ok (.getfield 20, 3) := by decide +kernel
theorem d_Se_holds_15 : decode b_Se_holds 15 = .ok (.iload_n 1, 1) := by decide +kernel
theorem d_Se_holds_16 : decode b_Se_holds 16 = .ok (.iconst 4, 1) := by decide +kernel
theorem d_Se_holds_17 : decode b_Se_holds 17 = .ok (.imul, 1) := by decide +kernel
theorem d_Se_holds_18 : decode b_Se_holds 18 = .ok (.iload_n 2, 1) := by decide +kernel
theorem d_Se_holds_19 : decode b_Se_holds 19 = .ok (.bipush 6, 2) := by decide +kernel
theorem d_Se_holds_21 : decode b_Se_holds 21 = .ok (.ishr, 1) := by decide +kernel
theorem d_Se_holds_22 : decode b_Se_holds 22 = .ok (.iadd, 1) := by decide +kernel
theorem d_Se_holds_23 : decode b_Se_holds 23 = .ok (.laload, 1) := by decide +kernel
theorem d_Se_holds_24 : decode b_Se_holds 24 = .ok (.iload_n 2, 1) := by decide +kernel
theorem d_Se_holds_25 : decode b_Se_holds 25 = .ok (.lushr, 1) := by decide +kernel
theorem d_Se_holds_26 : decode b_Se_holds 26 = .ok (.lconst 1, 1) := by decide +kernel
theorem d_Se_holds_27 : decode b_Se_holds 27 = .ok (.land, 1) := by decide +kernel
theorem d_Se_holds_28 : decode b_Se_holds 28 = .ok (.lconst 0, 1) := by decide +kernel
theorem d_Se_holds_29 : decode b_Se_holds 29 = .ok (.lcmp, 1) := by decide +kernel
theorem d_Se_holds_30 : decode b_Se_holds 30 = .ok (.ifCond .eq 7, 3) := by decide +kernel
theorem d_Se_holds_33 : decode b_Se_holds 33 = .ok (.iconst 1, 1) := by decide +kernel
theorem d_Se_holds_34 : decode b_Se_holds 34 = .ok (.goto 4, 3) := by decide +kernel
theorem d_Se_holds_37 : decode b_Se_holds 37 = .ok (.iconst 0, 1) := by decide +kernel
theorem d_Se_holds_38 : decode b_Se_holds 38 = .ok (.ireturn, 1) := by decide +kernel
theorem d_Se_add_0 : decode b_Se_add 0 = .ok (.aload_n 0, 1) := by decide +kernel
theorem d_Se_add_1 : decode b_Se_add 1 = .ok (.iload_n 1, 1) := by decide +kernel
theorem d_Se_add_2 : decode b_Se_add 2 = .ok (.iload_n 2, 1) := by decide +kernel
theorem d_Se_add_3 : decode b_Se_add 3 = .ok (.invokevirtual 28, 3) := by decide +kernel
theorem d_Se_add_6 : decode b_Se_add 6 = .ok (.ifCond .eq 22, 3) := by decide +kernel
theorem d_Se_add_9 : decode b_Se_add 9 = .ok (.aload_n 0, 1) := by decide +kernel
theorem d_Se_add_10 : decode b_Se_add 10 = .ok (.getfield 20, 3) := by decide +kernel
theorem d_Se_add_13 : decode b_Se_add 13 = .ok (.iload_n 1, 1) := by decide +kernel
theorem d_Se_add_14 : decode b_Se_add 14 = .ok (.iconst 4, 1) := by decide +kernel
theorem d_Se_add_15 : decode b_Se_add 15 = .ok (.imul, 1) := by decide +kernel
theorem d_Se_add_16 : decode b_Se_add 16 = .ok (.iload_n 2, 1) := by decide +kernel
theorem d_Se_add_17 : decode b_Se_add 17 = .ok (.bipush 6, 2) := by decide +kernel
theorem d_Se_add_19 : decode b_Se_add 19 = .ok (.ishr, 1) := by decide +kernel
theorem d_Se_add_20 : decode b_Se_add 20 = .ok (.iadd, 1) := by decide +kernel
theorem d_Se_add_21 : decode b_Se_add 21 = .ok (.dup2, 1) := by decide +kernel
theorem d_Se_add_22 : decode b_Se_add 22 = .ok (.laload, 1) := by decide +kernel
theorem d_Se_add_23 : decode b_Se_add 23 = .ok (.lconst 1, 1) := by decide +kernel
theorem d_Se_add_24 : decode b_Se_add 24 = .ok (.iload_n 2, 1) := by decide +kernel
theorem d_Se_add_25 : decode b_Se_add 25 = .ok (.lshl, 1) := by decide +kernel
theorem d_Se_add_26 : decode b_Se_add 26 = .ok (.lor, 1) := by decide +kernel
theorem d_Se_add_27 : decode b_Se_add 27 = .ok (.lastore, 1) := by decide +kernel
theorem d_Se_add_28 : decode b_Se_add 28 = .ok (.return_, 1) := by decide +kernel
theorem d_Se_addAll_0 : decode b_Se_addAll 0 = .ok (.aload_n 0, 1) := by decide +kernel
theorem d_Se_addAll_1 : decode b_Se_addAll 1 = .ok (.iload_n 1, 1) := by decide +kernel
theorem d_Se_addAll_2 : decode b_Se_addAll 2 = .ok (.invokevirtual 24, 3) := by decide +kernel
theorem d_Se_addAll_5 : decode b_Se_addAll 5 = .ok (.ifCond .eq 51, 3) := by decide +kernel
theorem d_Se_addAll_8 : decode b_Se_addAll 8 = .ok (.aload_n 2, 1) := by decide +kernel
theorem d_Se_addAll_9 : decode b_Se_addAll 9 = .ok (.iload_n 3, 1) := by decide +kernel
theorem d_Se_addAll_10 : decode b_Se_addAll 10 = .ok (.invokevirtual 24, 3) := by decide +kernel
theorem d_Se_addAll_13 : decode b_Se_addAll 13 = .ok (.ifCond .eq 43, 3) := by decide +kernel
theorem d_Se_addAll_16 : decode b_Se_addAll 16 = .ok (.iconst 0, 1) := by decide +kernel
theorem d_Se_addAll_17 : decode b_Se_addAll 17 = .ok (.istore 4, 2) := by decide +kernel
theorem d_Se_addAll_19 : decode b_Se_addAll 19 = .ok (.iload 4, 2) := by decide +kernel
theorem d_Se_addAll_21 : decode b_Se_addAll 21 = .ok (.iconst 4, 1) := by decide +kernel
theorem d_Se_addAll_22 : decode b_Se_addAll 22 = .ok (.if_icmp .ge 34, 3) := by decide +kernel
theorem d_Se_addAll_25 : decode b_Se_addAll 25 = .ok (.aload_n 0, 1) := by decide +kernel
theorem d_Se_addAll_26 : decode b_Se_addAll 26 = .ok (.getfield 20, 3) := by decide +kernel
theorem d_Se_addAll_29 : decode b_Se_addAll 29 = .ok (.iload_n 1, 1) := by decide +kernel
theorem d_Se_addAll_30 : decode b_Se_addAll 30 = .ok (.iconst 4, 1) := by decide +kernel
theorem d_Se_addAll_31 : decode b_Se_addAll 31 = .ok (.imul, 1) := by decide +kernel
theorem d_Se_addAll_32 : decode b_Se_addAll 32 = .ok (.iload 4, 2) := by decide +kernel
theorem d_Se_addAll_34 : decode b_Se_addAll 34 = .ok (.iadd, 1) := by decide +kernel
theorem d_Se_addAll_35 : decode b_Se_addAll 35 = .ok (.dup2, 1) := by decide +kernel
theorem d_Se_addAll_36 : decode b_Se_addAll 36 = .ok (.laload, 1) := by decide +kernel
theorem d_Se_addAll_37 : decode b_Se_addAll 37 = .ok (.aload_n 2, 1) := by decide +kernel
theorem d_Se_addAll_38 : decode b_Se_addAll 38 = .ok (.getfield 20, 3) := by decide +kernel
theorem d_Se_addAll_41 : decode b_Se_addAll 41 = .ok (.iload_n 3, 1) := by decide +kernel
theorem d_Se_addAll_42 : decode b_Se_addAll 42 = .ok (.iconst 4, 1) := by decide +kernel
theorem d_Se_addAll_43 : decode b_Se_addAll 43 = .ok (.imul, 1) := by decide +kernel
theorem d_Se_addAll_44 : decode b_Se_addAll 44 = .ok (.iload 4, 2) := by decide +kernel
theorem d_Se_addAll_46 : decode b_Se_addAll 46 = .ok (.iadd, 1) := by decide +kernel
theorem d_Se_addAll_47 : decode b_Se_addAll 47 = .ok (.laload, 1) := by decide +kernel
theorem d_Se_addAll_48 : decode b_Se_addAll 48 = .ok (.lor, 1) := by decide +kernel
theorem d_Se_addAll_49 : decode b_Se_addAll 49 = .ok (.lastore, 1) := by decide +kernel
theorem d_Se_addAll_50 : decode b_Se_addAll 50 = .ok (.iinc 4 1, 3) := by decide +kernel
theorem d_Se_addAll_53 : decode b_Se_addAll 53 = .ok (.goto (-34), 3) := by decide +kernel
theorem d_Se_addAll_56 : decode b_Se_addAll 56 = .ok (.return_, 1) := by decide +kernel
theorem d_Se_removeAll_0 : decode b_Se_removeAll 0 = .ok (.aload_n 0, 1) := by decide +kernel
theorem d_Se_removeAll_1 : decode b_Se_removeAll 1 = .ok (.iload_n 1, 1) := by decide +kernel
theorem d_Se_removeAll_2 : decode b_Se_removeAll 2 = .ok (.invokevirtual 24, 3) := by decide +kernel
theorem d_Se_removeAll_5 : decode b_Se_removeAll 5 = .ok (.ifCond .eq 27, 3) := by decide +kernel
theorem d_Se_removeAll_8 : decode b_Se_removeAll 8 = .ok (.iconst 0, 1) := by decide +kernel
theorem d_Se_removeAll_9 : decode b_Se_removeAll 9 = .ok (.istore_n 2, 1) := by decide +kernel
theorem d_Se_removeAll_10 : decode b_Se_removeAll 10 = .ok (.iload_n 2, 1) := by decide +kernel
theorem d_Se_removeAll_11 : decode b_Se_removeAll 11 = .ok (.iconst 4, 1) := by decide +kernel
theorem d_Se_removeAll_12 : decode b_Se_removeAll 12 = .ok (.if_icmp .ge 20, 3) := by decide +kernel
theorem d_Se_removeAll_15 : decode b_Se_removeAll 15 = .ok (.aload_n 0, 1) := by decide +kernel
theorem d_Se_removeAll_16 : decode b_Se_removeAll 16 = .ok (.getfield 20, 3) := by decide +kernel
theorem d_Se_removeAll_19 : decode b_Se_removeAll 19 = .ok (.iload_n 1, 1) := by decide +kernel
theorem d_Se_removeAll_20 : decode b_Se_removeAll 20 = .ok (.iconst 4, 1) := by decide +kernel
theorem d_Se_removeAll_21 : decode b_Se_removeAll 21 = .ok (.imul, 1) := by decide +kernel
theorem d_Se_removeAll_22 : decode b_Se_removeAll 22 = .ok (.iload_n 2, 1) := by decide +kernel
theorem d_Se_removeAll_23 : decode b_Se_removeAll 23 = .ok (.iadd, 1) := by decide +kernel
theorem d_Se_removeAll_24 : decode b_Se_removeAll 24 = .ok (.lconst 0, 1) := by decide +kernel
theorem d_Se_removeAll_25 : decode b_Se_removeAll 25 = .ok (.lastore, 1) := by decide +kernel
theorem d_Se_removeAll_26 : decode b_Se_removeAll 26 = .ok (.iinc 2 1, 3) := by decide +kernel
theorem d_Se_removeAll_29 : decode b_Se_removeAll 29 = .ok (.goto (-19), 3) := by decide +kernel
theorem d_Se_removeAll_32 : decode b_Se_removeAll 32 = .ok (.return_, 1) := by decide +kernel
