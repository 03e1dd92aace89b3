theorem d_To_init_0 : decode b_To_init 0 = .ok (.aload_n 0, 1) := by decide +kernel
theorem d_To_init_1 : decode b_To_init 1 = .ok (.invokespecial 3, 3) := by decide +kernel
theorem d_To_init_4 : decode b_To_init 4 = .ok (.aload_n 0, 1) := by decide +kernel
theorem d_To_init_5 : decode b_To_init 5 = .ok (.new 9, 3) := by decide +kernel
theorem d_To_init_8 : decode b_To_init 8 = .ok (.dup, 1) := by decide +kernel
theorem d_To_init_9 : decode b_To_init 9 = .ok (.invokespecial 11, 3) := by decide +kernel
theorem d_To_init_12 : decode b_To_init 12 = .ok (.putfield 12, 3) := by decide +kernel
theorem d_To_init_15 : decode b_To_init 15 = .ok (.aload_n 0, 1) := by decide +kernel
theorem d_To_init_16 : decode b_To_init 16 = .ok (.bipush 50, 2) := by decide +kernel
theorem d_To_init_18 : decode b_To_init 18 = .ok (.anewarray 16, 3) := by decide +kernel
theorem d_To_init_21 : decode b_To_init 21 = .ok (.putfield 18, 3) := by decide +kernel
theorem d_To_init_24 : decode b_To_init 24 = .ok (.aload_n 0, 1) := by decide +kernel
theorem d_To_init_25 : decode b_To_init 25 = .ok (.new 22, 3) := by decide +kernel
theorem d_To_init_28 : decode b_To_init 28 = .ok (.dup, 1) := by decide +kernel
theorem d_To_init_29 : decode b_To_init 29 = .ok (.invokespecial 24, 3) := by decide +kernel
theorem d_To_init_32 : decode b_To_init 32 = .ok (.putfield 25, 3) := by decide +kernel
theorem d_To_init_35 : decode b_To_init 35 = .ok (.aload_n 0, 1) := by decide +kernel
theorem d_To_init_36 : decode b_To_init 36 = .ok (.iconst 0, 1) := by decide +kernel
theorem d_To_init_37 : decode b_To_init 37 = .ok (.putfield 29, 3) := by decide +kernel
theorem d_To_init_40 : decode b_To_init 40 = .ok (.return_, 1) := by decide +kernel
theorem d_To_name_0 : decode b_To_name 0 = .ok (.iload_n 1, 1) := by decide +kernel
theorem d_To_name_1 : decode b_To_name 1 = .ok (.invokestatic 33, 3) := by decide +kernel
theorem d_To_name_4 : decode b_To_name 4 = .ok (.ifCond .eq 24, 3) := by decide +kernel
theorem d_To_name_7 : decode b_To_name 7 = .ok (.aload_n 0, 1) := by decide +kernel
theorem d_To_name_8 : decode b_To_name 8 = .ok (.getfield 12, 3) := by decide +kernel
theorem d_To_name_11 : decode b_To_name 11 = .ok (.iload_n 1, 1) := by decide +kernel
theorem d_To_name_12 : decode b_To_name 12 = .ok (.invokevirtual 37, 3) := by decide +kernel
theorem d_To_name_15 : decode b_To_name 15 = .ok (.ifCond .eq 13, 3) := by decide +kernel
theorem d_To_name_18 : decode b_To_name 18 = .ok (.aload_n 0, 1) := by decide +kernel
theorem d_To_name_19 : decode b_To_name 19 = .ok (.getfield 12, 3) := by decide +kernel
theorem d_To_name_22 : decode b_To_name 22 = .ok (.getfield 40, 3) := by decide +kernel
theorem d_To_name_25 : decode b_To_name 25 = .ok (.goto 4, 3) := by decide +kernel
theorem d_To_name_28 : decode b_To_name 28 = .ok (.iconst (-1), 1) := by decide +kernel
theorem d_To_name_29 : decode b_To_name 29 = .ok (.ireturn, 1) := by decide +kernel
theorem d_To_row_0 : decode b_To_row 0 = .ok (.aload_n 0, 1) := by decide +kernel
theorem d_To_row_1 : decode b_To_row 1 = .ok (.getfield 12, 3) := by decide +kernel
theorem d_To_row_4 : decode b_To_row 4 = .ok (.invokevirtual 43, 3) := by decide +kernel
theorem d_To_row_7 : decode b_To_row 7 = .ok (.ifCond .eq 13, 3) := by decide +kernel
theorem d_To_row_10 : decode b_To_row 10 = .ok (.aload_n 0, 1) := by decide +kernel
theorem d_To_row_11 : decode b_To_row 11 = .ok (.getfield 12, 3) := by decide +kernel
theorem d_To_row_14 : decode b_To_row 14 = .ok (.getfield 40, 3) := by decide +kernel
theorem d_To_row_17 : decode b_To_row 17 = .ok (.goto 4, 3) := by decide +kernel
theorem d_To_row_20 : decode b_To_row 20 = .ok (.iconst (-1), 1) := by decide +kernel
theorem d_To_row_21 : decode b_To_row 21 = .ok (.ireturn, 1) := by decide +kernel
theorem d_To_choice_0 : decode b_To_choice 0 = .ok (.aload_n 0, 1) := by decide +kernel
theorem d_To_choice_1 : decode b_To_choice 1 = .ok (.getfield 12, 3) := by decide +kernel
theorem d_To_choice_4 : decode b_To_choice 4 = .ok (.invokevirtual 47, 3) := by decide +kernel
theorem d_To_choice_7 : decode b_To_choice 7 = .ok (.ifCond .eq 13, 3) := by decide +kernel
theorem d_To_choice_10 : decode b_To_choice 10 = .ok (.aload_n 0, 1) := by decide +kernel
theorem d_To_choice_11 : decode b_To_choice 11 = .ok (.getfield 12, 3) := by decide +kernel
theorem d_To_choice_14 : decode b_To_choice 14 = .ok (.getfield 40, 3) := by decide +kernel
theorem d_To_choice_17 : decode b_To_choice 17 = .ok (.goto 4, 3) := by decide +kernel
theorem d_To_choice_20 : decode b_To_choice 20 = .ok (.iconst (-1), 1) := by decide +kernel
theorem d_To_choice_21 : decode b_To_choice 21 = .ok (.ireturn, 1) := by decide +kernel
theorem d_To_often_0 : decode b_To_often 0 = .ok (.aload_n 0, 1) := by decide +kernel
theorem d_To_often_1 : decode b_To_often 1 = .ok (.getfield 12, 3) := by decide +kernel
theorem d_To_often_4 : decode b_To_often 4 = .ok (.iload_n 1, 1) := by decide +kernel
theorem d_To_often_5 : decode b_To_often 5 = .ok (.invokevirtual 50, 3) := by decide +kernel
theorem d_To_often_8 : decode b_To_often 8 = .ok (.ireturn, 1) := by decide +kernel
theorem d_To_clear_0 : decode b_To_clear 0 = .ok (.aload_n 0, 1) := by decide +kernel
theorem d_To_clear_1 : decode b_To_clear 1 = .ok (.getfield 12, 3) := by decide +kernel
theorem d_To_clear_4 : decode b_To_clear 4 = .ok (.getfield 40, 3) := by decide +kernel
theorem d_To_clear_7 : decode b_To_clear 7 = .ok (.istore_n 1, 1) := by decide +kernel
theorem d_To_clear_8 : decode b_To_clear 8 = .ok (.aload_n 0, 1) := by decide +kernel
theorem d_To_clear_9 : decode b_To_clear 9 = .ok (.getfield 12, 3) := by decide +kernel
theorem d_To_clear_12 : decode b_To_clear 12 = .ok (.invokevirtual 53, 3) := by decide +kernel
theorem d_To_clear_15 : decode b_To_clear 15 = .ok (.iload_n 1, 1) := by decide +kernel
theorem d_To_clear_16 : decode b_To_clear 16 = .ok (.ireturn, 1) := by decide +kernel
theorem d_To_make_0 : decode b_To_make 0 = .ok (.aload_n 0, 1) := by decide +kernel
theorem d_To_make_1 : decode b_To_make 1 = .ok (.getfield 29, 3) := by decide +kernel
theorem d_To_make_4 : decode b_To_make 4 = .ok (.istore_n 1, 1) := by decide +kernel
theorem d_To_make_5 : decode b_To_make 5 = .ok (.aload_n 0, 1) := by decide +kernel
theorem d_To_make_6 : decode b_To_make 6 = .ok (.getfield 12, 3) := by decide +kernel
theorem d_To_make_9 : decode b_To_make 9 = .ok (.getfield 40, 3) := by decide +kernel
theorem d_To_make_12 : decode b_To_make 12 = .ok (.iconst 1, 1) := by decide +kernel
theorem d_To_make_13 : decode b_To_make 13 = .ok (.if_icmp .ne 16, 3) := by decide +kernel
theorem d_To_make_16 : decode b_To_make 16 = .ok (.iload_n 1, 1) := by decide +kernel
theorem d_To_make_17 : decode b_To_make 17 = .ok (.ifCond .lt 12, 3) := by decide +kernel
theorem d_To_make_20 : decode b_To_make 20 = .ok (.iload_n 1, 1) := by decide +kernel
theorem d_To_make_21 : decode b_To_make 21 = .ok (.aload_n 0, 1) := by decide +kernel
theorem d_To_make_22 : decode b_To_make 22 = .ok (.getfield 18, 3) := by decide +kernel
theorem d_To_make_25 : decode b_To_make 25 = .ok (.arraylength, 1) := by decide +kernel
theorem d_To_make_26 : decode b_To_make 26 = .ok (.if_icmp .lt 5, 3) := by decide +kernel
theorem d_To_make_29 : decode b_To_make 29 = .ok (.iconst (-1), 1) := by decide +kernel
theorem d_To_make_30 : decode b_To_make 30 = .ok (.ireturn, 1) := by decide +kernel
theorem d_To_make_31 : decode b_To_make 31 = .ok (.aload_n 0, 1) := by decide +kernel
theorem d_To_make_32 : decode b_To_make 32 = .ok (.getfield 18, 3) := by decide +kernel
theorem d_To_make_35 : decode b_To_make 35 = .ok (.iload_n 1, 1) := by decide +kernel
theorem d_To_make_36 : decode b_To_make 36 = .ok (.aload_n 0, 1) := by decide +kernel
theorem d_To_make_37 : decode b_To_make 37 = .ok (.getfield 12, 3) := by decide +kernel
theorem d_To_make_40 : decode b_To_make 40 = .ok (.invokevirtual 56, 3) := by decide +kernel
theorem d_To_make_43 : decode b_To_make 43 = .ok (.aastore, 1) := by decide +kernel
theorem d_To_make_44 : decode b_To_make 44 = .ok (.aload_n 0, 1) := by decide +kernel
theorem d_To_make_45 : decode b_To_make 45 = .ok (.iload_n 1, 1) := by decide +kernel
theorem d_To_make_46 : decode b_To_make 46 = .ok (.iconst 1, 1) := by decide +kernel
theorem d_To_make_47 : decode b_To_make 47 = .ok (.iadd, 1) := by decide +kernel
theorem d_To_make_48 : decode b_To_make 48 = .ok (.putfield 29, 3) := by decide +kernel
theorem d_To_make_51 : decode b_To_make 51 = .ok (.aload_n 0, 1) := by decide +kernel
theorem d_To_make_52 : decode b_To_make 52 = .ok (.getfield 12, 3) := by decide +kernel
theorem d_To_make_55 : decode b_To_make 55 = .ok (.invokevirtual 53, 3) := by decide +kernel
theorem d_To_make_58 : decode b_To_make 58 = .ok (.iload_n 1, 1) := by decide +kernel
theorem d_To_make_59 : decode b_To_make 59 = .ok (.ireturn, 1) := by decide +kernel
theorem d_To_size_0 : decode b_To_size 0 = .ok (.aload_n 0, 1) := by decide +kernel
theorem d_To_size_1 : decode b_To_size 1 = .ok (.iload_n 1, 1) := by decide +kernel
theorem d_To_size_2 : decode b_To_size 2 = .ok (.invokevirtual 60, 3) := by decide +kernel
theorem d_To_size_5 : decode b_To_size 5 = .ok (.astore_n 2, 1) := by decide +kernel
theorem d_To_size_6 : decode b_To_size 6 = .ok (.aload_n 2, 1) := by decide +kernel
theorem d_To_size_7 : decode b_To_size 7 = .ok (.ifnonnull 7, 3) := by decide +kernel
theorem d_To_size_10 : decode b_To_size 10 = .ok (.iconst (-1), 1) := by decide +kernel
theorem d_To_size_11 : decode b_To_size 11 = .ok (.goto 8, 3) := by decide +kernel
theorem d_To_size_14 : decode b_To_size 14 = .ok (.aload_n 2, 1) := by decide +kernel
theorem d_To_size_15 : decode b_To_size 15 = .ok (.getfield 64, 3) := by decide +kernel
theorem d_To_size_18 : decode b_To_size 18 = .ok (.arraylength, 1) := by decide +kernel
theorem d_To_size_19 : decode b_To_size 19 = .ok (.ireturn, 1) := by decide +kernel
theorem d_To_isDeterministic_0 : decode b_To_isDeterministic 0 = .ok (.aload_n 0, 1) := by decide +kernel
theorem d_To_isDeterministic_1 : decode b_To_isDeterministic 1 = .ok (.iload_n 1, 1) := by decide +kernel
theorem d_To_isDeterministic_2 : decode b_To_isDeterministic 2 = .ok (.invokevirtual 60, 3) := by decide +kernel
theorem d_To_isDeterministic_5 : decode b_To_isDeterministic 5 = .ok (.astore_n 2, 1) := by decide +kernel
theorem d_To_isDeterministic_6 : decode b_To_isDeterministic 6 = .ok (.aload_n 2, 1) := by decide +kernel
theorem d_To_isDeterministic_7 : decode b_To_isDeterministic 7 = .ok (.ifnull 14, 3) := by decide +kernel
theorem d_To_isDeterministic_10 : decode b_To_isDeterministic 10 = .ok (.aload_n 2, 1) := by decide +kernel
theorem d_To_isDeterministic_11 : decode b_To_isDeterministic 11 = .ok (.getfield 68, 3) := by decide +kernel
theorem d_To_isDeterministic_14 : decode b_To_isDeterministic 14 = .ok (.ifCond .eq 7, 3) := by decide +kernel
theorem d_To_isDeterministic_17 : decode b_To_isDeterministic 17 = .ok (.iconst 1, 1) := by decide +kernel
theorem d_To_isDeterministic_18 : decode b_To_isDeterministic 18 = .ok (.goto 4, 3) := by decide +kernel
theorem d_To_isDeterministic_21 : decode b_To_isDeterministic 21 = .ok (.iconst 0, 1) := by decide +kernel
theorem d_To_isDeterministic_22 : decode b_To_isDeterministic 22 = .ok (.ireturn, 1) := by decide +kernel
theorem d_To_begin_0 : decode b_To_begin 0 = .ok (.aload_n 0, 1) := by decide +kernel
theorem d_To_begin_1 : decode b_To_begin 1 = .ok (.iload_n 1, 1) := by decide +kernel
theorem d_To_begin_2 : decode b_To_begin 2 = .ok (.invokevirtual 60, 3) := by decide +kernel
theorem d_To_begin_5 : decode b_To_begin 5 = .ok (.astore_n 2, 1) := by decide +kernel
theorem d_To_begin_6 : decode b_To_begin 6 = .ok (.aload_n 2, 1) := by decide +kernel
theorem d_To_begin_7 : decode b_To_begin 7 = .ok (.ifnonnull 5, 3) := by decide +kernel
theorem d_To_begin_10 : decode b_To_begin 10 = .ok (.iconst 0, 1) := by decide +kernel
theorem d_To_begin_11 : decode b_To_begin 11 = .ok (.ireturn, 1) := by decide +kernel
theorem d_To_begin_12 : decode b_To_begin 12 = .ok (.aload_n 0, 1) := by decide +kernel
theorem d_To_begin_13 : decode b_To_begin 13 = .ok (.getfield 25, 3) := by decide +kernel
theorem d_To_begin_16 : decode b_To_begin 16 = .ok (.aload_n 2, 1) := by decide +kernel
theorem d_To_begin_17 : decode b_To_begin 17 = .ok (.invokevirtual 72, 3) := by decide +kernel
theorem d_To_begin_20 : decode b_To_begin 20 = .ok (.iconst 1, 1) := by decide +kernel
theorem d_To_begin_21 : decode b_To_begin 21 = .ok (.ireturn, 1) := by decide +kernel
theorem d_To_read_0 : decode b_To_read 0 = .ok (.iload_n 1, 1) := by decide +kernel
theorem d_To_read_1 : decode b_To_read 1 = .ok (.invokestatic 33, 3) := by decide +kernel
theorem d_To_read_4 : decode b_To_read 4 = .ok (.ifCond .eq 24, 3) := by decide +kernel
theorem d_To_read_7 : decode b_To_read 7 = .ok (.aload_n 0, 1) := by decide +kernel
theorem d_To_read_8 : decode b_To_read 8 = .ok (.getfield 25, 3) := by decide +kernel
theorem d_To_read_11 : decode b_To_read 11 = .ok (.iload_n 1, 1) := by decide +kernel
theorem d_To_read_12 : decode b_To_read 12 = .ok (.invokevirtual 76, 3) := by decide +kernel
theorem d_To_read_15 : decode b_To_read 15 = .ok (.ifCond .eq 13, 3) := by decide +kernel
theorem d_To_read_18 : decode b_To_read 18 = .ok (.aload_n 0, 1) := by decide +kernel
theorem d_To_read_19 : decode b_To_read 19 = .ok (.getfield 25, 3) := by decide +kernel
theorem d_To_read_22 : decode b_To_read 22 = .ok (.getfield 79, 3) := by decide +kernel
theorem d_To_read_25 : decode b_To_read 25 = .ok (.goto 4, 3) := by decide +kernel
theorem d_To_read_28 : decode b_To_read 28 = .ok (.iconst (-1), 1) := by decide +kernel
theorem d_To_read_29 : decode b_To_read 29 = .ok (.ireturn, 1) := by decide +kernel
theorem d_To_isWhole_0 : decode b_To_isWhole 0 = .ok (.aload_n 0, 1) := by decide +kernel
theorem d_To_isWhole_1 : decode b_To_isWhole 1 = .ok (.getfield 25, 3) := by decide +kernel
theorem d_To_isWhole_4 : decode b_To_isWhole 4 = .ok (.invokevirtual 82, 3) := by decide +kernel
theorem d_To_isWhole_7 : decode b_To_isWhole 7 = .ok (.ireturn, 1) := by decide +kernel
theorem d_To_can_0 : decode b_To_can 0 = .ok (.aload_n 0, 1) := by decide +kernel
theorem d_To_can_1 : decode b_To_can 1 = .ok (.getfield 25, 3) := by decide +kernel
theorem d_To_can_4 : decode b_To_can 4 = .ok (.iload_n 1, 1) := by decide +kernel
theorem d_To_can_5 : decode b_To_can 5 = .ok (.invokevirtual 85, 3) := by decide +kernel
theorem d_To_can_8 : decode b_To_can 8 = .ok (.ireturn, 1) := by decide +kernel
theorem d_To_next_0 : decode b_To_next 0 = .ok (.aload_n 0, 1) := by decide +kernel
theorem d_To_next_1 : decode b_To_next 1 = .ok (.getfield 25, 3) := by decide +kernel
theorem d_To_next_4 : decode b_To_next 4 = .ok (.iload_n 1, 1) := by decide +kernel
theorem d_To_next_5 : decode b_To_next 5 = .ok (.invokevirtual 88, 3) := by decide +kernel
theorem d_To_next_8 : decode b_To_next 8 = .ok (.ireturn, 1) := by decide +kernel
theorem d_To_back_0 : decode b_To_back 0 = .ok (.aload_n 0, 1) := by decide +kernel
theorem d_To_back_1 : decode b_To_back 1 = .ok (.getfield 25, 3) := by decide +kernel
theorem d_To_back_4 : decode b_To_back 4 = .ok (.invokevirtual 92, 3) := by decide +kernel
theorem d_To_back_7 : decode b_To_back 7 = .ok (.ireturn, 1) := by decide +kernel
theorem d_To_isName_0 : decode b_To_isName 0 = .ok (.iload_n 0, 1) := by decide +kernel
theorem d_To_isName_1 : decode b_To_isName 1 = .ok (.iconst 1, 1) := by decide +kernel
theorem d_To_isName_2 : decode b_To_isName 2 = .ok (.if_icmp .lt 14, 3) := by decide +kernel
theorem d_To_isName_5 : decode b_To_isName 5 = .ok (.iload_n 0, 1) := by decide +kernel
theorem d_To_isName_6 : decode b_To_isName 6 = .ok (.sipush 1000, 3) := by decide +kernel
theorem d_To_isName_9 : decode b_To_isName 9 = .ok (.if_icmp .gt 7, 3) := by decide +kernel
theorem d_To_isName_12 : decode b_To_isName 12 = .ok (.iconst 1, 1) := by decide +kernel
theorem d_To_isName_13 : decode b_To_isName 13 = .ok (.goto 4, 3) := by decide +kernel
theorem d_To_isName_16 : decode b_To_isName 16 = .ok (.iconst 0, 1) := by decide +kernel
theorem d_To_isName_17 : decode b_To_isName 17 = .ok (.ireturn, 1) := by decide +kernel
theorem d_To_modelAt_0 : decode b_To_modelAt 0 = .ok (.iload_n 1, 1) := by decide +kernel
theorem d_To_modelAt_1 : decode b_To_modelAt 1 = .ok (.ifCond .lt 29, 3) := by decide +kernel
theorem d_To_modelAt_4 : decode b_To_modelAt 4 = .ok (.iload_n 1, 1) := by decide +kernel
theorem d_To_modelAt_5 : decode b_To_modelAt 5 = .ok (.aload_n 0, 1) := by decide +kernel
theorem d_To_modelAt_6 : decode b_To_modelAt 6 = .ok (.getfield 29, 3) := by decide +kernel
theorem d_To_modelAt_9 : decode b_To_modelAt 9 = .ok (.if_icmp .ge 21, 3) := by decide +kernel
theorem d_To_modelAt_12 : decode b_To_modelAt 12 = .ok (.iload_n 1, 1) := by decide +kernel
theorem d_To_modelAt_13 : decode b_To_modelAt 13 = .ok (.aload_n 0, 1) := by decide +kernel
theorem d_To_modelAt_14 : decode b_To_modelAt 14 = .ok (.getfield 18, 3) := by decide +kernel
theorem d_To_modelAt_17 : decode b_To_modelAt 17 = .ok (.arraylength, 1) := by decide +kernel
theorem d_To_modelAt_18 : decode b_To_modelAt 18 = .ok (.if_icmp .ge 12, 3) := by decide +kernel
theorem d_To_modelAt_21 : decode b_To_modelAt 21 = .ok (.aload_n 0, 1) := by decide +kernel
theorem d_To_modelAt_22 : decode b_To_modelAt 22 = .ok (.getfield 18, 3) := by decide +kernel
theorem d_To_modelAt_25 : decode b_To_modelAt 25 = .ok (.iload_n 1, 1) := by decide +kernel
theorem d_To_modelAt_26 : decode b_To_modelAt 26 = .ok (.aaload, 1) := by decide +kernel
theorem d_To_modelAt_27 : decode b_To_modelAt 27 = .ok (.goto 4, 3) := by decide +kernel
theorem d_To_modelAt_30 : decode b_To_modelAt 30 = .ok (.aconst_null, 1) := by decide +kernel
theorem d_To_modelAt_31 : decode b_To_modelAt 31 = .ok (.areturn, 1) := by decide +kernel
theorem d_Dr_init_0 : decode b_Dr_init 0 = .ok (.aload_n 0, 1) := by decide +kernel
theorem d_Dr_init_1 : decode b_Dr_init 1 = .ok (.invokespecial 3, 3) := by decide +kernel
theorem d_Dr_init_4 : decode b_Dr_init 4 = .ok (.aload_n 0, 1) := by decide +kernel
theorem d_Dr_init_5 : decode b_Dr_init 5 = .ok (.sipush 255, 3) := by decide +kernel
theorem d_Dr_init_8 : decode b_Dr_init 8 = .ok (.newarray .int, 2) := by decide +kernel
theorem d_Dr_init_10 : decode b_Dr_init 10 = .ok (.putfield 9, 3) := by decide +kernel
theorem d_Dr_init_13 : decode b_Dr_init 13 = .ok (.aload_n 0, 1) := by decide +kernel
theorem d_Dr_init_14 : decode b_Dr_init 14 = .ok (.new 15, 3) := by decide +kernel
theorem d_Dr_init_17 : decode b_Dr_init 17 = .ok (.dup, 1) := by decide +kernel
theorem d_Dr_init_18 : decode b_Dr_init 18 = .ok (.sipush 255, 3) := by decide +kernel
theorem d_Dr_init_21 : decode b_Dr_init 21 = .ok (.invokespecial 17, 3) := by decide +kernel
theorem d_Dr_init_24 : decode b_Dr_init 24 = .ok (.putfield 20, 3) := by decide +kernel
theorem d_Dr_init_27 : decode b_Dr_init 27 = .ok (.aload_n 0, 1) := by decide +kernel
theorem d_Dr_init_28 : decode b_Dr_init 28 = .ok (.new 15, 3) := by decide +kernel
theorem d_Dr_init_31 : decode b_Dr_init 31 = .ok (.dup, 1) := by decide +kernel
theorem d_Dr_init_32 : decode b_Dr_init 32 = .ok (.bipush 40, 2) := by decide +kernel
theorem d_Dr_init_34 : decode b_Dr_init 34 = .ok (.invokespecial 17, 3) := by decide +kernel
theorem d_Dr_init_37 : decode b_Dr_init 37 = .ok (.putfield 24, 3) := by decide +kernel
theorem d_Dr_init_40 : decode b_Dr_init 40 = .ok (.aload_n 0, 1) := by decide +kernel
theorem d_Dr_init_41 : decode b_Dr_init 41 = .ok (.new 15, 3) := by decide +kernel
theorem d_Dr_init_44 : decode b_Dr_init 44 = .ok (.dup, 1) := by decide +kernel
theorem d_Dr_init_45 : decode b_Dr_init 45 = .ok (.bipush 40, 2) := by decide +kernel
theorem d_Dr_init_47 : decode b_Dr_init 47 = .ok (.invokespecial 17, 3) := by decide +kernel
theorem d_Dr_init_50 : decode b_Dr_init 50 = .ok (.putfield 27, 3) := by decide +kernel
theorem d_Dr_init_53 : decode b_Dr_init 53 = .ok (.aload_n 0, 1) := by decide +kernel
theorem d_Dr_init_54 : decode b_Dr_init 54 = .ok (.bipush 40, 2) := by decide +kernel
theorem d_Dr_init_56 : decode b_Dr_init 56 = .ok (.newarray .boolean, 2) := by decide +kernel
theorem d_Dr_init_58 : decode b_Dr_init 58 = .ok (.putfield 30, 3) := by decide +kernel
theorem d_Dr_init_61 : decode b_Dr_init 61 = .ok (.return_, 1) := by decide +kernel
theorem d_Dr_hasPart_0 : decode b_Dr_hasPart 0 = .ok (.iload_n 1, 1) := by decide +kernel
theorem d_Dr_hasPart_1 : decode b_Dr_hasPart 1 = .ok (.ifCond .lt 24, 3) := by decide +kernel
theorem d_Dr_hasPart_4 : decode b_Dr_hasPart 4 = .ok (.iload_n 1, 1) := by decide +kernel
theorem d_Dr_hasPart_5 : decode b_Dr_hasPart 5 = .ok (.aload_n 0, 1) := by decide +kernel
theorem d_Dr_hasPart_6 : decode b_Dr_hasPart 6 = .ok (.getfield 34, 3) := by decide +kernel
theorem d_Dr_hasPart_9 : decode b_Dr_hasPart 9 = .ok (.if_icmp .ge 16, 3) := by decide +kernel
theorem d_Dr_hasPart_12 : decode b_Dr_hasPart 12 = .ok (.iload_n 1, 1) := by decide +kernel
theorem d_Dr_hasPart_13 : decode b_Dr_hasPart 13 = .ok (.aload_n 0, 1) := by decide +kernel
theorem d_Dr_hasPart_14 : decode b_Dr_hasPart 14 = .ok (.getfield 30, 3) := by decide +kernel
theorem d_Dr_hasPart_17 : decode b_Dr_hasPart 17 = .ok (.arraylength, 1) := by decide +kernel
theorem d_Dr_hasPart_18 : decode b_Dr_hasPart 18 = .ok (.if_icmp .ge 7, 3) := by decide +kernel
theorem d_Dr_hasPart_21 : decode b_Dr_hasPart 21 = .ok (.iconst 1, 1) := by decide +kernel
theorem d_Dr_hasPart_22 : decode b_Dr_hasPart 22 = .ok (.goto 4, 3) := by decide +kernel
theorem d_Dr_hasPart_25 : decode b_Dr_hasPart 25 = .ok (.iconst 0, 1) := by decide +kernel
theorem d_Dr_hasPart_26 : decode b_Dr_hasPart 26 = .ok (.ireturn, 1) := by decide +kernel
theorem d_Dr_addName_0 : decode b_Dr_addName 0 = .ok (.aload_n 0, 1) := by decide +kernel
theorem d_Dr_addName_1 : decode b_Dr_addName 1 = .ok (.getfield 38, 3) := by decide +kernel
theorem d_Dr_addName_4 : decode b_Dr_addName 4 = .ok (.istore_n 2, 1) := by decide +kernel
theorem d_Dr_addName_5 : decode b_Dr_addName 5 = .ok (.aload_n 0, 1) := by decide +kernel
theorem d_Dr_addName_6 : decode b_Dr_addName 6 = .ok (.getfield 34, 3) := by decide +kernel
theorem d_Dr_addName_9 : decode b_Dr_addName 9 = .ok (.istore_n 3, 1) := by decide +kernel
theorem d_Dr_addName_10 : decode b_Dr_addName 10 = .ok (.iload_n 3, 1) := by decide +kernel
theorem d_Dr_addName_11 : decode b_Dr_addName 11 = .ok (.ifCond .lt 25, 3) := by decide +kernel
theorem d_Dr_addName_14 : decode b_Dr_addName 14 = .ok (.iload_n 3, 1) := by decide +kernel
theorem d_Dr_addName_15 : decode b_Dr_addName 15 = .ok (.aload_n 0, 1) := by decide +kernel
theorem d_Dr_addName_16 : decode b_Dr_addName 16 = .ok (.getfield 30, 3) := by decide +kernel
theorem d_Dr_addName_19 : decode b_Dr_addName 19 = .ok (.arraylength, 1) := by decide +kernel
theorem d_Dr_addName_20 : decode b_Dr_addName 20 = .ok (.if_icmp .ge 16, 3) := by decide +kernel
theorem d_Dr_addName_23 : decode b_Dr_addName 23 = .ok (.iload_n 2, 1) := by decide +kernel
theorem d_Dr_addName_24 : decode b_Dr_addName 24 = .ok (.ifCond .lt 12, 3) := by decide +kernel
theorem d_Dr_addName_27 : decode b_Dr_addName 27 = .ok (.iload_n 2, 1) := by decide +kernel
theorem d_Dr_addName_28 : decode b_Dr_addName 28 = .ok (.aload_n 0, 1) := by decide +kernel
theorem d_Dr_addName_29 : decode b_Dr_addName 29 = .ok (.getfield 9, 3) := by decide +kernel
theorem d_Dr_addName_32 : decode b_Dr_addName 32 = .ok (.arraylength, 1) := by decide +kernel
theorem d_Dr_addName_33 : decode b_Dr_addName 33 = .ok (.if_icmp .lt 5, 3) := by decide +kernel
theorem d_Dr_addName_36 : decode b_Dr_addName 36 = .ok (.iconst 0, 1) := by decide +kernel
theorem d_Dr_addName_37 : decode b_Dr_addName 37 = .ok (.ireturn, 1) := by decide +kernel
theorem d_Dr_addName_38 : decode b_Dr_addName 38 = .ok (.aload_n 0, 1) := by decide +kernel
theorem d_Dr_addName_39 : decode b_Dr_addName 39 = .ok (.getfield 9, 3) := by decide +kernel
theorem d_Dr_addName_42 : decode b_Dr_addName 42 = .ok (.iload_n 2, 1) := by decide +kernel
theorem d_Dr_addName_43 : decode b_Dr_addName 43 = .ok (.iload_n 1, 1) := by decide +kernel
theorem d_Dr_addName_44 : decode b_Dr_addName 44 = .ok (.iastore, 1) := by decide +kernel
theorem d_Dr_addName_45 : decode b_Dr_addName 45 = .ok (.aload_n 0, 1) := by decide +kernel
theorem d_Dr_addName_46 : decode b_Dr_addName 46 = .ok (.getfield 20, 3) := by decide +kernel
theorem d_Dr_addName_49 : decode b_Dr_addName 49 = .ok (.iload_n 2, 1) := by decide +kernel
theorem d_Dr_addName_50 : decode b_Dr_addName 50 = .ok (.invokevirtual 41, 3) := by decide +kernel
theorem d_Dr_addName_53 : decode b_Dr_addName 53 = .ok (.aload_n 0, 1) := by decide +kernel
theorem d_Dr_addName_54 : decode b_Dr_addName 54 = .ok (.getfield 24, 3) := by decide +kernel
theorem d_Dr_addName_57 : decode b_Dr_addName 57 = .ok (.iload_n 3, 1) := by decide +kernel
theorem d_Dr_addName_58 : decode b_Dr_addName 58 = .ok (.invokevirtual 41, 3) := by decide +kernel
theorem d_Dr_addName_61 : decode b_Dr_addName 61 = .ok (.aload_n 0, 1) := by decide +kernel
theorem d_Dr_addName_62 : decode b_Dr_addName 62 = .ok (.getfield 24, 3) := by decide +kernel
theorem d_Dr_addName_65 : decode b_Dr_addName 65 = .ok (.iload_n 3, 1) := by decide +kernel
theorem d_Dr_addName_66 : decode b_Dr_addName 66 = .ok (.iload_n 2, 1) := by decide +kernel
theorem d_Dr_addName_67 : decode b_Dr_addName 67 = .ok (.invokevirtual 44, 3) := by decide +kernel
theorem d_Dr_addName_70 : decode b_Dr_addName 70 = .ok (.aload_n 0, 1) := by decide +kernel
theorem d_Dr_addName_71 : decode b_Dr_addName 71 = .ok (.getfield 27, 3) := by decide +kernel
theorem d_Dr_addName_74 : decode b_Dr_addName 74 = .ok (.iload_n 3, 1) := by decide +kernel
theorem d_Dr_addName_75 : decode b_Dr_addName 75 = .ok (.invokevirtual 41, 3) := by decide +kernel
theorem d_Dr_addName_78 : decode b_Dr_addName 78 = .ok (.aload_n 0, 1) := by decide +kernel
theorem d_Dr_addName_79 : decode b_Dr_addName 79 = .ok (.getfield 27, 3) := by decide +kernel
theorem d_Dr_addName_82 : decode b_Dr_addName 82 = .ok (.iload_n 3, 1) := by decide +kernel
theorem d_Dr_addName_83 : decode b_Dr_addName 83 = .ok (.iload_n 2, 1) := by decide +kernel
theorem d_Dr_addName_84 : decode b_Dr_addName 84 = .ok (.invokevirtual 44, 3) := by decide +kernel
theorem d_Dr_addName_87 : decode b_Dr_addName 87 = .ok (.aload_n 0, 1) := by decide +kernel
theorem d_Dr_addName_88 : decode b_Dr_addName 88 = .ok (.getfield 30, 3) := by decide +kernel
theorem d_Dr_addName_91 : decode b_Dr_addName 91 = .ok (.iload_n 3, 1) := by decide +kernel
theorem d_Dr_addName_92 : decode b_Dr_addName 92 = .ok (.iconst 0, 1) := by decide +kernel
theorem d_Dr_addName_93 : decode b_Dr_addName 93 = .ok (.bastore, 1) := by decide +kernel
theorem d_Dr_addName_94 : decode b_Dr_addName 94 = .ok (.aload_n 0, 1) := by decide +kernel
theorem d_Dr_addName_95 : decode b_Dr_addName 95 = .ok (.iload_n 2, 1) := by decide +kernel
theorem d_Dr_addName_96 : decode b_Dr_addName 96 = .ok (.iconst 1, 1) := by decide +kernel
theorem d_Dr_addName_97 : decode b_Dr_addName 97 = .ok (.iadd, 1) := by decide +kernel
theorem d_Dr_addName_98 : decode b_Dr_addName 98 = .ok (.putfield 38, 3) := by decide +kernel
theorem d_Dr_addName_101 : decode b_Dr_addName 101 = .ok (.aload_n 0, 1) := by decide +kernel
theorem d_Dr_addName_102 : decode b_Dr_addName 102 = .ok (.iload_n 3, 1) := by decide +kernel
theorem d_Dr_addName_103 : decode b_Dr_addName 103 = .ok (.iconst 1, 1) := by decide +kernel
theorem d_Dr_addName_104 : decode b_Dr_addName 104 = .ok (.iadd, 1) := by decide +kernel
theorem d_Dr_addName_105 : decode b_Dr_addName 105 = .ok (.putfield 34, 3) := by decide +kernel
theorem d_Dr_addName_108 : decode b_Dr_addName 108 = .ok (.iconst 1, 1) := by decide +kernel
theorem d_Dr_addName_109 : decode b_Dr_addName 109 = .ok (.ireturn, 1) := by decide +kernel
theorem d_Dr_joinToRow_0 : decode b_Dr_joinToRow 0 = .ok (.aload_n 0, 1) := by decide +kernel
theorem d_Dr_joinToRow_1 : decode b_Dr_joinToRow 1 = .ok (.getfield 34, 3) := by decide +kernel
theorem d_Dr_joinToRow_4 : decode b_Dr_joinToRow 4 = .ok (.iconst 1, 1) := by decide +kernel
theorem d_Dr_joinToRow_5 : decode b_Dr_joinToRow 5 = .ok (.isub, 1) := by decide +kernel
theorem d_Dr_joinToRow_6 : decode b_Dr_joinToRow 6 = .ok (.istore_n 1, 1) := by decide +kernel
theorem d_Dr_joinToRow_7 : decode b_Dr_joinToRow 7 = .ok (.iload_n 1, 1) := by decide +kernel
theorem d_Dr_joinToRow_8 : decode b_Dr_joinToRow 8 = .ok (.iconst 1, 1) := by decide +kernel
theorem d_Dr_joinToRow_9 : decode b_Dr_joinToRow 9 = .ok (.isub, 1) := by decide +kernel
theorem d_Dr_joinToRow_10 : decode b_Dr_joinToRow 10 = .ok (.istore_n 2, 1) := by decide +kernel
theorem d_Dr_joinToRow_11 : decode b_Dr_joinToRow 11 = .ok (.aload_n 0, 1) := by decide +kernel
theorem d_Dr_joinToRow_12 : decode b_Dr_joinToRow 12 = .ok (.iload_n 2, 1) := by decide +kernel
theorem d_Dr_joinToRow_13 : decode b_Dr_joinToRow 13 = .ok (.invokevirtual 48, 3) := by decide +kernel
theorem d_Dr_joinToRow_16 : decode b_Dr_joinToRow 16 = .ok (.ifCond .eq 11, 3) := by decide +kernel
theorem d_Dr_joinToRow_19 : decode b_Dr_joinToRow 19 = .ok (.aload_n 0, 1) := by decide +kernel
theorem d_Dr_joinToRow_20 : decode b_Dr_joinToRow 20 = .ok (.iload_n 1, 1) := by decide +kernel
theorem d_Dr_joinToRow_21 : decode b_Dr_joinToRow 21 = .ok (.invokevirtual 48, 3) := by decide +kernel
theorem d_Dr_joinToRow_24 : decode b_Dr_joinToRow 24 = .ok (.ifCond .ne 5, 3) := by decide +kernel
theorem d_Dr_joinToRow_27 : decode b_Dr_joinToRow 27 = .ok (.iconst 0, 1) := by decide +kernel
theorem d_Dr_joinToRow_28 : decode b_Dr_joinToRow 28 = .ok (.ireturn, 1) := by decide +kernel
theorem d_Dr_joinToRow_29 : decode b_Dr_joinToRow 29 = .ok (.aload_n 0, 1) := by decide +kernel
theorem d_Dr_joinToRow_30 : decode b_Dr_joinToRow 30 = .ok (.iload_n 2, 1) := by decide +kernel
theorem d_Dr_joinToRow_31 : decode b_Dr_joinToRow 31 = .ok (.iload_n 1, 1) := by decide +kernel
theorem d_Dr_joinToRow_32 : decode b_Dr_joinToRow 32 = .ok (.invokevirtual 52, 3) := by decide +kernel
theorem d_Dr_joinToRow_35 : decode b_Dr_joinToRow 35 = .ok (.aload_n 0, 1) := by decide +kernel
theorem d_Dr_joinToRow_36 : decode b_Dr_joinToRow 36 = .ok (.getfield 30, 3) := by decide +kernel
theorem d_Dr_joinToRow_39 : decode b_Dr_joinToRow 39 = .ok (.iload_n 2, 1) := by decide +kernel
theorem d_Dr_joinToRow_40 : decode b_Dr_joinToRow 40 = .ok (.baload, 1) := by decide +kernel
theorem d_Dr_joinToRow_41 : decode b_Dr_joinToRow 41 = .ok (.ifCond .eq 16, 3) := by decide +kernel
theorem d_Dr_joinToRow_44 : decode b_Dr_joinToRow 44 = .ok (.aload_n 0, 1) := by decide +kernel
theorem d_Dr_joinToRow_45 : decode b_Dr_joinToRow 45 = .ok (.getfield 24, 3) := by decide +kernel
theorem d_Dr_joinToRow_48 : decode b_Dr_joinToRow 48 = .ok (.iload_n 2, 1) := by decide +kernel
theorem d_Dr_joinToRow_49 : decode b_Dr_joinToRow 49 = .ok (.aload_n 0, 1) := by decide +kernel
theorem d_Dr_joinToRow_50 : decode b_Dr_joinToRow 50 = .ok (.getfield 24, 3) := by decide +kernel
theorem d_Dr_joinToRow_53 : decode b_Dr_joinToRow 53 = .ok (.iload_n 1, 1) := by decide +kernel
theorem d_Dr_joinToRow_54 : decode b_Dr_joinToRow 54 = .ok (.invokevirtual 55, 3) := by decide +kernel
theorem d_Dr_joinToRow_57 : decode b_Dr_joinToRow 57 = .ok (.aload_n 0, 1) := by decide +kernel
theorem d_Dr_joinToRow_58 : decode b_Dr_joinToRow 58 = .ok (.getfield 30, 3) := by decide +kernel
theorem d_Dr_joinToRow_61 : decode b_Dr_joinToRow 61 = .ok (.iload_n 1, 1) := by decide +kernel
theorem d_Dr_joinToRow_62 : decode b_Dr_joinToRow 62 = .ok (.baload, 1) := by decide +kernel
theorem d_Dr_joinToRow_63 : decode b_Dr_joinToRow 63 = .ok (.ifCond .ne 11, 3) := by decide +kernel
theorem d_Dr_joinToRow_66 : decode b_Dr_joinToRow 66 = .ok (.aload_n 0, 1) := by decide +kernel
theorem d_Dr_joinToRow_67 : decode b_Dr_joinToRow 67 = .ok (.getfield 27, 3) := by decide +kernel
theorem d_Dr_joinToRow_70 : decode b_Dr_joinToRow 70 = .ok (.iload_n 2, 1) := by decide +kernel
theorem d_Dr_joinToRow_71 : decode b_Dr_joinToRow 71 = .ok (.invokevirtual 41, 3) := by decide +kernel
theorem d_Dr_joinToRow_74 : decode b_Dr_joinToRow 74 = .ok (.aload_n 0, 1) := by decide +kernel
theorem d_Dr_joinToRow_75 : decode b_Dr_joinToRow 75 = .ok (.getfield 27, 3) := by decide +kernel
theorem d_Dr_joinToRow_78 : decode b_Dr_joinToRow 78 = .ok (.iload_n 2, 1) := by decide +kernel
theorem d_Dr_joinToRow_79 : decode b_Dr_joinToRow 79 = .ok (.aload_n 0, 1) := by decide +kernel
theorem d_Dr_joinToRow_80 : decode b_Dr_joinToRow 80 = .ok (.getfield 27, 3) := by decide +kernel
theorem d_Dr_joinToRow_83 : decode b_Dr_joinToRow 83 = .ok (.iload_n 1, 1) := by decide +kernel
theorem d_Dr_joinToRow_84 : decode b_Dr_joinToRow 84 = .ok (.invokevirtual 55, 3) := by decide +kernel
theorem d_Dr_joinToRow_87 : decode b_Dr_joinToRow 87 = .ok (.aload_n 0, 1) := by decide +kernel
theorem d_Dr_joinToRow_88 : decode b_Dr_joinToRow 88 = .ok (.getfield 30, 3) := by decide +kernel
theorem d_Dr_joinToRow_91 : decode b_Dr_joinToRow 91 = .ok (.iload_n 2, 1) := by decide +kernel
theorem d_Dr_joinToRow_92 : decode b_Dr_joinToRow 92 = .ok (.aload_n 0, 1) := by decide +kernel
theorem d_Dr_joinToRow_93 : decode b_Dr_joinToRow 93 = .ok (.getfield 30, 3) := by decide +kernel
theorem d_Dr_joinToRow_96 : decode b_Dr_joinToRow 96 = .ok (.iload_n 2, 1) := by decide +kernel
theorem d_Dr_joinToRow_97 : decode b_Dr_joinToRow 97 = .ok (.baload, 1) := by decide +kernel
theorem d_Dr_joinToRow_98 : decode b_Dr_joinToRow 98 = .ok (.ifCond .eq 16, 3) := by decide +kernel
theorem d_Dr_joinToRow_101 : decode b_Dr_joinToRow 101 = .ok (.aload_n 0, 1) := by decide +kernel
theorem d_Dr_joinToRow_102 : decode b_Dr_joinToRow 102 = .ok (.getfield 30, 3) := by decide +kernel
theorem d_Dr_joinToRow_105 : decode b_Dr_joinToRow 105 = .ok (.iload_n 1, 1) := by decide +kernel
theorem d_Dr_joinToRow_106 : decode b_Dr_joinToRow 106 = .ok (.baload, 1) := by decide +kernel
theorem d_Dr_joinToRow_107 : decode b_Dr_joinToRow 107 = .ok (.ifCond .eq 7, 3) := by decide +kernel
theorem d_Dr_joinToRow_110 : decode b_Dr_joinToRow 110 = .ok (.iconst 1, 1) := by decide +kernel
theorem d_Dr_joinToRow_111 : decode b_Dr_joinToRow 111 = .ok (.goto 4, 3) := by decide +kernel
theorem d_Dr_joinToRow_114 : decode b_Dr_joinToRow 114 = .ok (.iconst 0, 1) := by decide +kernel
theorem d_Dr_joinToRow_115 : decode b_Dr_joinToRow 115 = .ok (.bastore, 1) := by decide +kernel
theorem d_Dr_joinToRow_116 : decode b_Dr_joinToRow 116 = .ok (.aload_n 0, 1) := by decide +kernel
theorem d_Dr_joinToRow_117 : decode b_Dr_joinToRow 117 = .ok (.iload_n 1, 1) := by decide +kernel
theorem d_Dr_joinToRow_118 : decode b_Dr_joinToRow 118 = .ok (.putfield 34, 3) := by decide +kernel
theorem d_Dr_joinToRow_121 : decode b_Dr_joinToRow 121 = .ok (.iconst 1, 1) := by decide +kernel
theorem d_Dr_joinToRow_122 : decode b_Dr_joinToRow 122 = .ok (.ireturn, 1) := by decide +kernel
theorem d_Dr_joinToChoice_0 : decode b_Dr_joinToChoice 0 = .ok (.aload_n 0, 1) := by decide +kernel
theorem d_Dr_joinToChoice_1 : decode b_Dr_joinToChoice 1 = .ok (.getfield 34, 3) := by decide +kernel
theorem d_Dr_joinToChoice_4 : decode b_Dr_joinToChoice 4 = .ok (.iconst 1, 1) := by decide +kernel
theorem d_Dr_joinToChoice_5 : decode b_Dr_joinToChoice 5 = .ok (.isub, 1) := by decide +kernel
theorem d_Dr_joinToChoice_6 : decode b_Dr_joinToChoice 6 = .ok (.istore_n 1, 1) := by decide +kernel
theorem d_Dr_joinToChoice_7 : decode b_Dr_joinToChoice 7 = .ok (.iload_n 1, 1) := by decide +kernel
theorem d_Dr_joinToChoice_8 : decode b_Dr_joinToChoice 8 = .ok (.iconst 1, 1) := by decide +kernel
theorem d_Dr_joinToChoice_9 : decode b_Dr_joinToChoice 9 = .ok (.isub, 1) := by decide +kernel
theorem d_Dr_joinToChoice_10 : decode b_Dr_joinToChoice 10 = .ok (.istore_n 2, 1) := by decide +kernel
theorem d_Dr_joinToChoice_11 : decode b_Dr_joinToChoice 11 = .ok (.aload_n 0, 1) := by decide +kernel
theorem d_Dr_joinToChoice_12 : decode b_Dr_joinToChoice 12 = .ok (.iload_n 2, 1) := by decide +kernel
theorem d_Dr_joinToChoice_13 : decode b_Dr_joinToChoice 13 = .ok (.invokevirtual 48, 3) := by decide +kernel
theorem d_Dr_joinToChoice_16 : decode b_Dr_joinToChoice 16 = .ok (.ifCond .eq 11, 3) := by decide +kernel
theorem d_Dr_joinToChoice_19 : decode b_Dr_joinToChoice 19 = .ok (.aload_n 0, 1) := by decide +kernel
theorem d_Dr_joinToChoice_20 : decode b_Dr_joinToChoice 20 = .ok (.iload_n 1, 1) := by decide +kernel
theorem d_Dr_joinToChoice_21 : decode b_Dr_joinToChoice 21 = .ok (.invokevirtual 48, 3) := by decide +kernel
theorem d_Dr_joinToChoice_24 : decode b_Dr_joinToChoice 24 = .ok (.ifCond .ne 5, 3) := by decide +kernel
theorem d_Dr_joinToChoice_27 : decode b_Dr_joinToChoice 27 = .ok (.iconst 0, 1) := by decide +kernel
theorem d_Dr_joinToChoice_28 : decode b_Dr_joinToChoice 28 = .ok (.ireturn, 1) := by decide +kernel
theorem d_Dr_joinToChoice_29 : decode b_Dr_joinToChoice 29 = .ok (.aload_n 0, 1) := by decide +kernel
theorem d_Dr_joinToChoice_30 : decode b_Dr_joinToChoice 30 = .ok (.getfield 24, 3) := by decide +kernel
theorem d_Dr_joinToChoice_33 : decode b_Dr_joinToChoice 33 = .ok (.iload_n 2, 1) := by decide +kernel
theorem d_Dr_joinToChoice_34 : decode b_Dr_joinToChoice 34 = .ok (.aload_n 0, 1) := by decide +kernel
theorem d_Dr_joinToChoice_35 : decode b_Dr_joinToChoice 35 = .ok (.getfield 24, 3) := by decide +kernel
theorem d_Dr_joinToChoice_38 : decode b_Dr_joinToChoice 38 = .ok (.iload_n 1, 1) := by decide +kernel
theorem d_Dr_joinToChoice_39 : decode b_Dr_joinToChoice 39 = .ok (.invokevirtual 55, 3) := by decide +kernel
theorem d_Dr_joinToChoice_42 : decode b_Dr_joinToChoice 42 = .ok (.aload_n 0, 1) := by decide +kernel
theorem d_Dr_joinToChoice_43 : decode b_Dr_joinToChoice 43 = .ok (.getfield 27, 3) := by decide +kernel
theorem d_Dr_joinToChoice_46 : decode b_Dr_joinToChoice 46 = .ok (.iload_n 2, 1) := by decide +kernel
theorem d_Dr_joinToChoice_47 : decode b_Dr_joinToChoice 47 = .ok (.aload_n 0, 1) := by decide +kernel
theorem d_Dr_joinToChoice_48 : decode b_Dr_joinToChoice 48 = .ok (.getfield 27, 3) := by decide +kernel
theorem d_Dr_joinToChoice_51 : decode b_Dr_joinToChoice 51 = .ok (.iload_n 1, 1) := by decide +kernel
theorem d_Dr_joinToChoice_52 : decode b_Dr_joinToChoice 52 = .ok (.invokevirtual 55, 3) := by decide +kernel
theorem d_Dr_joinToChoice_55 : decode b_Dr_joinToChoice 55 = .ok (.aload_n 0, 1) := by decide +kernel
theorem d_Dr_joinToChoice_56 : decode b_Dr_joinToChoice 56 = .ok (.getfield 30, 3) := by decide +kernel
theorem d_Dr_joinToChoice_59 : decode b_Dr_joinToChoice 59 = .ok (.iload_n 2, 1) := by decide +kernel
theorem d_Dr_joinToChoice_60 : decode b_Dr_joinToChoice 60 = .ok (.aload_n 0, 1) := by decide +kernel
theorem d_Dr_joinToChoice_61 : decode b_Dr_joinToChoice 61 = .ok (.getfield 30, 3) := by decide +kernel
theorem d_Dr_joinToChoice_64 : decode b_Dr_joinToChoice 64 = .ok (.iload_n 2, 1) := by decide +kernel
theorem d_Dr_joinToChoice_65 : decode b_Dr_joinToChoice 65 = .ok (.baload, 1) := by decide +kernel
theorem d_Dr_joinToChoice_66 : decode b_Dr_joinToChoice 66 = .ok (.ifCond .ne 12, 3) := by decide +kernel
theorem d_Dr_joinToChoice_69 : decode b_Dr_joinToChoice 69 = .ok (.aload_n 0, 1) := by decide +kernel
theorem d_Dr_joinToChoice_70 : decode b_Dr_joinToChoice 70 = .ok (.getfield 30, 3) := by decide +kernel
theorem d_Dr_joinToChoice_73 : decode b_Dr_joinToChoice 73 = .ok (.iload_n 1, 1) := by decide +kernel
theorem d_Dr_joinToChoice_74 : decode b_Dr_joinToChoice 74 = .ok (.baload, 1) := by decide +kernel
theorem d_Dr_joinToChoice_75 : decode b_Dr_joinToChoice 75 = .ok (.ifCond .eq 7, 3) := by decide +kernel
theorem d_Dr_joinToChoice_78 : decode b_Dr_joinToChoice 78 = .ok (.iconst 1, 1) := by decide +kernel
theorem d_Dr_joinToChoice_79 : decode b_Dr_joinToChoice 79 = .ok (.goto 4, 3) := by decide +kernel
theorem d_Dr_joinToChoice_82 : decode b_Dr_joinToChoice 82 = .ok (.iconst 0, 1) := by decide +kernel
theorem d_Dr_joinToChoice_83 : decode b_Dr_joinToChoice 83 = .ok (.bastore, 1) := by decide +kernel
theorem d_Dr_joinToChoice_84 : decode b_Dr_joinToChoice 84 = .ok (.aload_n 0, 1) := by decide +kernel
theorem d_Dr_joinToChoice_85 : decode b_Dr_joinToChoice 85 = .ok (.iload_n 1, 1) := by decide +kernel
theorem d_Dr_joinToChoice_86 : decode b_Dr_joinToChoice 86 = .ok (.putfield 34, 3) := by decide +kernel
theorem d_Dr_joinToChoice_89 : decode b_Dr_joinToChoice 89 = .ok (.iconst 1, 1) := by decide +kernel
theorem d_Dr_joinToChoice_90 : decode b_Dr_joinToChoice 90 = .ok (.ireturn, 1) := by decide +kernel
theorem d_Dr_repeatLast_0 : decode b_Dr_repeatLast 0 = .ok (.aload_n 0, 1) := by decide +kernel
theorem d_Dr_repeatLast_1 : decode b_Dr_repeatLast 1 = .ok (.getfield 34, 3) := by decide +kernel
theorem d_Dr_repeatLast_4 : decode b_Dr_repeatLast 4 = .ok (.iconst 1, 1) := by decide +kernel
theorem d_Dr_repeatLast_5 : decode b_Dr_repeatLast 5 = .ok (.isub, 1) := by decide +kernel
theorem d_Dr_repeatLast_6 : decode b_Dr_repeatLast 6 = .ok (.istore_n 2, 1) := by decide +kernel
theorem d_Dr_repeatLast_7 : decode b_Dr_repeatLast 7 = .ok (.aload_n 0, 1) := by decide +kernel
theorem d_Dr_repeatLast_8 : decode b_Dr_repeatLast 8 = .ok (.iload_n 2, 1) := by decide +kernel
theorem d_Dr_repeatLast_9 : decode b_Dr_repeatLast 9 = .ok (.invokevirtual 48, 3) := by decide +kernel
theorem d_Dr_repeatLast_12 : decode b_Dr_repeatLast 12 = .ok (.ifCond .eq 13, 3) := by decide +kernel
theorem d_Dr_repeatLast_15 : decode b_Dr_repeatLast 15 = .ok (.iload_n 1, 1) := by decide +kernel
theorem d_Dr_repeatLast_16 : decode b_Dr_repeatLast 16 = .ok (.iconst 1, 1) := by decide +kernel
theorem d_Dr_repeatLast_17 : decode b_Dr_repeatLast 17 = .ok (.if_icmp .lt 8, 3) := by decide +kernel
theorem d_Dr_repeatLast_20 : decode b_Dr_repeatLast 20 = .ok (.iload_n 1, 1) := by decide +kernel
theorem d_Dr_repeatLast_21 : decode b_Dr_repeatLast 21 = .ok (.iconst 3, 1) := by decide +kernel
theorem d_Dr_repeatLast_22 : decode b_Dr_repeatLast 22 = .ok (.if_icmp .le 5, 3) := by decide +kernel
theorem d_Dr_repeatLast_25 : decode b_Dr_repeatLast 25 = .ok (.iconst 0, 1) := by decide +kernel
theorem d_Dr_repeatLast_26 : decode b_Dr_repeatLast 26 = .ok (.ireturn, 1) := by decide +kernel
theorem d_Dr_repeatLast_27 : decode b_Dr_repeatLast 27 = .ok (.iload_n 1, 1) := by decide +kernel
theorem d_Dr_repeatLast_28 : decode b_Dr_repeatLast 28 = .ok (.iconst 2, 1) := by decide +kernel
theorem d_Dr_repeatLast_29 : decode b_Dr_repeatLast 29 = .ok (.if_icmp .eq 8, 3) := by decide +kernel
theorem d_Dr_repeatLast_32 : decode b_Dr_repeatLast 32 = .ok (.iload_n 1, 1) := by decide +kernel
theorem d_Dr_repeatLast_33 : decode b_Dr_repeatLast 33 = .ok (.iconst 3, 1) := by decide +kernel
theorem d_Dr_repeatLast_34 : decode b_Dr_repeatLast 34 = .ok (.if_icmp .ne 9, 3) := by decide +kernel
theorem d_Dr_repeatLast_37 : decode b_Dr_repeatLast 37 = .ok (.aload_n 0, 1) := by decide +kernel
theorem d_Dr_repeatLast_38 : decode b_Dr_repeatLast 38 = .ok (.iload_n 2, 1) := by decide +kernel
theorem d_Dr_repeatLast_39 : decode b_Dr_repeatLast 39 = .ok (.iload_n 2, 1) := by decide +kernel
theorem d_Dr_repeatLast_40 : decode b_Dr_repeatLast 40 = .ok (.invokevirtual 52, 3) := by decide +kernel
theorem d_Dr_repeatLast_43 : decode b_Dr_repeatLast 43 = .ok (.iload_n 1, 1) := by decide +kernel
theorem d_Dr_repeatLast_44 : decode b_Dr_repeatLast 44 = .ok (.iconst 1, 1) := by decide +kernel
theorem d_Dr_repeatLast_45 : decode b_Dr_repeatLast 45 = .ok (.if_icmp .eq 8, 3) := by decide +kernel
theorem d_Dr_repeatLast_48 : decode b_Dr_repeatLast 48 = .ok (.iload_n 1, 1) := by decide +kernel
theorem d_Dr_repeatLast_49 : decode b_Dr_repeatLast 49 = .ok (.iconst 2, 1) := by decide +kernel
theorem d_Dr_repeatLast_50 : decode b_Dr_repeatLast 50 = .ok (.if_icmp .ne 10, 3) := by decide +kernel
theorem d_Dr_repeatLast_53 : decode b_Dr_repeatLast 53 = .ok (.aload_n 0, 1) := by decide +kernel
theorem d_Dr_repeatLast_54 : decode b_Dr_repeatLast 54 = .ok (.getfield 30, 3) := by decide +kernel
theorem d_Dr_repeatLast_57 : decode b_Dr_repeatLast 57 = .ok (.iload_n 2, 1) := by decide +kernel
theorem d_Dr_repeatLast_58 : decode b_Dr_repeatLast 58 = .ok (.iconst 1, 1) := by decide +kernel
theorem d_Dr_repeatLast_59 : decode b_Dr_repeatLast 59 = .ok (.bastore, 1) := by decide +kernel
theorem d_Dr_repeatLast_60 : decode b_Dr_repeatLast 60 = .ok (.iconst 1, 1) := by decide +kernel
theorem d_Dr_repeatLast_61 : decode b_Dr_repeatLast 61 = .ok (.ireturn, 1) := by decide +kernel
theorem d_Dr_letFollow_0 : decode b_Dr_letFollow 0 = .ok (.iconst 0, 1) := by decide +kernel
theorem d_Dr_letFollow_1 : decode b_Dr_letFollow 1 = .ok (.istore_n 3, 1) := by decide +kernel
theorem d_Dr_letFollow_2 : decode b_Dr_letFollow 2 = .ok (.iload_n 3, 1) := by decide +kernel
theorem d_Dr_letFollow_3 : decode b_Dr_letFollow 3 = .ok (.aload_n 0, 1) := by decide +kernel
theorem d_Dr_letFollow_4 : decode b_Dr_letFollow 4 = .ok (.getfield 38, 3) := by decide +kernel
theorem d_Dr_letFollow_7 : decode b_Dr_letFollow 7 = .ok (.if_icmp .ge 34, 3) := by decide +kernel
theorem d_Dr_letFollow_10 : decode b_Dr_letFollow 10 = .ok (.aload_n 0, 1) := by decide +kernel
theorem d_Dr_letFollow_11 : decode b_Dr_letFollow 11 = .ok (.getfield 27, 3) := by decide +kernel
theorem d_Dr_letFollow_14 : decode b_Dr_letFollow 14 = .ok (.iload_n 1, 1) := by decide +kernel
theorem d_Dr_letFollow_15 : decode b_Dr_letFollow 15 = .ok (.iload_n 3, 1) := by decide +kernel
theorem d_Dr_letFollow_16 : decode b_Dr_letFollow 16 = .ok (.invokevirtual 59, 3) := by decide +kernel
theorem d_Dr_letFollow_19 : decode b_Dr_letFollow 19 = .ok (.ifCond .eq 16, 3) := by decide +kernel
theorem d_Dr_letFollow_22 : decode b_Dr_letFollow 22 = .ok (.aload_n 0, 1) := by decide +kernel
theorem d_Dr_letFollow_23 : decode b_Dr_letFollow 23 = .ok (.getfield 20, 3) := by decide +kernel
theorem d_Dr_letFollow_26 : decode b_Dr_letFollow 26 = .ok (.iload_n 3, 1) := by decide +kernel
theorem d_Dr_letFollow_27 : decode b_Dr_letFollow 27 = .ok (.aload_n 0, 1) := by decide +kernel
theorem d_Dr_letFollow_28 : decode b_Dr_letFollow 28 = .ok (.getfield 24, 3) := by decide +kernel
theorem d_Dr_letFollow_31 : decode b_Dr_letFollow 31 = .ok (.iload_n 2, 1) := by decide +kernel
theorem d_Dr_letFollow_32 : decode b_Dr_letFollow 32 = .ok (.invokevirtual 55, 3) := by decide +kernel
theorem d_Dr_letFollow_35 : decode b_Dr_letFollow 35 = .ok (.iinc 3 1, 3) := by decide +kernel
theorem d_Dr_letFollow_38 : decode b_Dr_letFollow 38 = .ok (.goto (-36), 3) := by decide +kernel
theorem d_Dr_letFollow_41 : decode b_Dr_letFollow 41 = .ok (.return_, 1) := by decide +kernel
theorem d_Dr_dropAll_0 : decode b_Dr_dropAll 0 = .ok (.aload_n 0, 1) := by decide +kernel
theorem d_Dr_dropAll_1 : decode b_Dr_dropAll 1 = .ok (.iconst 0, 1) := by decide +kernel
theorem d_Dr_dropAll_2 : decode b_Dr_dropAll 2 = .ok (.putfield 38, 3) := by decide +kernel
theorem d_Dr_dropAll_5 : decode b_Dr_dropAll 5 = .ok (.aload_n 0, 1) := by decide +kernel
theorem d_Dr_dropAll_6 : decode b_Dr_dropAll 6 = .ok (.iconst 0, 1) := by decide +kernel
theorem d_Dr_dropAll_7 : decode b_Dr_dropAll 7 = .ok (.putfield 34, 3) := by decide +kernel
theorem d_Dr_dropAll_10 : decode b_Dr_dropAll 10 = .ok (.return_, 1) := by decide +kernel
theorem d_Dr_toModel_0 : decode b_Dr_toModel 0 = .ok (.aload_n 0, 1) := by decide +kernel
theorem d_Dr_toModel_1 : decode b_Dr_toModel 1 = .ok (.getfield 38, 3) := by decide +kernel
theorem d_Dr_toModel_4 : decode b_Dr_toModel 4 = .ok (.iconst 0, 1) := by decide +kernel
theorem d_Dr_toModel_5 : decode b_Dr_toModel 5 = .ok (.invokestatic 63, 3) := by decide +kernel
theorem d_Dr_toModel_8 : decode b_Dr_toModel 8 = .ok (.newarray .int, 2) := by decide +kernel
theorem d_Dr_toModel_10 : decode b_Dr_toModel 10 = .ok (.astore_n 1, 1) := by decide +kernel
theorem d_Dr_toModel_11 : decode b_Dr_toModel 11 = .ok (.new 15, 3) := by decide +kernel
theorem d_Dr_toModel_14 : decode b_Dr_toModel 14 = .ok (.dup, 1) := by decide +kernel
theorem d_Dr_toModel_15 : decode b_Dr_toModel 15 = .ok (.aload_n 0, 1) := by decide +kernel
theorem d_Dr_toModel_16 : decode b_Dr_toModel 16 = .ok (.getfield 38, 3) := by decide +kernel
theorem d_Dr_toModel_19 : decode b_Dr_toModel 19 = .ok (.iconst 1, 1) := by decide +kernel
theorem d_Dr_toModel_20 : decode b_Dr_toModel 20 = .ok (.iadd, 1) := by decide +kernel
theorem d_Dr_toModel_21 : decode b_Dr_toModel 21 = .ok (.invokespecial 17, 3) := by decide +kernel
theorem d_Dr_toModel_24 : decode b_Dr_toModel 24 = .ok (.astore_n 2, 1) := by decide +kernel
theorem d_Dr_toModel_25 : decode b_Dr_toModel 25 = .ok (.iconst 0, 1) := by decide +kernel
theorem d_Dr_toModel_26 : decode b_Dr_toModel 26 = .ok (.istore_n 3, 1) := by decide +kernel
theorem d_Dr_toModel_27 : decode b_Dr_toModel 27 = .ok (.iload_n 3, 1) := by decide +kernel
theorem d_Dr_toModel_28 : decode b_Dr_toModel 28 = .ok (.aload_n 1, 1) := by decide +kernel
theorem d_Dr_toModel_29 : decode b_Dr_toModel 29 = .ok (.arraylength, 1) := by decide +kernel
theorem d_Dr_toModel_30 : decode b_Dr_toModel 30 = .ok (.if_icmp .ge 61, 3) := by decide +kernel
theorem d_Dr_toModel_33 : decode b_Dr_toModel 33 = .ok (.iload_n 3, 1) := by decide +kernel
theorem d_Dr_toModel_34 : decode b_Dr_toModel 34 = .ok (.aload_n 0, 1) := by decide +kernel
theorem d_Dr_toModel_35 : decode b_Dr_toModel 35 = .ok (.getfield 9, 3) := by decide +kernel
theorem d_Dr_toModel_38 : decode b_Dr_toModel 38 = .ok (.arraylength, 1) := by decide +kernel
theorem d_Dr_toModel_39 : decode b_Dr_toModel 39 = .ok (.if_icmp .ge 52, 3) := by decide +kernel
theorem d_Dr_toModel_42 : decode b_Dr_toModel 42 = .ok (.aload_n 1, 1) := by decide +kernel
theorem d_Dr_toModel_43 : decode b_Dr_toModel 43 = .ok (.iload_n 3, 1) := by decide +kernel
theorem d_Dr_toModel_44 : decode b_Dr_toModel 44 = .ok (.aload_n 0, 1) := by decide +kernel
theorem d_Dr_toModel_45 : decode b_Dr_toModel 45 = .ok (.getfield 9, 3) := by decide +kernel
theorem d_Dr_toModel_48 : decode b_Dr_toModel 48 = .ok (.iload_n 3, 1) := by decide +kernel
theorem d_Dr_toModel_49 : decode b_Dr_toModel 49 = .ok (.iaload, 1) := by decide +kernel
theorem d_Dr_toModel_50 : decode b_Dr_toModel 50 = .ok (.iload_n 3, 1) := by decide +kernel
theorem d_Dr_toModel_51 : decode b_Dr_toModel 51 = .ok (.invokestatic 69, 3) := by decide +kernel
theorem d_Dr_toModel_54 : decode b_Dr_toModel 54 = .ok (.iastore, 1) := by decide +kernel
theorem d_Dr_toModel_55 : decode b_Dr_toModel 55 = .ok (.aload_n 2, 1) := by decide +kernel
theorem d_Dr_toModel_56 : decode b_Dr_toModel 56 = .ok (.iload_n 3, 1) := by decide +kernel
theorem d_Dr_toModel_57 : decode b_Dr_toModel 57 = .ok (.aload_n 0, 1) := by decide +kernel
theorem d_Dr_toModel_58 : decode b_Dr_toModel 58 = .ok (.getfield 20, 3) := by decide +kernel
theorem d_Dr_toModel_61 : decode b_Dr_toModel 61 = .ok (.iload_n 3, 1) := by decide +kernel
theorem d_Dr_toModel_62 : decode b_Dr_toModel 62 = .ok (.invokevirtual 55, 3) := by decide +kernel
theorem d_Dr_toModel_65 : decode b_Dr_toModel 65 = .ok (.aload_n 0, 1) := by decide +kernel
theorem d_Dr_toModel_66 : decode b_Dr_toModel 66 = .ok (.getfield 27, 3) := by decide +kernel
theorem d_Dr_toModel_69 : decode b_Dr_toModel 69 = .ok (.iconst 0, 1) := by decide +kernel
