theorem d_QF_init_0 : decode b_QF_init 0 = .ok (.aload_n 0, 1) := by decide +kernel
theorem d_QF_init_1 : decode b_QF_init 1 = .ok (.invokespecial 3, 3) := by decide +kernel
theorem d_QF_init_4 : decode b_QF_init 4 = .ok (.aload_n 0, 1) := by decide +kernel
theorem d_QF_init_5 : decode b_QF_init 5 = .ok (.new 9, 3) := by decide +kernel
theorem d_QF_init_8 : decode b_QF_init 8 = .ok (.dup, 1) := by decide +kernel
theorem d_QF_init_9 : decode b_QF_init 9 = .ok (.invokespecial 11, 3) := by decide +kernel
theorem d_QF_init_12 : decode b_QF_init 12 = .ok (.putfield 12, 3) := by decide +kernel
theorem d_QF_init_15 : decode b_QF_init 15 = .ok (.aload_n 0, 1) := by decide +kernel
theorem d_QF_init_16 : decode b_QF_init 16 = .ok (.aload_n 0, 1) := by decide +kernel
theorem d_QF_init_17 : decode b_QF_init 17 = .ok (.getfield 12, 3) := by decide +kernel
theorem d_QF_init_20 : decode b_QF_init 20 = .ok (.getfield 16, 3) := by decide +kernel
theorem d_QF_init_23 : decode b_QF_init 23 = .ok (.putfield 20, 3) := by decide +kernel
theorem d_QF_init_26 : decode b_QF_init 26 = .ok (.aload_n 0, 1) := by decide +kernel
theorem d_QF_init_27 : decode b_QF_init 27 = .ok (.aload_n 0, 1) := by decide +kernel
theorem d_QF_init_28 : decode b_QF_init 28 = .ok (.getfield 12, 3) := by decide +kernel
theorem d_QF_init_31 : decode b_QF_init 31 = .ok (.getfield 21, 3) := by decide +kernel
theorem d_QF_init_34 : decode b_QF_init 34 = .ok (.putfield 25, 3) := by decide +kernel
theorem d_QF_init_37 : decode b_QF_init 37 = .ok (.aload_n 0, 1) := by decide +kernel
theorem d_QF_init_38 : decode b_QF_init 38 = .ok (.new 26, 3) := by decide +kernel
theorem d_QF_init_41 : decode b_QF_init 41 = .ok (.dup, 1) := by decide +kernel
theorem d_QF_init_42 : decode b_QF_init 42 = .ok (.invokespecial 28, 3) := by decide +kernel
theorem d_QF_init_45 : decode b_QF_init 45 = .ok (.putfield 29, 3) := by decide +kernel
theorem d_QF_init_48 : decode b_QF_init 48 = .ok (.aload_n 0, 1) := by decide +kernel
theorem d_QF_init_49 : decode b_QF_init 49 = .ok (.new 33, 3) := by decide +kernel
theorem d_QF_init_52 : decode b_QF_init 52 = .ok (.dup, 1) := by decide +kernel
theorem d_QF_init_53 : decode b_QF_init 53 = .ok (.invokespecial 35, 3) := by decide +kernel
theorem d_QF_init_56 : decode b_QF_init 56 = .ok (.putfield 36, 3) := by decide +kernel
theorem d_QF_init_59 : decode b_QF_init 59 = .ok (.return_, 1) := by decide +kernel
theorem d_QF_row_0 : decode b_QF_row 0 = .ok (.aload_n 0, 1) := by decide +kernel
theorem d_QF_row_1 : decode b_QF_row 1 = .ok (.getfield 36, 3) := by decide +kernel
theorem d_QF_row_4 : decode b_QF_row 4 = .ok (.getfield 40, 3) := by decide +kernel
theorem d_QF_row_7 : decode b_QF_row 7 = .ok (.ifCond .ne 20, 3) := by decide +kernel
theorem d_QF_row_10 : decode b_QF_row 10 = .ok (.iload_n 1, 1) := by decide +kernel
theorem d_QF_row_11 : decode b_QF_row 11 = .ok (.iconst 3, 1) := by decide +kernel
theorem d_QF_row_12 : decode b_QF_row 12 = .ok (.invokestatic 44, 3) := by decide +kernel
theorem d_QF_row_15 : decode b_QF_row 15 = .ok (.ifCond .eq 12, 3) := by decide +kernel
theorem d_QF_row_18 : decode b_QF_row 18 = .ok (.iload 4, 2) := by decide +kernel
theorem d_QF_row_20 : decode b_QF_row 20 = .ok (.iconst 4, 1) := by decide +kernel
theorem d_QF_row_21 : decode b_QF_row 21 = .ok (.invokestatic 44, 3) := by decide +kernel
theorem d_QF_row_24 : decode b_QF_row 24 = .ok (.ifCond .ne 5, 3) := by decide +kernel
theorem d_QF_row_27 : decode b_QF_row 27 = .ok (.iconst (-1), 1) := by decide +kernel
theorem d_QF_row_28 : decode b_QF_row 28 = .ok (.ireturn, 1) := by decide +kernel
theorem d_QF_row_29 : decode b_QF_row 29 = .ok (.aload_n 0, 1) := by decide +kernel
theorem d_QF_row_30 : decode b_QF_row 30 = .ok (.getfield 20, 3) := by decide +kernel
theorem d_QF_row_33 : decode b_QF_row 33 = .ok (.iload_n 1, 1) := by decide +kernel
theorem d_QF_row_34 : decode b_QF_row 34 = .ok (.aaload, 1) := by decide +kernel
theorem d_QF_row_35 : decode b_QF_row 35 = .ok (.iload_n 2, 1) := by decide +kernel
theorem d_QF_row_36 : decode b_QF_row 36 = .ok (.iload_n 3, 1) := by decide +kernel
theorem d_QF_row_37 : decode b_QF_row 37 = .ok (.iload 4, 2) := by decide +kernel
theorem d_QF_row_39 : decode b_QF_row 39 = .ok (.invokevirtual 48, 3) := by decide +kernel
theorem d_QF_row_42 : decode b_QF_row 42 = .ok (.ireturn, 1) := by decide +kernel
theorem d_QF_from_0 : decode b_QF_from 0 = .ok (.aload_n 0, 1) := by decide +kernel
theorem d_QF_from_1 : decode b_QF_from 1 = .ok (.getfield 36, 3) := by decide +kernel
theorem d_QF_from_4 : decode b_QF_from 4 = .ok (.getfield 40, 3) := by decide +kernel
theorem d_QF_from_7 : decode b_QF_from 7 = .ok (.ifCond .ne 19, 3) := by decide +kernel
theorem d_QF_from_10 : decode b_QF_from 10 = .ok (.iload_n 1, 1) := by decide +kernel
theorem d_QF_from_11 : decode b_QF_from 11 = .ok (.iconst 3, 1) := by decide +kernel
theorem d_QF_from_12 : decode b_QF_from 12 = .ok (.invokestatic 44, 3) := by decide +kernel
theorem d_QF_from_15 : decode b_QF_from 15 = .ok (.ifCond .eq 11, 3) := by decide +kernel
theorem d_QF_from_18 : decode b_QF_from 18 = .ok (.iload_n 2, 1) := by decide +kernel
theorem d_QF_from_19 : decode b_QF_from 19 = .ok (.iconst 3, 1) := by decide +kernel
theorem d_QF_from_20 : decode b_QF_from 20 = .ok (.invokestatic 44, 3) := by decide +kernel
theorem d_QF_from_23 : decode b_QF_from 23 = .ok (.ifCond .ne 5, 3) := by decide +kernel
theorem d_QF_from_26 : decode b_QF_from 26 = .ok (.iconst 0, 1) := by decide +kernel
theorem d_QF_from_27 : decode b_QF_from 27 = .ok (.ireturn, 1) := by decide +kernel
theorem d_QF_from_28 : decode b_QF_from 28 = .ok (.iload_n 1, 1) := by decide +kernel
theorem d_QF_from_29 : decode b_QF_from 29 = .ok (.ifCond .ne 17, 3) := by decide +kernel
theorem d_QF_from_32 : decode b_QF_from 32 = .ok (.aload_n 0, 1) := by decide +kernel
theorem d_QF_from_33 : decode b_QF_from 33 = .ok (.getfield 25, 3) := by decide +kernel
theorem d_QF_from_36 : decode b_QF_from 36 = .ok (.iload_n 1, 1) := by decide +kernel
theorem d_QF_from_37 : decode b_QF_from 37 = .ok (.iload_n 2, 1) := by decide +kernel
theorem d_QF_from_38 : decode b_QF_from 38 = .ok (.iload_n 2, 1) := by decide +kernel
theorem d_QF_from_39 : decode b_QF_from 39 = .ok (.iconst 0, 1) := by decide +kernel
theorem d_QF_from_40 : decode b_QF_from 40 = .ok (.iconst 0, 1) := by decide +kernel
theorem d_QF_from_41 : decode b_QF_from 41 = .ok (.invokevirtual 54, 3) := by decide +kernel
theorem d_QF_from_44 : decode b_QF_from 44 = .ok (.iconst 1, 1) := by decide +kernel
theorem d_QF_from_45 : decode b_QF_from 45 = .ok (.ireturn, 1) := by decide +kernel
theorem d_QF_from_46 : decode b_QF_from 46 = .ok (.iload_n 3, 1) := by decide +kernel
theorem d_QF_from_47 : decode b_QF_from 47 = .ok (.iconst 3, 1) := by decide +kernel
theorem d_QF_from_48 : decode b_QF_from 48 = .ok (.invokestatic 44, 3) := by decide +kernel
theorem d_QF_from_51 : decode b_QF_from 51 = .ok (.ifCond .eq 21, 3) := by decide +kernel
theorem d_QF_from_54 : decode b_QF_from 54 = .ok (.iload 4, 2) := by decide +kernel
theorem d_QF_from_56 : decode b_QF_from 56 = .ok (.iconst 2, 1) := by decide +kernel
theorem d_QF_from_57 : decode b_QF_from 57 = .ok (.invokestatic 44, 3) := by decide +kernel
theorem d_QF_from_60 : decode b_QF_from 60 = .ok (.ifCond .eq 12, 3) := by decide +kernel
theorem d_QF_from_63 : decode b_QF_from 63 = .ok (.iload 5, 2) := by decide +kernel
theorem d_QF_from_65 : decode b_QF_from 65 = .ok (.iconst 2, 1) := by decide +kernel
theorem d_QF_from_66 : decode b_QF_from 66 = .ok (.invokestatic 44, 3) := by decide +kernel
theorem d_QF_from_69 : decode b_QF_from 69 = .ok (.ifCond .ne 5, 3) := by decide +kernel
theorem d_QF_from_72 : decode b_QF_from 72 = .ok (.iconst 0, 1) := by decide +kernel
theorem d_QF_from_73 : decode b_QF_from 73 = .ok (.ireturn, 1) := by decide +kernel
theorem d_QF_from_74 : decode b_QF_from 74 = .ok (.aload_n 0, 1) := by decide +kernel
theorem d_QF_from_75 : decode b_QF_from 75 = .ok (.getfield 25, 3) := by decide +kernel
theorem d_QF_from_78 : decode b_QF_from 78 = .ok (.iload_n 1, 1) := by decide +kernel
theorem d_QF_from_79 : decode b_QF_from 79 = .ok (.iload_n 2, 1) := by decide +kernel
theorem d_QF_from_80 : decode b_QF_from 80 = .ok (.iload_n 3, 1) := by decide +kernel
theorem d_QF_from_81 : decode b_QF_from 81 = .ok (.iload 4, 2) := by decide +kernel
theorem d_QF_from_83 : decode b_QF_from 83 = .ok (.iload 5, 2) := by decide +kernel
theorem d_QF_from_85 : decode b_QF_from 85 = .ok (.invokevirtual 54, 3) := by decide +kernel
theorem d_QF_from_88 : decode b_QF_from 88 = .ok (.iconst 1, 1) := by decide +kernel
theorem d_QF_from_89 : decode b_QF_from 89 = .ok (.ireturn, 1) := by decide +kernel
theorem d_QF_column_0 : decode b_QF_column 0 = .ok (.aload_n 0, 1) := by decide +kernel
theorem d_QF_column_1 : decode b_QF_column 1 = .ok (.invokevirtual 60, 3) := by decide +kernel
theorem d_QF_column_4 : decode b_QF_column 4 = .ok (.ifCond .eq 34, 3) := by decide +kernel
theorem d_QF_column_7 : decode b_QF_column 7 = .ok (.iload_n 1, 1) := by decide +kernel
theorem d_QF_column_8 : decode b_QF_column 8 = .ok (.aload_n 0, 1) := by decide +kernel
theorem d_QF_column_9 : decode b_QF_column 9 = .ok (.getfield 25, 3) := by decide +kernel
theorem d_QF_column_12 : decode b_QF_column 12 = .ok (.invokevirtual 64, 3) := by decide +kernel
theorem d_QF_column_15 : decode b_QF_column 15 = .ok (.invokestatic 44, 3) := by decide +kernel
theorem d_QF_column_18 : decode b_QF_column 18 = .ok (.ifCond .eq 20, 3) := by decide +kernel
theorem d_QF_column_21 : decode b_QF_column 21 = .ok (.aload_n 0, 1) := by decide +kernel
theorem d_QF_column_22 : decode b_QF_column 22 = .ok (.getfield 25, 3) := by decide +kernel
theorem d_QF_column_25 : decode b_QF_column 25 = .ok (.bipush 10, 2) := by decide +kernel
theorem d_QF_column_27 : decode b_QF_column 27 = .ok (.iload_n 1, 1) := by decide +kernel
theorem d_QF_column_28 : decode b_QF_column 28 = .ok (.invokevirtual 68, 3) := by decide +kernel
theorem d_QF_column_31 : decode b_QF_column 31 = .ok (.ifCond .eq 7, 3) := by decide +kernel
theorem d_QF_column_34 : decode b_QF_column 34 = .ok (.iconst 1, 1) := by decide +kernel
theorem d_QF_column_35 : decode b_QF_column 35 = .ok (.goto 4, 3) := by decide +kernel
theorem d_QF_column_38 : decode b_QF_column 38 = .ok (.iconst 0, 1) := by decide +kernel
theorem d_QF_column_39 : decode b_QF_column 39 = .ok (.ireturn, 1) := by decide +kernel
theorem d_QF_number_0 : decode b_QF_number 0 = .ok (.aload_n 0, 1) := by decide +kernel
theorem d_QF_number_1 : decode b_QF_number 1 = .ok (.invokevirtual 60, 3) := by decide +kernel
theorem d_QF_number_4 : decode b_QF_number 4 = .ok (.ifCond .eq 20, 3) := by decide +kernel
theorem d_QF_number_7 : decode b_QF_number 7 = .ok (.aload_n 0, 1) := by decide +kernel
theorem d_QF_number_8 : decode b_QF_number 8 = .ok (.getfield 25, 3) := by decide +kernel
theorem d_QF_number_11 : decode b_QF_number 11 = .ok (.bipush 11, 2) := by decide +kernel
theorem d_QF_number_13 : decode b_QF_number 13 = .ok (.iload_n 1, 1) := by decide +kernel
theorem d_QF_number_14 : decode b_QF_number 14 = .ok (.invokevirtual 68, 3) := by decide +kernel
theorem d_QF_number_17 : decode b_QF_number 17 = .ok (.ifCond .eq 7, 3) := by decide +kernel
theorem d_QF_number_20 : decode b_QF_number 20 = .ok (.iconst 1, 1) := by decide +kernel
theorem d_QF_number_21 : decode b_QF_number 21 = .ok (.goto 4, 3) := by decide +kernel
theorem d_QF_number_24 : decode b_QF_number 24 = .ok (.iconst 0, 1) := by decide +kernel
theorem d_QF_number_25 : decode b_QF_number 25 = .ok (.ireturn, 1) := by decide +kernel
theorem d_QF_operate_0 : decode b_QF_operate 0 = .ok (.aload_n 0, 1) := by decide +kernel
theorem d_QF_operate_1 : decode b_QF_operate 1 = .ok (.invokevirtual 60, 3) := by decide +kernel
theorem d_QF_operate_4 : decode b_QF_operate 4 = .ok (.ifCond .eq 27, 3) := by decide +kernel
theorem d_QF_operate_7 : decode b_QF_operate 7 = .ok (.iload_n 1, 1) := by decide +kernel
theorem d_QF_operate_8 : decode b_QF_operate 8 = .ok (.bipush 10, 2) := by decide +kernel
theorem d_QF_operate_10 : decode b_QF_operate 10 = .ok (.invokestatic 44, 3) := by decide +kernel
theorem d_QF_operate_13 : decode b_QF_operate 13 = .ok (.ifCond .eq 18, 3) := by decide +kernel
theorem d_QF_operate_16 : decode b_QF_operate 16 = .ok (.aload_n 0, 1) := by decide +kernel
theorem d_QF_operate_17 : decode b_QF_operate 17 = .ok (.getfield 25, 3) := by decide +kernel
theorem d_QF_operate_20 : decode b_QF_operate 20 = .ok (.iload_n 1, 1) := by decide +kernel
theorem d_QF_operate_21 : decode b_QF_operate 21 = .ok (.invokevirtual 71, 3) := by decide +kernel
theorem d_QF_operate_24 : decode b_QF_operate 24 = .ok (.ifCond .eq 7, 3) := by decide +kernel
theorem d_QF_operate_27 : decode b_QF_operate 27 = .ok (.iconst 1, 1) := by decide +kernel
theorem d_QF_operate_28 : decode b_QF_operate 28 = .ok (.goto 4, 3) := by decide +kernel
theorem d_QF_operate_31 : decode b_QF_operate 31 = .ok (.iconst 0, 1) := by decide +kernel
theorem d_QF_operate_32 : decode b_QF_operate 32 = .ok (.ireturn, 1) := by decide +kernel
theorem d_QF_where_0 : decode b_QF_where 0 = .ok (.aload_n 0, 1) := by decide +kernel
theorem d_QF_where_1 : decode b_QF_where 1 = .ok (.invokevirtual 60, 3) := by decide +kernel
theorem d_QF_where_4 : decode b_QF_where 4 = .ok (.ifCond .eq 17, 3) := by decide +kernel
theorem d_QF_where_7 : decode b_QF_where 7 = .ok (.aload_n 0, 1) := by decide +kernel
theorem d_QF_where_8 : decode b_QF_where 8 = .ok (.getfield 25, 3) := by decide +kernel
theorem d_QF_where_11 : decode b_QF_where 11 = .ok (.invokevirtual 75, 3) := by decide +kernel
theorem d_QF_where_14 : decode b_QF_where 14 = .ok (.ifCond .eq 7, 3) := by decide +kernel
theorem d_QF_where_17 : decode b_QF_where 17 = .ok (.iconst 1, 1) := by decide +kernel
theorem d_QF_where_18 : decode b_QF_where 18 = .ok (.goto 4, 3) := by decide +kernel
theorem d_QF_where_21 : decode b_QF_where 21 = .ok (.iconst 0, 1) := by decide +kernel
theorem d_QF_where_22 : decode b_QF_where 22 = .ok (.ireturn, 1) := by decide +kernel
theorem d_QF_output_0 : decode b_QF_output 0 = .ok (.aload_n 0, 1) := by decide +kernel
theorem d_QF_output_1 : decode b_QF_output 1 = .ok (.invokevirtual 60, 3) := by decide +kernel
theorem d_QF_output_4 : decode b_QF_output 4 = .ok (.ifCond .eq 27, 3) := by decide +kernel
theorem d_QF_output_7 : decode b_QF_output 7 = .ok (.iload_n 1, 1) := by decide +kernel
theorem d_QF_output_8 : decode b_QF_output 8 = .ok (.bipush 6, 2) := by decide +kernel
theorem d_QF_output_10 : decode b_QF_output 10 = .ok (.invokestatic 44, 3) := by decide +kernel
theorem d_QF_output_13 : decode b_QF_output 13 = .ok (.ifCond .eq 18, 3) := by decide +kernel
theorem d_QF_output_16 : decode b_QF_output 16 = .ok (.aload_n 0, 1) := by decide +kernel
theorem d_QF_output_17 : decode b_QF_output 17 = .ok (.getfield 25, 3) := by decide +kernel
theorem d_QF_output_20 : decode b_QF_output 20 = .ok (.iload_n 1, 1) := by decide +kernel
theorem d_QF_output_21 : decode b_QF_output 21 = .ok (.invokevirtual 78, 3) := by decide +kernel
theorem d_QF_output_24 : decode b_QF_output 24 = .ok (.ifCond .eq 7, 3) := by decide +kernel
theorem d_QF_output_27 : decode b_QF_output 27 = .ok (.iconst 1, 1) := by decide +kernel
theorem d_QF_output_28 : decode b_QF_output 28 = .ok (.goto 4, 3) := by decide +kernel
theorem d_QF_output_31 : decode b_QF_output 31 = .ok (.iconst 0, 1) := by decide +kernel
theorem d_QF_output_32 : decode b_QF_output 32 = .ok (.ireturn, 1) := by decide +kernel
theorem d_QF_group_0 : decode b_QF_group 0 = .ok (.aload_n 0, 1) := by decide +kernel
theorem d_QF_group_1 : decode b_QF_group 1 = .ok (.invokevirtual 60, 3) := by decide +kernel
theorem d_QF_group_4 : decode b_QF_group 4 = .ok (.ifCond .eq 17, 3) := by decide +kernel
theorem d_QF_group_7 : decode b_QF_group 7 = .ok (.iload_n 1, 1) := by decide +kernel
theorem d_QF_group_8 : decode b_QF_group 8 = .ok (.aload_n 0, 1) := by decide +kernel
theorem d_QF_group_9 : decode b_QF_group 9 = .ok (.getfield 25, 3) := by decide +kernel
theorem d_QF_group_12 : decode b_QF_group 12 = .ok (.invokevirtual 64, 3) := by decide +kernel
theorem d_QF_group_15 : decode b_QF_group 15 = .ok (.invokestatic 44, 3) := by decide +kernel
theorem d_QF_group_18 : decode b_QF_group 18 = .ok (.ifCond .ne 5, 3) := by decide +kernel
theorem d_QF_group_21 : decode b_QF_group 21 = .ok (.iconst 0, 1) := by decide +kernel
theorem d_QF_group_22 : decode b_QF_group 22 = .ok (.ireturn, 1) := by decide +kernel
theorem d_QF_group_23 : decode b_QF_group 23 = .ok (.aload_n 0, 1) := by decide +kernel
theorem d_QF_group_24 : decode b_QF_group 24 = .ok (.getfield 25, 3) := by decide +kernel
theorem d_QF_group_27 : decode b_QF_group 27 = .ok (.iload_n 1, 1) := by decide +kernel
theorem d_QF_group_28 : decode b_QF_group 28 = .ok (.putfield 81, 3) := by decide +kernel
theorem d_QF_group_31 : decode b_QF_group 31 = .ok (.iconst 1, 1) := by decide +kernel
theorem d_QF_group_32 : decode b_QF_group 32 = .ok (.ireturn, 1) := by decide +kernel
theorem d_QF_order_0 : decode b_QF_order 0 = .ok (.aload_n 0, 1) := by decide +kernel
theorem d_QF_order_1 : decode b_QF_order 1 = .ok (.invokevirtual 60, 3) := by decide +kernel
theorem d_QF_order_4 : decode b_QF_order 4 = .ok (.ifCond .eq 11, 3) := by decide +kernel
theorem d_QF_order_7 : decode b_QF_order 7 = .ok (.iload_n 1, 1) := by decide +kernel
theorem d_QF_order_8 : decode b_QF_order 8 = .ok (.iconst 4, 1) := by decide +kernel
theorem d_QF_order_9 : decode b_QF_order 9 = .ok (.invokestatic 44, 3) := by decide +kernel
theorem d_QF_order_12 : decode b_QF_order 12 = .ok (.ifCond .ne 5, 3) := by decide +kernel
theorem d_QF_order_15 : decode b_QF_order 15 = .ok (.iconst 0, 1) := by decide +kernel
theorem d_QF_order_16 : decode b_QF_order 16 = .ok (.ireturn, 1) := by decide +kernel
theorem d_QF_order_17 : decode b_QF_order 17 = .ok (.aload_n 0, 1) := by decide +kernel
theorem d_QF_order_18 : decode b_QF_order 18 = .ok (.getfield 25, 3) := by decide +kernel
theorem d_QF_order_21 : decode b_QF_order 21 = .ok (.iload_n 1, 1) := by decide +kernel
theorem d_QF_order_22 : decode b_QF_order 22 = .ok (.putfield 85, 3) := by decide +kernel
theorem d_QF_order_25 : decode b_QF_order 25 = .ok (.aload_n 0, 1) := by decide +kernel
theorem d_QF_order_26 : decode b_QF_order 26 = .ok (.getfield 25, 3) := by decide +kernel
theorem d_QF_order_29 : decode b_QF_order 29 = .ok (.iload_n 2, 1) := by decide +kernel
theorem d_QF_order_30 : decode b_QF_order 30 = .ok (.putfield 88, 3) := by decide +kernel
theorem d_QF_order_33 : decode b_QF_order 33 = .ok (.aload_n 0, 1) := by decide +kernel
theorem d_QF_order_34 : decode b_QF_order 34 = .ok (.getfield 25, 3) := by decide +kernel
theorem d_QF_order_37 : decode b_QF_order 37 = .ok (.iload_n 3, 1) := by decide +kernel
theorem d_QF_order_38 : decode b_QF_order 38 = .ok (.putfield 91, 3) := by decide +kernel
theorem d_QF_order_41 : decode b_QF_order 41 = .ok (.iconst 1, 1) := by decide +kernel
theorem d_QF_order_42 : decode b_QF_order 42 = .ok (.ireturn, 1) := by decide +kernel
theorem d_QF_start_0 : decode b_QF_start 0 = .ok (.aload_n 0, 1) := by decide +kernel
theorem d_QF_start_1 : decode b_QF_start 1 = .ok (.invokevirtual 60, 3) := by decide +kernel
theorem d_QF_start_4 : decode b_QF_start 4 = .ok (.ifCond .eq 23, 3) := by decide +kernel
theorem d_QF_start_7 : decode b_QF_start 7 = .ok (.aload_n 0, 1) := by decide +kernel
theorem d_QF_start_8 : decode b_QF_start 8 = .ok (.getfield 25, 3) := by decide +kernel
theorem d_QF_start_11 : decode b_QF_start 11 = .ok (.getfield 94, 3) := by decide +kernel
theorem d_QF_start_14 : decode b_QF_start 14 = .ok (.ifCond .gt 13, 3) := by decide +kernel
theorem d_QF_start_17 : decode b_QF_start 17 = .ok (.aload_n 0, 1) := by decide +kernel
theorem d_QF_start_18 : decode b_QF_start 18 = .ok (.getfield 25, 3) := by decide +kernel
theorem d_QF_start_21 : decode b_QF_start 21 = .ok (.invokevirtual 97, 3) := by decide +kernel
theorem d_QF_start_24 : decode b_QF_start 24 = .ok (.ifCond .ne 5, 3) := by decide +kernel
theorem d_QF_start_27 : decode b_QF_start 27 = .ok (.iconst (-1), 1) := by decide +kernel
theorem d_QF_start_28 : decode b_QF_start 28 = .ok (.ireturn, 1) := by decide +kernel
theorem d_QF_start_29 : decode b_QF_start 29 = .ok (.iload_n 1, 1) := by decide +kernel
theorem d_QF_start_30 : decode b_QF_start 30 = .ok (.iconst 1, 1) := by decide +kernel
theorem d_QF_start_31 : decode b_QF_start 31 = .ok (.if_icmp .lt 19, 3) := by decide +kernel
theorem d_QF_start_34 : decode b_QF_start 34 = .ok (.iload_n 1, 1) := by decide +kernel
theorem d_QF_start_35 : decode b_QF_start 35 = .ok (.iconst 4, 1) := by decide +kernel
theorem d_QF_start_36 : decode b_QF_start 36 = .ok (.if_icmp .gt 14, 3) := by decide +kernel
theorem d_QF_start_39 : decode b_QF_start 39 = .ok (.iload_n 2, 1) := by decide +kernel
theorem d_QF_start_40 : decode b_QF_start 40 = .ok (.iconst 3, 1) := by decide +kernel
theorem d_QF_start_41 : decode b_QF_start 41 = .ok (.if_icmp .lt 9, 3) := by decide +kernel
theorem d_QF_start_44 : decode b_QF_start 44 = .ok (.iload_n 2, 1) := by decide +kernel
theorem d_QF_start_45 : decode b_QF_start 45 = .ok (.bipush 8, 2) := by decide +kernel
theorem d_QF_start_47 : decode b_QF_start 47 = .ok (.if_icmp .le 5, 3) := by decide +kernel
theorem d_QF_start_50 : decode b_QF_start 50 = .ok (.iconst (-1), 1) := by decide +kernel
theorem d_QF_start_51 : decode b_QF_start 51 = .ok (.ireturn, 1) := by decide +kernel
theorem d_QF_start_52 : decode b_QF_start 52 = .ok (.aload_n 0, 1) := by decide +kernel
theorem d_QF_start_53 : decode b_QF_start 53 = .ok (.getfield 12, 3) := by decide +kernel
theorem d_QF_start_56 : decode b_QF_start 56 = .ok (.invokevirtual 100, 3) := by decide +kernel
theorem d_QF_start_59 : decode b_QF_start 59 = .ok (.aload_n 0, 1) := by decide +kernel
theorem d_QF_start_60 : decode b_QF_start 60 = .ok (.getfield 12, 3) := by decide +kernel
theorem d_QF_start_63 : decode b_QF_start 63 = .ok (.invokevirtual 103, 3) := by decide +kernel
theorem d_QF_start_66 : decode b_QF_start 66 = .ok (.aload_n 0, 1) := by decide +kernel
theorem d_QF_start_67 : decode b_QF_start 67 = .ok (.getfield 12, 3) := by decide +kernel
theorem d_QF_start_70 : decode b_QF_start 70 = .ok (.aload_n 0, 1) := by decide +kernel
theorem d_QF_start_71 : decode b_QF_start 71 = .ok (.getfield 29, 3) := by decide +kernel
theorem d_QF_start_74 : decode b_QF_start 74 = .ok (.invokevirtual 106, 3) := by decide +kernel
theorem d_QF_start_77 : decode b_QF_start 77 = .ok (.aload_n 0, 1) := by decide +kernel
theorem d_QF_start_78 : decode b_QF_start 78 = .ok (.getfield 29, 3) := by decide +kernel
theorem d_QF_start_81 : decode b_QF_start 81 = .ok (.aload_n 0, 1) := by decide +kernel
theorem d_QF_start_82 : decode b_QF_start 82 = .ok (.getfield 25, 3) := by decide +kernel
theorem d_QF_start_85 : decode b_QF_start 85 = .ok (.invokevirtual 110, 3) := by decide +kernel
theorem d_QF_start_88 : decode b_QF_start 88 = .ok (.aload_n 0, 1) := by decide +kernel
theorem d_QF_start_89 : decode b_QF_start 89 = .ok (.getfield 29, 3) := by decide +kernel
theorem d_QF_start_92 : decode b_QF_start 92 = .ok (.iload_n 2, 1) := by decide +kernel
theorem d_QF_start_93 : decode b_QF_start 93 = .ok (.invokevirtual 114, 3) := by decide +kernel
theorem d_QF_start_96 : decode b_QF_start 96 = .ok (.aload_n 0, 1) := by decide +kernel
theorem d_QF_start_97 : decode b_QF_start 97 = .ok (.getfield 36, 3) := by decide +kernel
theorem d_QF_start_100 : decode b_QF_start 100 = .ok (.iload_n 1, 1) := by decide +kernel
theorem d_QF_start_101 : decode b_QF_start 101 = .ok (.invokevirtual 118, 3) := by decide +kernel
theorem d_QF_start_104 : decode b_QF_start 104 = .ok (.iconst 0, 1) := by decide +kernel
theorem d_QF_start_105 : decode b_QF_start 105 = .ok (.istore_n 3, 1) := by decide +kernel
theorem d_QF_start_106 : decode b_QF_start 106 = .ok (.iload_n 3, 1) := by decide +kernel
theorem d_QF_start_107 : decode b_QF_start 107 = .ok (.iconst 4, 1) := by decide +kernel
theorem d_QF_start_108 : decode b_QF_start 108 = .ok (.iload_n 1, 1) := by decide +kernel
theorem d_QF_start_109 : decode b_QF_start 109 = .ok (.imul, 1) := by decide +kernel
theorem d_QF_start_110 : decode b_QF_start 110 = .ok (.if_icmp .ge 54, 3) := by decide +kernel
theorem d_QF_start_113 : decode b_QF_start 113 = .ok (.iload_n 3, 1) := by decide +kernel
theorem d_QF_start_114 : decode b_QF_start 114 = .ok (.iload_n 1, 1) := by decide +kernel
theorem d_QF_start_115 : decode b_QF_start 115 = .ok (.idiv, 1) := by decide +kernel
theorem d_QF_start_116 : decode b_QF_start 116 = .ok (.istore 4, 2) := by decide +kernel
theorem d_QF_start_118 : decode b_QF_start 118 = .ok (.iload_n 3, 1) := by decide +kernel
theorem d_QF_start_119 : decode b_QF_start 119 = .ok (.iload_n 1, 1) := by decide +kernel
theorem d_QF_start_120 : decode b_QF_start 120 = .ok (.irem, 1) := by decide +kernel
theorem d_QF_start_121 : decode b_QF_start 121 = .ok (.istore 5, 2) := by decide +kernel
theorem d_QF_start_123 : decode b_QF_start 123 = .ok (.aload_n 0, 1) := by decide +kernel
theorem d_QF_start_124 : decode b_QF_start 124 = .ok (.getfield 25, 3) := by decide +kernel
theorem d_QF_start_127 : decode b_QF_start 127 = .ok (.iload 4, 2) := by decide +kernel
theorem d_QF_start_129 : decode b_QF_start 129 = .ok (.invokevirtual 121, 3) := by decide +kernel
theorem d_QF_start_132 : decode b_QF_start 132 = .ok (.ifCond .eq 26, 3) := by decide +kernel
theorem d_QF_start_135 : decode b_QF_start 135 = .ok (.aload_n 0, 1) := by decide +kernel
theorem d_QF_start_136 : decode b_QF_start 136 = .ok (.getfield 36, 3) := by decide +kernel
theorem d_QF_start_139 : decode b_QF_start 139 = .ok (.iload 4, 2) := by decide +kernel
theorem d_QF_start_141 : decode b_QF_start 141 = .ok (.iload 5, 2) := by decide +kernel
theorem d_QF_start_143 : decode b_QF_start 143 = .ok (.aload_n 0, 1) := by decide +kernel
theorem d_QF_start_144 : decode b_QF_start 144 = .ok (.getfield 12, 3) := by decide +kernel
theorem d_QF_start_147 : decode b_QF_start 147 = .ok (.iload 4, 2) := by decide +kernel
theorem d_QF_start_149 : decode b_QF_start 149 = .ok (.iload 5, 2) := by decide +kernel
theorem d_QF_start_151 : decode b_QF_start 151 = .ok (.iload_n 1, 1) := by decide +kernel
theorem d_QF_start_152 : decode b_QF_start 152 = .ok (.invokevirtual 124, 3) := by decide +kernel
theorem d_QF_start_155 : decode b_QF_start 155 = .ok (.invokevirtual 127, 3) := by decide +kernel
theorem d_QF_start_158 : decode b_QF_start 158 = .ok (.iinc 3 1, 3) := by decide +kernel
theorem d_QF_start_161 : decode b_QF_start 161 = .ok (.goto (-55), 3) := by decide +kernel
theorem d_QF_start_164 : decode b_QF_start 164 = .ok (.aload_n 0, 1) := by decide +kernel
theorem d_QF_start_165 : decode b_QF_start 165 = .ok (.getfield 36, 3) := by decide +kernel
theorem d_QF_start_168 : decode b_QF_start 168 = .ok (.invokevirtual 131, 3) := by decide +kernel
theorem d_QF_start_171 : decode b_QF_start 171 = .ok (.aload_n 0, 1) := by decide +kernel
theorem d_QF_start_172 : decode b_QF_start 172 = .ok (.getfield 36, 3) := by decide +kernel
theorem d_QF_start_175 : decode b_QF_start 175 = .ok (.getfield 134, 3) := by decide +kernel
theorem d_QF_start_178 : decode b_QF_start 178 = .ok (.ireturn, 1) := by decide +kernel
theorem d_QF_pass_0 : decode b_QF_pass 0 = .ok (.aload_n 0, 1) := by decide +kernel
theorem d_QF_pass_1 : decode b_QF_pass 1 = .ok (.getfield 36, 3) := by decide +kernel
theorem d_QF_pass_4 : decode b_QF_pass 4 = .ok (.getfield 40, 3) := by decide +kernel
theorem d_QF_pass_7 : decode b_QF_pass 7 = .ok (.ifCond .eq 20, 3) := by decide +kernel
theorem d_QF_pass_10 : decode b_QF_pass 10 = .ok (.iload_n 1, 1) := by decide +kernel
theorem d_QF_pass_11 : decode b_QF_pass 11 = .ok (.aload_n 0, 1) := by decide +kernel
theorem d_QF_pass_12 : decode b_QF_pass 12 = .ok (.getfield 36, 3) := by decide +kernel
theorem d_QF_pass_15 : decode b_QF_pass 15 = .ok (.getfield 137, 3) := by decide +kernel
theorem d_QF_pass_18 : decode b_QF_pass 18 = .ok (.getfield 141, 3) := by decide +kernel
theorem d_QF_pass_21 : decode b_QF_pass 21 = .ok (.invokestatic 44, 3) := by decide +kernel
theorem d_QF_pass_24 : decode b_QF_pass 24 = .ok (.ifCond .ne 5, 3) := by decide +kernel
theorem d_QF_pass_27 : decode b_QF_pass 27 = .ok (.iconst (-1), 1) := by decide +kernel
theorem d_QF_pass_28 : decode b_QF_pass 28 = .ok (.ireturn, 1) := by decide +kernel
theorem d_QF_pass_29 : decode b_QF_pass 29 = .ok (.iload_n 2, 1) := by decide +kernel
theorem d_QF_pass_30 : decode b_QF_pass 30 = .ok (.tableswitch 57 0 2 #[26, 35, 48], 26) := by decide +kernel
theorem d_QF_pass_56 : decode b_QF_pass 56 = .ok (.aload_n 0, 1) := by decide +kernel
theorem d_QF_pass_57 : decode b_QF_pass 57 = .ok (.getfield 36, 3) := by decide +kernel
theorem d_QF_pass_60 : decode b_QF_pass 60 = .ok (.iload_n 1, 1) := by decide +kernel
theorem d_QF_pass_61 : decode b_QF_pass 61 = .ok (.invokevirtual 146, 3) := by decide +kernel
theorem d_QF_pass_64 : decode b_QF_pass 64 = .ok (.ireturn, 1) := by decide +kernel
theorem d_QF_pass_65 : decode b_QF_pass 65 = .ok (.aload_n 0, 1) := by decide +kernel
theorem d_QF_pass_66 : decode b_QF_pass 66 = .ok (.getfield 36, 3) := by decide +kernel
theorem d_QF_pass_69 : decode b_QF_pass 69 = .ok (.getfield 137, 3) := by decide +kernel
theorem d_QF_pass_72 : decode b_QF_pass 72 = .ok (.iload_n 1, 1) := by decide +kernel
theorem d_QF_pass_73 : decode b_QF_pass 73 = .ok (.invokevirtual 150, 3) := by decide +kernel
theorem d_QF_pass_76 : decode b_QF_pass 76 = .ok (.iconst 1, 1) := by decide +kernel
theorem d_QF_pass_77 : decode b_QF_pass 77 = .ok (.ireturn, 1) := by decide +kernel
theorem d_QF_pass_78 : decode b_QF_pass 78 = .ok (.aload_n 0, 1) := by decide +kernel
theorem d_QF_pass_79 : decode b_QF_pass 79 = .ok (.getfield 36, 3) := by decide +kernel
theorem d_QF_pass_82 : decode b_QF_pass 82 = .ok (.iload_n 1, 1) := by decide +kernel
theorem d_QF_pass_83 : decode b_QF_pass 83 = .ok (.invokevirtual 153, 3) := by decide +kernel
theorem d_QF_pass_86 : decode b_QF_pass 86 = .ok (.ireturn, 1) := by decide +kernel
theorem d_QF_pass_87 : decode b_QF_pass 87 = .ok (.iconst (-1), 1) := by decide +kernel
theorem d_QF_pass_88 : decode b_QF_pass 88 = .ok (.ireturn, 1) := by decide +kernel
theorem d_QF_work_0 : decode b_QF_work 0 = .ok (.aload_n 0, 1) := by decide +kernel
theorem d_QF_work_1 : decode b_QF_work 1 = .ok (.iload_n 1, 1) := by decide +kernel
theorem d_QF_work_2 : decode b_QF_work 2 = .ok (.invokevirtual 156, 3) := by decide +kernel
theorem d_QF_work_5 : decode b_QF_work 5 = .ok (.ifCond .ne 5, 3) := by decide +kernel
theorem d_QF_work_8 : decode b_QF_work 8 = .ok (.iconst (-1), 1) := by decide +kernel
theorem d_QF_work_9 : decode b_QF_work 9 = .ok (.ireturn, 1) := by decide +kernel
theorem d_QF_work_10 : decode b_QF_work 10 = .ok (.aload_n 0, 1) := by decide +kernel
theorem d_QF_work_11 : decode b_QF_work 11 = .ok (.getfield 36, 3) := by decide +kernel
theorem d_QF_work_14 : decode b_QF_work 14 = .ok (.aload_n 0, 1) := by decide +kernel
theorem d_QF_work_15 : decode b_QF_work 15 = .ok (.getfield 36, 3) := by decide +kernel
theorem d_QF_work_18 : decode b_QF_work 18 = .ok (.getfield 159, 3) := by decide +kernel
theorem d_QF_work_21 : decode b_QF_work 21 = .ok (.iload_n 1, 1) := by decide +kernel
theorem d_QF_work_22 : decode b_QF_work 22 = .ok (.aaload, 1) := by decide +kernel
theorem d_QF_work_23 : decode b_QF_work 23 = .ok (.invokevirtual 163, 3) := by decide +kernel
theorem d_QF_work_26 : decode b_QF_work 26 = .ok (.ireturn, 1) := by decide +kernel
theorem d_QF_crash_0 : decode b_QF_crash 0 = .ok (.aload_n 0, 1) := by decide +kernel
theorem d_QF_crash_1 : decode b_QF_crash 1 = .ok (.iload_n 1, 1) := by decide +kernel
theorem d_QF_crash_2 : decode b_QF_crash 2 = .ok (.invokevirtual 156, 3) := by decide +kernel
theorem d_QF_crash_5 : decode b_QF_crash 5 = .ok (.ifCond .ne 5, 3) := by decide +kernel
theorem d_QF_crash_8 : decode b_QF_crash 8 = .ok (.iconst (-1), 1) := by decide +kernel
theorem d_QF_crash_9 : decode b_QF_crash 9 = .ok (.ireturn, 1) := by decide +kernel
theorem d_QF_crash_10 : decode b_QF_crash 10 = .ok (.aload_n 0, 1) := by decide +kernel
theorem d_QF_crash_11 : decode b_QF_crash 11 = .ok (.getfield 36, 3) := by decide +kernel
theorem d_QF_crash_14 : decode b_QF_crash 14 = .ok (.getfield 159, 3) := by decide +kernel
theorem d_QF_crash_17 : decode b_QF_crash 17 = .ok (.iload_n 1, 1) := by decide +kernel
theorem d_QF_crash_18 : decode b_QF_crash 18 = .ok (.aaload, 1) := by decide +kernel
theorem d_QF_crash_19 : decode b_QF_crash 19 = .ok (.getfield 141, 3) := by decide +kernel
theorem d_QF_crash_22 : decode b_QF_crash 22 = .ok (.istore_n 2, 1) := by decide +kernel
theorem d_QF_crash_23 : decode b_QF_crash 23 = .ok (.aload_n 0, 1) := by decide +kernel
theorem d_QF_crash_24 : decode b_QF_crash 24 = .ok (.getfield 36, 3) := by decide +kernel
theorem d_QF_crash_27 : decode b_QF_crash 27 = .ok (.getfield 159, 3) := by decide +kernel
theorem d_QF_crash_30 : decode b_QF_crash 30 = .ok (.iload_n 1, 1) := by decide +kernel
theorem d_QF_crash_31 : decode b_QF_crash 31 = .ok (.aaload, 1) := by decide +kernel
theorem d_QF_crash_32 : decode b_QF_crash 32 = .ok (.iconst 0, 1) := by decide +kernel
theorem d_QF_crash_33 : decode b_QF_crash 33 = .ok (.putfield 141, 3) := by decide +kernel
theorem d_QF_crash_36 : decode b_QF_crash 36 = .ok (.iload_n 2, 1) := by decide +kernel
theorem d_QF_crash_37 : decode b_QF_crash 37 = .ok (.ireturn, 1) := by decide +kernel
theorem d_QF_tick_0 : decode b_QF_tick 0 = .ok (.aload_n 0, 1) := by decide +kernel
theorem d_QF_tick_1 : decode b_QF_tick 1 = .ok (.getfield 36, 3) := by decide +kernel
theorem d_QF_tick_4 : decode b_QF_tick 4 = .ok (.getfield 40, 3) := by decide +kernel
theorem d_QF_tick_7 : decode b_QF_tick 7 = .ok (.ifCond .ne 5, 3) := by decide +kernel
theorem d_QF_tick_10 : decode b_QF_tick 10 = .ok (.iconst (-1), 1) := by decide +kernel
theorem d_QF_tick_11 : decode b_QF_tick 11 = .ok (.ireturn, 1) := by decide +kernel
theorem d_QF_tick_12 : decode b_QF_tick 12 = .ok (.aload_n 0, 1) := by decide +kernel
theorem d_QF_tick_13 : decode b_QF_tick 13 = .ok (.getfield 36, 3) := by decide +kernel
theorem d_QF_tick_16 : decode b_QF_tick 16 = .ok (.invokevirtual 167, 3) := by decide +kernel
theorem d_QF_tick_19 : decode b_QF_tick 19 = .ok (.ireturn, 1) := by decide +kernel
theorem d_QF_message_0 : decode b_QF_message 0 = .ok (.aload_n 0, 1) := by decide +kernel
theorem d_QF_message_1 : decode b_QF_message 1 = .ok (.getfield 36, 3) := by decide +kernel
theorem d_QF_message_4 : decode b_QF_message 4 = .ok (.getfield 40, 3) := by decide +kernel
theorem d_QF_message_7 : decode b_QF_message 7 = .ok (.ifCond .ne 5, 3) := by decide +kernel
theorem d_QF_message_10 : decode b_QF_message 10 = .ok (.iconst (-1), 1) := by decide +kernel
theorem d_QF_message_11 : decode b_QF_message 11 = .ok (.ireturn, 1) := by decide +kernel
theorem d_QF_message_12 : decode b_QF_message 12 = .ok (.iload_n 1, 1) := by decide +kernel
theorem d_QF_message_13 : decode b_QF_message 13 = .ok (.iconst (-1), 1) := by decide +kernel
theorem d_QF_message_14 : decode b_QF_message 14 = .ok (.if_icmp .ne 14, 3) := by decide +kernel
theorem d_QF_message_17 : decode b_QF_message 17 = .ok (.aload_n 0, 1) := by decide +kernel
theorem d_QF_message_18 : decode b_QF_message 18 = .ok (.getfield 36, 3) := by decide +kernel
theorem d_QF_message_21 : decode b_QF_message 21 = .ok (.getfield 137, 3) := by decide +kernel
theorem d_QF_message_24 : decode b_QF_message 24 = .ok (.getfield 141, 3) := by decide +kernel
theorem d_QF_message_27 : decode b_QF_message 27 = .ok (.ireturn, 1) := by decide +kernel
theorem d_QF_message_28 : decode b_QF_message 28 = .ok (.iload_n 1, 1) := by decide +kernel
theorem d_QF_message_29 : decode b_QF_message 29 = .ok (.aload_n 0, 1) := by decide +kernel
theorem d_QF_message_30 : decode b_QF_message 30 = .ok (.getfield 36, 3) := by decide +kernel
theorem d_QF_message_33 : decode b_QF_message 33 = .ok (.getfield 137, 3) := by decide +kernel
theorem d_QF_message_36 : decode b_QF_message 36 = .ok (.getfield 141, 3) := by decide +kernel
theorem d_QF_message_39 : decode b_QF_message 39 = .ok (.invokestatic 44, 3) := by decide +kernel
theorem d_QF_message_42 : decode b_QF_message 42 = .ok (.ifCond .ne 5, 3) := by decide +kernel
theorem d_QF_message_45 : decode b_QF_message 45 = .ok (.iconst (-1), 1) := by decide +kernel
theorem d_QF_message_46 : decode b_QF_message 46 = .ok (.ireturn, 1) := by decide +kernel
theorem d_QF_message_47 : decode b_QF_message 47 = .ok (.aload_n 0, 1) := by decide +kernel
theorem d_QF_message_48 : decode b_QF_message 48 = .ok (.getfield 36, 3) := by decide +kernel
theorem d_QF_message_51 : decode b_QF_message 51 = .ok (.iload_n 1, 1) := by decide +kernel
theorem d_QF_message_52 : decode b_QF_message 52 = .ok (.iload_n 2, 1) := by decide +kernel
theorem d_QF_message_53 : decode b_QF_message 53 = .ok (.invokevirtual 170, 3) := by decide +kernel
theorem d_QF_message_56 : decode b_QF_message 56 = .ok (.ireturn, 1) := by decide +kernel
theorem d_QF_task_0 : decode b_QF_task 0 = .ok (.iload_n 1, 1) := by decide +kernel
theorem d_QF_task_1 : decode b_QF_task 1 = .ok (.aload_n 0, 1) := by decide +kernel
theorem d_QF_task_2 : decode b_QF_task 2 = .ok (.getfield 36, 3) := by decide +kernel
theorem d_QF_task_5 : decode b_QF_task 5 = .ok (.getfield 134, 3) := by decide +kernel
theorem d_QF_task_8 : decode b_QF_task 8 = .ok (.invokestatic 44, 3) := by decide +kernel
theorem d_QF_task_11 : decode b_QF_task 11 = .ok (.ifCond .ne 5, 3) := by decide +kernel
theorem d_QF_task_14 : decode b_QF_task 14 = .ok (.iconst (-1), 1) := by decide +kernel
theorem d_QF_task_15 : decode b_QF_task 15 = .ok (.ireturn, 1) := by decide +kernel
theorem d_QF_task_16 : decode b_QF_task 16 = .ok (.aload_n 0, 1) := by decide +kernel
theorem d_QF_task_17 : decode b_QF_task 17 = .ok (.getfield 36, 3) := by decide +kernel
theorem d_QF_task_20 : decode b_QF_task 20 = .ok (.getfield 174, 3) := by decide +kernel
theorem d_QF_task_23 : decode b_QF_task 23 = .ok (.iload_n 1, 1) := by decide +kernel
theorem d_QF_task_24 : decode b_QF_task 24 = .ok (.aaload, 1) := by decide +kernel
theorem d_QF_task_25 : decode b_QF_task 25 = .ok (.iload_n 2, 1) := by decide +kernel
theorem d_QF_task_26 : decode b_QF_task 26 = .ok (.invokevirtual 178, 3) := by decide +kernel
theorem d_QF_task_29 : decode b_QF_task 29 = .ok (.ireturn, 1) := by decide +kernel
theorem d_QF_ended_0 : decode b_QF_ended 0 = .ok (.aload_n 0, 1) := by decide +kernel
theorem d_QF_ended_1 : decode b_QF_ended 1 = .ok (.invokevirtual 182, 3) := by decide +kernel
theorem d_QF_ended_4 : decode b_QF_ended 4 = .ok (.ifCond .ne 5, 3) := by decide +kernel
theorem d_QF_ended_7 : decode b_QF_ended 7 = .ok (.iconst (-1), 1) := by decide +kernel
theorem d_QF_ended_8 : decode b_QF_ended 8 = .ok (.ireturn, 1) := by decide +kernel
theorem d_QF_ended_9 : decode b_QF_ended 9 = .ok (.iload_n 1, 1) := by decide +kernel
theorem d_QF_ended_10 : decode b_QF_ended 10 = .ok (.tableswitch 62 0 3 #[30, 38, 46, 54], 30) := by decide +kernel
theorem d_QF_ended_40 : decode b_QF_ended 40 = .ok (.aload_n 0, 1) := by decide +kernel
theorem d_QF_ended_41 : decode b_QF_ended 41 = .ok (.getfield 29, 3) := by decide +kernel
theorem d_QF_ended_44 : decode b_QF_ended 44 = .ok (.getfield 185, 3) := by decide +kernel
theorem d_QF_ended_47 : decode b_QF_ended 47 = .ok (.ireturn, 1) := by decide +kernel
theorem d_QF_ended_48 : decode b_QF_ended 48 = .ok (.aload_n 0, 1) := by decide +kernel
theorem d_QF_ended_49 : decode b_QF_ended 49 = .ok (.getfield 29, 3) := by decide +kernel
theorem d_QF_ended_52 : decode b_QF_ended 52 = .ok (.getfield 188, 3) := by decide +kernel
theorem d_QF_ended_55 : decode b_QF_ended 55 = .ok (.ireturn, 1) := by decide +kernel
theorem d_QF_ended_56 : decode b_QF_ended 56 = .ok (.aload_n 0, 1) := by decide +kernel
theorem d_QF_ended_57 : decode b_QF_ended 57 = .ok (.getfield 29, 3) := by decide +kernel
theorem d_QF_ended_60 : decode b_QF_ended 60 = .ok (.getfield 190, 3) := by decide +kernel
theorem d_QF_ended_63 : decode b_QF_ended 63 = .ok (.ireturn, 1) := by decide +kernel
theorem d_QF_ended_64 : decode b_QF_ended 64 = .ok (.aload_n 0, 1) := by decide +kernel
theorem d_QF_ended_65 : decode b_QF_ended 65 = .ok (.getfield 36, 3) := by decide +kernel
theorem d_QF_ended_68 : decode b_QF_ended 68 = .ok (.getfield 193, 3) := by decide +kernel
theorem d_QF_ended_71 : decode b_QF_ended 71 = .ok (.ireturn, 1) := by decide +kernel
theorem d_QF_ended_72 : decode b_QF_ended 72 = .ok (.iconst (-1), 1) := by decide +kernel
theorem d_QF_ended_73 : decode b_QF_ended 73 = .ok (.ireturn, 1) := by decide +kernel
theorem d_QF_cell_0 : decode b_QF_cell 0 = .ok (.aload_n 0, 1) := by decide +kernel
theorem d_QF_cell_1 : decode b_QF_cell 1 = .ok (.iload_n 1, 1) := by decide +kernel
theorem d_QF_cell_2 : decode b_QF_cell 2 = .ok (.iload_n 2, 1) := by decide +kernel
theorem d_QF_cell_3 : decode b_QF_cell 3 = .ok (.invokevirtual 196, 3) := by decide +kernel
theorem d_QF_cell_6 : decode b_QF_cell 6 = .ok (.ifCond .eq 15, 3) := by decide +kernel
theorem d_QF_cell_9 : decode b_QF_cell 9 = .ok (.aload_n 0, 1) := by decide +kernel
theorem d_QF_cell_10 : decode b_QF_cell 10 = .ok (.getfield 29, 3) := by decide +kernel
theorem d_QF_cell_13 : decode b_QF_cell 13 = .ok (.iload_n 1, 1) := by decide +kernel
theorem d_QF_cell_14 : decode b_QF_cell 14 = .ok (.iload_n 2, 1) := by decide +kernel
theorem d_QF_cell_15 : decode b_QF_cell 15 = .ok (.invokevirtual 199, 3) := by decide +kernel
theorem d_QF_cell_18 : decode b_QF_cell 18 = .ok (.ifCond .eq 5, 3) := by decide +kernel
theorem d_QF_cell_21 : decode b_QF_cell 21 = .ok (.lconst 0, 1) := by decide +kernel
theorem d_QF_cell_22 : decode b_QF_cell 22 = .ok (.lreturn, 1) := by decide +kernel
theorem d_QF_cell_23 : decode b_QF_cell 23 = .ok (.aload_n 0, 1) := by decide +kernel
theorem d_QF_cell_24 : decode b_QF_cell 24 = .ok (.getfield 29, 3) := by decide +kernel
theorem d_QF_cell_27 : decode b_QF_cell 27 = .ok (.iload_n 1, 1) := by decide +kernel
theorem d_QF_cell_28 : decode b_QF_cell 28 = .ok (.iload_n 2, 1) := by decide +kernel
theorem d_QF_cell_29 : decode b_QF_cell 29 = .ok (.invokevirtual 202, 3) := by decide +kernel
theorem d_QF_cell_32 : decode b_QF_cell 32 = .ok (.lreturn, 1) := by decide +kernel
theorem d_QF_missing_0 : decode b_QF_missing 0 = .ok (.aload_n 0, 1) := by decide +kernel
theorem d_QF_missing_1 : decode b_QF_missing 1 = .ok (.iload_n 1, 1) := by decide +kernel
theorem d_QF_missing_2 : decode b_QF_missing 2 = .ok (.iload_n 2, 1) := by decide +kernel
theorem d_QF_missing_3 : decode b_QF_missing 3 = .ok (.invokevirtual 196, 3) := by decide +kernel
theorem d_QF_missing_6 : decode b_QF_missing 6 = .ok (.ifCond .eq 19, 3) := by decide +kernel
theorem d_QF_missing_9 : decode b_QF_missing 9 = .ok (.aload_n 0, 1) := by decide +kernel
theorem d_QF_missing_10 : decode b_QF_missing 10 = .ok (.getfield 29, 3) := by decide +kernel
theorem d_QF_missing_13 : decode b_QF_missing 13 = .ok (.iload_n 1, 1) := by decide +kernel
theorem d_QF_missing_14 : decode b_QF_missing 14 = .ok (.iload_n 2, 1) := by decide +kernel
theorem d_QF_missing_15 : decode b_QF_missing 15 = .ok (.invokevirtual 199, 3) := by decide +kernel
theorem d_QF_missing_18 : decode b_QF_missing 18 = .ok (.ifCond .eq 7, 3) := by decide +kernel
theorem d_QF_missing_21 : decode b_QF_missing 21 = .ok (.iconst 1, 1) := by decide +kernel
theorem d_QF_missing_22 : decode b_QF_missing 22 = .ok (.goto 4, 3) := by decide +kernel
theorem d_QF_missing_25 : decode b_QF_missing 25 = .ok (.iconst 0, 1) := by decide +kernel
theorem d_QF_missing_26 : decode b_QF_missing 26 = .ok (.ireturn, 1) := by decide +kernel
theorem d_QF_isIn_0 : decode b_QF_isIn 0 = .ok (.iload_n 0, 1) := by decide +kernel
theorem d_QF_isIn_1 : decode b_QF_isIn 1 = .ok (.ifCond .lt 12, 3) := by decide +kernel
theorem d_QF_isIn_4 : decode b_QF_isIn 4 = .ok (.iload_n 0, 1) := by decide +kernel
theorem d_QF_isIn_5 : decode b_QF_isIn 5 = .ok (.iload_n 1, 1) := by decide +kernel
theorem d_QF_isIn_6 : decode b_QF_isIn 6 = .ok (.if_icmp .ge 7, 3) := by decide +kernel
theorem d_QF_isIn_9 : decode b_QF_isIn 9 = .ok (.iconst 1, 1) := by decide +kernel
theorem d_QF_isIn_10 : decode b_QF_isIn 10 = .ok (.goto 4, 3) := by decide +kernel
theorem d_QF_isIn_13 : decode b_QF_isIn 13 = .ok (.iconst 0, 1) := by decide +kernel
theorem d_QF_isIn_14 : decode b_QF_isIn 14 = .ok (.ireturn, 1) := by decide +kernel
theorem d_QF_canChangeQuery_0 : decode b_QF_canChangeQuery 0 = .ok (.aload_n 0, 1) := by decide +kernel
theorem d_QF_canChangeQuery_1 : decode b_QF_canChangeQuery 1 = .ok (.getfield 36, 3) := by decide +kernel
theorem d_QF_canChangeQuery_4 : decode b_QF_canChangeQuery 4 = .ok (.getfield 40, 3) := by decide +kernel
theorem d_QF_canChangeQuery_7 : decode b_QF_canChangeQuery 7 = .ok (.ifCond .ne 17, 3) := by decide +kernel
theorem d_QF_canChangeQuery_10 : decode b_QF_canChangeQuery 10 = .ok (.aload_n 0, 1) := by decide +kernel
theorem d_QF_canChangeQuery_11 : decode b_QF_canChangeQuery 11 = .ok (.getfield 25, 3) := by decide +kernel
theorem d_QF_canChangeQuery_14 : decode b_QF_canChangeQuery 14 = .ok (.getfield 206, 3) := by decide +kernel
theorem d_QF_canChangeQuery_17 : decode b_QF_canChangeQuery 17 = .ok (.ifCond .eq 7, 3) := by decide +kernel
theorem d_QF_canChangeQuery_20 : decode b_QF_canChangeQuery 20 = .ok (.iconst 1, 1) := by decide +kernel
theorem d_QF_canChangeQuery_21 : decode b_QF_canChangeQuery 21 = .ok (.goto 4, 3) := by decide +kernel
theorem d_QF_canChangeQuery_24 : decode b_QF_canChangeQuery 24 = .ok (.iconst 0, 1) := by decide +kernel
theorem d_QF_canChangeQuery_25 : decode b_QF_canChangeQuery 25 = .ok (.ireturn, 1) := by decide +kernel
theorem d_QF_isWorker_0 : decode b_QF_isWorker 0 = .ok (.aload_n 0, 1) := by decide +kernel
theorem d_QF_isWorker_1 : decode b_QF_isWorker 1 = .ok (.getfield 36, 3) := by decide +kernel
theorem d_QF_isWorker_4 : decode b_QF_isWorker 4 = .ok (.getfield 40, 3) := by decide +kernel
theorem d_QF_isWorker_7 : decode b_QF_isWorker 7 = .ok (.ifCond .eq 21, 3) := by decide +kernel
theorem d_QF_isWorker_10 : decode b_QF_isWorker 10 = .ok (.iload_n 1, 1) := by decide +kernel
theorem d_QF_isWorker_11 : decode b_QF_isWorker 11 = .ok (.aload_n 0, 1) := by decide +kernel
theorem d_QF_isWorker_12 : decode b_QF_isWorker 12 = .ok (.getfield 36, 3) := by decide +kernel
theorem d_QF_isWorker_15 : decode b_QF_isWorker 15 = .ok (.getfield 209, 3) := by decide +kernel
theorem d_QF_isWorker_18 : decode b_QF_isWorker 18 = .ok (.invokestatic 44, 3) := by decide +kernel
theorem d_QF_isWorker_21 : decode b_QF_isWorker 21 = .ok (.ifCond .eq 7, 3) := by decide +kernel
theorem d_QF_isWorker_24 : decode b_QF_isWorker 24 = .ok (.iconst 1, 1) := by decide +kernel
theorem d_QF_isWorker_25 : decode b_QF_isWorker 25 = .ok (.goto 4, 3) := by decide +kernel
theorem d_QF_isWorker_28 : decode b_QF_isWorker 28 = .ok (.iconst 0, 1) := by decide +kernel
theorem d_QF_isWorker_29 : decode b_QF_isWorker 29 = .ok (.ireturn, 1) := by decide +kernel
theorem d_QF_hasResult_0 : decode b_QF_hasResult 0 = .ok (.aload_n 0, 1) := by decide +kernel
theorem d_QF_hasResult_1 : decode b_QF_hasResult 1 = .ok (.getfield 36, 3) := by decide +kernel
theorem d_QF_hasResult_4 : decode b_QF_hasResult 4 = .ok (.getfield 40, 3) := by decide +kernel
theorem d_QF_hasResult_7 : decode b_QF_hasResult 7 = .ok (.ifCond .ne 17, 3) := by decide +kernel
theorem d_QF_hasResult_10 : decode b_QF_hasResult 10 = .ok (.aload_n 0, 1) := by decide +kernel
theorem d_QF_hasResult_11 : decode b_QF_hasResult 11 = .ok (.getfield 36, 3) := by decide +kernel
theorem d_QF_hasResult_14 : decode b_QF_hasResult 14 = .ok (.getfield 134, 3) := by decide +kernel
theorem d_QF_hasResult_17 : decode b_QF_hasResult 17 = .ok (.ifCond .le 7, 3) := by decide +kernel
theorem d_QF_hasResult_20 : decode b_QF_hasResult 20 = .ok (.iconst 1, 1) := by decide +kernel
theorem d_QF_hasResult_21 : decode b_QF_hasResult 21 = .ok (.goto 4, 3) := by decide +kernel
theorem d_QF_hasResult_24 : decode b_QF_hasResult 24 = .ok (.iconst 0, 1) := by decide +kernel
theorem d_QF_hasResult_25 : decode b_QF_hasResult 25 = .ok (.ireturn, 1) := by decide +kernel
theorem d_QF_hasCell_0 : decode b_QF_hasCell 0 = .ok (.aload_n 0, 1) := by decide +kernel
theorem d_QF_hasCell_1 : decode b_QF_hasCell 1 = .ok (.invokevirtual 182, 3) := by decide +kernel
theorem d_QF_hasCell_4 : decode b_QF_hasCell 4 = .ok (.ifCond .eq 35, 3) := by decide +kernel
theorem d_QF_hasCell_7 : decode b_QF_hasCell 7 = .ok (.iload_n 1, 1) := by decide +kernel
theorem d_QF_hasCell_8 : decode b_QF_hasCell 8 = .ok (.aload_n 0, 1) := by decide +kernel
theorem d_QF_hasCell_9 : decode b_QF_hasCell 9 = .ok (.getfield 29, 3) := by decide +kernel
theorem d_QF_hasCell_12 : decode b_QF_hasCell 12 = .ok (.getfield 185, 3) := by decide +kernel
theorem d_QF_hasCell_15 : decode b_QF_hasCell 15 = .ok (.invokestatic 44, 3) := by decide +kernel
theorem d_QF_hasCell_18 : decode b_QF_hasCell 18 = .ok (.ifCond .eq 21, 3) := by decide +kernel
theorem d_QF_hasCell_21 : decode b_QF_hasCell 21 = .ok (.iload_n 2, 1) := by decide +kernel
theorem d_QF_hasCell_22 : decode b_QF_hasCell 22 = .ok (.aload_n 0, 1) := by decide +kernel
theorem d_QF_hasCell_23 : decode b_QF_hasCell 23 = .ok (.getfield 29, 3) := by decide +kernel
theorem d_QF_hasCell_26 : decode b_QF_hasCell 26 = .ok (.getfield 188, 3) := by decide +kernel
theorem d_QF_hasCell_29 : decode b_QF_hasCell 29 = .ok (.invokestatic 44, 3) := by decide +kernel
theorem d_QF_hasCell_32 : decode b_QF_hasCell 32 = .ok (.ifCond .eq 7, 3) := by decide +kernel
theorem d_QF_hasCell_35 : decode b_QF_hasCell 35 = .ok (.iconst 1, 1) := by decide +kernel
theorem d_QF_hasCell_36 : decode b_QF_hasCell 36 = .ok (.goto 4, 3) := by decide +kernel
theorem d_QF_hasCell_39 : decode b_QF_hasCell 39 = .ok (.iconst 0, 1) := by decide +kernel
theorem d_QF_hasCell_40 : decode b_QF_hasCell 40 = .ok (.ireturn, 1) := by decide +kernel
theorem d_Ag_init_0 : decode b_Ag_init 0 = .ok (.aload_n 0, 1) := by decide +kernel
theorem d_Ag_init_1 : decode b_Ag_init 1 = .ok (.invokespecial 3, 3) := by decide +kernel
theorem d_Ag_init_4 : decode b_Ag_init 4 = .ok (.return_, 1) := by decide +kernel
theorem d_Ag_clear_0 : decode b_Ag_clear 0 = .ok (.aload_n 0, 1) := by decide +kernel
theorem d_Ag_clear_1 : decode b_Ag_clear 1 = .ok (.lconst 0, 1) := by decide +kernel
theorem d_Ag_clear_2 : decode b_Ag_clear 2 = .ok (.putfield 9, 3) := by decide +kernel
theorem d_Ag_clear_5 : decode b_Ag_clear 5 = .ok (.aload_n 0, 1) := by decide +kernel
theorem d_Ag_clear_6 : decode b_Ag_clear 6 = .ok (.lconst 0, 1) := by decide +kernel
theorem d_Ag_clear_7 : decode b_Ag_clear 7 = .ok (.putfield 15, 3) := by decide +kernel
theorem d_Ag_clear_10 : decode b_Ag_clear 10 = .ok (.aload_n 0, 1) := by decide +kernel
theorem d_Ag_clear_11 : decode b_Ag_clear 11 = .ok (.lconst 0, 1) := by decide +kernel
theorem d_Ag_clear_12 : decode b_Ag_clear 12 = .ok (.putfield 18, 3) := by decide +kernel
theorem d_Ag_clear_15 : decode b_Ag_clear 15 = .ok (.aload_n 0, 1) := by decide +kernel
theorem d_Ag_clear_16 : decode b_Ag_clear 16 = .ok (.lconst 0, 1) := by decide +kernel
theorem d_Ag_clear_17 : decode b_Ag_clear 17 = .ok (.putfield 21, 3) := by decide +kernel
theorem d_Ag_clear_20 : decode b_Ag_clear 20 = .ok (.aload_n 0, 1) := by decide +kernel
theorem d_Ag_clear_21 : decode b_Ag_clear 21 = .ok (.ldc2_w 24, 3) := by decide +kernel
theorem d_Ag_clear_24 : decode b_Ag_clear 24 = .ok (.putfield 26, 3) := by decide +kernel
theorem d_Ag_clear_27 : decode b_Ag_clear 27 = .ok (.aload_n 0, 1) := by decide +kernel
theorem d_Ag_clear_28 : decode b_Ag_clear 28 = .ok (.ldc2_w 29, 3) := by decide +kernel
theorem d_Ag_clear_31 : decode b_Ag_clear 31 = .ok (.putfield 31, 3) := by decide +kernel
theorem d_Ag_clear_34 : decode b_Ag_clear 34 = .ok (.return_, 1) := by decide +kernel
theorem d_Ag_add_0 : decode b_Ag_add 0 = .ok (.aload_n 0, 1) := by decide +kernel
theorem d_Ag_add_1 : decode b_Ag_add 1 = .ok (.dup, 1) := by decide +kernel
theorem d_Ag_add_2 : decode b_Ag_add 2 = .ok (.getfield 9, 3) := by decide +kernel
theorem d_Ag_add_5 : decode b_Ag_add 5 = .ok (.lconst 1, 1) := by decide +kernel
theorem d_Ag_add_6 : decode b_Ag_add 6 = .ok (.ladd, 1) := by decide +kernel
theorem d_Ag_add_7 : decode b_Ag_add 7 = .ok (.putfield 9, 3) := by decide +kernel
theorem d_Ag_add_10 : decode b_Ag_add 10 = .ok (.iload_n 3, 1) := by decide +kernel
theorem d_Ag_add_11 : decode b_Ag_add 11 = .ok (.ifCond .eq 4, 3) := by decide +kernel
theorem d_Ag_add_14 : decode b_Ag_add 14 = .ok (.return_, 1) := by decide +kernel
theorem d_Ag_add_15 : decode b_Ag_add 15 = .ok (.aload_n 0, 1) := by decide +kernel
theorem d_Ag_add_16 : decode b_Ag_add 16 = .ok (.dup, 1) := by decide +kernel
theorem d_Ag_add_17 : decode b_Ag_add 17 = .ok (.getfield 15, 3) := by decide +kernel
theorem d_Ag_add_20 : decode b_Ag_add 20 = .ok (.lconst 1, 1) := by decide +kernel
theorem d_Ag_add_21 : decode b_Ag_add 21 = .ok (.ladd, 1) := by decide +kernel
theorem d_Ag_add_22 : decode b_Ag_add 22 = .ok (.putfield 15, 3) := by decide +kernel
theorem d_Ag_add_25 : decode b_Ag_add 25 = .ok (.aload_n 0, 1) := by decide +kernel
theorem d_Ag_add_26 : decode b_Ag_add 26 = .ok (.dup, 1) := by decide +kernel
theorem d_Ag_add_27 : decode b_Ag_add 27 = .ok (.getfield 18, 3) := by decide +kernel
theorem d_Ag_add_30 : decode b_Ag_add 30 = .ok (.lload_n 1, 1) := by decide +kernel
theorem d_Ag_add_31 : decode b_Ag_add 31 = .ok (.bipush 32, 2) := by decide +kernel
theorem d_Ag_add_33 : decode b_Ag_add 33 = .ok (.lshr, 1) := by decide +kernel
theorem d_Ag_add_34 : decode b_Ag_add 34 = .ok (.ladd, 1) := by decide +kernel
theorem d_Ag_add_35 : decode b_Ag_add 35 = .ok (.putfield 18, 3) := by decide +kernel
theorem d_Ag_add_38 : decode b_Ag_add 38 = .ok (.aload_n 0, 1) := by decide +kernel
theorem d_Ag_add_39 : decode b_Ag_add 39 = .ok (.dup, 1) := by decide +kernel
theorem d_Ag_add_40 : decode b_Ag_add 40 = .ok (.getfield 21, 3) := by decide +kernel
theorem d_Ag_add_43 : decode b_Ag_add 43 = .ok (.lload_n 1, 1) := by decide +kernel
theorem d_Ag_add_44 : decode b_Ag_add 44 = .ok (.ldc2_w 34, 3) := by decide +kernel
theorem d_Ag_add_47 : decode b_Ag_add 47 = .ok (.land, 1) := by decide +kernel
theorem d_Ag_add_48 : decode b_Ag_add 48 = .ok (.ladd, 1) := by decide +kernel
theorem d_Ag_add_49 : decode b_Ag_add 49 = .ok (.putfield 21, 3) := by decide +kernel
theorem d_Ag_add_52 : decode b_Ag_add 52 = .ok (.aload_n 0, 1) := by decide +kernel
theorem d_Ag_add_53 : decode b_Ag_add 53 = .ok (.aload_n 0, 1) := by decide +kernel
theorem d_Ag_add_54 : decode b_Ag_add 54 = .ok (.getfield 26, 3) := by decide +kernel
theorem d_Ag_add_57 : decode b_Ag_add 57 = .ok (.lload_n 1, 1) := by decide +kernel
theorem d_Ag_add_58 : decode b_Ag_add 58 = .ok (.invokestatic 36, 3) := by decide +kernel
theorem d_Ag_add_61 : decode b_Ag_add 61 = .ok (.putfield 26, 3) := by decide +kernel
theorem d_Ag_add_64 : decode b_Ag_add 64 = .ok (.aload_n 0, 1) := by decide +kernel
theorem d_Ag_add_65 : decode b_Ag_add 65 = .ok (.aload_n 0, 1) := by decide +kernel
theorem d_Ag_add_66 : decode b_Ag_add 66 = .ok (.getfield 31, 3) := by decide +kernel
theorem d_Ag_add_69 : decode b_Ag_add 69 = .ok (.lload_n 1, 1) := by decide +kernel
theorem d_Ag_add_70 : decode b_Ag_add 70 = .ok (.invokestatic 42, 3) := by decide +kernel
theorem d_Ag_add_73 : decode b_Ag_add 73 = .ok (.putfield 31, 3) := by decide +kernel
theorem d_Ag_add_76 : decode b_Ag_add 76 = .ok (.return_, 1) := by decide +kernel
theorem d_Ag_isNull_0 : decode b_Ag_isNull 0 = .ok (.iload_n 1, 1) := by decide +kernel
theorem d_Ag_isNull_1 : decode b_Ag_isNull 1 = .ok (.iconst 1, 1) := by decide +kernel
theorem d_Ag_isNull_2 : decode b_Ag_isNull 2 = .ok (.if_icmp .eq 8, 3) := by decide +kernel
theorem d_Ag_isNull_5 : decode b_Ag_isNull 5 = .ok (.iload_n 1, 1) := by decide +kernel
theorem d_Ag_isNull_6 : decode b_Ag_isNull 6 = .ok (.iconst 2, 1) := by decide +kernel
theorem d_Ag_isNull_7 : decode b_Ag_isNull 7 = .ok (.if_icmp .ne 5, 3) := by decide +kernel
theorem d_Ag_isNull_10 : decode b_Ag_isNull 10 = .ok (.iconst 0, 1) := by decide +kernel
theorem d_Ag_isNull_11 : decode b_Ag_isNull 11 = .ok (.ireturn, 1) := by decide +kernel
theorem d_Ag_isNull_12 : decode b_Ag_isNull 12 = .ok (.aload_n 0, 1) := by decide +kernel
theorem d_Ag_isNull_13 : decode b_Ag_isNull 13 = .ok (.getfield 15, 3) := by decide +kernel
theorem d_Ag_isNull_16 : decode b_Ag_isNull 16 = .ok (.lconst 0, 1) := by decide +kernel
theorem d_Ag_isNull_17 : decode b_Ag_isNull 17 = .ok (.lcmp, 1) := by decide +kernel
theorem d_Ag_isNull_18 : decode b_Ag_isNull 18 = .ok (.ifCond .eq 15, 3) := by decide +kernel
theorem d_Ag_isNull_21 : decode b_Ag_isNull 21 = .ok (.iload_n 1, 1) := by decide +kernel
theorem d_Ag_isNull_22 : decode b_Ag_isNull 22 = .ok (.iconst 3, 1) := by decide +kernel
theorem d_Ag_isNull_23 : decode b_Ag_isNull 23 = .ok (.if_icmp .ne 14, 3) := by decide +kernel
theorem d_Ag_isNull_26 : decode b_Ag_isNull 26 = .ok (.aload_n 0, 1) := by decide +kernel
theorem d_Ag_isNull_27 : decode b_Ag_isNull 27 = .ok (.invokevirtual 45, 3) := by decide +kernel
theorem d_Ag_isNull_30 : decode b_Ag_isNull 30 = .ok (.ifCond .ne 7, 3) := by decide +kernel
theorem d_Ag_isNull_33 : decode b_Ag_isNull 33 = .ok (.iconst 1, 1) := by decide +kernel
theorem d_Ag_isNull_34 : decode b_Ag_isNull 34 = .ok (.goto 4, 3) := by decide +kernel
theorem d_Ag_isNull_37 : decode b_Ag_isNull 37 = .ok (.iconst 0, 1) := by decide +kernel
theorem d_Ag_isNull_38 : decode b_Ag_isNull 38 = .ok (.ireturn, 1) := by decide +kernel
theorem d_Ag_value_0 : decode b_Ag_value 0 = .ok (.iload_n 1, 1) := by decide +kernel
theorem d_Ag_value_1 : decode b_Ag_value 1 = .ok (.tableswitch 68 1 5 #[35, 40, 45, 58, 63], 35) := by decide +kernel
theorem d_Ag_value_36 : decode b_Ag_value 36 = .ok (.aload_n 0, 1) := by decide +kernel
theorem d_Ag_value_37 : decode b_Ag_value 37 = .ok (.getfield 9, 3) := by decide +kernel
theorem d_Ag_value_40 : decode b_Ag_value 40 = .ok (.lreturn, 1) := by decide +kernel
theorem d_Ag_value_41 : decode b_Ag_value 41 = .ok (.aload_n 0, 1) := by decide +kernel
theorem d_Ag_value_42 : decode b_Ag_value 42 = .ok (.getfield 15, 3) := by decide +kernel
theorem d_Ag_value_45 : decode b_Ag_value 45 = .ok (.lreturn, 1) := by decide +kernel
theorem d_Ag_value_46 : decode b_Ag_value 46 = .ok (.aload_n 0, 1) := by decide +kernel
theorem d_Ag_value_47 : decode b_Ag_value 47 = .ok (.getfield 18, 3) := by decide +kernel
theorem d_Ag_value_50 : decode b_Ag_value 50 = .ok (.bipush 32, 2) := by decide +kernel
theorem d_Ag_value_52 : decode b_Ag_value 52 = .ok (.lshl, 1) := by decide +kernel
theorem d_Ag_value_53 : decode b_Ag_value 53 = .ok (.aload_n 0, 1) := by decide +kernel
theorem d_Ag_value_54 : decode b_Ag_value 54 = .ok (.getfield 21, 3) := by decide +kernel
theorem d_Ag_value_57 : decode b_Ag_value 57 = .ok (.ladd, 1) := by decide +kernel
theorem d_Ag_value_58 : decode b_Ag_value 58 = .ok (.lreturn, 1) := by decide +kernel
theorem d_Ag_value_59 : decode b_Ag_value 59 = .ok (.aload_n 0, 1) := by decide +kernel
theorem d_Ag_value_60 : decode b_Ag_value 60 = .ok (.getfield 26, 3) := by decide +kernel
theorem d_Ag_value_63 : decode b_Ag_value 63 = .ok (.lreturn, 1) := by decide +kernel
theorem d_Ag_value_64 : decode b_Ag_value 64 = .ok (.aload_n 0, 1) := by decide +kernel
theorem d_Ag_value_65 : decode b_Ag_value 65 = .ok (.getfield 31, 3) := by decide +kernel
theorem d_Ag_value_68 : decode b_Ag_value 68 = .ok (.lreturn, 1) := by decide +kernel
theorem d_Ag_value_69 : decode b_Ag_value 69 = .ok (.lconst 0, 1) := by decide +kernel
theorem d_Ag_value_70 : decode b_Ag_value 70 = .ok (.lreturn, 1) := by decide +kernel
theorem d_Ag_hasSum_0 : decode b_Ag_hasSum 0 = .ok (.aload_n 0, 1) := by decide +kernel
theorem d_Ag_hasSum_1 : decode b_Ag_hasSum 1 = .ok (.getfield 18, 3) := by decide +kernel
theorem d_Ag_hasSum_4 : decode b_Ag_hasSum 4 = .ok (.aload_n 0, 1) := by decide +kernel
theorem d_Ag_hasSum_5 : decode b_Ag_hasSum 5 = .ok (.getfield 21, 3) := by decide +kernel
theorem d_Ag_hasSum_8 : decode b_Ag_hasSum 8 = .ok (.bipush 32, 2) := by decide +kernel
theorem d_Ag_hasSum_10 : decode b_Ag_hasSum 10 = .ok (.lshr, 1) := by decide +kernel
theorem d_Ag_hasSum_11 : decode b_Ag_hasSum 11 = .ok (.ladd, 1) := by decide +kernel
theorem d_Ag_hasSum_12 : decode b_Ag_hasSum 12 = .ok (.lstore_n 1, 1) := by decide +kernel
theorem d_Ag_hasSum_13 : decode b_Ag_hasSum 13 = .ok (.lload_n 1, 1) := by decide +kernel
theorem d_Ag_hasSum_14 : decode b_Ag_hasSum 14 = .ok (.lload_n 1, 1) := by decide +kernel
theorem d_Ag_hasSum_15 : decode b_Ag_hasSum 15 = .ok (.l2i, 1) := by decide +kernel
theorem d_Ag_hasSum_16 : decode b_Ag_hasSum 16 = .ok (.i2l, 1) := by decide +kernel
theorem d_Ag_hasSum_17 : decode b_Ag_hasSum 17 = .ok (.lcmp, 1) := by decide +kernel
theorem d_Ag_hasSum_18 : decode b_Ag_hasSum 18 = .ok (.ifCond .ne 7, 3) := by decide +kernel
theorem d_Ag_hasSum_21 : decode b_Ag_hasSum 21 = .ok (.iconst 1, 1) := by decide +kernel
theorem d_Ag_hasSum_22 : decode b_Ag_hasSum 22 = .ok (.goto 4, 3) := by decide +kernel
theorem d_Ag_hasSum_25 : decode b_Ag_hasSum 25 = .ok (.iconst 0, 1) := by decide +kernel
theorem d_Ag_hasSum_26 : decode b_Ag_hasSum 26 = .ok (.ireturn, 1) := by decide +kernel
theorem d_Ex_init_0 : decode b_Ex_init 0 = .ok (.aload_n 0, 1) := by decide +kernel
theorem d_Ex_init_1 : decode b_Ex_init 1 = .ok (.invokespecial 3, 3) := by decide +kernel
theorem d_Ex_init_4 : decode b_Ex_init 4 = .ok (.aload_n 0, 1) := by decide +kernel
theorem d_Ex_init_5 : decode b_Ex_init 5 = .ok (.bipush 24, 2) := by decide +kernel
theorem d_Ex_init_7 : decode b_Ex_init 7 = .ok (.newarray .int, 2) := by decide +kernel
theorem d_Ex_init_9 : decode b_Ex_init 9 = .ok (.putfield 9, 3) := by decide +kernel
theorem d_Ex_init_12 : decode b_Ex_init 12 = .ok (.aload_n 0, 1) := by decide +kernel
theorem d_Ex_init_13 : decode b_Ex_init 13 = .ok (.bipush 24, 2) := by decide +kernel
theorem d_Ex_init_15 : decode b_Ex_init 15 = .ok (.newarray .int, 2) := by decide +kernel
theorem d_Ex_init_17 : decode b_Ex_init 17 = .ok (.putfield 15, 3) := by decide +kernel
theorem d_Ex_init_20 : decode b_Ex_init 20 = .ok (.return_, 1) := by decide +kernel
theorem d_Ex_clear_0 : decode b_Ex_clear 0 = .ok (.aload_n 0, 1) := by decide +kernel
theorem d_Ex_clear_1 : decode b_Ex_clear 1 = .ok (.iconst 0, 1) := by decide +kernel
theorem d_Ex_clear_2 : decode b_Ex_clear 2 = .ok (.putfield 18, 3) := by decide +kernel
theorem d_Ex_clear_5 : decode b_Ex_clear 5 = .ok (.aload_n 0, 1) := by decide +kernel
theorem d_Ex_clear_6 : decode b_Ex_clear 6 = .ok (.iconst 0, 1) := by decide +kernel
theorem d_Ex_clear_7 : decode b_Ex_clear 7 = .ok (.putfield 22, 3) := by decide +kernel
theorem d_Ex_clear_10 : decode b_Ex_clear 10 = .ok (.aload_n 0, 1) := by decide +kernel
theorem d_Ex_clear_11 : decode b_Ex_clear 11 = .ok (.iconst 0, 1) := by decide +kernel
theorem d_Ex_clear_12 : decode b_Ex_clear 12 = .ok (.putfield 26, 3) := by decide +kernel
theorem d_Ex_clear_15 : decode b_Ex_clear 15 = .ok (.return_, 1) := by decide +kernel
theorem d_Ex_addPart_0 : decode b_Ex_addPart 0 = .ok (.aload_n 0, 1) := by decide +kernel
theorem d_Ex_addPart_1 : decode b_Ex_addPart 1 = .ok (.getfield 18, 3) := by decide +kernel
theorem d_Ex_addPart_4 : decode b_Ex_addPart 4 = .ok (.bipush 24, 2) := by decide +kernel
theorem d_Ex_addPart_6 : decode b_Ex_addPart 6 = .ok (.if_icmp .lt 4, 3) := by decide +kernel
theorem d_Ex_addPart_9 : decode b_Ex_addPart 9 = .ok (.return_, 1) := by decide +kernel
theorem d_Ex_addPart_10 : decode b_Ex_addPart 10 = .ok (.aload_n 0, 1) := by decide +kernel
theorem d_Ex_addPart_11 : decode b_Ex_addPart 11 = .ok (.getfield 9, 3) := by decide +kernel
theorem d_Ex_addPart_14 : decode b_Ex_addPart 14 = .ok (.aload_n 0, 1) := by decide +kernel
theorem d_Ex_addPart_15 : decode b_Ex_addPart 15 = .ok (.getfield 18, 3) := by decide +kernel
theorem d_Ex_addPart_18 : decode b_Ex_addPart 18 = .ok (.iload_n 1, 1) := by decide +kernel
theorem d_Ex_addPart_19 : decode b_Ex_addPart 19 = .ok (.iastore, 1) := by decide +kernel
theorem d_Ex_addPart_20 : decode b_Ex_addPart 20 = .ok (.aload_n 0, 1) := by decide +kernel
theorem d_Ex_addPart_21 : decode b_Ex_addPart 21 = .ok (.getfield 15, 3) := by decide +kernel
theorem d_Ex_addPart_24 : decode b_Ex_addPart 24 = .ok (.aload_n 0, 1) := by decide +kernel
theorem d_Ex_addPart_25 : decode b_Ex_addPart 25 = .ok (.getfield 18, 3) := by decide +kernel
theorem d_Ex_addPart_28 : decode b_Ex_addPart 28 = .ok (.iload_n 2, 1) := by decide +kernel
theorem d_Ex_addPart_29 : decode b_Ex_addPart 29 = .ok (.iastore, 1) := by decide +kernel
theorem d_Ex_addPart_30 : decode b_Ex_addPart 30 = .ok (.aload_n 0, 1) := by decide +kernel
theorem d_Ex_addPart_31 : decode b_Ex_addPart 31 = .ok (.dup, 1) := by decide +kernel
theorem d_Ex_addPart_32 : decode b_Ex_addPart 32 = .ok (.getfield 18, 3) := by decide +kernel
theorem d_Ex_addPart_35 : decode b_Ex_addPart 35 = .ok (.iconst 1, 1) := by decide +kernel
theorem d_Ex_addPart_36 : decode b_Ex_addPart 36 = .ok (.iadd, 1) := by decide +kernel
theorem d_Ex_addPart_37 : decode b_Ex_addPart 37 = .ok (.putfield 18, 3) := by decide +kernel
theorem d_Ex_addPart_40 : decode b_Ex_addPart 40 = .ok (.iload_n 1, 1) := by decide +kernel
theorem d_Ex_addPart_41 : decode b_Ex_addPart 41 = .ok (.bipush 10, 2) := by decide +kernel
theorem d_Ex_addPart_43 : decode b_Ex_addPart 43 = .ok (.if_icmp .ne 15, 3) := by decide +kernel
theorem d_Ex_addPart_46 : decode b_Ex_addPart 46 = .ok (.aload_n 0, 1) := by decide +kernel
theorem d_Ex_addPart_47 : decode b_Ex_addPart 47 = .ok (.dup, 1) := by decide +kernel
theorem d_Ex_addPart_48 : decode b_Ex_addPart 48 = .ok (.getfield 26, 3) := by decide +kernel
theorem d_Ex_addPart_51 : decode b_Ex_addPart 51 = .ok (.iconst 1, 1) := by decide +kernel
theorem d_Ex_addPart_52 : decode b_Ex_addPart 52 = .ok (.iload_n 2, 1) := by decide +kernel
theorem d_Ex_addPart_53 : decode b_Ex_addPart 53 = .ok (.ishl, 1) := by decide +kernel
theorem d_Ex_addPart_54 : decode b_Ex_addPart 54 = .ok (.ior, 1) := by decide +kernel
theorem d_Ex_addPart_55 : decode b_Ex_addPart 55 = .ok (.putfield 26, 3) := by decide +kernel
theorem d_Ex_addPart_58 : decode b_Ex_addPart 58 = .ok (.return_, 1) := by decide +kernel
theorem d_Ex_addAll_0 : decode b_Ex_addAll 0 = .ok (.iconst 0, 1) := by decide +kernel
theorem d_Ex_addAll_1 : decode b_Ex_addAll 1 = .ok (.istore_n 2, 1) := by decide +kernel
theorem d_Ex_addAll_2 : decode b_Ex_addAll 2 = .ok (.iload_n 2, 1) := by decide +kernel
theorem d_Ex_addAll_3 : decode b_Ex_addAll 3 = .ok (.aload_n 1, 1) := by decide +kernel
theorem d_Ex_addAll_4 : decode b_Ex_addAll 4 = .ok (.getfield 18, 3) := by decide +kernel
theorem d_Ex_addAll_7 : decode b_Ex_addAll 7 = .ok (.if_icmp .ge 25, 3) := by decide +kernel
theorem d_Ex_addAll_10 : decode b_Ex_addAll 10 = .ok (.aload_n 0, 1) := by decide +kernel
theorem d_Ex_addAll_11 : decode b_Ex_addAll 11 = .ok (.aload_n 1, 1) := by decide +kernel
theorem d_Ex_addAll_12 : decode b_Ex_addAll 12 = .ok (.getfield 9, 3) := by decide +kernel
theorem d_Ex_addAll_15 : decode b_Ex_addAll 15 = .ok (.iload_n 2, 1) := by decide +kernel
theorem d_Ex_addAll_16 : decode b_Ex_addAll 16 = .ok (.iaload, 1) := by decide +kernel
theorem d_Ex_addAll_17 : decode b_Ex_addAll 17 = .ok (.aload_n 1, 1) := by decide +kernel
theorem d_Ex_addAll_18 : decode b_Ex_addAll 18 = .ok (.getfield 15, 3) := by decide +kernel
theorem d_Ex_addAll_21 : decode b_Ex_addAll 21 = .ok (.iload_n 2, 1) := by decide +kernel
theorem d_Ex_addAll_22 : decode b_Ex_addAll 22 = .ok (.iaload, 1) := by decide +kernel
theorem d_Ex_addAll_23 : decode b_Ex_addAll 23 = .ok (.invokevirtual 29, 3) := by decide +kernel
theorem d_Ex_addAll_26 : decode b_Ex_addAll 26 = .ok (.iinc 2 1, 3) := by decide +kernel
theorem d_Ex_addAll_29 : decode b_Ex_addAll 29 = .ok (.goto (-27), 3) := by decide +kernel
theorem d_Ex_addAll_32 : decode b_Ex_addAll 32 = .ok (.return_, 1) := by decide +kernel
theorem d_Ex_namesFirst_0 : decode b_Ex_namesFirst 0 = .ok (.aload_n 0, 1) := by decide +kernel
theorem d_Ex_namesFirst_1 : decode b_Ex_namesFirst 1 = .ok (.getfield 26, 3) := by decide +kernel
theorem d_Ex_namesFirst_4 : decode b_Ex_namesFirst 4 = .ok (.iconst 3, 1) := by decide +kernel
theorem d_Ex_namesFirst_5 : decode b_Ex_namesFirst 5 = .ok (.iand, 1) := by decide +kernel
theorem d_Ex_namesFirst_6 : decode b_Ex_namesFirst 6 = .ok (.ifCond .eq 7, 3) := by decide +kernel
theorem d_Ex_namesFirst_9 : decode b_Ex_namesFirst 9 = .ok (.iconst 1, 1) := by decide +kernel
theorem d_Ex_namesFirst_10 : decode b_Ex_namesFirst 10 = .ok (.goto 4, 3) := by decide +kernel
theorem d_Ex_namesFirst_13 : decode b_Ex_namesFirst 13 = .ok (.iconst 0, 1) := by decide +kernel
theorem d_Ex_namesFirst_14 : decode b_Ex_namesFirst 14 = .ok (.ireturn, 1) := by decide +kernel
theorem d_Ex_namesSecond_0 : decode b_Ex_namesSecond 0 = .ok (.aload_n 0, 1) := by decide +kernel
theorem d_Ex_namesSecond_1 : decode b_Ex_namesSecond 1 = .ok (.getfield 26, 3) := by decide +kernel
theorem d_Ex_namesSecond_4 : decode b_Ex_namesSecond 4 = .ok (.bipush 12, 2) := by decide +kernel
theorem d_Ex_namesSecond_6 : decode b_Ex_namesSecond 6 = .ok (.iand, 1) := by decide +kernel
theorem d_Ex_namesSecond_7 : decode b_Ex_namesSecond 7 = .ok (.ifCond .eq 7, 3) := by decide +kernel
theorem d_Ex_namesSecond_10 : decode b_Ex_namesSecond 10 = .ok (.iconst 1, 1) := by decide +kernel
theorem d_Ex_namesSecond_11 : decode b_Ex_namesSecond 11 = .ok (.goto 4, 3) := by decide +kernel
theorem d_Ex_namesSecond_14 : decode b_Ex_namesSecond 14 = .ok (.iconst 0, 1) := by decide +kernel
theorem d_Ex_namesSecond_15 : decode b_Ex_namesSecond 15 = .ok (.ireturn, 1) := by decide +kernel
theorem d_Jo_init_0 : decode b_Jo_init 0 = .ok (.aload_n 0, 1) := by decide +kernel
theorem d_Jo_init_1 : decode b_Jo_init 1 = .ok (.invokespecial 3, 3) := by decide +kernel
theorem d_Jo_init_4 : decode b_Jo_init 4 = .ok (.aload_n 0, 1) := by decide +kernel
theorem d_Jo_init_5 : decode b_Jo_init 5 = .ok (.bipush 16, 2) := by decide +kernel
theorem d_Jo_init_7 : decode b_Jo_init 7 = .ok (.anewarray 9, 3) := by decide +kernel
theorem d_Jo_init_10 : decode b_Jo_init 10 = .ok (.putfield 11, 3) := by decide +kernel
theorem d_Jo_init_13 : decode b_Jo_init 13 = .ok (.aload_n 0, 1) := by decide +kernel
theorem d_Jo_init_14 : decode b_Jo_init 14 = .ok (.new 17, 3) := by decide +kernel
theorem d_Jo_init_17 : decode b_Jo_init 17 = .ok (.dup, 1) := by decide +kernel
theorem d_Jo_init_18 : decode b_Jo_init 18 = .ok (.bipush 68, 2) := by decide +kernel
theorem d_Jo_init_20 : decode b_Jo_init 20 = .ok (.invokespecial 19, 3) := by decide +kernel
theorem d_Jo_init_23 : decode b_Jo_init 23 = .ok (.putfield 22, 3) := by decide +kernel
theorem d_Jo_init_26 : decode b_Jo_init 26 = .ok (.aload_n 0, 1) := by decide +kernel
theorem d_Jo_init_27 : decode b_Jo_init 27 = .ok (.iconst 4, 1) := by decide +kernel
theorem d_Jo_init_28 : decode b_Jo_init 28 = .ok (.anewarray 17, 3) := by decide +kernel
theorem d_Jo_init_31 : decode b_Jo_init 31 = .ok (.putfield 26, 3) := by decide +kernel
theorem d_Jo_init_34 : decode b_Jo_init 34 = .ok (.iconst 0, 1) := by decide +kernel
theorem d_Jo_init_35 : decode b_Jo_init 35 = .ok (.istore_n 1, 1) := by decide +kernel
theorem d_Jo_init_36 : decode b_Jo_init 36 = .ok (.iload_n 1, 1) := by decide +kernel
theorem d_Jo_init_37 : decode b_Jo_init 37 = .ok (.aload_n 0, 1) := by decide +kernel
theorem d_Jo_init_38 : decode b_Jo_init 38 = .ok (.getfield 11, 3) := by decide +kernel
theorem d_Jo_init_41 : decode b_Jo_init 41 = .ok (.arraylength, 1) := by decide +kernel
theorem d_Jo_init_42 : decode b_Jo_init 42 = .ok (.if_icmp .ge 22, 3) := by decide +kernel
theorem d_Jo_init_45 : decode b_Jo_init 45 = .ok (.aload_n 0, 1) := by decide +kernel
theorem d_Jo_init_46 : decode b_Jo_init 46 = .ok (.getfield 11, 3) := by decide +kernel
theorem d_Jo_init_49 : decode b_Jo_init 49 = .ok (.iload_n 1, 1) := by decide +kernel
theorem d_Jo_init_50 : decode b_Jo_init 50 = .ok (.new 9, 3) := by decide +kernel
theorem d_Jo_init_53 : decode b_Jo_init 53 = .ok (.dup, 1) := by decide +kernel
theorem d_Jo_init_54 : decode b_Jo_init 54 = .ok (.invokespecial 30, 3) := by decide +kernel
theorem d_Jo_init_57 : decode b_Jo_init 57 = .ok (.aastore, 1) := by decide +kernel
theorem d_Jo_init_58 : decode b_Jo_init 58 = .ok (.iinc 1 1, 3) := by decide +kernel
theorem d_Jo_init_61 : decode b_Jo_init 61 = .ok (.goto (-25), 3) := by decide +kernel
theorem d_Jo_init_64 : decode b_Jo_init 64 = .ok (.iconst 0, 1) := by decide +kernel
theorem d_Jo_init_65 : decode b_Jo_init 65 = .ok (.istore_n 1, 1) := by decide +kernel
theorem d_Jo_init_66 : decode b_Jo_init 66 = .ok (.iload_n 1, 1) := by decide +kernel
theorem d_Jo_init_67 : decode b_Jo_init 67 = .ok (.iconst 4, 1) := by decide +kernel
theorem d_Jo_init_68 : decode b_Jo_init 68 = .ok (.if_icmp .ge 24, 3) := by decide +kernel
theorem d_Jo_init_71 : decode b_Jo_init 71 = .ok (.aload_n 0, 1) := by decide +kernel
theorem d_Jo_init_72 : decode b_Jo_init 72 = .ok (.getfield 26, 3) := by decide +kernel
theorem d_Jo_init_75 : decode b_Jo_init 75 = .ok (.iload_n 1, 1) := by decide +kernel
theorem d_Jo_init_76 : decode b_Jo_init 76 = .ok (.new 17, 3) := by decide +kernel
theorem d_Jo_init_79 : decode b_Jo_init 79 = .ok (.dup, 1) := by decide +kernel
theorem d_Jo_init_80 : decode b_Jo_init 80 = .ok (.bipush 12, 2) := by decide +kernel
theorem d_Jo_init_82 : decode b_Jo_init 82 = .ok (.invokespecial 19, 3) := by decide +kernel
theorem d_Jo_init_85 : decode b_Jo_init 85 = .ok (.aastore, 1) := by decide +kernel
theorem d_Jo_init_86 : decode b_Jo_init 86 = .ok (.iinc 1 1, 3) := by decide +kernel
theorem d_Jo_init_89 : decode b_Jo_init 89 = .ok (.goto (-23), 3) := by decide +kernel
theorem d_Jo_init_92 : decode b_Jo_init 92 = .ok (.return_, 1) := by decide +kernel
theorem d_Jo_clear_0 : decode b_Jo_clear 0 = .ok (.aload_n 0, 1) := by decide +kernel
theorem d_Jo_clear_1 : decode b_Jo_clear 1 = .ok (.iconst 1, 1) := by decide +kernel
theorem d_Jo_clear_2 : decode b_Jo_clear 2 = .ok (.putfield 31, 3) := by decide +kernel
theorem d_Jo_clear_5 : decode b_Jo_clear 5 = .ok (.aload_n 0, 1) := by decide +kernel
theorem d_Jo_clear_6 : decode b_Jo_clear 6 = .ok (.iload_n 1, 1) := by decide +kernel
theorem d_Jo_clear_7 : decode b_Jo_clear 7 = .ok (.putfield 35, 3) := by decide +kernel
theorem d_Jo_clear_10 : decode b_Jo_clear 10 = .ok (.aload_n 0, 1) := by decide +kernel
theorem d_Jo_clear_11 : decode b_Jo_clear 11 = .ok (.iconst 0, 1) := by decide +kernel
theorem d_Jo_clear_12 : decode b_Jo_clear 12 = .ok (.putfield 39, 3) := by decide +kernel
theorem d_Jo_clear_15 : decode b_Jo_clear 15 = .ok (.aload_n 0, 1) := by decide +kernel
theorem d_Jo_clear_16 : decode b_Jo_clear 16 = .ok (.iconst 0, 1) := by decide +kernel
theorem d_Jo_clear_17 : decode b_Jo_clear 17 = .ok (.putfield 42, 3) := by decide +kernel
theorem d_Jo_clear_20 : decode b_Jo_clear 20 = .ok (.aload_n 0, 1) := by decide +kernel
theorem d_Jo_clear_21 : decode b_Jo_clear 21 = .ok (.iconst 0, 1) := by decide +kernel
theorem d_Jo_clear_22 : decode b_Jo_clear 22 = .ok (.putfield 45, 3) := by decide +kernel
theorem d_Jo_clear_25 : decode b_Jo_clear 25 = .ok (.aload_n 0, 1) := by decide +kernel
theorem d_Jo_clear_26 : decode b_Jo_clear 26 = .ok (.invokevirtual 48, 3) := by decide +kernel
theorem d_Jo_clear_29 : decode b_Jo_clear 29 = .ok (.return_, 1) := by decide +kernel
theorem d_Jo_forgetMessages_0 : decode b_Jo_forgetMessages 0 = .ok (.aload_n 0, 1) := by decide +kernel
theorem d_Jo_forgetMessages_1 : decode b_Jo_forgetMessages 1 = .ok (.getfield 22, 3) := by decide +kernel
theorem d_Jo_forgetMessages_4 : decode b_Jo_forgetMessages 4 = .ok (.iconst 0, 1) := by decide +kernel
theorem d_Jo_forgetMessages_5 : decode b_Jo_forgetMessages 5 = .ok (.putfield 51, 3) := by decide +kernel
theorem d_Jo_forgetMessages_8 : decode b_Jo_forgetMessages 8 = .ok (.iconst 0, 1) := by decide +kernel
theorem d_Jo_forgetMessages_9 : decode b_Jo_forgetMessages 9 = .ok (.istore_n 1, 1) := by decide +kernel
theorem d_Jo_forgetMessages_10 : decode b_Jo_forgetMessages 10 = .ok (.iload_n 1, 1) := by decide +kernel
theorem d_Jo_forgetMessages_11 : decode b_Jo_forgetMessages 11 = .ok (.iconst 4, 1) := by decide +kernel
theorem d_Jo_forgetMessages_12 : decode b_Jo_forgetMessages 12 = .ok (.if_icmp .ge 19, 3) := by decide +kernel
theorem d_Jo_forgetMessages_15 : decode b_Jo_forgetMessages 15 = .ok (.aload_n 0, 1) := by decide +kernel
theorem d_Jo_forgetMessages_16 : decode b_Jo_forgetMessages 16 = .ok (.getfield 26, 3) := by decide +kernel
theorem d_Jo_forgetMessages_19 : decode b_Jo_forgetMessages 19 = .ok (.iload_n 1, 1) := by decide +kernel
theorem d_Jo_forgetMessages_20 : decode b_Jo_forgetMessages 20 = .ok (.aaload, 1) := by decide +kernel
theorem d_Jo_forgetMessages_21 : decode b_Jo_forgetMessages 21 = .ok (.iconst 0, 1) := by decide +kernel
theorem d_Jo_forgetMessages_22 : decode b_Jo_forgetMessages 22 = .ok (.putfield 51, 3) := by decide +kernel
theorem d_Jo_forgetMessages_25 : decode b_Jo_forgetMessages 25 = .ok (.iinc 1 1, 3) := by decide +kernel
theorem d_Jo_forgetMessages_28 : decode b_Jo_forgetMessages 28 = .ok (.goto (-18), 3) := by decide +kernel
theorem d_Jo_forgetMessages_31 : decode b_Jo_forgetMessages 31 = .ok (.return_, 1) := by decide +kernel
theorem d_Jo_addTask_0 : decode b_Jo_addTask 0 = .ok (.aload_n 0, 1) := by decide +kernel
theorem d_Jo_addTask_1 : decode b_Jo_addTask 1 = .ok (.getfield 39, 3) := by decide +kernel
theorem d_Jo_addTask_4 : decode b_Jo_addTask 4 = .ok (.aload_n 0, 1) := by decide +kernel
theorem d_Jo_addTask_5 : decode b_Jo_addTask 5 = .ok (.getfield 11, 3) := by decide +kernel
theorem d_Jo_addTask_8 : decode b_Jo_addTask 8 = .ok (.arraylength, 1) := by decide +kernel
theorem d_Jo_addTask_9 : decode b_Jo_addTask 9 = .ok (.if_icmp .ge 38, 3) := by decide +kernel
theorem d_Jo_addTask_12 : decode b_Jo_addTask 12 = .ok (.aload_n 0, 1) := by decide +kernel
theorem d_Jo_addTask_13 : decode b_Jo_addTask 13 = .ok (.getfield 11, 3) := by decide +kernel
theorem d_Jo_addTask_16 : decode b_Jo_addTask 16 = .ok (.aload_n 0, 1) := by decide +kernel
theorem d_Jo_addTask_17 : decode b_Jo_addTask 17 = .ok (.getfield 39, 3) := by decide +kernel
theorem d_Jo_addTask_20 : decode b_Jo_addTask 20 = .ok (.aaload, 1) := by decide +kernel
theorem d_Jo_addTask_21 : decode b_Jo_addTask 21 = .ok (.iload_n 1, 1) := by decide +kernel
theorem d_Jo_addTask_22 : decode b_Jo_addTask 22 = .ok (.iload_n 2, 1) := by decide +kernel
theorem d_Jo_addTask_23 : decode b_Jo_addTask 23 = .ok (.iload_n 3, 1) := by decide +kernel
theorem d_Jo_addTask_24 : decode b_Jo_addTask 24 = .ok (.invokevirtual 54, 3) := by decide +kernel
theorem d_Jo_addTask_27 : decode b_Jo_addTask 27 = .ok (.aload_n 0, 1) := by decide +kernel
theorem d_Jo_addTask_28 : decode b_Jo_addTask 28 = .ok (.dup, 1) := by decide +kernel
theorem d_Jo_addTask_29 : decode b_Jo_addTask 29 = .ok (.getfield 39, 3) := by decide +kernel
theorem d_Jo_addTask_32 : decode b_Jo_addTask 32 = .ok (.iconst 1, 1) := by decide +kernel
theorem d_Jo_addTask_33 : decode b_Jo_addTask 33 = .ok (.iadd, 1) := by decide +kernel
theorem d_Jo_addTask_34 : decode b_Jo_addTask 34 = .ok (.putfield 39, 3) := by decide +kernel
theorem d_Jo_addTask_37 : decode b_Jo_addTask 37 = .ok (.aload_n 0, 1) := by decide +kernel
theorem d_Jo_addTask_38 : decode b_Jo_addTask 38 = .ok (.dup, 1) := by decide +kernel
theorem d_Jo_addTask_39 : decode b_Jo_addTask 39 = .ok (.getfield 42, 3) := by decide +kernel
theorem d_Jo_addTask_42 : decode b_Jo_addTask 42 = .ok (.iconst 1, 1) := by decide +kernel
theorem d_Jo_addTask_43 : decode b_Jo_addTask 43 = .ok (.iadd, 1) := by decide +kernel
theorem d_Jo_addTask_44 : decode b_Jo_addTask 44 = .ok (.putfield 42, 3) := by decide +kernel
theorem d_Jo_addTask_47 : decode b_Jo_addTask 47 = .ok (.return_, 1) := by decide +kernel
theorem d_Jo_sendReady_0 : decode b_Jo_sendReady 0 = .ok (.iconst 0, 1) := by decide +kernel
theorem d_Jo_sendReady_1 : decode b_Jo_sendReady 1 = .ok (.istore_n 1, 1) := by decide +kernel
theorem d_Jo_sendReady_2 : decode b_Jo_sendReady 2 = .ok (.iload_n 1, 1) := by decide +kernel
theorem d_Jo_sendReady_3 : decode b_Jo_sendReady 3 = .ok (.aload_n 0, 1) := by decide +kernel
theorem d_Jo_sendReady_4 : decode b_Jo_sendReady 4 = .ok (.getfield 39, 3) := by decide +kernel
theorem d_Jo_sendReady_7 : decode b_Jo_sendReady 7 = .ok (.if_icmp .ge 42, 3) := by decide +kernel
theorem d_Jo_sendReady_10 : decode b_Jo_sendReady 10 = .ok (.aload_n 0, 1) := by decide +kernel
theorem d_Jo_sendReady_11 : decode b_Jo_sendReady 11 = .ok (.getfield 11, 3) := by decide +kernel
theorem d_Jo_sendReady_14 : decode b_Jo_sendReady 14 = .ok (.iload_n 1, 1) := by decide +kernel
theorem d_Jo_sendReady_15 : decode b_Jo_sendReady 15 = .ok (.aaload, 1) := by decide +kernel
theorem d_Jo_sendReady_16 : decode b_Jo_sendReady 16 = .ok (.getfield 58, 3) := by decide +kernel
theorem d_Jo_sendReady_19 : decode b_Jo_sendReady 19 = .ok (.ifCond .ne 24, 3) := by decide +kernel
theorem d_Jo_sendReady_22 : decode b_Jo_sendReady 22 = .ok (.aload_n 0, 1) := by decide +kernel
theorem d_Jo_sendReady_23 : decode b_Jo_sendReady 23 = .ok (.aload_n 0, 1) := by decide +kernel
theorem d_Jo_sendReady_24 : decode b_Jo_sendReady 24 = .ok (.getfield 11, 3) := by decide +kernel
theorem d_Jo_sendReady_27 : decode b_Jo_sendReady 27 = .ok (.iload_n 1, 1) := by decide +kernel
theorem d_Jo_sendReady_28 : decode b_Jo_sendReady 28 = .ok (.aaload, 1) := by decide +kernel
theorem d_Jo_sendReady_29 : decode b_Jo_sendReady 29 = .ok (.getfield 61, 3) := by decide +kernel
theorem d_Jo_sendReady_32 : decode b_Jo_sendReady 32 = .ok (.invokevirtual 64, 3) := by decide +kernel
theorem d_Jo_sendReady_35 : decode b_Jo_sendReady 35 = .ok (.ifCond .eq 8, 3) := by decide +kernel
theorem d_Jo_sendReady_38 : decode b_Jo_sendReady 38 = .ok (.aload_n 0, 1) := by decide +kernel
theorem d_Jo_sendReady_39 : decode b_Jo_sendReady 39 = .ok (.iload_n 1, 1) := by decide +kernel
theorem d_Jo_sendReady_40 : decode b_Jo_sendReady 40 = .ok (.invokevirtual 68, 3) := by decide +kernel
theorem d_Jo_sendReady_43 : decode b_Jo_sendReady 43 = .ok (.iinc 1 1, 3) := by decide +kernel
theorem d_Jo_sendReady_46 : decode b_Jo_sendReady 46 = .ok (.goto (-44), 3) := by decide +kernel
theorem d_Jo_sendReady_49 : decode b_Jo_sendReady 49 = .ok (.return_, 1) := by decide +kernel
theorem d_Jo_isReady_0 : decode b_Jo_isReady 0 = .ok (.iload_n 1, 1) := by decide +kernel
theorem d_Jo_isReady_1 : decode b_Jo_isReady 1 = .ok (.ifCond .eq 8, 3) := by decide +kernel
theorem d_Jo_isReady_4 : decode b_Jo_isReady 4 = .ok (.iload_n 1, 1) := by decide +kernel
theorem d_Jo_isReady_5 : decode b_Jo_isReady 5 = .ok (.iconst 1, 1) := by decide +kernel
theorem d_Jo_isReady_6 : decode b_Jo_isReady 6 = .ok (.if_icmp .ne 5, 3) := by decide +kernel
theorem d_Jo_isReady_9 : decode b_Jo_isReady 9 = .ok (.iconst 1, 1) := by decide +kernel
theorem d_Jo_isReady_10 : decode b_Jo_isReady 10 = .ok (.ireturn, 1) := by decide +kernel
theorem d_Jo_isReady_11 : decode b_Jo_isReady 11 = .ok (.iconst 0, 1) := by decide +kernel
theorem d_Jo_isReady_12 : decode b_Jo_isReady 12 = .ok (.istore_n 2, 1) := by decide +kernel
theorem d_Jo_isReady_13 : decode b_Jo_isReady 13 = .ok (.iload_n 2, 1) := by decide +kernel
theorem d_Jo_isReady_14 : decode b_Jo_isReady 14 = .ok (.aload_n 0, 1) := by decide +kernel
theorem d_Jo_isReady_15 : decode b_Jo_isReady 15 = .ok (.getfield 39, 3) := by decide +kernel
theorem d_Jo_isReady_18 : decode b_Jo_isReady 18 = .ok (.if_icmp .ge 36, 3) := by decide +kernel
theorem d_Jo_isReady_21 : decode b_Jo_isReady 21 = .ok (.aload_n 0, 1) := by decide +kernel
theorem d_Jo_isReady_22 : decode b_Jo_isReady 22 = .ok (.getfield 11, 3) := by decide +kernel
theorem d_Jo_isReady_25 : decode b_Jo_isReady 25 = .ok (.iload_n 2, 1) := by decide +kernel
theorem d_Jo_isReady_26 : decode b_Jo_isReady 26 = .ok (.aaload, 1) := by decide +kernel
theorem d_Jo_isReady_27 : decode b_Jo_isReady 27 = .ok (.getfield 61, 3) := by decide +kernel
theorem d_Jo_isReady_30 : decode b_Jo_isReady 30 = .ok (.iload_n 1, 1) := by decide +kernel
theorem d_Jo_isReady_31 : decode b_Jo_isReady 31 = .ok (.if_icmp .ge 17, 3) := by decide +kernel
theorem d_Jo_isReady_34 : decode b_Jo_isReady 34 = .ok (.aload_n 0, 1) := by decide +kernel
theorem d_Jo_isReady_35 : decode b_Jo_isReady 35 = .ok (.getfield 11, 3) := by decide +kernel
theorem d_Jo_isReady_38 : decode b_Jo_isReady 38 = .ok (.iload_n 2, 1) := by decide +kernel
theorem d_Jo_isReady_39 : decode b_Jo_isReady 39 = .ok (.aaload, 1) := by decide +kernel
theorem d_Jo_isReady_40 : decode b_Jo_isReady 40 = .ok (.getfield 71, 3) := by decide +kernel
theorem d_Jo_isReady_43 : decode b_Jo_isReady 43 = .ok (.ifCond .ne 5, 3) := by decide +kernel
theorem d_Jo_isReady_46 : decode b_Jo_isReady 46 = .ok (.iconst 0, 1) := by decide +kernel
theorem d_Jo_isReady_47 : decode b_Jo_isReady 47 = .ok (.ireturn, 1) := by decide +kernel
theorem d_Jo_isReady_48 : decode b_Jo_isReady 48 = .ok (.iinc 2 1, 3) := by decide +kernel
theorem d_Jo_isReady_51 : decode b_Jo_isReady 51 = .ok (.goto (-38), 3) := by decide +kernel
theorem d_Jo_isReady_54 : decode b_Jo_isReady 54 = .ok (.iconst 1, 1) := by decide +kernel
theorem d_Jo_isReady_55 : decode b_Jo_isReady 55 = .ok (.ireturn, 1) := by decide +kernel
theorem d_Jo_sendRun_0 : decode b_Jo_sendRun 0 = .ok (.aload_n 0, 1) := by decide +kernel
theorem d_Jo_sendRun_1 : decode b_Jo_sendRun 1 = .ok (.getfield 22, 3) := by decide +kernel
theorem d_Jo_sendRun_4 : decode b_Jo_sendRun 4 = .ok (.iconst 0, 1) := by decide +kernel
theorem d_Jo_sendRun_5 : decode b_Jo_sendRun 5 = .ok (.iload_n 1, 1) := by decide +kernel
theorem d_Jo_sendRun_6 : decode b_Jo_sendRun 6 = .ok (.aload_n 0, 1) := by decide +kernel
theorem d_Jo_sendRun_7 : decode b_Jo_sendRun 7 = .ok (.getfield 11, 3) := by decide +kernel
theorem d_Jo_sendRun_10 : decode b_Jo_sendRun 10 = .ok (.iload_n 1, 1) := by decide +kernel
theorem d_Jo_sendRun_11 : decode b_Jo_sendRun 11 = .ok (.aaload, 1) := by decide +kernel
theorem d_Jo_sendRun_12 : decode b_Jo_sendRun 12 = .ok (.getfield 58, 3) := by decide +kernel
theorem d_Jo_sendRun_15 : decode b_Jo_sendRun 15 = .ok (.invokevirtual 74, 3) := by decide +kernel
theorem d_Jo_sendRun_18 : decode b_Jo_sendRun 18 = .ok (.pop, 1) := by decide +kernel
theorem d_Jo_sendRun_19 : decode b_Jo_sendRun 19 = .ok (.aload_n 0, 1) := by decide +kernel
theorem d_Jo_sendRun_20 : decode b_Jo_sendRun 20 = .ok (.getfield 11, 3) := by decide +kernel
theorem d_Jo_sendRun_23 : decode b_Jo_sendRun 23 = .ok (.iload_n 1, 1) := by decide +kernel
theorem d_Jo_sendRun_24 : decode b_Jo_sendRun 24 = .ok (.aaload, 1) := by decide +kernel
theorem d_Jo_sendRun_25 : decode b_Jo_sendRun 25 = .ok (.dup, 1) := by decide +kernel
theorem d_Jo_sendRun_26 : decode b_Jo_sendRun 26 = .ok (.getfield 58, 3) := by decide +kernel
theorem d_Jo_sendRun_29 : decode b_Jo_sendRun 29 = .ok (.iconst 1, 1) := by decide +kernel
theorem d_Jo_sendRun_30 : decode b_Jo_sendRun 30 = .ok (.iadd, 1) := by decide +kernel
theorem d_Jo_sendRun_31 : decode b_Jo_sendRun 31 = .ok (.putfield 58, 3) := by decide +kernel
theorem d_Jo_sendRun_34 : decode b_Jo_sendRun 34 = .ok (.aload_n 0, 1) := by decide +kernel
theorem d_Jo_sendRun_35 : decode b_Jo_sendRun 35 = .ok (.getfield 11, 3) := by decide +kernel
theorem d_Jo_sendRun_38 : decode b_Jo_sendRun 38 = .ok (.iload_n 1, 1) := by decide +kernel
theorem d_Jo_sendRun_39 : decode b_Jo_sendRun 39 = .ok (.aaload, 1) := by decide +kernel
theorem d_Jo_sendRun_40 : decode b_Jo_sendRun 40 = .ok (.aload_n 0, 1) := by decide +kernel
theorem d_Jo_sendRun_41 : decode b_Jo_sendRun 41 = .ok (.getfield 78, 3) := by decide +kernel
theorem d_Jo_sendRun_44 : decode b_Jo_sendRun 44 = .ok (.putfield 81, 3) := by decide +kernel
theorem d_Jo_sendRun_47 : decode b_Jo_sendRun 47 = .ok (.return_, 1) := by decide +kernel
theorem d_Jo_workerOf_0 : decode b_Jo_workerOf 0 = .ok (.aload_n 0, 1) := by decide +kernel
theorem d_Jo_workerOf_1 : decode b_Jo_workerOf 1 = .ok (.getfield 35, 3) := by decide +kernel
theorem d_Jo_workerOf_4 : decode b_Jo_workerOf 4 = .ok (.iconst 1, 1) := by decide +kernel
theorem d_Jo_workerOf_5 : decode b_Jo_workerOf 5 = .ok (.if_icmp .ge 7, 3) := by decide +kernel
theorem d_Jo_workerOf_8 : decode b_Jo_workerOf 8 = .ok (.iconst 0, 1) := by decide +kernel
theorem d_Jo_workerOf_9 : decode b_Jo_workerOf 9 = .ok (.goto 21, 3) := by decide +kernel
theorem d_Jo_workerOf_12 : decode b_Jo_workerOf 12 = .ok (.aload_n 0, 1) := by decide +kernel
theorem d_Jo_workerOf_13 : decode b_Jo_workerOf 13 = .ok (.getfield 11, 3) := by decide +kernel
theorem d_Jo_workerOf_16 : decode b_Jo_workerOf 16 = .ok (.iload_n 1, 1) := by decide +kernel
theorem d_Jo_workerOf_17 : decode b_Jo_workerOf 17 = .ok (.aaload, 1) := by decide +kernel
theorem d_Jo_workerOf_18 : decode b_Jo_workerOf 18 = .ok (.getfield 84, 3) := by decide +kernel
theorem d_Jo_workerOf_21 : decode b_Jo_workerOf 21 = .ok (.iload_n 2, 1) := by decide +kernel
theorem d_Jo_workerOf_22 : decode b_Jo_workerOf 22 = .ok (.iadd, 1) := by decide +kernel
theorem d_Jo_workerOf_23 : decode b_Jo_workerOf 23 = .ok (.aload_n 0, 1) := by decide +kernel
theorem d_Jo_workerOf_24 : decode b_Jo_workerOf 24 = .ok (.getfield 35, 3) := by decide +kernel
theorem d_Jo_workerOf_27 : decode b_Jo_workerOf 27 = .ok (.invokestatic 87, 3) := by decide +kernel
theorem d_Jo_workerOf_30 : decode b_Jo_workerOf 30 = .ok (.ireturn, 1) := by decide +kernel
theorem d_Jo_deliver_0 : decode b_Jo_deliver 0 = .ok (.aload_n 0, 1) := by decide +kernel
theorem d_Jo_deliver_1 : decode b_Jo_deliver 1 = .ok (.getfield 22, 3) := by decide +kernel
theorem d_Jo_deliver_4 : decode b_Jo_deliver 4 = .ok (.getfield 93, 3) := by decide +kernel
theorem d_Jo_deliver_7 : decode b_Jo_deliver 7 = .ok (.iload_n 1, 1) := by decide +kernel
theorem d_Jo_deliver_8 : decode b_Jo_deliver 8 = .ok (.iaload, 1) := by decide +kernel
theorem d_Jo_deliver_9 : decode b_Jo_deliver 9 = .ok (.istore_n 2, 1) := by decide +kernel
theorem d_Jo_deliver_10 : decode b_Jo_deliver 10 = .ok (.aload_n 0, 1) := by decide +kernel
theorem d_Jo_deliver_11 : decode b_Jo_deliver 11 = .ok (.getfield 22, 3) := by decide +kernel
theorem d_Jo_deliver_14 : decode b_Jo_deliver 14 = .ok (.getfield 97, 3) := by decide +kernel
theorem d_Jo_deliver_17 : decode b_Jo_deliver 17 = .ok (.iload_n 1, 1) := by decide +kernel
theorem d_Jo_deliver_18 : decode b_Jo_deliver 18 = .ok (.iaload, 1) := by decide +kernel
theorem d_Jo_deliver_19 : decode b_Jo_deliver 19 = .ok (.istore_n 3, 1) := by decide +kernel
theorem d_Jo_deliver_20 : decode b_Jo_deliver 20 = .ok (.aload_n 0, 1) := by decide +kernel
theorem d_Jo_deliver_21 : decode b_Jo_deliver 21 = .ok (.getfield 22, 3) := by decide +kernel
theorem d_Jo_deliver_24 : decode b_Jo_deliver 24 = .ok (.getfield 99, 3) := by decide +kernel
theorem d_Jo_deliver_27 : decode b_Jo_deliver 27 = .ok (.iload_n 1, 1) := by decide +kernel
theorem d_Jo_deliver_28 : decode b_Jo_deliver 28 = .ok (.iaload, 1) := by decide +kernel
theorem d_Jo_deliver_29 : decode b_Jo_deliver 29 = .ok (.istore 4, 2) := by decide +kernel
theorem d_Jo_deliver_31 : decode b_Jo_deliver 31 = .ok (.aload_n 0, 1) := by decide +kernel
theorem d_Jo_deliver_32 : decode b_Jo_deliver 32 = .ok (.getfield 22, 3) := by decide +kernel
theorem d_Jo_deliver_35 : decode b_Jo_deliver 35 = .ok (.iload_n 1, 1) := by decide +kernel
theorem d_Jo_deliver_36 : decode b_Jo_deliver 36 = .ok (.invokevirtual 101, 3) := by decide +kernel
theorem d_Jo_deliver_39 : decode b_Jo_deliver 39 = .ok (.iload_n 2, 1) := by decide +kernel
theorem d_Jo_deliver_40 : decode b_Jo_deliver 40 = .ok (.ifCond .ne 31, 3) := by decide +kernel
theorem d_Jo_deliver_43 : decode b_Jo_deliver 43 = .ok (.aload_n 0, 1) := by decide +kernel
theorem d_Jo_deliver_44 : decode b_Jo_deliver 44 = .ok (.getfield 26, 3) := by decide +kernel
theorem d_Jo_deliver_47 : decode b_Jo_deliver 47 = .ok (.aload_n 0, 1) := by decide +kernel
theorem d_Jo_deliver_48 : decode b_Jo_deliver 48 = .ok (.iload_n 3, 1) := by decide +kernel
theorem d_Jo_deliver_49 : decode b_Jo_deliver 49 = .ok (.iload 4, 2) := by decide +kernel
theorem d_Jo_deliver_51 : decode b_Jo_deliver 51 = .ok (.invokevirtual 104, 3) := by decide +kernel
theorem d_Jo_deliver_54 : decode b_Jo_deliver 54 = .ok (.aaload, 1) := by decide +kernel
theorem d_Jo_deliver_55 : decode b_Jo_deliver 55 = .ok (.iconst 0, 1) := by decide +kernel
theorem d_Jo_deliver_56 : decode b_Jo_deliver 56 = .ok (.iload_n 3, 1) := by decide +kernel
theorem d_Jo_deliver_57 : decode b_Jo_deliver 57 = .ok (.iload 4, 2) := by decide +kernel
theorem d_Jo_deliver_59 : decode b_Jo_deliver 59 = .ok (.invokevirtual 74, 3) := by decide +kernel
theorem d_Jo_deliver_62 : decode b_Jo_deliver 62 = .ok (.ifCond .eq 7, 3) := by decide +kernel
theorem d_Jo_deliver_65 : decode b_Jo_deliver 65 = .ok (.iconst 1, 1) := by decide +kernel
theorem d_Jo_deliver_66 : decode b_Jo_deliver 66 = .ok (.goto 4, 3) := by decide +kernel
theorem d_Jo_deliver_69 : decode b_Jo_deliver 69 = .ok (.iconst 0, 1) := by decide +kernel
theorem d_Jo_deliver_70 : decode b_Jo_deliver 70 = .ok (.ireturn, 1) := by decide +kernel
theorem d_Jo_deliver_71 : decode b_Jo_deliver 71 = .ok (.aload_n 0, 1) := by decide +kernel
theorem d_Jo_deliver_72 : decode b_Jo_deliver 72 = .ok (.getfield 11, 3) := by decide +kernel
theorem d_Jo_deliver_75 : decode b_Jo_deliver 75 = .ok (.iload_n 3, 1) := by decide +kernel
theorem d_Jo_deliver_76 : decode b_Jo_deliver 76 = .ok (.aaload, 1) := by decide +kernel
theorem d_Jo_deliver_77 : decode b_Jo_deliver 77 = .ok (.getfield 71, 3) := by decide +kernel
theorem d_Jo_deliver_80 : decode b_Jo_deliver 80 = .ok (.ifCond .eq 15, 3) := by decide +kernel
theorem d_Jo_deliver_83 : decode b_Jo_deliver 83 = .ok (.aload_n 0, 1) := by decide +kernel
theorem d_Jo_deliver_84 : decode b_Jo_deliver 84 = .ok (.dup, 1) := by decide +kernel
theorem d_Jo_deliver_85 : decode b_Jo_deliver 85 = .ok (.getfield 45, 3) := by decide +kernel
theorem d_Jo_deliver_88 : decode b_Jo_deliver 88 = .ok (.iconst 1, 1) := by decide +kernel
theorem d_Jo_deliver_89 : decode b_Jo_deliver 89 = .ok (.iadd, 1) := by decide +kernel
theorem d_Jo_deliver_90 : decode b_Jo_deliver 90 = .ok (.putfield 45, 3) := by decide +kernel
theorem d_Jo_deliver_93 : decode b_Jo_deliver 93 = .ok (.iconst 0, 1) := by decide +kernel
theorem d_Jo_deliver_94 : decode b_Jo_deliver 94 = .ok (.ireturn, 1) := by decide +kernel
theorem d_Jo_deliver_95 : decode b_Jo_deliver 95 = .ok (.aload_n 0, 1) := by decide +kernel
theorem d_Jo_deliver_96 : decode b_Jo_deliver 96 = .ok (.iload_n 3, 1) := by decide +kernel
theorem d_Jo_deliver_97 : decode b_Jo_deliver 97 = .ok (.invokevirtual 107, 3) := by decide +kernel
theorem d_Jo_deliver_100 : decode b_Jo_deliver 100 = .ok (.iconst 1, 1) := by decide +kernel
theorem d_Jo_deliver_101 : decode b_Jo_deliver 101 = .ok (.ireturn, 1) := by decide +kernel
theorem d_Jo_finish_0 : decode b_Jo_finish 0 = .ok (.aload_n 0, 1) := by decide +kernel
theorem d_Jo_finish_1 : decode b_Jo_finish 1 = .ok (.getfield 11, 3) := by decide +kernel
theorem d_Jo_finish_4 : decode b_Jo_finish 4 = .ok (.iload_n 1, 1) := by decide +kernel
theorem d_Jo_finish_5 : decode b_Jo_finish 5 = .ok (.aaload, 1) := by decide +kernel
theorem d_Jo_finish_6 : decode b_Jo_finish 6 = .ok (.iconst 1, 1) := by decide +kernel
theorem d_Jo_finish_7 : decode b_Jo_finish 7 = .ok (.putfield 71, 3) := by decide +kernel
theorem d_Jo_finish_10 : decode b_Jo_finish 10 = .ok (.aload_n 0, 1) := by decide +kernel
theorem d_Jo_finish_11 : decode b_Jo_finish 11 = .ok (.dup, 1) := by decide +kernel
theorem d_Jo_finish_12 : decode b_Jo_finish 12 = .ok (.getfield 42, 3) := by decide +kernel
theorem d_Jo_finish_15 : decode b_Jo_finish 15 = .ok (.iconst 1, 1) := by decide +kernel
theorem d_Jo_finish_16 : decode b_Jo_finish 16 = .ok (.isub, 1) := by decide +kernel
theorem d_Jo_finish_17 : decode b_Jo_finish 17 = .ok (.putfield 42, 3) := by decide +kernel
theorem d_Jo_finish_20 : decode b_Jo_finish 20 = .ok (.aload_n 0, 1) := by decide +kernel
theorem d_Jo_finish_21 : decode b_Jo_finish 21 = .ok (.getfield 42, 3) := by decide +kernel
theorem d_Jo_finish_24 : decode b_Jo_finish 24 = .ok (.ifCond .ne 15, 3) := by decide +kernel
theorem d_Jo_finish_27 : decode b_Jo_finish 27 = .ok (.aload_n 0, 1) := by decide +kernel
theorem d_Jo_finish_28 : decode b_Jo_finish 28 = .ok (.iconst 0, 1) := by decide +kernel
theorem d_Jo_finish_29 : decode b_Jo_finish 29 = .ok (.putfield 31, 3) := by decide +kernel
theorem d_Jo_finish_32 : decode b_Jo_finish 32 = .ok (.aload_n 0, 1) := by decide +kernel
theorem d_Jo_finish_33 : decode b_Jo_finish 33 = .ok (.invokevirtual 48, 3) := by decide +kernel
theorem d_Jo_finish_36 : decode b_Jo_finish 36 = .ok (.goto 7, 3) := by decide +kernel
theorem d_Jo_finish_39 : decode b_Jo_finish 39 = .ok (.aload_n 0, 1) := by decide +kernel
theorem d_Jo_finish_40 : decode b_Jo_finish 40 = .ok (.invokevirtual 110, 3) := by decide +kernel
theorem d_Jo_finish_43 : decode b_Jo_finish 43 = .ok (.return_, 1) := by decide +kernel
theorem d_Jo_repeat_0 : decode b_Jo_repeat 0 = .ok (.aload_n 0, 1) := by decide +kernel
theorem d_Jo_repeat_1 : decode b_Jo_repeat 1 = .ok (.getfield 22, 3) := by decide +kernel
theorem d_Jo_repeat_4 : decode b_Jo_repeat 4 = .ok (.getfield 51, 3) := by decide +kernel
theorem d_Jo_repeat_7 : decode b_Jo_repeat 7 = .ok (.bipush 60, 2) := by decide +kernel
theorem d_Jo_repeat_9 : decode b_Jo_repeat 9 = .ok (.if_icmp .lt 6, 3) := by decide +kernel
theorem d_Jo_repeat_12 : decode b_Jo_repeat 12 = .ok (.bipush (-2), 2) := by decide +kernel
theorem d_Jo_repeat_14 : decode b_Jo_repeat 14 = .ok (.ireturn, 1) := by decide +kernel
theorem d_Jo_repeat_15 : decode b_Jo_repeat 15 = .ok (.aload_n 0, 1) := by decide +kernel
theorem d_Jo_repeat_16 : decode b_Jo_repeat 16 = .ok (.getfield 22, 3) := by decide +kernel
theorem d_Jo_repeat_19 : decode b_Jo_repeat 19 = .ok (.aload_n 0, 1) := by decide +kernel
theorem d_Jo_repeat_20 : decode b_Jo_repeat 20 = .ok (.getfield 22, 3) := by decide +kernel
theorem d_Jo_repeat_23 : decode b_Jo_repeat 23 = .ok (.getfield 93, 3) := by decide +kernel
theorem d_Jo_repeat_26 : decode b_Jo_repeat 26 = .ok (.iload_n 1, 1) := by decide +kernel
theorem d_Jo_repeat_27 : decode b_Jo_repeat 27 = .ok (.iaload, 1) := by decide +kernel
theorem d_Jo_repeat_28 : decode b_Jo_repeat 28 = .ok (.aload_n 0, 1) := by decide +kernel
theorem d_Jo_repeat_29 : decode b_Jo_repeat 29 = .ok (.getfield 22, 3) := by decide +kernel
theorem d_Jo_repeat_32 : decode b_Jo_repeat 32 = .ok (.getfield 97, 3) := by decide +kernel
theorem d_Jo_repeat_35 : decode b_Jo_repeat 35 = .ok (.iload_n 1, 1) := by decide +kernel
theorem d_Jo_repeat_36 : decode b_Jo_repeat 36 = .ok (.iaload, 1) := by decide +kernel
theorem d_Jo_repeat_37 : decode b_Jo_repeat 37 = .ok (.aload_n 0, 1) := by decide +kernel
theorem d_Jo_repeat_38 : decode b_Jo_repeat 38 = .ok (.getfield 22, 3) := by decide +kernel
theorem d_Jo_repeat_41 : decode b_Jo_repeat 41 = .ok (.getfield 99, 3) := by decide +kernel
theorem d_Jo_repeat_44 : decode b_Jo_repeat 44 = .ok (.iload_n 1, 1) := by decide +kernel
theorem d_Jo_repeat_45 : decode b_Jo_repeat 45 = .ok (.iaload, 1) := by decide +kernel
theorem d_Jo_repeat_46 : decode b_Jo_repeat 46 = .ok (.invokevirtual 74, 3) := by decide +kernel
theorem d_Jo_repeat_49 : decode b_Jo_repeat 49 = .ok (.pop, 1) := by decide +kernel
theorem d_Jo_repeat_50 : decode b_Jo_repeat 50 = .ok (.iconst 1, 1) := by decide +kernel
theorem d_Jo_repeat_51 : decode b_Jo_repeat 51 = .ok (.ireturn, 1) := by decide +kernel
theorem d_Jo_workOff_0 : decode b_Jo_workOff 0 = .ok (.aload_n 1, 1) := by decide +kernel
theorem d_Jo_workOff_1 : decode b_Jo_workOff 1 = .ok (.getfield 51, 3) := by decide +kernel
theorem d_Jo_workOff_4 : decode b_Jo_workOff 4 = .ok (.ifCond .ne 5, 3) := by decide +kernel
theorem d_Jo_workOff_7 : decode b_Jo_workOff 7 = .ok (.iconst (-1), 1) := by decide +kernel
theorem d_Jo_workOff_8 : decode b_Jo_workOff 8 = .ok (.ireturn, 1) := by decide +kernel
theorem d_Jo_workOff_9 : decode b_Jo_workOff 9 = .ok (.aload_n 0, 1) := by decide +kernel
theorem d_Jo_workOff_10 : decode b_Jo_workOff 10 = .ok (.getfield 22, 3) := by decide +kernel
theorem d_Jo_workOff_13 : decode b_Jo_workOff 13 = .ok (.getfield 51, 3) := by decide +kernel
theorem d_Jo_workOff_16 : decode b_Jo_workOff 16 = .ok (.bipush 60, 2) := by decide +kernel
theorem d_Jo_workOff_18 : decode b_Jo_workOff 18 = .ok (.if_icmp .lt 6, 3) := by decide +kernel
theorem d_Jo_workOff_21 : decode b_Jo_workOff 21 = .ok (.bipush (-2), 2) := by decide +kernel
theorem d_Jo_workOff_23 : decode b_Jo_workOff 23 = .ok (.ireturn, 1) := by decide +kernel
theorem d_Jo_workOff_24 : decode b_Jo_workOff 24 = .ok (.aload_n 1, 1) := by decide +kernel
theorem d_Jo_workOff_25 : decode b_Jo_workOff 25 = .ok (.getfield 97, 3) := by decide +kernel
theorem d_Jo_workOff_28 : decode b_Jo_workOff 28 = .ok (.iconst 0, 1) := by decide +kernel
theorem d_Jo_workOff_29 : decode b_Jo_workOff 29 = .ok (.iaload, 1) := by decide +kernel
theorem d_Jo_workOff_30 : decode b_Jo_workOff 30 = .ok (.istore_n 2, 1) := by decide +kernel
theorem d_Jo_workOff_31 : decode b_Jo_workOff 31 = .ok (.aload_n 0, 1) := by decide +kernel
theorem d_Jo_workOff_32 : decode b_Jo_workOff 32 = .ok (.getfield 22, 3) := by decide +kernel
theorem d_Jo_workOff_35 : decode b_Jo_workOff 35 = .ok (.iconst 1, 1) := by decide +kernel
theorem d_Jo_workOff_36 : decode b_Jo_workOff 36 = .ok (.iload_n 2, 1) := by decide +kernel
theorem d_Jo_workOff_37 : decode b_Jo_workOff 37 = .ok (.aload_n 1, 1) := by decide +kernel
theorem d_Jo_workOff_38 : decode b_Jo_workOff 38 = .ok (.getfield 99, 3) := by decide +kernel
theorem d_Jo_workOff_41 : decode b_Jo_workOff 41 = .ok (.iconst 0, 1) := by decide +kernel
theorem d_Jo_workOff_42 : decode b_Jo_workOff 42 = .ok (.iaload, 1) := by decide +kernel
theorem d_Jo_workOff_43 : decode b_Jo_workOff 43 = .ok (.invokevirtual 74, 3) := by decide +kernel
theorem d_Jo_workOff_46 : decode b_Jo_workOff 46 = .ok (.pop, 1) := by decide +kernel
theorem d_Jo_workOff_47 : decode b_Jo_workOff 47 = .ok (.aload_n 1, 1) := by decide +kernel
theorem d_Jo_workOff_48 : decode b_Jo_workOff 48 = .ok (.iconst 0, 1) := by decide +kernel
theorem d_Jo_workOff_49 : decode b_Jo_workOff 49 = .ok (.invokevirtual 101, 3) := by decide +kernel
theorem d_Jo_workOff_52 : decode b_Jo_workOff 52 = .ok (.iload_n 2, 1) := by decide +kernel
theorem d_Jo_workOff_53 : decode b_Jo_workOff 53 = .ok (.ireturn, 1) := by decide +kernel
theorem d_Jo_sendAgain_0 : decode b_Jo_sendAgain 0 = .ok (.aload_n 0, 1) := by decide +kernel
theorem d_Jo_sendAgain_1 : decode b_Jo_sendAgain 1 = .ok (.dup, 1) := by decide +kernel
theorem d_Jo_sendAgain_2 : decode b_Jo_sendAgain 2 = .ok (.getfield 78, 3) := by decide +kernel
theorem d_Jo_sendAgain_5 : decode b_Jo_sendAgain 5 = .ok (.iconst 1, 1) := by decide +kernel
theorem d_Jo_sendAgain_6 : decode b_Jo_sendAgain 6 = .ok (.iadd, 1) := by decide +kernel
theorem d_Jo_sendAgain_7 : decode b_Jo_sendAgain 7 = .ok (.putfield 78, 3) := by decide +kernel
theorem d_Jo_sendAgain_10 : decode b_Jo_sendAgain 10 = .ok (.iconst 0, 1) := by decide +kernel
theorem d_Jo_sendAgain_11 : decode b_Jo_sendAgain 11 = .ok (.istore_n 1, 1) := by decide +kernel
theorem d_Jo_sendAgain_12 : decode b_Jo_sendAgain 12 = .ok (.iconst 0, 1) := by decide +kernel
theorem d_Jo_sendAgain_13 : decode b_Jo_sendAgain 13 = .ok (.istore_n 2, 1) := by decide +kernel
theorem d_Jo_sendAgain_14 : decode b_Jo_sendAgain 14 = .ok (.iload_n 2, 1) := by decide +kernel
theorem d_Jo_sendAgain_15 : decode b_Jo_sendAgain 15 = .ok (.aload_n 0, 1) := by decide +kernel
theorem d_Jo_sendAgain_16 : decode b_Jo_sendAgain 16 = .ok (.getfield 39, 3) := by decide +kernel
theorem d_Jo_sendAgain_19 : decode b_Jo_sendAgain 19 = .ok (.if_icmp .ge 75, 3) := by decide +kernel
theorem d_Jo_sendAgain_22 : decode b_Jo_sendAgain 22 = .ok (.aload_n 0, 1) := by decide +kernel
theorem d_Jo_sendAgain_23 : decode b_Jo_sendAgain 23 = .ok (.getfield 11, 3) := by decide +kernel
theorem d_Jo_sendAgain_26 : decode b_Jo_sendAgain 26 = .ok (.iload_n 2, 1) := by decide +kernel
theorem d_Jo_sendAgain_27 : decode b_Jo_sendAgain 27 = .ok (.aaload, 1) := by decide +kernel
theorem d_Jo_sendAgain_28 : decode b_Jo_sendAgain 28 = .ok (.astore_n 3, 1) := by decide +kernel
theorem d_Jo_sendAgain_29 : decode b_Jo_sendAgain 29 = .ok (.aload_n 3, 1) := by decide +kernel
theorem d_Jo_sendAgain_30 : decode b_Jo_sendAgain 30 = .ok (.getfield 58, 3) := by decide +kernel
theorem d_Jo_sendAgain_33 : decode b_Jo_sendAgain 33 = .ok (.ifCond .le 27, 3) := by decide +kernel
theorem d_Jo_sendAgain_36 : decode b_Jo_sendAgain 36 = .ok (.aload_n 3, 1) := by decide +kernel
theorem d_Jo_sendAgain_37 : decode b_Jo_sendAgain 37 = .ok (.getfield 71, 3) := by decide +kernel
theorem d_Jo_sendAgain_40 : decode b_Jo_sendAgain 40 = .ok (.ifCond .ne 20, 3) := by decide +kernel
theorem d_Jo_sendAgain_43 : decode b_Jo_sendAgain 43 = .ok (.aload_n 0, 1) := by decide +kernel
theorem d_Jo_sendAgain_44 : decode b_Jo_sendAgain 44 = .ok (.getfield 78, 3) := by decide +kernel
theorem d_Jo_sendAgain_47 : decode b_Jo_sendAgain 47 = .ok (.aload_n 3, 1) := by decide +kernel
theorem d_Jo_sendAgain_48 : decode b_Jo_sendAgain 48 = .ok (.getfield 81, 3) := by decide +kernel
theorem d_Jo_sendAgain_51 : decode b_Jo_sendAgain 51 = .ok (.isub, 1) := by decide +kernel
theorem d_Jo_sendAgain_52 : decode b_Jo_sendAgain 52 = .ok (.iconst 3, 1) := by decide +kernel
theorem d_Jo_sendAgain_53 : decode b_Jo_sendAgain 53 = .ok (.if_icmp .lt 7, 3) := by decide +kernel
theorem d_Jo_sendAgain_56 : decode b_Jo_sendAgain 56 = .ok (.iconst 1, 1) := by decide +kernel
theorem d_Jo_sendAgain_57 : decode b_Jo_sendAgain 57 = .ok (.goto 4, 3) := by decide +kernel
theorem d_Jo_sendAgain_60 : decode b_Jo_sendAgain 60 = .ok (.iconst 0, 1) := by decide +kernel
theorem d_Jo_sendAgain_61 : decode b_Jo_sendAgain 61 = .ok (.istore 4, 2) := by decide +kernel
theorem d_Jo_sendAgain_63 : decode b_Jo_sendAgain 63 = .ok (.iload 4, 2) := by decide +kernel
theorem d_Jo_sendAgain_65 : decode b_Jo_sendAgain 65 = .ok (.ifCond .eq 23, 3) := by decide +kernel
theorem d_Jo_sendAgain_68 : decode b_Jo_sendAgain 68 = .ok (.aload_n 0, 1) := by decide +kernel
theorem d_Jo_sendAgain_69 : decode b_Jo_sendAgain 69 = .ok (.getfield 22, 3) := by decide +kernel
theorem d_Jo_sendAgain_72 : decode b_Jo_sendAgain 72 = .ok (.getfield 51, 3) := by decide +kernel
theorem d_Jo_sendAgain_75 : decode b_Jo_sendAgain 75 = .ok (.bipush 60, 2) := by decide +kernel
theorem d_Jo_sendAgain_77 : decode b_Jo_sendAgain 77 = .ok (.if_icmp .ge 11, 3) := by decide +kernel
theorem d_Jo_sendAgain_80 : decode b_Jo_sendAgain 80 = .ok (.aload_n 0, 1) := by decide +kernel
theorem d_Jo_sendAgain_81 : decode b_Jo_sendAgain 81 = .ok (.iload_n 2, 1) := by decide +kernel
theorem d_Jo_sendAgain_82 : decode b_Jo_sendAgain 82 = .ok (.invokevirtual 68, 3) := by decide +kernel
theorem d_Jo_sendAgain_85 : decode b_Jo_sendAgain 85 = .ok (.iinc 1 1, 3) := by decide +kernel
theorem d_Jo_sendAgain_88 : decode b_Jo_sendAgain 88 = .ok (.iinc 2 1, 3) := by decide +kernel
theorem d_Jo_sendAgain_91 : decode b_Jo_sendAgain 91 = .ok (.goto (-77), 3) := by decide +kernel
theorem d_Jo_sendAgain_94 : decode b_Jo_sendAgain 94 = .ok (.iload_n 1, 1) := by decide +kernel
theorem d_Jo_sendAgain_95 : decode b_Jo_sendAgain 95 = .ok (.ireturn, 1) := by decide +kernel
theorem d_Jo_tell_0 : decode b_Jo_tell 0 = .ok (.aload_n 0, 1) := by decide +kernel
theorem d_Jo_tell_1 : decode b_Jo_tell 1 = .ok (.getfield 22, 3) := by decide +kernel
theorem d_Jo_tell_4 : decode b_Jo_tell 4 = .ok (.getfield 97, 3) := by decide +kernel
theorem d_Jo_tell_7 : decode b_Jo_tell 7 = .ok (.iload_n 1, 1) := by decide +kernel
theorem d_Jo_tell_8 : decode b_Jo_tell 8 = .ok (.iaload, 1) := by decide +kernel
theorem d_Jo_tell_9 : decode b_Jo_tell 9 = .ok (.istore_n 3, 1) := by decide +kernel
theorem d_Jo_tell_10 : decode b_Jo_tell 10 = .ok (.iload_n 2, 1) := by decide +kernel
theorem d_Jo_tell_11 : decode b_Jo_tell 11 = .ok (.tableswitch 90 0 3 #[29, 39, 41, 51], 29) := by decide +kernel
theorem d_Jo_tell_40 : decode b_Jo_tell 40 = .ok (.aload_n 0, 1) := by decide +kernel
theorem d_Jo_tell_41 : decode b_Jo_tell 41 = .ok (.getfield 22, 3) := by decide +kernel
theorem d_Jo_tell_44 : decode b_Jo_tell 44 = .ok (.getfield 93, 3) := by decide +kernel
theorem d_Jo_tell_47 : decode b_Jo_tell 47 = .ok (.iload_n 1, 1) := by decide +kernel
theorem d_Jo_tell_48 : decode b_Jo_tell 48 = .ok (.iaload, 1) := by decide +kernel
theorem d_Jo_tell_49 : decode b_Jo_tell 49 = .ok (.ireturn, 1) := by decide +kernel
theorem d_Jo_tell_50 : decode b_Jo_tell 50 = .ok (.iload_n 3, 1) := by decide +kernel
theorem d_Jo_tell_51 : decode b_Jo_tell 51 = .ok (.ireturn, 1) := by decide +kernel
theorem d_Jo_tell_52 : decode b_Jo_tell 52 = .ok (.aload_n 0, 1) := by decide +kernel
theorem d_Jo_tell_53 : decode b_Jo_tell 53 = .ok (.getfield 22, 3) := by decide +kernel
theorem d_Jo_tell_56 : decode b_Jo_tell 56 = .ok (.getfield 99, 3) := by decide +kernel
theorem d_Jo_tell_59 : decode b_Jo_tell 59 = .ok (.iload_n 1, 1) := by decide +kernel
theorem d_Jo_tell_60 : decode b_Jo_tell 60 = .ok (.iaload, 1) := by decide +kernel
theorem d_Jo_tell_61 : decode b_Jo_tell 61 = .ok (.ireturn, 1) := by decide +kernel
theorem d_Jo_tell_62 : decode b_Jo_tell 62 = .ok (.aload_n 0, 1) := by decide +kernel
theorem d_Jo_tell_63 : decode b_Jo_tell 63 = .ok (.getfield 22, 3) := by decide +kernel
theorem d_Jo_tell_66 : decode b_Jo_tell 66 = .ok (.getfield 93, 3) := by decide +kernel
theorem d_Jo_tell_69 : decode b_Jo_tell 69 = .ok (.iload_n 1, 1) := by decide +kernel
theorem d_Jo_tell_70 : decode b_Jo_tell 70 = .ok (.iaload, 1) := by decide +kernel
theorem d_Jo_tell_71 : decode b_Jo_tell 71 = .ok (.ifCond .ne 20, 3) := by decide +kernel
theorem d_Jo_tell_74 : decode b_Jo_tell 74 = .ok (.aload_n 0, 1) := by decide +kernel
theorem d_Jo_tell_75 : decode b_Jo_tell 75 = .ok (.iload_n 3, 1) := by decide +kernel
theorem d_Jo_tell_76 : decode b_Jo_tell 76 = .ok (.aload_n 0, 1) := by decide +kernel
theorem d_Jo_tell_77 : decode b_Jo_tell 77 = .ok (.getfield 22, 3) := by decide +kernel
theorem d_Jo_tell_80 : decode b_Jo_tell 80 = .ok (.getfield 99, 3) := by decide +kernel
theorem d_Jo_tell_83 : decode b_Jo_tell 83 = .ok (.iload_n 1, 1) := by decide +kernel
theorem d_Jo_tell_84 : decode b_Jo_tell 84 = .ok (.iaload, 1) := by decide +kernel
theorem d_Jo_tell_85 : decode b_Jo_tell 85 = .ok (.invokevirtual 104, 3) := by decide +kernel
theorem d_Jo_tell_88 : decode b_Jo_tell 88 = .ok (.goto 12, 3) := by decide +kernel
theorem d_Jo_tell_91 : decode b_Jo_tell 91 = .ok (.aload_n 0, 1) := by decide +kernel
theorem d_Jo_tell_92 : decode b_Jo_tell 92 = .ok (.getfield 11, 3) := by decide +kernel
theorem d_Jo_tell_95 : decode b_Jo_tell 95 = .ok (.iload_n 3, 1) := by decide +kernel
theorem d_Jo_tell_96 : decode b_Jo_tell 96 = .ok (.aaload, 1) := by decide +kernel
theorem d_Jo_tell_97 : decode b_Jo_tell 97 = .ok (.getfield 113, 3) := by decide +kernel
theorem d_Jo_tell_100 : decode b_Jo_tell 100 = .ok (.ireturn, 1) := by decide +kernel
theorem d_Jo_tell_101 : decode b_Jo_tell 101 = .ok (.iconst (-1), 1) := by decide +kernel
theorem d_Jo_tell_102 : decode b_Jo_tell 102 = .ok (.ireturn, 1) := by decide +kernel
theorem d_Li_init_0 : decode b_Li_init 0 = .ok (.aload_n 0, 1) := by decide +kernel
theorem d_Li_init_1 : decode b_Li_init 1 = .ok (.invokespecial 1, 3) := by decide +kernel
theorem d_Li_init_4 : decode b_Li_init 4 = .ok (.aload_n 0, 1) := by decide +kernel
theorem d_Li_init_5 : decode b_Li_init 5 = .ok (.iload_n 1, 1) := by decide +kernel
theorem d_Li_init_6 : decode b_Li_init 6 = .ok (.newarray .int, 2) := by decide +kernel
theorem d_Li_init_8 : decode b_Li_init 8 = .ok (.putfield 7, 3) := by decide +kernel
theorem d_Li_init_11 : decode b_Li_init 11 = .ok (.aload_n 0, 1) := by decide +kernel
theorem d_Li_init_12 : decode b_Li_init 12 = .ok (.iload_n 1, 1) := by decide +kernel
theorem d_Li_init_13 : decode b_Li_init 13 = .ok (.newarray .int, 2) := by decide +kernel
theorem d_Li_init_15 : decode b_Li_init 15 = .ok (.putfield 13, 3) := by decide +kernel
theorem d_Li_init_18 : decode b_Li_init 18 = .ok (.aload_n 0, 1) := by decide +kernel
theorem d_Li_init_19 : decode b_Li_init 19 = .ok (.iload_n 1, 1) := by decide +kernel
theorem d_Li_init_20 : decode b_Li_init 20 = .ok (.newarray .int, 2) := by decide +kernel
theorem d_Li_init_22 : decode b_Li_init 22 = .ok (.putfield 16, 3) := by decide +kernel
theorem d_Li_init_25 : decode b_Li_init 25 = .ok (.return_, 1) := by decide +kernel
theorem d_Li_add_0 : decode b_Li_add 0 = .ok (.aload_n 0, 1) := by decide +kernel
theorem d_Li_add_1 : decode b_Li_add 1 = .ok (.getfield 19, 3) := by decide +kernel
theorem d_Li_add_4 : decode b_Li_add 4 = .ok (.aload_n 0, 1) := by decide +kernel
theorem d_Li_add_5 : decode b_Li_add 5 = .ok (.getfield 7, 3) := by decide +kernel
theorem d_Li_add_8 : decode b_Li_add 8 = .ok (.arraylength, 1) := by decide +kernel
theorem d_Li_add_9 : decode b_Li_add 9 = .ok (.if_icmp .lt 5, 3) := by decide +kernel
theorem d_Li_add_12 : decode b_Li_add 12 = .ok (.iconst 0, 1) := by decide +kernel
theorem d_Li_add_13 : decode b_Li_add 13 = .ok (.ireturn, 1) := by decide +kernel
theorem d_Li_add_14 : decode b_Li_add 14 = .ok (.aload_n 0, 1) := by decide +kernel
theorem d_Li_add_15 : decode b_Li_add 15 = .ok (.getfield 7, 3) := by decide +kernel
theorem d_Li_add_18 : decode b_Li_add 18 = .ok (.aload_n 0, 1) := by decide +kernel
theorem d_Li_add_19 : decode b_Li_add 19 = .ok (.getfield 19, 3) := by decide +kernel
theorem d_Li_add_22 : decode b_Li_add 22 = .ok (.iload_n 1, 1) := by decide +kernel
theorem d_Li_add_23 : decode b_Li_add 23 = .ok (.iastore, 1) := by decide +kernel
theorem d_Li_add_24 : decode b_Li_add 24 = .ok (.aload_n 0, 1) := by decide +kernel
theorem d_Li_add_25 : decode b_Li_add 25 = .ok (.getfield 13, 3) := by decide +kernel
theorem d_Li_add_28 : decode b_Li_add 28 = .ok (.aload_n 0, 1) := by decide +kernel
theorem d_Li_add_29 : decode b_Li_add 29 = .ok (.getfield 19, 3) := by decide +kernel
theorem d_Li_add_32 : decode b_Li_add 32 = .ok (.iload_n 2, 1) := by decide +kernel
theorem d_Li_add_33 : decode b_Li_add 33 = .ok (.iastore, 1) := by decide +kernel
theorem d_Li_add_34 : decode b_Li_add 34 = .ok (.aload_n 0, 1) := by decide +kernel
theorem d_Li_add_35 : decode b_Li_add 35 = .ok (.getfield 16, 3) := by decide +kernel
theorem d_Li_add_38 : decode b_Li_add 38 = .ok (.aload_n 0, 1) := by decide +kernel
theorem d_Li_add_39 : decode b_Li_add 39 = .ok (.getfield 19, 3) := by decide +kernel
theorem d_Li_add_42 : decode b_Li_add 42 = .ok (.iload_n 3, 1) := by decide +kernel
theorem d_Li_add_43 : decode b_Li_add 43 = .ok (.iastore, 1) := by decide +kernel
theorem d_Li_add_44 : decode b_Li_add 44 = .ok (.aload_n 0, 1) := by decide +kernel
theorem d_Li_add_45 : decode b_Li_add 45 = .ok (.dup, 1) := by decide +kernel
theorem d_Li_add_46 : decode b_Li_add 46 = .ok (.getfield 19, 3) := by decide +kernel
theorem d_Li_add_49 : decode b_Li_add 49 = .ok (.iconst 1, 1) := by decide +kernel
theorem d_Li_add_50 : decode b_Li_add 50 = .ok (.iadd, 1) := by decide +kernel
theorem d_Li_add_51 : decode b_Li_add 51 = .ok (.putfield 19, 3) := by decide +kernel
theorem d_Li_add_54 : decode b_Li_add 54 = .ok (.iconst 1, 1) := by decide +kernel
theorem d_Li_add_55 : decode b_Li_add 55 = .ok (.ireturn, 1) := by decide +kernel
theorem d_Li_removeAt_0 : decode b_Li_removeAt 0 = .ok (.iload_n 1, 1) := by decide +kernel
theorem d_Li_removeAt_1 : decode b_Li_removeAt 1 = .ok (.iconst 1, 1) := by decide +kernel
theorem d_Li_removeAt_2 : decode b_Li_removeAt 2 = .ok (.iadd, 1) := by decide +kernel
theorem d_Li_removeAt_3 : decode b_Li_removeAt 3 = .ok (.istore_n 2, 1) := by decide +kernel
theorem d_Li_removeAt_4 : decode b_Li_removeAt 4 = .ok (.iload_n 2, 1) := by decide +kernel
theorem d_Li_removeAt_5 : decode b_Li_removeAt 5 = .ok (.aload_n 0, 1) := by decide +kernel
theorem d_Li_removeAt_6 : decode b_Li_removeAt 6 = .ok (.getfield 19, 3) := by decide +kernel
theorem d_Li_removeAt_9 : decode b_Li_removeAt 9 = .ok (.if_icmp .ge 51, 3) := by decide +kernel
theorem d_Li_removeAt_12 : decode b_Li_removeAt 12 = .ok (.aload_n 0, 1) := by decide +kernel
theorem d_Li_removeAt_13 : decode b_Li_removeAt 13 = .ok (.getfield 7, 3) := by decide +kernel
theorem d_Li_removeAt_16 : decode b_Li_removeAt 16 = .ok (.iload_n 2, 1) := by decide +kernel
theorem d_Li_removeAt_17 : decode b_Li_removeAt 17 = .ok (.iconst 1, 1) := by decide +kernel
theorem d_Li_removeAt_18 : decode b_Li_removeAt 18 = .ok (.isub, 1) := by decide +kernel
theorem d_Li_removeAt_19 : decode b_Li_removeAt 19 = .ok (.aload_n 0, 1) := by decide +kernel
theorem d_Li_removeAt_20 : decode b_Li_removeAt 20 = .ok (.getfield 7, 3) := by decide +kernel
theorem d_Li_removeAt_23 : decode b_Li_removeAt 23 = .ok (.iload_n 2, 1) := by decide +kernel
theorem d_Li_removeAt_24 : decode b_Li_removeAt 24 = .ok (.iaload, 1) := by decide +kernel
theorem d_Li_removeAt_25 : decode b_Li_removeAt 25 = .ok (.iastore, 1) := by decide +kernel
theorem d_Li_removeAt_26 : decode b_Li_removeAt 26 = .ok (.aload_n 0, 1) := by decide +kernel
theorem d_Li_removeAt_27 : decode b_Li_removeAt 27 = .ok (.getfield 13, 3) := by decide +kernel
theorem d_Li_removeAt_30 : decode b_Li_removeAt 30 = .ok (.iload_n 2, 1) := by decide +kernel
theorem d_Li_removeAt_31 : decode b_Li_removeAt 31 = .ok (.iconst 1, 1) := by decide +kernel
theorem d_Li_removeAt_32 : decode b_Li_removeAt 32 = .ok (.isub, 1) := by decide +kernel
theorem d_Li_removeAt_33 : decode b_Li_removeAt 33 = .ok (.aload_n 0, 1) := by decide +kernel
theorem d_Li_removeAt_34 : decode b_Li_removeAt 34 = .ok (.getfield 13, 3) := by decide +kernel
theorem d_Li_removeAt_37 : decode b_Li_removeAt 37 = .ok (.iload_n 2, 1) := by decide +kernel
theorem d_Li_removeAt_38 : decode b_Li_removeAt 38 = .ok (.iaload, 1) := by decide +kernel
theorem d_Li_removeAt_39 : decode b_Li_removeAt 39 = .ok (.iastore, 1) := by decide +kernel
theorem d_Li_removeAt_40 : decode b_Li_removeAt 40 = .ok (.aload_n 0, 1) := by decide +kernel
theorem d_Li_removeAt_41 : decode b_Li_removeAt 41 = .ok (.getfield 16, 3) := by decide +kernel
theorem d_Li_removeAt_44 : decode b_Li_removeAt 44 = .ok (.iload_n 2, 1) := by decide +kernel
theorem d_Li_removeAt_45 : decode b_Li_removeAt 45 = .ok (.iconst 1, 1) := by decide +kernel
theorem d_Li_removeAt_46 : decode b_Li_removeAt 46 = .ok (.isub, 1) := by decide +kernel
theorem d_Li_removeAt_47 : decode b_Li_removeAt 47 = .ok (.aload_n 0, 1) := by decide +kernel
theorem d_Li_removeAt_48 : decode b_Li_removeAt 48 = .ok (.getfield 16, 3) := by decide +kernel
theorem d_Li_removeAt_51 : decode b_Li_removeAt 51 = .ok (.iload_n 2, 1) := by decide +kernel
theorem d_Li_removeAt_52 : decode b_Li_removeAt 52 = .ok (.iaload, 1) := by decide +kernel
theorem d_Li_removeAt_53 : decode b_Li_removeAt 53 = .ok (.iastore, 1) := by decide +kernel
theorem d_Li_removeAt_54 : decode b_Li_removeAt 54 = .ok (.iinc 2 1, 3) := by decide +kernel
theorem d_Li_removeAt_57 : decode b_Li_removeAt 57 = .ok (.goto (-53), 3) := by decide +kernel
theorem d_Li_removeAt_60 : decode b_Li_removeAt 60 = .ok (.aload_n 0, 1) := by decide +kernel
theorem d_Li_removeAt_61 : decode b_Li_removeAt 61 = .ok (.dup, 1) := by decide +kernel
theorem d_Li_removeAt_62 : decode b_Li_removeAt 62 = .ok (.getfield 19, 3) := by decide +kernel
theorem d_Li_removeAt_65 : decode b_Li_removeAt 65 = .ok (.iconst 1, 1) := by decide +kernel
theorem d_Li_removeAt_66 : decode b_Li_removeAt 66 = .ok (.isub, 1) := by decide +kernel
theorem d_Li_removeAt_67 : decode b_Li_removeAt 67 = .ok (.putfield 19, 3) := by decide +kernel
theorem d_Li_removeAt_70 : decode b_Li_removeAt 70 = .ok (.return_, 1) := by decide +kernel
theorem d_Ma_init_0 : decode b_Ma_init 0 = .ok (.aload_n 0, 1) := by decide +kernel
theorem d_Ma_init_1 : decode b_Ma_init 1 = .ok (.invokespecial 3, 3) := by decide +kernel
theorem d_Ma_init_4 : decode b_Ma_init 4 = .ok (.aload_n 0, 1) := by decide +kernel
theorem d_Ma_init_5 : decode b_Ma_init 5 = .ok (.iconst 4, 1) := by decide +kernel
theorem d_Ma_init_6 : decode b_Ma_init 6 = .ok (.newarray .long, 2) := by decide +kernel
theorem d_Ma_init_8 : decode b_Ma_init 8 = .ok (.putfield 9, 3) := by decide +kernel
theorem d_Ma_init_11 : decode b_Ma_init 11 = .ok (.aload_n 0, 1) := by decide +kernel
theorem d_Ma_init_12 : decode b_Ma_init 12 = .ok (.iconst 4, 1) := by decide +kernel
theorem d_Ma_init_13 : decode b_Ma_init 13 = .ok (.newarray .boolean, 2) := by decide +kernel
theorem d_Ma_init_15 : decode b_Ma_init 15 = .ok (.putfield 15, 3) := by decide +kernel
theorem d_Ma_init_18 : decode b_Ma_init 18 = .ok (.aload_n 0, 1) := by decide +kernel
theorem d_Ma_init_19 : decode b_Ma_init 19 = .ok (.bipush 8, 2) := by decide +kernel
theorem d_Ma_init_21 : decode b_Ma_init 21 = .ok (.newarray .long, 2) := by decide +kernel
theorem d_Ma_init_23 : decode b_Ma_init 23 = .ok (.putfield 19, 3) := by decide +kernel
theorem d_Ma_init_26 : decode b_Ma_init 26 = .ok (.aload_n 0, 1) := by decide +kernel
theorem d_Ma_init_27 : decode b_Ma_init 27 = .ok (.bipush 8, 2) := by decide +kernel
theorem d_Ma_init_29 : decode b_Ma_init 29 = .ok (.newarray .boolean, 2) := by decide +kernel
theorem d_Ma_init_31 : decode b_Ma_init 31 = .ok (.putfield 22, 3) := by decide +kernel
theorem d_Ma_init_34 : decode b_Ma_init 34 = .ok (.return_, 1) := by decide +kernel
theorem d_Ma_load_0 : decode b_Ma_load 0 = .ok (.iconst 0, 1) := by decide +kernel
theorem d_Ma_load_1 : decode b_Ma_load 1 = .ok (.istore 4, 2) := by decide +kernel
theorem d_Ma_load_3 : decode b_Ma_load 3 = .ok (.iload 4, 2) := by decide +kernel
theorem d_Ma_load_5 : decode b_Ma_load 5 = .ok (.iconst 2, 1) := by decide +kernel
theorem d_Ma_load_6 : decode b_Ma_load 6 = .ok (.if_icmp .ge 68, 3) := by decide +kernel
theorem d_Ma_load_9 : decode b_Ma_load 9 = .ok (.iload_n 3, 1) := by decide +kernel
theorem d_Ma_load_10 : decode b_Ma_load 10 = .ok (.iconst (-1), 1) := by decide +kernel
theorem d_Ma_load_11 : decode b_Ma_load 11 = .ok (.if_icmp .eq 13, 3) := by decide +kernel
theorem d_Ma_load_14 : decode b_Ma_load 14 = .ok (.aload_n 2, 1) := by decide +kernel
theorem d_Ma_load_15 : decode b_Ma_load 15 = .ok (.iload_n 3, 1) := by decide +kernel
theorem d_Ma_load_16 : decode b_Ma_load 16 = .ok (.iload 4, 2) := by decide +kernel
theorem d_Ma_load_18 : decode b_Ma_load 18 = .ok (.invokevirtual 25, 3) := by decide +kernel
theorem d_Ma_load_21 : decode b_Ma_load 21 = .ok (.ifCond .eq 7, 3) := by decide +kernel
theorem d_Ma_load_24 : decode b_Ma_load 24 = .ok (.iconst 1, 1) := by decide +kernel
theorem d_Ma_load_25 : decode b_Ma_load 25 = .ok (.goto 4, 3) := by decide +kernel
theorem d_Ma_load_28 : decode b_Ma_load 28 = .ok (.iconst 0, 1) := by decide +kernel
theorem d_Ma_load_29 : decode b_Ma_load 29 = .ok (.istore 5, 2) := by decide +kernel
theorem d_Ma_load_31 : decode b_Ma_load 31 = .ok (.aload_n 0, 1) := by decide +kernel
theorem d_Ma_load_32 : decode b_Ma_load 32 = .ok (.getfield 15, 3) := by decide +kernel
theorem d_Ma_load_35 : decode b_Ma_load 35 = .ok (.iload_n 1, 1) := by decide +kernel
theorem d_Ma_load_36 : decode b_Ma_load 36 = .ok (.iload 4, 2) := by decide +kernel
theorem d_Ma_load_38 : decode b_Ma_load 38 = .ok (.iadd, 1) := by decide +kernel
theorem d_Ma_load_39 : decode b_Ma_load 39 = .ok (.iload 5, 2) := by decide +kernel
theorem d_Ma_load_41 : decode b_Ma_load 41 = .ok (.bastore, 1) := by decide +kernel
theorem d_Ma_load_42 : decode b_Ma_load 42 = .ok (.aload_n 0, 1) := by decide +kernel
theorem d_Ma_load_43 : decode b_Ma_load 43 = .ok (.getfield 9, 3) := by decide +kernel
theorem d_Ma_load_46 : decode b_Ma_load 46 = .ok (.iload_n 1, 1) := by decide +kernel
theorem d_Ma_load_47 : decode b_Ma_load 47 = .ok (.iload 4, 2) := by decide +kernel
theorem d_Ma_load_49 : decode b_Ma_load 49 = .ok (.iadd, 1) := by decide +kernel
theorem d_Ma_load_50 : decode b_Ma_load 50 = .ok (.iload 5, 2) := by decide +kernel
theorem d_Ma_load_52 : decode b_Ma_load 52 = .ok (.ifCond .eq 7, 3) := by decide +kernel
theorem d_Ma_load_55 : decode b_Ma_load 55 = .ok (.lconst 0, 1) := by decide +kernel
theorem d_Ma_load_56 : decode b_Ma_load 56 = .ok (.goto 11, 3) := by decide +kernel
theorem d_Ma_load_59 : decode b_Ma_load 59 = .ok (.aload_n 2, 1) := by decide +kernel
theorem d_Ma_load_60 : decode b_Ma_load 60 = .ok (.iload_n 3, 1) := by decide +kernel
theorem d_Ma_load_61 : decode b_Ma_load 61 = .ok (.iload 4, 2) := by decide +kernel
theorem d_Ma_load_63 : decode b_Ma_load 63 = .ok (.invokevirtual 31, 3) := by decide +kernel
theorem d_Ma_load_66 : decode b_Ma_load 66 = .ok (.i2l, 1) := by decide +kernel
theorem d_Ma_load_67 : decode b_Ma_load 67 = .ok (.lastore, 1) := by decide +kernel
theorem d_Ma_load_68 : decode b_Ma_load 68 = .ok (.iinc 4 1, 3) := by decide +kernel
theorem d_Ma_load_71 : decode b_Ma_load 71 = .ok (.goto (-68), 3) := by decide +kernel
theorem d_Ma_load_74 : decode b_Ma_load 74 = .ok (.return_, 1) := by decide +kernel
