theorem d_Qu_takeCondition_0 : decode b_Qu_takeCondition 0 = .ok (.aload_n 0, 1) := by decide +kernel
theorem d_Qu_takeCondition_1 : decode b_Qu_takeCondition 1 = .ok (.getfield 58, 3) := by decide +kernel
theorem d_Qu_takeCondition_4 : decode b_Qu_takeCondition 4 = .ok (.iconst 1, 1) := by decide +kernel
theorem d_Qu_takeCondition_5 : decode b_Qu_takeCondition 5 = .ok (.if_icmp .ne 24, 3) := by decide +kernel
theorem d_Qu_takeCondition_8 : decode b_Qu_takeCondition 8 = .ok (.aload_n 0, 1) := by decide +kernel
theorem d_Qu_takeCondition_9 : decode b_Qu_takeCondition 9 = .ok (.getfield 15, 3) := by decide +kernel
theorem d_Qu_takeCondition_12 : decode b_Qu_takeCondition 12 = .ok (.iconst 0, 1) := by decide +kernel
theorem d_Qu_takeCondition_13 : decode b_Qu_takeCondition 13 = .ok (.aaload, 1) := by decide +kernel
theorem d_Qu_takeCondition_14 : decode b_Qu_takeCondition 14 = .ok (.getfield 96, 3) := by decide +kernel
theorem d_Qu_takeCondition_17 : decode b_Qu_takeCondition 17 = .ok (.ifCond .eq 12, 3) := by decide +kernel
theorem d_Qu_takeCondition_20 : decode b_Qu_takeCondition 20 = .ok (.aload_n 0, 1) := by decide +kernel
theorem d_Qu_takeCondition_21 : decode b_Qu_takeCondition 21 = .ok (.getfield 61, 3) := by decide +kernel
theorem d_Qu_takeCondition_24 : decode b_Qu_takeCondition 24 = .ok (.bipush 6, 2) := by decide +kernel
theorem d_Qu_takeCondition_26 : decode b_Qu_takeCondition 26 = .ok (.if_icmp .lt 5, 3) := by decide +kernel
theorem d_Qu_takeCondition_29 : decode b_Qu_takeCondition 29 = .ok (.iconst 0, 1) := by decide +kernel
theorem d_Qu_takeCondition_30 : decode b_Qu_takeCondition 30 = .ok (.ireturn, 1) := by decide +kernel
theorem d_Qu_takeCondition_31 : decode b_Qu_takeCondition 31 = .ok (.aload_n 0, 1) := by decide +kernel
theorem d_Qu_takeCondition_32 : decode b_Qu_takeCondition 32 = .ok (.aload_n 0, 1) := by decide +kernel
theorem d_Qu_takeCondition_33 : decode b_Qu_takeCondition 33 = .ok (.getfield 19, 3) := by decide +kernel
theorem d_Qu_takeCondition_36 : decode b_Qu_takeCondition 36 = .ok (.aload_n 0, 1) := by decide +kernel
theorem d_Qu_takeCondition_37 : decode b_Qu_takeCondition 37 = .ok (.getfield 61, 3) := by decide +kernel
theorem d_Qu_takeCondition_40 : decode b_Qu_takeCondition 40 = .ok (.invokevirtual 106, 3) := by decide +kernel
theorem d_Qu_takeCondition_43 : decode b_Qu_takeCondition 43 = .ok (.aload_n 0, 1) := by decide +kernel
theorem d_Qu_takeCondition_44 : decode b_Qu_takeCondition 44 = .ok (.dup, 1) := by decide +kernel
theorem d_Qu_takeCondition_45 : decode b_Qu_takeCondition 45 = .ok (.getfield 61, 3) := by decide +kernel
theorem d_Qu_takeCondition_48 : decode b_Qu_takeCondition 48 = .ok (.iconst 1, 1) := by decide +kernel
theorem d_Qu_takeCondition_49 : decode b_Qu_takeCondition 49 = .ok (.iadd, 1) := by decide +kernel
theorem d_Qu_takeCondition_50 : decode b_Qu_takeCondition 50 = .ok (.putfield 61, 3) := by decide +kernel
theorem d_Qu_takeCondition_53 : decode b_Qu_takeCondition 53 = .ok (.iconst 1, 1) := by decide +kernel
theorem d_Qu_takeCondition_54 : decode b_Qu_takeCondition 54 = .ok (.ireturn, 1) := by decide +kernel
theorem d_Qu_takeOutput_0 : decode b_Qu_takeOutput 0 = .ok (.aload_n 0, 1) := by decide +kernel
theorem d_Qu_takeOutput_1 : decode b_Qu_takeOutput 1 = .ok (.getfield 64, 3) := by decide +kernel
theorem d_Qu_takeOutput_4 : decode b_Qu_takeOutput 4 = .ok (.iconst 3, 1) := by decide +kernel
theorem d_Qu_takeOutput_5 : decode b_Qu_takeOutput 5 = .ok (.if_icmp .lt 5, 3) := by decide +kernel
theorem d_Qu_takeOutput_8 : decode b_Qu_takeOutput 8 = .ok (.iconst 0, 1) := by decide +kernel
theorem d_Qu_takeOutput_9 : decode b_Qu_takeOutput 9 = .ok (.ireturn, 1) := by decide +kernel
theorem d_Qu_takeOutput_10 : decode b_Qu_takeOutput 10 = .ok (.iload_n 1, 1) := by decide +kernel
theorem d_Qu_takeOutput_11 : decode b_Qu_takeOutput 11 = .ok (.iconst 1, 1) := by decide +kernel
theorem d_Qu_takeOutput_12 : decode b_Qu_takeOutput 12 = .ok (.if_icmp .ne 27, 3) := by decide +kernel
theorem d_Qu_takeOutput_15 : decode b_Qu_takeOutput 15 = .ok (.aload_n 0, 1) := by decide +kernel
theorem d_Qu_takeOutput_16 : decode b_Qu_takeOutput 16 = .ok (.getfield 58, 3) := by decide +kernel
theorem d_Qu_takeOutput_19 : decode b_Qu_takeOutput 19 = .ok (.ifCond .eq 5, 3) := by decide +kernel
theorem d_Qu_takeOutput_22 : decode b_Qu_takeOutput 22 = .ok (.iconst 0, 1) := by decide +kernel
theorem d_Qu_takeOutput_23 : decode b_Qu_takeOutput 23 = .ok (.ireturn, 1) := by decide +kernel
theorem d_Qu_takeOutput_24 : decode b_Qu_takeOutput 24 = .ok (.aload_n 0, 1) := by decide +kernel
theorem d_Qu_takeOutput_25 : decode b_Qu_takeOutput 25 = .ok (.getfield 22, 3) := by decide +kernel
theorem d_Qu_takeOutput_28 : decode b_Qu_takeOutput 28 = .ok (.aload_n 0, 1) := by decide +kernel
theorem d_Qu_takeOutput_29 : decode b_Qu_takeOutput 29 = .ok (.getfield 64, 3) := by decide +kernel
theorem d_Qu_takeOutput_32 : decode b_Qu_takeOutput 32 = .ok (.aaload, 1) := by decide +kernel
theorem d_Qu_takeOutput_33 : decode b_Qu_takeOutput 33 = .ok (.invokevirtual 89, 3) := by decide +kernel
theorem d_Qu_takeOutput_36 : decode b_Qu_takeOutput 36 = .ok (.goto 37, 3) := by decide +kernel
theorem d_Qu_takeOutput_39 : decode b_Qu_takeOutput 39 = .ok (.aload_n 0, 1) := by decide +kernel
theorem d_Qu_takeOutput_40 : decode b_Qu_takeOutput 40 = .ok (.getfield 58, 3) := by decide +kernel
theorem d_Qu_takeOutput_43 : decode b_Qu_takeOutput 43 = .ok (.iconst 1, 1) := by decide +kernel
theorem d_Qu_takeOutput_44 : decode b_Qu_takeOutput 44 = .ok (.if_icmp .ne 15, 3) := by decide +kernel
theorem d_Qu_takeOutput_47 : decode b_Qu_takeOutput 47 = .ok (.aload_n 0, 1) := by decide +kernel
theorem d_Qu_takeOutput_48 : decode b_Qu_takeOutput 48 = .ok (.getfield 15, 3) := by decide +kernel
theorem d_Qu_takeOutput_51 : decode b_Qu_takeOutput 51 = .ok (.iconst 0, 1) := by decide +kernel
theorem d_Qu_takeOutput_52 : decode b_Qu_takeOutput 52 = .ok (.aaload, 1) := by decide +kernel
theorem d_Qu_takeOutput_53 : decode b_Qu_takeOutput 53 = .ok (.getfield 96, 3) := by decide +kernel
theorem d_Qu_takeOutput_56 : decode b_Qu_takeOutput 56 = .ok (.ifCond .eq 5, 3) := by decide +kernel
theorem d_Qu_takeOutput_59 : decode b_Qu_takeOutput 59 = .ok (.iconst 0, 1) := by decide +kernel
theorem d_Qu_takeOutput_60 : decode b_Qu_takeOutput 60 = .ok (.ireturn, 1) := by decide +kernel
theorem d_Qu_takeOutput_61 : decode b_Qu_takeOutput 61 = .ok (.aload_n 0, 1) := by decide +kernel
theorem d_Qu_takeOutput_62 : decode b_Qu_takeOutput 62 = .ok (.aload_n 0, 1) := by decide +kernel
theorem d_Qu_takeOutput_63 : decode b_Qu_takeOutput 63 = .ok (.getfield 22, 3) := by decide +kernel
theorem d_Qu_takeOutput_66 : decode b_Qu_takeOutput 66 = .ok (.aload_n 0, 1) := by decide +kernel
theorem d_Qu_takeOutput_67 : decode b_Qu_takeOutput 67 = .ok (.getfield 64, 3) := by decide +kernel
theorem d_Qu_takeOutput_70 : decode b_Qu_takeOutput 70 = .ok (.invokevirtual 106, 3) := by decide +kernel
theorem d_Qu_takeOutput_73 : decode b_Qu_takeOutput 73 = .ok (.aload_n 0, 1) := by decide +kernel
theorem d_Qu_takeOutput_74 : decode b_Qu_takeOutput 74 = .ok (.getfield 25, 3) := by decide +kernel
theorem d_Qu_takeOutput_77 : decode b_Qu_takeOutput 77 = .ok (.aload_n 0, 1) := by decide +kernel
theorem d_Qu_takeOutput_78 : decode b_Qu_takeOutput 78 = .ok (.getfield 64, 3) := by decide +kernel
theorem d_Qu_takeOutput_81 : decode b_Qu_takeOutput 81 = .ok (.iload_n 1, 1) := by decide +kernel
theorem d_Qu_takeOutput_82 : decode b_Qu_takeOutput 82 = .ok (.iastore, 1) := by decide +kernel
theorem d_Qu_takeOutput_83 : decode b_Qu_takeOutput 83 = .ok (.aload_n 0, 1) := by decide +kernel
theorem d_Qu_takeOutput_84 : decode b_Qu_takeOutput 84 = .ok (.dup, 1) := by decide +kernel
theorem d_Qu_takeOutput_85 : decode b_Qu_takeOutput 85 = .ok (.getfield 64, 3) := by decide +kernel
theorem d_Qu_takeOutput_88 : decode b_Qu_takeOutput 88 = .ok (.iconst 1, 1) := by decide +kernel
theorem d_Qu_takeOutput_89 : decode b_Qu_takeOutput 89 = .ok (.iadd, 1) := by decide +kernel
theorem d_Qu_takeOutput_90 : decode b_Qu_takeOutput 90 = .ok (.putfield 64, 3) := by decide +kernel
theorem d_Qu_takeOutput_93 : decode b_Qu_takeOutput 93 = .ok (.iconst 1, 1) := by decide +kernel
theorem d_Qu_takeOutput_94 : decode b_Qu_takeOutput 94 = .ok (.ireturn, 1) := by decide +kernel
theorem d_Qu_moveOffStack_0 : decode b_Qu_moveOffStack 0 = .ok (.aload_n 1, 1) := by decide +kernel
theorem d_Qu_moveOffStack_1 : decode b_Qu_moveOffStack 1 = .ok (.iload_n 2, 1) := by decide +kernel
theorem d_Qu_moveOffStack_2 : decode b_Qu_moveOffStack 2 = .ok (.aaload, 1) := by decide +kernel
theorem d_Qu_moveOffStack_3 : decode b_Qu_moveOffStack 3 = .ok (.astore_n 3, 1) := by decide +kernel
theorem d_Qu_moveOffStack_4 : decode b_Qu_moveOffStack 4 = .ok (.aload_n 1, 1) := by decide +kernel
theorem d_Qu_moveOffStack_5 : decode b_Qu_moveOffStack 5 = .ok (.iload_n 2, 1) := by decide +kernel
theorem d_Qu_moveOffStack_6 : decode b_Qu_moveOffStack 6 = .ok (.aload_n 0, 1) := by decide +kernel
theorem d_Qu_moveOffStack_7 : decode b_Qu_moveOffStack 7 = .ok (.getfield 15, 3) := by decide +kernel
theorem d_Qu_moveOffStack_10 : decode b_Qu_moveOffStack 10 = .ok (.iconst 0, 1) := by decide +kernel
theorem d_Qu_moveOffStack_11 : decode b_Qu_moveOffStack 11 = .ok (.aaload, 1) := by decide +kernel
theorem d_Qu_moveOffStack_12 : decode b_Qu_moveOffStack 12 = .ok (.aastore, 1) := by decide +kernel
theorem d_Qu_moveOffStack_13 : decode b_Qu_moveOffStack 13 = .ok (.aload_n 0, 1) := by decide +kernel
theorem d_Qu_moveOffStack_14 : decode b_Qu_moveOffStack 14 = .ok (.getfield 15, 3) := by decide +kernel
theorem d_Qu_moveOffStack_17 : decode b_Qu_moveOffStack 17 = .ok (.iconst 0, 1) := by decide +kernel
theorem d_Qu_moveOffStack_18 : decode b_Qu_moveOffStack 18 = .ok (.aload_n 3, 1) := by decide +kernel
theorem d_Qu_moveOffStack_19 : decode b_Qu_moveOffStack 19 = .ok (.aastore, 1) := by decide +kernel
theorem d_Qu_moveOffStack_20 : decode b_Qu_moveOffStack 20 = .ok (.aload_n 0, 1) := by decide +kernel
theorem d_Qu_moveOffStack_21 : decode b_Qu_moveOffStack 21 = .ok (.iconst 0, 1) := by decide +kernel
theorem d_Qu_moveOffStack_22 : decode b_Qu_moveOffStack 22 = .ok (.putfield 58, 3) := by decide +kernel
theorem d_Qu_moveOffStack_25 : decode b_Qu_moveOffStack 25 = .ok (.return_, 1) := by decide +kernel
theorem d_Re_init_0 : decode b_Re_init 0 = .ok (.aload_n 0, 1) := by decide +kernel
theorem d_Re_init_1 : decode b_Re_init 1 = .ok (.invokespecial 3, 3) := by decide +kernel
theorem d_Re_init_4 : decode b_Re_init 4 = .ok (.aload_n 0, 1) := by decide +kernel
theorem d_Re_init_5 : decode b_Re_init 5 = .ok (.sipush 576, 3) := by decide +kernel
theorem d_Re_init_8 : decode b_Re_init 8 = .ok (.newarray .long, 2) := by decide +kernel
theorem d_Re_init_10 : decode b_Re_init 10 = .ok (.putfield 9, 3) := by decide +kernel
theorem d_Re_init_13 : decode b_Re_init 13 = .ok (.aload_n 0, 1) := by decide +kernel
theorem d_Re_init_14 : decode b_Re_init 14 = .ok (.sipush 576, 3) := by decide +kernel
theorem d_Re_init_17 : decode b_Re_init 17 = .ok (.newarray .boolean, 2) := by decide +kernel
theorem d_Re_init_19 : decode b_Re_init 19 = .ok (.putfield 15, 3) := by decide +kernel
theorem d_Re_init_22 : decode b_Re_init 22 = .ok (.aload_n 0, 1) := by decide +kernel
theorem d_Re_init_23 : decode b_Re_init 23 = .ok (.sipush 144, 3) := by decide +kernel
theorem d_Re_init_26 : decode b_Re_init 26 = .ok (.newarray .int, 2) := by decide +kernel
theorem d_Re_init_28 : decode b_Re_init 28 = .ok (.putfield 19, 3) := by decide +kernel
theorem d_Re_init_31 : decode b_Re_init 31 = .ok (.return_, 1) := by decide +kernel
theorem d_Re_set_0 : decode b_Re_set 0 = .ok (.aload_n 0, 1) := by decide +kernel
theorem d_Re_set_1 : decode b_Re_set 1 = .ok (.getfield 9, 3) := by decide +kernel
theorem d_Re_set_4 : decode b_Re_set 4 = .ok (.iload_n 1, 1) := by decide +kernel
theorem d_Re_set_5 : decode b_Re_set 5 = .ok (.iconst 4, 1) := by decide +kernel
theorem d_Re_set_6 : decode b_Re_set 6 = .ok (.imul, 1) := by decide +kernel
theorem d_Re_set_7 : decode b_Re_set 7 = .ok (.iload_n 2, 1) := by decide +kernel
theorem d_Re_set_8 : decode b_Re_set 8 = .ok (.iadd, 1) := by decide +kernel
theorem d_Re_set_9 : decode b_Re_set 9 = .ok (.lload_n 3, 1) := by decide +kernel
theorem d_Re_set_10 : decode b_Re_set 10 = .ok (.lastore, 1) := by decide +kernel
theorem d_Re_set_11 : decode b_Re_set 11 = .ok (.aload_n 0, 1) := by decide +kernel
theorem d_Re_set_12 : decode b_Re_set 12 = .ok (.getfield 15, 3) := by decide +kernel
theorem d_Re_set_15 : decode b_Re_set 15 = .ok (.iload_n 1, 1) := by decide +kernel
theorem d_Re_set_16 : decode b_Re_set 16 = .ok (.iconst 4, 1) := by decide +kernel
theorem d_Re_set_17 : decode b_Re_set 17 = .ok (.imul, 1) := by decide +kernel
theorem d_Re_set_18 : decode b_Re_set 18 = .ok (.iload_n 2, 1) := by decide +kernel
theorem d_Re_set_19 : decode b_Re_set 19 = .ok (.iadd, 1) := by decide +kernel
theorem d_Re_set_20 : decode b_Re_set 20 = .ok (.iload 5, 2) := by decide +kernel
theorem d_Re_set_22 : decode b_Re_set 22 = .ok (.bastore, 1) := by decide +kernel
theorem d_Re_set_23 : decode b_Re_set 23 = .ok (.return_, 1) := by decide +kernel
theorem d_Re_value_0 : decode b_Re_value 0 = .ok (.aload_n 0, 1) := by decide +kernel
theorem d_Re_value_1 : decode b_Re_value 1 = .ok (.getfield 9, 3) := by decide +kernel
theorem d_Re_value_4 : decode b_Re_value 4 = .ok (.aload_n 0, 1) := by decide +kernel
theorem d_Re_value_5 : decode b_Re_value 5 = .ok (.getfield 19, 3) := by decide +kernel
theorem d_Re_value_8 : decode b_Re_value 8 = .ok (.iload_n 1, 1) := by decide +kernel
theorem d_Re_value_9 : decode b_Re_value 9 = .ok (.iaload, 1) := by decide +kernel
theorem d_Re_value_10 : decode b_Re_value 10 = .ok (.iconst 4, 1) := by decide +kernel
theorem d_Re_value_11 : decode b_Re_value 11 = .ok (.imul, 1) := by decide +kernel
theorem d_Re_value_12 : decode b_Re_value 12 = .ok (.iload_n 2, 1) := by decide +kernel
theorem d_Re_value_13 : decode b_Re_value 13 = .ok (.iadd, 1) := by decide +kernel
theorem d_Re_value_14 : decode b_Re_value 14 = .ok (.laload, 1) := by decide +kernel
theorem d_Re_value_15 : decode b_Re_value 15 = .ok (.lreturn, 1) := by decide +kernel
theorem d_Re_isNull_0 : decode b_Re_isNull 0 = .ok (.aload_n 0, 1) := by decide +kernel
theorem d_Re_isNull_1 : decode b_Re_isNull 1 = .ok (.getfield 15, 3) := by decide +kernel
theorem d_Re_isNull_4 : decode b_Re_isNull 4 = .ok (.aload_n 0, 1) := by decide +kernel
theorem d_Re_isNull_5 : decode b_Re_isNull 5 = .ok (.getfield 19, 3) := by decide +kernel
theorem d_Re_isNull_8 : decode b_Re_isNull 8 = .ok (.iload_n 1, 1) := by decide +kernel
theorem d_Re_isNull_9 : decode b_Re_isNull 9 = .ok (.iaload, 1) := by decide +kernel
theorem d_Re_isNull_10 : decode b_Re_isNull 10 = .ok (.iconst 4, 1) := by decide +kernel
theorem d_Re_isNull_11 : decode b_Re_isNull 11 = .ok (.imul, 1) := by decide +kernel
theorem d_Re_isNull_12 : decode b_Re_isNull 12 = .ok (.iload_n 2, 1) := by decide +kernel
theorem d_Re_isNull_13 : decode b_Re_isNull 13 = .ok (.iadd, 1) := by decide +kernel
theorem d_Re_isNull_14 : decode b_Re_isNull 14 = .ok (.baload, 1) := by decide +kernel
theorem d_Re_isNull_15 : decode b_Re_isNull 15 = .ok (.ireturn, 1) := by decide +kernel
theorem d_Re_sort_0 : decode b_Re_sort 0 = .ok (.aload_n 1, 1) := by decide +kernel
theorem d_Re_sort_1 : decode b_Re_sort 1 = .ok (.getfield 23, 3) := by decide +kernel
theorem d_Re_sort_4 : decode b_Re_sort 4 = .ok (.aload_n 0, 1) := by decide +kernel
theorem d_Re_sort_5 : decode b_Re_sort 5 = .ok (.getfield 29, 3) := by decide +kernel
theorem d_Re_sort_8 : decode b_Re_sort 8 = .ok (.if_icmp .ge 10, 3) := by decide +kernel
theorem d_Re_sort_11 : decode b_Re_sort 11 = .ok (.aload_n 1, 1) := by decide +kernel
theorem d_Re_sort_12 : decode b_Re_sort 12 = .ok (.getfield 23, 3) := by decide +kernel
theorem d_Re_sort_15 : decode b_Re_sort 15 = .ok (.goto 4, 3) := by decide +kernel
theorem d_Re_sort_18 : decode b_Re_sort 18 = .ok (.iconst 0, 1) := by decide +kernel
theorem d_Re_sort_19 : decode b_Re_sort 19 = .ok (.istore_n 2, 1) := by decide +kernel
theorem d_Re_sort_20 : decode b_Re_sort 20 = .ok (.iconst 0, 1) := by decide +kernel
theorem d_Re_sort_21 : decode b_Re_sort 21 = .ok (.istore_n 3, 1) := by decide +kernel
theorem d_Re_sort_22 : decode b_Re_sort 22 = .ok (.iload_n 3, 1) := by decide +kernel
theorem d_Re_sort_23 : decode b_Re_sort 23 = .ok (.aload_n 0, 1) := by decide +kernel
theorem d_Re_sort_24 : decode b_Re_sort 24 = .ok (.getfield 32, 3) := by decide +kernel
theorem d_Re_sort_27 : decode b_Re_sort 27 = .ok (.if_icmp .ge 69, 3) := by decide +kernel
theorem d_Re_sort_30 : decode b_Re_sort 30 = .ok (.iload_n 3, 1) := by decide +kernel
theorem d_Re_sort_31 : decode b_Re_sort 31 = .ok (.istore 4, 2) := by decide +kernel
theorem d_Re_sort_33 : decode b_Re_sort 33 = .ok (.iload 4, 2) := by decide +kernel
theorem d_Re_sort_35 : decode b_Re_sort 35 = .ok (.ifCond .le 47, 3) := by decide +kernel
theorem d_Re_sort_38 : decode b_Re_sort 38 = .ok (.aload_n 0, 1) := by decide +kernel
theorem d_Re_sort_39 : decode b_Re_sort 39 = .ok (.iload_n 3, 1) := by decide +kernel
theorem d_Re_sort_40 : decode b_Re_sort 40 = .ok (.aload_n 0, 1) := by decide +kernel
theorem d_Re_sort_41 : decode b_Re_sort 41 = .ok (.getfield 19, 3) := by decide +kernel
theorem d_Re_sort_44 : decode b_Re_sort 44 = .ok (.iload 4, 2) := by decide +kernel
theorem d_Re_sort_46 : decode b_Re_sort 46 = .ok (.iconst 1, 1) := by decide +kernel
theorem d_Re_sort_47 : decode b_Re_sort 47 = .ok (.isub, 1) := by decide +kernel
theorem d_Re_sort_48 : decode b_Re_sort 48 = .ok (.iaload, 1) := by decide +kernel
theorem d_Re_sort_49 : decode b_Re_sort 49 = .ok (.iload_n 2, 1) := by decide +kernel
theorem d_Re_sort_50 : decode b_Re_sort 50 = .ok (.aload_n 1, 1) := by decide +kernel
theorem d_Re_sort_51 : decode b_Re_sort 51 = .ok (.getfield 35, 3) := by decide +kernel
theorem d_Re_sort_54 : decode b_Re_sort 54 = .ok (.invokevirtual 39, 3) := by decide +kernel
theorem d_Re_sort_57 : decode b_Re_sort 57 = .ok (.ifCond .ge 25, 3) := by decide +kernel
theorem d_Re_sort_60 : decode b_Re_sort 60 = .ok (.aload_n 0, 1) := by decide +kernel
theorem d_Re_sort_61 : decode b_Re_sort 61 = .ok (.getfield 19, 3) := by decide +kernel
theorem d_Re_sort_64 : decode b_Re_sort 64 = .ok (.iload 4, 2) := by decide +kernel
theorem d_Re_sort_66 : decode b_Re_sort 66 = .ok (.aload_n 0, 1) := by decide +kernel
theorem d_Re_sort_67 : decode b_Re_sort 67 = .ok (.getfield 19, 3) := by decide +kernel
theorem d_Re_sort_70 : decode b_Re_sort 70 = .ok (.iload 4, 2) := by decide +kernel
theorem d_Re_sort_72 : decode b_Re_sort 72 = .ok (.iconst 1, 1) := by decide +kernel
theorem d_Re_sort_73 : decode b_Re_sort 73 = .ok (.isub, 1) := by decide +kernel
theorem d_Re_sort_74 : decode b_Re_sort 74 = .ok (.iaload, 1) := by decide +kernel
theorem d_Re_sort_75 : decode b_Re_sort 75 = .ok (.iastore, 1) := by decide +kernel
theorem d_Re_sort_76 : decode b_Re_sort 76 = .ok (.iinc 4 (-1), 3) := by decide +kernel
theorem d_Re_sort_79 : decode b_Re_sort 79 = .ok (.goto (-46), 3) := by decide +kernel
theorem d_Re_sort_82 : decode b_Re_sort 82 = .ok (.aload_n 0, 1) := by decide +kernel
theorem d_Re_sort_83 : decode b_Re_sort 83 = .ok (.getfield 19, 3) := by decide +kernel
theorem d_Re_sort_86 : decode b_Re_sort 86 = .ok (.iload 4, 2) := by decide +kernel
theorem d_Re_sort_88 : decode b_Re_sort 88 = .ok (.iload_n 3, 1) := by decide +kernel
theorem d_Re_sort_89 : decode b_Re_sort 89 = .ok (.iastore, 1) := by decide +kernel
theorem d_Re_sort_90 : decode b_Re_sort 90 = .ok (.iinc 3 1, 3) := by decide +kernel
theorem d_Re_sort_93 : decode b_Re_sort 93 = .ok (.goto (-71), 3) := by decide +kernel
theorem d_Re_sort_96 : decode b_Re_sort 96 = .ok (.aload_n 0, 1) := by decide +kernel
theorem d_Re_sort_97 : decode b_Re_sort 97 = .ok (.aload_n 1, 1) := by decide +kernel
theorem d_Re_sort_98 : decode b_Re_sort 98 = .ok (.getfield 43, 3) := by decide +kernel
theorem d_Re_sort_101 : decode b_Re_sort 101 = .ok (.ifCond .ge 10, 3) := by decide +kernel
theorem d_Re_sort_104 : decode b_Re_sort 104 = .ok (.aload_n 0, 1) := by decide +kernel
theorem d_Re_sort_105 : decode b_Re_sort 105 = .ok (.getfield 32, 3) := by decide +kernel
theorem d_Re_sort_108 : decode b_Re_sort 108 = .ok (.goto 14, 3) := by decide +kernel
theorem d_Re_sort_111 : decode b_Re_sort 111 = .ok (.aload_n 0, 1) := by decide +kernel
theorem d_Re_sort_112 : decode b_Re_sort 112 = .ok (.getfield 32, 3) := by decide +kernel
theorem d_Re_sort_115 : decode b_Re_sort 115 = .ok (.aload_n 1, 1) := by decide +kernel
theorem d_Re_sort_116 : decode b_Re_sort 116 = .ok (.getfield 43, 3) := by decide +kernel
theorem d_Re_sort_119 : decode b_Re_sort 119 = .ok (.invokestatic 46, 3) := by decide +kernel
theorem d_Re_sort_122 : decode b_Re_sort 122 = .ok (.putfield 52, 3) := by decide +kernel
theorem d_Re_sort_125 : decode b_Re_sort 125 = .ok (.return_, 1) := by decide +kernel
theorem d_Re_compare_0 : decode b_Re_compare 0 = .ok (.aload_n 0, 1) := by decide +kernel
theorem d_Re_compare_1 : decode b_Re_compare 1 = .ok (.iload_n 1, 1) := by decide +kernel
theorem d_Re_compare_2 : decode b_Re_compare 2 = .ok (.iload_n 2, 1) := by decide +kernel
theorem d_Re_compare_3 : decode b_Re_compare 3 = .ok (.iload_n 3, 1) := by decide +kernel
theorem d_Re_compare_4 : decode b_Re_compare 4 = .ok (.invokevirtual 55, 3) := by decide +kernel
theorem d_Re_compare_7 : decode b_Re_compare 7 = .ok (.istore 5, 2) := by decide +kernel
theorem d_Re_compare_9 : decode b_Re_compare 9 = .ok (.iload 5, 2) := by decide +kernel
theorem d_Re_compare_11 : decode b_Re_compare 11 = .ok (.ifCond .eq 17, 3) := by decide +kernel
theorem d_Re_compare_14 : decode b_Re_compare 14 = .ok (.iload 4, 2) := by decide +kernel
theorem d_Re_compare_16 : decode b_Re_compare 16 = .ok (.ifCond .eq 9, 3) := by decide +kernel
theorem d_Re_compare_19 : decode b_Re_compare 19 = .ok (.iload 5, 2) := by decide +kernel
theorem d_Re_compare_21 : decode b_Re_compare 21 = .ok (.ineg, 1) := by decide +kernel
theorem d_Re_compare_22 : decode b_Re_compare 22 = .ok (.goto 5, 3) := by decide +kernel
theorem d_Re_compare_25 : decode b_Re_compare 25 = .ok (.iload 5, 2) := by decide +kernel
theorem d_Re_compare_27 : decode b_Re_compare 27 = .ok (.ireturn, 1) := by decide +kernel
theorem d_Re_compare_28 : decode b_Re_compare 28 = .ok (.iconst 0, 1) := by decide +kernel
theorem d_Re_compare_29 : decode b_Re_compare 29 = .ok (.istore 6, 2) := by decide +kernel
theorem d_Re_compare_31 : decode b_Re_compare 31 = .ok (.iload 6, 2) := by decide +kernel
theorem d_Re_compare_33 : decode b_Re_compare 33 = .ok (.aload_n 0, 1) := by decide +kernel
theorem d_Re_compare_34 : decode b_Re_compare 34 = .ok (.getfield 29, 3) := by decide +kernel
theorem d_Re_compare_37 : decode b_Re_compare 37 = .ok (.if_icmp .ge 24, 3) := by decide +kernel
theorem d_Re_compare_40 : decode b_Re_compare 40 = .ok (.iload 5, 2) := by decide +kernel
theorem d_Re_compare_42 : decode b_Re_compare 42 = .ok (.ifCond .ne 19, 3) := by decide +kernel
theorem d_Re_compare_45 : decode b_Re_compare 45 = .ok (.aload_n 0, 1) := by decide +kernel
theorem d_Re_compare_46 : decode b_Re_compare 46 = .ok (.iload_n 1, 1) := by decide +kernel
theorem d_Re_compare_47 : decode b_Re_compare 47 = .ok (.iload_n 2, 1) := by decide +kernel
theorem d_Re_compare_48 : decode b_Re_compare 48 = .ok (.iload 6, 2) := by decide +kernel
theorem d_Re_compare_50 : decode b_Re_compare 50 = .ok (.invokevirtual 55, 3) := by decide +kernel
theorem d_Re_compare_53 : decode b_Re_compare 53 = .ok (.istore 5, 2) := by decide +kernel
theorem d_Re_compare_55 : decode b_Re_compare 55 = .ok (.iinc 6 1, 3) := by decide +kernel
theorem d_Re_compare_58 : decode b_Re_compare 58 = .ok (.goto (-27), 3) := by decide +kernel
theorem d_Re_compare_61 : decode b_Re_compare 61 = .ok (.iload 5, 2) := by decide +kernel
theorem d_Re_compare_63 : decode b_Re_compare 63 = .ok (.ireturn, 1) := by decide +kernel
theorem d_Re_compareAt_0 : decode b_Re_compareAt 0 = .ok (.iload_n 1, 1) := by decide +kernel
theorem d_Re_compareAt_1 : decode b_Re_compareAt 1 = .ok (.iconst 4, 1) := by decide +kernel
theorem d_Re_compareAt_2 : decode b_Re_compareAt 2 = .ok (.imul, 1) := by decide +kernel
theorem d_Re_compareAt_3 : decode b_Re_compareAt 3 = .ok (.iload_n 3, 1) := by decide +kernel
theorem d_Re_compareAt_4 : decode b_Re_compareAt 4 = .ok (.iadd, 1) := by decide +kernel
theorem d_Re_compareAt_5 : decode b_Re_compareAt 5 = .ok (.istore 4, 2) := by decide +kernel
theorem d_Re_compareAt_7 : decode b_Re_compareAt 7 = .ok (.iload_n 2, 1) := by decide +kernel
theorem d_Re_compareAt_8 : decode b_Re_compareAt 8 = .ok (.iconst 4, 1) := by decide +kernel
theorem d_Re_compareAt_9 : decode b_Re_compareAt 9 = .ok (.imul, 1) := by decide +kernel
theorem d_Re_compareAt_10 : decode b_Re_compareAt 10 = .ok (.iload_n 3, 1) := by decide +kernel
theorem d_Re_compareAt_11 : decode b_Re_compareAt 11 = .ok (.iadd, 1) := by decide +kernel
theorem d_Re_compareAt_12 : decode b_Re_compareAt 12 = .ok (.istore 5, 2) := by decide +kernel
theorem d_Re_compareAt_14 : decode b_Re_compareAt 14 = .ok (.aload_n 0, 1) := by decide +kernel
theorem d_Re_compareAt_15 : decode b_Re_compareAt 15 = .ok (.getfield 15, 3) := by decide +kernel
theorem d_Re_compareAt_18 : decode b_Re_compareAt 18 = .ok (.iload 4, 2) := by decide +kernel
theorem d_Re_compareAt_20 : decode b_Re_compareAt 20 = .ok (.baload, 1) := by decide +kernel
theorem d_Re_compareAt_21 : decode b_Re_compareAt 21 = .ok (.ifCond .ne 13, 3) := by decide +kernel
theorem d_Re_compareAt_24 : decode b_Re_compareAt 24 = .ok (.aload_n 0, 1) := by decide +kernel
theorem d_Re_compareAt_25 : decode b_Re_compareAt 25 = .ok (.getfield 15, 3) := by decide +kernel
theorem d_Re_compareAt_28 : decode b_Re_compareAt 28 = .ok (.iload 5, 2) := by decide +kernel
theorem d_Re_compareAt_30 : decode b_Re_compareAt 30 = .ok (.baload, 1) := by decide +kernel
theorem d_Re_compareAt_31 : decode b_Re_compareAt 31 = .ok (.ifCond .eq 35, 3) := by decide +kernel
theorem d_Re_compareAt_34 : decode b_Re_compareAt 34 = .ok (.aload_n 0, 1) := by decide +kernel
theorem d_Re_compareAt_35 : decode b_Re_compareAt 35 = .ok (.getfield 15, 3) := by decide +kernel
theorem d_Re_compareAt_38 : decode b_Re_compareAt 38 = .ok (.iload 4, 2) := by decide +kernel
theorem d_Re_compareAt_40 : decode b_Re_compareAt 40 = .ok (.baload, 1) := by decide +kernel
theorem d_Re_compareAt_41 : decode b_Re_compareAt 41 = .ok (.ifCond .eq 7, 3) := by decide +kernel
theorem d_Re_compareAt_44 : decode b_Re_compareAt 44 = .ok (.iconst 0, 1) := by decide +kernel
theorem d_Re_compareAt_45 : decode b_Re_compareAt 45 = .ok (.goto 4, 3) := by decide +kernel
theorem d_Re_compareAt_48 : decode b_Re_compareAt 48 = .ok (.iconst 1, 1) := by decide +kernel
theorem d_Re_compareAt_49 : decode b_Re_compareAt 49 = .ok (.aload_n 0, 1) := by decide +kernel
theorem d_Re_compareAt_50 : decode b_Re_compareAt 50 = .ok (.getfield 15, 3) := by decide +kernel
theorem d_Re_compareAt_53 : decode b_Re_compareAt 53 = .ok (.iload 5, 2) := by decide +kernel
theorem d_Re_compareAt_55 : decode b_Re_compareAt 55 = .ok (.baload, 1) := by decide +kernel
theorem d_Re_compareAt_56 : decode b_Re_compareAt 56 = .ok (.ifCond .eq 7, 3) := by decide +kernel
theorem d_Re_compareAt_59 : decode b_Re_compareAt 59 = .ok (.iconst 0, 1) := by decide +kernel
theorem d_Re_compareAt_60 : decode b_Re_compareAt 60 = .ok (.goto 4, 3) := by decide +kernel
theorem d_Re_compareAt_63 : decode b_Re_compareAt 63 = .ok (.iconst 1, 1) := by decide +kernel
theorem d_Re_compareAt_64 : decode b_Re_compareAt 64 = .ok (.isub, 1) := by decide +kernel
theorem d_Re_compareAt_65 : decode b_Re_compareAt 65 = .ok (.ireturn, 1) := by decide +kernel
theorem d_Re_compareAt_66 : decode b_Re_compareAt 66 = .ok (.aload_n 0, 1) := by decide +kernel
theorem d_Re_compareAt_67 : decode b_Re_compareAt 67 = .ok (.getfield 9, 3) := by decide +kernel
theorem d_Re_compareAt_70 : decode b_Re_compareAt 70 = .ok (.iload 4, 2) := by decide +kernel
theorem d_Re_compareAt_72 : decode b_Re_compareAt 72 = .ok (.laload, 1) := by decide +kernel
theorem d_Re_compareAt_73 : decode b_Re_compareAt 73 = .ok (.aload_n 0, 1) := by decide +kernel
theorem d_Re_compareAt_74 : decode b_Re_compareAt 74 = .ok (.getfield 9, 3) := by decide +kernel
theorem d_Re_compareAt_77 : decode b_Re_compareAt 77 = .ok (.iload 5, 2) := by decide +kernel
theorem d_Re_compareAt_79 : decode b_Re_compareAt 79 = .ok (.laload, 1) := by decide +kernel
theorem d_Re_compareAt_80 : decode b_Re_compareAt 80 = .ok (.invokestatic 59, 3) := by decide +kernel
theorem d_Re_compareAt_83 : decode b_Re_compareAt 83 = .ok (.ireturn, 1) := by decide +kernel
theorem d_Re_countPasses_0 : decode b_Re_countPasses 0 = .ok (.aload_n 0, 1) := by decide +kernel
theorem d_Re_countPasses_1 : decode b_Re_countPasses 1 = .ok (.iconst 0, 1) := by decide +kernel
theorem d_Re_countPasses_2 : decode b_Re_countPasses 2 = .ok (.putfield 64, 3) := by decide +kernel
theorem d_Re_countPasses_5 : decode b_Re_countPasses 5 = .ok (.aload_n 0, 1) := by decide +kernel
theorem d_Re_countPasses_6 : decode b_Re_countPasses 6 = .ok (.getfield 32, 3) := by decide +kernel
theorem d_Re_countPasses_9 : decode b_Re_countPasses 9 = .ok (.ifCond .eq 8, 3) := by decide +kernel
theorem d_Re_countPasses_12 : decode b_Re_countPasses 12 = .ok (.iload_n 1, 1) := by decide +kernel
theorem d_Re_countPasses_13 : decode b_Re_countPasses 13 = .ok (.iconst 3, 1) := by decide +kernel
theorem d_Re_countPasses_14 : decode b_Re_countPasses 14 = .ok (.if_icmp .ge 4, 3) := by decide +kernel
theorem d_Re_countPasses_17 : decode b_Re_countPasses 17 = .ok (.return_, 1) := by decide +kernel
theorem d_Re_countPasses_18 : decode b_Re_countPasses 18 = .ok (.aload_n 0, 1) := by decide +kernel
theorem d_Re_countPasses_19 : decode b_Re_countPasses 19 = .ok (.getfield 32, 3) := by decide +kernel
theorem d_Re_countPasses_22 : decode b_Re_countPasses 22 = .ok (.iload_n 1, 1) := by decide +kernel
theorem d_Re_countPasses_23 : decode b_Re_countPasses 23 = .ok (.iadd, 1) := by decide +kernel
theorem d_Re_countPasses_24 : decode b_Re_countPasses 24 = .ok (.iconst 1, 1) := by decide +kernel
theorem d_Re_countPasses_25 : decode b_Re_countPasses 25 = .ok (.isub, 1) := by decide +kernel
theorem d_Re_countPasses_26 : decode b_Re_countPasses 26 = .ok (.iload_n 1, 1) := by decide +kernel
theorem d_Re_countPasses_27 : decode b_Re_countPasses 27 = .ok (.idiv, 1) := by decide +kernel
theorem d_Re_countPasses_28 : decode b_Re_countPasses 28 = .ok (.istore_n 2, 1) := by decide +kernel
theorem d_Re_countPasses_29 : decode b_Re_countPasses 29 = .ok (.aload_n 0, 1) := by decide +kernel
theorem d_Re_countPasses_30 : decode b_Re_countPasses 30 = .ok (.iconst 1, 1) := by decide +kernel
theorem d_Re_countPasses_31 : decode b_Re_countPasses 31 = .ok (.putfield 64, 3) := by decide +kernel
theorem d_Re_countPasses_34 : decode b_Re_countPasses 34 = .ok (.iload_n 2, 1) := by decide +kernel
theorem d_Re_countPasses_35 : decode b_Re_countPasses 35 = .ok (.iconst 1, 1) := by decide +kernel
theorem d_Re_countPasses_36 : decode b_Re_countPasses 36 = .ok (.if_icmp .le 37, 3) := by decide +kernel
theorem d_Re_countPasses_39 : decode b_Re_countPasses 39 = .ok (.aload_n 0, 1) := by decide +kernel
theorem d_Re_countPasses_40 : decode b_Re_countPasses 40 = .ok (.getfield 64, 3) := by decide +kernel
theorem d_Re_countPasses_43 : decode b_Re_countPasses 43 = .ok (.aload_n 0, 1) := by decide +kernel
theorem d_Re_countPasses_44 : decode b_Re_countPasses 44 = .ok (.getfield 32, 3) := by decide +kernel
theorem d_Re_countPasses_47 : decode b_Re_countPasses 47 = .ok (.if_icmp .ge 26, 3) := by decide +kernel
theorem d_Re_countPasses_50 : decode b_Re_countPasses 50 = .ok (.iload_n 2, 1) := by decide +kernel
theorem d_Re_countPasses_51 : decode b_Re_countPasses 51 = .ok (.iload_n 1, 1) := by decide +kernel
theorem d_Re_countPasses_52 : decode b_Re_countPasses 52 = .ok (.iadd, 1) := by decide +kernel
theorem d_Re_countPasses_53 : decode b_Re_countPasses 53 = .ok (.iconst 2, 1) := by decide +kernel
theorem d_Re_countPasses_54 : decode b_Re_countPasses 54 = .ok (.isub, 1) := by decide +kernel
theorem d_Re_countPasses_55 : decode b_Re_countPasses 55 = .ok (.iload_n 1, 1) := by decide +kernel
theorem d_Re_countPasses_56 : decode b_Re_countPasses 56 = .ok (.iconst 1, 1) := by decide +kernel
theorem d_Re_countPasses_57 : decode b_Re_countPasses 57 = .ok (.isub, 1) := by decide +kernel
theorem d_Re_countPasses_58 : decode b_Re_countPasses 58 = .ok (.idiv, 1) := by decide +kernel
theorem d_Re_countPasses_59 : decode b_Re_countPasses 59 = .ok (.istore_n 2, 1) := by decide +kernel
theorem d_Re_countPasses_60 : decode b_Re_countPasses 60 = .ok (.aload_n 0, 1) := by decide +kernel
theorem d_Re_countPasses_61 : decode b_Re_countPasses 61 = .ok (.dup, 1) := by decide +kernel
theorem d_Re_countPasses_62 : decode b_Re_countPasses 62 = .ok (.getfield 64, 3) := by decide +kernel
theorem d_Re_countPasses_65 : decode b_Re_countPasses 65 = .ok (.iconst 1, 1) := by decide +kernel
theorem d_Re_countPasses_66 : decode b_Re_countPasses 66 = .ok (.iadd, 1) := by decide +kernel
theorem d_Re_countPasses_67 : decode b_Re_countPasses 67 = .ok (.putfield 64, 3) := by decide +kernel
theorem d_Re_countPasses_70 : decode b_Re_countPasses 70 = .ok (.goto (-36), 3) := by decide +kernel
theorem d_Re_countPasses_73 : decode b_Re_countPasses 73 = .ok (.return_, 1) := by decide +kernel
theorem d_Tb_init_0 : decode b_Tb_init 0 = .ok (.aload_n 0, 1) := by decide +kernel
theorem d_Tb_init_1 : decode b_Tb_init 1 = .ok (.invokespecial 3, 3) := by decide +kernel
theorem d_Tb_init_4 : decode b_Tb_init 4 = .ok (.aload_n 0, 1) := by decide +kernel
theorem d_Tb_init_5 : decode b_Tb_init 5 = .ok (.bipush 24, 2) := by decide +kernel
theorem d_Tb_init_7 : decode b_Tb_init 7 = .ok (.newarray .int, 2) := by decide +kernel
theorem d_Tb_init_9 : decode b_Tb_init 9 = .ok (.putfield 9, 3) := by decide +kernel
theorem d_Tb_init_12 : decode b_Tb_init 12 = .ok (.aload_n 0, 1) := by decide +kernel
theorem d_Tb_init_13 : decode b_Tb_init 13 = .ok (.bipush 24, 2) := by decide +kernel
theorem d_Tb_init_15 : decode b_Tb_init 15 = .ok (.newarray .boolean, 2) := by decide +kernel
theorem d_Tb_init_17 : decode b_Tb_init 17 = .ok (.putfield 15, 3) := by decide +kernel
theorem d_Tb_init_20 : decode b_Tb_init 20 = .ok (.return_, 1) := by decide +kernel
theorem d_Tb_add_0 : decode b_Tb_add 0 = .ok (.aload_n 0, 1) := by decide +kernel
theorem d_Tb_add_1 : decode b_Tb_add 1 = .ok (.getfield 19, 3) := by decide +kernel
theorem d_Tb_add_4 : decode b_Tb_add 4 = .ok (.bipush 12, 2) := by decide +kernel
theorem d_Tb_add_6 : decode b_Tb_add 6 = .ok (.if_icmp .lt 6, 3) := by decide +kernel
theorem d_Tb_add_9 : decode b_Tb_add 9 = .ok (.bipush (-2), 2) := by decide +kernel
theorem d_Tb_add_11 : decode b_Tb_add 11 = .ok (.ireturn, 1) := by decide +kernel
theorem d_Tb_add_12 : decode b_Tb_add 12 = .ok (.aload_n 0, 1) := by decide +kernel
theorem d_Tb_add_13 : decode b_Tb_add 13 = .ok (.getfield 19, 3) := by decide +kernel
theorem d_Tb_add_16 : decode b_Tb_add 16 = .ok (.iconst 2, 1) := by decide +kernel
theorem d_Tb_add_17 : decode b_Tb_add 17 = .ok (.imul, 1) := by decide +kernel
theorem d_Tb_add_18 : decode b_Tb_add 18 = .ok (.istore 4, 2) := by decide +kernel
theorem d_Tb_add_20 : decode b_Tb_add 20 = .ok (.aload_n 0, 1) := by decide +kernel
theorem d_Tb_add_21 : decode b_Tb_add 21 = .ok (.getfield 9, 3) := by decide +kernel
theorem d_Tb_add_24 : decode b_Tb_add 24 = .ok (.iload 4, 2) := by decide +kernel
theorem d_Tb_add_26 : decode b_Tb_add 26 = .ok (.iload_n 1, 1) := by decide +kernel
theorem d_Tb_add_27 : decode b_Tb_add 27 = .ok (.iastore, 1) := by decide +kernel
theorem d_Tb_add_28 : decode b_Tb_add 28 = .ok (.aload_n 0, 1) := by decide +kernel
theorem d_Tb_add_29 : decode b_Tb_add 29 = .ok (.getfield 15, 3) := by decide +kernel
theorem d_Tb_add_32 : decode b_Tb_add 32 = .ok (.iload 4, 2) := by decide +kernel
theorem d_Tb_add_34 : decode b_Tb_add 34 = .ok (.iload_n 3, 1) := by decide +kernel
theorem d_Tb_add_35 : decode b_Tb_add 35 = .ok (.iconst 1, 1) := by decide +kernel
theorem d_Tb_add_36 : decode b_Tb_add 36 = .ok (.iand, 1) := by decide +kernel
theorem d_Tb_add_37 : decode b_Tb_add 37 = .ok (.ifCond .eq 7, 3) := by decide +kernel
theorem d_Tb_add_40 : decode b_Tb_add 40 = .ok (.iconst 1, 1) := by decide +kernel
theorem d_Tb_add_41 : decode b_Tb_add 41 = .ok (.goto 4, 3) := by decide +kernel
theorem d_Tb_add_44 : decode b_Tb_add 44 = .ok (.iconst 0, 1) := by decide +kernel
theorem d_Tb_add_45 : decode b_Tb_add 45 = .ok (.bastore, 1) := by decide +kernel
theorem d_Tb_add_46 : decode b_Tb_add 46 = .ok (.aload_n 0, 1) := by decide +kernel
theorem d_Tb_add_47 : decode b_Tb_add 47 = .ok (.getfield 9, 3) := by decide +kernel
theorem d_Tb_add_50 : decode b_Tb_add 50 = .ok (.iload 4, 2) := by decide +kernel
theorem d_Tb_add_52 : decode b_Tb_add 52 = .ok (.iconst 1, 1) := by decide +kernel
theorem d_Tb_add_53 : decode b_Tb_add 53 = .ok (.iadd, 1) := by decide +kernel
theorem d_Tb_add_54 : decode b_Tb_add 54 = .ok (.iload_n 2, 1) := by decide +kernel
theorem d_Tb_add_55 : decode b_Tb_add 55 = .ok (.iastore, 1) := by decide +kernel
theorem d_Tb_add_56 : decode b_Tb_add 56 = .ok (.aload_n 0, 1) := by decide +kernel
theorem d_Tb_add_57 : decode b_Tb_add 57 = .ok (.getfield 15, 3) := by decide +kernel
theorem d_Tb_add_60 : decode b_Tb_add 60 = .ok (.iload 4, 2) := by decide +kernel
theorem d_Tb_add_62 : decode b_Tb_add 62 = .ok (.iconst 1, 1) := by decide +kernel
theorem d_Tb_add_63 : decode b_Tb_add 63 = .ok (.iadd, 1) := by decide +kernel
theorem d_Tb_add_64 : decode b_Tb_add 64 = .ok (.iload_n 3, 1) := by decide +kernel
theorem d_Tb_add_65 : decode b_Tb_add 65 = .ok (.iconst 2, 1) := by decide +kernel
theorem d_Tb_add_66 : decode b_Tb_add 66 = .ok (.iand, 1) := by decide +kernel
theorem d_Tb_add_67 : decode b_Tb_add 67 = .ok (.ifCond .eq 7, 3) := by decide +kernel
theorem d_Tb_add_70 : decode b_Tb_add 70 = .ok (.iconst 1, 1) := by decide +kernel
theorem d_Tb_add_71 : decode b_Tb_add 71 = .ok (.goto 4, 3) := by decide +kernel
theorem d_Tb_add_74 : decode b_Tb_add 74 = .ok (.iconst 0, 1) := by decide +kernel
theorem d_Tb_add_75 : decode b_Tb_add 75 = .ok (.bastore, 1) := by decide +kernel
theorem d_Tb_add_76 : decode b_Tb_add 76 = .ok (.aload_n 0, 1) := by decide +kernel
theorem d_Tb_add_77 : decode b_Tb_add 77 = .ok (.dup, 1) := by decide +kernel
theorem d_Tb_add_78 : decode b_Tb_add 78 = .ok (.getfield 19, 3) := by decide +kernel
theorem d_Tb_add_81 : decode b_Tb_add 81 = .ok (.iconst 1, 1) := by decide +kernel
theorem d_Tb_add_82 : decode b_Tb_add 82 = .ok (.iadd, 1) := by decide +kernel
theorem d_Tb_add_83 : decode b_Tb_add 83 = .ok (.putfield 19, 3) := by decide +kernel
theorem d_Tb_add_86 : decode b_Tb_add 86 = .ok (.aload_n 0, 1) := by decide +kernel
theorem d_Tb_add_87 : decode b_Tb_add 87 = .ok (.getfield 19, 3) := by decide +kernel
theorem d_Tb_add_90 : decode b_Tb_add 90 = .ok (.ireturn, 1) := by decide +kernel
theorem d_Tb_value_0 : decode b_Tb_value 0 = .ok (.aload_n 0, 1) := by decide +kernel
theorem d_Tb_value_1 : decode b_Tb_value 1 = .ok (.getfield 9, 3) := by decide +kernel
theorem d_Tb_value_4 : decode b_Tb_value 4 = .ok (.iload_n 1, 1) := by decide +kernel
theorem d_Tb_value_5 : decode b_Tb_value 5 = .ok (.iconst 2, 1) := by decide +kernel
theorem d_Tb_value_6 : decode b_Tb_value 6 = .ok (.imul, 1) := by decide +kernel
theorem d_Tb_value_7 : decode b_Tb_value 7 = .ok (.iload_n 2, 1) := by decide +kernel
theorem d_Tb_value_8 : decode b_Tb_value 8 = .ok (.iadd, 1) := by decide +kernel
theorem d_Tb_value_9 : decode b_Tb_value 9 = .ok (.iaload, 1) := by decide +kernel
theorem d_Tb_value_10 : decode b_Tb_value 10 = .ok (.ireturn, 1) := by decide +kernel
theorem d_Tb_isNull_0 : decode b_Tb_isNull 0 = .ok (.aload_n 0, 1) := by decide +kernel
theorem d_Tb_isNull_1 : decode b_Tb_isNull 1 = .ok (.getfield 15, 3) := by decide +kernel
theorem d_Tb_isNull_4 : decode b_Tb_isNull 4 = .ok (.iload_n 1, 1) := by decide +kernel
theorem d_Tb_isNull_5 : decode b_Tb_isNull 5 = .ok (.iconst 2, 1) := by decide +kernel
theorem d_Tb_isNull_6 : decode b_Tb_isNull 6 = .ok (.imul, 1) := by decide +kernel
theorem d_Tb_isNull_7 : decode b_Tb_isNull 7 = .ok (.iload_n 2, 1) := by decide +kernel
theorem d_Tb_isNull_8 : decode b_Tb_isNull 8 = .ok (.iadd, 1) := by decide +kernel
theorem d_Tb_isNull_9 : decode b_Tb_isNull 9 = .ok (.baload, 1) := by decide +kernel
theorem d_Tb_isNull_10 : decode b_Tb_isNull 10 = .ok (.ireturn, 1) := by decide +kernel
theorem d_Ta_init_0 : decode b_Ta_init 0 = .ok (.aload_n 0, 1) := by decide +kernel
theorem d_Ta_init_1 : decode b_Ta_init 1 = .ok (.invokespecial 3, 3) := by decide +kernel
theorem d_Ta_init_4 : decode b_Ta_init 4 = .ok (.return_, 1) := by decide +kernel
theorem d_Ta_clear_0 : decode b_Ta_clear 0 = .ok (.aload_n 0, 1) := by decide +kernel
theorem d_Ta_clear_1 : decode b_Ta_clear 1 = .ok (.iload_n 1, 1) := by decide +kernel
theorem d_Ta_clear_2 : decode b_Ta_clear 2 = .ok (.putfield 9, 3) := by decide +kernel
theorem d_Ta_clear_5 : decode b_Ta_clear 5 = .ok (.aload_n 0, 1) := by decide +kernel
theorem d_Ta_clear_6 : decode b_Ta_clear 6 = .ok (.iload_n 2, 1) := by decide +kernel
theorem d_Ta_clear_7 : decode b_Ta_clear 7 = .ok (.putfield 15, 3) := by decide +kernel
theorem d_Ta_clear_10 : decode b_Ta_clear 10 = .ok (.aload_n 0, 1) := by decide +kernel
theorem d_Ta_clear_11 : decode b_Ta_clear 11 = .ok (.iload_n 3, 1) := by decide +kernel
theorem d_Ta_clear_12 : decode b_Ta_clear 12 = .ok (.putfield 18, 3) := by decide +kernel
theorem d_Ta_clear_15 : decode b_Ta_clear 15 = .ok (.aload_n 0, 1) := by decide +kernel
theorem d_Ta_clear_16 : decode b_Ta_clear 16 = .ok (.iconst 0, 1) := by decide +kernel
theorem d_Ta_clear_17 : decode b_Ta_clear 17 = .ok (.putfield 21, 3) := by decide +kernel
theorem d_Ta_clear_20 : decode b_Ta_clear 20 = .ok (.aload_n 0, 1) := by decide +kernel
theorem d_Ta_clear_21 : decode b_Ta_clear 21 = .ok (.iconst 0, 1) := by decide +kernel
theorem d_Ta_clear_22 : decode b_Ta_clear 22 = .ok (.putfield 24, 3) := by decide +kernel
theorem d_Ta_clear_25 : decode b_Ta_clear 25 = .ok (.aload_n 0, 1) := by decide +kernel
theorem d_Ta_clear_26 : decode b_Ta_clear 26 = .ok (.iconst 0, 1) := by decide +kernel
theorem d_Ta_clear_27 : decode b_Ta_clear 27 = .ok (.putfield 27, 3) := by decide +kernel
theorem d_Ta_clear_30 : decode b_Ta_clear 30 = .ok (.return_, 1) := by decide +kernel
theorem d_Ta_tell_0 : decode b_Ta_tell 0 = .ok (.iload_n 1, 1) := by decide +kernel
theorem d_Ta_tell_1 : decode b_Ta_tell 1 = .ok (.tableswitch 79 0 4 #[35, 40, 45, 50, 63], 35) := by decide +kernel
theorem d_Ta_tell_36 : decode b_Ta_tell 36 = .ok (.aload_n 0, 1) := by decide +kernel
theorem d_Ta_tell_37 : decode b_Ta_tell 37 = .ok (.getfield 9, 3) := by decide +kernel
theorem d_Ta_tell_40 : decode b_Ta_tell 40 = .ok (.ireturn, 1) := by decide +kernel
theorem d_Ta_tell_41 : decode b_Ta_tell 41 = .ok (.aload_n 0, 1) := by decide +kernel
theorem d_Ta_tell_42 : decode b_Ta_tell 42 = .ok (.getfield 15, 3) := by decide +kernel
theorem d_Ta_tell_45 : decode b_Ta_tell 45 = .ok (.ireturn, 1) := by decide +kernel
theorem d_Ta_tell_46 : decode b_Ta_tell 46 = .ok (.aload_n 0, 1) := by decide +kernel
theorem d_Ta_tell_47 : decode b_Ta_tell 47 = .ok (.getfield 21, 3) := by decide +kernel
theorem d_Ta_tell_50 : decode b_Ta_tell 50 = .ok (.ireturn, 1) := by decide +kernel
theorem d_Ta_tell_51 : decode b_Ta_tell 51 = .ok (.aload_n 0, 1) := by decide +kernel
theorem d_Ta_tell_52 : decode b_Ta_tell 52 = .ok (.getfield 27, 3) := by decide +kernel
theorem d_Ta_tell_55 : decode b_Ta_tell 55 = .ok (.ifCond .eq 7, 3) := by decide +kernel
theorem d_Ta_tell_58 : decode b_Ta_tell 58 = .ok (.iconst 1, 1) := by decide +kernel
theorem d_Ta_tell_59 : decode b_Ta_tell 59 = .ok (.goto 4, 3) := by decide +kernel
theorem d_Ta_tell_62 : decode b_Ta_tell 62 = .ok (.iconst 0, 1) := by decide +kernel
theorem d_Ta_tell_63 : decode b_Ta_tell 63 = .ok (.ireturn, 1) := by decide +kernel
theorem d_Ta_tell_64 : decode b_Ta_tell 64 = .ok (.aload_n 0, 1) := by decide +kernel
theorem d_Ta_tell_65 : decode b_Ta_tell 65 = .ok (.getfield 27, 3) := by decide +kernel
theorem d_Ta_tell_68 : decode b_Ta_tell 68 = .ok (.ifCond .eq 10, 3) := by decide +kernel
theorem d_Ta_tell_71 : decode b_Ta_tell 71 = .ok (.aload_n 0, 1) := by decide +kernel
theorem d_Ta_tell_72 : decode b_Ta_tell 72 = .ok (.getfield 18, 3) := by decide +kernel
theorem d_Ta_tell_75 : decode b_Ta_tell 75 = .ok (.goto 4, 3) := by decide +kernel
theorem d_Ta_tell_78 : decode b_Ta_tell 78 = .ok (.iconst (-1), 1) := by decide +kernel
theorem d_Ta_tell_79 : decode b_Ta_tell 79 = .ok (.ireturn, 1) := by decide +kernel
theorem d_Ta_tell_80 : decode b_Ta_tell 80 = .ok (.iconst (-1), 1) := by decide +kernel
theorem d_Ta_tell_81 : decode b_Ta_tell 81 = .ok (.ireturn, 1) := by decide +kernel
theorem d_JL_compare_0 : decode b_JL_compare 0 = .ok (.lload_n 0, 1) := by decide +kernel
theorem d_JL_compare_1 : decode b_JL_compare 1 = .ok (.lload_n 2, 1) := by decide +kernel
theorem d_JL_compare_2 : decode b_JL_compare 2 = .ok (.lcmp, 1) := by decide +kernel
theorem d_JL_compare_3 : decode b_JL_compare 3 = .ok (.ifCond .ge 7, 3) := by decide +kernel
theorem d_JL_compare_6 : decode b_JL_compare 6 = .ok (.iconst (-1), 1) := by decide +kernel
theorem d_JL_compare_7 : decode b_JL_compare 7 = .ok (.goto 14, 3) := by decide +kernel
theorem d_JL_compare_10 : decode b_JL_compare 10 = .ok (.lload_n 0, 1) := by decide +kernel
theorem d_JL_compare_11 : decode b_JL_compare 11 = .ok (.lload_n 2, 1) := by decide +kernel
theorem d_JL_compare_12 : decode b_JL_compare 12 = .ok (.lcmp, 1) := by decide +kernel
theorem d_JL_compare_13 : decode b_JL_compare 13 = .ok (.ifCond .ne 7, 3) := by decide +kernel
theorem d_JL_compare_16 : decode b_JL_compare 16 = .ok (.iconst 0, 1) := by decide +kernel
theorem d_JL_compare_17 : decode b_JL_compare 17 = .ok (.goto 4, 3) := by decide +kernel
theorem d_JL_compare_20 : decode b_JL_compare 20 = .ok (.iconst 1, 1) := by decide +kernel
theorem d_JL_compare_21 : decode b_JL_compare 21 = .ok (.ireturn, 1) := by decide +kernel
theorem d_JM_floorModI_0 : decode b_JM_floorModI 0 = .ok (.iload_n 0, 1) := by decide +kernel
theorem d_JM_floorModI_1 : decode b_JM_floorModI 1 = .ok (.iload_n 1, 1) := by decide +kernel
theorem d_JM_floorModI_2 : decode b_JM_floorModI 2 = .ok (.irem, 1) := by decide +kernel
theorem d_JM_floorModI_3 : decode b_JM_floorModI 3 = .ok (.istore_n 2, 1) := by decide +kernel
theorem d_JM_floorModI_4 : decode b_JM_floorModI 4 = .ok (.iload_n 0, 1) := by decide +kernel
theorem d_JM_floorModI_5 : decode b_JM_floorModI 5 = .ok (.iload_n 1, 1) := by decide +kernel
theorem d_JM_floorModI_6 : decode b_JM_floorModI 6 = .ok (.ixor, 1) := by decide +kernel
theorem d_JM_floorModI_7 : decode b_JM_floorModI 7 = .ok (.ifCond .ge 11, 3) := by decide +kernel
theorem d_JM_floorModI_10 : decode b_JM_floorModI 10 = .ok (.iload_n 2, 1) := by decide +kernel
theorem d_JM_floorModI_11 : decode b_JM_floorModI 11 = .ok (.ifCond .eq 7, 3) := by decide +kernel
theorem d_JM_floorModI_14 : decode b_JM_floorModI 14 = .ok (.iload_n 2, 1) := by decide +kernel
theorem d_JM_floorModI_15 : decode b_JM_floorModI 15 = .ok (.iload_n 1, 1) := by decide +kernel
theorem d_JM_floorModI_16 : decode b_JM_floorModI 16 = .ok (.iadd, 1) := by decide +kernel
theorem d_JM_floorModI_17 : decode b_JM_floorModI 17 = .ok (.ireturn, 1) := by decide +kernel
theorem d_JM_floorModI_18 : decode b_JM_floorModI 18 = .ok (.iload_n 2, 1) := by decide +kernel
theorem d_JM_floorModI_19 : decode b_JM_floorModI 19 = .ok (.ireturn, 1) := by decide +kernel
theorem d_JM_floorModJ_0 : decode b_JM_floorModJ 0 = .ok (.lload_n 0, 1) := by decide +kernel
theorem d_JM_floorModJ_1 : decode b_JM_floorModJ 1 = .ok (.lload_n 2, 1) := by decide +kernel
theorem d_JM_floorModJ_2 : decode b_JM_floorModJ 2 = .ok (.lrem, 1) := by decide +kernel
theorem d_JM_floorModJ_3 : decode b_JM_floorModJ 3 = .ok (.lstore 4, 2) := by decide +kernel
theorem d_JM_floorModJ_5 : decode b_JM_floorModJ 5 = .ok (.lload_n 0, 1) := by decide +kernel
theorem d_JM_floorModJ_6 : decode b_JM_floorModJ 6 = .ok (.lload_n 2, 1) := by decide +kernel
theorem d_JM_floorModJ_7 : decode b_JM_floorModJ 7 = .ok (.lxor, 1) := by decide +kernel
theorem d_JM_floorModJ_8 : decode b_JM_floorModJ 8 = .ok (.lconst 0, 1) := by decide +kernel
theorem d_JM_floorModJ_9 : decode b_JM_floorModJ 9 = .ok (.lcmp, 1) := by decide +kernel
theorem d_JM_floorModJ_10 : decode b_JM_floorModJ 10 = .ok (.ifCond .ge 15, 3) := by decide +kernel
theorem d_JM_floorModJ_13 : decode b_JM_floorModJ 13 = .ok (.lload 4, 2) := by decide +kernel
theorem d_JM_floorModJ_15 : decode b_JM_floorModJ 15 = .ok (.lconst 0, 1) := by decide +kernel
theorem d_JM_floorModJ_16 : decode b_JM_floorModJ 16 = .ok (.lcmp, 1) := by decide +kernel
theorem d_JM_floorModJ_17 : decode b_JM_floorModJ 17 = .ok (.ifCond .eq 8, 3) := by decide +kernel
theorem d_JM_floorModJ_20 : decode b_JM_floorModJ 20 = .ok (.lload 4, 2) := by decide +kernel
theorem d_JM_floorModJ_22 : decode b_JM_floorModJ 22 = .ok (.lload_n 2, 1) := by decide +kernel
theorem d_JM_floorModJ_23 : decode b_JM_floorModJ 23 = .ok (.ladd, 1) := by decide +kernel
theorem d_JM_floorModJ_24 : decode b_JM_floorModJ 24 = .ok (.lreturn, 1) := by decide +kernel
theorem d_JM_floorModJ_25 : decode b_JM_floorModJ 25 = .ok (.lload 4, 2) := by decide +kernel
theorem d_JM_floorModJ_27 : decode b_JM_floorModJ 27 = .ok (.lreturn, 1) := by decide +kernel
theorem d_JM_maxJ_0 : decode b_JM_maxJ 0 = .ok (.lload_n 0, 1) := by decide +kernel
theorem d_JM_maxJ_1 : decode b_JM_maxJ 1 = .ok (.lload_n 2, 1) := by decide +kernel
theorem d_JM_maxJ_2 : decode b_JM_maxJ 2 = .ok (.lcmp, 1) := by decide +kernel
theorem d_JM_maxJ_3 : decode b_JM_maxJ 3 = .ok (.ifCond .lt 7, 3) := by decide +kernel
theorem d_JM_maxJ_6 : decode b_JM_maxJ 6 = .ok (.lload_n 0, 1) := by decide +kernel
theorem d_JM_maxJ_7 : decode b_JM_maxJ 7 = .ok (.goto 4, 3) := by decide +kernel
theorem d_JM_maxJ_10 : decode b_JM_maxJ 10 = .ok (.lload_n 2, 1) := by decide +kernel
theorem d_JM_maxJ_11 : decode b_JM_maxJ 11 = .ok (.lreturn, 1) := by decide +kernel
theorem d_JM_minI_0 : decode b_JM_minI 0 = .ok (.iload_n 0, 1) := by decide +kernel
theorem d_JM_minI_1 : decode b_JM_minI 1 = .ok (.iload_n 1, 1) := by decide +kernel
theorem d_JM_minI_2 : decode b_JM_minI 2 = .ok (.if_icmp .gt 7, 3) := by decide +kernel
theorem d_JM_minI_5 : decode b_JM_minI 5 = .ok (.iload_n 0, 1) := by decide +kernel
theorem d_JM_minI_6 : decode b_JM_minI 6 = .ok (.goto 4, 3) := by decide +kernel
theorem d_JM_minI_9 : decode b_JM_minI 9 = .ok (.iload_n 1, 1) := by decide +kernel
theorem d_JM_minI_10 : decode b_JM_minI 10 = .ok (.ireturn, 1) := by decide +kernel
theorem d_JM_minJ_0 : decode b_JM_minJ 0 = .ok (.lload_n 0, 1) := by decide +kernel
theorem d_JM_minJ_1 : decode b_JM_minJ 1 = .ok (.lload_n 2, 1) := by decide +kernel
theorem d_JM_minJ_2 : decode b_JM_minJ 2 = .ok (.lcmp, 1) := by decide +kernel
theorem d_JM_minJ_3 : decode b_JM_minJ 3 = .ok (.ifCond .gt 7, 3) := by decide +kernel
theorem d_JM_minJ_6 : decode b_JM_minJ 6 = .ok (.lload_n 0, 1) := by decide +kernel
theorem d_JM_minJ_7 : decode b_JM_minJ 7 = .ok (.goto 4, 3) := by decide +kernel
theorem d_JM_minJ_10 : decode b_JM_minJ 10 = .ok (.lload_n 2, 1) := by decide +kernel
theorem d_JM_minJ_11 : decode b_JM_minJ 11 = .ok (.lreturn, 1) := by decide +kernel
