theorem dX0_init_0 : decode cX0_init 0 = .ok (.aload_n 0, 1) := by decide +kernel
theorem dX0_init_1 : decode cX0_init 1 = .ok (.invokespecial 3, 3) := by decide +kernel
theorem dX0_init_4 : decode cX0_init 4 = .ok (.aload_n 0, 1) := by decide +kernel
theorem dX0_init_5 : decode cX0_init 5 = .ok (.iconst 0, 1) := by decide +kernel
theorem dX0_init_6 : decode cX0_init 6 = .ok (.putfield 9, 3) := by decide +kernel
theorem dX0_init_9 : decode cX0_init 9 = .ok (.aload_n 0, 1) := by decide +kernel
theorem dX0_init_10 : decode cX0_init 10 = .ok (.bipush 100, 2) := by decide +kernel
theorem dX0_init_12 : decode cX0_init 12 = .ok (.putfield 15, 3) := by decide +kernel
theorem dX0_init_15 : decode cX0_init 15 = .ok (.aload_n 0, 1) := by decide +kernel
theorem dX0_init_16 : decode cX0_init 16 = .ok (.iconst 5, 1) := by decide +kernel
theorem dX0_init_17 : decode cX0_init 17 = .ok (.putfield 18, 3) := by decide +kernel
theorem dX0_init_20 : decode cX0_init 20 = .ok (.aload_n 0, 1) := by decide +kernel
theorem dX0_init_21 : decode cX0_init 21 = .ok (.bipush 8, 2) := by decide +kernel
theorem dX0_init_23 : decode cX0_init 23 = .ok (.newarray .int, 2) := by decide +kernel
theorem dX0_init_25 : decode cX0_init 25 = .ok (.putfield 21, 3) := by decide +kernel
theorem dX0_init_28 : decode cX0_init 28 = .ok (.return_, 1) := by decide +kernel
theorem dX0_seenTogether_0 : decode cX0_seenTogether 0 = .ok (.iconst 0, 1) := by decide +kernel
theorem dX0_seenTogether_1 : decode cX0_seenTogether 1 = .ok (.istore_n 1, 1) := by decide +kernel
theorem dX0_seenTogether_2 : decode cX0_seenTogether 2 = .ok (.iconst 0, 1) := by decide +kernel
theorem dX0_seenTogether_3 : decode cX0_seenTogether 3 = .ok (.istore_n 2, 1) := by decide +kernel
theorem dX0_seenTogether_4 : decode cX0_seenTogether 4 = .ok (.iload_n 2, 1) := by decide +kernel
theorem dX0_seenTogether_5 : decode cX0_seenTogether 5 = .ok (.bipush 8, 2) := by decide +kernel
theorem dX0_seenTogether_7 : decode cX0_seenTogether 7 = .ok (.if_icmp .ge 21, 3) := by decide +kernel
theorem dX0_seenTogether_10 : decode cX0_seenTogether 10 = .ok (.iload_n 1, 1) := by decide +kernel
theorem dX0_seenTogether_11 : decode cX0_seenTogether 11 = .ok (.aload_n 0, 1) := by decide +kernel
theorem dX0_seenTogether_12 : decode cX0_seenTogether 12 = .ok (.getfield 21, 3) := by decide +kernel
theorem dX0_seenTogether_15 : decode cX0_seenTogether 15 = .ok (.iload_n 2, 1) := by decide +kernel
theorem dX0_seenTogether_16 : decode cX0_seenTogether 16 = .ok (.iaload, 1) := by decide +kernel
theorem dX0_seenTogether_17 : decode cX0_seenTogether 17 = .ok (.invokestatic 25, 3) := by decide +kernel
theorem dX0_seenTogether_20 : decode cX0_seenTogether 20 = .ok (.iadd, 1) := by decide +kernel
theorem dX0_seenTogether_21 : decode cX0_seenTogether 21 = .ok (.istore_n 1, 1) := by decide +kernel
theorem dX0_seenTogether_22 : decode cX0_seenTogether 22 = .ok (.iinc 2 1, 3) := by decide +kernel
theorem dX0_seenTogether_25 : decode cX0_seenTogether 25 = .ok (.goto (-21), 3) := by decide +kernel
theorem dX0_seenTogether_28 : decode cX0_seenTogether 28 = .ok (.iload_n 1, 1) := by decide +kernel
theorem dX0_seenTogether_29 : decode cX0_seenTogether 29 = .ok (.ireturn, 1) := by decide +kernel
theorem dX0_seenBy_0 : decode cX0_seenBy 0 = .ok (.iconst 0, 1) := by decide +kernel
theorem dX0_seenBy_1 : decode cX0_seenBy 1 = .ok (.istore_n 2, 1) := by decide +kernel
theorem dX0_seenBy_2 : decode cX0_seenBy 2 = .ok (.iconst 0, 1) := by decide +kernel
theorem dX0_seenBy_3 : decode cX0_seenBy 3 = .ok (.istore_n 3, 1) := by decide +kernel
theorem dX0_seenBy_4 : decode cX0_seenBy 4 = .ok (.iload_n 3, 1) := by decide +kernel
theorem dX0_seenBy_5 : decode cX0_seenBy 5 = .ok (.bipush 8, 2) := by decide +kernel
theorem dX0_seenBy_7 : decode cX0_seenBy 7 = .ok (.if_icmp .ge 26, 3) := by decide +kernel
theorem dX0_seenBy_10 : decode cX0_seenBy 10 = .ok (.iload_n 1, 1) := by decide +kernel
theorem dX0_seenBy_11 : decode cX0_seenBy 11 = .ok (.iload_n 3, 1) := by decide +kernel
theorem dX0_seenBy_12 : decode cX0_seenBy 12 = .ok (.invokestatic 31, 3) := by decide +kernel
theorem dX0_seenBy_15 : decode cX0_seenBy 15 = .ok (.ifCond .eq 12, 3) := by decide +kernel
theorem dX0_seenBy_18 : decode cX0_seenBy 18 = .ok (.iload_n 2, 1) := by decide +kernel
theorem dX0_seenBy_19 : decode cX0_seenBy 19 = .ok (.aload_n 0, 1) := by decide +kernel
theorem dX0_seenBy_20 : decode cX0_seenBy 20 = .ok (.getfield 21, 3) := by decide +kernel
theorem dX0_seenBy_23 : decode cX0_seenBy 23 = .ok (.iload_n 3, 1) := by decide +kernel
theorem dX0_seenBy_24 : decode cX0_seenBy 24 = .ok (.iaload, 1) := by decide +kernel
theorem dX0_seenBy_25 : decode cX0_seenBy 25 = .ok (.ior, 1) := by decide +kernel
theorem dX0_seenBy_26 : decode cX0_seenBy 26 = .ok (.istore_n 2, 1) := by decide +kernel
theorem dX0_seenBy_27 : decode cX0_seenBy 27 = .ok (.iinc 3 1, 3) := by decide +kernel
theorem dX0_seenBy_30 : decode cX0_seenBy 30 = .ok (.goto (-26), 3) := by decide +kernel
theorem dX0_seenBy_33 : decode cX0_seenBy 33 = .ok (.iload_n 2, 1) := by decide +kernel
theorem dX0_seenBy_34 : decode cX0_seenBy 34 = .ok (.ireturn, 1) := by decide +kernel
theorem dX0_seersOf_0 : decode cX0_seersOf 0 = .ok (.iconst 0, 1) := by decide +kernel
theorem dX0_seersOf_1 : decode cX0_seersOf 1 = .ok (.istore_n 2, 1) := by decide +kernel
theorem dX0_seersOf_2 : decode cX0_seersOf 2 = .ok (.iconst 0, 1) := by decide +kernel
theorem dX0_seersOf_3 : decode cX0_seersOf 3 = .ok (.istore_n 3, 1) := by decide +kernel
theorem dX0_seersOf_4 : decode cX0_seersOf 4 = .ok (.iload_n 3, 1) := by decide +kernel
theorem dX0_seersOf_5 : decode cX0_seersOf 5 = .ok (.bipush 8, 2) := by decide +kernel
theorem dX0_seersOf_7 : decode cX0_seersOf 7 = .ok (.if_icmp .ge 28, 3) := by decide +kernel
theorem dX0_seersOf_10 : decode cX0_seersOf 10 = .ok (.aload_n 0, 1) := by decide +kernel
theorem dX0_seersOf_11 : decode cX0_seersOf 11 = .ok (.getfield 21, 3) := by decide +kernel
theorem dX0_seersOf_14 : decode cX0_seersOf 14 = .ok (.iload_n 3, 1) := by decide +kernel
theorem dX0_seersOf_15 : decode cX0_seersOf 15 = .ok (.iaload, 1) := by decide +kernel
theorem dX0_seersOf_16 : decode cX0_seersOf 16 = .ok (.iload_n 1, 1) := by decide +kernel
theorem dX0_seersOf_17 : decode cX0_seersOf 17 = .ok (.invokestatic 31, 3) := by decide +kernel
theorem dX0_seersOf_20 : decode cX0_seersOf 20 = .ok (.ifCond .eq 9, 3) := by decide +kernel
theorem dX0_seersOf_23 : decode cX0_seersOf 23 = .ok (.iload_n 2, 1) := by decide +kernel
theorem dX0_seersOf_24 : decode cX0_seersOf 24 = .ok (.iconst 1, 1) := by decide +kernel
theorem dX0_seersOf_25 : decode cX0_seersOf 25 = .ok (.iload_n 3, 1) := by decide +kernel
theorem dX0_seersOf_26 : decode cX0_seersOf 26 = .ok (.ishl, 1) := by decide +kernel
theorem dX0_seersOf_27 : decode cX0_seersOf 27 = .ok (.ior, 1) := by decide +kernel
theorem dX0_seersOf_28 : decode cX0_seersOf 28 = .ok (.istore_n 2, 1) := by decide +kernel
theorem dX0_seersOf_29 : decode cX0_seersOf 29 = .ok (.iinc 3 1, 3) := by decide +kernel
theorem dX0_seersOf_32 : decode cX0_seersOf 32 = .ok (.goto (-28), 3) := by decide +kernel
theorem dX0_seersOf_35 : decode cX0_seersOf 35 = .ok (.iload_n 2, 1) := by decide +kernel
theorem dX0_seersOf_36 : decode cX0_seersOf 36 = .ok (.ireturn, 1) := by decide +kernel
theorem dX0_copy_0 : decode cX0_copy 0 = .ok (.aload_n 0, 1) := by decide +kernel
theorem dX0_copy_1 : decode cX0_copy 1 = .ok (.aload_n 1, 1) := by decide +kernel
theorem dX0_copy_2 : decode cX0_copy 2 = .ok (.getfield 9, 3) := by decide +kernel
theorem dX0_copy_5 : decode cX0_copy 5 = .ok (.putfield 9, 3) := by decide +kernel
theorem dX0_copy_8 : decode cX0_copy 8 = .ok (.aload_n 0, 1) := by decide +kernel
theorem dX0_copy_9 : decode cX0_copy 9 = .ok (.aload_n 1, 1) := by decide +kernel
theorem dX0_copy_10 : decode cX0_copy 10 = .ok (.getfield 15, 3) := by decide +kernel
theorem dX0_copy_13 : decode cX0_copy 13 = .ok (.putfield 15, 3) := by decide +kernel
theorem dX0_copy_16 : decode cX0_copy 16 = .ok (.aload_n 0, 1) := by decide +kernel
theorem dX0_copy_17 : decode cX0_copy 17 = .ok (.aload_n 1, 1) := by decide +kernel
theorem dX0_copy_18 : decode cX0_copy 18 = .ok (.getfield 18, 3) := by decide +kernel
theorem dX0_copy_21 : decode cX0_copy 21 = .ok (.putfield 18, 3) := by decide +kernel
theorem dX0_copy_24 : decode cX0_copy 24 = .ok (.aload_n 1, 1) := by decide +kernel
theorem dX0_copy_25 : decode cX0_copy 25 = .ok (.getfield 21, 3) := by decide +kernel
theorem dX0_copy_28 : decode cX0_copy 28 = .ok (.iconst 0, 1) := by decide +kernel
theorem dX0_copy_29 : decode cX0_copy 29 = .ok (.aload_n 0, 1) := by decide +kernel
theorem dX0_copy_30 : decode cX0_copy 30 = .ok (.getfield 21, 3) := by decide +kernel
theorem dX0_copy_33 : decode cX0_copy 33 = .ok (.iconst 0, 1) := by decide +kernel
theorem dX0_copy_34 : decode cX0_copy 34 = .ok (.bipush 8, 2) := by decide +kernel
theorem dX0_copy_36 : decode cX0_copy 36 = .ok (.invokestatic 35, 3) := by decide +kernel
theorem dX0_copy_39 : decode cX0_copy 39 = .ok (.return_, 1) := by decide +kernel
theorem dX1_init_0 : decode cX1_init 0 = .ok (.aload_n 0, 1) := by decide +kernel
theorem dX1_init_1 : decode cX1_init 1 = .ok (.invokespecial 3, 3) := by decide +kernel
theorem dX1_init_4 : decode cX1_init 4 = .ok (.aload_n 0, 1) := by decide +kernel
theorem dX1_init_5 : decode cX1_init 5 = .ok (.iconst 0, 1) := by decide +kernel
theorem dX1_init_6 : decode cX1_init 6 = .ok (.putfield 9, 3) := by decide +kernel
theorem dX1_init_9 : decode cX1_init 9 = .ok (.aload_n 0, 1) := by decide +kernel
theorem dX1_init_10 : decode cX1_init 10 = .ok (.bipush 8, 2) := by decide +kernel
theorem dX1_init_12 : decode cX1_init 12 = .ok (.newarray .int, 2) := by decide +kernel
theorem dX1_init_14 : decode cX1_init 14 = .ok (.putfield 15, 3) := by decide +kernel
theorem dX1_init_17 : decode cX1_init 17 = .ok (.aload_n 0, 1) := by decide +kernel
theorem dX1_init_18 : decode cX1_init 18 = .ok (.bipush 8, 2) := by decide +kernel
theorem dX1_init_20 : decode cX1_init 20 = .ok (.newarray .int, 2) := by decide +kernel
theorem dX1_init_22 : decode cX1_init 22 = .ok (.putfield 19, 3) := by decide +kernel
theorem dX1_init_25 : decode cX1_init 25 = .ok (.aload_n 0, 1) := by decide +kernel
theorem dX1_init_26 : decode cX1_init 26 = .ok (.bipush 8, 2) := by decide +kernel
theorem dX1_init_28 : decode cX1_init 28 = .ok (.newarray .int, 2) := by decide +kernel
theorem dX1_init_30 : decode cX1_init 30 = .ok (.putfield 22, 3) := by decide +kernel
theorem dX1_init_33 : decode cX1_init 33 = .ok (.aload_n 0, 1) := by decide +kernel
theorem dX1_init_34 : decode cX1_init 34 = .ok (.bipush 8, 2) := by decide +kernel
theorem dX1_init_36 : decode cX1_init 36 = .ok (.newarray .int, 2) := by decide +kernel
theorem dX1_init_38 : decode cX1_init 38 = .ok (.putfield 25, 3) := by decide +kernel
theorem dX1_init_41 : decode cX1_init 41 = .ok (.aload_n 0, 1) := by decide +kernel
theorem dX1_init_42 : decode cX1_init 42 = .ok (.bipush 64, 2) := by decide +kernel
theorem dX1_init_44 : decode cX1_init 44 = .ok (.newarray .int, 2) := by decide +kernel
theorem dX1_init_46 : decode cX1_init 46 = .ok (.putfield 28, 3) := by decide +kernel
theorem dX1_init_49 : decode cX1_init 49 = .ok (.return_, 1) := by decide +kernel
theorem dX1_has_0 : decode cX1_has 0 = .ok (.iload_n 1, 1) := by decide +kernel
theorem dX1_has_1 : decode cX1_has 1 = .ok (.ifCond .lt 15, 3) := by decide +kernel
theorem dX1_has_4 : decode cX1_has 4 = .ok (.iload_n 1, 1) := by decide +kernel
theorem dX1_has_5 : decode cX1_has 5 = .ok (.aload_n 0, 1) := by decide +kernel
theorem dX1_has_6 : decode cX1_has 6 = .ok (.getfield 9, 3) := by decide +kernel
theorem dX1_has_9 : decode cX1_has 9 = .ok (.if_icmp .ge 7, 3) := by decide +kernel
theorem dX1_has_12 : decode cX1_has 12 = .ok (.iconst 1, 1) := by decide +kernel
theorem dX1_has_13 : decode cX1_has 13 = .ok (.goto 4, 3) := by decide +kernel
theorem dX1_has_16 : decode cX1_has 16 = .ok (.iconst 0, 1) := by decide +kernel
theorem dX1_has_17 : decode cX1_has 17 = .ok (.ireturn, 1) := by decide +kernel
theorem dX1_isSet_0 : decode cX1_isSet 0 = .ok (.iload_n 1, 1) := by decide +kernel
theorem dX1_isSet_1 : decode cX1_isSet 1 = .ok (.ifCond .lt 17, 3) := by decide +kernel
theorem dX1_isSet_4 : decode cX1_isSet 4 = .ok (.iload_n 1, 1) := by decide +kernel
theorem dX1_isSet_5 : decode cX1_isSet 5 = .ok (.iconst 1, 1) := by decide +kernel
theorem dX1_isSet_6 : decode cX1_isSet 6 = .ok (.aload_n 0, 1) := by decide +kernel
theorem dX1_isSet_7 : decode cX1_isSet 7 = .ok (.getfield 9, 3) := by decide +kernel
theorem dX1_isSet_10 : decode cX1_isSet 10 = .ok (.ishl, 1) := by decide +kernel
theorem dX1_isSet_11 : decode cX1_isSet 11 = .ok (.if_icmp .ge 7, 3) := by decide +kernel
theorem dX1_isSet_14 : decode cX1_isSet 14 = .ok (.iconst 1, 1) := by decide +kernel
theorem dX1_isSet_15 : decode cX1_isSet 15 = .ok (.goto 4, 3) := by decide +kernel
theorem dX1_isSet_18 : decode cX1_isSet 18 = .ok (.iconst 0, 1) := by decide +kernel
theorem dX1_isSet_19 : decode cX1_isSet 19 = .ok (.ireturn, 1) := by decide +kernel
theorem dX1_isFree_0 : decode cX1_isFree 0 = .ok (.aload_n 0, 1) := by decide +kernel
theorem dX1_isFree_1 : decode cX1_isFree 1 = .ok (.getfield 25, 3) := by decide +kernel
theorem dX1_isFree_4 : decode cX1_isFree 4 = .ok (.iload_n 1, 1) := by decide +kernel
theorem dX1_isFree_5 : decode cX1_isFree 5 = .ok (.iaload, 1) := by decide +kernel
theorem dX1_isFree_6 : decode cX1_isFree 6 = .ok (.ifCond .ge 7, 3) := by decide +kernel
theorem dX1_isFree_9 : decode cX1_isFree 9 = .ok (.iconst 1, 1) := by decide +kernel
theorem dX1_isFree_10 : decode cX1_isFree 10 = .ok (.goto 4, 3) := by decide +kernel
theorem dX1_isFree_13 : decode cX1_isFree 13 = .ok (.iconst 0, 1) := by decide +kernel
theorem dX1_isFree_14 : decode cX1_isFree 14 = .ok (.ireturn, 1) := by decide +kernel
theorem dX1_add_0 : decode cX1_add 0 = .ok (.aload_n 0, 1) := by decide +kernel
theorem dX1_add_1 : decode cX1_add 1 = .ok (.getfield 9, 3) := by decide +kernel
theorem dX1_add_4 : decode cX1_add 4 = .ok (.istore 4, 2) := by decide +kernel
theorem dX1_add_6 : decode cX1_add 6 = .ok (.aload_n 0, 1) := by decide +kernel
theorem dX1_add_7 : decode cX1_add 7 = .ok (.getfield 15, 3) := by decide +kernel
theorem dX1_add_10 : decode cX1_add 10 = .ok (.iload 4, 2) := by decide +kernel
theorem dX1_add_12 : decode cX1_add 12 = .ok (.iload_n 1, 1) := by decide +kernel
theorem dX1_add_13 : decode cX1_add 13 = .ok (.iastore, 1) := by decide +kernel
theorem dX1_add_14 : decode cX1_add 14 = .ok (.aload_n 0, 1) := by decide +kernel
theorem dX1_add_15 : decode cX1_add 15 = .ok (.getfield 19, 3) := by decide +kernel
theorem dX1_add_18 : decode cX1_add 18 = .ok (.iload 4, 2) := by decide +kernel
theorem dX1_add_20 : decode cX1_add 20 = .ok (.iload_n 2, 1) := by decide +kernel
theorem dX1_add_21 : decode cX1_add 21 = .ok (.iastore, 1) := by decide +kernel
theorem dX1_add_22 : decode cX1_add 22 = .ok (.aload_n 0, 1) := by decide +kernel
theorem dX1_add_23 : decode cX1_add 23 = .ok (.getfield 22, 3) := by decide +kernel
theorem dX1_add_26 : decode cX1_add 26 = .ok (.iload 4, 2) := by decide +kernel
theorem dX1_add_28 : decode cX1_add 28 = .ok (.iload_n 3, 1) := by decide +kernel
theorem dX1_add_29 : decode cX1_add 29 = .ok (.iastore, 1) := by decide +kernel
theorem dX1_add_30 : decode cX1_add 30 = .ok (.aload_n 0, 1) := by decide +kernel
theorem dX1_add_31 : decode cX1_add 31 = .ok (.getfield 25, 3) := by decide +kernel
theorem dX1_add_34 : decode cX1_add 34 = .ok (.iload 4, 2) := by decide +kernel
theorem dX1_add_36 : decode cX1_add 36 = .ok (.iconst (-1), 1) := by decide +kernel
theorem dX1_add_37 : decode cX1_add 37 = .ok (.iastore, 1) := by decide +kernel
theorem dX1_add_38 : decode cX1_add 38 = .ok (.aload_n 0, 1) := by decide +kernel
theorem dX1_add_39 : decode cX1_add 39 = .ok (.dup, 1) := by decide +kernel
theorem dX1_add_40 : decode cX1_add 40 = .ok (.getfield 9, 3) := by decide +kernel
theorem dX1_add_43 : decode cX1_add 43 = .ok (.iconst 1, 1) := by decide +kernel
theorem dX1_add_44 : decode cX1_add 44 = .ok (.iadd, 1) := by decide +kernel
theorem dX1_add_45 : decode cX1_add 45 = .ok (.putfield 9, 3) := by decide +kernel
theorem dX1_add_48 : decode cX1_add 48 = .ok (.aload_n 0, 1) := by decide +kernel
theorem dX1_add_49 : decode cX1_add 49 = .ok (.invokevirtual 31, 3) := by decide +kernel
theorem dX1_add_52 : decode cX1_add 52 = .ok (.iload 4, 2) := by decide +kernel
theorem dX1_add_54 : decode cX1_add 54 = .ok (.ireturn, 1) := by decide +kernel
theorem dX1_giveParent_0 : decode cX1_giveParent 0 = .ok (.aload_n 0, 1) := by decide +kernel
theorem dX1_giveParent_1 : decode cX1_giveParent 1 = .ok (.getfield 22, 3) := by decide +kernel
theorem dX1_giveParent_4 : decode cX1_giveParent 4 = .ok (.iload_n 1, 1) := by decide +kernel
theorem dX1_giveParent_5 : decode cX1_giveParent 5 = .ok (.iload_n 2, 1) := by decide +kernel
theorem dX1_giveParent_6 : decode cX1_giveParent 6 = .ok (.iastore, 1) := by decide +kernel
theorem dX1_giveParent_7 : decode cX1_giveParent 7 = .ok (.aload_n 0, 1) := by decide +kernel
theorem dX1_giveParent_8 : decode cX1_giveParent 8 = .ok (.invokevirtual 31, 3) := by decide +kernel
theorem dX1_giveParent_11 : decode cX1_giveParent 11 = .ok (.return_, 1) := by decide +kernel
theorem dX1_join_0 : decode cX1_join 0 = .ok (.aload_n 0, 1) := by decide +kernel
theorem dX1_join_1 : decode cX1_join 1 = .ok (.getfield 25, 3) := by decide +kernel
theorem dX1_join_4 : decode cX1_join 4 = .ok (.iload_n 1, 1) := by decide +kernel
theorem dX1_join_5 : decode cX1_join 5 = .ok (.iload_n 2, 1) := by decide +kernel
theorem dX1_join_6 : decode cX1_join 6 = .ok (.iastore, 1) := by decide +kernel
theorem dX1_join_7 : decode cX1_join 7 = .ok (.aload_n 0, 1) := by decide +kernel
theorem dX1_join_8 : decode cX1_join 8 = .ok (.getfield 25, 3) := by decide +kernel
theorem dX1_join_11 : decode cX1_join 11 = .ok (.iload_n 2, 1) := by decide +kernel
theorem dX1_join_12 : decode cX1_join 12 = .ok (.iload_n 1, 1) := by decide +kernel
theorem dX1_join_13 : decode cX1_join 13 = .ok (.iastore, 1) := by decide +kernel
theorem dX1_join_14 : decode cX1_join 14 = .ok (.aload_n 0, 1) := by decide +kernel
theorem dX1_join_15 : decode cX1_join 15 = .ok (.invokevirtual 31, 3) := by decide +kernel
theorem dX1_join_18 : decode cX1_join 18 = .ok (.return_, 1) := by decide +kernel
theorem dX1_part_0 : decode cX1_part 0 = .ok (.aload_n 0, 1) := by decide +kernel
theorem dX1_part_1 : decode cX1_part 1 = .ok (.getfield 25, 3) := by decide +kernel
theorem dX1_part_4 : decode cX1_part 4 = .ok (.iload_n 1, 1) := by decide +kernel
theorem dX1_part_5 : decode cX1_part 5 = .ok (.iconst (-1), 1) := by decide +kernel
theorem dX1_part_6 : decode cX1_part 6 = .ok (.iastore, 1) := by decide +kernel
theorem dX1_part_7 : decode cX1_part 7 = .ok (.aload_n 0, 1) := by decide +kernel
theorem dX1_part_8 : decode cX1_part 8 = .ok (.getfield 25, 3) := by decide +kernel
theorem dX1_part_11 : decode cX1_part 11 = .ok (.iload_n 2, 1) := by decide +kernel
theorem dX1_part_12 : decode cX1_part 12 = .ok (.iconst (-1), 1) := by decide +kernel
theorem dX1_part_13 : decode cX1_part 13 = .ok (.iastore, 1) := by decide +kernel
theorem dX1_part_14 : decode cX1_part 14 = .ok (.aload_n 0, 1) := by decide +kernel
theorem dX1_part_15 : decode cX1_part 15 = .ok (.invokevirtual 31, 3) := by decide +kernel
theorem dX1_part_18 : decode cX1_part 18 = .ok (.return_, 1) := by decide +kernel
theorem dX1_between_0 : decode cX1_between 0 = .ok (.aload_n 0, 1) := by decide +kernel
theorem dX1_between_1 : decode cX1_between 1 = .ok (.getfield 28, 3) := by decide +kernel
theorem dX1_between_4 : decode cX1_between 4 = .ok (.iload_n 1, 1) := by decide +kernel
theorem dX1_between_5 : decode cX1_between 5 = .ok (.bipush 8, 2) := by decide +kernel
theorem dX1_between_7 : decode cX1_between 7 = .ok (.imul, 1) := by decide +kernel
theorem dX1_between_8 : decode cX1_between 8 = .ok (.iload_n 2, 1) := by decide +kernel
theorem dX1_between_9 : decode cX1_between 9 = .ok (.iadd, 1) := by decide +kernel
theorem dX1_between_10 : decode cX1_between 10 = .ok (.iaload, 1) := by decide +kernel
theorem dX1_between_11 : decode cX1_between 11 = .ok (.ireturn, 1) := by decide +kernel
theorem dX1_nearTo_0 : decode cX1_nearTo 0 = .ok (.iconst 0, 1) := by decide +kernel
theorem dX1_nearTo_1 : decode cX1_nearTo 1 = .ok (.istore_n 2, 1) := by decide +kernel
theorem dX1_nearTo_2 : decode cX1_nearTo 2 = .ok (.iconst 0, 1) := by decide +kernel
theorem dX1_nearTo_3 : decode cX1_nearTo 3 = .ok (.istore_n 3, 1) := by decide +kernel
theorem dX1_nearTo_4 : decode cX1_nearTo 4 = .ok (.iload_n 3, 1) := by decide +kernel
theorem dX1_nearTo_5 : decode cX1_nearTo 5 = .ok (.aload_n 0, 1) := by decide +kernel
theorem dX1_nearTo_6 : decode cX1_nearTo 6 = .ok (.getfield 9, 3) := by decide +kernel
theorem dX1_nearTo_9 : decode cX1_nearTo 9 = .ok (.if_icmp .ge 22, 3) := by decide +kernel
theorem dX1_nearTo_12 : decode cX1_nearTo 12 = .ok (.aload_n 0, 1) := by decide +kernel
theorem dX1_nearTo_13 : decode cX1_nearTo 13 = .ok (.iload_n 1, 1) := by decide +kernel
theorem dX1_nearTo_14 : decode cX1_nearTo 14 = .ok (.iload_n 3, 1) := by decide +kernel
theorem dX1_nearTo_15 : decode cX1_nearTo 15 = .ok (.invokevirtual 34, 3) := by decide +kernel
theorem dX1_nearTo_18 : decode cX1_nearTo 18 = .ok (.iconst 1, 1) := by decide +kernel
theorem dX1_nearTo_19 : decode cX1_nearTo 19 = .ok (.if_icmp .ne 6, 3) := by decide +kernel
theorem dX1_nearTo_22 : decode cX1_nearTo 22 = .ok (.iinc 2 1, 3) := by decide +kernel
theorem dX1_nearTo_25 : decode cX1_nearTo 25 = .ok (.iinc 3 1, 3) := by decide +kernel
theorem dX1_nearTo_28 : decode cX1_nearTo 28 = .ok (.goto (-24), 3) := by decide +kernel
theorem dX1_nearTo_31 : decode cX1_nearTo 31 = .ok (.iload_n 2, 1) := by decide +kernel
theorem dX1_nearTo_32 : decode cX1_nearTo 32 = .ok (.ireturn, 1) := by decide +kernel
theorem dX1_measure_0 : decode cX1_measure 0 = .ok (.iconst 0, 1) := by decide +kernel
theorem dX1_measure_1 : decode cX1_measure 1 = .ok (.istore_n 1, 1) := by decide +kernel
theorem dX1_measure_2 : decode cX1_measure 2 = .ok (.iload_n 1, 1) := by decide +kernel
theorem dX1_measure_3 : decode cX1_measure 3 = .ok (.aload_n 0, 1) := by decide +kernel
theorem dX1_measure_4 : decode cX1_measure 4 = .ok (.getfield 9, 3) := by decide +kernel
theorem dX1_measure_7 : decode cX1_measure 7 = .ok (.if_icmp .ge 47, 3) := by decide +kernel
theorem dX1_measure_10 : decode cX1_measure 10 = .ok (.iconst 0, 1) := by decide +kernel
theorem dX1_measure_11 : decode cX1_measure 11 = .ok (.istore_n 2, 1) := by decide +kernel
theorem dX1_measure_12 : decode cX1_measure 12 = .ok (.iload_n 2, 1) := by decide +kernel
theorem dX1_measure_13 : decode cX1_measure 13 = .ok (.aload_n 0, 1) := by decide +kernel
theorem dX1_measure_14 : decode cX1_measure 14 = .ok (.getfield 9, 3) := by decide +kernel
theorem dX1_measure_17 : decode cX1_measure 17 = .ok (.if_icmp .ge 31, 3) := by decide +kernel
theorem dX1_measure_20 : decode cX1_measure 20 = .ok (.aload_n 0, 1) := by decide +kernel
theorem dX1_measure_21 : decode cX1_measure 21 = .ok (.getfield 28, 3) := by decide +kernel
theorem dX1_measure_24 : decode cX1_measure 24 = .ok (.iload_n 1, 1) := by decide +kernel
theorem dX1_measure_25 : decode cX1_measure 25 = .ok (.bipush 8, 2) := by decide +kernel
theorem dX1_measure_27 : decode cX1_measure 27 = .ok (.imul, 1) := by decide +kernel
theorem dX1_measure_28 : decode cX1_measure 28 = .ok (.iload_n 2, 1) := by decide +kernel
theorem dX1_measure_29 : decode cX1_measure 29 = .ok (.iadd, 1) := by decide +kernel
theorem dX1_measure_30 : decode cX1_measure 30 = .ok (.iload_n 1, 1) := by decide +kernel
theorem dX1_measure_31 : decode cX1_measure 31 = .ok (.iload_n 2, 1) := by decide +kernel
theorem dX1_measure_32 : decode cX1_measure 32 = .ok (.if_icmp .ne 7, 3) := by decide +kernel
theorem dX1_measure_35 : decode cX1_measure 35 = .ok (.iconst 0, 1) := by decide +kernel
theorem dX1_measure_36 : decode cX1_measure 36 = .ok (.goto 5, 3) := by decide +kernel
theorem dX1_measure_39 : decode cX1_measure 39 = .ok (.bipush 40, 2) := by decide +kernel
theorem dX1_measure_41 : decode cX1_measure 41 = .ok (.iastore, 1) := by decide +kernel
theorem dX1_measure_42 : decode cX1_measure 42 = .ok (.iinc 2 1, 3) := by decide +kernel
theorem dX1_measure_45 : decode cX1_measure 45 = .ok (.goto (-33), 3) := by decide +kernel
theorem dX1_measure_48 : decode cX1_measure 48 = .ok (.iinc 1 1, 3) := by decide +kernel
theorem dX1_measure_51 : decode cX1_measure 51 = .ok (.goto (-49), 3) := by decide +kernel
theorem dX1_measure_54 : decode cX1_measure 54 = .ok (.iconst 0, 1) := by decide +kernel
theorem dX1_measure_55 : decode cX1_measure 55 = .ok (.istore_n 1, 1) := by decide +kernel
theorem dX1_measure_56 : decode cX1_measure 56 = .ok (.iload_n 1, 1) := by decide +kernel
theorem dX1_measure_57 : decode cX1_measure 57 = .ok (.aload_n 0, 1) := by decide +kernel
theorem dX1_measure_58 : decode cX1_measure 58 = .ok (.getfield 9, 3) := by decide +kernel
theorem dX1_measure_61 : decode cX1_measure 61 = .ok (.if_icmp .ge 31, 3) := by decide +kernel
theorem dX1_measure_64 : decode cX1_measure 64 = .ok (.aload_n 0, 1) := by decide +kernel
theorem dX1_measure_65 : decode cX1_measure 65 = .ok (.iload_n 1, 1) := by decide +kernel
theorem dX1_measure_66 : decode cX1_measure 66 = .ok (.aload_n 0, 1) := by decide +kernel
theorem dX1_measure_67 : decode cX1_measure 67 = .ok (.getfield 22, 3) := by decide +kernel
theorem dX1_measure_70 : decode cX1_measure 70 = .ok (.iload_n 1, 1) := by decide +kernel
theorem dX1_measure_71 : decode cX1_measure 71 = .ok (.iaload, 1) := by decide +kernel
theorem dX1_measure_72 : decode cX1_measure 72 = .ok (.invokevirtual 38, 3) := by decide +kernel
theorem dX1_measure_75 : decode cX1_measure 75 = .ok (.aload_n 0, 1) := by decide +kernel
theorem dX1_measure_76 : decode cX1_measure 76 = .ok (.iload_n 1, 1) := by decide +kernel
theorem dX1_measure_77 : decode cX1_measure 77 = .ok (.aload_n 0, 1) := by decide +kernel
theorem dX1_measure_78 : decode cX1_measure 78 = .ok (.getfield 25, 3) := by decide +kernel
theorem dX1_measure_81 : decode cX1_measure 81 = .ok (.iload_n 1, 1) := by decide +kernel
theorem dX1_measure_82 : decode cX1_measure 82 = .ok (.iaload, 1) := by decide +kernel
theorem dX1_measure_83 : decode cX1_measure 83 = .ok (.invokevirtual 38, 3) := by decide +kernel
theorem dX1_measure_86 : decode cX1_measure 86 = .ok (.iinc 1 1, 3) := by decide +kernel
theorem dX1_measure_89 : decode cX1_measure 89 = .ok (.goto (-33), 3) := by decide +kernel
theorem dX1_measure_92 : decode cX1_measure 92 = .ok (.iconst 0, 1) := by decide +kernel
theorem dX1_measure_93 : decode cX1_measure 93 = .ok (.istore_n 1, 1) := by decide +kernel
theorem dX1_measure_94 : decode cX1_measure 94 = .ok (.iload_n 1, 1) := by decide +kernel
theorem dX1_measure_95 : decode cX1_measure 95 = .ok (.aload_n 0, 1) := by decide +kernel
theorem dX1_measure_96 : decode cX1_measure 96 = .ok (.getfield 9, 3) := by decide +kernel
theorem dX1_measure_99 : decode cX1_measure 99 = .ok (.if_icmp .ge 31, 3) := by decide +kernel
theorem dX1_measure_102 : decode cX1_measure 102 = .ok (.iconst 0, 1) := by decide +kernel
theorem dX1_measure_103 : decode cX1_measure 103 = .ok (.istore_n 2, 1) := by decide +kernel
theorem dX1_measure_104 : decode cX1_measure 104 = .ok (.iload_n 2, 1) := by decide +kernel
theorem dX1_measure_105 : decode cX1_measure 105 = .ok (.aload_n 0, 1) := by decide +kernel
theorem dX1_measure_106 : decode cX1_measure 106 = .ok (.getfield 9, 3) := by decide +kernel
theorem dX1_measure_109 : decode cX1_measure 109 = .ok (.if_icmp .ge 15, 3) := by decide +kernel
theorem dX1_measure_112 : decode cX1_measure 112 = .ok (.aload_n 0, 1) := by decide +kernel
theorem dX1_measure_113 : decode cX1_measure 113 = .ok (.iload_n 1, 1) := by decide +kernel
theorem dX1_measure_114 : decode cX1_measure 114 = .ok (.iload_n 2, 1) := by decide +kernel
theorem dX1_measure_115 : decode cX1_measure 115 = .ok (.invokevirtual 42, 3) := by decide +kernel
theorem dX1_measure_118 : decode cX1_measure 118 = .ok (.iinc 2 1, 3) := by decide +kernel
theorem dX1_measure_121 : decode cX1_measure 121 = .ok (.goto (-17), 3) := by decide +kernel
theorem dX1_measure_124 : decode cX1_measure 124 = .ok (.iinc 1 1, 3) := by decide +kernel
theorem dX1_measure_127 : decode cX1_measure 127 = .ok (.goto (-33), 3) := by decide +kernel
theorem dX1_measure_130 : decode cX1_measure 130 = .ok (.return_, 1) := by decide +kernel
theorem dX1_link_0 : decode cX1_link 0 = .ok (.aload_n 0, 1) := by decide +kernel
theorem dX1_link_1 : decode cX1_link 1 = .ok (.iload_n 2, 1) := by decide +kernel
theorem dX1_link_2 : decode cX1_link 2 = .ok (.invokevirtual 45, 3) := by decide +kernel
theorem dX1_link_5 : decode cX1_link 5 = .ok (.ifCond .eq 27, 3) := by decide +kernel
theorem dX1_link_8 : decode cX1_link 8 = .ok (.aload_n 0, 1) := by decide +kernel
theorem dX1_link_9 : decode cX1_link 9 = .ok (.getfield 28, 3) := by decide +kernel
theorem dX1_link_12 : decode cX1_link 12 = .ok (.iload_n 1, 1) := by decide +kernel
theorem dX1_link_13 : decode cX1_link 13 = .ok (.bipush 8, 2) := by decide +kernel
theorem dX1_link_15 : decode cX1_link 15 = .ok (.imul, 1) := by decide +kernel
theorem dX1_link_16 : decode cX1_link 16 = .ok (.iload_n 2, 1) := by decide +kernel
theorem dX1_link_17 : decode cX1_link 17 = .ok (.iadd, 1) := by decide +kernel
theorem dX1_link_18 : decode cX1_link 18 = .ok (.iconst 1, 1) := by decide +kernel
theorem dX1_link_19 : decode cX1_link 19 = .ok (.iastore, 1) := by decide +kernel
theorem dX1_link_20 : decode cX1_link 20 = .ok (.aload_n 0, 1) := by decide +kernel
theorem dX1_link_21 : decode cX1_link 21 = .ok (.getfield 28, 3) := by decide +kernel
theorem dX1_link_24 : decode cX1_link 24 = .ok (.iload_n 2, 1) := by decide +kernel
theorem dX1_link_25 : decode cX1_link 25 = .ok (.bipush 8, 2) := by decide +kernel
theorem dX1_link_27 : decode cX1_link 27 = .ok (.imul, 1) := by decide +kernel
theorem dX1_link_28 : decode cX1_link 28 = .ok (.iload_n 1, 1) := by decide +kernel
theorem dX1_link_29 : decode cX1_link 29 = .ok (.iadd, 1) := by decide +kernel
theorem dX1_link_30 : decode cX1_link 30 = .ok (.iconst 1, 1) := by decide +kernel
theorem dX1_link_31 : decode cX1_link 31 = .ok (.iastore, 1) := by decide +kernel
theorem dX1_link_32 : decode cX1_link 32 = .ok (.return_, 1) := by decide +kernel
theorem dX1_shortenBy_0 : decode cX1_shortenBy 0 = .ok (.iconst 0, 1) := by decide +kernel
theorem dX1_shortenBy_1 : decode cX1_shortenBy 1 = .ok (.istore_n 3, 1) := by decide +kernel
theorem dX1_shortenBy_2 : decode cX1_shortenBy 2 = .ok (.iload_n 3, 1) := by decide +kernel
theorem dX1_shortenBy_3 : decode cX1_shortenBy 3 = .ok (.aload_n 0, 1) := by decide +kernel
theorem dX1_shortenBy_4 : decode cX1_shortenBy 4 = .ok (.getfield 9, 3) := by decide +kernel
theorem dX1_shortenBy_7 : decode cX1_shortenBy 7 = .ok (.if_icmp .ge 51, 3) := by decide +kernel
theorem dX1_shortenBy_10 : decode cX1_shortenBy 10 = .ok (.aload_n 0, 1) := by decide +kernel
theorem dX1_shortenBy_11 : decode cX1_shortenBy 11 = .ok (.iload_n 2, 1) := by decide +kernel
theorem dX1_shortenBy_12 : decode cX1_shortenBy 12 = .ok (.iload_n 1, 1) := by decide +kernel
theorem dX1_shortenBy_13 : decode cX1_shortenBy 13 = .ok (.invokevirtual 34, 3) := by decide +kernel
theorem dX1_shortenBy_16 : decode cX1_shortenBy 16 = .ok (.aload_n 0, 1) := by decide +kernel
theorem dX1_shortenBy_17 : decode cX1_shortenBy 17 = .ok (.iload_n 1, 1) := by decide +kernel
theorem dX1_shortenBy_18 : decode cX1_shortenBy 18 = .ok (.iload_n 3, 1) := by decide +kernel
theorem dX1_shortenBy_19 : decode cX1_shortenBy 19 = .ok (.invokevirtual 34, 3) := by decide +kernel
theorem dX1_shortenBy_22 : decode cX1_shortenBy 22 = .ok (.iadd, 1) := by decide +kernel
theorem dX1_shortenBy_23 : decode cX1_shortenBy 23 = .ok (.istore 4, 2) := by decide +kernel
theorem dX1_shortenBy_25 : decode cX1_shortenBy 25 = .ok (.iload_n 2, 1) := by decide +kernel
theorem dX1_shortenBy_26 : decode cX1_shortenBy 26 = .ok (.bipush 8, 2) := by decide +kernel
theorem dX1_shortenBy_28 : decode cX1_shortenBy 28 = .ok (.imul, 1) := by decide +kernel
theorem dX1_shortenBy_29 : decode cX1_shortenBy 29 = .ok (.iload_n 3, 1) := by decide +kernel
theorem dX1_shortenBy_30 : decode cX1_shortenBy 30 = .ok (.iadd, 1) := by decide +kernel
theorem dX1_shortenBy_31 : decode cX1_shortenBy 31 = .ok (.istore 5, 2) := by decide +kernel
theorem dX1_shortenBy_33 : decode cX1_shortenBy 33 = .ok (.aload_n 0, 1) := by decide +kernel
theorem dX1_shortenBy_34 : decode cX1_shortenBy 34 = .ok (.getfield 28, 3) := by decide +kernel
theorem dX1_shortenBy_37 : decode cX1_shortenBy 37 = .ok (.iload 5, 2) := by decide +kernel
theorem dX1_shortenBy_39 : decode cX1_shortenBy 39 = .ok (.aload_n 0, 1) := by decide +kernel
theorem dX1_shortenBy_40 : decode cX1_shortenBy 40 = .ok (.getfield 28, 3) := by decide +kernel
theorem dX1_shortenBy_43 : decode cX1_shortenBy 43 = .ok (.iload 5, 2) := by decide +kernel
theorem dX1_shortenBy_45 : decode cX1_shortenBy 45 = .ok (.iaload, 1) := by decide +kernel
theorem dX1_shortenBy_46 : decode cX1_shortenBy 46 = .ok (.iload 4, 2) := by decide +kernel
theorem dX1_shortenBy_48 : decode cX1_shortenBy 48 = .ok (.invokestatic 49, 3) := by decide +kernel
theorem dX1_shortenBy_51 : decode cX1_shortenBy 51 = .ok (.iastore, 1) := by decide +kernel
theorem dX1_shortenBy_52 : decode cX1_shortenBy 52 = .ok (.iinc 3 1, 3) := by decide +kernel
theorem dX1_shortenBy_55 : decode cX1_shortenBy 55 = .ok (.goto (-53), 3) := by decide +kernel
theorem dX1_shortenBy_58 : decode cX1_shortenBy 58 = .ok (.return_, 1) := by decide +kernel
theorem dX1_bestMatch_0 : decode cX1_bestMatch 0 = .ok (.aload_n 0, 1) := by decide +kernel
theorem dX1_bestMatch_1 : decode cX1_bestMatch 1 = .ok (.iload_n 1, 1) := by decide +kernel
theorem dX1_bestMatch_2 : decode cX1_bestMatch 2 = .ok (.iload_n 2, 1) := by decide +kernel
theorem dX1_bestMatch_3 : decode cX1_bestMatch 3 = .ok (.invokevirtual 34, 3) := by decide +kernel
theorem dX1_bestMatch_6 : decode cX1_bestMatch 6 = .ok (.bipush 100, 2) := by decide +kernel
theorem dX1_bestMatch_8 : decode cX1_bestMatch 8 = .ok (.imul, 1) := by decide +kernel
theorem dX1_bestMatch_9 : decode cX1_bestMatch 9 = .ok (.istore_n 3, 1) := by decide +kernel
theorem dX1_bestMatch_10 : decode cX1_bestMatch 10 = .ok (.iload_n 3, 1) := by decide +kernel
theorem dX1_bestMatch_11 : decode cX1_bestMatch 11 = .ok (.istore 4, 2) := by decide +kernel
theorem dX1_bestMatch_13 : decode cX1_bestMatch 13 = .ok (.iconst 0, 1) := by decide +kernel
theorem dX1_bestMatch_14 : decode cX1_bestMatch 14 = .ok (.istore 5, 2) := by decide +kernel
theorem dX1_bestMatch_16 : decode cX1_bestMatch 16 = .ok (.iload 5, 2) := by decide +kernel
theorem dX1_bestMatch_18 : decode cX1_bestMatch 18 = .ok (.aload_n 0, 1) := by decide +kernel
theorem dX1_bestMatch_19 : decode cX1_bestMatch 19 = .ok (.getfield 9, 3) := by decide +kernel
theorem dX1_bestMatch_22 : decode cX1_bestMatch 22 = .ok (.if_icmp .ge 77, 3) := by decide +kernel
theorem dX1_bestMatch_25 : decode cX1_bestMatch 25 = .ok (.iload 5, 2) := by decide +kernel
theorem dX1_bestMatch_27 : decode cX1_bestMatch 27 = .ok (.iconst 1, 1) := by decide +kernel
theorem dX1_bestMatch_28 : decode cX1_bestMatch 28 = .ok (.iadd, 1) := by decide +kernel
theorem dX1_bestMatch_29 : decode cX1_bestMatch 29 = .ok (.istore 6, 2) := by decide +kernel
theorem dX1_bestMatch_31 : decode cX1_bestMatch 31 = .ok (.iload 6, 2) := by decide +kernel
theorem dX1_bestMatch_33 : decode cX1_bestMatch 33 = .ok (.aload_n 0, 1) := by decide +kernel
theorem dX1_bestMatch_34 : decode cX1_bestMatch 34 = .ok (.getfield 9, 3) := by decide +kernel
theorem dX1_bestMatch_37 : decode cX1_bestMatch 37 = .ok (.if_icmp .ge 56, 3) := by decide +kernel
theorem dX1_bestMatch_40 : decode cX1_bestMatch 40 = .ok (.aload_n 0, 1) := by decide +kernel
theorem dX1_bestMatch_41 : decode cX1_bestMatch 41 = .ok (.iload 5, 2) := by decide +kernel
theorem dX1_bestMatch_43 : decode cX1_bestMatch 43 = .ok (.invokevirtual 54, 3) := by decide +kernel
theorem dX1_bestMatch_46 : decode cX1_bestMatch 46 = .ok (.ifCond .eq 41, 3) := by decide +kernel
theorem dX1_bestMatch_49 : decode cX1_bestMatch 49 = .ok (.aload_n 0, 1) := by decide +kernel
theorem dX1_bestMatch_50 : decode cX1_bestMatch 50 = .ok (.iload 6, 2) := by decide +kernel
theorem dX1_bestMatch_52 : decode cX1_bestMatch 52 = .ok (.invokevirtual 54, 3) := by decide +kernel
theorem dX1_bestMatch_55 : decode cX1_bestMatch 55 = .ok (.ifCond .eq 32, 3) := by decide +kernel
theorem dX1_bestMatch_58 : decode cX1_bestMatch 58 = .ok (.iload 4, 2) := by decide +kernel
theorem dX1_bestMatch_60 : decode cX1_bestMatch 60 = .ok (.aload_n 0, 1) := by decide +kernel
theorem dX1_bestMatch_61 : decode cX1_bestMatch 61 = .ok (.iload_n 1, 1) := by decide +kernel
theorem dX1_bestMatch_62 : decode cX1_bestMatch 62 = .ok (.iload_n 2, 1) := by decide +kernel
theorem dX1_bestMatch_63 : decode cX1_bestMatch 63 = .ok (.iload 5, 2) := by decide +kernel
theorem dX1_bestMatch_65 : decode cX1_bestMatch 65 = .ok (.iload 6, 2) := by decide +kernel
theorem dX1_bestMatch_67 : decode cX1_bestMatch 67 = .ok (.invokevirtual 57, 3) := by decide +kernel
theorem dX1_bestMatch_70 : decode cX1_bestMatch 70 = .ok (.bipush 100, 2) := by decide +kernel
theorem dX1_bestMatch_72 : decode cX1_bestMatch 72 = .ok (.imul, 1) := by decide +kernel
theorem dX1_bestMatch_73 : decode cX1_bestMatch 73 = .ok (.iload 5, 2) := by decide +kernel
theorem dX1_bestMatch_75 : decode cX1_bestMatch 75 = .ok (.bipush 10, 2) := by decide +kernel
theorem dX1_bestMatch_77 : decode cX1_bestMatch 77 = .ok (.imul, 1) := by decide +kernel
theorem dX1_bestMatch_78 : decode cX1_bestMatch 78 = .ok (.iadd, 1) := by decide +kernel
theorem dX1_bestMatch_79 : decode cX1_bestMatch 79 = .ok (.iload 6, 2) := by decide +kernel
theorem dX1_bestMatch_81 : decode cX1_bestMatch 81 = .ok (.iadd, 1) := by decide +kernel
theorem dX1_bestMatch_82 : decode cX1_bestMatch 82 = .ok (.invokestatic 49, 3) := by decide +kernel
theorem dX1_bestMatch_85 : decode cX1_bestMatch 85 = .ok (.istore 4, 2) := by decide +kernel
theorem dX1_bestMatch_87 : decode cX1_bestMatch 87 = .ok (.iinc 6 1, 3) := by decide +kernel
theorem dX1_bestMatch_90 : decode cX1_bestMatch 90 = .ok (.goto (-59), 3) := by decide +kernel
theorem dX1_bestMatch_93 : decode cX1_bestMatch 93 = .ok (.iinc 5 1, 3) := by decide +kernel
theorem dX1_bestMatch_96 : decode cX1_bestMatch 96 = .ok (.goto (-80), 3) := by decide +kernel
theorem dX1_bestMatch_99 : decode cX1_bestMatch 99 = .ok (.iload 4, 2) := by decide +kernel
theorem dX1_bestMatch_101 : decode cX1_bestMatch 101 = .ok (.iload_n 3, 1) := by decide +kernel
theorem dX1_bestMatch_102 : decode cX1_bestMatch 102 = .ok (.if_icmp .ge 8, 3) := by decide +kernel
theorem dX1_bestMatch_105 : decode cX1_bestMatch 105 = .ok (.iload 4, 2) := by decide +kernel
theorem dX1_bestMatch_107 : decode cX1_bestMatch 107 = .ok (.goto 4, 3) := by decide +kernel
theorem dX1_bestMatch_110 : decode cX1_bestMatch 110 = .ok (.iconst (-1), 1) := by decide +kernel
theorem dX1_bestMatch_111 : decode cX1_bestMatch 111 = .ok (.ireturn, 1) := by decide +kernel
theorem dX1_byMarriage_0 : decode cX1_byMarriage 0 = .ok (.aload_n 0, 1) := by decide +kernel
theorem dX1_byMarriage_1 : decode cX1_byMarriage 1 = .ok (.iload_n 1, 1) := by decide +kernel
theorem dX1_byMarriage_2 : decode cX1_byMarriage 2 = .ok (.iload_n 3, 1) := by decide +kernel
theorem dX1_byMarriage_3 : decode cX1_byMarriage 3 = .ok (.invokevirtual 34, 3) := by decide +kernel
theorem dX1_byMarriage_6 : decode cX1_byMarriage 6 = .ok (.iconst 1, 1) := by decide +kernel
theorem dX1_byMarriage_7 : decode cX1_byMarriage 7 = .ok (.iadd, 1) := by decide +kernel
theorem dX1_byMarriage_8 : decode cX1_byMarriage 8 = .ok (.aload_n 0, 1) := by decide +kernel
theorem dX1_byMarriage_9 : decode cX1_byMarriage 9 = .ok (.iload 4, 2) := by decide +kernel
theorem dX1_byMarriage_11 : decode cX1_byMarriage 11 = .ok (.iload_n 2, 1) := by decide +kernel
theorem dX1_byMarriage_12 : decode cX1_byMarriage 12 = .ok (.invokevirtual 34, 3) := by decide +kernel
theorem dX1_byMarriage_15 : decode cX1_byMarriage 15 = .ok (.iadd, 1) := by decide +kernel
theorem dX1_byMarriage_16 : decode cX1_byMarriage 16 = .ok (.istore 5, 2) := by decide +kernel
theorem dX1_byMarriage_18 : decode cX1_byMarriage 18 = .ok (.aload_n 0, 1) := by decide +kernel
theorem dX1_byMarriage_19 : decode cX1_byMarriage 19 = .ok (.iload_n 1, 1) := by decide +kernel
theorem dX1_byMarriage_20 : decode cX1_byMarriage 20 = .ok (.iload 4, 2) := by decide +kernel
theorem dX1_byMarriage_22 : decode cX1_byMarriage 22 = .ok (.invokevirtual 34, 3) := by decide +kernel
theorem dX1_byMarriage_25 : decode cX1_byMarriage 25 = .ok (.iconst 1, 1) := by decide +kernel
theorem dX1_byMarriage_26 : decode cX1_byMarriage 26 = .ok (.iadd, 1) := by decide +kernel
theorem dX1_byMarriage_27 : decode cX1_byMarriage 27 = .ok (.aload_n 0, 1) := by decide +kernel
theorem dX1_byMarriage_28 : decode cX1_byMarriage 28 = .ok (.iload_n 3, 1) := by decide +kernel
theorem dX1_byMarriage_29 : decode cX1_byMarriage 29 = .ok (.iload_n 2, 1) := by decide +kernel
theorem dX1_byMarriage_30 : decode cX1_byMarriage 30 = .ok (.invokevirtual 34, 3) := by decide +kernel
theorem dX1_byMarriage_33 : decode cX1_byMarriage 33 = .ok (.iadd, 1) := by decide +kernel
theorem dX1_byMarriage_34 : decode cX1_byMarriage 34 = .ok (.istore 6, 2) := by decide +kernel
theorem dX1_byMarriage_36 : decode cX1_byMarriage 36 = .ok (.aload_n 0, 1) := by decide +kernel
theorem dX1_byMarriage_37 : decode cX1_byMarriage 37 = .ok (.iload_n 1, 1) := by decide +kernel
theorem dX1_byMarriage_38 : decode cX1_byMarriage 38 = .ok (.iload_n 2, 1) := by decide +kernel
theorem dX1_byMarriage_39 : decode cX1_byMarriage 39 = .ok (.invokevirtual 34, 3) := by decide +kernel
theorem dX1_byMarriage_42 : decode cX1_byMarriage 42 = .ok (.iload 5, 2) := by decide +kernel
theorem dX1_byMarriage_44 : decode cX1_byMarriage 44 = .ok (.iload 6, 2) := by decide +kernel
theorem dX1_byMarriage_46 : decode cX1_byMarriage 46 = .ok (.invokestatic 49, 3) := by decide +kernel
theorem dX1_byMarriage_49 : decode cX1_byMarriage 49 = .ok (.invokestatic 49, 3) := by decide +kernel
theorem dX1_byMarriage_52 : decode cX1_byMarriage 52 = .ok (.ireturn, 1) := by decide +kernel
theorem dX1_copy_0 : decode cX1_copy 0 = .ok (.aload_n 0, 1) := by decide +kernel
theorem dX1_copy_1 : decode cX1_copy 1 = .ok (.aload_n 1, 1) := by decide +kernel
theorem dX1_copy_2 : decode cX1_copy 2 = .ok (.getfield 9, 3) := by decide +kernel
theorem dX1_copy_5 : decode cX1_copy 5 = .ok (.putfield 9, 3) := by decide +kernel
theorem dX1_copy_8 : decode cX1_copy 8 = .ok (.aload_n 1, 1) := by decide +kernel
theorem dX1_copy_9 : decode cX1_copy 9 = .ok (.getfield 15, 3) := by decide +kernel
theorem dX1_copy_12 : decode cX1_copy 12 = .ok (.iconst 0, 1) := by decide +kernel
theorem dX1_copy_13 : decode cX1_copy 13 = .ok (.aload_n 0, 1) := by decide +kernel
theorem dX1_copy_14 : decode cX1_copy 14 = .ok (.getfield 15, 3) := by decide +kernel
theorem dX1_copy_17 : decode cX1_copy 17 = .ok (.iconst 0, 1) := by decide +kernel
theorem dX1_copy_18 : decode cX1_copy 18 = .ok (.bipush 8, 2) := by decide +kernel
theorem dX1_copy_20 : decode cX1_copy 20 = .ok (.invokestatic 61, 3) := by decide +kernel
theorem dX1_copy_23 : decode cX1_copy 23 = .ok (.aload_n 1, 1) := by decide +kernel
theorem dX1_copy_24 : decode cX1_copy 24 = .ok (.getfield 19, 3) := by decide +kernel
theorem dX1_copy_27 : decode cX1_copy 27 = .ok (.iconst 0, 1) := by decide +kernel
theorem dX1_copy_28 : decode cX1_copy 28 = .ok (.aload_n 0, 1) := by decide +kernel
theorem dX1_copy_29 : decode cX1_copy 29 = .ok (.getfield 19, 3) := by decide +kernel
theorem dX1_copy_32 : decode cX1_copy 32 = .ok (.iconst 0, 1) := by decide +kernel
theorem dX1_copy_33 : decode cX1_copy 33 = .ok (.bipush 8, 2) := by decide +kernel
theorem dX1_copy_35 : decode cX1_copy 35 = .ok (.invokestatic 61, 3) := by decide +kernel
theorem dX1_copy_38 : decode cX1_copy 38 = .ok (.aload_n 1, 1) := by decide +kernel
theorem dX1_copy_39 : decode cX1_copy 39 = .ok (.getfield 22, 3) := by decide +kernel
theorem dX1_copy_42 : decode cX1_copy 42 = .ok (.iconst 0, 1) := by decide +kernel
theorem dX1_copy_43 : decode cX1_copy 43 = .ok (.aload_n 0, 1) := by decide +kernel
theorem dX1_copy_44 : decode cX1_copy 44 = .ok (.getfield 22, 3) := by decide +kernel
theorem dX1_copy_47 : decode cX1_copy 47 = .ok (.iconst 0, 1) := by decide +kernel
theorem dX1_copy_48 : decode cX1_copy 48 = .ok (.bipush 8, 2) := by decide +kernel
theorem dX1_copy_50 : decode cX1_copy 50 = .ok (.invokestatic 61, 3) := by decide +kernel
theorem dX1_copy_53 : decode cX1_copy 53 = .ok (.aload_n 1, 1) := by decide +kernel
theorem dX1_copy_54 : decode cX1_copy 54 = .ok (.getfield 25, 3) := by decide +kernel
theorem dX1_copy_57 : decode cX1_copy 57 = .ok (.iconst 0, 1) := by decide +kernel
theorem dX1_copy_58 : decode cX1_copy 58 = .ok (.aload_n 0, 1) := by decide +kernel
theorem dX1_copy_59 : decode cX1_copy 59 = .ok (.getfield 25, 3) := by decide +kernel
theorem dX1_copy_62 : decode cX1_copy 62 = .ok (.iconst 0, 1) := by decide +kernel
theorem dX1_copy_63 : decode cX1_copy 63 = .ok (.bipush 8, 2) := by decide +kernel
theorem dX1_copy_65 : decode cX1_copy 65 = .ok (.invokestatic 61, 3) := by decide +kernel
theorem dX1_copy_68 : decode cX1_copy 68 = .ok (.aload_n 1, 1) := by decide +kernel
theorem dX1_copy_69 : decode cX1_copy 69 = .ok (.getfield 28, 3) := by decide +kernel
theorem dX1_copy_72 : decode cX1_copy 72 = .ok (.iconst 0, 1) := by decide +kernel
theorem dX1_copy_73 : decode cX1_copy 73 = .ok (.aload_n 0, 1) := by decide +kernel
theorem dX1_copy_74 : decode cX1_copy 74 = .ok (.getfield 28, 3) := by decide +kernel
theorem dX1_copy_77 : decode cX1_copy 77 = .ok (.iconst 0, 1) := by decide +kernel
theorem dX1_copy_78 : decode cX1_copy 78 = .ok (.aload_n 0, 1) := by decide +kernel
theorem dX1_copy_79 : decode cX1_copy 79 = .ok (.getfield 28, 3) := by decide +kernel
theorem dX1_copy_82 : decode cX1_copy 82 = .ok (.arraylength, 1) := by decide +kernel
theorem dX1_copy_83 : decode cX1_copy 83 = .ok (.invokestatic 61, 3) := by decide +kernel
theorem dX1_copy_86 : decode cX1_copy 86 = .ok (.return_, 1) := by decide +kernel
theorem dX2_isKind_0 : decode cX2_isKind 0 = .ok (.iload_n 0, 1) := by decide +kernel
theorem dX2_isKind_1 : decode cX2_isKind 1 = .ok (.ifCond .lt 15, 3) := by decide +kernel
theorem dX2_isKind_4 : decode cX2_isKind 4 = .ok (.iload_n 0, 1) := by decide +kernel
theorem dX2_isKind_5 : decode cX2_isKind 5 = .ok (.getstatic 9, 3) := by decide +kernel
theorem dX2_isKind_8 : decode cX2_isKind 8 = .ok (.arraylength, 1) := by decide +kernel
theorem dX2_isKind_9 : decode cX2_isKind 9 = .ok (.if_icmp .ge 7, 3) := by decide +kernel
theorem dX2_isKind_12 : decode cX2_isKind 12 = .ok (.iconst 1, 1) := by decide +kernel
theorem dX2_isKind_13 : decode cX2_isKind 13 = .ok (.goto 4, 3) := by decide +kernel
theorem dX2_isKind_16 : decode cX2_isKind 16 = .ok (.iconst 0, 1) := by decide +kernel
theorem dX2_isKind_17 : decode cX2_isKind 17 = .ok (.ireturn, 1) := by decide +kernel
theorem dX2_above_0 : decode cX2_above 0 = .ok (.iload_n 0, 1) := by decide +kernel
theorem dX2_above_1 : decode cX2_above 1 = .ok (.invokestatic 15, 3) := by decide +kernel
theorem dX2_above_4 : decode cX2_above 4 = .ok (.ifCond .eq 11, 3) := by decide +kernel
theorem dX2_above_7 : decode cX2_above 7 = .ok (.getstatic 9, 3) := by decide +kernel
theorem dX2_above_10 : decode cX2_above 10 = .ok (.iload_n 0, 1) := by decide +kernel
theorem dX2_above_11 : decode cX2_above 11 = .ok (.iaload, 1) := by decide +kernel
theorem dX2_above_12 : decode cX2_above 12 = .ok (.goto 4, 3) := by decide +kernel
theorem dX2_above_15 : decode cX2_above 15 = .ok (.iconst (-1), 1) := by decide +kernel
theorem dX2_above_16 : decode cX2_above 16 = .ok (.ireturn, 1) := by decide +kernel
theorem dX2_isUnder_0 : decode cX2_isUnder 0 = .ok (.iload_n 0, 1) := by decide +kernel
theorem dX2_isUnder_1 : decode cX2_isUnder 1 = .ok (.istore_n 2, 1) := by decide +kernel
theorem dX2_isUnder_2 : decode cX2_isUnder 2 = .ok (.iconst 0, 1) := by decide +kernel
theorem dX2_isUnder_3 : decode cX2_isUnder 3 = .ok (.istore_n 3, 1) := by decide +kernel
theorem dX2_isUnder_4 : decode cX2_isUnder 4 = .ok (.iload_n 3, 1) := by decide +kernel
theorem dX2_isUnder_5 : decode cX2_isUnder 5 = .ok (.getstatic 9, 3) := by decide +kernel
theorem dX2_isUnder_8 : decode cX2_isUnder 8 = .ok (.arraylength, 1) := by decide +kernel
theorem dX2_isUnder_9 : decode cX2_isUnder 9 = .ok (.if_icmp .ge 25, 3) := by decide +kernel
theorem dX2_isUnder_12 : decode cX2_isUnder 12 = .ok (.iload_n 2, 1) := by decide +kernel
theorem dX2_isUnder_13 : decode cX2_isUnder 13 = .ok (.ifCond .lt 21, 3) := by decide +kernel
theorem dX2_isUnder_16 : decode cX2_isUnder 16 = .ok (.iload_n 2, 1) := by decide +kernel
theorem dX2_isUnder_17 : decode cX2_isUnder 17 = .ok (.iload_n 1, 1) := by decide +kernel
theorem dX2_isUnder_18 : decode cX2_isUnder 18 = .ok (.if_icmp .ne 5, 3) := by decide +kernel
theorem dX2_isUnder_21 : decode cX2_isUnder 21 = .ok (.iconst 1, 1) := by decide +kernel
theorem dX2_isUnder_22 : decode cX2_isUnder 22 = .ok (.ireturn, 1) := by decide +kernel
theorem dX2_isUnder_23 : decode cX2_isUnder 23 = .ok (.iload_n 2, 1) := by decide +kernel
theorem dX2_isUnder_24 : decode cX2_isUnder 24 = .ok (.invokestatic 19, 3) := by decide +kernel
theorem dX2_isUnder_27 : decode cX2_isUnder 27 = .ok (.istore_n 2, 1) := by decide +kernel
theorem dX2_isUnder_28 : decode cX2_isUnder 28 = .ok (.iinc 3 1, 3) := by decide +kernel
theorem dX2_isUnder_31 : decode cX2_isUnder 31 = .ok (.goto (-27), 3) := by decide +kernel
theorem dX2_isUnder_34 : decode cX2_isUnder 34 = .ok (.iconst 0, 1) := by decide +kernel
theorem dX2_isUnder_35 : decode cX2_isUnder 35 = .ok (.ireturn, 1) := by decide +kernel
theorem dX2_letDown_0 : decode cX2_letDown 0 = .ok (.iload_n 0, 1) := by decide +kernel
theorem dX2_letDown_1 : decode cX2_letDown 1 = .ok (.tableswitch 81 1 6 #[39, 43, 48, 52, 58, 67], 39) := by decide +kernel
theorem dX2_letDown_40 : decode cX2_letDown 40 = .ok (.iload_n 2, 1) := by decide +kernel
theorem dX2_letDown_41 : decode cX2_letDown 41 = .ok (.iconst 2, 1) := by decide +kernel
theorem dX2_letDown_42 : decode cX2_letDown 42 = .ok (.idiv, 1) := by decide +kernel
theorem dX2_letDown_43 : decode cX2_letDown 43 = .ok (.ireturn, 1) := by decide +kernel
theorem dX2_letDown_44 : decode cX2_letDown 44 = .ok (.iload_n 2, 1) := by decide +kernel
theorem dX2_letDown_45 : decode cX2_letDown 45 = .ok (.invokestatic 23, 3) := by decide +kernel
theorem dX2_letDown_48 : decode cX2_letDown 48 = .ok (.ireturn, 1) := by decide +kernel
theorem dX2_letDown_49 : decode cX2_letDown 49 = .ok (.iload_n 2, 1) := by decide +kernel
theorem dX2_letDown_50 : decode cX2_letDown 50 = .ok (.iconst 2, 1) := by decide +kernel
theorem dX2_letDown_51 : decode cX2_letDown 51 = .ok (.imul, 1) := by decide +kernel
theorem dX2_letDown_52 : decode cX2_letDown 52 = .ok (.ireturn, 1) := by decide +kernel
theorem dX2_letDown_53 : decode cX2_letDown 53 = .ok (.iload_n 2, 1) := by decide +kernel
theorem dX2_letDown_54 : decode cX2_letDown 54 = .ok (.iconst 2, 1) := by decide +kernel
theorem dX2_letDown_55 : decode cX2_letDown 55 = .ok (.idiv, 1) := by decide +kernel
theorem dX2_letDown_56 : decode cX2_letDown 56 = .ok (.iload_n 1, 1) := by decide +kernel
theorem dX2_letDown_57 : decode cX2_letDown 57 = .ok (.iadd, 1) := by decide +kernel
theorem dX2_letDown_58 : decode cX2_letDown 58 = .ok (.ireturn, 1) := by decide +kernel
theorem dX2_letDown_59 : decode cX2_letDown 59 = .ok (.iload_n 2, 1) := by decide +kernel
theorem dX2_letDown_60 : decode cX2_letDown 60 = .ok (.invokestatic 23, 3) := by decide +kernel
theorem dX2_letDown_63 : decode cX2_letDown 63 = .ok (.iconst 4, 1) := by decide +kernel
theorem dX2_letDown_64 : decode cX2_letDown 64 = .ok (.invokestatic 26, 3) := by decide +kernel
theorem dX2_letDown_67 : decode cX2_letDown 67 = .ok (.ireturn, 1) := by decide +kernel
theorem dX2_letDown_68 : decode cX2_letDown 68 = .ok (.iload_n 2, 1) := by decide +kernel
theorem dX2_letDown_69 : decode cX2_letDown 69 = .ok (.iconst 2, 1) := by decide +kernel
theorem dX2_letDown_70 : decode cX2_letDown 70 = .ok (.if_icmp .le 8, 3) := by decide +kernel
theorem dX2_letDown_73 : decode cX2_letDown 73 = .ok (.bipush 40, 2) := by decide +kernel
theorem dX2_letDown_75 : decode cX2_letDown 75 = .ok (.goto 6, 3) := by decide +kernel
theorem dX2_letDown_78 : decode cX2_letDown 78 = .ok (.iload_n 2, 1) := by decide +kernel
theorem dX2_letDown_79 : decode cX2_letDown 79 = .ok (.iconst 1, 1) := by decide +kernel
theorem dX2_letDown_80 : decode cX2_letDown 80 = .ok (.iadd, 1) := by decide +kernel
theorem dX2_letDown_81 : decode cX2_letDown 81 = .ok (.ireturn, 1) := by decide +kernel
theorem dX2_letDown_82 : decode cX2_letDown 82 = .ok (.iload_n 2, 1) := by decide +kernel
theorem dX2_letDown_83 : decode cX2_letDown 83 = .ok (.ireturn, 1) := by decide +kernel
theorem dX2_judged_0 : decode cX2_judged 0 = .ok (.iload_n 0, 1) := by decide +kernel
theorem dX2_judged_1 : decode cX2_judged 1 = .ok (.iconst 2, 1) := by decide +kernel
theorem dX2_judged_2 : decode cX2_judged 2 = .ok (.irem, 1) := by decide +kernel
theorem dX2_judged_3 : decode cX2_judged 3 = .ok (.ifCond .ne 7, 3) := by decide +kernel
theorem dX2_judged_6 : decode cX2_judged 6 = .ok (.iload_n 0, 1) := by decide +kernel
theorem dX2_judged_7 : decode cX2_judged 7 = .ok (.goto 6, 3) := by decide +kernel
theorem dX2_judged_10 : decode cX2_judged 10 = .ok (.iload_n 0, 1) := by decide +kernel
theorem dX2_judged_11 : decode cX2_judged 11 = .ok (.iconst 3, 1) := by decide +kernel
theorem dX2_judged_12 : decode cX2_judged 12 = .ok (.idiv, 1) := by decide +kernel
theorem dX2_judged_13 : decode cX2_judged 13 = .ok (.ireturn, 1) := by decide +kernel
theorem dX2_lookThrough_0 : decode cX2_lookThrough 0 = .ok (.iload_n 0, 1) := by decide +kernel
theorem dX2_lookThrough_1 : decode cX2_lookThrough 1 = .ok (.tableswitch 69 1 6 #[39, 43, 45, 47, 53, 67], 39) := by decide +kernel
theorem dX2_lookThrough_40 : decode cX2_lookThrough 40 = .ok (.iconst 2, 1) := by decide +kernel
theorem dX2_lookThrough_41 : decode cX2_lookThrough 41 = .ok (.iload_n 2, 1) := by decide +kernel
theorem dX2_lookThrough_42 : decode cX2_lookThrough 42 = .ok (.iadd, 1) := by decide +kernel
theorem dX2_lookThrough_43 : decode cX2_lookThrough 43 = .ok (.ireturn, 1) := by decide +kernel
theorem dX2_lookThrough_44 : decode cX2_lookThrough 44 = .ok (.iconst 5, 1) := by decide +kernel
theorem dX2_lookThrough_45 : decode cX2_lookThrough 45 = .ok (.ireturn, 1) := by decide +kernel
theorem dX2_lookThrough_46 : decode cX2_lookThrough 46 = .ok (.iconst 1, 1) := by decide +kernel
theorem dX2_lookThrough_47 : decode cX2_lookThrough 47 = .ok (.ireturn, 1) := by decide +kernel
theorem dX2_lookThrough_48 : decode cX2_lookThrough 48 = .ok (.iconst 2, 1) := by decide +kernel
theorem dX2_lookThrough_49 : decode cX2_lookThrough 49 = .ok (.iload_n 2, 1) := by decide +kernel
theorem dX2_lookThrough_50 : decode cX2_lookThrough 50 = .ok (.iadd, 1) := by decide +kernel
theorem dX2_lookThrough_51 : decode cX2_lookThrough 51 = .ok (.iload_n 1, 1) := by decide +kernel
theorem dX2_lookThrough_52 : decode cX2_lookThrough 52 = .ok (.iadd, 1) := by decide +kernel
theorem dX2_lookThrough_53 : decode cX2_lookThrough 53 = .ok (.ireturn, 1) := by decide +kernel
theorem dX2_lookThrough_54 : decode cX2_lookThrough 54 = .ok (.iconst 5, 1) := by decide +kernel
theorem dX2_lookThrough_55 : decode cX2_lookThrough 55 = .ok (.iload_n 3, 1) := by decide +kernel
theorem dX2_lookThrough_56 : decode cX2_lookThrough 56 = .ok (.iconst 2, 1) := by decide +kernel
theorem dX2_lookThrough_57 : decode cX2_lookThrough 57 = .ok (.irem, 1) := by decide +kernel
theorem dX2_lookThrough_58 : decode cX2_lookThrough 58 = .ok (.ifCond .ne 7, 3) := by decide +kernel
theorem dX2_lookThrough_61 : decode cX2_lookThrough 61 = .ok (.iload_n 1, 1) := by decide +kernel
theorem dX2_lookThrough_62 : decode cX2_lookThrough 62 = .ok (.goto 4, 3) := by decide +kernel
theorem dX2_lookThrough_65 : decode cX2_lookThrough 65 = .ok (.iconst 0, 1) := by decide +kernel
theorem dX2_lookThrough_66 : decode cX2_lookThrough 66 = .ok (.iadd, 1) := by decide +kernel
theorem dX2_lookThrough_67 : decode cX2_lookThrough 67 = .ok (.ireturn, 1) := by decide +kernel
theorem dX2_lookThrough_68 : decode cX2_lookThrough 68 = .ok (.iload_n 1, 1) := by decide +kernel
theorem dX2_lookThrough_69 : decode cX2_lookThrough 69 = .ok (.ireturn, 1) := by decide +kernel
theorem dX2_lookThrough_70 : decode cX2_lookThrough 70 = .ok (.iconst 2, 1) := by decide +kernel
theorem dX2_lookThrough_71 : decode cX2_lookThrough 71 = .ok (.ireturn, 1) := by decide +kernel
theorem dX3_init_0 : decode cX3_init 0 = .ok (.aload_n 0, 1) := by decide +kernel
theorem dX3_init_1 : decode cX3_init 1 = .ok (.invokespecial 3, 3) := by decide +kernel
theorem dX3_init_4 : decode cX3_init 4 = .ok (.aload_n 0, 1) := by decide +kernel
theorem dX3_init_5 : decode cX3_init 5 = .ok (.aload_n 1, 1) := by decide +kernel
theorem dX3_init_6 : decode cX3_init 6 = .ok (.putfield 9, 3) := by decide +kernel
theorem dX3_init_9 : decode cX3_init 9 = .ok (.aload_n 0, 1) := by decide +kernel
theorem dX3_init_10 : decode cX3_init 10 = .ok (.new 15, 3) := by decide +kernel
theorem dX3_init_13 : decode cX3_init 13 = .ok (.dup, 1) := by decide +kernel
theorem dX3_init_14 : decode cX3_init 14 = .ok (.bipush 60, 2) := by decide +kernel
theorem dX3_init_16 : decode cX3_init 16 = .ok (.invokespecial 17, 3) := by decide +kernel
theorem dX3_init_19 : decode cX3_init 19 = .ok (.putfield 20, 3) := by decide +kernel
theorem dX3_init_22 : decode cX3_init 22 = .ok (.aload_n 0, 1) := by decide +kernel
theorem dX3_init_23 : decode cX3_init 23 = .ok (.ldc 23, 2) := by decide +kernel
theorem dX3_init_25 : decode cX3_init 25 = .ok (.putfield 25, 3) := by decide +kernel
theorem dX3_init_28 : decode cX3_init 28 = .ok (.aload_n 0, 1) := by decide +kernel
theorem dX3_init_29 : decode cX3_init 29 = .ok (.iconst 0, 1) := by decide +kernel
theorem dX3_init_30 : decode cX3_init 30 = .ok (.putfield 29, 3) := by decide +kernel
theorem dX3_init_33 : decode cX3_init 33 = .ok (.return_, 1) := by decide +kernel
theorem dX3_faultFor_0 : decode cX3_faultFor 0 = .ok (.aload_n 0, 1) := by decide +kernel
theorem dX3_faultFor_1 : decode cX3_faultFor 1 = .ok (.iload_n 1, 1) := by decide +kernel
theorem dX3_faultFor_2 : decode cX3_faultFor 2 = .ok (.ifCond .ne 8, 3) := by decide +kernel
theorem dX3_faultFor_5 : decode cX3_faultFor 5 = .ok (.ldc 23, 2) := by decide +kernel
theorem dX3_faultFor_7 : decode cX3_faultFor 7 = .ok (.goto 5, 3) := by decide +kernel
theorem dX3_faultFor_10 : decode cX3_faultFor 10 = .ok (.ldc 33, 2) := by decide +kernel
theorem dX3_faultFor_12 : decode cX3_faultFor 12 = .ok (.putfield 25, 3) := by decide +kernel
theorem dX3_faultFor_15 : decode cX3_faultFor 15 = .ok (.aload_n 0, 1) := by decide +kernel
theorem dX3_faultFor_16 : decode cX3_faultFor 16 = .ok (.iconst 0, 1) := by decide +kernel
theorem dX3_faultFor_17 : decode cX3_faultFor 17 = .ok (.putfield 29, 3) := by decide +kernel
theorem dX3_faultFor_20 : decode cX3_faultFor 20 = .ok (.aload_n 0, 1) := by decide +kernel
theorem dX3_faultFor_21 : decode cX3_faultFor 21 = .ok (.getfield 20, 3) := by decide +kernel
theorem dX3_faultFor_24 : decode cX3_faultFor 24 = .ok (.invokevirtual 35, 3) := by decide +kernel
theorem dX3_faultFor_27 : decode cX3_faultFor 27 = .ok (.aload_n 0, 1) := by decide +kernel
theorem dX3_faultFor_28 : decode cX3_faultFor 28 = .ok (.iconst 0, 1) := by decide +kernel
theorem dX3_faultFor_29 : decode cX3_faultFor 29 = .ok (.iconst 0, 1) := by decide +kernel
theorem dX3_faultFor_30 : decode cX3_faultFor 30 = .ok (.invokevirtual 38, 3) := by decide +kernel
theorem dX3_faultFor_33 : decode cX3_faultFor 33 = .ok (.ifCond .eq 21, 3) := by decide +kernel
theorem dX3_faultFor_36 : decode cX3_faultFor 36 = .ok (.aload_n 0, 1) := by decide +kernel
theorem dX3_faultFor_37 : decode cX3_faultFor 37 = .ok (.getfield 29, 3) := by decide +kernel
theorem dX3_faultFor_40 : decode cX3_faultFor 40 = .ok (.aload_n 0, 1) := by decide +kernel
theorem dX3_faultFor_41 : decode cX3_faultFor 41 = .ok (.getfield 9, 3) := by decide +kernel
theorem dX3_faultFor_44 : decode cX3_faultFor 44 = .ok (.invokevirtual 42, 3) := by decide +kernel
theorem dX3_faultFor_47 : decode cX3_faultFor 47 = .ok (.if_icmp .ne 7, 3) := by decide +kernel
theorem dX3_faultFor_50 : decode cX3_faultFor 50 = .ok (.iconst 1, 1) := by decide +kernel
theorem dX3_faultFor_51 : decode cX3_faultFor 51 = .ok (.goto 4, 3) := by decide +kernel
theorem dX3_faultFor_54 : decode cX3_faultFor 54 = .ok (.iconst 0, 1) := by decide +kernel
theorem dX3_faultFor_55 : decode cX3_faultFor 55 = .ok (.istore_n 2, 1) := by decide +kernel
theorem dX3_faultFor_56 : decode cX3_faultFor 56 = .ok (.iload_n 2, 1) := by decide +kernel
theorem dX3_faultFor_57 : decode cX3_faultFor 57 = .ok (.ifCond .eq 7, 3) := by decide +kernel
theorem dX3_faultFor_60 : decode cX3_faultFor 60 = .ok (.iconst (-1), 1) := by decide +kernel
theorem dX3_faultFor_61 : decode cX3_faultFor 61 = .ok (.goto 7, 3) := by decide +kernel
theorem dX3_faultFor_64 : decode cX3_faultFor 64 = .ok (.aload_n 0, 1) := by decide +kernel
theorem dX3_faultFor_65 : decode cX3_faultFor 65 = .ok (.getfield 29, 3) := by decide +kernel
theorem dX3_faultFor_68 : decode cX3_faultFor 68 = .ok (.ireturn, 1) := by decide +kernel
theorem dX3_readsLevel_0 : decode cX3_readsLevel 0 = .ok (.iload_n 2, 1) := by decide +kernel
theorem dX3_readsLevel_1 : decode cX3_readsLevel 1 = .ok (.iconst 5, 1) := by decide +kernel
theorem dX3_readsLevel_2 : decode cX3_readsLevel 2 = .ok (.if_icmp .le 5, 3) := by decide +kernel
theorem dX3_readsLevel_5 : decode cX3_readsLevel 5 = .ok (.iconst 0, 1) := by decide +kernel
theorem dX3_readsLevel_6 : decode cX3_readsLevel 6 = .ok (.ireturn, 1) := by decide +kernel
theorem dX3_readsLevel_7 : decode cX3_readsLevel 7 = .ok (.iload_n 1, 1) := by decide +kernel
theorem dX3_readsLevel_8 : decode cX3_readsLevel 8 = .ok (.iconst 5, 1) := by decide +kernel
theorem dX3_readsLevel_9 : decode cX3_readsLevel 9 = .ok (.if_icmp .lt 9, 3) := by decide +kernel
theorem dX3_readsLevel_12 : decode cX3_readsLevel 12 = .ok (.aload_n 0, 1) := by decide +kernel
theorem dX3_readsLevel_13 : decode cX3_readsLevel 13 = .ok (.iload_n 2, 1) := by decide +kernel
theorem dX3_readsLevel_14 : decode cX3_readsLevel 14 = .ok (.invokevirtual 46, 3) := by decide +kernel
theorem dX3_readsLevel_17 : decode cX3_readsLevel 17 = .ok (.ireturn, 1) := by decide +kernel
theorem dX3_readsLevel_18 : decode cX3_readsLevel 18 = .ok (.aload_n 0, 1) := by decide +kernel
theorem dX3_readsLevel_19 : decode cX3_readsLevel 19 = .ok (.iload_n 1, 1) := by decide +kernel
theorem dX3_readsLevel_20 : decode cX3_readsLevel 20 = .ok (.iconst 1, 1) := by decide +kernel
theorem dX3_readsLevel_21 : decode cX3_readsLevel 21 = .ok (.iadd, 1) := by decide +kernel
theorem dX3_readsLevel_22 : decode cX3_readsLevel 22 = .ok (.iload_n 2, 1) := by decide +kernel
theorem dX3_readsLevel_23 : decode cX3_readsLevel 23 = .ok (.invokevirtual 38, 3) := by decide +kernel
theorem dX3_readsLevel_26 : decode cX3_readsLevel 26 = .ok (.ifCond .ne 5, 3) := by decide +kernel
theorem dX3_readsLevel_29 : decode cX3_readsLevel 29 = .ok (.iconst 0, 1) := by decide +kernel
theorem dX3_readsLevel_30 : decode cX3_readsLevel 30 = .ok (.ireturn, 1) := by decide +kernel
theorem dX3_readsLevel_31 : decode cX3_readsLevel 31 = .ok (.aload_n 0, 1) := by decide +kernel
theorem dX3_readsLevel_32 : decode cX3_readsLevel 32 = .ok (.getfield 29, 3) := by decide +kernel
theorem dX3_readsLevel_35 : decode cX3_readsLevel 35 = .ok (.aload_n 0, 1) := by decide +kernel
theorem dX3_readsLevel_36 : decode cX3_readsLevel 36 = .ok (.getfield 9, 3) := by decide +kernel
theorem dX3_readsLevel_39 : decode cX3_readsLevel 39 = .ok (.invokevirtual 42, 3) := by decide +kernel
theorem dX3_readsLevel_42 : decode cX3_readsLevel 42 = .ok (.if_icmp .ge 78, 3) := by decide +kernel
theorem dX3_readsLevel_45 : decode cX3_readsLevel 45 = .ok (.aload_n 0, 1) := by decide +kernel
theorem dX3_readsLevel_46 : decode cX3_readsLevel 46 = .ok (.getfield 9, 3) := by decide +kernel
theorem dX3_readsLevel_49 : decode cX3_readsLevel 49 = .ok (.aload_n 0, 1) := by decide +kernel
theorem dX3_readsLevel_50 : decode cX3_readsLevel 50 = .ok (.getfield 29, 3) := by decide +kernel
theorem dX3_readsLevel_53 : decode cX3_readsLevel 53 = .ok (.invokevirtual 50, 3) := by decide +kernel
theorem dX3_readsLevel_56 : decode cX3_readsLevel 56 = .ok (.invokestatic 53, 3) := by decide +kernel
theorem dX3_readsLevel_59 : decode cX3_readsLevel 59 = .ok (.iload_n 1, 1) := by decide +kernel
theorem dX3_readsLevel_60 : decode cX3_readsLevel 60 = .ok (.if_icmp .ne 60, 3) := by decide +kernel
theorem dX3_readsLevel_63 : decode cX3_readsLevel 63 = .ok (.aload_n 0, 1) := by decide +kernel
theorem dX3_readsLevel_64 : decode cX3_readsLevel 64 = .ok (.getfield 9, 3) := by decide +kernel
theorem dX3_readsLevel_67 : decode cX3_readsLevel 67 = .ok (.aload_n 0, 1) := by decide +kernel
theorem dX3_readsLevel_68 : decode cX3_readsLevel 68 = .ok (.getfield 29, 3) := by decide +kernel
theorem dX3_readsLevel_71 : decode cX3_readsLevel 71 = .ok (.invokevirtual 50, 3) := by decide +kernel
theorem dX3_readsLevel_74 : decode cX3_readsLevel 74 = .ok (.istore_n 3, 1) := by decide +kernel
theorem dX3_readsLevel_75 : decode cX3_readsLevel 75 = .ok (.aload_n 0, 1) := by decide +kernel
theorem dX3_readsLevel_76 : decode cX3_readsLevel 76 = .ok (.dup, 1) := by decide +kernel
theorem dX3_readsLevel_77 : decode cX3_readsLevel 77 = .ok (.getfield 29, 3) := by decide +kernel
theorem dX3_readsLevel_80 : decode cX3_readsLevel 80 = .ok (.iconst 1, 1) := by decide +kernel
theorem dX3_readsLevel_81 : decode cX3_readsLevel 81 = .ok (.iadd, 1) := by decide +kernel
theorem dX3_readsLevel_82 : decode cX3_readsLevel 82 = .ok (.putfield 29, 3) := by decide +kernel
theorem dX3_readsLevel_85 : decode cX3_readsLevel 85 = .ok (.aload_n 0, 1) := by decide +kernel
theorem dX3_readsLevel_86 : decode cX3_readsLevel 86 = .ok (.iload_n 1, 1) := by decide +kernel
theorem dX3_readsLevel_87 : decode cX3_readsLevel 87 = .ok (.iconst 1, 1) := by decide +kernel
theorem dX3_readsLevel_88 : decode cX3_readsLevel 88 = .ok (.iadd, 1) := by decide +kernel
theorem dX3_readsLevel_89 : decode cX3_readsLevel 89 = .ok (.iload_n 2, 1) := by decide +kernel
theorem dX3_readsLevel_90 : decode cX3_readsLevel 90 = .ok (.invokevirtual 38, 3) := by decide +kernel
theorem dX3_readsLevel_93 : decode cX3_readsLevel 93 = .ok (.ifCond .ne 5, 3) := by decide +kernel
theorem dX3_readsLevel_96 : decode cX3_readsLevel 96 = .ok (.iconst 0, 1) := by decide +kernel
theorem dX3_readsLevel_97 : decode cX3_readsLevel 97 = .ok (.ireturn, 1) := by decide +kernel
theorem dX3_readsLevel_98 : decode cX3_readsLevel 98 = .ok (.aload_n 0, 1) := by decide +kernel
theorem dX3_readsLevel_99 : decode cX3_readsLevel 99 = .ok (.getfield 20, 3) := by decide +kernel
theorem dX3_readsLevel_102 : decode cX3_readsLevel 102 = .ok (.sipush 10000, 3) := by decide +kernel
theorem dX3_readsLevel_105 : decode cX3_readsLevel 105 = .ok (.iload_n 3, 1) := by decide +kernel
theorem dX3_readsLevel_106 : decode cX3_readsLevel 106 = .ok (.iadd, 1) := by decide +kernel
theorem dX3_readsLevel_107 : decode cX3_readsLevel 107 = .ok (.invokevirtual 58, 3) := by decide +kernel
theorem dX3_readsLevel_110 : decode cX3_readsLevel 110 = .ok (.iload_n 1, 1) := by decide +kernel
theorem dX3_readsLevel_111 : decode cX3_readsLevel 111 = .ok (.iconst 2, 1) := by decide +kernel
theorem dX3_readsLevel_112 : decode cX3_readsLevel 112 = .ok (.if_icmp .ne 5, 3) := by decide +kernel
theorem dX3_readsLevel_115 : decode cX3_readsLevel 115 = .ok (.iconst 1, 1) := by decide +kernel
theorem dX3_readsLevel_116 : decode cX3_readsLevel 116 = .ok (.ireturn, 1) := by decide +kernel
theorem dX3_readsLevel_117 : decode cX3_readsLevel 117 = .ok (.goto (-86), 3) := by decide +kernel
theorem dX3_readsLevel_120 : decode cX3_readsLevel 120 = .ok (.iconst 1, 1) := by decide +kernel
theorem dX3_readsLevel_121 : decode cX3_readsLevel 121 = .ok (.ireturn, 1) := by decide +kernel
theorem dX3_readsUnit_0 : decode cX3_readsUnit 0 = .ok (.aload_n 0, 1) := by decide +kernel
theorem dX3_readsUnit_1 : decode cX3_readsUnit 1 = .ok (.getfield 9, 3) := by decide +kernel
theorem dX3_readsUnit_4 : decode cX3_readsUnit 4 = .ok (.aload_n 0, 1) := by decide +kernel
theorem dX3_readsUnit_5 : decode cX3_readsUnit 5 = .ok (.getfield 29, 3) := by decide +kernel
theorem dX3_readsUnit_8 : decode cX3_readsUnit 8 = .ok (.invokevirtual 50, 3) := by decide +kernel
theorem dX3_readsUnit_11 : decode cX3_readsUnit 11 = .ok (.istore_n 2, 1) := by decide +kernel
theorem dX3_readsUnit_12 : decode cX3_readsUnit 12 = .ok (.iload_n 2, 1) := by decide +kernel
theorem dX3_readsUnit_13 : decode cX3_readsUnit 13 = .ok (.invokestatic 61, 3) := by decide +kernel
theorem dX3_readsUnit_16 : decode cX3_readsUnit 16 = .ok (.ifCond .eq 9, 3) := by decide +kernel
theorem dX3_readsUnit_19 : decode cX3_readsUnit 19 = .ok (.aload_n 0, 1) := by decide +kernel
theorem dX3_readsUnit_20 : decode cX3_readsUnit 20 = .ok (.invokevirtual 64, 3) := by decide +kernel
theorem dX3_readsUnit_23 : decode cX3_readsUnit 23 = .ok (.iconst 1, 1) := by decide +kernel
theorem dX3_readsUnit_24 : decode cX3_readsUnit 24 = .ok (.ireturn, 1) := by decide +kernel
theorem dX3_readsUnit_25 : decode cX3_readsUnit 25 = .ok (.aload_n 0, 1) := by decide +kernel
theorem dX3_readsUnit_26 : decode cX3_readsUnit 26 = .ok (.getfield 25, 3) := by decide +kernel
theorem dX3_readsUnit_29 : decode cX3_readsUnit 29 = .ok (.iload_n 2, 1) := by decide +kernel
theorem dX3_readsUnit_30 : decode cX3_readsUnit 30 = .ok (.i2c, 1) := by decide +kernel
theorem dX3_readsUnit_31 : decode cX3_readsUnit 31 = .ok (.invokevirtual 67, 3) := by decide +kernel
theorem dX3_readsUnit_34 : decode cX3_readsUnit 34 = .ok (.istore_n 3, 1) := by decide +kernel
theorem dX3_readsUnit_35 : decode cX3_readsUnit 35 = .ok (.iload_n 3, 1) := by decide +kernel
theorem dX3_readsUnit_36 : decode cX3_readsUnit 36 = .ok (.ifCond .lt 25, 3) := by decide +kernel
theorem dX3_readsUnit_39 : decode cX3_readsUnit 39 = .ok (.aload_n 0, 1) := by decide +kernel
theorem dX3_readsUnit_40 : decode cX3_readsUnit 40 = .ok (.dup, 1) := by decide +kernel
theorem dX3_readsUnit_41 : decode cX3_readsUnit 41 = .ok (.getfield 29, 3) := by decide +kernel
theorem dX3_readsUnit_44 : decode cX3_readsUnit 44 = .ok (.iconst 1, 1) := by decide +kernel
theorem dX3_readsUnit_45 : decode cX3_readsUnit 45 = .ok (.iadd, 1) := by decide +kernel
theorem dX3_readsUnit_46 : decode cX3_readsUnit 46 = .ok (.putfield 29, 3) := by decide +kernel
theorem dX3_readsUnit_49 : decode cX3_readsUnit 49 = .ok (.aload_n 0, 1) := by decide +kernel
theorem dX3_readsUnit_50 : decode cX3_readsUnit 50 = .ok (.getfield 20, 3) := by decide +kernel
theorem dX3_readsUnit_53 : decode cX3_readsUnit 53 = .ok (.iconst (-1), 1) := by decide +kernel
theorem dX3_readsUnit_54 : decode cX3_readsUnit 54 = .ok (.iload_n 3, 1) := by decide +kernel
theorem dX3_readsUnit_55 : decode cX3_readsUnit 55 = .ok (.isub, 1) := by decide +kernel
theorem dX3_readsUnit_56 : decode cX3_readsUnit 56 = .ok (.invokevirtual 58, 3) := by decide +kernel
theorem dX3_readsUnit_59 : decode cX3_readsUnit 59 = .ok (.iconst 1, 1) := by decide +kernel
theorem dX3_readsUnit_60 : decode cX3_readsUnit 60 = .ok (.ireturn, 1) := by decide +kernel
theorem dX3_readsUnit_61 : decode cX3_readsUnit 61 = .ok (.iload_n 1, 1) := by decide +kernel
theorem dX3_readsUnit_62 : decode cX3_readsUnit 62 = .ok (.iconst 5, 1) := by decide +kernel
theorem dX3_readsUnit_63 : decode cX3_readsUnit 63 = .ok (.if_icmp .ge 15, 3) := by decide +kernel
theorem dX3_readsUnit_66 : decode cX3_readsUnit 66 = .ok (.iload_n 2, 1) := by decide +kernel
theorem dX3_readsUnit_67 : decode cX3_readsUnit 67 = .ok (.bipush 33, 2) := by decide +kernel
theorem dX3_readsUnit_69 : decode cX3_readsUnit 69 = .ok (.if_icmp .eq 11, 3) := by decide +kernel
theorem dX3_readsUnit_72 : decode cX3_readsUnit 72 = .ok (.iload_n 2, 1) := by decide +kernel
theorem dX3_readsUnit_73 : decode cX3_readsUnit 73 = .ok (.bipush 40, 2) := by decide +kernel
theorem dX3_readsUnit_75 : decode cX3_readsUnit 75 = .ok (.if_icmp .eq 5, 3) := by decide +kernel
theorem dX3_readsUnit_78 : decode cX3_readsUnit 78 = .ok (.iconst 0, 1) := by decide +kernel
theorem dX3_readsUnit_79 : decode cX3_readsUnit 79 = .ok (.ireturn, 1) := by decide +kernel
theorem dX3_readsUnit_80 : decode cX3_readsUnit 80 = .ok (.aload_n 0, 1) := by decide +kernel
theorem dX3_readsUnit_81 : decode cX3_readsUnit 81 = .ok (.dup, 1) := by decide +kernel
theorem dX3_readsUnit_82 : decode cX3_readsUnit 82 = .ok (.getfield 29, 3) := by decide +kernel
theorem dX3_readsUnit_85 : decode cX3_readsUnit 85 = .ok (.iconst 1, 1) := by decide +kernel
theorem dX3_readsUnit_86 : decode cX3_readsUnit 86 = .ok (.iadd, 1) := by decide +kernel
theorem dX3_readsUnit_87 : decode cX3_readsUnit 87 = .ok (.putfield 29, 3) := by decide +kernel
theorem dX3_readsUnit_90 : decode cX3_readsUnit 90 = .ok (.iload_n 2, 1) := by decide +kernel
theorem dX3_readsUnit_91 : decode cX3_readsUnit 91 = .ok (.bipush 33, 2) := by decide +kernel
theorem dX3_readsUnit_93 : decode cX3_readsUnit 93 = .ok (.if_icmp .ne 13, 3) := by decide +kernel
theorem dX3_readsUnit_96 : decode cX3_readsUnit 96 = .ok (.aload_n 0, 1) := by decide +kernel
theorem dX3_readsUnit_97 : decode cX3_readsUnit 97 = .ok (.iload_n 1, 1) := by decide +kernel
theorem dX3_readsUnit_98 : decode cX3_readsUnit 98 = .ok (.iconst 1, 1) := by decide +kernel
theorem dX3_readsUnit_99 : decode cX3_readsUnit 99 = .ok (.iadd, 1) := by decide +kernel
theorem dX3_readsUnit_100 : decode cX3_readsUnit 100 = .ok (.invokevirtual 72, 3) := by decide +kernel
theorem dX3_readsUnit_103 : decode cX3_readsUnit 103 = .ok (.goto 10, 3) := by decide +kernel
theorem dX3_readsUnit_106 : decode cX3_readsUnit 106 = .ok (.aload_n 0, 1) := by decide +kernel
theorem dX3_readsUnit_107 : decode cX3_readsUnit 107 = .ok (.iload_n 1, 1) := by decide +kernel
theorem dX3_readsUnit_108 : decode cX3_readsUnit 108 = .ok (.iconst 1, 1) := by decide +kernel
theorem dX3_readsUnit_109 : decode cX3_readsUnit 109 = .ok (.iadd, 1) := by decide +kernel
theorem dX3_readsUnit_110 : decode cX3_readsUnit 110 = .ok (.invokevirtual 75, 3) := by decide +kernel
theorem dX3_readsUnit_113 : decode cX3_readsUnit 113 = .ok (.ireturn, 1) := by decide +kernel
theorem dX3_readsDenied_0 : decode cX3_readsDenied 0 = .ok (.aload_n 0, 1) := by decide +kernel
theorem dX3_readsDenied_1 : decode cX3_readsDenied 1 = .ok (.iload_n 1, 1) := by decide +kernel
theorem dX3_readsDenied_2 : decode cX3_readsDenied 2 = .ok (.invokevirtual 46, 3) := by decide +kernel
theorem dX3_readsDenied_5 : decode cX3_readsDenied 5 = .ok (.ifCond .ne 5, 3) := by decide +kernel
theorem dX3_readsDenied_8 : decode cX3_readsDenied 8 = .ok (.iconst 0, 1) := by decide +kernel
theorem dX3_readsDenied_9 : decode cX3_readsDenied 9 = .ok (.ireturn, 1) := by decide +kernel
theorem dX3_readsDenied_10 : decode cX3_readsDenied 10 = .ok (.aload_n 0, 1) := by decide +kernel
theorem dX3_readsDenied_11 : decode cX3_readsDenied 11 = .ok (.getfield 20, 3) := by decide +kernel
theorem dX3_readsDenied_14 : decode cX3_readsDenied 14 = .ok (.sipush 10033, 3) := by decide +kernel
theorem dX3_readsDenied_17 : decode cX3_readsDenied 17 = .ok (.invokevirtual 58, 3) := by decide +kernel
theorem dX3_readsDenied_20 : decode cX3_readsDenied 20 = .ok (.iconst 1, 1) := by decide +kernel
theorem dX3_readsDenied_21 : decode cX3_readsDenied 21 = .ok (.ireturn, 1) := by decide +kernel
theorem dX3_readsClosed_0 : decode cX3_readsClosed 0 = .ok (.aload_n 0, 1) := by decide +kernel
theorem dX3_readsClosed_1 : decode cX3_readsClosed 1 = .ok (.iconst 0, 1) := by decide +kernel
theorem dX3_readsClosed_2 : decode cX3_readsClosed 2 = .ok (.iload_n 1, 1) := by decide +kernel
theorem dX3_readsClosed_3 : decode cX3_readsClosed 3 = .ok (.invokevirtual 38, 3) := by decide +kernel
theorem dX3_readsClosed_6 : decode cX3_readsClosed 6 = .ok (.ifCond .eq 19, 3) := by decide +kernel
theorem dX3_readsClosed_9 : decode cX3_readsClosed 9 = .ok (.aload_n 0, 1) := by decide +kernel
theorem dX3_readsClosed_10 : decode cX3_readsClosed 10 = .ok (.getfield 9, 3) := by decide +kernel
theorem dX3_readsClosed_13 : decode cX3_readsClosed 13 = .ok (.aload_n 0, 1) := by decide +kernel
theorem dX3_readsClosed_14 : decode cX3_readsClosed 14 = .ok (.getfield 29, 3) := by decide +kernel
theorem dX3_readsClosed_17 : decode cX3_readsClosed 17 = .ok (.invokevirtual 50, 3) := by decide +kernel
theorem dX3_readsClosed_20 : decode cX3_readsClosed 20 = .ok (.bipush 41, 2) := by decide +kernel
theorem dX3_readsClosed_22 : decode cX3_readsClosed 22 = .ok (.if_icmp .eq 5, 3) := by decide +kernel
theorem dX3_readsClosed_25 : decode cX3_readsClosed 25 = .ok (.iconst 0, 1) := by decide +kernel
theorem dX3_readsClosed_26 : decode cX3_readsClosed 26 = .ok (.ireturn, 1) := by decide +kernel
theorem dX3_readsClosed_27 : decode cX3_readsClosed 27 = .ok (.aload_n 0, 1) := by decide +kernel
theorem dX3_readsClosed_28 : decode cX3_readsClosed 28 = .ok (.dup, 1) := by decide +kernel
theorem dX3_readsClosed_29 : decode cX3_readsClosed 29 = .ok (.getfield 29, 3) := by decide +kernel
theorem dX3_readsClosed_32 : decode cX3_readsClosed 32 = .ok (.iconst 1, 1) := by decide +kernel
theorem dX3_readsClosed_33 : decode cX3_readsClosed 33 = .ok (.iadd, 1) := by decide +kernel
theorem dX3_readsClosed_34 : decode cX3_readsClosed 34 = .ok (.putfield 29, 3) := by decide +kernel
theorem dX3_readsClosed_37 : decode cX3_readsClosed 37 = .ok (.iconst 1, 1) := by decide +kernel
theorem dX3_readsClosed_38 : decode cX3_readsClosed 38 = .ok (.ireturn, 1) := by decide +kernel
theorem dX3_readNumber_0 : decode cX3_readNumber 0 = .ok (.iconst 0, 1) := by decide +kernel
theorem dX3_readNumber_1 : decode cX3_readNumber 1 = .ok (.istore_n 1, 1) := by decide +kernel
theorem dX3_readNumber_2 : decode cX3_readNumber 2 = .ok (.iconst 0, 1) := by decide +kernel
theorem dX3_readNumber_3 : decode cX3_readNumber 3 = .ok (.istore_n 2, 1) := by decide +kernel
theorem dX3_readNumber_4 : decode cX3_readNumber 4 = .ok (.iload_n 2, 1) := by decide +kernel
theorem dX3_readNumber_5 : decode cX3_readNumber 5 = .ok (.iconst 4, 1) := by decide +kernel
theorem dX3_readNumber_6 : decode cX3_readNumber 6 = .ok (.if_icmp .ge 56, 3) := by decide +kernel
theorem dX3_readNumber_9 : decode cX3_readNumber 9 = .ok (.aload_n 0, 1) := by decide +kernel
theorem dX3_readNumber_10 : decode cX3_readNumber 10 = .ok (.getfield 9, 3) := by decide +kernel
theorem dX3_readNumber_13 : decode cX3_readNumber 13 = .ok (.aload_n 0, 1) := by decide +kernel
theorem dX3_readNumber_14 : decode cX3_readNumber 14 = .ok (.getfield 29, 3) := by decide +kernel
theorem dX3_readNumber_17 : decode cX3_readNumber 17 = .ok (.invokevirtual 50, 3) := by decide +kernel
theorem dX3_readNumber_20 : decode cX3_readNumber 20 = .ok (.invokestatic 61, 3) := by decide +kernel
theorem dX3_readNumber_23 : decode cX3_readNumber 23 = .ok (.ifCond .eq 39, 3) := by decide +kernel
theorem dX3_readNumber_26 : decode cX3_readNumber 26 = .ok (.iload_n 1, 1) := by decide +kernel
theorem dX3_readNumber_27 : decode cX3_readNumber 27 = .ok (.bipush 10, 2) := by decide +kernel
theorem dX3_readNumber_29 : decode cX3_readNumber 29 = .ok (.imul, 1) := by decide +kernel
theorem dX3_readNumber_30 : decode cX3_readNumber 30 = .ok (.aload_n 0, 1) := by decide +kernel
theorem dX3_readNumber_31 : decode cX3_readNumber 31 = .ok (.getfield 9, 3) := by decide +kernel
theorem dX3_readNumber_34 : decode cX3_readNumber 34 = .ok (.aload_n 0, 1) := by decide +kernel
theorem dX3_readNumber_35 : decode cX3_readNumber 35 = .ok (.getfield 29, 3) := by decide +kernel
theorem dX3_readNumber_38 : decode cX3_readNumber 38 = .ok (.invokevirtual 50, 3) := by decide +kernel
theorem dX3_readNumber_41 : decode cX3_readNumber 41 = .ok (.bipush 48, 2) := by decide +kernel
theorem dX3_readNumber_43 : decode cX3_readNumber 43 = .ok (.isub, 1) := by decide +kernel
theorem dX3_readNumber_44 : decode cX3_readNumber 44 = .ok (.iadd, 1) := by decide +kernel
theorem dX3_readNumber_45 : decode cX3_readNumber 45 = .ok (.istore_n 1, 1) := by decide +kernel
theorem dX3_readNumber_46 : decode cX3_readNumber 46 = .ok (.aload_n 0, 1) := by decide +kernel
theorem dX3_readNumber_47 : decode cX3_readNumber 47 = .ok (.dup, 1) := by decide +kernel
theorem dX3_readNumber_48 : decode cX3_readNumber 48 = .ok (.getfield 29, 3) := by decide +kernel
theorem dX3_readNumber_51 : decode cX3_readNumber 51 = .ok (.iconst 1, 1) := by decide +kernel
theorem dX3_readNumber_52 : decode cX3_readNumber 52 = .ok (.iadd, 1) := by decide +kernel
theorem dX3_readNumber_53 : decode cX3_readNumber 53 = .ok (.putfield 29, 3) := by decide +kernel
theorem dX3_readNumber_56 : decode cX3_readNumber 56 = .ok (.iinc 2 1, 3) := by decide +kernel
theorem dX3_readNumber_59 : decode cX3_readNumber 59 = .ok (.goto (-55), 3) := by decide +kernel
theorem dX3_readNumber_62 : decode cX3_readNumber 62 = .ok (.aload_n 0, 1) := by decide +kernel
theorem dX3_readNumber_63 : decode cX3_readNumber 63 = .ok (.getfield 20, 3) := by decide +kernel
theorem dX3_readNumber_66 : decode cX3_readNumber 66 = .ok (.iload_n 1, 1) := by decide +kernel
theorem dX3_readNumber_67 : decode cX3_readNumber 67 = .ok (.invokevirtual 58, 3) := by decide +kernel
theorem dX3_readNumber_70 : decode cX3_readNumber 70 = .ok (.return_, 1) := by decide +kernel
theorem dX3_isDigit_0 : decode cX3_isDigit 0 = .ok (.iload_n 0, 1) := by decide +kernel
theorem dX3_isDigit_1 : decode cX3_isDigit 1 = .ok (.bipush 48, 2) := by decide +kernel
theorem dX3_isDigit_3 : decode cX3_isDigit 3 = .ok (.if_icmp .lt 13, 3) := by decide +kernel
theorem dX3_isDigit_6 : decode cX3_isDigit 6 = .ok (.iload_n 0, 1) := by decide +kernel
theorem dX3_isDigit_7 : decode cX3_isDigit 7 = .ok (.bipush 57, 2) := by decide +kernel
theorem dX3_isDigit_9 : decode cX3_isDigit 9 = .ok (.if_icmp .gt 7, 3) := by decide +kernel
theorem dX3_isDigit_12 : decode cX3_isDigit 12 = .ok (.iconst 1, 1) := by decide +kernel
theorem dX3_isDigit_13 : decode cX3_isDigit 13 = .ok (.goto 4, 3) := by decide +kernel
theorem dX3_isDigit_16 : decode cX3_isDigit 16 = .ok (.iconst 0, 1) := by decide +kernel
theorem dX3_isDigit_17 : decode cX3_isDigit 17 = .ok (.ireturn, 1) := by decide +kernel
theorem dX3_levelOf_0 : decode cX3_levelOf 0 = .ok (.iload_n 0, 1) := by decide +kernel
theorem dX3_levelOf_1 : decode cX3_levelOf 1 = .ok (.lookupswitch 101 #[(37, 99), (38, 93), (42, 99), (43, 97), (45, 97), (47, 99), (60, 95), (61, 95), (62, 95), (124, 91)], 91) := by decide +kernel
theorem dX3_levelOf_92 : decode cX3_levelOf 92 = .ok (.iconst 0, 1) := by decide +kernel
theorem dX3_levelOf_93 : decode cX3_levelOf 93 = .ok (.ireturn, 1) := by decide +kernel
theorem dX3_levelOf_94 : decode cX3_levelOf 94 = .ok (.iconst 1, 1) := by decide +kernel
theorem dX3_levelOf_95 : decode cX3_levelOf 95 = .ok (.ireturn, 1) := by decide +kernel
theorem dX3_levelOf_96 : decode cX3_levelOf 96 = .ok (.iconst 2, 1) := by decide +kernel
theorem dX3_levelOf_97 : decode cX3_levelOf 97 = .ok (.ireturn, 1) := by decide +kernel
theorem dX3_levelOf_98 : decode cX3_levelOf 98 = .ok (.iconst 3, 1) := by decide +kernel
theorem dX3_levelOf_99 : decode cX3_levelOf 99 = .ok (.ireturn, 1) := by decide +kernel
theorem dX3_levelOf_100 : decode cX3_levelOf 100 = .ok (.iconst 4, 1) := by decide +kernel
theorem dX3_levelOf_101 : decode cX3_levelOf 101 = .ok (.ireturn, 1) := by decide +kernel
theorem dX3_levelOf_102 : decode cX3_levelOf 102 = .ok (.iconst (-1), 1) := by decide +kernel
theorem dX3_levelOf_103 : decode cX3_levelOf 103 = .ok (.ireturn, 1) := by decide +kernel
theorem dX4_init_0 : decode cX4_init 0 = .ok (.aload_n 0, 1) := by decide +kernel
theorem dX4_init_1 : decode cX4_init 1 = .ok (.invokespecial 1, 3) := by decide +kernel
theorem dX4_init_4 : decode cX4_init 4 = .ok (.aload_n 0, 1) := by decide +kernel
theorem dX4_init_5 : decode cX4_init 5 = .ok (.iload_n 1, 1) := by decide +kernel
theorem dX4_init_6 : decode cX4_init 6 = .ok (.iconst 0, 1) := by decide +kernel
theorem dX4_init_7 : decode cX4_init 7 = .ok (.invokestatic 7, 3) := by decide +kernel
theorem dX4_init_10 : decode cX4_init 10 = .ok (.newarray .int, 2) := by decide +kernel
theorem dX4_init_12 : decode cX4_init 12 = .ok (.putfield 13, 3) := by decide +kernel
theorem dX4_init_15 : decode cX4_init 15 = .ok (.aload_n 0, 1) := by decide +kernel
theorem dX4_init_16 : decode cX4_init 16 = .ok (.iconst 0, 1) := by decide +kernel
theorem dX4_init_17 : decode cX4_init 17 = .ok (.putfield 19, 3) := by decide +kernel
theorem dX4_init_20 : decode cX4_init 20 = .ok (.return_, 1) := by decide +kernel
theorem dX4_size_0 : decode cX4_size 0 = .ok (.aload_n 0, 1) := by decide +kernel
theorem dX4_size_1 : decode cX4_size 1 = .ok (.getfield 19, 3) := by decide +kernel
theorem dX4_size_4 : decode cX4_size 4 = .ok (.ireturn, 1) := by decide +kernel
theorem dX4_hasRoom_0 : decode cX4_hasRoom 0 = .ok (.iload_n 1, 1) := by decide +kernel
theorem dX4_hasRoom_1 : decode cX4_hasRoom 1 = .ok (.aload_n 0, 1) := by decide +kernel
theorem dX4_hasRoom_2 : decode cX4_hasRoom 2 = .ok (.getfield 13, 3) := by decide +kernel
theorem dX4_hasRoom_5 : decode cX4_hasRoom 5 = .ok (.arraylength, 1) := by decide +kernel
theorem dX4_hasRoom_6 : decode cX4_hasRoom 6 = .ok (.aload_n 0, 1) := by decide +kernel
theorem dX4_hasRoom_7 : decode cX4_hasRoom 7 = .ok (.getfield 19, 3) := by decide +kernel
theorem dX4_hasRoom_10 : decode cX4_hasRoom 10 = .ok (.isub, 1) := by decide +kernel
theorem dX4_hasRoom_11 : decode cX4_hasRoom 11 = .ok (.if_icmp .gt 7, 3) := by decide +kernel
theorem dX4_hasRoom_14 : decode cX4_hasRoom 14 = .ok (.iconst 1, 1) := by decide +kernel
theorem dX4_hasRoom_15 : decode cX4_hasRoom 15 = .ok (.goto 4, 3) := by decide +kernel
theorem dX4_hasRoom_18 : decode cX4_hasRoom 18 = .ok (.iconst 0, 1) := by decide +kernel
theorem dX4_hasRoom_19 : decode cX4_hasRoom 19 = .ok (.ireturn, 1) := by decide +kernel
theorem dX4_stands_0 : decode cX4_stands 0 = .ok (.iload_n 1, 1) := by decide +kernel
theorem dX4_stands_1 : decode cX4_stands 1 = .ok (.ifCond .lt 15, 3) := by decide +kernel
theorem dX4_stands_4 : decode cX4_stands 4 = .ok (.iload_n 1, 1) := by decide +kernel
theorem dX4_stands_5 : decode cX4_stands 5 = .ok (.aload_n 0, 1) := by decide +kernel
theorem dX4_stands_6 : decode cX4_stands 6 = .ok (.getfield 19, 3) := by decide +kernel
theorem dX4_stands_9 : decode cX4_stands 9 = .ok (.if_icmp .ge 7, 3) := by decide +kernel
theorem dX4_stands_12 : decode cX4_stands 12 = .ok (.iconst 1, 1) := by decide +kernel
theorem dX4_stands_13 : decode cX4_stands 13 = .ok (.goto 4, 3) := by decide +kernel
theorem dX4_stands_16 : decode cX4_stands 16 = .ok (.iconst 0, 1) := by decide +kernel
theorem dX4_stands_17 : decode cX4_stands 17 = .ok (.ireturn, 1) := by decide +kernel
theorem dX4_stand_0 : decode cX4_stand 0 = .ok (.iload_n 1, 1) := by decide +kernel
theorem dX4_stand_1 : decode cX4_stand 1 = .ok (.ifCond .lt 29, 3) := by decide +kernel
theorem dX4_stand_4 : decode cX4_stand 4 = .ok (.iload_n 2, 1) := by decide +kernel
theorem dX4_stand_5 : decode cX4_stand 5 = .ok (.ifCond .lt 25, 3) := by decide +kernel
theorem dX4_stand_8 : decode cX4_stand 8 = .ok (.iload_n 1, 1) := by decide +kernel
theorem dX4_stand_9 : decode cX4_stand 9 = .ok (.aload_n 0, 1) := by decide +kernel
theorem dX4_stand_10 : decode cX4_stand 10 = .ok (.getfield 19, 3) := by decide +kernel
theorem dX4_stand_13 : decode cX4_stand 13 = .ok (.if_icmp .gt 17, 3) := by decide +kernel
theorem dX4_stand_16 : decode cX4_stand 16 = .ok (.iload_n 2, 1) := by decide +kernel
theorem dX4_stand_17 : decode cX4_stand 17 = .ok (.aload_n 0, 1) := by decide +kernel
theorem dX4_stand_18 : decode cX4_stand 18 = .ok (.getfield 19, 3) := by decide +kernel
theorem dX4_stand_21 : decode cX4_stand 21 = .ok (.iload_n 1, 1) := by decide +kernel
theorem dX4_stand_22 : decode cX4_stand 22 = .ok (.isub, 1) := by decide +kernel
theorem dX4_stand_23 : decode cX4_stand 23 = .ok (.if_icmp .gt 7, 3) := by decide +kernel
theorem dX4_stand_26 : decode cX4_stand 26 = .ok (.iconst 1, 1) := by decide +kernel
theorem dX4_stand_27 : decode cX4_stand 27 = .ok (.goto 4, 3) := by decide +kernel
theorem dX4_stand_30 : decode cX4_stand 30 = .ok (.iconst 0, 1) := by decide +kernel
theorem dX4_stand_31 : decode cX4_stand 31 = .ok (.ireturn, 1) := by decide +kernel
theorem dX4_at_0 : decode cX4_at 0 = .ok (.iload_n 1, 1) := by decide +kernel
theorem dX4_at_1 : decode cX4_at 1 = .ok (.ifCond .lt 20, 3) := by decide +kernel
theorem dX4_at_4 : decode cX4_at 4 = .ok (.iload_n 1, 1) := by decide +kernel
theorem dX4_at_5 : decode cX4_at 5 = .ok (.aload_n 0, 1) := by decide +kernel
theorem dX4_at_6 : decode cX4_at 6 = .ok (.getfield 19, 3) := by decide +kernel
theorem dX4_at_9 : decode cX4_at 9 = .ok (.if_icmp .ge 12, 3) := by decide +kernel
theorem dX4_at_12 : decode cX4_at 12 = .ok (.aload_n 0, 1) := by decide +kernel
theorem dX4_at_13 : decode cX4_at 13 = .ok (.getfield 13, 3) := by decide +kernel
theorem dX4_at_16 : decode cX4_at 16 = .ok (.iload_n 1, 1) := by decide +kernel
theorem dX4_at_17 : decode cX4_at 17 = .ok (.iaload, 1) := by decide +kernel
theorem dX4_at_18 : decode cX4_at 18 = .ok (.goto 4, 3) := by decide +kernel
theorem dX4_at_21 : decode cX4_at 21 = .ok (.iconst 0, 1) := by decide +kernel
theorem dX4_at_22 : decode cX4_at 22 = .ok (.ireturn, 1) := by decide +kernel
theorem dX4_write_0 : decode cX4_write 0 = .ok (.aload_n 0, 1) := by decide +kernel
theorem dX4_write_1 : decode cX4_write 1 = .ok (.iload_n 1, 1) := by decide +kernel
theorem dX4_write_2 : decode cX4_write 2 = .ok (.invokevirtual 23, 3) := by decide +kernel
theorem dX4_write_5 : decode cX4_write 5 = .ok (.ifCond .eq 10, 3) := by decide +kernel
theorem dX4_write_8 : decode cX4_write 8 = .ok (.aload_n 0, 1) := by decide +kernel
theorem dX4_write_9 : decode cX4_write 9 = .ok (.getfield 13, 3) := by decide +kernel
theorem dX4_write_12 : decode cX4_write 12 = .ok (.iload_n 1, 1) := by decide +kernel
theorem dX4_write_13 : decode cX4_write 13 = .ok (.iload_n 2, 1) := by decide +kernel
theorem dX4_write_14 : decode cX4_write 14 = .ok (.iastore, 1) := by decide +kernel
theorem dX4_write_15 : decode cX4_write 15 = .ok (.return_, 1) := by decide +kernel
theorem dX4_add_0 : decode cX4_add 0 = .ok (.aload_n 0, 1) := by decide +kernel
theorem dX4_add_1 : decode cX4_add 1 = .ok (.getfield 19, 3) := by decide +kernel
theorem dX4_add_4 : decode cX4_add 4 = .ok (.aload_n 0, 1) := by decide +kernel
theorem dX4_add_5 : decode cX4_add 5 = .ok (.getfield 13, 3) := by decide +kernel
theorem dX4_add_8 : decode cX4_add 8 = .ok (.arraylength, 1) := by decide +kernel
theorem dX4_add_9 : decode cX4_add 9 = .ok (.if_icmp .ge 23, 3) := by decide +kernel
theorem dX4_add_12 : decode cX4_add 12 = .ok (.aload_n 0, 1) := by decide +kernel
theorem dX4_add_13 : decode cX4_add 13 = .ok (.getfield 13, 3) := by decide +kernel
theorem dX4_add_16 : decode cX4_add 16 = .ok (.aload_n 0, 1) := by decide +kernel
theorem dX4_add_17 : decode cX4_add 17 = .ok (.getfield 19, 3) := by decide +kernel
theorem dX4_add_20 : decode cX4_add 20 = .ok (.iload_n 1, 1) := by decide +kernel
theorem dX4_add_21 : decode cX4_add 21 = .ok (.iastore, 1) := by decide +kernel
theorem dX4_add_22 : decode cX4_add 22 = .ok (.aload_n 0, 1) := by decide +kernel
theorem dX4_add_23 : decode cX4_add 23 = .ok (.dup, 1) := by decide +kernel
theorem dX4_add_24 : decode cX4_add 24 = .ok (.getfield 19, 3) := by decide +kernel
theorem dX4_add_27 : decode cX4_add 27 = .ok (.iconst 1, 1) := by decide +kernel
theorem dX4_add_28 : decode cX4_add 28 = .ok (.iadd, 1) := by decide +kernel
theorem dX4_add_29 : decode cX4_add 29 = .ok (.putfield 19, 3) := by decide +kernel
theorem dX4_add_32 : decode cX4_add 32 = .ok (.return_, 1) := by decide +kernel
theorem dX4_clear_0 : decode cX4_clear 0 = .ok (.aload_n 0, 1) := by decide +kernel
theorem dX4_clear_1 : decode cX4_clear 1 = .ok (.iconst 0, 1) := by decide +kernel
theorem dX4_clear_2 : decode cX4_clear 2 = .ok (.putfield 19, 3) := by decide +kernel
theorem dX4_clear_5 : decode cX4_clear 5 = .ok (.return_, 1) := by decide +kernel
theorem dX4_copy_0 : decode cX4_copy 0 = .ok (.aload_n 0, 1) := by decide +kernel
theorem dX4_copy_1 : decode cX4_copy 1 = .ok (.aload_n 1, 1) := by decide +kernel
theorem dX4_copy_2 : decode cX4_copy 2 = .ok (.getfield 19, 3) := by decide +kernel
theorem dX4_copy_5 : decode cX4_copy 5 = .ok (.aload_n 0, 1) := by decide +kernel
theorem dX4_copy_6 : decode cX4_copy 6 = .ok (.getfield 13, 3) := by decide +kernel
theorem dX4_copy_9 : decode cX4_copy 9 = .ok (.arraylength, 1) := by decide +kernel
theorem dX4_copy_10 : decode cX4_copy 10 = .ok (.invokestatic 27, 3) := by decide +kernel
theorem dX4_copy_13 : decode cX4_copy 13 = .ok (.putfield 19, 3) := by decide +kernel
theorem dX4_copy_16 : decode cX4_copy 16 = .ok (.aload_n 1, 1) := by decide +kernel
theorem dX4_copy_17 : decode cX4_copy 17 = .ok (.getfield 13, 3) := by decide +kernel
theorem dX4_copy_20 : decode cX4_copy 20 = .ok (.iconst 0, 1) := by decide +kernel
theorem dX4_copy_21 : decode cX4_copy 21 = .ok (.aload_n 0, 1) := by decide +kernel
theorem dX4_copy_22 : decode cX4_copy 22 = .ok (.getfield 13, 3) := by decide +kernel
theorem dX4_copy_25 : decode cX4_copy 25 = .ok (.iconst 0, 1) := by decide +kernel
theorem dX4_copy_26 : decode cX4_copy 26 = .ok (.aload_n 0, 1) := by decide +kernel
theorem dX4_copy_27 : decode cX4_copy 27 = .ok (.getfield 19, 3) := by decide +kernel
theorem dX4_copy_30 : decode cX4_copy 30 = .ok (.invokestatic 30, 3) := by decide +kernel
theorem dX4_copy_33 : decode cX4_copy 33 = .ok (.return_, 1) := by decide +kernel
theorem dX4_take_0 : decode cX4_take 0 = .ok (.aload_n 0, 1) := by decide +kernel
theorem dX4_take_1 : decode cX4_take 1 = .ok (.iload_n 1, 1) := by decide +kernel
theorem dX4_take_2 : decode cX4_take 2 = .ok (.iload 4, 2) := by decide +kernel
theorem dX4_take_4 : decode cX4_take 4 = .ok (.invokevirtual 36, 3) := by decide +kernel
theorem dX4_take_7 : decode cX4_take 7 = .ok (.ifCond .eq 28, 3) := by decide +kernel
theorem dX4_take_10 : decode cX4_take 10 = .ok (.aload_n 2, 1) := by decide +kernel
theorem dX4_take_11 : decode cX4_take 11 = .ok (.iload_n 3, 1) := by decide +kernel
theorem dX4_take_12 : decode cX4_take 12 = .ok (.iload 4, 2) := by decide +kernel
theorem dX4_take_14 : decode cX4_take 14 = .ok (.invokevirtual 36, 3) := by decide +kernel
theorem dX4_take_17 : decode cX4_take 17 = .ok (.ifCond .eq 18, 3) := by decide +kernel
theorem dX4_take_20 : decode cX4_take 20 = .ok (.aload_n 2, 1) := by decide +kernel
theorem dX4_take_21 : decode cX4_take 21 = .ok (.getfield 13, 3) := by decide +kernel
theorem dX4_take_24 : decode cX4_take 24 = .ok (.iload_n 3, 1) := by decide +kernel
theorem dX4_take_25 : decode cX4_take 25 = .ok (.aload_n 0, 1) := by decide +kernel
theorem dX4_take_26 : decode cX4_take 26 = .ok (.getfield 13, 3) := by decide +kernel
theorem dX4_take_29 : decode cX4_take 29 = .ok (.iload_n 1, 1) := by decide +kernel
theorem dX4_take_30 : decode cX4_take 30 = .ok (.iload 4, 2) := by decide +kernel
theorem dX4_take_32 : decode cX4_take 32 = .ok (.invokestatic 30, 3) := by decide +kernel
theorem dX4_take_35 : decode cX4_take 35 = .ok (.return_, 1) := by decide +kernel
theorem dX5_init_0 : decode cX5_init 0 = .ok (.aload_n 0, 1) := by decide +kernel
theorem dX5_init_1 : decode cX5_init 1 = .ok (.invokespecial 3, 3) := by decide +kernel
theorem dX5_init_4 : decode cX5_init 4 = .ok (.aload_n 0, 1) := by decide +kernel
theorem dX5_init_5 : decode cX5_init 5 = .ok (.new 9, 3) := by decide +kernel
theorem dX5_init_8 : decode cX5_init 8 = .ok (.dup, 1) := by decide +kernel
theorem dX5_init_9 : decode cX5_init 9 = .ok (.bipush 24, 2) := by decide +kernel
theorem dX5_init_11 : decode cX5_init 11 = .ok (.invokespecial 11, 3) := by decide +kernel
theorem dX5_init_14 : decode cX5_init 14 = .ok (.putfield 14, 3) := by decide +kernel
theorem dX5_init_17 : decode cX5_init 17 = .ok (.aload_n 0, 1) := by decide +kernel
theorem dX5_init_18 : decode cX5_init 18 = .ok (.iconst 0, 1) := by decide +kernel
theorem dX5_init_19 : decode cX5_init 19 = .ok (.putfield 20, 3) := by decide +kernel
theorem dX5_init_22 : decode cX5_init 22 = .ok (.return_, 1) := by decide +kernel
theorem dX5_areBits_0 : decode cX5_areBits 0 = .ok (.iload_n 0, 1) := by decide +kernel
theorem dX5_areBits_1 : decode cX5_areBits 1 = .ok (.ifCond .eq 21, 3) := by decide +kernel
theorem dX5_areBits_4 : decode cX5_areBits 4 = .ok (.iload_n 0, 1) := by decide +kernel
theorem dX5_areBits_5 : decode cX5_areBits 5 = .ok (.bipush 8, 2) := by decide +kernel
theorem dX5_areBits_7 : decode cX5_areBits 7 = .ok (.if_icmp .eq 15, 3) := by decide +kernel
theorem dX5_areBits_10 : decode cX5_areBits 10 = .ok (.iload_n 0, 1) := by decide +kernel
theorem dX5_areBits_11 : decode cX5_areBits 11 = .ok (.bipush 16, 2) := by decide +kernel
theorem dX5_areBits_13 : decode cX5_areBits 13 = .ok (.if_icmp .eq 9, 3) := by decide +kernel
theorem dX5_areBits_16 : decode cX5_areBits 16 = .ok (.iload_n 0, 1) := by decide +kernel
theorem dX5_areBits_17 : decode cX5_areBits 17 = .ok (.bipush 32, 2) := by decide +kernel
theorem dX5_areBits_19 : decode cX5_areBits 19 = .ok (.if_icmp .ne 7, 3) := by decide +kernel
theorem dX5_areBits_22 : decode cX5_areBits 22 = .ok (.iconst 1, 1) := by decide +kernel
theorem dX5_areBits_23 : decode cX5_areBits 23 = .ok (.goto 4, 3) := by decide +kernel
theorem dX5_areBits_26 : decode cX5_areBits 26 = .ok (.iconst 0, 1) := by decide +kernel
theorem dX5_areBits_27 : decode cX5_areBits 27 = .ok (.ireturn, 1) := by decide +kernel
theorem dX5_isMissing_0 : decode cX5_isMissing 0 = .ok (.aload_n 0, 1) := by decide +kernel
theorem dX5_isMissing_1 : decode cX5_isMissing 1 = .ok (.getfield 20, 3) := by decide +kernel
theorem dX5_isMissing_4 : decode cX5_isMissing 4 = .ok (.ifCond .ne 7, 3) := by decide +kernel
theorem dX5_isMissing_7 : decode cX5_isMissing 7 = .ok (.iconst 1, 1) := by decide +kernel
theorem dX5_isMissing_8 : decode cX5_isMissing 8 = .ok (.goto 4, 3) := by decide +kernel
theorem dX5_isMissing_11 : decode cX5_isMissing 11 = .ok (.iconst 0, 1) := by decide +kernel
theorem dX5_isMissing_12 : decode cX5_isMissing 12 = .ok (.ireturn, 1) := by decide +kernel
theorem dX5_makeNew_0 : decode cX5_makeNew 0 = .ok (.aload_n 0, 1) := by decide +kernel
theorem dX5_makeNew_1 : decode cX5_makeNew 1 = .ok (.iload_n 1, 1) := by decide +kernel
theorem dX5_makeNew_2 : decode cX5_makeNew 2 = .ok (.putfield 20, 3) := by decide +kernel
theorem dX5_makeNew_5 : decode cX5_makeNew 5 = .ok (.aload_n 0, 1) := by decide +kernel
theorem dX5_makeNew_6 : decode cX5_makeNew 6 = .ok (.getfield 14, 3) := by decide +kernel
theorem dX5_makeNew_9 : decode cX5_makeNew 9 = .ok (.invokevirtual 24, 3) := by decide +kernel
theorem dX5_makeNew_12 : decode cX5_makeNew 12 = .ok (.iconst 0, 1) := by decide +kernel
theorem dX5_makeNew_13 : decode cX5_makeNew 13 = .ok (.istore_n 3, 1) := by decide +kernel
theorem dX5_makeNew_14 : decode cX5_makeNew 14 = .ok (.iload_n 3, 1) := by decide +kernel
theorem dX5_makeNew_15 : decode cX5_makeNew 15 = .ok (.iload_n 2, 1) := by decide +kernel
theorem dX5_makeNew_16 : decode cX5_makeNew 16 = .ok (.if_icmp .ge 30, 3) := by decide +kernel
theorem dX5_makeNew_19 : decode cX5_makeNew 19 = .ok (.iload_n 3, 1) := by decide +kernel
theorem dX5_makeNew_20 : decode cX5_makeNew 20 = .ok (.bipush 24, 2) := by decide +kernel
theorem dX5_makeNew_22 : decode cX5_makeNew 22 = .ok (.if_icmp .ge 24, 3) := by decide +kernel
theorem dX5_makeNew_25 : decode cX5_makeNew 25 = .ok (.aload_n 0, 1) := by decide +kernel
theorem dX5_makeNew_26 : decode cX5_makeNew 26 = .ok (.getfield 20, 3) := by decide +kernel
theorem dX5_makeNew_29 : decode cX5_makeNew 29 = .ok (.ifCond .eq 17, 3) := by decide +kernel
theorem dX5_makeNew_32 : decode cX5_makeNew 32 = .ok (.aload_n 0, 1) := by decide +kernel
theorem dX5_makeNew_33 : decode cX5_makeNew 33 = .ok (.getfield 14, 3) := by decide +kernel
theorem dX5_makeNew_36 : decode cX5_makeNew 36 = .ok (.iconst 0, 1) := by decide +kernel
theorem dX5_makeNew_37 : decode cX5_makeNew 37 = .ok (.invokevirtual 27, 3) := by decide +kernel
theorem dX5_makeNew_40 : decode cX5_makeNew 40 = .ok (.iinc 3 1, 3) := by decide +kernel
theorem dX5_makeNew_43 : decode cX5_makeNew 43 = .ok (.goto (-29), 3) := by decide +kernel
theorem dX5_makeNew_46 : decode cX5_makeNew 46 = .ok (.return_, 1) := by decide +kernel
theorem dX5_write_0 : decode cX5_write 0 = .ok (.aload_n 0, 1) := by decide +kernel
theorem dX5_write_1 : decode cX5_write 1 = .ok (.getfield 14, 3) := by decide +kernel
theorem dX5_write_4 : decode cX5_write 4 = .ok (.iload_n 1, 1) := by decide +kernel
theorem dX5_write_5 : decode cX5_write 5 = .ok (.aload_n 0, 1) := by decide +kernel
theorem dX5_write_6 : decode cX5_write 6 = .ok (.getfield 20, 3) := by decide +kernel
theorem dX5_write_9 : decode cX5_write 9 = .ok (.bipush 8, 2) := by decide +kernel
theorem dX5_write_11 : decode cX5_write 11 = .ok (.if_icmp .ne 8, 3) := by decide +kernel
theorem dX5_write_14 : decode cX5_write 14 = .ok (.iload_n 2, 1) := by decide +kernel
theorem dX5_write_15 : decode cX5_write 15 = .ok (.i2b, 1) := by decide +kernel
theorem dX5_write_16 : decode cX5_write 16 = .ok (.goto 18, 3) := by decide +kernel
theorem dX5_write_19 : decode cX5_write 19 = .ok (.aload_n 0, 1) := by decide +kernel
theorem dX5_write_20 : decode cX5_write 20 = .ok (.getfield 20, 3) := by decide +kernel
theorem dX5_write_23 : decode cX5_write 23 = .ok (.bipush 16, 2) := by decide +kernel
theorem dX5_write_25 : decode cX5_write 25 = .ok (.if_icmp .ne 8, 3) := by decide +kernel
theorem dX5_write_28 : decode cX5_write 28 = .ok (.iload_n 2, 1) := by decide +kernel
theorem dX5_write_29 : decode cX5_write 29 = .ok (.i2s, 1) := by decide +kernel
theorem dX5_write_30 : decode cX5_write 30 = .ok (.goto 4, 3) := by decide +kernel
theorem dX5_write_33 : decode cX5_write 33 = .ok (.iload_n 2, 1) := by decide +kernel
theorem dX5_write_34 : decode cX5_write 34 = .ok (.invokevirtual 30, 3) := by decide +kernel
theorem dX5_write_37 : decode cX5_write 37 = .ok (.return_, 1) := by decide +kernel
theorem dX6_init_0 : decode cX6_init 0 = .ok (.aload_n 0, 1) := by decide +kernel
theorem dX6_init_1 : decode cX6_init 1 = .ok (.invokespecial 3, 3) := by decide +kernel
theorem dX6_init_4 : decode cX6_init 4 = .ok (.aload_n 0, 1) := by decide +kernel
theorem dX6_init_5 : decode cX6_init 5 = .ok (.new 9, 3) := by decide +kernel
theorem dX6_init_8 : decode cX6_init 8 = .ok (.dup, 1) := by decide +kernel
theorem dX6_init_9 : decode cX6_init 9 = .ok (.bipush 60, 2) := by decide +kernel
theorem dX6_init_11 : decode cX6_init 11 = .ok (.invokespecial 11, 3) := by decide +kernel
theorem dX6_init_14 : decode cX6_init 14 = .ok (.putfield 14, 3) := by decide +kernel
theorem dX6_init_17 : decode cX6_init 17 = .ok (.aload_n 0, 1) := by decide +kernel
theorem dX6_init_18 : decode cX6_init 18 = .ok (.bipush 60, 2) := by decide +kernel
theorem dX6_init_20 : decode cX6_init 20 = .ok (.newarray .int, 2) := by decide +kernel
theorem dX6_init_22 : decode cX6_init 22 = .ok (.putfield 20, 3) := by decide +kernel
theorem dX6_init_25 : decode cX6_init 25 = .ok (.return_, 1) := by decide +kernel
theorem dX6_isGiven_0 : decode cX6_isGiven 0 = .ok (.aload_n 0, 1) := by decide +kernel
theorem dX6_isGiven_1 : decode cX6_isGiven 1 = .ok (.getfield 14, 3) := by decide +kernel
theorem dX6_isGiven_4 : decode cX6_isGiven 4 = .ok (.invokevirtual 24, 3) := by decide +kernel
theorem dX6_isGiven_7 : decode cX6_isGiven 7 = .ok (.ifCond .le 7, 3) := by decide +kernel
theorem dX6_isGiven_10 : decode cX6_isGiven 10 = .ok (.iconst 1, 1) := by decide +kernel
theorem dX6_isGiven_11 : decode cX6_isGiven 11 = .ok (.goto 4, 3) := by decide +kernel
theorem dX6_isGiven_14 : decode cX6_isGiven 14 = .ok (.iconst 0, 1) := by decide +kernel
theorem dX6_isGiven_15 : decode cX6_isGiven 15 = .ok (.ireturn, 1) := by decide +kernel
theorem dX6_worked_0 : decode cX6_worked 0 = .ok (.iconst 0, 1) := by decide +kernel
theorem dX6_worked_1 : decode cX6_worked 1 = .ok (.istore 4, 2) := by decide +kernel
theorem dX6_worked_3 : decode cX6_worked 3 = .ok (.iconst 0, 1) := by decide +kernel
theorem dX6_worked_4 : decode cX6_worked 4 = .ok (.istore 5, 2) := by decide +kernel
theorem dX6_worked_6 : decode cX6_worked 6 = .ok (.iload 5, 2) := by decide +kernel
theorem dX6_worked_8 : decode cX6_worked 8 = .ok (.aload_n 0, 1) := by decide +kernel
theorem dX6_worked_9 : decode cX6_worked 9 = .ok (.getfield 14, 3) := by decide +kernel
theorem dX6_worked_12 : decode cX6_worked 12 = .ok (.invokevirtual 24, 3) := by decide +kernel
theorem dX6_worked_15 : decode cX6_worked 15 = .ok (.if_icmp .ge 159, 3) := by decide +kernel
theorem dX6_worked_18 : decode cX6_worked 18 = .ok (.aload_n 0, 1) := by decide +kernel
theorem dX6_worked_19 : decode cX6_worked 19 = .ok (.getfield 14, 3) := by decide +kernel
theorem dX6_worked_22 : decode cX6_worked 22 = .ok (.iload 5, 2) := by decide +kernel
theorem dX6_worked_24 : decode cX6_worked 24 = .ok (.invokevirtual 28, 3) := by decide +kernel
theorem dX6_worked_27 : decode cX6_worked 27 = .ok (.istore 6, 2) := by decide +kernel
theorem dX6_worked_29 : decode cX6_worked 29 = .ok (.iload 6, 2) := by decide +kernel
theorem dX6_worked_31 : decode cX6_worked 31 = .ok (.sipush 10033, 3) := by decide +kernel
theorem dX6_worked_34 : decode cX6_worked 34 = .ok (.if_icmp .ne 38, 3) := by decide +kernel
theorem dX6_worked_37 : decode cX6_worked 37 = .ok (.iload 4, 2) := by decide +kernel
theorem dX6_worked_39 : decode cX6_worked 39 = .ok (.iconst 1, 1) := by decide +kernel
theorem dX6_worked_40 : decode cX6_worked 40 = .ok (.if_icmp .lt 128, 3) := by decide +kernel
theorem dX6_worked_43 : decode cX6_worked 43 = .ok (.aload_n 0, 1) := by decide +kernel
theorem dX6_worked_44 : decode cX6_worked 44 = .ok (.getfield 20, 3) := by decide +kernel
theorem dX6_worked_47 : decode cX6_worked 47 = .ok (.iload 4, 2) := by decide +kernel
theorem dX6_worked_49 : decode cX6_worked 49 = .ok (.iconst 1, 1) := by decide +kernel
theorem dX6_worked_50 : decode cX6_worked 50 = .ok (.isub, 1) := by decide +kernel
theorem dX6_worked_51 : decode cX6_worked 51 = .ok (.aload_n 0, 1) := by decide +kernel
theorem dX6_worked_52 : decode cX6_worked 52 = .ok (.getfield 20, 3) := by decide +kernel
theorem dX6_worked_55 : decode cX6_worked 55 = .ok (.iload 4, 2) := by decide +kernel
theorem dX6_worked_57 : decode cX6_worked 57 = .ok (.iconst 1, 1) := by decide +kernel
theorem dX6_worked_58 : decode cX6_worked 58 = .ok (.isub, 1) := by decide +kernel
theorem dX6_worked_59 : decode cX6_worked 59 = .ok (.iaload, 1) := by decide +kernel
theorem dX6_worked_60 : decode cX6_worked 60 = .ok (.ifCond .ne 7, 3) := by decide +kernel
theorem dX6_worked_63 : decode cX6_worked 63 = .ok (.iconst 1, 1) := by decide +kernel
theorem dX6_worked_64 : decode cX6_worked 64 = .ok (.goto 4, 3) := by decide +kernel
theorem dX6_worked_67 : decode cX6_worked 67 = .ok (.iconst 0, 1) := by decide +kernel
theorem dX6_worked_68 : decode cX6_worked 68 = .ok (.iastore, 1) := by decide +kernel
theorem dX6_worked_69 : decode cX6_worked 69 = .ok (.goto 99, 3) := by decide +kernel
theorem dX6_worked_72 : decode cX6_worked 72 = .ok (.iload 6, 2) := by decide +kernel
theorem dX6_worked_74 : decode cX6_worked 74 = .ok (.sipush 10000, 3) := by decide +kernel
theorem dX6_worked_77 : decode cX6_worked 77 = .ok (.if_icmp .lt 51, 3) := by decide +kernel
theorem dX6_worked_80 : decode cX6_worked 80 = .ok (.iload 4, 2) := by decide +kernel
theorem dX6_worked_82 : decode cX6_worked 82 = .ok (.iconst 2, 1) := by decide +kernel
theorem dX6_worked_83 : decode cX6_worked 83 = .ok (.if_icmp .lt 85, 3) := by decide +kernel
theorem dX6_worked_86 : decode cX6_worked 86 = .ok (.aload_n 0, 1) := by decide +kernel
theorem dX6_worked_87 : decode cX6_worked 87 = .ok (.getfield 20, 3) := by decide +kernel
theorem dX6_worked_90 : decode cX6_worked 90 = .ok (.iload 4, 2) := by decide +kernel
theorem dX6_worked_92 : decode cX6_worked 92 = .ok (.iconst 2, 1) := by decide +kernel
theorem dX6_worked_93 : decode cX6_worked 93 = .ok (.isub, 1) := by decide +kernel
theorem dX6_worked_94 : decode cX6_worked 94 = .ok (.iload 6, 2) := by decide +kernel
theorem dX6_worked_96 : decode cX6_worked 96 = .ok (.sipush 10000, 3) := by decide +kernel
theorem dX6_worked_99 : decode cX6_worked 99 = .ok (.isub, 1) := by decide +kernel
theorem dX6_worked_100 : decode cX6_worked 100 = .ok (.aload_n 0, 1) := by decide +kernel
theorem dX6_worked_101 : decode cX6_worked 101 = .ok (.getfield 20, 3) := by decide +kernel
theorem dX6_worked_104 : decode cX6_worked 104 = .ok (.iload 4, 2) := by decide +kernel
theorem dX6_worked_106 : decode cX6_worked 106 = .ok (.iconst 2, 1) := by decide +kernel
theorem dX6_worked_107 : decode cX6_worked 107 = .ok (.isub, 1) := by decide +kernel
theorem dX6_worked_108 : decode cX6_worked 108 = .ok (.iaload, 1) := by decide +kernel
theorem dX6_worked_109 : decode cX6_worked 109 = .ok (.aload_n 0, 1) := by decide +kernel
theorem dX6_worked_110 : decode cX6_worked 110 = .ok (.getfield 20, 3) := by decide +kernel
theorem dX6_worked_113 : decode cX6_worked 113 = .ok (.iload 4, 2) := by decide +kernel
theorem dX6_worked_115 : decode cX6_worked 115 = .ok (.iconst 1, 1) := by decide +kernel
theorem dX6_worked_116 : decode cX6_worked 116 = .ok (.isub, 1) := by decide +kernel
theorem dX6_worked_117 : decode cX6_worked 117 = .ok (.iaload, 1) := by decide +kernel
theorem dX6_worked_118 : decode cX6_worked 118 = .ok (.invokestatic 32, 3) := by decide +kernel
theorem dX6_worked_121 : decode cX6_worked 121 = .ok (.iastore, 1) := by decide +kernel
theorem dX6_worked_122 : decode cX6_worked 122 = .ok (.iinc 4 (-1), 3) := by decide +kernel
theorem dX6_worked_125 : decode cX6_worked 125 = .ok (.goto 43, 3) := by decide +kernel
theorem dX6_worked_128 : decode cX6_worked 128 = .ok (.iload 4, 2) := by decide +kernel
theorem dX6_worked_130 : decode cX6_worked 130 = .ok (.aload_n 0, 1) := by decide +kernel
theorem dX6_worked_131 : decode cX6_worked 131 = .ok (.getfield 20, 3) := by decide +kernel
theorem dX6_worked_134 : decode cX6_worked 134 = .ok (.arraylength, 1) := by decide +kernel
theorem dX6_worked_135 : decode cX6_worked 135 = .ok (.if_icmp .ge 33, 3) := by decide +kernel
theorem dX6_worked_138 : decode cX6_worked 138 = .ok (.aload_n 0, 1) := by decide +kernel
theorem dX6_worked_139 : decode cX6_worked 139 = .ok (.getfield 20, 3) := by decide +kernel
theorem dX6_worked_142 : decode cX6_worked 142 = .ok (.iload 4, 2) := by decide +kernel
theorem dX6_worked_144 : decode cX6_worked 144 = .ok (.iload 6, 2) := by decide +kernel
theorem dX6_worked_146 : decode cX6_worked 146 = .ok (.ifCond .lt 8, 3) := by decide +kernel
theorem dX6_worked_149 : decode cX6_worked 149 = .ok (.iload 6, 2) := by decide +kernel
theorem dX6_worked_151 : decode cX6_worked 151 = .ok (.goto 13, 3) := by decide +kernel
theorem dX6_worked_154 : decode cX6_worked 154 = .ok (.iconst (-1), 1) := by decide +kernel
theorem dX6_worked_155 : decode cX6_worked 155 = .ok (.iload 6, 2) := by decide +kernel
theorem dX6_worked_157 : decode cX6_worked 157 = .ok (.isub, 1) := by decide +kernel
theorem dX6_worked_158 : decode cX6_worked 158 = .ok (.iload_n 1, 1) := by decide +kernel
theorem dX6_worked_159 : decode cX6_worked 159 = .ok (.iload_n 2, 1) := by decide +kernel
theorem dX6_worked_160 : decode cX6_worked 160 = .ok (.iload_n 3, 1) := by decide +kernel
theorem dX6_worked_161 : decode cX6_worked 161 = .ok (.invokestatic 36, 3) := by decide +kernel
theorem dX6_worked_164 : decode cX6_worked 164 = .ok (.iastore, 1) := by decide +kernel
theorem dX6_worked_165 : decode cX6_worked 165 = .ok (.iinc 4 1, 3) := by decide +kernel
theorem dX6_worked_168 : decode cX6_worked 168 = .ok (.iinc 5 1, 3) := by decide +kernel
theorem dX6_worked_171 : decode cX6_worked 171 = .ok (.goto (-165), 3) := by decide +kernel
theorem dX6_worked_174 : decode cX6_worked 174 = .ok (.aload_n 0, 1) := by decide +kernel
theorem dX6_worked_175 : decode cX6_worked 175 = .ok (.getfield 20, 3) := by decide +kernel
theorem dX6_worked_178 : decode cX6_worked 178 = .ok (.iconst 0, 1) := by decide +kernel
theorem dX6_worked_179 : decode cX6_worked 179 = .ok (.iaload, 1) := by decide +kernel
theorem dX6_worked_180 : decode cX6_worked 180 = .ok (.ireturn, 1) := by decide +kernel
theorem dX6_named_0 : decode cX6_named 0 = .ok (.iload_n 0, 1) := by decide +kernel
theorem dX6_named_1 : decode cX6_named 1 = .ok (.ifCond .ne 7, 3) := by decide +kernel
theorem dX6_named_4 : decode cX6_named 4 = .ok (.iload_n 1, 1) := by decide +kernel
theorem dX6_named_5 : decode cX6_named 5 = .ok (.goto 13, 3) := by decide +kernel
theorem dX6_named_8 : decode cX6_named 8 = .ok (.iload_n 0, 1) := by decide +kernel
theorem dX6_named_9 : decode cX6_named 9 = .ok (.iconst 1, 1) := by decide +kernel
theorem dX6_named_10 : decode cX6_named 10 = .ok (.if_icmp .ne 7, 3) := by decide +kernel
theorem dX6_named_13 : decode cX6_named 13 = .ok (.iload_n 2, 1) := by decide +kernel
theorem dX6_named_14 : decode cX6_named 14 = .ok (.goto 4, 3) := by decide +kernel
theorem dX6_named_17 : decode cX6_named 17 = .ok (.iload_n 3, 1) := by decide +kernel
theorem dX6_named_18 : decode cX6_named 18 = .ok (.ireturn, 1) := by decide +kernel
theorem dX6_joined_0 : decode cX6_joined 0 = .ok (.iload_n 0, 1) := by decide +kernel
theorem dX6_joined_1 : decode cX6_joined 1 = .ok (.lookupswitch 188 #[(37, 176), (38, 105), (42, 160), (43, 152), (45, 156), (47, 164), (60, 119), (61, 130), (62, 141), (124, 91)], 91) := by decide +kernel
theorem dX6_joined_92 : decode cX6_joined 92 = .ok (.iload_n 1, 1) := by decide +kernel
theorem dX6_joined_93 : decode cX6_joined 93 = .ok (.ifCond .ne 7, 3) := by decide +kernel
theorem dX6_joined_96 : decode cX6_joined 96 = .ok (.iload_n 2, 1) := by decide +kernel
theorem dX6_joined_97 : decode cX6_joined 97 = .ok (.ifCond .eq 7, 3) := by decide +kernel
theorem dX6_joined_100 : decode cX6_joined 100 = .ok (.iconst 1, 1) := by decide +kernel
theorem dX6_joined_101 : decode cX6_joined 101 = .ok (.goto 4, 3) := by decide +kernel
theorem dX6_joined_104 : decode cX6_joined 104 = .ok (.iconst 0, 1) := by decide +kernel
theorem dX6_joined_105 : decode cX6_joined 105 = .ok (.ireturn, 1) := by decide +kernel
theorem dX6_joined_106 : decode cX6_joined 106 = .ok (.iload_n 1, 1) := by decide +kernel
theorem dX6_joined_107 : decode cX6_joined 107 = .ok (.ifCond .eq 11, 3) := by decide +kernel
theorem dX6_joined_110 : decode cX6_joined 110 = .ok (.iload_n 2, 1) := by decide +kernel
theorem dX6_joined_111 : decode cX6_joined 111 = .ok (.ifCond .eq 7, 3) := by decide +kernel
theorem dX6_joined_114 : decode cX6_joined 114 = .ok (.iconst 1, 1) := by decide +kernel
theorem dX6_joined_115 : decode cX6_joined 115 = .ok (.goto 4, 3) := by decide +kernel
theorem dX6_joined_118 : decode cX6_joined 118 = .ok (.iconst 0, 1) := by decide +kernel
theorem dX6_joined_119 : decode cX6_joined 119 = .ok (.ireturn, 1) := by decide +kernel
theorem dX6_joined_120 : decode cX6_joined 120 = .ok (.iload_n 1, 1) := by decide +kernel
theorem dX6_joined_121 : decode cX6_joined 121 = .ok (.iload_n 2, 1) := by decide +kernel
theorem dX6_joined_122 : decode cX6_joined 122 = .ok (.if_icmp .ge 7, 3) := by decide +kernel
theorem dX6_joined_125 : decode cX6_joined 125 = .ok (.iconst 1, 1) := by decide +kernel
theorem dX6_joined_126 : decode cX6_joined 126 = .ok (.goto 4, 3) := by decide +kernel
theorem dX6_joined_129 : decode cX6_joined 129 = .ok (.iconst 0, 1) := by decide +kernel
theorem dX6_joined_130 : decode cX6_joined 130 = .ok (.ireturn, 1) := by decide +kernel
theorem dX6_joined_131 : decode cX6_joined 131 = .ok (.iload_n 1, 1) := by decide +kernel
theorem dX6_joined_132 : decode cX6_joined 132 = .ok (.iload_n 2, 1) := by decide +kernel
theorem dX6_joined_133 : decode cX6_joined 133 = .ok (.if_icmp .ne 7, 3) := by decide +kernel
theorem dX6_joined_136 : decode cX6_joined 136 = .ok (.iconst 1, 1) := by decide +kernel
theorem dX6_joined_137 : decode cX6_joined 137 = .ok (.goto 4, 3) := by decide +kernel
theorem dX6_joined_140 : decode cX6_joined 140 = .ok (.iconst 0, 1) := by decide +kernel
theorem dX6_joined_141 : decode cX6_joined 141 = .ok (.ireturn, 1) := by decide +kernel
theorem dX6_joined_142 : decode cX6_joined 142 = .ok (.iload_n 1, 1) := by decide +kernel
theorem dX6_joined_143 : decode cX6_joined 143 = .ok (.iload_n 2, 1) := by decide +kernel
theorem dX6_joined_144 : decode cX6_joined 144 = .ok (.if_icmp .le 7, 3) := by decide +kernel
theorem dX6_joined_147 : decode cX6_joined 147 = .ok (.iconst 1, 1) := by decide +kernel
theorem dX6_joined_148 : decode cX6_joined 148 = .ok (.goto 4, 3) := by decide +kernel
theorem dX6_joined_151 : decode cX6_joined 151 = .ok (.iconst 0, 1) := by decide +kernel
theorem dX6_joined_152 : decode cX6_joined 152 = .ok (.ireturn, 1) := by decide +kernel
theorem dX6_joined_153 : decode cX6_joined 153 = .ok (.iload_n 1, 1) := by decide +kernel
theorem dX6_joined_154 : decode cX6_joined 154 = .ok (.iload_n 2, 1) := by decide +kernel
theorem dX6_joined_155 : decode cX6_joined 155 = .ok (.iadd, 1) := by decide +kernel
theorem dX6_joined_156 : decode cX6_joined 156 = .ok (.ireturn, 1) := by decide +kernel
theorem dX6_joined_157 : decode cX6_joined 157 = .ok (.iload_n 1, 1) := by decide +kernel
theorem dX6_joined_158 : decode cX6_joined 158 = .ok (.iload_n 2, 1) := by decide +kernel
theorem dX6_joined_159 : decode cX6_joined 159 = .ok (.isub, 1) := by decide +kernel
theorem dX6_joined_160 : decode cX6_joined 160 = .ok (.ireturn, 1) := by decide +kernel
theorem dX6_joined_161 : decode cX6_joined 161 = .ok (.iload_n 1, 1) := by decide +kernel
theorem dX6_joined_162 : decode cX6_joined 162 = .ok (.iload_n 2, 1) := by decide +kernel
theorem dX6_joined_163 : decode cX6_joined 163 = .ok (.imul, 1) := by decide +kernel
theorem dX6_joined_164 : decode cX6_joined 164 = .ok (.ireturn, 1) := by decide +kernel
theorem dX6_joined_165 : decode cX6_joined 165 = .ok (.iload_n 2, 1) := by decide +kernel
theorem dX6_joined_166 : decode cX6_joined 166 = .ok (.ifCond .ne 7, 3) := by decide +kernel
theorem dX6_joined_169 : decode cX6_joined 169 = .ok (.iconst 0, 1) := by decide +kernel
theorem dX6_joined_170 : decode cX6_joined 170 = .ok (.goto 6, 3) := by decide +kernel
theorem dX6_joined_173 : decode cX6_joined 173 = .ok (.iload_n 1, 1) := by decide +kernel
theorem dX6_joined_174 : decode cX6_joined 174 = .ok (.iload_n 2, 1) := by decide +kernel
theorem dX6_joined_175 : decode cX6_joined 175 = .ok (.idiv, 1) := by decide +kernel
theorem dX6_joined_176 : decode cX6_joined 176 = .ok (.ireturn, 1) := by decide +kernel
theorem dX6_joined_177 : decode cX6_joined 177 = .ok (.iload_n 2, 1) := by decide +kernel
theorem dX6_joined_178 : decode cX6_joined 178 = .ok (.ifCond .ne 7, 3) := by decide +kernel
theorem dX6_joined_181 : decode cX6_joined 181 = .ok (.iconst 0, 1) := by decide +kernel
theorem dX6_joined_182 : decode cX6_joined 182 = .ok (.goto 6, 3) := by decide +kernel
theorem dX6_joined_185 : decode cX6_joined 185 = .ok (.iload_n 1, 1) := by decide +kernel
theorem dX6_joined_186 : decode cX6_joined 186 = .ok (.iload_n 2, 1) := by decide +kernel
theorem dX6_joined_187 : decode cX6_joined 187 = .ok (.irem, 1) := by decide +kernel
theorem dX6_joined_188 : decode cX6_joined 188 = .ok (.ireturn, 1) := by decide +kernel
theorem dX6_joined_189 : decode cX6_joined 189 = .ok (.iconst 0, 1) := by decide +kernel
theorem dX6_joined_190 : decode cX6_joined 190 = .ok (.ireturn, 1) := by decide +kernel
theorem dX7_init_0 : decode cX7_init 0 = .ok (.aload_n 0, 1) := by decide +kernel
theorem dX7_init_1 : decode cX7_init 1 = .ok (.invokespecial 1, 3) := by decide +kernel
theorem dX7_init_4 : decode cX7_init 4 = .ok (.aload_n 0, 1) := by decide +kernel
theorem dX7_init_5 : decode cX7_init 5 = .ok (.new 7, 3) := by decide +kernel
theorem dX7_init_8 : decode cX7_init 8 = .ok (.dup, 1) := by decide +kernel
theorem dX7_init_9 : decode cX7_init 9 = .ok (.bipush 30, 2) := by decide +kernel
theorem dX7_init_11 : decode cX7_init 11 = .ok (.invokespecial 11, 3) := by decide +kernel
theorem dX7_init_14 : decode cX7_init 14 = .ok (.putfield 14, 3) := by decide +kernel
theorem dX7_init_17 : decode cX7_init 17 = .ok (.aload_n 0, 1) := by decide +kernel
theorem dX7_init_18 : decode cX7_init 18 = .ok (.iconst 0, 1) := by decide +kernel
theorem dX7_init_19 : decode cX7_init 19 = .ok (.putfield 18, 3) := by decide +kernel
theorem dX7_init_22 : decode cX7_init 22 = .ok (.aload_n 0, 1) := by decide +kernel
theorem dX7_init_23 : decode cX7_init 23 = .ok (.iconst 0, 1) := by decide +kernel
theorem dX7_init_24 : decode cX7_init 24 = .ok (.putfield 22, 3) := by decide +kernel
theorem dX7_init_27 : decode cX7_init 27 = .ok (.aload_n 0, 1) := by decide +kernel
theorem dX7_init_28 : decode cX7_init 28 = .ok (.iconst 0, 1) := by decide +kernel
theorem dX7_init_29 : decode cX7_init 29 = .ok (.putfield 25, 3) := by decide +kernel
theorem dX7_init_32 : decode cX7_init 32 = .ok (.aload_n 0, 1) := by decide +kernel
theorem dX7_init_33 : decode cX7_init 33 = .ok (.iconst 0, 1) := by decide +kernel
theorem dX7_init_34 : decode cX7_init 34 = .ok (.putfield 28, 3) := by decide +kernel
theorem dX7_init_37 : decode cX7_init 37 = .ok (.return_, 1) := by decide +kernel
theorem dX7_isVoice_0 : decode cX7_isVoice 0 = .ok (.iload_n 0, 1) := by decide +kernel
theorem dX7_isVoice_1 : decode cX7_isVoice 1 = .ok (.ifCond .lt 12, 3) := by decide +kernel
theorem dX7_isVoice_4 : decode cX7_isVoice 4 = .ok (.iload_n 0, 1) := by decide +kernel
theorem dX7_isVoice_5 : decode cX7_isVoice 5 = .ok (.iconst 4, 1) := by decide +kernel
theorem dX7_isVoice_6 : decode cX7_isVoice 6 = .ok (.if_icmp .ge 7, 3) := by decide +kernel
theorem dX7_isVoice_9 : decode cX7_isVoice 9 = .ok (.iconst 1, 1) := by decide +kernel
theorem dX7_isVoice_10 : decode cX7_isVoice 10 = .ok (.goto 4, 3) := by decide +kernel
theorem dX7_isVoice_13 : decode cX7_isVoice 13 = .ok (.iconst 0, 1) := by decide +kernel
theorem dX7_isVoice_14 : decode cX7_isVoice 14 = .ok (.ireturn, 1) := by decide +kernel
theorem dX7_begin_0 : decode cX7_begin 0 = .ok (.aload_n 0, 1) := by decide +kernel
theorem dX7_begin_1 : decode cX7_begin 1 = .ok (.iload_n 1, 1) := by decide +kernel
theorem dX7_begin_2 : decode cX7_begin 2 = .ok (.putfield 18, 3) := by decide +kernel
theorem dX7_begin_5 : decode cX7_begin 5 = .ok (.aload_n 0, 1) := by decide +kernel
theorem dX7_begin_6 : decode cX7_begin 6 = .ok (.iload_n 2, 1) := by decide +kernel
theorem dX7_begin_7 : decode cX7_begin 7 = .ok (.putfield 22, 3) := by decide +kernel
theorem dX7_begin_10 : decode cX7_begin 10 = .ok (.aload_n 0, 1) := by decide +kernel
theorem dX7_begin_11 : decode cX7_begin 11 = .ok (.iload_n 3, 1) := by decide +kernel
theorem dX7_begin_12 : decode cX7_begin 12 = .ok (.putfield 25, 3) := by decide +kernel
theorem dX7_begin_15 : decode cX7_begin 15 = .ok (.aload_n 0, 1) := by decide +kernel
theorem dX7_begin_16 : decode cX7_begin 16 = .ok (.iconst 0, 1) := by decide +kernel
theorem dX7_begin_17 : decode cX7_begin 17 = .ok (.putfield 28, 3) := by decide +kernel
theorem dX7_begin_20 : decode cX7_begin 20 = .ok (.aload_n 0, 1) := by decide +kernel
theorem dX7_begin_21 : decode cX7_begin 21 = .ok (.getfield 14, 3) := by decide +kernel
theorem dX7_begin_24 : decode cX7_begin 24 = .ok (.invokevirtual 32, 3) := by decide +kernel
theorem dX7_begin_27 : decode cX7_begin 27 = .ok (.return_, 1) := by decide +kernel
theorem dX7_speak_0 : decode cX7_speak 0 = .ok (.aload_n 0, 1) := by decide +kernel
theorem dX7_speak_1 : decode cX7_speak 1 = .ok (.aload_n 0, 1) := by decide +kernel
theorem dX7_speak_2 : decode cX7_speak 2 = .ok (.getfield 18, 3) := by decide +kernel
theorem dX7_speak_5 : decode cX7_speak 5 = .ok (.iload_n 1, 1) := by decide +kernel
theorem dX7_speak_6 : decode cX7_speak 6 = .ok (.iload_n 2, 1) := by decide +kernel
theorem dX7_speak_7 : decode cX7_speak 7 = .ok (.iconst 0, 1) := by decide +kernel
theorem dX7_speak_8 : decode cX7_speak 8 = .ok (.invokevirtual 35, 3) := by decide +kernel
theorem dX7_speak_11 : decode cX7_speak 11 = .ok (.ireturn, 1) := by decide +kernel
theorem dX7_spoken_0 : decode cX7_spoken 0 = .ok (.iload_n 1, 1) := by decide +kernel
theorem dX7_spoken_1 : decode cX7_spoken 1 = .ok (.istore 5, 2) := by decide +kernel
theorem dX7_spoken_3 : decode cX7_spoken 3 = .ok (.iconst 0, 1) := by decide +kernel
theorem dX7_spoken_4 : decode cX7_spoken 4 = .ok (.istore 6, 2) := by decide +kernel
theorem dX7_spoken_6 : decode cX7_spoken 6 = .ok (.iload 6, 2) := by decide +kernel
theorem dX7_spoken_8 : decode cX7_spoken 8 = .ok (.bipush 40, 2) := by decide +kernel
theorem dX7_spoken_10 : decode cX7_spoken 10 = .ok (.if_icmp .ge 75, 3) := by decide +kernel
theorem dX7_spoken_13 : decode cX7_spoken 13 = .ok (.iload 5, 2) := by decide +kernel
theorem dX7_spoken_15 : decode cX7_spoken 15 = .ok (.invokestatic 39, 3) := by decide +kernel
theorem dX7_spoken_18 : decode cX7_spoken 18 = .ok (.ifCond .eq 67, 3) := by decide +kernel
theorem dX7_spoken_21 : decode cX7_spoken 21 = .ok (.getstatic 45, 3) := by decide +kernel
theorem dX7_spoken_24 : decode cX7_spoken 24 = .ok (.iload 5, 2) := by decide +kernel
theorem dX7_spoken_26 : decode cX7_spoken 26 = .ok (.iconst 4, 1) := by decide +kernel
theorem dX7_spoken_27 : decode cX7_spoken 27 = .ok (.imul, 1) := by decide +kernel
theorem dX7_spoken_28 : decode cX7_spoken 28 = .ok (.iload_n 2, 1) := by decide +kernel
theorem dX7_spoken_29 : decode cX7_spoken 29 = .ok (.iadd, 1) := by decide +kernel
theorem dX7_spoken_30 : decode cX7_spoken 30 = .ok (.iaload, 1) := by decide +kernel
theorem dX7_spoken_31 : decode cX7_spoken 31 = .ok (.istore 7, 2) := by decide +kernel
theorem dX7_spoken_33 : decode cX7_spoken 33 = .ok (.iload 7, 2) := by decide +kernel
theorem dX7_spoken_35 : decode cX7_spoken 35 = .ok (.ifCond .eq 37, 3) := by decide +kernel
theorem dX7_spoken_38 : decode cX7_spoken 38 = .ok (.aload_n 0, 1) := by decide +kernel
theorem dX7_spoken_39 : decode cX7_spoken 39 = .ok (.getfield 14, 3) := by decide +kernel
theorem dX7_spoken_42 : decode cX7_spoken 42 = .ok (.iload 7, 2) := by decide +kernel
theorem dX7_spoken_44 : decode cX7_spoken 44 = .ok (.invokevirtual 49, 3) := by decide +kernel
theorem dX7_spoken_47 : decode cX7_spoken 47 = .ok (.iload 4, 2) := by decide +kernel
theorem dX7_spoken_49 : decode cX7_spoken 49 = .ok (.bipush 40, 2) := by decide +kernel
theorem dX7_spoken_51 : decode cX7_spoken 51 = .ok (.if_icmp .ge 19, 3) := by decide +kernel
theorem dX7_spoken_54 : decode cX7_spoken 54 = .ok (.aload_n 0, 1) := by decide +kernel
theorem dX7_spoken_55 : decode cX7_spoken 55 = .ok (.iload 7, 2) := by decide +kernel
theorem dX7_spoken_57 : decode cX7_spoken 57 = .ok (.iload 5, 2) := by decide +kernel
theorem dX7_spoken_59 : decode cX7_spoken 59 = .ok (.iload_n 3, 1) := by decide +kernel
theorem dX7_spoken_60 : decode cX7_spoken 60 = .ok (.iload 4, 2) := by decide +kernel
theorem dX7_spoken_62 : decode cX7_spoken 62 = .ok (.iconst 1, 1) := by decide +kernel
theorem dX7_spoken_63 : decode cX7_spoken 63 = .ok (.iadd, 1) := by decide +kernel
theorem dX7_spoken_64 : decode cX7_spoken 64 = .ok (.invokevirtual 52, 3) := by decide +kernel
theorem dX7_spoken_67 : decode cX7_spoken 67 = .ok (.goto 4, 3) := by decide +kernel
theorem dX7_spoken_70 : decode cX7_spoken 70 = .ok (.iconst 0, 1) := by decide +kernel
theorem dX7_spoken_71 : decode cX7_spoken 71 = .ok (.ireturn, 1) := by decide +kernel
theorem dX7_spoken_72 : decode cX7_spoken 72 = .ok (.iload 5, 2) := by decide +kernel
theorem dX7_spoken_74 : decode cX7_spoken 74 = .ok (.invokestatic 55, 3) := by decide +kernel
theorem dX7_spoken_77 : decode cX7_spoken 77 = .ok (.istore 5, 2) := by decide +kernel
theorem dX7_spoken_79 : decode cX7_spoken 79 = .ok (.iinc 6 1, 3) := by decide +kernel
theorem dX7_spoken_82 : decode cX7_spoken 82 = .ok (.goto (-76), 3) := by decide +kernel
theorem dX7_spoken_85 : decode cX7_spoken 85 = .ok (.iconst 0, 1) := by decide +kernel
theorem dX7_spoken_86 : decode cX7_spoken 86 = .ok (.ireturn, 1) := by decide +kernel
theorem dX7_own_0 : decode cX7_own 0 = .ok (.aload_n 0, 1) := by decide +kernel
theorem dX7_own_1 : decode cX7_own 1 = .ok (.aload_n 0, 1) := by decide +kernel
theorem dX7_own_2 : decode cX7_own 2 = .ok (.getfield 18, 3) := by decide +kernel
theorem dX7_own_5 : decode cX7_own 5 = .ok (.iload_n 1, 1) := by decide +kernel
theorem dX7_own_6 : decode cX7_own 6 = .ok (.iload_n 2, 1) := by decide +kernel
theorem dX7_own_7 : decode cX7_own 7 = .ok (.iload_n 3, 1) := by decide +kernel
theorem dX7_own_8 : decode cX7_own 8 = .ok (.invokevirtual 35, 3) := by decide +kernel
theorem dX7_own_11 : decode cX7_own 11 = .ok (.ireturn, 1) := by decide +kernel
theorem dX7_worked_0 : decode cX7_worked 0 = .ok (.iload_n 2, 1) := by decide +kernel
theorem dX7_worked_1 : decode cX7_worked 1 = .ok (.invokestatic 55, 3) := by decide +kernel
theorem dX7_worked_4 : decode cX7_worked 4 = .ok (.istore 5, 2) := by decide +kernel
theorem dX7_worked_6 : decode cX7_worked 6 = .ok (.iload_n 1, 1) := by decide +kernel
theorem dX7_worked_7 : decode cX7_worked 7 = .ok (.lookupswitch 270 #[(10, 113), (11, 120), (12, 131), (13, 145), (20, 160), (21, 173), (30, 183), (40, 196), (50, 209), (51, 222), (60, 238), (70, 251), (71, 254)], 113) := by decide +kernel
theorem dX7_worked_120 : decode cX7_worked 120 = .ok (.iload_n 3, 1) := by decide +kernel
theorem dX7_worked_121 : decode cX7_worked 121 = .ok (.aload_n 0, 1) := by decide +kernel
theorem dX7_worked_122 : decode cX7_worked 122 = .ok (.getfield 22, 3) := by decide +kernel
theorem dX7_worked_125 : decode cX7_worked 125 = .ok (.iadd, 1) := by decide +kernel
theorem dX7_worked_126 : decode cX7_worked 126 = .ok (.ireturn, 1) := by decide +kernel
theorem dX7_worked_127 : decode cX7_worked 127 = .ok (.aload_n 0, 1) := by decide +kernel
theorem dX7_worked_128 : decode cX7_worked 128 = .ok (.iconst 0, 1) := by decide +kernel
theorem dX7_worked_129 : decode cX7_worked 129 = .ok (.iload_n 3, 1) := by decide +kernel
theorem dX7_worked_130 : decode cX7_worked 130 = .ok (.iload 4, 2) := by decide +kernel
theorem dX7_worked_132 : decode cX7_worked 132 = .ok (.invokevirtual 59, 3) := by decide +kernel
theorem dX7_worked_135 : decode cX7_worked 135 = .ok (.iconst 2, 1) := by decide +kernel
theorem dX7_worked_136 : decode cX7_worked 136 = .ok (.imul, 1) := by decide +kernel
theorem dX7_worked_137 : decode cX7_worked 137 = .ok (.ireturn, 1) := by decide +kernel
theorem dX7_worked_138 : decode cX7_worked 138 = .ok (.aload_n 0, 1) := by decide +kernel
theorem dX7_worked_139 : decode cX7_worked 139 = .ok (.iconst 1, 1) := by decide +kernel
theorem dX7_worked_140 : decode cX7_worked 140 = .ok (.iload_n 3, 1) := by decide +kernel
theorem dX7_worked_141 : decode cX7_worked 141 = .ok (.iload 4, 2) := by decide +kernel
theorem dX7_worked_143 : decode cX7_worked 143 = .ok (.invokevirtual 59, 3) := by decide +kernel
theorem dX7_worked_146 : decode cX7_worked 146 = .ok (.aload_n 0, 1) := by decide +kernel
theorem dX7_worked_147 : decode cX7_worked 147 = .ok (.getfield 25, 3) := by decide +kernel
theorem dX7_worked_150 : decode cX7_worked 150 = .ok (.isub, 1) := by decide +kernel
theorem dX7_worked_151 : decode cX7_worked 151 = .ok (.ireturn, 1) := by decide +kernel
theorem dX7_worked_152 : decode cX7_worked 152 = .ok (.aload_n 0, 1) := by decide +kernel
theorem dX7_worked_153 : decode cX7_worked 153 = .ok (.iload_n 3, 1) := by decide +kernel
theorem dX7_worked_154 : decode cX7_worked 154 = .ok (.aload_n 0, 1) := by decide +kernel
theorem dX7_worked_155 : decode cX7_worked 155 = .ok (.getfield 25, 3) := by decide +kernel
theorem dX7_worked_158 : decode cX7_worked 158 = .ok (.aload_n 0, 1) := by decide +kernel
theorem dX7_worked_159 : decode cX7_worked 159 = .ok (.getfield 22, 3) := by decide +kernel
theorem dX7_worked_162 : decode cX7_worked 162 = .ok (.isub, 1) := by decide +kernel
theorem dX7_worked_163 : decode cX7_worked 163 = .ok (.invokevirtual 63, 3) := by decide +kernel
theorem dX7_worked_166 : decode cX7_worked 166 = .ok (.ireturn, 1) := by decide +kernel
theorem dX7_worked_167 : decode cX7_worked 167 = .ok (.aload_n 0, 1) := by decide +kernel
theorem dX7_worked_168 : decode cX7_worked 168 = .ok (.iload 5, 2) := by decide +kernel
theorem dX7_worked_170 : decode cX7_worked 170 = .ok (.iconst 0, 1) := by decide +kernel
theorem dX7_worked_171 : decode cX7_worked 171 = .ok (.iload_n 3, 1) := by decide +kernel
theorem dX7_worked_172 : decode cX7_worked 172 = .ok (.iload 4, 2) := by decide +kernel
theorem dX7_worked_174 : decode cX7_worked 174 = .ok (.invokevirtual 35, 3) := by decide +kernel
theorem dX7_worked_177 : decode cX7_worked 177 = .ok (.iconst 4, 1) := by decide +kernel
theorem dX7_worked_178 : decode cX7_worked 178 = .ok (.isub, 1) := by decide +kernel
theorem dX7_worked_179 : decode cX7_worked 179 = .ok (.ireturn, 1) := by decide +kernel
theorem dX7_worked_180 : decode cX7_worked 180 = .ok (.aload_n 0, 1) := by decide +kernel
theorem dX7_worked_181 : decode cX7_worked 181 = .ok (.iload 5, 2) := by decide +kernel
theorem dX7_worked_183 : decode cX7_worked 183 = .ok (.iload_n 3, 1) := by decide +kernel
theorem dX7_worked_184 : decode cX7_worked 184 = .ok (.iload 4, 2) := by decide +kernel
theorem dX7_worked_186 : decode cX7_worked 186 = .ok (.invokevirtual 67, 3) := by decide +kernel
theorem dX7_worked_189 : decode cX7_worked 189 = .ok (.ireturn, 1) := by decide +kernel
theorem dX7_worked_190 : decode cX7_worked 190 = .ok (.iconst 0, 1) := by decide +kernel
theorem dX7_worked_191 : decode cX7_worked 191 = .ok (.aload_n 0, 1) := by decide +kernel
theorem dX7_worked_192 : decode cX7_worked 192 = .ok (.iload 5, 2) := by decide +kernel
theorem dX7_worked_194 : decode cX7_worked 194 = .ok (.iconst 1, 1) := by decide +kernel
theorem dX7_worked_195 : decode cX7_worked 195 = .ok (.iload_n 3, 1) := by decide +kernel
theorem dX7_worked_196 : decode cX7_worked 196 = .ok (.iload 4, 2) := by decide +kernel
theorem dX7_worked_198 : decode cX7_worked 198 = .ok (.invokevirtual 35, 3) := by decide +kernel
theorem dX7_worked_201 : decode cX7_worked 201 = .ok (.isub, 1) := by decide +kernel
theorem dX7_worked_202 : decode cX7_worked 202 = .ok (.ireturn, 1) := by decide +kernel
theorem dX7_worked_203 : decode cX7_worked 203 = .ok (.aload_n 0, 1) := by decide +kernel
theorem dX7_worked_204 : decode cX7_worked 204 = .ok (.iload 5, 2) := by decide +kernel
theorem dX7_worked_206 : decode cX7_worked 206 = .ok (.iconst 2, 1) := by decide +kernel
theorem dX7_worked_207 : decode cX7_worked 207 = .ok (.iload_n 3, 1) := by decide +kernel
theorem dX7_worked_208 : decode cX7_worked 208 = .ok (.iconst 2, 1) := by decide +kernel
theorem dX7_worked_209 : decode cX7_worked 209 = .ok (.idiv, 1) := by decide +kernel
theorem dX7_worked_210 : decode cX7_worked 210 = .ok (.iload 4, 2) := by decide +kernel
theorem dX7_worked_212 : decode cX7_worked 212 = .ok (.invokevirtual 35, 3) := by decide +kernel
theorem dX7_worked_215 : decode cX7_worked 215 = .ok (.ireturn, 1) := by decide +kernel
theorem dX7_worked_216 : decode cX7_worked 216 = .ok (.aload_n 0, 1) := by decide +kernel
theorem dX7_worked_217 : decode cX7_worked 217 = .ok (.iload 5, 2) := by decide +kernel
theorem dX7_worked_219 : decode cX7_worked 219 = .ok (.iconst 0, 1) := by decide +kernel
theorem dX7_worked_220 : decode cX7_worked 220 = .ok (.iload_n 3, 1) := by decide +kernel
theorem dX7_worked_221 : decode cX7_worked 221 = .ok (.iload 4, 2) := by decide +kernel
theorem dX7_worked_223 : decode cX7_worked 223 = .ok (.invokevirtual 35, 3) := by decide +kernel
theorem dX7_worked_226 : decode cX7_worked 226 = .ok (.iconst 3, 1) := by decide +kernel
theorem dX7_worked_227 : decode cX7_worked 227 = .ok (.imul, 1) := by decide +kernel
theorem dX7_worked_228 : decode cX7_worked 228 = .ok (.ireturn, 1) := by decide +kernel
theorem dX7_worked_229 : decode cX7_worked 229 = .ok (.aload_n 0, 1) := by decide +kernel
theorem dX7_worked_230 : decode cX7_worked 230 = .ok (.iload 5, 2) := by decide +kernel
theorem dX7_worked_232 : decode cX7_worked 232 = .ok (.iconst 2, 1) := by decide +kernel
theorem dX7_worked_233 : decode cX7_worked 233 = .ok (.iload_n 3, 1) := by decide +kernel
theorem dX7_worked_234 : decode cX7_worked 234 = .ok (.iload 4, 2) := by decide +kernel
theorem dX7_worked_236 : decode cX7_worked 236 = .ok (.invokevirtual 35, 3) := by decide +kernel
theorem dX7_worked_239 : decode cX7_worked 239 = .ok (.aload_n 0, 1) := by decide +kernel
theorem dX7_worked_240 : decode cX7_worked 240 = .ok (.getfield 22, 3) := by decide +kernel
theorem dX7_worked_243 : decode cX7_worked 243 = .ok (.ixor, 1) := by decide +kernel
theorem dX7_worked_244 : decode cX7_worked 244 = .ok (.ireturn, 1) := by decide +kernel
theorem dX7_worked_245 : decode cX7_worked 245 = .ok (.aload_n 0, 1) := by decide +kernel
theorem dX7_worked_246 : decode cX7_worked 246 = .ok (.iload 5, 2) := by decide +kernel
theorem dX7_worked_248 : decode cX7_worked 248 = .ok (.iconst 1, 1) := by decide +kernel
theorem dX7_worked_249 : decode cX7_worked 249 = .ok (.iload_n 3, 1) := by decide +kernel
theorem dX7_worked_250 : decode cX7_worked 250 = .ok (.iconst 1, 1) := by decide +kernel
theorem dX7_worked_251 : decode cX7_worked 251 = .ok (.iadd, 1) := by decide +kernel
theorem dX7_worked_252 : decode cX7_worked 252 = .ok (.iload 4, 2) := by decide +kernel
theorem dX7_worked_254 : decode cX7_worked 254 = .ok (.invokevirtual 35, 3) := by decide +kernel
theorem dX7_worked_257 : decode cX7_worked 257 = .ok (.ireturn, 1) := by decide +kernel
theorem dX7_worked_258 : decode cX7_worked 258 = .ok (.bipush 9, 2) := by decide +kernel
theorem dX7_worked_260 : decode cX7_worked 260 = .ok (.ireturn, 1) := by decide +kernel
theorem dX7_worked_261 : decode cX7_worked 261 = .ok (.aload_n 0, 1) := by decide +kernel
theorem dX7_worked_262 : decode cX7_worked 262 = .ok (.iload 5, 2) := by decide +kernel
theorem dX7_worked_264 : decode cX7_worked 264 = .ok (.iconst 1, 1) := by decide +kernel
theorem dX7_worked_265 : decode cX7_worked 265 = .ok (.iload_n 3, 1) := by decide +kernel
theorem dX7_worked_266 : decode cX7_worked 266 = .ok (.iload 4, 2) := by decide +kernel
theorem dX7_worked_268 : decode cX7_worked 268 = .ok (.invokevirtual 35, 3) := by decide +kernel
theorem dX7_worked_271 : decode cX7_worked 271 = .ok (.aload_n 0, 1) := by decide +kernel
theorem dX7_worked_272 : decode cX7_worked 272 = .ok (.getfield 25, 3) := by decide +kernel
theorem dX7_worked_275 : decode cX7_worked 275 = .ok (.iadd, 1) := by decide +kernel
theorem dX7_worked_276 : decode cX7_worked 276 = .ok (.ireturn, 1) := by decide +kernel
theorem dX7_worked_277 : decode cX7_worked 277 = .ok (.iconst 0, 1) := by decide +kernel
theorem dX7_worked_278 : decode cX7_worked 278 = .ok (.ireturn, 1) := by decide +kernel
theorem dX7_partsBy_0 : decode cX7_partsBy 0 = .ok (.iload_n 2, 1) := by decide +kernel
theorem dX7_partsBy_1 : decode cX7_partsBy 1 = .ok (.ifCond .ne 10, 3) := by decide +kernel
theorem dX7_partsBy_4 : decode cX7_partsBy 4 = .ok (.aload_n 0, 1) := by decide +kernel
theorem dX7_partsBy_5 : decode cX7_partsBy 5 = .ok (.iconst 1, 1) := by decide +kernel
theorem dX7_partsBy_6 : decode cX7_partsBy 6 = .ok (.putfield 28, 3) := by decide +kernel
theorem dX7_partsBy_9 : decode cX7_partsBy 9 = .ok (.iconst 0, 1) := by decide +kernel
theorem dX7_partsBy_10 : decode cX7_partsBy 10 = .ok (.ireturn, 1) := by decide +kernel
theorem dX7_partsBy_11 : decode cX7_partsBy 11 = .ok (.iload_n 1, 1) := by decide +kernel
theorem dX7_partsBy_12 : decode cX7_partsBy 12 = .ok (.iload_n 2, 1) := by decide +kernel
theorem dX7_partsBy_13 : decode cX7_partsBy 13 = .ok (.idiv, 1) := by decide +kernel
theorem dX7_partsBy_14 : decode cX7_partsBy 14 = .ok (.ireturn, 1) := by decide +kernel
theorem dX7_heiressParts_0 : decode cX7_heiressParts 0 = .ok (.aload_n 0, 1) := by decide +kernel
theorem dX7_heiressParts_1 : decode cX7_heiressParts 1 = .ok (.iload_n 1, 1) := by decide +kernel
theorem dX7_heiressParts_2 : decode cX7_heiressParts 2 = .ok (.iconst 3, 1) := by decide +kernel
theorem dX7_heiressParts_3 : decode cX7_heiressParts 3 = .ok (.iload_n 2, 1) := by decide +kernel
theorem dX7_heiressParts_4 : decode cX7_heiressParts 4 = .ok (.iload_n 3, 1) := by decide +kernel
theorem dX7_heiressParts_5 : decode cX7_heiressParts 5 = .ok (.invokevirtual 35, 3) := by decide +kernel
theorem dX7_heiressParts_8 : decode cX7_heiressParts 8 = .ok (.istore 4, 2) := by decide +kernel
theorem dX7_heiressParts_10 : decode cX7_heiressParts 10 = .ok (.aload_n 0, 1) := by decide +kernel
theorem dX7_heiressParts_11 : decode cX7_heiressParts 11 = .ok (.getfield 28, 3) := by decide +kernel
theorem dX7_heiressParts_14 : decode cX7_heiressParts 14 = .ok (.ifCond .eq 7, 3) := by decide +kernel
theorem dX7_heiressParts_17 : decode cX7_heiressParts 17 = .ok (.iconst 0, 1) := by decide +kernel
theorem dX7_heiressParts_18 : decode cX7_heiressParts 18 = .ok (.goto 13, 3) := by decide +kernel
theorem dX7_heiressParts_21 : decode cX7_heiressParts 21 = .ok (.iload 4, 2) := by decide +kernel
theorem dX7_heiressParts_23 : decode cX7_heiressParts 23 = .ok (.aload_n 0, 1) := by decide +kernel
theorem dX7_heiressParts_24 : decode cX7_heiressParts 24 = .ok (.iconst 1, 1) := by decide +kernel
theorem dX7_heiressParts_25 : decode cX7_heiressParts 25 = .ok (.iconst 1, 1) := by decide +kernel
theorem dX7_heiressParts_26 : decode cX7_heiressParts 26 = .ok (.iload_n 3, 1) := by decide +kernel
theorem dX7_heiressParts_27 : decode cX7_heiressParts 27 = .ok (.invokevirtual 59, 3) := by decide +kernel
theorem dX7_heiressParts_30 : decode cX7_heiressParts 30 = .ok (.iadd, 1) := by decide +kernel
theorem dX7_heiressParts_31 : decode cX7_heiressParts 31 = .ok (.ireturn, 1) := by decide +kernel
theorem dX8_init_0 : decode cX8_init 0 = .ok (.aload_n 0, 1) := by decide +kernel
theorem dX8_init_1 : decode cX8_init 1 = .ok (.invokespecial 3, 3) := by decide +kernel
theorem dX8_init_4 : decode cX8_init 4 = .ok (.aload_n 0, 1) := by decide +kernel
theorem dX8_init_5 : decode cX8_init 5 = .ok (.new 9, 3) := by decide +kernel
theorem dX8_init_8 : decode cX8_init 8 = .ok (.dup, 1) := by decide +kernel
theorem dX8_init_9 : decode cX8_init 9 = .ok (.invokespecial 11, 3) := by decide +kernel
theorem dX8_init_12 : decode cX8_init 12 = .ok (.putfield 12, 3) := by decide +kernel
theorem dX8_init_15 : decode cX8_init 15 = .ok (.aload_n 0, 1) := by decide +kernel
theorem dX8_init_16 : decode cX8_init 16 = .ok (.new 18, 3) := by decide +kernel
theorem dX8_init_19 : decode cX8_init 19 = .ok (.dup, 1) := by decide +kernel
theorem dX8_init_20 : decode cX8_init 20 = .ok (.invokespecial 20, 3) := by decide +kernel
theorem dX8_init_23 : decode cX8_init 23 = .ok (.putfield 21, 3) := by decide +kernel
theorem dX8_init_26 : decode cX8_init 26 = .ok (.aload_n 0, 1) := by decide +kernel
theorem dX8_init_27 : decode cX8_init 27 = .ok (.bipush 6, 2) := by decide +kernel
theorem dX8_init_29 : decode cX8_init 29 = .ok (.newarray .int, 2) := by decide +kernel
theorem dX8_init_31 : decode cX8_init 31 = .ok (.putfield 25, 3) := by decide +kernel
theorem dX8_init_34 : decode cX8_init 34 = .ok (.aload_n 0, 1) := by decide +kernel
theorem dX8_init_35 : decode cX8_init 35 = .ok (.bipush 6, 2) := by decide +kernel
theorem dX8_init_37 : decode cX8_init 37 = .ok (.newarray .int, 2) := by decide +kernel
theorem dX8_init_39 : decode cX8_init 39 = .ok (.putfield 29, 3) := by decide +kernel
theorem dX8_init_42 : decode cX8_init 42 = .ok (.iconst 0, 1) := by decide +kernel
theorem dX8_init_43 : decode cX8_init 43 = .ok (.istore_n 1, 1) := by decide +kernel
theorem dX8_init_44 : decode cX8_init 44 = .ok (.iload_n 1, 1) := by decide +kernel
theorem dX8_init_45 : decode cX8_init 45 = .ok (.bipush 6, 2) := by decide +kernel
theorem dX8_init_47 : decode cX8_init 47 = .ok (.if_icmp .ge 16, 3) := by decide +kernel
theorem dX8_init_50 : decode cX8_init 50 = .ok (.aload_n 0, 1) := by decide +kernel
theorem dX8_init_51 : decode cX8_init 51 = .ok (.getfield 29, 3) := by decide +kernel
theorem dX8_init_54 : decode cX8_init 54 = .ok (.iload_n 1, 1) := by decide +kernel
theorem dX8_init_55 : decode cX8_init 55 = .ok (.iconst 1, 1) := by decide +kernel
theorem dX8_init_56 : decode cX8_init 56 = .ok (.iastore, 1) := by decide +kernel
theorem dX8_init_57 : decode cX8_init 57 = .ok (.iinc 1 1, 3) := by decide +kernel
theorem dX8_init_60 : decode cX8_init 60 = .ok (.goto (-16), 3) := by decide +kernel
theorem dX8_init_63 : decode cX8_init 63 = .ok (.aload_n 0, 1) := by decide +kernel
theorem dX8_init_64 : decode cX8_init 64 = .ok (.iconst 2, 1) := by decide +kernel
theorem dX8_init_65 : decode cX8_init 65 = .ok (.anewarray 32, 3) := by decide +kernel
theorem dX8_init_68 : decode cX8_init 68 = .ok (.putfield 34, 3) := by decide +kernel
theorem dX8_init_71 : decode cX8_init 71 = .ok (.iconst 0, 1) := by decide +kernel
theorem dX8_init_72 : decode cX8_init 72 = .ok (.istore_n 1, 1) := by decide +kernel
theorem dX8_init_73 : decode cX8_init 73 = .ok (.iload_n 1, 1) := by decide +kernel
theorem dX8_init_74 : decode cX8_init 74 = .ok (.iconst 2, 1) := by decide +kernel
theorem dX8_init_75 : decode cX8_init 75 = .ok (.if_icmp .ge 22, 3) := by decide +kernel
theorem dX8_init_78 : decode cX8_init 78 = .ok (.aload_n 0, 1) := by decide +kernel
theorem dX8_init_79 : decode cX8_init 79 = .ok (.getfield 34, 3) := by decide +kernel
theorem dX8_init_82 : decode cX8_init 82 = .ok (.iload_n 1, 1) := by decide +kernel
theorem dX8_init_83 : decode cX8_init 83 = .ok (.new 32, 3) := by decide +kernel
theorem dX8_init_86 : decode cX8_init 86 = .ok (.dup, 1) := by decide +kernel
theorem dX8_init_87 : decode cX8_init 87 = .ok (.invokespecial 38, 3) := by decide +kernel
theorem dX8_init_90 : decode cX8_init 90 = .ok (.aastore, 1) := by decide +kernel
theorem dX8_init_91 : decode cX8_init 91 = .ok (.iinc 1 1, 3) := by decide +kernel
theorem dX8_init_94 : decode cX8_init 94 = .ok (.goto (-21), 3) := by decide +kernel
theorem dX8_init_97 : decode cX8_init 97 = .ok (.aload_n 0, 1) := by decide +kernel
theorem dX8_init_98 : decode cX8_init 98 = .ok (.new 39, 3) := by decide +kernel
theorem dX8_init_101 : decode cX8_init 101 = .ok (.dup, 1) := by decide +kernel
theorem dX8_init_102 : decode cX8_init 102 = .ok (.bipush 60, 2) := by decide +kernel
theorem dX8_init_104 : decode cX8_init 104 = .ok (.invokespecial 41, 3) := by decide +kernel
theorem dX8_init_107 : decode cX8_init 107 = .ok (.putfield 44, 3) := by decide +kernel
theorem dX8_init_110 : decode cX8_init 110 = .ok (.aload_n 0, 1) := by decide +kernel
theorem dX8_init_111 : decode cX8_init 111 = .ok (.new 39, 3) := by decide +kernel
theorem dX8_init_114 : decode cX8_init 114 = .ok (.dup, 1) := by decide +kernel
theorem dX8_init_115 : decode cX8_init 115 = .ok (.bipush 24, 2) := by decide +kernel
theorem dX8_init_117 : decode cX8_init 117 = .ok (.invokespecial 41, 3) := by decide +kernel
theorem dX8_init_120 : decode cX8_init 120 = .ok (.putfield 48, 3) := by decide +kernel
theorem dX8_init_123 : decode cX8_init 123 = .ok (.aload_n 0, 1) := by decide +kernel
theorem dX8_init_124 : decode cX8_init 124 = .ok (.iconst 1, 1) := by decide +kernel
theorem dX8_init_125 : decode cX8_init 125 = .ok (.putfield 51, 3) := by decide +kernel
theorem dX8_init_128 : decode cX8_init 128 = .ok (.return_, 1) := by decide +kernel
theorem dX8_gives_0 : decode cX8_gives 0 = .ok (.aload_n 0, 1) := by decide +kernel
theorem dX8_gives_1 : decode cX8_gives 1 = .ok (.getfield 34, 3) := by decide +kernel
theorem dX8_gives_4 : decode cX8_gives 4 = .ok (.iload_n 1, 1) := by decide +kernel
theorem dX8_gives_5 : decode cX8_gives 5 = .ok (.aaload, 1) := by decide +kernel
theorem dX8_gives_6 : decode cX8_gives 6 = .ok (.invokevirtual 55, 3) := by decide +kernel
theorem dX8_gives_9 : decode cX8_gives 9 = .ok (.ifCond .eq 19, 3) := by decide +kernel
theorem dX8_gives_12 : decode cX8_gives 12 = .ok (.aload_n 0, 1) := by decide +kernel
theorem dX8_gives_13 : decode cX8_gives 13 = .ok (.getfield 34, 3) := by decide +kernel
theorem dX8_gives_16 : decode cX8_gives 16 = .ok (.iload_n 1, 1) := by decide +kernel
theorem dX8_gives_17 : decode cX8_gives 17 = .ok (.aaload, 1) := by decide +kernel
theorem dX8_gives_18 : decode cX8_gives 18 = .ok (.iload_n 2, 1) := by decide +kernel
theorem dX8_gives_19 : decode cX8_gives 19 = .ok (.iload_n 3, 1) := by decide +kernel
theorem dX8_gives_20 : decode cX8_gives 20 = .ok (.iload 4, 2) := by decide +kernel
theorem dX8_gives_22 : decode cX8_gives 22 = .ok (.invokevirtual 59, 3) := by decide +kernel
theorem dX8_gives_25 : decode cX8_gives 25 = .ok (.goto 4, 3) := by decide +kernel
theorem dX8_gives_28 : decode cX8_gives 28 = .ok (.iload_n 2, 1) := by decide +kernel
theorem dX8_gives_29 : decode cX8_gives 29 = .ok (.istore 5, 2) := by decide +kernel
theorem dX8_gives_31 : decode cX8_gives 31 = .ok (.iconst 0, 1) := by decide +kernel
theorem dX8_gives_32 : decode cX8_gives 32 = .ok (.iload 5, 2) := by decide +kernel
theorem dX8_gives_34 : decode cX8_gives 34 = .ok (.bipush 40, 2) := by decide +kernel
theorem dX8_gives_36 : decode cX8_gives 36 = .ok (.invokestatic 63, 3) := by decide +kernel
theorem dX8_gives_39 : decode cX8_gives 39 = .ok (.invokestatic 69, 3) := by decide +kernel
theorem dX8_gives_42 : decode cX8_gives 42 = .ok (.ireturn, 1) := by decide +kernel
theorem dX8_veilsOf_0 : decode cX8_veilsOf 0 = .ok (.aload_n 0, 1) := by decide +kernel
theorem dX8_veilsOf_1 : decode cX8_veilsOf 1 = .ok (.getfield 12, 3) := by decide +kernel
theorem dX8_veilsOf_4 : decode cX8_veilsOf 4 = .ok (.iload_n 1, 1) := by decide +kernel
theorem dX8_veilsOf_5 : decode cX8_veilsOf 5 = .ok (.iload_n 2, 1) := by decide +kernel
theorem dX8_veilsOf_6 : decode cX8_veilsOf 6 = .ok (.invokevirtual 72, 3) := by decide +kernel
theorem dX8_veilsOf_9 : decode cX8_veilsOf 9 = .ok (.istore 4, 2) := by decide +kernel
theorem dX8_veilsOf_11 : decode cX8_veilsOf 11 = .ok (.aload_n 0, 1) := by decide +kernel
theorem dX8_veilsOf_12 : decode cX8_veilsOf 12 = .ok (.getfield 12, 3) := by decide +kernel
theorem dX8_veilsOf_15 : decode cX8_veilsOf 15 = .ok (.getfield 75, 3) := by decide +kernel
theorem dX8_veilsOf_18 : decode cX8_veilsOf 18 = .ok (.iload_n 1, 1) := by decide +kernel
theorem dX8_veilsOf_19 : decode cX8_veilsOf 19 = .ok (.iaload, 1) := by decide +kernel
theorem dX8_veilsOf_20 : decode cX8_veilsOf 20 = .ok (.aload_n 0, 1) := by decide +kernel
theorem dX8_veilsOf_21 : decode cX8_veilsOf 21 = .ok (.getfield 12, 3) := by decide +kernel
theorem dX8_veilsOf_24 : decode cX8_veilsOf 24 = .ok (.getfield 78, 3) := by decide +kernel
theorem dX8_veilsOf_27 : decode cX8_veilsOf 27 = .ok (.iload_n 1, 1) := by decide +kernel
theorem dX8_veilsOf_28 : decode cX8_veilsOf 28 = .ok (.iaload, 1) := by decide +kernel
theorem dX8_veilsOf_29 : decode cX8_veilsOf 29 = .ok (.iload 4, 2) := by decide +kernel
theorem dX8_veilsOf_31 : decode cX8_veilsOf 31 = .ok (.invokestatic 81, 3) := by decide +kernel
theorem dX8_veilsOf_34 : decode cX8_veilsOf 34 = .ok (.istore 5, 2) := by decide +kernel
theorem dX8_veilsOf_36 : decode cX8_veilsOf 36 = .ok (.aload_n 0, 1) := by decide +kernel
theorem dX8_veilsOf_37 : decode cX8_veilsOf 37 = .ok (.iconst 0, 1) := by decide +kernel
theorem dX8_veilsOf_38 : decode cX8_veilsOf 38 = .ok (.iload 5, 2) := by decide +kernel
theorem dX8_veilsOf_40 : decode cX8_veilsOf 40 = .ok (.iload 4, 2) := by decide +kernel
theorem dX8_veilsOf_42 : decode cX8_veilsOf 42 = .ok (.aload_n 3, 1) := by decide +kernel
theorem dX8_veilsOf_43 : decode cX8_veilsOf 43 = .ok (.getfield 86, 3) := by decide +kernel
theorem dX8_veilsOf_46 : decode cX8_veilsOf 46 = .ok (.bipush 8, 2) := by decide +kernel
theorem dX8_veilsOf_48 : decode cX8_veilsOf 48 = .ok (.irem, 1) := by decide +kernel
theorem dX8_veilsOf_49 : decode cX8_veilsOf 49 = .ok (.invokevirtual 89, 3) := by decide +kernel
theorem dX8_veilsOf_52 : decode cX8_veilsOf 52 = .ok (.ireturn, 1) := by decide +kernel
theorem dX8_sightOf_0 : decode cX8_sightOf 0 = .ok (.aload_n 0, 1) := by decide +kernel
theorem dX8_sightOf_1 : decode cX8_sightOf 1 = .ok (.getfield 12, 3) := by decide +kernel
theorem dX8_sightOf_4 : decode cX8_sightOf 4 = .ok (.getfield 75, 3) := by decide +kernel
theorem dX8_sightOf_7 : decode cX8_sightOf 7 = .ok (.iload_n 1, 1) := by decide +kernel
theorem dX8_sightOf_8 : decode cX8_sightOf 8 = .ok (.iaload, 1) := by decide +kernel
theorem dX8_sightOf_9 : decode cX8_sightOf 9 = .ok (.aload_n 0, 1) := by decide +kernel
theorem dX8_sightOf_10 : decode cX8_sightOf 10 = .ok (.getfield 12, 3) := by decide +kernel
theorem dX8_sightOf_13 : decode cX8_sightOf 13 = .ok (.getfield 78, 3) := by decide +kernel
theorem dX8_sightOf_16 : decode cX8_sightOf 16 = .ok (.iload_n 1, 1) := by decide +kernel
theorem dX8_sightOf_17 : decode cX8_sightOf 17 = .ok (.iaload, 1) := by decide +kernel
theorem dX8_sightOf_18 : decode cX8_sightOf 18 = .ok (.aload_n 0, 1) := by decide +kernel
theorem dX8_sightOf_19 : decode cX8_sightOf 19 = .ok (.getfield 12, 3) := by decide +kernel
theorem dX8_sightOf_22 : decode cX8_sightOf 22 = .ok (.iload_n 1, 1) := by decide +kernel
theorem dX8_sightOf_23 : decode cX8_sightOf 23 = .ok (.invokevirtual 93, 3) := by decide +kernel
theorem dX8_sightOf_26 : decode cX8_sightOf 26 = .ok (.aload_n 2, 1) := by decide +kernel
theorem dX8_sightOf_27 : decode cX8_sightOf 27 = .ok (.getfield 86, 3) := by decide +kernel
theorem dX8_sightOf_30 : decode cX8_sightOf 30 = .ok (.invokestatic 97, 3) := by decide +kernel
theorem dX8_sightOf_33 : decode cX8_sightOf 33 = .ok (.istore_n 3, 1) := by decide +kernel
theorem dX8_sightOf_34 : decode cX8_sightOf 34 = .ok (.aload_n 0, 1) := by decide +kernel
theorem dX8_sightOf_35 : decode cX8_sightOf 35 = .ok (.iconst 1, 1) := by decide +kernel
theorem dX8_sightOf_36 : decode cX8_sightOf 36 = .ok (.iload_n 3, 1) := by decide +kernel
theorem dX8_sightOf_37 : decode cX8_sightOf 37 = .ok (.aload_n 2, 1) := by decide +kernel
theorem dX8_sightOf_38 : decode cX8_sightOf 38 = .ok (.getfield 86, 3) := by decide +kernel
theorem dX8_sightOf_41 : decode cX8_sightOf 41 = .ok (.bipush 8, 2) := by decide +kernel
theorem dX8_sightOf_43 : decode cX8_sightOf 43 = .ok (.irem, 1) := by decide +kernel
theorem dX8_sightOf_44 : decode cX8_sightOf 44 = .ok (.aload_n 2, 1) := by decide +kernel
theorem dX8_sightOf_45 : decode cX8_sightOf 45 = .ok (.getfield 100, 3) := by decide +kernel
theorem dX8_sightOf_48 : decode cX8_sightOf 48 = .ok (.bipush 10, 2) := by decide +kernel
theorem dX8_sightOf_50 : decode cX8_sightOf 50 = .ok (.idiv, 1) := by decide +kernel
theorem dX8_sightOf_51 : decode cX8_sightOf 51 = .ok (.invokevirtual 89, 3) := by decide +kernel
theorem dX8_sightOf_54 : decode cX8_sightOf 54 = .ok (.ireturn, 1) := by decide +kernel
theorem dX8_passYears_0 : decode cX8_passYears 0 = .ok (.iconst 0, 1) := by decide +kernel
theorem dX8_passYears_1 : decode cX8_passYears 1 = .ok (.istore_n 3, 1) := by decide +kernel
theorem dX8_passYears_2 : decode cX8_passYears 2 = .ok (.iload_n 3, 1) := by decide +kernel
theorem dX8_passYears_3 : decode cX8_passYears 3 = .ok (.iload_n 2, 1) := by decide +kernel
theorem dX8_passYears_4 : decode cX8_passYears 4 = .ok (.if_icmp .ge 37, 3) := by decide +kernel
theorem dX8_passYears_7 : decode cX8_passYears 7 = .ok (.aload_n 1, 1) := by decide +kernel
theorem dX8_passYears_8 : decode cX8_passYears 8 = .ok (.getfield 86, 3) := by decide +kernel
theorem dX8_passYears_11 : decode cX8_passYears 11 = .ok (.invokestatic 103, 3) := by decide +kernel
theorem dX8_passYears_14 : decode cX8_passYears 14 = .ok (.istore 4, 2) := by decide +kernel
theorem dX8_passYears_16 : decode cX8_passYears 16 = .ok (.aload_n 0, 1) := by decide +kernel
theorem dX8_passYears_17 : decode cX8_passYears 17 = .ok (.aload_n 1, 1) := by decide +kernel
theorem dX8_passYears_18 : decode cX8_passYears 18 = .ok (.aload_n 0, 1) := by decide +kernel
theorem dX8_passYears_19 : decode cX8_passYears 19 = .ok (.getfield 25, 3) := by decide +kernel
theorem dX8_passYears_22 : decode cX8_passYears 22 = .ok (.iload 4, 2) := by decide +kernel
theorem dX8_passYears_24 : decode cX8_passYears 24 = .ok (.iaload, 1) := by decide +kernel
theorem dX8_passYears_25 : decode cX8_passYears 25 = .ok (.aload_n 0, 1) := by decide +kernel
theorem dX8_passYears_26 : decode cX8_passYears 26 = .ok (.getfield 29, 3) := by decide +kernel
theorem dX8_passYears_29 : decode cX8_passYears 29 = .ok (.iload 4, 2) := by decide +kernel
theorem dX8_passYears_31 : decode cX8_passYears 31 = .ok (.iaload, 1) := by decide +kernel
theorem dX8_passYears_32 : decode cX8_passYears 32 = .ok (.invokevirtual 106, 3) := by decide +kernel
theorem dX8_passYears_35 : decode cX8_passYears 35 = .ok (.iinc 3 1, 3) := by decide +kernel
theorem dX8_passYears_38 : decode cX8_passYears 38 = .ok (.goto (-36), 3) := by decide +kernel
theorem dX8_passYears_41 : decode cX8_passYears 41 = .ok (.return_, 1) := by decide +kernel
theorem dX8_passYear_0 : decode cX8_passYear 0 = .ok (.iload_n 2, 1) := by decide +kernel
theorem dX8_passYear_1 : decode cX8_passYear 1 = .ok (.iload_n 3, 1) := by decide +kernel
theorem dX8_passYear_2 : decode cX8_passYear 2 = .ok (.if_icmp .eq 75, 3) := by decide +kernel
theorem dX8_passYear_5 : decode cX8_passYear 5 = .ok (.aload_n 0, 1) := by decide +kernel
theorem dX8_passYear_6 : decode cX8_passYear 6 = .ok (.getfield 12, 3) := by decide +kernel
theorem dX8_passYear_9 : decode cX8_passYear 9 = .ok (.iload_n 2, 1) := by decide +kernel
theorem dX8_passYear_10 : decode cX8_passYear 10 = .ok (.invokevirtual 110, 3) := by decide +kernel
theorem dX8_passYear_13 : decode cX8_passYear 13 = .ok (.ifCond .eq 64, 3) := by decide +kernel
theorem dX8_passYear_16 : decode cX8_passYear 16 = .ok (.aload_n 0, 1) := by decide +kernel
theorem dX8_passYear_17 : decode cX8_passYear 17 = .ok (.getfield 12, 3) := by decide +kernel
theorem dX8_passYear_20 : decode cX8_passYear 20 = .ok (.iload_n 3, 1) := by decide +kernel
theorem dX8_passYear_21 : decode cX8_passYear 21 = .ok (.invokevirtual 110, 3) := by decide +kernel
theorem dX8_passYear_24 : decode cX8_passYear 24 = .ok (.ifCond .eq 53, 3) := by decide +kernel
theorem dX8_passYear_27 : decode cX8_passYear 27 = .ok (.aload_n 0, 1) := by decide +kernel
theorem dX8_passYear_28 : decode cX8_passYear 28 = .ok (.iload_n 3, 1) := by decide +kernel
theorem dX8_passYear_29 : decode cX8_passYear 29 = .ok (.iload_n 2, 1) := by decide +kernel
theorem dX8_passYear_30 : decode cX8_passYear 30 = .ok (.aload_n 1, 1) := by decide +kernel
theorem dX8_passYear_31 : decode cX8_passYear 31 = .ok (.invokevirtual 114, 3) := by decide +kernel
theorem dX8_passYear_34 : decode cX8_passYear 34 = .ok (.aload_n 1, 1) := by decide +kernel
theorem dX8_passYear_35 : decode cX8_passYear 35 = .ok (.getfield 100, 3) := by decide +kernel
theorem dX8_passYear_38 : decode cX8_passYear 38 = .ok (.invokestatic 63, 3) := by decide +kernel
theorem dX8_passYear_41 : decode cX8_passYear 41 = .ok (.istore 4, 2) := by decide +kernel
theorem dX8_passYear_43 : decode cX8_passYear 43 = .ok (.iload 4, 2) := by decide +kernel
theorem dX8_passYear_45 : decode cX8_passYear 45 = .ok (.aload_n 0, 1) := by decide +kernel
theorem dX8_passYear_46 : decode cX8_passYear 46 = .ok (.iload_n 2, 1) := by decide +kernel
theorem dX8_passYear_47 : decode cX8_passYear 47 = .ok (.aload_n 1, 1) := by decide +kernel
theorem dX8_passYear_48 : decode cX8_passYear 48 = .ok (.invokevirtual 118, 3) := by decide +kernel
theorem dX8_passYear_51 : decode cX8_passYear 51 = .ok (.if_icmp .gt 15, 3) := by decide +kernel
theorem dX8_passYear_54 : decode cX8_passYear 54 = .ok (.aload_n 1, 1) := by decide +kernel
theorem dX8_passYear_55 : decode cX8_passYear 55 = .ok (.getfield 122, 3) := by decide +kernel
theorem dX8_passYear_58 : decode cX8_passYear 58 = .ok (.iload_n 2, 1) := by decide +kernel
theorem dX8_passYear_59 : decode cX8_passYear 59 = .ok (.dup2, 1) := by decide +kernel
theorem dX8_passYear_60 : decode cX8_passYear 60 = .ok (.iaload, 1) := by decide +kernel
theorem dX8_passYear_61 : decode cX8_passYear 61 = .ok (.iconst 1, 1) := by decide +kernel
theorem dX8_passYear_62 : decode cX8_passYear 62 = .ok (.iload_n 3, 1) := by decide +kernel
theorem dX8_passYear_63 : decode cX8_passYear 63 = .ok (.ishl, 1) := by decide +kernel
theorem dX8_passYear_64 : decode cX8_passYear 64 = .ok (.ior, 1) := by decide +kernel
theorem dX8_passYear_65 : decode cX8_passYear 65 = .ok (.iastore, 1) := by decide +kernel
theorem dX8_passYear_66 : decode cX8_passYear 66 = .ok (.aload_n 1, 1) := by decide +kernel
theorem dX8_passYear_67 : decode cX8_passYear 67 = .ok (.dup, 1) := by decide +kernel
theorem dX8_passYear_68 : decode cX8_passYear 68 = .ok (.getfield 100, 3) := by decide +kernel
theorem dX8_passYear_71 : decode cX8_passYear 71 = .ok (.iload 4, 2) := by decide +kernel
theorem dX8_passYear_73 : decode cX8_passYear 73 = .ok (.isub, 1) := by decide +kernel
theorem dX8_passYear_74 : decode cX8_passYear 74 = .ok (.putfield 100, 3) := by decide +kernel
theorem dX8_passYear_77 : decode cX8_passYear 77 = .ok (.aload_n 1, 1) := by decide +kernel
theorem dX8_passYear_78 : decode cX8_passYear 78 = .ok (.aload_n 1, 1) := by decide +kernel
theorem dX8_passYear_79 : decode cX8_passYear 79 = .ok (.getfield 100, 3) := by decide +kernel
theorem dX8_passYear_82 : decode cX8_passYear 82 = .ok (.aload_n 1, 1) := by decide +kernel
theorem dX8_passYear_83 : decode cX8_passYear 83 = .ok (.getfield 125, 3) := by decide +kernel
theorem dX8_passYear_86 : decode cX8_passYear 86 = .ok (.iadd, 1) := by decide +kernel
theorem dX8_passYear_87 : decode cX8_passYear 87 = .ok (.sipush 999, 3) := by decide +kernel
theorem dX8_passYear_90 : decode cX8_passYear 90 = .ok (.invokestatic 63, 3) := by decide +kernel
theorem dX8_passYear_93 : decode cX8_passYear 93 = .ok (.putfield 100, 3) := by decide +kernel
theorem dX8_passYear_96 : decode cX8_passYear 96 = .ok (.aload_n 1, 1) := by decide +kernel
theorem dX8_passYear_97 : decode cX8_passYear 97 = .ok (.dup, 1) := by decide +kernel
theorem dX8_passYear_98 : decode cX8_passYear 98 = .ok (.getfield 86, 3) := by decide +kernel
theorem dX8_passYear_101 : decode cX8_passYear 101 = .ok (.iconst 1, 1) := by decide +kernel
theorem dX8_passYear_102 : decode cX8_passYear 102 = .ok (.iadd, 1) := by decide +kernel
theorem dX8_passYear_103 : decode cX8_passYear 103 = .ok (.putfield 86, 3) := by decide +kernel
theorem dX8_passYear_106 : decode cX8_passYear 106 = .ok (.return_, 1) := by decide +kernel
theorem dX8_drawMeeting_0 : decode cX8_drawMeeting 0 = .ok (.aload_n 0, 1) := by decide +kernel
theorem dX8_drawMeeting_1 : decode cX8_drawMeeting 1 = .ok (.getfield 21, 3) := by decide +kernel
theorem dX8_drawMeeting_4 : decode cX8_drawMeeting 4 = .ok (.getfield 86, 3) := by decide +kernel
theorem dX8_drawMeeting_7 : decode cX8_drawMeeting 7 = .ok (.invokestatic 103, 3) := by decide +kernel
theorem dX8_drawMeeting_10 : decode cX8_drawMeeting 10 = .ok (.istore_n 1, 1) := by decide +kernel
theorem dX8_drawMeeting_11 : decode cX8_drawMeeting 11 = .ok (.aload_n 0, 1) := by decide +kernel
theorem dX8_drawMeeting_12 : decode cX8_drawMeeting 12 = .ok (.getfield 25, 3) := by decide +kernel
theorem dX8_drawMeeting_15 : decode cX8_drawMeeting 15 = .ok (.iload_n 1, 1) := by decide +kernel
theorem dX8_drawMeeting_16 : decode cX8_drawMeeting 16 = .ok (.aload_n 0, 1) := by decide +kernel
theorem dX8_drawMeeting_17 : decode cX8_drawMeeting 17 = .ok (.invokevirtual 128, 3) := by decide +kernel
theorem dX8_drawMeeting_20 : decode cX8_drawMeeting 20 = .ok (.bipush 8, 2) := by decide +kernel
theorem dX8_drawMeeting_22 : decode cX8_drawMeeting 22 = .ok (.irem, 1) := by decide +kernel
theorem dX8_drawMeeting_23 : decode cX8_drawMeeting 23 = .ok (.iastore, 1) := by decide +kernel
theorem dX8_drawMeeting_24 : decode cX8_drawMeeting 24 = .ok (.aload_n 0, 1) := by decide +kernel
theorem dX8_drawMeeting_25 : decode cX8_drawMeeting 25 = .ok (.getfield 29, 3) := by decide +kernel
theorem dX8_drawMeeting_28 : decode cX8_drawMeeting 28 = .ok (.iload_n 1, 1) := by decide +kernel
theorem dX8_drawMeeting_29 : decode cX8_drawMeeting 29 = .ok (.aload_n 0, 1) := by decide +kernel
theorem dX8_drawMeeting_30 : decode cX8_drawMeeting 30 = .ok (.invokevirtual 128, 3) := by decide +kernel
theorem dX8_drawMeeting_33 : decode cX8_drawMeeting 33 = .ok (.bipush 8, 2) := by decide +kernel
theorem dX8_drawMeeting_35 : decode cX8_drawMeeting 35 = .ok (.irem, 1) := by decide +kernel
theorem dX8_drawMeeting_36 : decode cX8_drawMeeting 36 = .ok (.iastore, 1) := by decide +kernel
theorem dX8_drawMeeting_37 : decode cX8_drawMeeting 37 = .ok (.return_, 1) := by decide +kernel
theorem dX8_draw_0 : decode cX8_draw 0 = .ok (.aload_n 0, 1) := by decide +kernel
theorem dX8_draw_1 : decode cX8_draw 1 = .ok (.aload_n 0, 1) := by decide +kernel
theorem dX8_draw_2 : decode cX8_draw 2 = .ok (.getfield 51, 3) := by decide +kernel
theorem dX8_draw_5 : decode cX8_draw 5 = .ok (.ldc 132, 2) := by decide +kernel
theorem dX8_draw_7 : decode cX8_draw 7 = .ok (.imul, 1) := by decide +kernel
theorem dX8_draw_8 : decode cX8_draw 8 = .ok (.sipush 12345, 3) := by decide +kernel
theorem dX8_draw_11 : decode cX8_draw 11 = .ok (.iadd, 1) := by decide +kernel
theorem dX8_draw_12 : decode cX8_draw 12 = .ok (.putfield 51, 3) := by decide +kernel
theorem dX8_draw_15 : decode cX8_draw 15 = .ok (.aload_n 0, 1) := by decide +kernel
theorem dX8_draw_16 : decode cX8_draw 16 = .ok (.getfield 51, 3) := by decide +kernel
theorem dX8_draw_19 : decode cX8_draw 19 = .ok (.bipush 8, 2) := by decide +kernel
theorem dX8_draw_21 : decode cX8_draw 21 = .ok (.iushr, 1) := by decide +kernel
theorem dX8_draw_22 : decode cX8_draw 22 = .ok (.ireturn, 1) := by decide +kernel
theorem dX8_placeOf_0 : decode cX8_placeOf 0 = .ok (.iload_n 0, 1) := by decide +kernel
theorem dX8_placeOf_1 : decode cX8_placeOf 1 = .ok (.bipush 6, 2) := by decide +kernel
theorem dX8_placeOf_3 : decode cX8_placeOf 3 = .ok (.invokestatic 133, 3) := by decide +kernel
theorem dX8_placeOf_6 : decode cX8_placeOf 6 = .ok (.ireturn, 1) := by decide +kernel
theorem dX8_throughTo_0 : decode cX8_throughTo 0 = .ok (.aload_n 0, 1) := by decide +kernel
theorem dX8_throughTo_1 : decode cX8_throughTo 1 = .ok (.iload_n 1, 1) := by decide +kernel
theorem dX8_throughTo_2 : decode cX8_throughTo 2 = .ok (.aload_n 0, 1) := by decide +kernel
theorem dX8_throughTo_3 : decode cX8_throughTo 3 = .ok (.getfield 21, 3) := by decide +kernel
theorem dX8_throughTo_6 : decode cX8_throughTo 6 = .ok (.invokevirtual 118, 3) := by decide +kernel
theorem dX8_throughTo_9 : decode cX8_throughTo 9 = .ok (.istore_n 2, 1) := by decide +kernel
theorem dX8_throughTo_10 : decode cX8_throughTo 10 = .ok (.iconst 0, 1) := by decide +kernel
theorem dX8_throughTo_11 : decode cX8_throughTo 11 = .ok (.istore_n 3, 1) := by decide +kernel
theorem dX8_throughTo_12 : decode cX8_throughTo 12 = .ok (.iconst 0, 1) := by decide +kernel
theorem dX8_throughTo_13 : decode cX8_throughTo 13 = .ok (.istore 4, 2) := by decide +kernel
theorem dX8_throughTo_15 : decode cX8_throughTo 15 = .ok (.iload 4, 2) := by decide +kernel
theorem dX8_throughTo_17 : decode cX8_throughTo 17 = .ok (.aload_n 0, 1) := by decide +kernel
theorem dX8_throughTo_18 : decode cX8_throughTo 18 = .ok (.getfield 12, 3) := by decide +kernel
theorem dX8_throughTo_21 : decode cX8_throughTo 21 = .ok (.getfield 136, 3) := by decide +kernel
theorem dX8_throughTo_24 : decode cX8_throughTo 24 = .ok (.if_icmp .ge 33, 3) := by decide +kernel
theorem dX8_throughTo_27 : decode cX8_throughTo 27 = .ok (.iload 4, 2) := by decide +kernel
theorem dX8_throughTo_29 : decode cX8_throughTo 29 = .ok (.iload_n 1, 1) := by decide +kernel
theorem dX8_throughTo_30 : decode cX8_throughTo 30 = .ok (.if_icmp .eq 21, 3) := by decide +kernel
theorem dX8_throughTo_33 : decode cX8_throughTo 33 = .ok (.aload_n 0, 1) := by decide +kernel
theorem dX8_throughTo_34 : decode cX8_throughTo 34 = .ok (.iload 4, 2) := by decide +kernel
theorem dX8_throughTo_36 : decode cX8_throughTo 36 = .ok (.iload_n 1, 1) := by decide +kernel
theorem dX8_throughTo_37 : decode cX8_throughTo 37 = .ok (.aload_n 0, 1) := by decide +kernel
theorem dX8_throughTo_38 : decode cX8_throughTo 38 = .ok (.getfield 21, 3) := by decide +kernel
theorem dX8_throughTo_41 : decode cX8_throughTo 41 = .ok (.invokevirtual 114, 3) := by decide +kernel
theorem dX8_throughTo_44 : decode cX8_throughTo 44 = .ok (.iload_n 2, 1) := by decide +kernel
theorem dX8_throughTo_45 : decode cX8_throughTo 45 = .ok (.if_icmp .gt 6, 3) := by decide +kernel
theorem dX8_throughTo_48 : decode cX8_throughTo 48 = .ok (.iinc 3 1, 3) := by decide +kernel
theorem dX8_throughTo_51 : decode cX8_throughTo 51 = .ok (.iinc 4 1, 3) := by decide +kernel
theorem dX8_throughTo_54 : decode cX8_throughTo 54 = .ok (.goto (-39), 3) := by decide +kernel
theorem dX8_throughTo_57 : decode cX8_throughTo 57 = .ok (.iload_n 3, 1) := by decide +kernel
theorem dX8_throughTo_58 : decode cX8_throughTo 58 = .ok (.ireturn, 1) := by decide +kernel
theorem dX8_parentsFitting_0 : decode cX8_parentsFitting 0 = .ok (.iconst 0, 1) := by decide +kernel
theorem dX8_parentsFitting_1 : decode cX8_parentsFitting 1 = .ok (.istore_n 3, 1) := by decide +kernel
theorem dX8_parentsFitting_2 : decode cX8_parentsFitting 2 = .ok (.aload_n 0, 1) := by decide +kernel
theorem dX8_parentsFitting_3 : decode cX8_parentsFitting 3 = .ok (.getfield 12, 3) := by decide +kernel
theorem dX8_parentsFitting_6 : decode cX8_parentsFitting 6 = .ok (.getfield 139, 3) := by decide +kernel
theorem dX8_parentsFitting_9 : decode cX8_parentsFitting 9 = .ok (.iload_n 2, 1) := by decide +kernel
theorem dX8_parentsFitting_10 : decode cX8_parentsFitting 10 = .ok (.iaload, 1) := by decide +kernel
theorem dX8_parentsFitting_11 : decode cX8_parentsFitting 11 = .ok (.istore 4, 2) := by decide +kernel
theorem dX8_parentsFitting_13 : decode cX8_parentsFitting 13 = .ok (.iconst 0, 1) := by decide +kernel
theorem dX8_parentsFitting_14 : decode cX8_parentsFitting 14 = .ok (.istore 5, 2) := by decide +kernel
theorem dX8_parentsFitting_16 : decode cX8_parentsFitting 16 = .ok (.iload 5, 2) := by decide +kernel
theorem dX8_parentsFitting_18 : decode cX8_parentsFitting 18 = .ok (.iload_n 2, 1) := by decide +kernel
theorem dX8_parentsFitting_19 : decode cX8_parentsFitting 19 = .ok (.if_icmp .ge 35, 3) := by decide +kernel
theorem dX8_parentsFitting_22 : decode cX8_parentsFitting 22 = .ok (.aload_n 0, 1) := by decide +kernel
theorem dX8_parentsFitting_23 : decode cX8_parentsFitting 23 = .ok (.getfield 12, 3) := by decide +kernel
theorem dX8_parentsFitting_26 : decode cX8_parentsFitting 26 = .ok (.iload_n 2, 1) := by decide +kernel
theorem dX8_parentsFitting_27 : decode cX8_parentsFitting 27 = .ok (.iload 5, 2) := by decide +kernel
theorem dX8_parentsFitting_29 : decode cX8_parentsFitting 29 = .ok (.invokevirtual 142, 3) := by decide +kernel
theorem dX8_parentsFitting_32 : decode cX8_parentsFitting 32 = .ok (.aload_n 0, 1) := by decide +kernel
theorem dX8_parentsFitting_33 : decode cX8_parentsFitting 33 = .ok (.iload_n 2, 1) := by decide +kernel
theorem dX8_parentsFitting_34 : decode cX8_parentsFitting 34 = .ok (.aload_n 1, 1) := by decide +kernel
theorem dX8_parentsFitting_35 : decode cX8_parentsFitting 35 = .ok (.invokevirtual 146, 3) := by decide +kernel
theorem dX8_parentsFitting_38 : decode cX8_parentsFitting 38 = .ok (.ifCond .eq 10, 3) := by decide +kernel
theorem dX8_parentsFitting_41 : decode cX8_parentsFitting 41 = .ok (.iload_n 3, 1) := by decide +kernel
theorem dX8_parentsFitting_42 : decode cX8_parentsFitting 42 = .ok (.iconst 1, 1) := by decide +kernel
theorem dX8_parentsFitting_43 : decode cX8_parentsFitting 43 = .ok (.iload 5, 2) := by decide +kernel
theorem dX8_parentsFitting_45 : decode cX8_parentsFitting 45 = .ok (.ishl, 1) := by decide +kernel
theorem dX8_parentsFitting_46 : decode cX8_parentsFitting 46 = .ok (.ior, 1) := by decide +kernel
theorem dX8_parentsFitting_47 : decode cX8_parentsFitting 47 = .ok (.istore_n 3, 1) := by decide +kernel
theorem dX8_parentsFitting_48 : decode cX8_parentsFitting 48 = .ok (.iinc 5 1, 3) := by decide +kernel
theorem dX8_parentsFitting_51 : decode cX8_parentsFitting 51 = .ok (.goto (-35), 3) := by decide +kernel
theorem dX8_parentsFitting_54 : decode cX8_parentsFitting 54 = .ok (.aload_n 0, 1) := by decide +kernel
theorem dX8_parentsFitting_55 : decode cX8_parentsFitting 55 = .ok (.getfield 12, 3) := by decide +kernel
theorem dX8_parentsFitting_58 : decode cX8_parentsFitting 58 = .ok (.iload_n 2, 1) := by decide +kernel
theorem dX8_parentsFitting_59 : decode cX8_parentsFitting 59 = .ok (.iload 4, 2) := by decide +kernel
theorem dX8_parentsFitting_61 : decode cX8_parentsFitting 61 = .ok (.invokevirtual 142, 3) := by decide +kernel
theorem dX8_parentsFitting_64 : decode cX8_parentsFitting 64 = .ok (.iload_n 3, 1) := by decide +kernel
theorem dX8_parentsFitting_65 : decode cX8_parentsFitting 65 = .ok (.ireturn, 1) := by decide +kernel
theorem dX8_wouldLet_0 : decode cX8_wouldLet 0 = .ok (.iconst 0, 1) := by decide +kernel
theorem dX8_wouldLet_1 : decode cX8_wouldLet 1 = .ok (.istore_n 3, 1) := by decide +kernel
theorem dX8_wouldLet_2 : decode cX8_wouldLet 2 = .ok (.iload_n 3, 1) := by decide +kernel
theorem dX8_wouldLet_3 : decode cX8_wouldLet 3 = .ok (.aload_n 2, 1) := by decide +kernel
theorem dX8_wouldLet_4 : decode cX8_wouldLet 4 = .ok (.invokevirtual 150, 3) := by decide +kernel
theorem dX8_wouldLet_7 : decode cX8_wouldLet 7 = .ok (.if_icmp .ge 40, 3) := by decide +kernel
theorem dX8_wouldLet_10 : decode cX8_wouldLet 10 = .ok (.aload_n 0, 1) := by decide +kernel
theorem dX8_wouldLet_11 : decode cX8_wouldLet 11 = .ok (.getfield 12, 3) := by decide +kernel
theorem dX8_wouldLet_14 : decode cX8_wouldLet 14 = .ok (.iload_n 3, 1) := by decide +kernel
theorem dX8_wouldLet_15 : decode cX8_wouldLet 15 = .ok (.invokevirtual 110, 3) := by decide +kernel
theorem dX8_wouldLet_18 : decode cX8_wouldLet 18 = .ok (.ifCond .eq 21, 3) := by decide +kernel
theorem dX8_wouldLet_21 : decode cX8_wouldLet 21 = .ok (.aload_n 0, 1) := by decide +kernel
theorem dX8_wouldLet_22 : decode cX8_wouldLet 22 = .ok (.iload_n 1, 1) := by decide +kernel
theorem dX8_wouldLet_23 : decode cX8_wouldLet 23 = .ok (.iload_n 3, 1) := by decide +kernel
theorem dX8_wouldLet_24 : decode cX8_wouldLet 24 = .ok (.aload_n 0, 1) := by decide +kernel
theorem dX8_wouldLet_25 : decode cX8_wouldLet 25 = .ok (.getfield 21, 3) := by decide +kernel
theorem dX8_wouldLet_28 : decode cX8_wouldLet 28 = .ok (.invokevirtual 114, 3) := by decide +kernel
theorem dX8_wouldLet_31 : decode cX8_wouldLet 31 = .ok (.aload_n 2, 1) := by decide +kernel
theorem dX8_wouldLet_32 : decode cX8_wouldLet 32 = .ok (.iload_n 3, 1) := by decide +kernel
theorem dX8_wouldLet_33 : decode cX8_wouldLet 33 = .ok (.invokevirtual 153, 3) := by decide +kernel
theorem dX8_wouldLet_36 : decode cX8_wouldLet 36 = .ok (.if_icmp .eq 5, 3) := by decide +kernel
theorem dX8_wouldLet_39 : decode cX8_wouldLet 39 = .ok (.iconst 0, 1) := by decide +kernel
theorem dX8_wouldLet_40 : decode cX8_wouldLet 40 = .ok (.ireturn, 1) := by decide +kernel
theorem dX8_wouldLet_41 : decode cX8_wouldLet 41 = .ok (.iinc 3 1, 3) := by decide +kernel
theorem dX8_wouldLet_44 : decode cX8_wouldLet 44 = .ok (.goto (-42), 3) := by decide +kernel
theorem dX8_wouldLet_47 : decode cX8_wouldLet 47 = .ok (.iconst 1, 1) := by decide +kernel
theorem dX8_wouldLet_48 : decode cX8_wouldLet 48 = .ok (.ireturn, 1) := by decide +kernel
theorem dX8_copy_0 : decode cX8_copy 0 = .ok (.aload_n 0, 1) := by decide +kernel
theorem dX8_copy_1 : decode cX8_copy 1 = .ok (.getfield 12, 3) := by decide +kernel
theorem dX8_copy_4 : decode cX8_copy 4 = .ok (.aload_n 1, 1) := by decide +kernel
theorem dX8_copy_5 : decode cX8_copy 5 = .ok (.getfield 12, 3) := by decide +kernel
theorem dX8_copy_8 : decode cX8_copy 8 = .ok (.invokevirtual 156, 3) := by decide +kernel
theorem dX8_copy_11 : decode cX8_copy 11 = .ok (.aload_n 0, 1) := by decide +kernel
theorem dX8_copy_12 : decode cX8_copy 12 = .ok (.getfield 21, 3) := by decide +kernel
theorem dX8_copy_15 : decode cX8_copy 15 = .ok (.aload_n 1, 1) := by decide +kernel
theorem dX8_copy_16 : decode cX8_copy 16 = .ok (.getfield 21, 3) := by decide +kernel
theorem dX8_copy_19 : decode cX8_copy 19 = .ok (.invokevirtual 160, 3) := by decide +kernel
theorem dX8_copy_22 : decode cX8_copy 22 = .ok (.aload_n 1, 1) := by decide +kernel
theorem dX8_copy_23 : decode cX8_copy 23 = .ok (.getfield 25, 3) := by decide +kernel
theorem dX8_copy_26 : decode cX8_copy 26 = .ok (.iconst 0, 1) := by decide +kernel
theorem dX8_copy_27 : decode cX8_copy 27 = .ok (.aload_n 0, 1) := by decide +kernel
theorem dX8_copy_28 : decode cX8_copy 28 = .ok (.getfield 25, 3) := by decide +kernel
theorem dX8_copy_31 : decode cX8_copy 31 = .ok (.iconst 0, 1) := by decide +kernel
theorem dX8_copy_32 : decode cX8_copy 32 = .ok (.bipush 6, 2) := by decide +kernel
theorem dX8_copy_34 : decode cX8_copy 34 = .ok (.invokestatic 163, 3) := by decide +kernel
theorem dX8_copy_37 : decode cX8_copy 37 = .ok (.aload_n 1, 1) := by decide +kernel
theorem dX8_copy_38 : decode cX8_copy 38 = .ok (.getfield 29, 3) := by decide +kernel
theorem dX8_copy_41 : decode cX8_copy 41 = .ok (.iconst 0, 1) := by decide +kernel
theorem dX8_copy_42 : decode cX8_copy 42 = .ok (.aload_n 0, 1) := by decide +kernel
theorem dX8_copy_43 : decode cX8_copy 43 = .ok (.getfield 29, 3) := by decide +kernel
theorem dX8_copy_46 : decode cX8_copy 46 = .ok (.iconst 0, 1) := by decide +kernel
theorem dX8_copy_47 : decode cX8_copy 47 = .ok (.bipush 6, 2) := by decide +kernel
theorem dX8_copy_49 : decode cX8_copy 49 = .ok (.invokestatic 163, 3) := by decide +kernel
theorem dX8_copy_52 : decode cX8_copy 52 = .ok (.iconst 0, 1) := by decide +kernel
theorem dX8_copy_53 : decode cX8_copy 53 = .ok (.istore_n 2, 1) := by decide +kernel
theorem dX8_copy_54 : decode cX8_copy 54 = .ok (.iload_n 2, 1) := by decide +kernel
theorem dX8_copy_55 : decode cX8_copy 55 = .ok (.iconst 2, 1) := by decide +kernel
theorem dX8_copy_56 : decode cX8_copy 56 = .ok (.if_icmp .ge 30, 3) := by decide +kernel
theorem dX8_copy_59 : decode cX8_copy 59 = .ok (.aload_n 0, 1) := by decide +kernel
theorem dX8_copy_60 : decode cX8_copy 60 = .ok (.getfield 34, 3) := by decide +kernel
theorem dX8_copy_63 : decode cX8_copy 63 = .ok (.iload_n 2, 1) := by decide +kernel
theorem dX8_copy_64 : decode cX8_copy 64 = .ok (.aaload, 1) := by decide +kernel
theorem dX8_copy_65 : decode cX8_copy 65 = .ok (.getfield 169, 3) := by decide +kernel
theorem dX8_copy_68 : decode cX8_copy 68 = .ok (.aload_n 1, 1) := by decide +kernel
theorem dX8_copy_69 : decode cX8_copy 69 = .ok (.getfield 34, 3) := by decide +kernel
theorem dX8_copy_72 : decode cX8_copy 72 = .ok (.iload_n 2, 1) := by decide +kernel
theorem dX8_copy_73 : decode cX8_copy 73 = .ok (.aaload, 1) := by decide +kernel
theorem dX8_copy_74 : decode cX8_copy 74 = .ok (.getfield 169, 3) := by decide +kernel
theorem dX8_copy_77 : decode cX8_copy 77 = .ok (.invokevirtual 172, 3) := by decide +kernel
theorem dX8_copy_80 : decode cX8_copy 80 = .ok (.iinc 2 1, 3) := by decide +kernel
theorem dX8_copy_83 : decode cX8_copy 83 = .ok (.goto (-29), 3) := by decide +kernel
theorem dX8_copy_86 : decode cX8_copy 86 = .ok (.aload_n 0, 1) := by decide +kernel
theorem dX8_copy_87 : decode cX8_copy 87 = .ok (.getfield 44, 3) := by decide +kernel
theorem dX8_copy_90 : decode cX8_copy 90 = .ok (.aload_n 1, 1) := by decide +kernel
theorem dX8_copy_91 : decode cX8_copy 91 = .ok (.getfield 44, 3) := by decide +kernel
theorem dX8_copy_94 : decode cX8_copy 94 = .ok (.invokevirtual 172, 3) := by decide +kernel
theorem dX8_copy_97 : decode cX8_copy 97 = .ok (.aload_n 0, 1) := by decide +kernel
theorem dX8_copy_98 : decode cX8_copy 98 = .ok (.getfield 48, 3) := by decide +kernel
theorem dX8_copy_101 : decode cX8_copy 101 = .ok (.aload_n 1, 1) := by decide +kernel
theorem dX8_copy_102 : decode cX8_copy 102 = .ok (.getfield 48, 3) := by decide +kernel
theorem dX8_copy_105 : decode cX8_copy 105 = .ok (.invokevirtual 172, 3) := by decide +kernel
theorem dX8_copy_108 : decode cX8_copy 108 = .ok (.aload_n 0, 1) := by decide +kernel
theorem dX8_copy_109 : decode cX8_copy 109 = .ok (.aload_n 1, 1) := by decide +kernel
theorem dX8_copy_110 : decode cX8_copy 110 = .ok (.getfield 51, 3) := by decide +kernel
theorem dX8_copy_113 : decode cX8_copy 113 = .ok (.putfield 51, 3) := by decide +kernel
theorem dX8_copy_116 : decode cX8_copy 116 = .ok (.return_, 1) := by decide +kernel
theorem dX9_init_0 : decode cX9_init 0 = .ok (.aload_n 0, 1) := by decide +kernel
theorem dX9_init_1 : decode cX9_init 1 = .ok (.invokespecial 1, 3) := by decide +kernel
theorem dX9_init_4 : decode cX9_init 4 = .ok (.aload_n 0, 1) := by decide +kernel
theorem dX9_init_5 : decode cX9_init 5 = .ok (.new 7, 3) := by decide +kernel
theorem dX9_init_8 : decode cX9_init 8 = .ok (.dup, 1) := by decide +kernel
theorem dX9_init_9 : decode cX9_init 9 = .ok (.invokespecial 9, 3) := by decide +kernel
theorem dX9_init_12 : decode cX9_init 12 = .ok (.putfield 10, 3) := by decide +kernel
theorem dX9_init_15 : decode cX9_init 15 = .ok (.aload_n 0, 1) := by decide +kernel
theorem dX9_init_16 : decode cX9_init 16 = .ok (.new 7, 3) := by decide +kernel
theorem dX9_init_19 : decode cX9_init 19 = .ok (.dup, 1) := by decide +kernel
theorem dX9_init_20 : decode cX9_init 20 = .ok (.invokespecial 9, 3) := by decide +kernel
theorem dX9_init_23 : decode cX9_init 23 = .ok (.putfield 16, 3) := by decide +kernel
theorem dX9_init_26 : decode cX9_init 26 = .ok (.aload_n 0, 1) := by decide +kernel
theorem dX9_init_27 : decode cX9_init 27 = .ok (.new 19, 3) := by decide +kernel
theorem dX9_init_30 : decode cX9_init 30 = .ok (.dup, 1) := by decide +kernel
theorem dX9_init_31 : decode cX9_init 31 = .ok (.invokespecial 21, 3) := by decide +kernel
theorem dX9_init_34 : decode cX9_init 34 = .ok (.putfield 22, 3) := by decide +kernel
theorem dX9_init_37 : decode cX9_init 37 = .ok (.aload_n 0, 1) := by decide +kernel
theorem dX9_init_38 : decode cX9_init 38 = .ok (.new 26, 3) := by decide +kernel
theorem dX9_init_41 : decode cX9_init 41 = .ok (.dup, 1) := by decide +kernel
theorem dX9_init_42 : decode cX9_init 42 = .ok (.aload_n 0, 1) := by decide +kernel
theorem dX9_init_43 : decode cX9_init 43 = .ok (.getfield 10, 3) := by decide +kernel
theorem dX9_init_46 : decode cX9_init 46 = .ok (.getfield 28, 3) := by decide +kernel
theorem dX9_init_49 : decode cX9_init 49 = .ok (.invokespecial 32, 3) := by decide +kernel
theorem dX9_init_52 : decode cX9_init 52 = .ok (.putfield 35, 3) := by decide +kernel
theorem dX9_init_55 : decode cX9_init 55 = .ok (.aload_n 0, 1) := by decide +kernel
theorem dX9_init_56 : decode cX9_init 56 = .ok (.new 39, 3) := by decide +kernel
theorem dX9_init_59 : decode cX9_init 59 = .ok (.dup, 1) := by decide +kernel
theorem dX9_init_60 : decode cX9_init 60 = .ok (.invokespecial 41, 3) := by decide +kernel
theorem dX9_init_63 : decode cX9_init 63 = .ok (.putfield 42, 3) := by decide +kernel
theorem dX9_init_66 : decode cX9_init 66 = .ok (.aload_n 0, 1) := by decide +kernel
theorem dX9_init_67 : decode cX9_init 67 = .ok (.iconst 4, 1) := by decide +kernel
theorem dX9_init_68 : decode cX9_init 68 = .ok (.anewarray 46, 3) := by decide +kernel
theorem dX9_init_71 : decode cX9_init 71 = .ok (.putfield 48, 3) := by decide +kernel
theorem dX9_init_74 : decode cX9_init 74 = .ok (.iconst 0, 1) := by decide +kernel
theorem dX9_init_75 : decode cX9_init 75 = .ok (.istore_n 1, 1) := by decide +kernel
theorem dX9_init_76 : decode cX9_init 76 = .ok (.iload_n 1, 1) := by decide +kernel
theorem dX9_init_77 : decode cX9_init 77 = .ok (.iconst 4, 1) := by decide +kernel
theorem dX9_init_78 : decode cX9_init 78 = .ok (.if_icmp .ge 22, 3) := by decide +kernel
theorem dX9_init_81 : decode cX9_init 81 = .ok (.aload_n 0, 1) := by decide +kernel
theorem dX9_init_82 : decode cX9_init 82 = .ok (.getfield 48, 3) := by decide +kernel
theorem dX9_init_85 : decode cX9_init 85 = .ok (.iload_n 1, 1) := by decide +kernel
theorem dX9_init_86 : decode cX9_init 86 = .ok (.new 46, 3) := by decide +kernel
theorem dX9_init_89 : decode cX9_init 89 = .ok (.dup, 1) := by decide +kernel
theorem dX9_init_90 : decode cX9_init 90 = .ok (.invokespecial 52, 3) := by decide +kernel
theorem dX9_init_93 : decode cX9_init 93 = .ok (.aastore, 1) := by decide +kernel
theorem dX9_init_94 : decode cX9_init 94 = .ok (.iinc 1 1, 3) := by decide +kernel
theorem dX9_init_97 : decode cX9_init 97 = .ok (.goto (-21), 3) := by decide +kernel
theorem dX9_init_100 : decode cX9_init 100 = .ok (.aload_n 0, 1) := by decide +kernel
theorem dX9_init_101 : decode cX9_init 101 = .ok (.bipush 7, 2) := by decide +kernel
theorem dX9_init_103 : decode cX9_init 103 = .ok (.newarray .int, 2) := by decide +kernel
theorem dX9_init_105 : decode cX9_init 105 = .ok (.putfield 53, 3) := by decide +kernel
theorem dX9_init_108 : decode cX9_init 108 = .ok (.aload_n 0, 1) := by decide +kernel
theorem dX9_init_109 : decode cX9_init 109 = .ok (.iconst 0, 1) := by decide +kernel
theorem dX9_init_110 : decode cX9_init 110 = .ok (.putfield 57, 3) := by decide +kernel
theorem dX9_init_113 : decode cX9_init 113 = .ok (.return_, 1) := by decide +kernel
theorem dX9_person_0 : decode cX9_person 0 = .ok (.iload_n 1, 1) := by decide +kernel
theorem dX9_person_1 : decode cX9_person 1 = .ok (.invokestatic 61, 3) := by decide +kernel
theorem dX9_person_4 : decode cX9_person 4 = .ok (.ifCond .eq 22, 3) := by decide +kernel
theorem dX9_person_7 : decode cX9_person 7 = .ok (.iload_n 2, 1) := by decide +kernel
theorem dX9_person_8 : decode cX9_person 8 = .ok (.iconst (-1), 1) := by decide +kernel
theorem dX9_person_9 : decode cX9_person 9 = .ok (.if_icmp .lt 17, 3) := by decide +kernel
theorem dX9_person_12 : decode cX9_person 12 = .ok (.iload_n 2, 1) := by decide +kernel
theorem dX9_person_13 : decode cX9_person 13 = .ok (.aload_n 0, 1) := by decide +kernel
theorem dX9_person_14 : decode cX9_person 14 = .ok (.getfield 10, 3) := by decide +kernel
theorem dX9_person_17 : decode cX9_person 17 = .ok (.getfield 65, 3) := by decide +kernel
theorem dX9_person_20 : decode cX9_person 20 = .ok (.getfield 69, 3) := by decide +kernel
theorem dX9_person_23 : decode cX9_person 23 = .ok (.if_icmp .lt 9, 3) := by decide +kernel
theorem dX9_person_26 : decode cX9_person 26 = .ok (.aload_n 0, 1) := by decide +kernel
theorem dX9_person_27 : decode cX9_person 27 = .ok (.iconst 1, 1) := by decide +kernel
theorem dX9_person_28 : decode cX9_person 28 = .ok (.invokevirtual 74, 3) := by decide +kernel
theorem dX9_person_31 : decode cX9_person 31 = .ok (.ireturn, 1) := by decide +kernel
theorem dX9_person_32 : decode cX9_person 32 = .ok (.aload_n 0, 1) := by decide +kernel
theorem dX9_person_33 : decode cX9_person 33 = .ok (.getfield 10, 3) := by decide +kernel
theorem dX9_person_36 : decode cX9_person 36 = .ok (.getfield 65, 3) := by decide +kernel
theorem dX9_person_39 : decode cX9_person 39 = .ok (.getfield 69, 3) := by decide +kernel
theorem dX9_person_42 : decode cX9_person 42 = .ok (.bipush 8, 2) := by decide +kernel
theorem dX9_person_44 : decode cX9_person 44 = .ok (.if_icmp .lt 9, 3) := by decide +kernel
theorem dX9_person_47 : decode cX9_person 47 = .ok (.aload_n 0, 1) := by decide +kernel
theorem dX9_person_48 : decode cX9_person 48 = .ok (.iconst 4, 1) := by decide +kernel
theorem dX9_person_49 : decode cX9_person 49 = .ok (.invokevirtual 74, 3) := by decide +kernel
theorem dX9_person_52 : decode cX9_person 52 = .ok (.ireturn, 1) := by decide +kernel
theorem dX9_person_53 : decode cX9_person 53 = .ok (.aload_n 0, 1) := by decide +kernel
theorem dX9_person_54 : decode cX9_person 54 = .ok (.getfield 10, 3) := by decide +kernel
theorem dX9_person_57 : decode cX9_person 57 = .ok (.getfield 65, 3) := by decide +kernel
theorem dX9_person_60 : decode cX9_person 60 = .ok (.iload_n 1, 1) := by decide +kernel
theorem dX9_person_61 : decode cX9_person 61 = .ok (.bipush 10, 2) := by decide +kernel
theorem dX9_person_63 : decode cX9_person 63 = .ok (.idiv, 1) := by decide +kernel
theorem dX9_person_64 : decode cX9_person 64 = .ok (.iload_n 1, 1) := by decide +kernel
theorem dX9_person_65 : decode cX9_person 65 = .ok (.bipush 10, 2) := by decide +kernel
theorem dX9_person_67 : decode cX9_person 67 = .ok (.irem, 1) := by decide +kernel
theorem dX9_person_68 : decode cX9_person 68 = .ok (.iload_n 2, 1) := by decide +kernel
theorem dX9_person_69 : decode cX9_person 69 = .ok (.invokevirtual 78, 3) := by decide +kernel
theorem dX9_person_72 : decode cX9_person 72 = .ok (.ireturn, 1) := by decide +kernel
theorem dX9_personIs_0 : decode cX9_personIs 0 = .ok (.aload_n 0, 1) := by decide +kernel
theorem dX9_personIs_1 : decode cX9_personIs 1 = .ok (.getfield 10, 3) := by decide +kernel
theorem dX9_personIs_4 : decode cX9_personIs 4 = .ok (.getfield 65, 3) := by decide +kernel
theorem dX9_personIs_7 : decode cX9_personIs 7 = .ok (.iload_n 1, 1) := by decide +kernel
theorem dX9_personIs_8 : decode cX9_personIs 8 = .ok (.invokevirtual 82, 3) := by decide +kernel
theorem dX9_personIs_11 : decode cX9_personIs 11 = .ok (.ifCond .ne 9, 3) := by decide +kernel
theorem dX9_personIs_14 : decode cX9_personIs 14 = .ok (.aload_n 0, 1) := by decide +kernel
theorem dX9_personIs_15 : decode cX9_personIs 15 = .ok (.iconst 1, 1) := by decide +kernel
theorem dX9_personIs_16 : decode cX9_personIs 16 = .ok (.invokevirtual 74, 3) := by decide +kernel
theorem dX9_personIs_19 : decode cX9_personIs 19 = .ok (.ireturn, 1) := by decide +kernel
theorem dX9_personIs_20 : decode cX9_personIs 20 = .ok (.iload_n 2, 1) := by decide +kernel
theorem dX9_personIs_21 : decode cX9_personIs 21 = .ok (.tableswitch 120 0 5 #[39, 52, 65, 78, 91, 104], 39) := by decide +kernel
theorem dX9_personIs_60 : decode cX9_personIs 60 = .ok (.aload_n 0, 1) := by decide +kernel
theorem dX9_personIs_61 : decode cX9_personIs 61 = .ok (.getfield 10, 3) := by decide +kernel
theorem dX9_personIs_64 : decode cX9_personIs 64 = .ok (.getfield 65, 3) := by decide +kernel
theorem dX9_personIs_67 : decode cX9_personIs 67 = .ok (.getfield 85, 3) := by decide +kernel
theorem dX9_personIs_70 : decode cX9_personIs 70 = .ok (.iload_n 1, 1) := by decide +kernel
theorem dX9_personIs_71 : decode cX9_personIs 71 = .ok (.iaload, 1) := by decide +kernel
theorem dX9_personIs_72 : decode cX9_personIs 72 = .ok (.ireturn, 1) := by decide +kernel
theorem dX9_personIs_73 : decode cX9_personIs 73 = .ok (.aload_n 0, 1) := by decide +kernel
theorem dX9_personIs_74 : decode cX9_personIs 74 = .ok (.getfield 10, 3) := by decide +kernel
theorem dX9_personIs_77 : decode cX9_personIs 77 = .ok (.getfield 65, 3) := by decide +kernel
theorem dX9_personIs_80 : decode cX9_personIs 80 = .ok (.getfield 88, 3) := by decide +kernel
theorem dX9_personIs_83 : decode cX9_personIs 83 = .ok (.iload_n 1, 1) := by decide +kernel
theorem dX9_personIs_84 : decode cX9_personIs 84 = .ok (.iaload, 1) := by decide +kernel
theorem dX9_personIs_85 : decode cX9_personIs 85 = .ok (.ireturn, 1) := by decide +kernel
theorem dX9_personIs_86 : decode cX9_personIs 86 = .ok (.aload_n 0, 1) := by decide +kernel
theorem dX9_personIs_87 : decode cX9_personIs 87 = .ok (.getfield 10, 3) := by decide +kernel
theorem dX9_personIs_90 : decode cX9_personIs 90 = .ok (.getfield 65, 3) := by decide +kernel
theorem dX9_personIs_93 : decode cX9_personIs 93 = .ok (.getfield 91, 3) := by decide +kernel
theorem dX9_personIs_96 : decode cX9_personIs 96 = .ok (.iload_n 1, 1) := by decide +kernel
theorem dX9_personIs_97 : decode cX9_personIs 97 = .ok (.iaload, 1) := by decide +kernel
theorem dX9_personIs_98 : decode cX9_personIs 98 = .ok (.ireturn, 1) := by decide +kernel
theorem dX9_personIs_99 : decode cX9_personIs 99 = .ok (.aload_n 0, 1) := by decide +kernel
theorem dX9_personIs_100 : decode cX9_personIs 100 = .ok (.getfield 10, 3) := by decide +kernel
theorem dX9_personIs_103 : decode cX9_personIs 103 = .ok (.getfield 65, 3) := by decide +kernel
theorem dX9_personIs_106 : decode cX9_personIs 106 = .ok (.getfield 94, 3) := by decide +kernel
theorem dX9_personIs_109 : decode cX9_personIs 109 = .ok (.iload_n 1, 1) := by decide +kernel
theorem dX9_personIs_110 : decode cX9_personIs 110 = .ok (.iaload, 1) := by decide +kernel
theorem dX9_personIs_111 : decode cX9_personIs 111 = .ok (.ireturn, 1) := by decide +kernel
theorem dX9_personIs_112 : decode cX9_personIs 112 = .ok (.aload_n 0, 1) := by decide +kernel
theorem dX9_personIs_113 : decode cX9_personIs 113 = .ok (.getfield 10, 3) := by decide +kernel
theorem dX9_personIs_116 : decode cX9_personIs 116 = .ok (.getfield 97, 3) := by decide +kernel
theorem dX9_personIs_119 : decode cX9_personIs 119 = .ok (.getfield 100, 3) := by decide +kernel
theorem dX9_personIs_122 : decode cX9_personIs 122 = .ok (.iload_n 1, 1) := by decide +kernel
theorem dX9_personIs_123 : decode cX9_personIs 123 = .ok (.iaload, 1) := by decide +kernel
theorem dX9_personIs_124 : decode cX9_personIs 124 = .ok (.ireturn, 1) := by decide +kernel
theorem dX9_personIs_125 : decode cX9_personIs 125 = .ok (.aload_n 0, 1) := by decide +kernel
theorem dX9_personIs_126 : decode cX9_personIs 126 = .ok (.getfield 10, 3) := by decide +kernel
theorem dX9_personIs_129 : decode cX9_personIs 129 = .ok (.iload_n 1, 1) := by decide +kernel
theorem dX9_personIs_130 : decode cX9_personIs 130 = .ok (.aload_n 0, 1) := by decide +kernel
theorem dX9_personIs_131 : decode cX9_personIs 131 = .ok (.getfield 10, 3) := by decide +kernel
theorem dX9_personIs_134 : decode cX9_personIs 134 = .ok (.getfield 97, 3) := by decide +kernel
theorem dX9_personIs_137 : decode cX9_personIs 137 = .ok (.invokevirtual 103, 3) := by decide +kernel
theorem dX9_personIs_140 : decode cX9_personIs 140 = .ok (.ireturn, 1) := by decide +kernel
theorem dX9_personIs_141 : decode cX9_personIs 141 = .ok (.aload_n 0, 1) := by decide +kernel
theorem dX9_personIs_142 : decode cX9_personIs 142 = .ok (.iconst 1, 1) := by decide +kernel
theorem dX9_personIs_143 : decode cX9_personIs 143 = .ok (.invokevirtual 74, 3) := by decide +kernel
theorem dX9_personIs_146 : decode cX9_personIs 146 = .ok (.ireturn, 1) := by decide +kernel
theorem dX9_become_0 : decode cX9_become 0 = .ok (.aload_n 0, 1) := by decide +kernel
theorem dX9_become_1 : decode cX9_become 1 = .ok (.getfield 10, 3) := by decide +kernel
theorem dX9_become_4 : decode cX9_become 4 = .ok (.getfield 65, 3) := by decide +kernel
theorem dX9_become_7 : decode cX9_become 7 = .ok (.iload_n 1, 1) := by decide +kernel
theorem dX9_become_8 : decode cX9_become 8 = .ok (.invokevirtual 82, 3) := by decide +kernel
theorem dX9_become_11 : decode cX9_become 11 = .ok (.ifCond .eq 10, 3) := by decide +kernel
theorem dX9_become_14 : decode cX9_become 14 = .ok (.iload_n 2, 1) := by decide +kernel
theorem dX9_become_15 : decode cX9_become 15 = .ok (.invokestatic 61, 3) := by decide +kernel
theorem dX9_become_18 : decode cX9_become 18 = .ok (.ifCond .ne 9, 3) := by decide +kernel
theorem dX9_become_21 : decode cX9_become 21 = .ok (.aload_n 0, 1) := by decide +kernel
theorem dX9_become_22 : decode cX9_become 22 = .ok (.iconst 1, 1) := by decide +kernel
theorem dX9_become_23 : decode cX9_become 23 = .ok (.invokevirtual 74, 3) := by decide +kernel
theorem dX9_become_26 : decode cX9_become 26 = .ok (.ireturn, 1) := by decide +kernel
theorem dX9_become_27 : decode cX9_become 27 = .ok (.aload_n 0, 1) := by decide +kernel
theorem dX9_become_28 : decode cX9_become 28 = .ok (.getfield 10, 3) := by decide +kernel
theorem dX9_become_31 : decode cX9_become 31 = .ok (.getfield 65, 3) := by decide +kernel
theorem dX9_become_34 : decode cX9_become 34 = .ok (.getfield 85, 3) := by decide +kernel
theorem dX9_become_37 : decode cX9_become 37 = .ok (.iload_n 1, 1) := by decide +kernel
theorem dX9_become_38 : decode cX9_become 38 = .ok (.iaload, 1) := by decide +kernel
theorem dX9_become_39 : decode cX9_become 39 = .ok (.istore_n 3, 1) := by decide +kernel
theorem dX9_become_40 : decode cX9_become 40 = .ok (.aload_n 0, 1) := by decide +kernel
theorem dX9_become_41 : decode cX9_become 41 = .ok (.getfield 10, 3) := by decide +kernel
theorem dX9_become_44 : decode cX9_become 44 = .ok (.getfield 65, 3) := by decide +kernel
theorem dX9_become_47 : decode cX9_become 47 = .ok (.getfield 85, 3) := by decide +kernel
theorem dX9_become_50 : decode cX9_become 50 = .ok (.iload_n 1, 1) := by decide +kernel
theorem dX9_become_51 : decode cX9_become 51 = .ok (.iload_n 2, 1) := by decide +kernel
theorem dX9_become_52 : decode cX9_become 52 = .ok (.bipush 10, 2) := by decide +kernel
theorem dX9_become_54 : decode cX9_become 54 = .ok (.idiv, 1) := by decide +kernel
theorem dX9_become_55 : decode cX9_become 55 = .ok (.iastore, 1) := by decide +kernel
theorem dX9_become_56 : decode cX9_become 56 = .ok (.aload_n 0, 1) := by decide +kernel
theorem dX9_become_57 : decode cX9_become 57 = .ok (.getfield 10, 3) := by decide +kernel
theorem dX9_become_60 : decode cX9_become 60 = .ok (.getfield 65, 3) := by decide +kernel
theorem dX9_become_63 : decode cX9_become 63 = .ok (.getfield 88, 3) := by decide +kernel
theorem dX9_become_66 : decode cX9_become 66 = .ok (.iload_n 1, 1) := by decide +kernel
theorem dX9_become_67 : decode cX9_become 67 = .ok (.iload_n 2, 1) := by decide +kernel
theorem dX9_become_68 : decode cX9_become 68 = .ok (.bipush 10, 2) := by decide +kernel
theorem dX9_become_70 : decode cX9_become 70 = .ok (.irem, 1) := by decide +kernel
theorem dX9_become_71 : decode cX9_become 71 = .ok (.iastore, 1) := by decide +kernel
theorem dX9_become_72 : decode cX9_become 72 = .ok (.iload_n 3, 1) := by decide +kernel
theorem dX9_become_73 : decode cX9_become 73 = .ok (.ireturn, 1) := by decide +kernel
theorem dX9_as_0 : decode cX9_as 0 = .ok (.aload_n 0, 1) := by decide +kernel
theorem dX9_as_1 : decode cX9_as 1 = .ok (.getfield 10, 3) := by decide +kernel
theorem dX9_as_4 : decode cX9_as 4 = .ok (.getfield 65, 3) := by decide +kernel
theorem dX9_as_7 : decode cX9_as 7 = .ok (.iload_n 1, 1) := by decide +kernel
theorem dX9_as_8 : decode cX9_as 8 = .ok (.invokevirtual 82, 3) := by decide +kernel
theorem dX9_as_11 : decode cX9_as 11 = .ok (.ifCond .eq 10, 3) := by decide +kernel
theorem dX9_as_14 : decode cX9_as 14 = .ok (.iload_n 2, 1) := by decide +kernel
theorem dX9_as_15 : decode cX9_as 15 = .ok (.invokestatic 107, 3) := by decide +kernel
theorem dX9_as_18 : decode cX9_as 18 = .ok (.ifCond .ne 9, 3) := by decide +kernel
theorem dX9_as_21 : decode cX9_as 21 = .ok (.aload_n 0, 1) := by decide +kernel
theorem dX9_as_22 : decode cX9_as 22 = .ok (.iconst 1, 1) := by decide +kernel
theorem dX9_as_23 : decode cX9_as 23 = .ok (.invokevirtual 74, 3) := by decide +kernel
theorem dX9_as_26 : decode cX9_as 26 = .ok (.ireturn, 1) := by decide +kernel
theorem dX9_as_27 : decode cX9_as 27 = .ok (.aload_n 0, 1) := by decide +kernel
theorem dX9_as_28 : decode cX9_as 28 = .ok (.getfield 10, 3) := by decide +kernel
theorem dX9_as_31 : decode cX9_as 31 = .ok (.getfield 65, 3) := by decide +kernel
theorem dX9_as_34 : decode cX9_as 34 = .ok (.getfield 85, 3) := by decide +kernel
theorem dX9_as_37 : decode cX9_as 37 = .ok (.iload_n 1, 1) := by decide +kernel
theorem dX9_as_38 : decode cX9_as 38 = .ok (.iaload, 1) := by decide +kernel
theorem dX9_as_39 : decode cX9_as 39 = .ok (.iload_n 2, 1) := by decide +kernel
theorem dX9_as_40 : decode cX9_as 40 = .ok (.invokestatic 112, 3) := by decide +kernel
theorem dX9_as_43 : decode cX9_as 43 = .ok (.ifCond .ne 9, 3) := by decide +kernel
theorem dX9_as_46 : decode cX9_as 46 = .ok (.aload_n 0, 1) := by decide +kernel
theorem dX9_as_47 : decode cX9_as 47 = .ok (.iconst 5, 1) := by decide +kernel
theorem dX9_as_48 : decode cX9_as 48 = .ok (.invokevirtual 74, 3) := by decide +kernel
theorem dX9_as_51 : decode cX9_as 51 = .ok (.ireturn, 1) := by decide +kernel
theorem dX9_as_52 : decode cX9_as 52 = .ok (.aload_n 0, 1) := by decide +kernel
theorem dX9_as_53 : decode cX9_as 53 = .ok (.getfield 10, 3) := by decide +kernel
theorem dX9_as_56 : decode cX9_as 56 = .ok (.getfield 65, 3) := by decide +kernel
theorem dX9_as_59 : decode cX9_as 59 = .ok (.getfield 88, 3) := by decide +kernel
theorem dX9_as_62 : decode cX9_as 62 = .ok (.iload_n 1, 1) := by decide +kernel
theorem dX9_as_63 : decode cX9_as 63 = .ok (.iaload, 1) := by decide +kernel
theorem dX9_as_64 : decode cX9_as 64 = .ok (.ireturn, 1) := by decide +kernel
theorem dX9_descends_0 : decode cX9_descends 0 = .ok (.aload_n 0, 1) := by decide +kernel
theorem dX9_descends_1 : decode cX9_descends 1 = .ok (.getfield 10, 3) := by decide +kernel
theorem dX9_descends_4 : decode cX9_descends 4 = .ok (.getfield 65, 3) := by decide +kernel
theorem dX9_descends_7 : decode cX9_descends 7 = .ok (.iload_n 1, 1) := by decide +kernel
theorem dX9_descends_8 : decode cX9_descends 8 = .ok (.invokevirtual 82, 3) := by decide +kernel
theorem dX9_descends_11 : decode cX9_descends 11 = .ok (.ifCond .eq 13, 3) := by decide +kernel
theorem dX9_descends_14 : decode cX9_descends 14 = .ok (.iload_n 2, 1) := by decide +kernel
theorem dX9_descends_15 : decode cX9_descends 15 = .ok (.iconst (-1), 1) := by decide +kernel
theorem dX9_descends_16 : decode cX9_descends 16 = .ok (.if_icmp .lt 8, 3) := by decide +kernel
theorem dX9_descends_19 : decode cX9_descends 19 = .ok (.iload_n 2, 1) := by decide +kernel
theorem dX9_descends_20 : decode cX9_descends 20 = .ok (.iload_n 1, 1) := by decide +kernel
theorem dX9_descends_21 : decode cX9_descends 21 = .ok (.if_icmp .lt 9, 3) := by decide +kernel
theorem dX9_descends_24 : decode cX9_descends 24 = .ok (.aload_n 0, 1) := by decide +kernel
theorem dX9_descends_25 : decode cX9_descends 25 = .ok (.iconst 1, 1) := by decide +kernel
theorem dX9_descends_26 : decode cX9_descends 26 = .ok (.invokevirtual 74, 3) := by decide +kernel
theorem dX9_descends_29 : decode cX9_descends 29 = .ok (.ireturn, 1) := by decide +kernel
theorem dX9_descends_30 : decode cX9_descends 30 = .ok (.aload_n 0, 1) := by decide +kernel
theorem dX9_descends_31 : decode cX9_descends 31 = .ok (.getfield 10, 3) := by decide +kernel
theorem dX9_descends_34 : decode cX9_descends 34 = .ok (.getfield 65, 3) := by decide +kernel
theorem dX9_descends_37 : decode cX9_descends 37 = .ok (.getfield 91, 3) := by decide +kernel
theorem dX9_descends_40 : decode cX9_descends 40 = .ok (.iload_n 1, 1) := by decide +kernel
theorem dX9_descends_41 : decode cX9_descends 41 = .ok (.iaload, 1) := by decide +kernel
theorem dX9_descends_42 : decode cX9_descends 42 = .ok (.istore_n 3, 1) := by decide +kernel
theorem dX9_descends_43 : decode cX9_descends 43 = .ok (.aload_n 0, 1) := by decide +kernel
theorem dX9_descends_44 : decode cX9_descends 44 = .ok (.getfield 10, 3) := by decide +kernel
theorem dX9_descends_47 : decode cX9_descends 47 = .ok (.getfield 65, 3) := by decide +kernel
theorem dX9_descends_50 : decode cX9_descends 50 = .ok (.iload_n 1, 1) := by decide +kernel
theorem dX9_descends_51 : decode cX9_descends 51 = .ok (.iload_n 2, 1) := by decide +kernel
theorem dX9_descends_52 : decode cX9_descends 52 = .ok (.invokevirtual 116, 3) := by decide +kernel
theorem dX9_descends_55 : decode cX9_descends 55 = .ok (.iload_n 3, 1) := by decide +kernel
theorem dX9_descends_56 : decode cX9_descends 56 = .ok (.ireturn, 1) := by decide +kernel
theorem dX9_marries_0 : decode cX9_marries 0 = .ok (.aload_n 0, 1) := by decide +kernel
theorem dX9_marries_1 : decode cX9_marries 1 = .ok (.getfield 10, 3) := by decide +kernel
theorem dX9_marries_4 : decode cX9_marries 4 = .ok (.getfield 65, 3) := by decide +kernel
theorem dX9_marries_7 : decode cX9_marries 7 = .ok (.iload_n 1, 1) := by decide +kernel
theorem dX9_marries_8 : decode cX9_marries 8 = .ok (.invokevirtual 82, 3) := by decide +kernel
theorem dX9_marries_11 : decode cX9_marries 11 = .ok (.ifCond .eq 22, 3) := by decide +kernel
theorem dX9_marries_14 : decode cX9_marries 14 = .ok (.aload_n 0, 1) := by decide +kernel
theorem dX9_marries_15 : decode cX9_marries 15 = .ok (.getfield 10, 3) := by decide +kernel
theorem dX9_marries_18 : decode cX9_marries 18 = .ok (.getfield 65, 3) := by decide +kernel
theorem dX9_marries_21 : decode cX9_marries 21 = .ok (.iload_n 2, 1) := by decide +kernel
theorem dX9_marries_22 : decode cX9_marries 22 = .ok (.invokevirtual 82, 3) := by decide +kernel
theorem dX9_marries_25 : decode cX9_marries 25 = .ok (.ifCond .eq 8, 3) := by decide +kernel
theorem dX9_marries_28 : decode cX9_marries 28 = .ok (.iload_n 1, 1) := by decide +kernel
theorem dX9_marries_29 : decode cX9_marries 29 = .ok (.iload_n 2, 1) := by decide +kernel
theorem dX9_marries_30 : decode cX9_marries 30 = .ok (.if_icmp .ne 9, 3) := by decide +kernel
theorem dX9_marries_33 : decode cX9_marries 33 = .ok (.aload_n 0, 1) := by decide +kernel
theorem dX9_marries_34 : decode cX9_marries 34 = .ok (.iconst 1, 1) := by decide +kernel
theorem dX9_marries_35 : decode cX9_marries 35 = .ok (.invokevirtual 74, 3) := by decide +kernel
theorem dX9_marries_38 : decode cX9_marries 38 = .ok (.ireturn, 1) := by decide +kernel
theorem dX9_marries_39 : decode cX9_marries 39 = .ok (.aload_n 0, 1) := by decide +kernel
theorem dX9_marries_40 : decode cX9_marries 40 = .ok (.getfield 10, 3) := by decide +kernel
theorem dX9_marries_43 : decode cX9_marries 43 = .ok (.getfield 65, 3) := by decide +kernel
theorem dX9_marries_46 : decode cX9_marries 46 = .ok (.iload_n 1, 1) := by decide +kernel
theorem dX9_marries_47 : decode cX9_marries 47 = .ok (.invokevirtual 120, 3) := by decide +kernel
theorem dX9_marries_50 : decode cX9_marries 50 = .ok (.ifCond .eq 17, 3) := by decide +kernel
theorem dX9_marries_53 : decode cX9_marries 53 = .ok (.aload_n 0, 1) := by decide +kernel
theorem dX9_marries_54 : decode cX9_marries 54 = .ok (.getfield 10, 3) := by decide +kernel
theorem dX9_marries_57 : decode cX9_marries 57 = .ok (.getfield 65, 3) := by decide +kernel
theorem dX9_marries_60 : decode cX9_marries 60 = .ok (.iload_n 2, 1) := by decide +kernel
theorem dX9_marries_61 : decode cX9_marries 61 = .ok (.invokevirtual 120, 3) := by decide +kernel
theorem dX9_marries_64 : decode cX9_marries 64 = .ok (.ifCond .ne 9, 3) := by decide +kernel
theorem dX9_marries_67 : decode cX9_marries 67 = .ok (.aload_n 0, 1) := by decide +kernel
theorem dX9_marries_68 : decode cX9_marries 68 = .ok (.iconst 3, 1) := by decide +kernel
theorem dX9_marries_69 : decode cX9_marries 69 = .ok (.invokevirtual 74, 3) := by decide +kernel
theorem dX9_marries_72 : decode cX9_marries 72 = .ok (.ireturn, 1) := by decide +kernel
theorem dX9_marries_73 : decode cX9_marries 73 = .ok (.aload_n 0, 1) := by decide +kernel
theorem dX9_marries_74 : decode cX9_marries 74 = .ok (.getfield 10, 3) := by decide +kernel
theorem dX9_marries_77 : decode cX9_marries 77 = .ok (.getfield 65, 3) := by decide +kernel
theorem dX9_marries_80 : decode cX9_marries 80 = .ok (.iload_n 1, 1) := by decide +kernel
theorem dX9_marries_81 : decode cX9_marries 81 = .ok (.iload_n 2, 1) := by decide +kernel
theorem dX9_marries_82 : decode cX9_marries 82 = .ok (.invokevirtual 123, 3) := by decide +kernel
theorem dX9_marries_85 : decode cX9_marries 85 = .ok (.aload_n 0, 1) := by decide +kernel
theorem dX9_marries_86 : decode cX9_marries 86 = .ok (.getfield 10, 3) := by decide +kernel
theorem dX9_marries_89 : decode cX9_marries 89 = .ok (.getfield 65, 3) := by decide +kernel
theorem dX9_marries_92 : decode cX9_marries 92 = .ok (.iload_n 1, 1) := by decide +kernel
theorem dX9_marries_93 : decode cX9_marries 93 = .ok (.invokevirtual 126, 3) := by decide +kernel
theorem dX9_marries_96 : decode cX9_marries 96 = .ok (.ireturn, 1) := by decide +kernel
theorem dX9_parts_0 : decode cX9_parts 0 = .ok (.aload_n 0, 1) := by decide +kernel
theorem dX9_parts_1 : decode cX9_parts 1 = .ok (.getfield 10, 3) := by decide +kernel
theorem dX9_parts_4 : decode cX9_parts 4 = .ok (.getfield 65, 3) := by decide +kernel
theorem dX9_parts_7 : decode cX9_parts 7 = .ok (.iload_n 1, 1) := by decide +kernel
theorem dX9_parts_8 : decode cX9_parts 8 = .ok (.invokevirtual 82, 3) := by decide +kernel
theorem dX9_parts_11 : decode cX9_parts 11 = .ok (.ifCond .ne 9, 3) := by decide +kernel
theorem dX9_parts_14 : decode cX9_parts 14 = .ok (.aload_n 0, 1) := by decide +kernel
theorem dX9_parts_15 : decode cX9_parts 15 = .ok (.iconst 1, 1) := by decide +kernel
theorem dX9_parts_16 : decode cX9_parts 16 = .ok (.invokevirtual 74, 3) := by decide +kernel
theorem dX9_parts_19 : decode cX9_parts 19 = .ok (.ireturn, 1) := by decide +kernel
theorem dX9_parts_20 : decode cX9_parts 20 = .ok (.aload_n 0, 1) := by decide +kernel
theorem dX9_parts_21 : decode cX9_parts 21 = .ok (.getfield 10, 3) := by decide +kernel
theorem dX9_parts_24 : decode cX9_parts 24 = .ok (.getfield 65, 3) := by decide +kernel
theorem dX9_parts_27 : decode cX9_parts 27 = .ok (.iload_n 1, 1) := by decide +kernel
theorem dX9_parts_28 : decode cX9_parts 28 = .ok (.invokevirtual 120, 3) := by decide +kernel
theorem dX9_parts_31 : decode cX9_parts 31 = .ok (.ifCond .eq 9, 3) := by decide +kernel
theorem dX9_parts_34 : decode cX9_parts 34 = .ok (.aload_n 0, 1) := by decide +kernel
theorem dX9_parts_35 : decode cX9_parts 35 = .ok (.iconst 2, 1) := by decide +kernel
theorem dX9_parts_36 : decode cX9_parts 36 = .ok (.invokevirtual 74, 3) := by decide +kernel
theorem dX9_parts_39 : decode cX9_parts 39 = .ok (.ireturn, 1) := by decide +kernel
theorem dX9_parts_40 : decode cX9_parts 40 = .ok (.aload_n 0, 1) := by decide +kernel
theorem dX9_parts_41 : decode cX9_parts 41 = .ok (.getfield 10, 3) := by decide +kernel
theorem dX9_parts_44 : decode cX9_parts 44 = .ok (.getfield 65, 3) := by decide +kernel
theorem dX9_parts_47 : decode cX9_parts 47 = .ok (.getfield 94, 3) := by decide +kernel
theorem dX9_parts_50 : decode cX9_parts 50 = .ok (.iload_n 1, 1) := by decide +kernel
theorem dX9_parts_51 : decode cX9_parts 51 = .ok (.iaload, 1) := by decide +kernel
theorem dX9_parts_52 : decode cX9_parts 52 = .ok (.istore_n 2, 1) := by decide +kernel
theorem dX9_parts_53 : decode cX9_parts 53 = .ok (.aload_n 0, 1) := by decide +kernel
theorem dX9_parts_54 : decode cX9_parts 54 = .ok (.getfield 10, 3) := by decide +kernel
theorem dX9_parts_57 : decode cX9_parts 57 = .ok (.getfield 65, 3) := by decide +kernel
theorem dX9_parts_60 : decode cX9_parts 60 = .ok (.iload_n 1, 1) := by decide +kernel
theorem dX9_parts_61 : decode cX9_parts 61 = .ok (.iload_n 2, 1) := by decide +kernel
theorem dX9_parts_62 : decode cX9_parts 62 = .ok (.invokevirtual 129, 3) := by decide +kernel
theorem dX9_parts_65 : decode cX9_parts 65 = .ok (.iload_n 2, 1) := by decide +kernel
theorem dX9_parts_66 : decode cX9_parts 66 = .ok (.ireturn, 1) := by decide +kernel
theorem dX9_steps_0 : decode cX9_steps 0 = .ok (.aload_n 0, 1) := by decide +kernel
theorem dX9_steps_1 : decode cX9_steps 1 = .ok (.getfield 10, 3) := by decide +kernel
theorem dX9_steps_4 : decode cX9_steps 4 = .ok (.getfield 65, 3) := by decide +kernel
theorem dX9_steps_7 : decode cX9_steps 7 = .ok (.iload_n 1, 1) := by decide +kernel
theorem dX9_steps_8 : decode cX9_steps 8 = .ok (.invokevirtual 82, 3) := by decide +kernel
theorem dX9_steps_11 : decode cX9_steps 11 = .ok (.ifCond .eq 17, 3) := by decide +kernel
theorem dX9_steps_14 : decode cX9_steps 14 = .ok (.aload_n 0, 1) := by decide +kernel
theorem dX9_steps_15 : decode cX9_steps 15 = .ok (.getfield 10, 3) := by decide +kernel
theorem dX9_steps_18 : decode cX9_steps 18 = .ok (.getfield 65, 3) := by decide +kernel
theorem dX9_steps_21 : decode cX9_steps 21 = .ok (.iload_n 2, 1) := by decide +kernel
theorem dX9_steps_22 : decode cX9_steps 22 = .ok (.invokevirtual 82, 3) := by decide +kernel
theorem dX9_steps_25 : decode cX9_steps 25 = .ok (.ifCond .ne 9, 3) := by decide +kernel
theorem dX9_steps_28 : decode cX9_steps 28 = .ok (.aload_n 0, 1) := by decide +kernel
theorem dX9_steps_29 : decode cX9_steps 29 = .ok (.iconst 1, 1) := by decide +kernel
theorem dX9_steps_30 : decode cX9_steps 30 = .ok (.invokevirtual 74, 3) := by decide +kernel
theorem dX9_steps_33 : decode cX9_steps 33 = .ok (.ireturn, 1) := by decide +kernel
theorem dX9_steps_34 : decode cX9_steps 34 = .ok (.aload_n 0, 1) := by decide +kernel
theorem dX9_steps_35 : decode cX9_steps 35 = .ok (.getfield 10, 3) := by decide +kernel
theorem dX9_steps_38 : decode cX9_steps 38 = .ok (.getfield 65, 3) := by decide +kernel
theorem dX9_steps_41 : decode cX9_steps 41 = .ok (.iload_n 1, 1) := by decide +kernel
theorem dX9_steps_42 : decode cX9_steps 42 = .ok (.iload_n 2, 1) := by decide +kernel
theorem dX9_steps_43 : decode cX9_steps 43 = .ok (.invokevirtual 132, 3) := by decide +kernel
theorem dX9_steps_46 : decode cX9_steps 46 = .ok (.ireturn, 1) := by decide +kernel
theorem dX9_lets_0 : decode cX9_lets 0 = .ok (.aload_n 0, 1) := by decide +kernel
theorem dX9_lets_1 : decode cX9_lets 1 = .ok (.getfield 10, 3) := by decide +kernel
theorem dX9_lets_4 : decode cX9_lets 4 = .ok (.getfield 65, 3) := by decide +kernel
theorem dX9_lets_7 : decode cX9_lets 7 = .ok (.iload_n 1, 1) := by decide +kernel
theorem dX9_lets_8 : decode cX9_lets 8 = .ok (.invokevirtual 82, 3) := by decide +kernel
theorem dX9_lets_11 : decode cX9_lets 11 = .ok (.ifCond .eq 17, 3) := by decide +kernel
theorem dX9_lets_14 : decode cX9_lets 14 = .ok (.aload_n 0, 1) := by decide +kernel
theorem dX9_lets_15 : decode cX9_lets 15 = .ok (.getfield 10, 3) := by decide +kernel
theorem dX9_lets_18 : decode cX9_lets 18 = .ok (.getfield 65, 3) := by decide +kernel
theorem dX9_lets_21 : decode cX9_lets 21 = .ok (.iload_n 2, 1) := by decide +kernel
theorem dX9_lets_22 : decode cX9_lets 22 = .ok (.invokevirtual 82, 3) := by decide +kernel
theorem dX9_lets_25 : decode cX9_lets 25 = .ok (.ifCond .ne 9, 3) := by decide +kernel
theorem dX9_lets_28 : decode cX9_lets 28 = .ok (.aload_n 0, 1) := by decide +kernel
theorem dX9_lets_29 : decode cX9_lets 29 = .ok (.iconst 1, 1) := by decide +kernel
theorem dX9_lets_30 : decode cX9_lets 30 = .ok (.invokevirtual 74, 3) := by decide +kernel
theorem dX9_lets_33 : decode cX9_lets 33 = .ok (.ireturn, 1) := by decide +kernel
theorem dX9_lets_34 : decode cX9_lets 34 = .ok (.aload_n 0, 1) := by decide +kernel
theorem dX9_lets_35 : decode cX9_lets 35 = .ok (.getfield 10, 3) := by decide +kernel
theorem dX9_lets_38 : decode cX9_lets 38 = .ok (.iload_n 1, 1) := by decide +kernel
theorem dX9_lets_39 : decode cX9_lets 39 = .ok (.iload_n 2, 1) := by decide +kernel
theorem dX9_lets_40 : decode cX9_lets 40 = .ok (.aload_n 0, 1) := by decide +kernel
theorem dX9_lets_41 : decode cX9_lets 41 = .ok (.getfield 10, 3) := by decide +kernel
theorem dX9_lets_44 : decode cX9_lets 44 = .ok (.getfield 97, 3) := by decide +kernel
theorem dX9_lets_47 : decode cX9_lets 47 = .ok (.invokevirtual 136, 3) := by decide +kernel
theorem dX9_lets_50 : decode cX9_lets 50 = .ok (.ireturn, 1) := by decide +kernel
theorem dX9_meets_0 : decode cX9_meets 0 = .ok (.iload_n 1, 1) := by decide +kernel
theorem dX9_meets_1 : decode cX9_meets 1 = .ok (.ifCond .lt 23, 3) := by decide +kernel
theorem dX9_meets_4 : decode cX9_meets 4 = .ok (.iload_n 1, 1) := by decide +kernel
theorem dX9_meets_5 : decode cX9_meets 5 = .ok (.bipush 6, 2) := by decide +kernel
theorem dX9_meets_7 : decode cX9_meets 7 = .ok (.if_icmp .ge 17, 3) := by decide +kernel
theorem dX9_meets_10 : decode cX9_meets 10 = .ok (.iload_n 2, 1) := by decide +kernel
theorem dX9_meets_11 : decode cX9_meets 11 = .ok (.invokestatic 140, 3) := by decide +kernel
theorem dX9_meets_14 : decode cX9_meets 14 = .ok (.ifCond .eq 10, 3) := by decide +kernel
theorem dX9_meets_17 : decode cX9_meets 17 = .ok (.iload_n 3, 1) := by decide +kernel
theorem dX9_meets_18 : decode cX9_meets 18 = .ok (.invokestatic 140, 3) := by decide +kernel
theorem dX9_meets_21 : decode cX9_meets 21 = .ok (.ifCond .ne 9, 3) := by decide +kernel
theorem dX9_meets_24 : decode cX9_meets 24 = .ok (.aload_n 0, 1) := by decide +kernel
theorem dX9_meets_25 : decode cX9_meets 25 = .ok (.iconst 1, 1) := by decide +kernel
theorem dX9_meets_26 : decode cX9_meets 26 = .ok (.invokevirtual 74, 3) := by decide +kernel
theorem dX9_meets_29 : decode cX9_meets 29 = .ok (.ireturn, 1) := by decide +kernel
theorem dX9_meets_30 : decode cX9_meets 30 = .ok (.aload_n 0, 1) := by decide +kernel
theorem dX9_meets_31 : decode cX9_meets 31 = .ok (.getfield 10, 3) := by decide +kernel
theorem dX9_meets_34 : decode cX9_meets 34 = .ok (.getfield 143, 3) := by decide +kernel
theorem dX9_meets_37 : decode cX9_meets 37 = .ok (.iload_n 1, 1) := by decide +kernel
theorem dX9_meets_38 : decode cX9_meets 38 = .ok (.iaload, 1) := by decide +kernel
theorem dX9_meets_39 : decode cX9_meets 39 = .ok (.bipush 10, 2) := by decide +kernel
theorem dX9_meets_41 : decode cX9_meets 41 = .ok (.imul, 1) := by decide +kernel
theorem dX9_meets_42 : decode cX9_meets 42 = .ok (.aload_n 0, 1) := by decide +kernel
theorem dX9_meets_43 : decode cX9_meets 43 = .ok (.getfield 10, 3) := by decide +kernel
theorem dX9_meets_46 : decode cX9_meets 46 = .ok (.getfield 146, 3) := by decide +kernel
theorem dX9_meets_49 : decode cX9_meets 49 = .ok (.iload_n 1, 1) := by decide +kernel
theorem dX9_meets_50 : decode cX9_meets 50 = .ok (.iaload, 1) := by decide +kernel
theorem dX9_meets_51 : decode cX9_meets 51 = .ok (.iadd, 1) := by decide +kernel
theorem dX9_meets_52 : decode cX9_meets 52 = .ok (.istore 4, 2) := by decide +kernel
theorem dX9_meets_54 : decode cX9_meets 54 = .ok (.aload_n 0, 1) := by decide +kernel
theorem dX9_meets_55 : decode cX9_meets 55 = .ok (.getfield 10, 3) := by decide +kernel
theorem dX9_meets_58 : decode cX9_meets 58 = .ok (.getfield 143, 3) := by decide +kernel
theorem dX9_meets_61 : decode cX9_meets 61 = .ok (.iload_n 1, 1) := by decide +kernel
theorem dX9_meets_62 : decode cX9_meets 62 = .ok (.iload_n 2, 1) := by decide +kernel
theorem dX9_meets_63 : decode cX9_meets 63 = .ok (.iastore, 1) := by decide +kernel
theorem dX9_meets_64 : decode cX9_meets 64 = .ok (.aload_n 0, 1) := by decide +kernel
theorem dX9_meets_65 : decode cX9_meets 65 = .ok (.getfield 10, 3) := by decide +kernel
theorem dX9_meets_68 : decode cX9_meets 68 = .ok (.getfield 146, 3) := by decide +kernel
theorem dX9_meets_71 : decode cX9_meets 71 = .ok (.iload_n 1, 1) := by decide +kernel
theorem dX9_meets_72 : decode cX9_meets 72 = .ok (.iload_n 3, 1) := by decide +kernel
theorem dX9_meets_73 : decode cX9_meets 73 = .ok (.iastore, 1) := by decide +kernel
theorem dX9_meets_74 : decode cX9_meets 74 = .ok (.iload 4, 2) := by decide +kernel
theorem dX9_meets_76 : decode cX9_meets 76 = .ok (.ireturn, 1) := by decide +kernel
theorem dX9_trade_0 : decode cX9_trade 0 = .ok (.iload_n 1, 1) := by decide +kernel
theorem dX9_trade_1 : decode cX9_trade 1 = .ok (.ifCond .lt 28, 3) := by decide +kernel
theorem dX9_trade_4 : decode cX9_trade 4 = .ok (.iload_n 1, 1) := by decide +kernel
theorem dX9_trade_5 : decode cX9_trade 5 = .ok (.iconst 1, 1) := by decide +kernel
theorem dX9_trade_6 : decode cX9_trade 6 = .ok (.if_icmp .gt 23, 3) := by decide +kernel
theorem dX9_trade_9 : decode cX9_trade 9 = .ok (.iload_n 2, 1) := by decide +kernel
theorem dX9_trade_10 : decode cX9_trade 10 = .ok (.ifCond .lt 19, 3) := by decide +kernel
theorem dX9_trade_13 : decode cX9_trade 13 = .ok (.iload_n 2, 1) := by decide +kernel
theorem dX9_trade_14 : decode cX9_trade 14 = .ok (.iload_n 1, 1) := by decide +kernel
theorem dX9_trade_15 : decode cX9_trade 15 = .ok (.ifCond .ne 9, 3) := by decide +kernel
theorem dX9_trade_18 : decode cX9_trade 18 = .ok (.sipush 999, 3) := by decide +kernel
theorem dX9_trade_21 : decode cX9_trade 21 = .ok (.goto 5, 3) := by decide +kernel
theorem dX9_trade_24 : decode cX9_trade 24 = .ok (.bipush 40, 2) := by decide +kernel
theorem dX9_trade_26 : decode cX9_trade 26 = .ok (.if_icmp .le 9, 3) := by decide +kernel
theorem dX9_trade_29 : decode cX9_trade 29 = .ok (.aload_n 0, 1) := by decide +kernel
theorem dX9_trade_30 : decode cX9_trade 30 = .ok (.iconst 1, 1) := by decide +kernel
theorem dX9_trade_31 : decode cX9_trade 31 = .ok (.invokevirtual 74, 3) := by decide +kernel
theorem dX9_trade_34 : decode cX9_trade 34 = .ok (.ireturn, 1) := by decide +kernel
theorem dX9_trade_35 : decode cX9_trade 35 = .ok (.iload_n 1, 1) := by decide +kernel
theorem dX9_trade_36 : decode cX9_trade 36 = .ok (.ifCond .ne 16, 3) := by decide +kernel
theorem dX9_trade_39 : decode cX9_trade 39 = .ok (.aload_n 0, 1) := by decide +kernel
theorem dX9_trade_40 : decode cX9_trade 40 = .ok (.getfield 10, 3) := by decide +kernel
theorem dX9_trade_43 : decode cX9_trade 43 = .ok (.getfield 97, 3) := by decide +kernel
theorem dX9_trade_46 : decode cX9_trade 46 = .ok (.getfield 149, 3) := by decide +kernel
theorem dX9_trade_49 : decode cX9_trade 49 = .ok (.goto 13, 3) := by decide +kernel
theorem dX9_trade_52 : decode cX9_trade 52 = .ok (.aload_n 0, 1) := by decide +kernel
theorem dX9_trade_53 : decode cX9_trade 53 = .ok (.getfield 10, 3) := by decide +kernel
theorem dX9_trade_56 : decode cX9_trade 56 = .ok (.getfield 97, 3) := by decide +kernel
theorem dX9_trade_59 : decode cX9_trade 59 = .ok (.getfield 152, 3) := by decide +kernel
theorem dX9_trade_62 : decode cX9_trade 62 = .ok (.istore_n 3, 1) := by decide +kernel
theorem dX9_trade_63 : decode cX9_trade 63 = .ok (.iload_n 1, 1) := by decide +kernel
theorem dX9_trade_64 : decode cX9_trade 64 = .ok (.ifCond .ne 17, 3) := by decide +kernel
theorem dX9_trade_67 : decode cX9_trade 67 = .ok (.aload_n 0, 1) := by decide +kernel
theorem dX9_trade_68 : decode cX9_trade 68 = .ok (.getfield 10, 3) := by decide +kernel
theorem dX9_trade_71 : decode cX9_trade 71 = .ok (.getfield 97, 3) := by decide +kernel
theorem dX9_trade_74 : decode cX9_trade 74 = .ok (.iload_n 2, 1) := by decide +kernel
theorem dX9_trade_75 : decode cX9_trade 75 = .ok (.putfield 149, 3) := by decide +kernel
theorem dX9_trade_78 : decode cX9_trade 78 = .ok (.goto 14, 3) := by decide +kernel
theorem dX9_trade_81 : decode cX9_trade 81 = .ok (.aload_n 0, 1) := by decide +kernel
theorem dX9_trade_82 : decode cX9_trade 82 = .ok (.getfield 10, 3) := by decide +kernel
theorem dX9_trade_85 : decode cX9_trade 85 = .ok (.getfield 97, 3) := by decide +kernel
theorem dX9_trade_88 : decode cX9_trade 88 = .ok (.iload_n 2, 1) := by decide +kernel
theorem dX9_trade_89 : decode cX9_trade 89 = .ok (.putfield 152, 3) := by decide +kernel
theorem dX9_trade_92 : decode cX9_trade 92 = .ok (.iload_n 3, 1) := by decide +kernel
theorem dX9_trade_93 : decode cX9_trade 93 = .ok (.ireturn, 1) := by decide +kernel
theorem dX9_feed_0 : decode cX9_feed 0 = .ok (.iload_n 3, 1) := by decide +kernel
theorem dX9_feed_1 : decode cX9_feed 1 = .ok (.iconst 1, 1) := by decide +kernel
theorem dX9_feed_2 : decode cX9_feed 2 = .ok (.if_icmp .lt 9, 3) := by decide +kernel
theorem dX9_feed_5 : decode cX9_feed 5 = .ok (.iload_n 3, 1) := by decide +kernel
theorem dX9_feed_6 : decode cX9_feed 6 = .ok (.bipush 8, 2) := by decide +kernel
theorem dX9_feed_8 : decode cX9_feed 8 = .ok (.if_icmp .le 9, 3) := by decide +kernel
theorem dX9_feed_11 : decode cX9_feed 11 = .ok (.aload_n 0, 1) := by decide +kernel
theorem dX9_feed_12 : decode cX9_feed 12 = .ok (.iconst 1, 1) := by decide +kernel
theorem dX9_feed_13 : decode cX9_feed 13 = .ok (.invokevirtual 74, 3) := by decide +kernel
theorem dX9_feed_16 : decode cX9_feed 16 = .ok (.ireturn, 1) := by decide +kernel
theorem dX9_feed_17 : decode cX9_feed 17 = .ok (.aload_n 0, 1) := by decide +kernel
theorem dX9_feed_18 : decode cX9_feed 18 = .ok (.getfield 10, 3) := by decide +kernel
theorem dX9_feed_21 : decode cX9_feed 21 = .ok (.getfield 28, 3) := by decide +kernel
theorem dX9_feed_24 : decode cX9_feed 24 = .ok (.iload_n 3, 1) := by decide +kernel
theorem dX9_feed_25 : decode cX9_feed 25 = .ok (.invokevirtual 155, 3) := by decide +kernel
theorem dX9_feed_28 : decode cX9_feed 28 = .ok (.ifCond .ne 9, 3) := by decide +kernel
theorem dX9_feed_31 : decode cX9_feed 31 = .ok (.aload_n 0, 1) := by decide +kernel
theorem dX9_feed_32 : decode cX9_feed 32 = .ok (.iconst 4, 1) := by decide +kernel
theorem dX9_feed_33 : decode cX9_feed 33 = .ok (.invokevirtual 74, 3) := by decide +kernel
theorem dX9_feed_36 : decode cX9_feed 36 = .ok (.ireturn, 1) := by decide +kernel
theorem dX9_feed_37 : decode cX9_feed 37 = .ok (.iconst 0, 1) := by decide +kernel
theorem dX9_feed_38 : decode cX9_feed 38 = .ok (.istore 4, 2) := by decide +kernel
theorem dX9_feed_40 : decode cX9_feed 40 = .ok (.iload 4, 2) := by decide +kernel
theorem dX9_feed_42 : decode cX9_feed 42 = .ok (.iload_n 3, 1) := by decide +kernel
theorem dX9_feed_43 : decode cX9_feed 43 = .ok (.if_icmp .ge 31, 3) := by decide +kernel
theorem dX9_feed_46 : decode cX9_feed 46 = .ok (.aload_n 0, 1) := by decide +kernel
theorem dX9_feed_47 : decode cX9_feed 47 = .ok (.getfield 10, 3) := by decide +kernel
theorem dX9_feed_50 : decode cX9_feed 50 = .ok (.getfield 28, 3) := by decide +kernel
theorem dX9_feed_53 : decode cX9_feed 53 = .ok (.lload_n 1, 1) := by decide +kernel
theorem dX9_feed_54 : decode cX9_feed 54 = .ok (.bipush 8, 2) := by decide +kernel
theorem dX9_feed_56 : decode cX9_feed 56 = .ok (.iload 4, 2) := by decide +kernel
theorem dX9_feed_58 : decode cX9_feed 58 = .ok (.imul, 1) := by decide +kernel
theorem dX9_feed_59 : decode cX9_feed 59 = .ok (.lushr, 1) := by decide +kernel
theorem dX9_feed_60 : decode cX9_feed 60 = .ok (.l2i, 1) := by decide +kernel
theorem dX9_feed_61 : decode cX9_feed 61 = .ok (.sipush 255, 3) := by decide +kernel
theorem dX9_feed_64 : decode cX9_feed 64 = .ok (.iand, 1) := by decide +kernel
theorem dX9_feed_65 : decode cX9_feed 65 = .ok (.invokevirtual 160, 3) := by decide +kernel
theorem dX9_feed_68 : decode cX9_feed 68 = .ok (.iinc 4 1, 3) := by decide +kernel
theorem dX9_feed_71 : decode cX9_feed 71 = .ok (.goto (-31), 3) := by decide +kernel
theorem dX9_feed_74 : decode cX9_feed 74 = .ok (.aload_n 0, 1) := by decide +kernel
theorem dX9_feed_75 : decode cX9_feed 75 = .ok (.getfield 10, 3) := by decide +kernel
theorem dX9_feed_78 : decode cX9_feed 78 = .ok (.getfield 28, 3) := by decide +kernel
theorem dX9_feed_81 : decode cX9_feed 81 = .ok (.invokevirtual 163, 3) := by decide +kernel
theorem dX9_feed_84 : decode cX9_feed 84 = .ok (.ireturn, 1) := by decide +kernel
theorem dX9_text_0 : decode cX9_text 0 = .ok (.iload_n 1, 1) := by decide +kernel
theorem dX9_text_1 : decode cX9_text 1 = .ok (.invokestatic 167, 3) := by decide +kernel
theorem dX9_text_4 : decode cX9_text 4 = .ok (.ifCond .ne 9, 3) := by decide +kernel
theorem dX9_text_7 : decode cX9_text 7 = .ok (.aload_n 0, 1) := by decide +kernel
theorem dX9_text_8 : decode cX9_text 8 = .ok (.iconst 1, 1) := by decide +kernel
theorem dX9_text_9 : decode cX9_text 9 = .ok (.invokevirtual 74, 3) := by decide +kernel
theorem dX9_text_12 : decode cX9_text 12 = .ok (.ireturn, 1) := by decide +kernel
theorem dX9_text_13 : decode cX9_text 13 = .ok (.aload_n 0, 1) := by decide +kernel
theorem dX9_text_14 : decode cX9_text 14 = .ok (.getfield 35, 3) := by decide +kernel
theorem dX9_text_17 : decode cX9_text 17 = .ok (.iload_n 1, 1) := by decide +kernel
theorem dX9_text_18 : decode cX9_text 18 = .ok (.invokevirtual 170, 3) := by decide +kernel
theorem dX9_text_21 : decode cX9_text 21 = .ok (.istore_n 2, 1) := by decide +kernel
theorem dX9_text_22 : decode cX9_text 22 = .ok (.aload_n 0, 1) := by decide +kernel
theorem dX9_text_23 : decode cX9_text 23 = .ok (.getfield 10, 3) := by decide +kernel
theorem dX9_text_26 : decode cX9_text 26 = .ok (.getfield 28, 3) := by decide +kernel
theorem dX9_text_29 : decode cX9_text 29 = .ok (.invokevirtual 173, 3) := by decide +kernel
theorem dX9_text_32 : decode cX9_text 32 = .ok (.iload_n 2, 1) := by decide +kernel
theorem dX9_text_33 : decode cX9_text 33 = .ok (.ifCond .lt 8, 3) := by decide +kernel
theorem dX9_text_36 : decode cX9_text 36 = .ok (.bipush (-10), 2) := by decide +kernel
theorem dX9_text_38 : decode cX9_text 38 = .ok (.iload_n 2, 1) := by decide +kernel
theorem dX9_text_39 : decode cX9_text 39 = .ok (.isub, 1) := by decide +kernel
theorem dX9_text_40 : decode cX9_text 40 = .ok (.ireturn, 1) := by decide +kernel
theorem dX9_text_41 : decode cX9_text 41 = .ok (.aload_n 0, 1) := by decide +kernel
theorem dX9_text_42 : decode cX9_text 42 = .ok (.getfield 10, 3) := by decide +kernel
theorem dX9_text_45 : decode cX9_text 45 = .ok (.getfield 176, 3) := by decide +kernel
theorem dX9_text_48 : decode cX9_text 48 = .ok (.iload_n 1, 1) := by decide +kernel
theorem dX9_text_49 : decode cX9_text 49 = .ok (.aaload, 1) := by decide +kernel
theorem dX9_text_50 : decode cX9_text 50 = .ok (.getfield 180, 3) := by decide +kernel
theorem dX9_text_53 : decode cX9_text 53 = .ok (.aload_n 0, 1) := by decide +kernel
theorem dX9_text_54 : decode cX9_text 54 = .ok (.getfield 35, 3) := by decide +kernel
theorem dX9_text_57 : decode cX9_text 57 = .ok (.getfield 185, 3) := by decide +kernel
theorem dX9_text_60 : decode cX9_text 60 = .ok (.invokevirtual 186, 3) := by decide +kernel
theorem dX9_text_63 : decode cX9_text 63 = .ok (.iconst 1, 1) := by decide +kernel
theorem dX9_text_64 : decode cX9_text 64 = .ok (.ireturn, 1) := by decide +kernel
theorem dX9_untell_0 : decode cX9_untell 0 = .ok (.iload_n 1, 1) := by decide +kernel
theorem dX9_untell_1 : decode cX9_untell 1 = .ok (.invokestatic 167, 3) := by decide +kernel
theorem dX9_untell_4 : decode cX9_untell 4 = .ok (.ifCond .ne 9, 3) := by decide +kernel
theorem dX9_untell_7 : decode cX9_untell 7 = .ok (.aload_n 0, 1) := by decide +kernel
theorem dX9_untell_8 : decode cX9_untell 8 = .ok (.iconst 1, 1) := by decide +kernel
theorem dX9_untell_9 : decode cX9_untell 9 = .ok (.invokevirtual 74, 3) := by decide +kernel
theorem dX9_untell_12 : decode cX9_untell 12 = .ok (.ireturn, 1) := by decide +kernel
theorem dX9_untell_13 : decode cX9_untell 13 = .ok (.aload_n 0, 1) := by decide +kernel
theorem dX9_untell_14 : decode cX9_untell 14 = .ok (.getfield 10, 3) := by decide +kernel
theorem dX9_untell_17 : decode cX9_untell 17 = .ok (.getfield 176, 3) := by decide +kernel
theorem dX9_untell_20 : decode cX9_untell 20 = .ok (.iload_n 1, 1) := by decide +kernel
theorem dX9_untell_21 : decode cX9_untell 21 = .ok (.aaload, 1) := by decide +kernel
theorem dX9_untell_22 : decode cX9_untell 22 = .ok (.invokevirtual 189, 3) := by decide +kernel
theorem dX9_untell_25 : decode cX9_untell 25 = .ok (.ifCond .eq 7, 3) := by decide +kernel
theorem dX9_untell_28 : decode cX9_untell 28 = .ok (.iconst 1, 1) := by decide +kernel
theorem dX9_untell_29 : decode cX9_untell 29 = .ok (.goto 4, 3) := by decide +kernel
theorem dX9_untell_32 : decode cX9_untell 32 = .ok (.iconst 0, 1) := by decide +kernel
theorem dX9_untell_33 : decode cX9_untell 33 = .ok (.istore_n 2, 1) := by decide +kernel
theorem dX9_untell_34 : decode cX9_untell 34 = .ok (.aload_n 0, 1) := by decide +kernel
theorem dX9_untell_35 : decode cX9_untell 35 = .ok (.getfield 10, 3) := by decide +kernel
theorem dX9_untell_38 : decode cX9_untell 38 = .ok (.getfield 176, 3) := by decide +kernel
theorem dX9_untell_41 : decode cX9_untell 41 = .ok (.iload_n 1, 1) := by decide +kernel
theorem dX9_untell_42 : decode cX9_untell 42 = .ok (.aaload, 1) := by decide +kernel
theorem dX9_untell_43 : decode cX9_untell 43 = .ok (.getfield 180, 3) := by decide +kernel
theorem dX9_untell_46 : decode cX9_untell 46 = .ok (.invokevirtual 173, 3) := by decide +kernel
theorem dX9_untell_49 : decode cX9_untell 49 = .ok (.iload_n 2, 1) := by decide +kernel
theorem dX9_untell_50 : decode cX9_untell 50 = .ok (.ireturn, 1) := by decide +kernel
theorem dX9_law_0 : decode cX9_law 0 = .ok (.iload_n 1, 1) := by decide +kernel
theorem dX9_law_1 : decode cX9_law 1 = .ok (.invokestatic 167, 3) := by decide +kernel
theorem dX9_law_4 : decode cX9_law 4 = .ok (.ifCond .ne 9, 3) := by decide +kernel
theorem dX9_law_7 : decode cX9_law 7 = .ok (.aload_n 0, 1) := by decide +kernel
theorem dX9_law_8 : decode cX9_law 8 = .ok (.iconst 1, 1) := by decide +kernel
theorem dX9_law_9 : decode cX9_law 9 = .ok (.invokevirtual 74, 3) := by decide +kernel
theorem dX9_law_12 : decode cX9_law 12 = .ok (.ireturn, 1) := by decide +kernel
theorem dX9_law_13 : decode cX9_law 13 = .ok (.aload_n 0, 1) := by decide +kernel
theorem dX9_law_14 : decode cX9_law 14 = .ok (.getfield 10, 3) := by decide +kernel
theorem dX9_law_17 : decode cX9_law 17 = .ok (.iload_n 1, 1) := by decide +kernel
theorem dX9_law_18 : decode cX9_law 18 = .ok (.iload_n 2, 1) := by decide +kernel
theorem dX9_law_19 : decode cX9_law 19 = .ok (.iload_n 3, 1) := by decide +kernel
theorem dX9_law_20 : decode cX9_law 20 = .ok (.iload 4, 2) := by decide +kernel
theorem dX9_law_22 : decode cX9_law 22 = .ok (.invokevirtual 193, 3) := by decide +kernel
theorem dX9_law_25 : decode cX9_law 25 = .ok (.ireturn, 1) := by decide +kernel
theorem dX9_years_0 : decode cX9_years 0 = .ok (.iload_n 1, 1) := by decide +kernel
theorem dX9_years_1 : decode cX9_years 1 = .ok (.iconst 1, 1) := by decide +kernel
theorem dX9_years_2 : decode cX9_years 2 = .ok (.if_icmp .lt 9, 3) := by decide +kernel
theorem dX9_years_5 : decode cX9_years 5 = .ok (.iload_n 1, 1) := by decide +kernel
theorem dX9_years_6 : decode cX9_years 6 = .ok (.bipush 60, 2) := by decide +kernel
theorem dX9_years_8 : decode cX9_years 8 = .ok (.if_icmp .le 9, 3) := by decide +kernel
theorem dX9_years_11 : decode cX9_years 11 = .ok (.aload_n 0, 1) := by decide +kernel
theorem dX9_years_12 : decode cX9_years 12 = .ok (.iconst 1, 1) := by decide +kernel
theorem dX9_years_13 : decode cX9_years 13 = .ok (.invokevirtual 74, 3) := by decide +kernel
theorem dX9_years_16 : decode cX9_years 16 = .ok (.ireturn, 1) := by decide +kernel
theorem dX9_years_17 : decode cX9_years 17 = .ok (.aload_n 0, 1) := by decide +kernel
theorem dX9_years_18 : decode cX9_years 18 = .ok (.getfield 10, 3) := by decide +kernel
theorem dX9_years_21 : decode cX9_years 21 = .ok (.getfield 97, 3) := by decide +kernel
theorem dX9_years_24 : decode cX9_years 24 = .ok (.getfield 197, 3) := by decide +kernel
theorem dX9_years_27 : decode cX9_years 27 = .ok (.iload_n 1, 1) := by decide +kernel
theorem dX9_years_28 : decode cX9_years 28 = .ok (.iadd, 1) := by decide +kernel
theorem dX9_years_29 : decode cX9_years 29 = .ok (.sipush 9999, 3) := by decide +kernel
theorem dX9_years_32 : decode cX9_years 32 = .ok (.if_icmp .le 9, 3) := by decide +kernel
theorem dX9_years_35 : decode cX9_years 35 = .ok (.aload_n 0, 1) := by decide +kernel
theorem dX9_years_36 : decode cX9_years 36 = .ok (.iconst 3, 1) := by decide +kernel
theorem dX9_years_37 : decode cX9_years 37 = .ok (.invokevirtual 74, 3) := by decide +kernel
theorem dX9_years_40 : decode cX9_years 40 = .ok (.ireturn, 1) := by decide +kernel
theorem dX9_years_41 : decode cX9_years 41 = .ok (.aload_n 0, 1) := by decide +kernel
theorem dX9_years_42 : decode cX9_years 42 = .ok (.getfield 10, 3) := by decide +kernel
theorem dX9_years_45 : decode cX9_years 45 = .ok (.aload_n 0, 1) := by decide +kernel
theorem dX9_years_46 : decode cX9_years 46 = .ok (.getfield 10, 3) := by decide +kernel
theorem dX9_years_49 : decode cX9_years 49 = .ok (.getfield 97, 3) := by decide +kernel
theorem dX9_years_52 : decode cX9_years 52 = .ok (.iload_n 1, 1) := by decide +kernel
theorem dX9_years_53 : decode cX9_years 53 = .ok (.invokevirtual 200, 3) := by decide +kernel
theorem dX9_years_56 : decode cX9_years 56 = .ok (.aload_n 0, 1) := by decide +kernel
theorem dX9_years_57 : decode cX9_years 57 = .ok (.getfield 10, 3) := by decide +kernel
theorem dX9_years_60 : decode cX9_years 60 = .ok (.getfield 97, 3) := by decide +kernel
theorem dX9_years_63 : decode cX9_years 63 = .ok (.invokevirtual 204, 3) := by decide +kernel
theorem dX9_years_66 : decode cX9_years 66 = .ok (.ireturn, 1) := by decide +kernel
theorem dX9_loose_0 : decode cX9_loose 0 = .ok (.iload_n 1, 1) := by decide +kernel
theorem dX9_loose_1 : decode cX9_loose 1 = .ok (.iconst 1, 1) := by decide +kernel
theorem dX9_loose_2 : decode cX9_loose 2 = .ok (.if_icmp .lt 9, 3) := by decide +kernel
theorem dX9_loose_5 : decode cX9_loose 5 = .ok (.iload_n 1, 1) := by decide +kernel
theorem dX9_loose_6 : decode cX9_loose 6 = .ok (.bipush 30, 2) := by decide +kernel
theorem dX9_loose_8 : decode cX9_loose 8 = .ok (.if_icmp .le 9, 3) := by decide +kernel
theorem dX9_loose_11 : decode cX9_loose 11 = .ok (.aload_n 0, 1) := by decide +kernel
theorem dX9_loose_12 : decode cX9_loose 12 = .ok (.iconst 1, 1) := by decide +kernel
theorem dX9_loose_13 : decode cX9_loose 13 = .ok (.invokevirtual 74, 3) := by decide +kernel
theorem dX9_loose_16 : decode cX9_loose 16 = .ok (.ireturn, 1) := by decide +kernel
theorem dX9_loose_17 : decode cX9_loose 17 = .ok (.aload_n 0, 1) := by decide +kernel
theorem dX9_loose_18 : decode cX9_loose 18 = .ok (.getfield 10, 3) := by decide +kernel
theorem dX9_loose_21 : decode cX9_loose 21 = .ok (.getfield 97, 3) := by decide +kernel
theorem dX9_loose_24 : decode cX9_loose 24 = .ok (.getfield 197, 3) := by decide +kernel
theorem dX9_loose_27 : decode cX9_loose 27 = .ok (.iload_n 1, 1) := by decide +kernel
theorem dX9_loose_28 : decode cX9_loose 28 = .ok (.iadd, 1) := by decide +kernel
theorem dX9_loose_29 : decode cX9_loose 29 = .ok (.sipush 9999, 3) := by decide +kernel
theorem dX9_loose_32 : decode cX9_loose 32 = .ok (.if_icmp .le 9, 3) := by decide +kernel
theorem dX9_loose_35 : decode cX9_loose 35 = .ok (.aload_n 0, 1) := by decide +kernel
theorem dX9_loose_36 : decode cX9_loose 36 = .ok (.iconst 3, 1) := by decide +kernel
theorem dX9_loose_37 : decode cX9_loose 37 = .ok (.invokevirtual 74, 3) := by decide +kernel
theorem dX9_loose_40 : decode cX9_loose 40 = .ok (.ireturn, 1) := by decide +kernel
theorem dX9_loose_41 : decode cX9_loose 41 = .ok (.iconst 0, 1) := by decide +kernel
theorem dX9_loose_42 : decode cX9_loose 42 = .ok (.istore_n 2, 1) := by decide +kernel
theorem dX9_loose_43 : decode cX9_loose 43 = .ok (.iload_n 2, 1) := by decide +kernel
theorem dX9_loose_44 : decode cX9_loose 44 = .ok (.iload_n 1, 1) := by decide +kernel
theorem dX9_loose_45 : decode cX9_loose 45 = .ok (.if_icmp .ge 31, 3) := by decide +kernel
theorem dX9_loose_48 : decode cX9_loose 48 = .ok (.aload_n 0, 1) := by decide +kernel
theorem dX9_loose_49 : decode cX9_loose 49 = .ok (.getfield 10, 3) := by decide +kernel
theorem dX9_loose_52 : decode cX9_loose 52 = .ok (.invokevirtual 207, 3) := by decide +kernel
theorem dX9_loose_55 : decode cX9_loose 55 = .ok (.aload_n 0, 1) := by decide +kernel
theorem dX9_loose_56 : decode cX9_loose 56 = .ok (.getfield 10, 3) := by decide +kernel
theorem dX9_loose_59 : decode cX9_loose 59 = .ok (.aload_n 0, 1) := by decide +kernel
theorem dX9_loose_60 : decode cX9_loose 60 = .ok (.getfield 10, 3) := by decide +kernel
theorem dX9_loose_63 : decode cX9_loose 63 = .ok (.getfield 97, 3) := by decide +kernel
theorem dX9_loose_66 : decode cX9_loose 66 = .ok (.iconst 1, 1) := by decide +kernel
theorem dX9_loose_67 : decode cX9_loose 67 = .ok (.invokevirtual 200, 3) := by decide +kernel
theorem dX9_loose_70 : decode cX9_loose 70 = .ok (.iinc 2 1, 3) := by decide +kernel
theorem dX9_loose_73 : decode cX9_loose 73 = .ok (.goto (-30), 3) := by decide +kernel
theorem dX9_loose_76 : decode cX9_loose 76 = .ok (.aload_n 0, 1) := by decide +kernel
theorem dX9_loose_77 : decode cX9_loose 77 = .ok (.getfield 10, 3) := by decide +kernel
theorem dX9_loose_80 : decode cX9_loose 80 = .ok (.getfield 97, 3) := by decide +kernel
theorem dX9_loose_83 : decode cX9_loose 83 = .ok (.invokevirtual 204, 3) := by decide +kernel
theorem dX9_loose_86 : decode cX9_loose 86 = .ok (.ireturn, 1) := by decide +kernel
theorem dX9_year_0 : decode cX9_year 0 = .ok (.iload_n 1, 1) := by decide +kernel
theorem dX9_year_1 : decode cX9_year 1 = .ok (.ifCond .lt 10, 3) := by decide +kernel
theorem dX9_year_4 : decode cX9_year 4 = .ok (.iload_n 1, 1) := by decide +kernel
theorem dX9_year_5 : decode cX9_year 5 = .ok (.sipush 9999, 3) := by decide +kernel
theorem dX9_year_8 : decode cX9_year 8 = .ok (.if_icmp .le 9, 3) := by decide +kernel
theorem dX9_year_11 : decode cX9_year 11 = .ok (.aload_n 0, 1) := by decide +kernel
theorem dX9_year_12 : decode cX9_year 12 = .ok (.iconst 1, 1) := by decide +kernel
theorem dX9_year_13 : decode cX9_year 13 = .ok (.invokevirtual 74, 3) := by decide +kernel
theorem dX9_year_16 : decode cX9_year 16 = .ok (.ireturn, 1) := by decide +kernel
theorem dX9_year_17 : decode cX9_year 17 = .ok (.aload_n 0, 1) := by decide +kernel
theorem dX9_year_18 : decode cX9_year 18 = .ok (.getfield 10, 3) := by decide +kernel
theorem dX9_year_21 : decode cX9_year 21 = .ok (.getfield 97, 3) := by decide +kernel
theorem dX9_year_24 : decode cX9_year 24 = .ok (.getfield 197, 3) := by decide +kernel
theorem dX9_year_27 : decode cX9_year 27 = .ok (.istore_n 2, 1) := by decide +kernel
theorem dX9_year_28 : decode cX9_year 28 = .ok (.aload_n 0, 1) := by decide +kernel
theorem dX9_year_29 : decode cX9_year 29 = .ok (.getfield 10, 3) := by decide +kernel
theorem dX9_year_32 : decode cX9_year 32 = .ok (.getfield 97, 3) := by decide +kernel
theorem dX9_year_35 : decode cX9_year 35 = .ok (.iload_n 1, 1) := by decide +kernel
theorem dX9_year_36 : decode cX9_year 36 = .ok (.putfield 197, 3) := by decide +kernel
theorem dX9_year_39 : decode cX9_year 39 = .ok (.iload_n 2, 1) := by decide +kernel
theorem dX9_year_40 : decode cX9_year 40 = .ok (.ireturn, 1) := by decide +kernel
theorem dX9_seed_0 : decode cX9_seed 0 = .ok (.aload_n 0, 1) := by decide +kernel
theorem dX9_seed_1 : decode cX9_seed 1 = .ok (.getfield 10, 3) := by decide +kernel
theorem dX9_seed_4 : decode cX9_seed 4 = .ok (.getfield 210, 3) := by decide +kernel
theorem dX9_seed_7 : decode cX9_seed 7 = .ok (.istore_n 2, 1) := by decide +kernel
theorem dX9_seed_8 : decode cX9_seed 8 = .ok (.aload_n 0, 1) := by decide +kernel
theorem dX9_seed_9 : decode cX9_seed 9 = .ok (.getfield 10, 3) := by decide +kernel
theorem dX9_seed_12 : decode cX9_seed 12 = .ok (.iload_n 1, 1) := by decide +kernel
theorem dX9_seed_13 : decode cX9_seed 13 = .ok (.putfield 210, 3) := by decide +kernel
theorem dX9_seed_16 : decode cX9_seed 16 = .ok (.iload_n 2, 1) := by decide +kernel
theorem dX9_seed_17 : decode cX9_seed 17 = .ok (.ireturn, 1) := by decide +kernel
theorem dX9_then_0 : decode cX9_then 0 = .ok (.aload_n 0, 1) := by decide +kernel
theorem dX9_then_1 : decode cX9_then 1 = .ok (.getfield 10, 3) := by decide +kernel
theorem dX9_then_4 : decode cX9_then 4 = .ok (.getfield 65, 3) := by decide +kernel
theorem dX9_then_7 : decode cX9_then 7 = .ok (.iload_n 1, 1) := by decide +kernel
theorem dX9_then_8 : decode cX9_then 8 = .ok (.invokevirtual 82, 3) := by decide +kernel
theorem dX9_then_11 : decode cX9_then 11 = .ok (.ifCond .eq 13, 3) := by decide +kernel
theorem dX9_then_14 : decode cX9_then 14 = .ok (.iload_n 2, 1) := by decide +kernel
theorem dX9_then_15 : decode cX9_then 15 = .ok (.ifCond .lt 9, 3) := by decide +kernel
theorem dX9_then_18 : decode cX9_then 18 = .ok (.iload_n 2, 1) := by decide +kernel
theorem dX9_then_19 : decode cX9_then 19 = .ok (.bipush 60, 2) := by decide +kernel
theorem dX9_then_21 : decode cX9_then 21 = .ok (.if_icmp .le 9, 3) := by decide +kernel
theorem dX9_then_24 : decode cX9_then 24 = .ok (.aload_n 0, 1) := by decide +kernel
theorem dX9_then_25 : decode cX9_then 25 = .ok (.iconst 1, 1) := by decide +kernel
theorem dX9_then_26 : decode cX9_then 26 = .ok (.invokevirtual 74, 3) := by decide +kernel
theorem dX9_then_29 : decode cX9_then 29 = .ok (.ireturn, 1) := by decide +kernel
theorem dX9_then_30 : decode cX9_then 30 = .ok (.aload_n 0, 1) := by decide +kernel
theorem dX9_then_31 : decode cX9_then 31 = .ok (.getfield 22, 3) := by decide +kernel
theorem dX9_then_34 : decode cX9_then 34 = .ok (.aload_n 0, 1) := by decide +kernel
theorem dX9_then_35 : decode cX9_then 35 = .ok (.getfield 10, 3) := by decide +kernel
theorem dX9_then_38 : decode cX9_then 38 = .ok (.getfield 97, 3) := by decide +kernel
theorem dX9_then_41 : decode cX9_then 41 = .ok (.invokevirtual 213, 3) := by decide +kernel
theorem dX9_then_44 : decode cX9_then 44 = .ok (.aload_n 0, 1) := by decide +kernel
theorem dX9_then_45 : decode cX9_then 45 = .ok (.getfield 10, 3) := by decide +kernel
theorem dX9_then_48 : decode cX9_then 48 = .ok (.aload_n 0, 1) := by decide +kernel
theorem dX9_then_49 : decode cX9_then 49 = .ok (.getfield 22, 3) := by decide +kernel
theorem dX9_then_52 : decode cX9_then 52 = .ok (.iload_n 2, 1) := by decide +kernel
theorem dX9_then_53 : decode cX9_then 53 = .ok (.invokevirtual 200, 3) := by decide +kernel
theorem dX9_then_56 : decode cX9_then 56 = .ok (.aload_n 0, 1) := by decide +kernel
theorem dX9_then_57 : decode cX9_then 57 = .ok (.getfield 22, 3) := by decide +kernel
theorem dX9_then_60 : decode cX9_then 60 = .ok (.getfield 100, 3) := by decide +kernel
theorem dX9_then_63 : decode cX9_then 63 = .ok (.iload_n 1, 1) := by decide +kernel
theorem dX9_then_64 : decode cX9_then 64 = .ok (.iaload, 1) := by decide +kernel
theorem dX9_then_65 : decode cX9_then 65 = .ok (.ireturn, 1) := by decide +kernel
theorem dX9_soonest_0 : decode cX9_soonest 0 = .ok (.aload_n 0, 1) := by decide +kernel
theorem dX9_soonest_1 : decode cX9_soonest 1 = .ok (.getfield 10, 3) := by decide +kernel
theorem dX9_soonest_4 : decode cX9_soonest 4 = .ok (.getfield 65, 3) := by decide +kernel
theorem dX9_soonest_7 : decode cX9_soonest 7 = .ok (.iload_n 1, 1) := by decide +kernel
theorem dX9_soonest_8 : decode cX9_soonest 8 = .ok (.invokevirtual 82, 3) := by decide +kernel
theorem dX9_soonest_11 : decode cX9_soonest 11 = .ok (.ifCond .eq 17, 3) := by decide +kernel
theorem dX9_soonest_14 : decode cX9_soonest 14 = .ok (.aload_n 0, 1) := by decide +kernel
theorem dX9_soonest_15 : decode cX9_soonest 15 = .ok (.getfield 10, 3) := by decide +kernel
theorem dX9_soonest_18 : decode cX9_soonest 18 = .ok (.getfield 65, 3) := by decide +kernel
theorem dX9_soonest_21 : decode cX9_soonest 21 = .ok (.iload_n 2, 1) := by decide +kernel
theorem dX9_soonest_22 : decode cX9_soonest 22 = .ok (.invokevirtual 82, 3) := by decide +kernel
theorem dX9_soonest_25 : decode cX9_soonest 25 = .ok (.ifCond .ne 9, 3) := by decide +kernel
theorem dX9_soonest_28 : decode cX9_soonest 28 = .ok (.aload_n 0, 1) := by decide +kernel
theorem dX9_soonest_29 : decode cX9_soonest 29 = .ok (.iconst 1, 1) := by decide +kernel
theorem dX9_soonest_30 : decode cX9_soonest 30 = .ok (.invokevirtual 74, 3) := by decide +kernel
theorem dX9_soonest_33 : decode cX9_soonest 33 = .ok (.ireturn, 1) := by decide +kernel
theorem dX9_soonest_34 : decode cX9_soonest 34 = .ok (.aload_n 0, 1) := by decide +kernel
theorem dX9_soonest_35 : decode cX9_soonest 35 = .ok (.getfield 22, 3) := by decide +kernel
theorem dX9_soonest_38 : decode cX9_soonest 38 = .ok (.aload_n 0, 1) := by decide +kernel
theorem dX9_soonest_39 : decode cX9_soonest 39 = .ok (.getfield 10, 3) := by decide +kernel
theorem dX9_soonest_42 : decode cX9_soonest 42 = .ok (.getfield 97, 3) := by decide +kernel
theorem dX9_soonest_45 : decode cX9_soonest 45 = .ok (.invokevirtual 213, 3) := by decide +kernel
theorem dX9_soonest_48 : decode cX9_soonest 48 = .ok (.iconst 0, 1) := by decide +kernel
theorem dX9_soonest_49 : decode cX9_soonest 49 = .ok (.istore_n 3, 1) := by decide +kernel
theorem dX9_soonest_50 : decode cX9_soonest 50 = .ok (.iload_n 3, 1) := by decide +kernel
theorem dX9_soonest_51 : decode cX9_soonest 51 = .ok (.bipush 60, 2) := by decide +kernel
theorem dX9_soonest_53 : decode cX9_soonest 53 = .ok (.if_icmp .gt 39, 3) := by decide +kernel
theorem dX9_soonest_56 : decode cX9_soonest 56 = .ok (.aload_n 0, 1) := by decide +kernel
theorem dX9_soonest_57 : decode cX9_soonest 57 = .ok (.getfield 22, 3) := by decide +kernel
theorem dX9_soonest_60 : decode cX9_soonest 60 = .ok (.getfield 100, 3) := by decide +kernel
theorem dX9_soonest_63 : decode cX9_soonest 63 = .ok (.iload_n 1, 1) := by decide +kernel
theorem dX9_soonest_64 : decode cX9_soonest 64 = .ok (.iaload, 1) := by decide +kernel
theorem dX9_soonest_65 : decode cX9_soonest 65 = .ok (.iload_n 2, 1) := by decide +kernel
theorem dX9_soonest_66 : decode cX9_soonest 66 = .ok (.invokestatic 216, 3) := by decide +kernel
theorem dX9_soonest_69 : decode cX9_soonest 69 = .ok (.ifCond .eq 5, 3) := by decide +kernel
theorem dX9_soonest_72 : decode cX9_soonest 72 = .ok (.iload_n 3, 1) := by decide +kernel
theorem dX9_soonest_73 : decode cX9_soonest 73 = .ok (.ireturn, 1) := by decide +kernel
theorem dX9_soonest_74 : decode cX9_soonest 74 = .ok (.aload_n 0, 1) := by decide +kernel
theorem dX9_soonest_75 : decode cX9_soonest 75 = .ok (.getfield 10, 3) := by decide +kernel
theorem dX9_soonest_78 : decode cX9_soonest 78 = .ok (.aload_n 0, 1) := by decide +kernel
theorem dX9_soonest_79 : decode cX9_soonest 79 = .ok (.getfield 22, 3) := by decide +kernel
theorem dX9_soonest_82 : decode cX9_soonest 82 = .ok (.iconst 1, 1) := by decide +kernel
theorem dX9_soonest_83 : decode cX9_soonest 83 = .ok (.invokevirtual 200, 3) := by decide +kernel
theorem dX9_soonest_86 : decode cX9_soonest 86 = .ok (.iinc 3 1, 3) := by decide +kernel
theorem dX9_soonest_89 : decode cX9_soonest 89 = .ok (.goto (-39), 3) := by decide +kernel
theorem dX9_soonest_92 : decode cX9_soonest 92 = .ok (.aload_n 0, 1) := by decide +kernel
theorem dX9_soonest_93 : decode cX9_soonest 93 = .ok (.iconst 2, 1) := by decide +kernel
theorem dX9_soonest_94 : decode cX9_soonest 94 = .ok (.invokevirtual 74, 3) := by decide +kernel
theorem dX9_soonest_97 : decode cX9_soonest 97 = .ok (.ireturn, 1) := by decide +kernel
theorem dX9_match_0 : decode cX9_match 0 = .ok (.aload_n 0, 1) := by decide +kernel
theorem dX9_match_1 : decode cX9_match 1 = .ok (.getfield 10, 3) := by decide +kernel
theorem dX9_match_4 : decode cX9_match 4 = .ok (.getfield 65, 3) := by decide +kernel
theorem dX9_match_7 : decode cX9_match 7 = .ok (.iload_n 1, 1) := by decide +kernel
theorem dX9_match_8 : decode cX9_match 8 = .ok (.invokevirtual 82, 3) := by decide +kernel
theorem dX9_match_11 : decode cX9_match 11 = .ok (.ifCond .eq 26, 3) := by decide +kernel
theorem dX9_match_14 : decode cX9_match 14 = .ok (.aload_n 0, 1) := by decide +kernel
theorem dX9_match_15 : decode cX9_match 15 = .ok (.getfield 10, 3) := by decide +kernel
theorem dX9_match_18 : decode cX9_match 18 = .ok (.getfield 65, 3) := by decide +kernel
theorem dX9_match_21 : decode cX9_match 21 = .ok (.iload_n 2, 1) := by decide +kernel
theorem dX9_match_22 : decode cX9_match 22 = .ok (.invokevirtual 82, 3) := by decide +kernel
theorem dX9_match_25 : decode cX9_match 25 = .ok (.ifCond .eq 12, 3) := by decide +kernel
theorem dX9_match_28 : decode cX9_match 28 = .ok (.iload_n 3, 1) := by decide +kernel
theorem dX9_match_29 : decode cX9_match 29 = .ok (.ifCond .lt 8, 3) := by decide +kernel
theorem dX9_match_32 : decode cX9_match 32 = .ok (.iload_n 3, 1) := by decide +kernel
theorem dX9_match_33 : decode cX9_match 33 = .ok (.iconst 1, 1) := by decide +kernel
theorem dX9_match_34 : decode cX9_match 34 = .ok (.if_icmp .le 9, 3) := by decide +kernel
theorem dX9_match_37 : decode cX9_match 37 = .ok (.aload_n 0, 1) := by decide +kernel
theorem dX9_match_38 : decode cX9_match 38 = .ok (.iconst 1, 1) := by decide +kernel
theorem dX9_match_39 : decode cX9_match 39 = .ok (.invokevirtual 74, 3) := by decide +kernel
theorem dX9_match_42 : decode cX9_match 42 = .ok (.ireturn, 1) := by decide +kernel
theorem dX9_match_43 : decode cX9_match 43 = .ok (.aload_n 0, 1) := by decide +kernel
theorem dX9_match_44 : decode cX9_match 44 = .ok (.getfield 10, 3) := by decide +kernel
theorem dX9_match_47 : decode cX9_match 47 = .ok (.getfield 65, 3) := by decide +kernel
theorem dX9_match_50 : decode cX9_match 50 = .ok (.iload_n 1, 1) := by decide +kernel
theorem dX9_match_51 : decode cX9_match 51 = .ok (.iload_n 2, 1) := by decide +kernel
theorem dX9_match_52 : decode cX9_match 52 = .ok (.invokevirtual 219, 3) := by decide +kernel
theorem dX9_match_55 : decode cX9_match 55 = .ok (.istore 4, 2) := by decide +kernel
theorem dX9_match_57 : decode cX9_match 57 = .ok (.iload 4, 2) := by decide +kernel
theorem dX9_match_59 : decode cX9_match 59 = .ok (.ifCond .ge 9, 3) := by decide +kernel
theorem dX9_match_62 : decode cX9_match 62 = .ok (.aload_n 0, 1) := by decide +kernel
theorem dX9_match_63 : decode cX9_match 63 = .ok (.iconst 2, 1) := by decide +kernel
theorem dX9_match_64 : decode cX9_match 64 = .ok (.invokevirtual 74, 3) := by decide +kernel
theorem dX9_match_67 : decode cX9_match 67 = .ok (.ireturn, 1) := by decide +kernel
theorem dX9_match_68 : decode cX9_match 68 = .ok (.iload_n 3, 1) := by decide +kernel
theorem dX9_match_69 : decode cX9_match 69 = .ok (.ifCond .ne 11, 3) := by decide +kernel
theorem dX9_match_72 : decode cX9_match 72 = .ok (.iload 4, 2) := by decide +kernel
theorem dX9_match_74 : decode cX9_match 74 = .ok (.bipush 100, 2) := by decide +kernel
theorem dX9_match_76 : decode cX9_match 76 = .ok (.irem, 1) := by decide +kernel
theorem dX9_match_77 : decode cX9_match 77 = .ok (.goto 8, 3) := by decide +kernel
theorem dX9_match_80 : decode cX9_match 80 = .ok (.iload 4, 2) := by decide +kernel
theorem dX9_match_82 : decode cX9_match 82 = .ok (.bipush 100, 2) := by decide +kernel
theorem dX9_match_84 : decode cX9_match 84 = .ok (.idiv, 1) := by decide +kernel
theorem dX9_match_85 : decode cX9_match 85 = .ok (.ireturn, 1) := by decide +kernel
theorem dX9_orderFor_0 : decode cX9_orderFor 0 = .ok (.aload_n 0, 1) := by decide +kernel
theorem dX9_orderFor_1 : decode cX9_orderFor 1 = .ok (.getfield 10, 3) := by decide +kernel
theorem dX9_orderFor_4 : decode cX9_orderFor 4 = .ok (.getfield 65, 3) := by decide +kernel
theorem dX9_orderFor_7 : decode cX9_orderFor 7 = .ok (.iload_n 1, 1) := by decide +kernel
theorem dX9_orderFor_8 : decode cX9_orderFor 8 = .ok (.invokevirtual 82, 3) := by decide +kernel
theorem dX9_orderFor_11 : decode cX9_orderFor 11 = .ok (.ifCond .eq 13, 3) := by decide +kernel
theorem dX9_orderFor_14 : decode cX9_orderFor 14 = .ok (.iload_n 2, 1) := by decide +kernel
theorem dX9_orderFor_15 : decode cX9_orderFor 15 = .ok (.ifCond .lt 9, 3) := by decide +kernel
theorem dX9_orderFor_18 : decode cX9_orderFor 18 = .ok (.iload_n 2, 1) := by decide +kernel
theorem dX9_orderFor_19 : decode cX9_orderFor 19 = .ok (.bipush 40, 2) := by decide +kernel
theorem dX9_orderFor_21 : decode cX9_orderFor 21 = .ok (.if_icmp .le 9, 3) := by decide +kernel
theorem dX9_orderFor_24 : decode cX9_orderFor 24 = .ok (.aload_n 0, 1) := by decide +kernel
theorem dX9_orderFor_25 : decode cX9_orderFor 25 = .ok (.iconst 1, 1) := by decide +kernel
theorem dX9_orderFor_26 : decode cX9_orderFor 26 = .ok (.invokevirtual 74, 3) := by decide +kernel
theorem dX9_orderFor_29 : decode cX9_orderFor 29 = .ok (.ireturn, 1) := by decide +kernel
theorem dX9_orderFor_30 : decode cX9_orderFor 30 = .ok (.aload_n 0, 1) := by decide +kernel
theorem dX9_orderFor_31 : decode cX9_orderFor 31 = .ok (.getfield 10, 3) := by decide +kernel
theorem dX9_orderFor_34 : decode cX9_orderFor 34 = .ok (.getfield 97, 3) := by decide +kernel
theorem dX9_orderFor_37 : decode cX9_orderFor 37 = .ok (.iload_n 1, 1) := by decide +kernel
theorem dX9_orderFor_38 : decode cX9_orderFor 38 = .ok (.invokevirtual 222, 3) := by decide +kernel
theorem dX9_orderFor_41 : decode cX9_orderFor 41 = .ok (.istore_n 3, 1) := by decide +kernel
theorem dX9_orderFor_42 : decode cX9_orderFor 42 = .ok (.iconst 0, 1) := by decide +kernel
theorem dX9_orderFor_43 : decode cX9_orderFor 43 = .ok (.istore 4, 2) := by decide +kernel
theorem dX9_orderFor_45 : decode cX9_orderFor 45 = .ok (.iload 4, 2) := by decide +kernel
theorem dX9_orderFor_47 : decode cX9_orderFor 47 = .ok (.bipush 40, 2) := by decide +kernel
theorem dX9_orderFor_49 : decode cX9_orderFor 49 = .ok (.if_icmp .gt 59, 3) := by decide +kernel
theorem dX9_orderFor_52 : decode cX9_orderFor 52 = .ok (.aload_n 0, 1) := by decide +kernel
theorem dX9_orderFor_53 : decode cX9_orderFor 53 = .ok (.getfield 22, 3) := by decide +kernel
theorem dX9_orderFor_56 : decode cX9_orderFor 56 = .ok (.aload_n 0, 1) := by decide +kernel
theorem dX9_orderFor_57 : decode cX9_orderFor 57 = .ok (.getfield 10, 3) := by decide +kernel
theorem dX9_orderFor_60 : decode cX9_orderFor 60 = .ok (.getfield 97, 3) := by decide +kernel
theorem dX9_orderFor_63 : decode cX9_orderFor 63 = .ok (.invokevirtual 213, 3) := by decide +kernel
theorem dX9_orderFor_66 : decode cX9_orderFor 66 = .ok (.aload_n 0, 1) := by decide +kernel
theorem dX9_orderFor_67 : decode cX9_orderFor 67 = .ok (.getfield 22, 3) := by decide +kernel
theorem dX9_orderFor_70 : decode cX9_orderFor 70 = .ok (.iload 4, 2) := by decide +kernel
theorem dX9_orderFor_72 : decode cX9_orderFor 72 = .ok (.putfield 152, 3) := by decide +kernel
theorem dX9_orderFor_75 : decode cX9_orderFor 75 = .ok (.aload_n 0, 1) := by decide +kernel
theorem dX9_orderFor_76 : decode cX9_orderFor 76 = .ok (.getfield 10, 3) := by decide +kernel
theorem dX9_orderFor_79 : decode cX9_orderFor 79 = .ok (.aload_n 0, 1) := by decide +kernel
theorem dX9_orderFor_80 : decode cX9_orderFor 80 = .ok (.getfield 22, 3) := by decide +kernel
theorem dX9_orderFor_83 : decode cX9_orderFor 83 = .ok (.iload_n 2, 1) := by decide +kernel
theorem dX9_orderFor_84 : decode cX9_orderFor 84 = .ok (.invokevirtual 200, 3) := by decide +kernel
theorem dX9_orderFor_87 : decode cX9_orderFor 87 = .ok (.aload_n 0, 1) := by decide +kernel
theorem dX9_orderFor_88 : decode cX9_orderFor 88 = .ok (.getfield 22, 3) := by decide +kernel
theorem dX9_orderFor_91 : decode cX9_orderFor 91 = .ok (.iload_n 1, 1) := by decide +kernel
theorem dX9_orderFor_92 : decode cX9_orderFor 92 = .ok (.invokevirtual 222, 3) := by decide +kernel
theorem dX9_orderFor_95 : decode cX9_orderFor 95 = .ok (.iload_n 3, 1) := by decide +kernel
theorem dX9_orderFor_96 : decode cX9_orderFor 96 = .ok (.if_icmp .ne 6, 3) := by decide +kernel
theorem dX9_orderFor_99 : decode cX9_orderFor 99 = .ok (.iload 4, 2) := by decide +kernel
theorem dX9_orderFor_101 : decode cX9_orderFor 101 = .ok (.ireturn, 1) := by decide +kernel
theorem dX9_orderFor_102 : decode cX9_orderFor 102 = .ok (.iinc 4 1, 3) := by decide +kernel
theorem dX9_orderFor_105 : decode cX9_orderFor 105 = .ok (.goto (-60), 3) := by decide +kernel
theorem dX9_orderFor_108 : decode cX9_orderFor 108 = .ok (.aload_n 0, 1) := by decide +kernel
theorem dX9_orderFor_109 : decode cX9_orderFor 109 = .ok (.iconst 2, 1) := by decide +kernel
theorem dX9_orderFor_110 : decode cX9_orderFor 110 = .ok (.invokevirtual 74, 3) := by decide +kernel
theorem dX9_orderFor_113 : decode cX9_orderFor 113 = .ok (.ireturn, 1) := by decide +kernel
theorem dX9_seers_0 : decode cX9_seers 0 = .ok (.aload_n 0, 1) := by decide +kernel
theorem dX9_seers_1 : decode cX9_seers 1 = .ok (.getfield 10, 3) := by decide +kernel
theorem dX9_seers_4 : decode cX9_seers 4 = .ok (.getfield 65, 3) := by decide +kernel
theorem dX9_seers_7 : decode cX9_seers 7 = .ok (.iload_n 1, 1) := by decide +kernel
theorem dX9_seers_8 : decode cX9_seers 8 = .ok (.invokevirtual 82, 3) := by decide +kernel
theorem dX9_seers_11 : decode cX9_seers 11 = .ok (.ifCond .ne 9, 3) := by decide +kernel
theorem dX9_seers_14 : decode cX9_seers 14 = .ok (.aload_n 0, 1) := by decide +kernel
theorem dX9_seers_15 : decode cX9_seers 15 = .ok (.iconst 1, 1) := by decide +kernel
theorem dX9_seers_16 : decode cX9_seers 16 = .ok (.invokevirtual 74, 3) := by decide +kernel
theorem dX9_seers_19 : decode cX9_seers 19 = .ok (.ireturn, 1) := by decide +kernel
theorem dX9_seers_20 : decode cX9_seers 20 = .ok (.aload_n 0, 1) := by decide +kernel
theorem dX9_seers_21 : decode cX9_seers 21 = .ok (.getfield 10, 3) := by decide +kernel
theorem dX9_seers_24 : decode cX9_seers 24 = .ok (.getfield 97, 3) := by decide +kernel
theorem dX9_seers_27 : decode cX9_seers 27 = .ok (.iload_n 1, 1) := by decide +kernel
theorem dX9_seers_28 : decode cX9_seers 28 = .ok (.invokevirtual 222, 3) := by decide +kernel
theorem dX9_seers_31 : decode cX9_seers 31 = .ok (.ireturn, 1) := by decide +kernel
theorem dX9_witnesses_0 : decode cX9_witnesses 0 = .ok (.aload_n 0, 1) := by decide +kernel
theorem dX9_witnesses_1 : decode cX9_witnesses 1 = .ok (.getfield 10, 3) := by decide +kernel
theorem dX9_witnesses_4 : decode cX9_witnesses 4 = .ok (.getfield 65, 3) := by decide +kernel
theorem dX9_witnesses_7 : decode cX9_witnesses 7 = .ok (.iload_n 1, 1) := by decide +kernel
theorem dX9_witnesses_8 : decode cX9_witnesses 8 = .ok (.invokevirtual 225, 3) := by decide +kernel
theorem dX9_witnesses_11 : decode cX9_witnesses 11 = .ok (.ifCond .ne 9, 3) := by decide +kernel
theorem dX9_witnesses_14 : decode cX9_witnesses 14 = .ok (.aload_n 0, 1) := by decide +kernel
theorem dX9_witnesses_15 : decode cX9_witnesses 15 = .ok (.iconst 1, 1) := by decide +kernel
theorem dX9_witnesses_16 : decode cX9_witnesses 16 = .ok (.invokevirtual 74, 3) := by decide +kernel
theorem dX9_witnesses_19 : decode cX9_witnesses 19 = .ok (.ireturn, 1) := by decide +kernel
theorem dX9_witnesses_20 : decode cX9_witnesses 20 = .ok (.iconst (-1), 1) := by decide +kernel
theorem dX9_witnesses_21 : decode cX9_witnesses 21 = .ok (.istore_n 2, 1) := by decide +kernel
theorem dX9_witnesses_22 : decode cX9_witnesses 22 = .ok (.iconst 0, 1) := by decide +kernel
theorem dX9_witnesses_23 : decode cX9_witnesses 23 = .ok (.istore_n 3, 1) := by decide +kernel
theorem dX9_witnesses_24 : decode cX9_witnesses 24 = .ok (.iload_n 3, 1) := by decide +kernel
theorem dX9_witnesses_25 : decode cX9_witnesses 25 = .ok (.iconst 1, 1) := by decide +kernel
theorem dX9_witnesses_26 : decode cX9_witnesses 26 = .ok (.aload_n 0, 1) := by decide +kernel
theorem dX9_witnesses_27 : decode cX9_witnesses 27 = .ok (.getfield 10, 3) := by decide +kernel
theorem dX9_witnesses_30 : decode cX9_witnesses 30 = .ok (.getfield 65, 3) := by decide +kernel
theorem dX9_witnesses_33 : decode cX9_witnesses 33 = .ok (.getfield 69, 3) := by decide +kernel
theorem dX9_witnesses_36 : decode cX9_witnesses 36 = .ok (.ishl, 1) := by decide +kernel
theorem dX9_witnesses_37 : decode cX9_witnesses 37 = .ok (.if_icmp .ge 56, 3) := by decide +kernel
theorem dX9_witnesses_40 : decode cX9_witnesses 40 = .ok (.iload_n 2, 1) := by decide +kernel
theorem dX9_witnesses_41 : decode cX9_witnesses 41 = .ok (.ifCond .lt 14, 3) := by decide +kernel
theorem dX9_witnesses_44 : decode cX9_witnesses 44 = .ok (.iload_n 3, 1) := by decide +kernel
theorem dX9_witnesses_45 : decode cX9_witnesses 45 = .ok (.invokestatic 228, 3) := by decide +kernel
theorem dX9_witnesses_48 : decode cX9_witnesses 48 = .ok (.iload_n 2, 1) := by decide +kernel
theorem dX9_witnesses_49 : decode cX9_witnesses 49 = .ok (.invokestatic 228, 3) := by decide +kernel
theorem dX9_witnesses_52 : decode cX9_witnesses 52 = .ok (.if_icmp .ge 7, 3) := by decide +kernel
theorem dX9_witnesses_55 : decode cX9_witnesses 55 = .ok (.iconst 1, 1) := by decide +kernel
theorem dX9_witnesses_56 : decode cX9_witnesses 56 = .ok (.goto 4, 3) := by decide +kernel
theorem dX9_witnesses_59 : decode cX9_witnesses 59 = .ok (.iconst 0, 1) := by decide +kernel
theorem dX9_witnesses_60 : decode cX9_witnesses 60 = .ok (.istore 4, 2) := by decide +kernel
theorem dX9_witnesses_62 : decode cX9_witnesses 62 = .ok (.iload 4, 2) := by decide +kernel
theorem dX9_witnesses_64 : decode cX9_witnesses 64 = .ok (.ifCond .eq 23, 3) := by decide +kernel
theorem dX9_witnesses_67 : decode cX9_witnesses 67 = .ok (.iload_n 1, 1) := by decide +kernel
theorem dX9_witnesses_68 : decode cX9_witnesses 68 = .ok (.aload_n 0, 1) := by decide +kernel
theorem dX9_witnesses_69 : decode cX9_witnesses 69 = .ok (.getfield 10, 3) := by decide +kernel
theorem dX9_witnesses_72 : decode cX9_witnesses 72 = .ok (.getfield 97, 3) := by decide +kernel
theorem dX9_witnesses_75 : decode cX9_witnesses 75 = .ok (.iload_n 3, 1) := by decide +kernel
theorem dX9_witnesses_76 : decode cX9_witnesses 76 = .ok (.invokevirtual 233, 3) := by decide +kernel
theorem dX9_witnesses_79 : decode cX9_witnesses 79 = .ok (.iconst (-1), 1) := by decide +kernel
theorem dX9_witnesses_80 : decode cX9_witnesses 80 = .ok (.ixor, 1) := by decide +kernel
theorem dX9_witnesses_81 : decode cX9_witnesses 81 = .ok (.iand, 1) := by decide +kernel
theorem dX9_witnesses_82 : decode cX9_witnesses 82 = .ok (.ifCond .ne 5, 3) := by decide +kernel
theorem dX9_witnesses_85 : decode cX9_witnesses 85 = .ok (.iload_n 3, 1) := by decide +kernel
theorem dX9_witnesses_86 : decode cX9_witnesses 86 = .ok (.istore_n 2, 1) := by decide +kernel
theorem dX9_witnesses_87 : decode cX9_witnesses 87 = .ok (.iinc 3 1, 3) := by decide +kernel
theorem dX9_witnesses_90 : decode cX9_witnesses 90 = .ok (.goto (-66), 3) := by decide +kernel
theorem dX9_witnesses_93 : decode cX9_witnesses 93 = .ok (.iload_n 2, 1) := by decide +kernel
theorem dX9_witnesses_94 : decode cX9_witnesses 94 = .ok (.ifCond .ge 11, 3) := by decide +kernel
theorem dX9_witnesses_97 : decode cX9_witnesses 97 = .ok (.aload_n 0, 1) := by decide +kernel
theorem dX9_witnesses_98 : decode cX9_witnesses 98 = .ok (.iconst 2, 1) := by decide +kernel
theorem dX9_witnesses_99 : decode cX9_witnesses 99 = .ok (.invokevirtual 74, 3) := by decide +kernel
theorem dX9_witnesses_102 : decode cX9_witnesses 102 = .ok (.goto 4, 3) := by decide +kernel
theorem dX9_witnesses_105 : decode cX9_witnesses 105 = .ok (.iload_n 2, 1) := by decide +kernel
theorem dX9_witnesses_106 : decode cX9_witnesses 106 = .ok (.ireturn, 1) := by decide +kernel
theorem dX9_odds_0 : decode cX9_odds 0 = .ok (.aload_n 0, 1) := by decide +kernel
theorem dX9_odds_1 : decode cX9_odds 1 = .ok (.getfield 10, 3) := by decide +kernel
theorem dX9_odds_4 : decode cX9_odds 4 = .ok (.getfield 65, 3) := by decide +kernel
theorem dX9_odds_7 : decode cX9_odds 7 = .ok (.iload_n 1, 1) := by decide +kernel
theorem dX9_odds_8 : decode cX9_odds 8 = .ok (.invokevirtual 82, 3) := by decide +kernel
theorem dX9_odds_11 : decode cX9_odds 11 = .ok (.ifCond .eq 12, 3) := by decide +kernel
theorem dX9_odds_14 : decode cX9_odds 14 = .ok (.iload_n 2, 1) := by decide +kernel
theorem dX9_odds_15 : decode cX9_odds 15 = .ok (.ifCond .lt 8, 3) := by decide +kernel
theorem dX9_odds_18 : decode cX9_odds 18 = .ok (.iload_n 2, 1) := by decide +kernel
theorem dX9_odds_19 : decode cX9_odds 19 = .ok (.iconst 1, 1) := by decide +kernel
theorem dX9_odds_20 : decode cX9_odds 20 = .ok (.if_icmp .le 9, 3) := by decide +kernel
theorem dX9_odds_23 : decode cX9_odds 23 = .ok (.aload_n 0, 1) := by decide +kernel
theorem dX9_odds_24 : decode cX9_odds 24 = .ok (.iconst 1, 1) := by decide +kernel
theorem dX9_odds_25 : decode cX9_odds 25 = .ok (.invokevirtual 74, 3) := by decide +kernel
theorem dX9_odds_28 : decode cX9_odds 28 = .ok (.ireturn, 1) := by decide +kernel
theorem dX9_odds_29 : decode cX9_odds 29 = .ok (.aload_n 0, 1) := by decide +kernel
theorem dX9_odds_30 : decode cX9_odds 30 = .ok (.getfield 10, 3) := by decide +kernel
theorem dX9_odds_33 : decode cX9_odds 33 = .ok (.getfield 65, 3) := by decide +kernel
theorem dX9_odds_36 : decode cX9_odds 36 = .ok (.getfield 69, 3) := by decide +kernel
theorem dX9_odds_39 : decode cX9_odds 39 = .ok (.iconst 1, 1) := by decide +kernel
theorem dX9_odds_40 : decode cX9_odds 40 = .ok (.isub, 1) := by decide +kernel
theorem dX9_odds_41 : decode cX9_odds 41 = .ok (.istore_n 3, 1) := by decide +kernel
theorem dX9_odds_42 : decode cX9_odds 42 = .ok (.iload_n 3, 1) := by decide +kernel
theorem dX9_odds_43 : decode cX9_odds 43 = .ok (.iconst 1, 1) := by decide +kernel
theorem dX9_odds_44 : decode cX9_odds 44 = .ok (.if_icmp .ge 9, 3) := by decide +kernel
theorem dX9_odds_47 : decode cX9_odds 47 = .ok (.aload_n 0, 1) := by decide +kernel
theorem dX9_odds_48 : decode cX9_odds 48 = .ok (.iconst 3, 1) := by decide +kernel
theorem dX9_odds_49 : decode cX9_odds 49 = .ok (.invokevirtual 74, 3) := by decide +kernel
theorem dX9_odds_52 : decode cX9_odds 52 = .ok (.ireturn, 1) := by decide +kernel
theorem dX9_odds_53 : decode cX9_odds 53 = .ok (.aload_n 0, 1) := by decide +kernel
theorem dX9_odds_54 : decode cX9_odds 54 = .ok (.getfield 10, 3) := by decide +kernel
theorem dX9_odds_57 : decode cX9_odds 57 = .ok (.iload_n 1, 1) := by decide +kernel
theorem dX9_odds_58 : decode cX9_odds 58 = .ok (.invokevirtual 236, 3) := by decide +kernel
theorem dX9_odds_61 : decode cX9_odds 61 = .ok (.istore 4, 2) := by decide +kernel
theorem dX9_odds_63 : decode cX9_odds 63 = .ok (.iload 4, 2) := by decide +kernel
theorem dX9_odds_65 : decode cX9_odds 65 = .ok (.iload_n 3, 1) := by decide +kernel
theorem dX9_odds_66 : decode cX9_odds 66 = .ok (.invokestatic 239, 3) := by decide +kernel
theorem dX9_odds_69 : decode cX9_odds 69 = .ok (.istore 5, 2) := by decide +kernel
theorem dX9_odds_71 : decode cX9_odds 71 = .ok (.iload_n 2, 1) := by decide +kernel
theorem dX9_odds_72 : decode cX9_odds 72 = .ok (.ifCond .ne 8, 3) := by decide +kernel
theorem dX9_odds_75 : decode cX9_odds 75 = .ok (.iload 4, 2) := by decide +kernel
theorem dX9_odds_77 : decode cX9_odds 77 = .ok (.goto 4, 3) := by decide +kernel
theorem dX9_odds_80 : decode cX9_odds 80 = .ok (.iload_n 3, 1) := by decide +kernel
theorem dX9_odds_81 : decode cX9_odds 81 = .ok (.iload 5, 2) := by decide +kernel
theorem dX9_odds_83 : decode cX9_odds 83 = .ok (.iconst 1, 1) := by decide +kernel
theorem dX9_odds_84 : decode cX9_odds 84 = .ok (.invokestatic 242, 3) := by decide +kernel
theorem dX9_odds_87 : decode cX9_odds 87 = .ok (.idiv, 1) := by decide +kernel
theorem dX9_odds_88 : decode cX9_odds 88 = .ok (.ireturn, 1) := by decide +kernel
theorem dX9_fits_0 : decode cX9_fits 0 = .ok (.iload_n 1, 1) := by decide +kernel
theorem dX9_fits_1 : decode cX9_fits 1 = .ok (.invokestatic 247, 3) := by decide +kernel
theorem dX9_fits_4 : decode cX9_fits 4 = .ok (.ifCond .eq 26, 3) := by decide +kernel
theorem dX9_fits_7 : decode cX9_fits 7 = .ok (.aload_n 0, 1) := by decide +kernel
theorem dX9_fits_8 : decode cX9_fits 8 = .ok (.getfield 10, 3) := by decide +kernel
theorem dX9_fits_11 : decode cX9_fits 11 = .ok (.getfield 65, 3) := by decide +kernel
theorem dX9_fits_14 : decode cX9_fits 14 = .ok (.iload_n 2, 1) := by decide +kernel
theorem dX9_fits_15 : decode cX9_fits 15 = .ok (.invokevirtual 82, 3) := by decide +kernel
theorem dX9_fits_18 : decode cX9_fits 18 = .ok (.ifCond .eq 12, 3) := by decide +kernel
theorem dX9_fits_21 : decode cX9_fits 21 = .ok (.iload_n 3, 1) := by decide +kernel
theorem dX9_fits_22 : decode cX9_fits 22 = .ok (.ifCond .lt 8, 3) := by decide +kernel
theorem dX9_fits_25 : decode cX9_fits 25 = .ok (.iload_n 3, 1) := by decide +kernel
theorem dX9_fits_26 : decode cX9_fits 26 = .ok (.iconst 1, 1) := by decide +kernel
theorem dX9_fits_27 : decode cX9_fits 27 = .ok (.if_icmp .le 9, 3) := by decide +kernel
theorem dX9_fits_30 : decode cX9_fits 30 = .ok (.aload_n 0, 1) := by decide +kernel
theorem dX9_fits_31 : decode cX9_fits 31 = .ok (.iconst 1, 1) := by decide +kernel
theorem dX9_fits_32 : decode cX9_fits 32 = .ok (.invokevirtual 74, 3) := by decide +kernel
theorem dX9_fits_35 : decode cX9_fits 35 = .ok (.ireturn, 1) := by decide +kernel
theorem dX9_fits_36 : decode cX9_fits 36 = .ok (.aload_n 0, 1) := by decide +kernel
theorem dX9_fits_37 : decode cX9_fits 37 = .ok (.getfield 48, 3) := by decide +kernel
theorem dX9_fits_40 : decode cX9_fits 40 = .ok (.iload_n 1, 1) := by decide +kernel
theorem dX9_fits_41 : decode cX9_fits 41 = .ok (.aaload, 1) := by decide +kernel
theorem dX9_fits_42 : decode cX9_fits 42 = .ok (.invokevirtual 250, 3) := by decide +kernel
theorem dX9_fits_45 : decode cX9_fits 45 = .ok (.ifCond .eq 9, 3) := by decide +kernel
theorem dX9_fits_48 : decode cX9_fits 48 = .ok (.aload_n 0, 1) := by decide +kernel
theorem dX9_fits_49 : decode cX9_fits 49 = .ok (.iconst 2, 1) := by decide +kernel
theorem dX9_fits_50 : decode cX9_fits 50 = .ok (.invokevirtual 74, 3) := by decide +kernel
theorem dX9_fits_53 : decode cX9_fits 53 = .ok (.ireturn, 1) := by decide +kernel
theorem dX9_fits_54 : decode cX9_fits 54 = .ok (.aload_n 0, 1) := by decide +kernel
theorem dX9_fits_55 : decode cX9_fits 55 = .ok (.getfield 10, 3) := by decide +kernel
theorem dX9_fits_58 : decode cX9_fits 58 = .ok (.aload_n 0, 1) := by decide +kernel
theorem dX9_fits_59 : decode cX9_fits 59 = .ok (.getfield 48, 3) := by decide +kernel
theorem dX9_fits_62 : decode cX9_fits 62 = .ok (.iload_n 1, 1) := by decide +kernel
theorem dX9_fits_63 : decode cX9_fits 63 = .ok (.aaload, 1) := by decide +kernel
theorem dX9_fits_64 : decode cX9_fits 64 = .ok (.getfield 253, 3) := by decide +kernel
theorem dX9_fits_67 : decode cX9_fits 67 = .ok (.iload_n 2, 1) := by decide +kernel
theorem dX9_fits_68 : decode cX9_fits 68 = .ok (.invokevirtual 256, 3) := by decide +kernel
theorem dX9_fits_71 : decode cX9_fits 71 = .ok (.istore 4, 2) := by decide +kernel
theorem dX9_fits_73 : decode cX9_fits 73 = .ok (.iload_n 3, 1) := by decide +kernel
theorem dX9_fits_74 : decode cX9_fits 74 = .ok (.ifCond .ne 8, 3) := by decide +kernel
theorem dX9_fits_77 : decode cX9_fits 77 = .ok (.iload 4, 2) := by decide +kernel
theorem dX9_fits_79 : decode cX9_fits 79 = .ok (.goto 8, 3) := by decide +kernel
theorem dX9_fits_82 : decode cX9_fits 82 = .ok (.iload 4, 2) := by decide +kernel
theorem dX9_fits_84 : decode cX9_fits 84 = .ok (.invokestatic 228, 3) := by decide +kernel
theorem dX9_fits_87 : decode cX9_fits 87 = .ok (.ireturn, 1) := by decide +kernel
theorem dX9_voice_0 : decode cX9_voice 0 = .ok (.aload_n 0, 1) := by decide +kernel
theorem dX9_voice_1 : decode cX9_voice 1 = .ok (.getfield 10, 3) := by decide +kernel
theorem dX9_voice_4 : decode cX9_voice 4 = .ok (.getfield 65, 3) := by decide +kernel
theorem dX9_voice_7 : decode cX9_voice 7 = .ok (.iload_n 1, 1) := by decide +kernel
theorem dX9_voice_8 : decode cX9_voice 8 = .ok (.invokevirtual 82, 3) := by decide +kernel
theorem dX9_voice_11 : decode cX9_voice 11 = .ok (.ifCond .eq 10, 3) := by decide +kernel
theorem dX9_voice_14 : decode cX9_voice 14 = .ok (.iload_n 2, 1) := by decide +kernel
theorem dX9_voice_15 : decode cX9_voice 15 = .ok (.invokestatic 260, 3) := by decide +kernel
theorem dX9_voice_18 : decode cX9_voice 18 = .ok (.ifCond .ne 9, 3) := by decide +kernel
theorem dX9_voice_21 : decode cX9_voice 21 = .ok (.aload_n 0, 1) := by decide +kernel
theorem dX9_voice_22 : decode cX9_voice 22 = .ok (.iconst 1, 1) := by decide +kernel
theorem dX9_voice_23 : decode cX9_voice 23 = .ok (.invokevirtual 74, 3) := by decide +kernel
theorem dX9_voice_26 : decode cX9_voice 26 = .ok (.ireturn, 1) := by decide +kernel
theorem dX9_voice_27 : decode cX9_voice 27 = .ok (.aload_n 0, 1) := by decide +kernel
theorem dX9_voice_28 : decode cX9_voice 28 = .ok (.getfield 42, 3) := by decide +kernel
theorem dX9_voice_31 : decode cX9_voice 31 = .ok (.aload_n 0, 1) := by decide +kernel
theorem dX9_voice_32 : decode cX9_voice 32 = .ok (.getfield 10, 3) := by decide +kernel
theorem dX9_voice_35 : decode cX9_voice 35 = .ok (.getfield 65, 3) := by decide +kernel
theorem dX9_voice_38 : decode cX9_voice 38 = .ok (.getfield 85, 3) := by decide +kernel
theorem dX9_voice_41 : decode cX9_voice 41 = .ok (.iload_n 1, 1) := by decide +kernel
theorem dX9_voice_42 : decode cX9_voice 42 = .ok (.iaload, 1) := by decide +kernel
theorem dX9_voice_43 : decode cX9_voice 43 = .ok (.iload_n 1, 1) := by decide +kernel
theorem dX9_voice_44 : decode cX9_voice 44 = .ok (.aload_n 0, 1) := by decide +kernel
theorem dX9_voice_45 : decode cX9_voice 45 = .ok (.getfield 10, 3) := by decide +kernel
theorem dX9_voice_48 : decode cX9_voice 48 = .ok (.getfield 65, 3) := by decide +kernel
theorem dX9_voice_51 : decode cX9_voice 51 = .ok (.getfield 88, 3) := by decide +kernel
theorem dX9_voice_54 : decode cX9_voice 54 = .ok (.iload_n 1, 1) := by decide +kernel
theorem dX9_voice_55 : decode cX9_voice 55 = .ok (.iaload, 1) := by decide +kernel
theorem dX9_voice_56 : decode cX9_voice 56 = .ok (.invokevirtual 263, 3) := by decide +kernel
theorem dX9_voice_59 : decode cX9_voice 59 = .ok (.aload_n 0, 1) := by decide +kernel
theorem dX9_voice_60 : decode cX9_voice 60 = .ok (.getfield 42, 3) := by decide +kernel
theorem dX9_voice_63 : decode cX9_voice 63 = .ok (.iload_n 2, 1) := by decide +kernel
theorem dX9_voice_64 : decode cX9_voice 64 = .ok (.iload_n 3, 1) := by decide +kernel
theorem dX9_voice_65 : decode cX9_voice 65 = .ok (.invokevirtual 267, 3) := by decide +kernel
theorem dX9_voice_68 : decode cX9_voice 68 = .ok (.istore 4, 2) := by decide +kernel
theorem dX9_voice_70 : decode cX9_voice 70 = .ok (.aload_n 0, 1) := by decide +kernel
theorem dX9_voice_71 : decode cX9_voice 71 = .ok (.getfield 42, 3) := by decide +kernel
theorem dX9_voice_74 : decode cX9_voice 74 = .ok (.getfield 270, 3) := by decide +kernel
theorem dX9_voice_77 : decode cX9_voice 77 = .ok (.ifCond .eq 12, 3) := by decide +kernel
theorem dX9_voice_80 : decode cX9_voice 80 = .ok (.aload_n 0, 1) := by decide +kernel
theorem dX9_voice_81 : decode cX9_voice 81 = .ok (.bipush 6, 2) := by decide +kernel
theorem dX9_voice_83 : decode cX9_voice 83 = .ok (.invokevirtual 74, 3) := by decide +kernel
theorem dX9_voice_86 : decode cX9_voice 86 = .ok (.goto 5, 3) := by decide +kernel
theorem dX9_voice_89 : decode cX9_voice 89 = .ok (.iload 4, 2) := by decide +kernel
theorem dX9_voice_91 : decode cX9_voice 91 = .ok (.ireturn, 1) := by decide +kernel
theorem dX9_body_0 : decode cX9_body 0 = .ok (.aload_n 0, 1) := by decide +kernel
theorem dX9_body_1 : decode cX9_body 1 = .ok (.getfield 42, 3) := by decide +kernel
theorem dX9_body_4 : decode cX9_body 4 = .ok (.getfield 274, 3) := by decide +kernel
theorem dX9_body_7 : decode cX9_body 7 = .ok (.iload_n 1, 1) := by decide +kernel
theorem dX9_body_8 : decode cX9_body 8 = .ok (.invokevirtual 277, 3) := by decide +kernel
theorem dX9_body_11 : decode cX9_body 11 = .ok (.ifCond .ne 9, 3) := by decide +kernel
theorem dX9_body_14 : decode cX9_body 14 = .ok (.aload_n 0, 1) := by decide +kernel
theorem dX9_body_15 : decode cX9_body 15 = .ok (.iconst 2, 1) := by decide +kernel
theorem dX9_body_16 : decode cX9_body 16 = .ok (.invokevirtual 74, 3) := by decide +kernel
theorem dX9_body_19 : decode cX9_body 19 = .ok (.ireturn, 1) := by decide +kernel
theorem dX9_body_20 : decode cX9_body 20 = .ok (.aload_n 0, 1) := by decide +kernel
theorem dX9_body_21 : decode cX9_body 21 = .ok (.getfield 42, 3) := by decide +kernel
theorem dX9_body_24 : decode cX9_body 24 = .ok (.getfield 274, 3) := by decide +kernel
theorem dX9_body_27 : decode cX9_body 27 = .ok (.iload_n 1, 1) := by decide +kernel
theorem dX9_body_28 : decode cX9_body 28 = .ok (.invokevirtual 280, 3) := by decide +kernel
theorem dX9_body_31 : decode cX9_body 31 = .ok (.ireturn, 1) := by decide +kernel
theorem dX9_sheet_0 : decode cX9_sheet 0 = .ok (.iload_n 1, 1) := by decide +kernel
theorem dX9_sheet_1 : decode cX9_sheet 1 = .ok (.invokestatic 247, 3) := by decide +kernel
theorem dX9_sheet_4 : decode cX9_sheet 4 = .ok (.ifCond .eq 10, 3) := by decide +kernel
theorem dX9_sheet_7 : decode cX9_sheet 7 = .ok (.iload_n 2, 1) := by decide +kernel
theorem dX9_sheet_8 : decode cX9_sheet 8 = .ok (.invokestatic 283, 3) := by decide +kernel
theorem dX9_sheet_11 : decode cX9_sheet 11 = .ok (.ifCond .ne 9, 3) := by decide +kernel
theorem dX9_sheet_14 : decode cX9_sheet 14 = .ok (.aload_n 0, 1) := by decide +kernel
theorem dX9_sheet_15 : decode cX9_sheet 15 = .ok (.iconst 1, 1) := by decide +kernel
theorem dX9_sheet_16 : decode cX9_sheet 16 = .ok (.invokevirtual 74, 3) := by decide +kernel
theorem dX9_sheet_19 : decode cX9_sheet 19 = .ok (.ireturn, 1) := by decide +kernel
theorem dX9_sheet_20 : decode cX9_sheet 20 = .ok (.iload_n 2, 1) := by decide +kernel
theorem dX9_sheet_21 : decode cX9_sheet 21 = .ok (.ifCond .eq 13, 3) := by decide +kernel
theorem dX9_sheet_24 : decode cX9_sheet 24 = .ok (.iload_n 3, 1) := by decide +kernel
theorem dX9_sheet_25 : decode cX9_sheet 25 = .ok (.ifCond .ge 9, 3) := by decide +kernel
theorem dX9_sheet_28 : decode cX9_sheet 28 = .ok (.aload_n 0, 1) := by decide +kernel
theorem dX9_sheet_29 : decode cX9_sheet 29 = .ok (.iconst 3, 1) := by decide +kernel
theorem dX9_sheet_30 : decode cX9_sheet 30 = .ok (.invokevirtual 74, 3) := by decide +kernel
theorem dX9_sheet_33 : decode cX9_sheet 33 = .ok (.ireturn, 1) := by decide +kernel
theorem dX9_sheet_34 : decode cX9_sheet 34 = .ok (.iload_n 2, 1) := by decide +kernel
theorem dX9_sheet_35 : decode cX9_sheet 35 = .ok (.ifCond .eq 15, 3) := by decide +kernel
theorem dX9_sheet_38 : decode cX9_sheet 38 = .ok (.iload_n 3, 1) := by decide +kernel
theorem dX9_sheet_39 : decode cX9_sheet 39 = .ok (.bipush 24, 2) := by decide +kernel
theorem dX9_sheet_41 : decode cX9_sheet 41 = .ok (.if_icmp .le 9, 3) := by decide +kernel
theorem dX9_sheet_44 : decode cX9_sheet 44 = .ok (.aload_n 0, 1) := by decide +kernel
theorem dX9_sheet_45 : decode cX9_sheet 45 = .ok (.iconst 1, 1) := by decide +kernel
theorem dX9_sheet_46 : decode cX9_sheet 46 = .ok (.invokevirtual 74, 3) := by decide +kernel
theorem dX9_sheet_49 : decode cX9_sheet 49 = .ok (.ireturn, 1) := by decide +kernel
theorem dX9_sheet_50 : decode cX9_sheet 50 = .ok (.aload_n 0, 1) := by decide +kernel
theorem dX9_sheet_51 : decode cX9_sheet 51 = .ok (.getfield 48, 3) := by decide +kernel
theorem dX9_sheet_54 : decode cX9_sheet 54 = .ok (.iload_n 1, 1) := by decide +kernel
theorem dX9_sheet_55 : decode cX9_sheet 55 = .ok (.aaload, 1) := by decide +kernel
theorem dX9_sheet_56 : decode cX9_sheet 56 = .ok (.iload_n 2, 1) := by decide +kernel
theorem dX9_sheet_57 : decode cX9_sheet 57 = .ok (.iload_n 3, 1) := by decide +kernel
theorem dX9_sheet_58 : decode cX9_sheet 58 = .ok (.invokevirtual 286, 3) := by decide +kernel
theorem dX9_sheet_61 : decode cX9_sheet 61 = .ok (.iconst 1, 1) := by decide +kernel
theorem dX9_sheet_62 : decode cX9_sheet 62 = .ok (.ireturn, 1) := by decide +kernel
theorem dX9_put_0 : decode cX9_put 0 = .ok (.iload_n 1, 1) := by decide +kernel
theorem dX9_put_1 : decode cX9_put 1 = .ok (.invokestatic 247, 3) := by decide +kernel
theorem dX9_put_4 : decode cX9_put 4 = .ok (.ifCond .ne 9, 3) := by decide +kernel
theorem dX9_put_7 : decode cX9_put 7 = .ok (.aload_n 0, 1) := by decide +kernel
theorem dX9_put_8 : decode cX9_put 8 = .ok (.iconst 1, 1) := by decide +kernel
theorem dX9_put_9 : decode cX9_put 9 = .ok (.invokevirtual 74, 3) := by decide +kernel
theorem dX9_put_12 : decode cX9_put 12 = .ok (.ireturn, 1) := by decide +kernel
theorem dX9_put_13 : decode cX9_put 13 = .ok (.aload_n 0, 1) := by decide +kernel
theorem dX9_put_14 : decode cX9_put 14 = .ok (.getfield 48, 3) := by decide +kernel
theorem dX9_put_17 : decode cX9_put 17 = .ok (.iload_n 1, 1) := by decide +kernel
theorem dX9_put_18 : decode cX9_put 18 = .ok (.aaload, 1) := by decide +kernel
theorem dX9_put_19 : decode cX9_put 19 = .ok (.invokevirtual 250, 3) := by decide +kernel
theorem dX9_put_22 : decode cX9_put 22 = .ok (.ifCond .eq 9, 3) := by decide +kernel
theorem dX9_put_25 : decode cX9_put 25 = .ok (.aload_n 0, 1) := by decide +kernel
theorem dX9_put_26 : decode cX9_put 26 = .ok (.iconst 2, 1) := by decide +kernel
theorem dX9_put_27 : decode cX9_put 27 = .ok (.invokevirtual 74, 3) := by decide +kernel
theorem dX9_put_30 : decode cX9_put 30 = .ok (.ireturn, 1) := by decide +kernel
theorem dX9_put_31 : decode cX9_put 31 = .ok (.aload_n 0, 1) := by decide +kernel
theorem dX9_put_32 : decode cX9_put 32 = .ok (.getfield 48, 3) := by decide +kernel
theorem dX9_put_35 : decode cX9_put 35 = .ok (.iload_n 1, 1) := by decide +kernel
theorem dX9_put_36 : decode cX9_put 36 = .ok (.aaload, 1) := by decide +kernel
theorem dX9_put_37 : decode cX9_put 37 = .ok (.getfield 253, 3) := by decide +kernel
theorem dX9_put_40 : decode cX9_put 40 = .ok (.iload_n 2, 1) := by decide +kernel
theorem dX9_put_41 : decode cX9_put 41 = .ok (.invokevirtual 277, 3) := by decide +kernel
theorem dX9_put_44 : decode cX9_put 44 = .ok (.ifCond .ne 9, 3) := by decide +kernel
theorem dX9_put_47 : decode cX9_put 47 = .ok (.aload_n 0, 1) := by decide +kernel
theorem dX9_put_48 : decode cX9_put 48 = .ok (.iconst 1, 1) := by decide +kernel
theorem dX9_put_49 : decode cX9_put 49 = .ok (.invokevirtual 74, 3) := by decide +kernel
theorem dX9_put_52 : decode cX9_put 52 = .ok (.ireturn, 1) := by decide +kernel
theorem dX9_put_53 : decode cX9_put 53 = .ok (.aload_n 0, 1) := by decide +kernel
theorem dX9_put_54 : decode cX9_put 54 = .ok (.getfield 48, 3) := by decide +kernel
theorem dX9_put_57 : decode cX9_put 57 = .ok (.iload_n 1, 1) := by decide +kernel
theorem dX9_put_58 : decode cX9_put 58 = .ok (.aaload, 1) := by decide +kernel
theorem dX9_put_59 : decode cX9_put 59 = .ok (.iload_n 2, 1) := by decide +kernel
theorem dX9_put_60 : decode cX9_put 60 = .ok (.iload_n 3, 1) := by decide +kernel
theorem dX9_put_61 : decode cX9_put 61 = .ok (.invokevirtual 289, 3) := by decide +kernel
theorem dX9_put_64 : decode cX9_put 64 = .ok (.iconst 1, 1) := by decide +kernel
theorem dX9_put_65 : decode cX9_put 65 = .ok (.ireturn, 1) := by decide +kernel
theorem dX9_move_0 : decode cX9_move 0 = .ok (.iload_n 1, 1) := by decide +kernel
theorem dX9_move_1 : decode cX9_move 1 = .ok (.invokestatic 247, 3) := by decide +kernel
theorem dX9_move_4 : decode cX9_move 4 = .ok (.ifCond .eq 10, 3) := by decide +kernel
theorem dX9_move_7 : decode cX9_move 7 = .ok (.iload_n 3, 1) := by decide +kernel
theorem dX9_move_8 : decode cX9_move 8 = .ok (.invokestatic 247, 3) := by decide +kernel
theorem dX9_move_11 : decode cX9_move 11 = .ok (.ifCond .ne 9, 3) := by decide +kernel
theorem dX9_move_14 : decode cX9_move 14 = .ok (.aload_n 0, 1) := by decide +kernel
theorem dX9_move_15 : decode cX9_move 15 = .ok (.iconst 1, 1) := by decide +kernel
theorem dX9_move_16 : decode cX9_move 16 = .ok (.invokevirtual 74, 3) := by decide +kernel
theorem dX9_move_19 : decode cX9_move 19 = .ok (.ireturn, 1) := by decide +kernel
theorem dX9_move_20 : decode cX9_move 20 = .ok (.aload_n 0, 1) := by decide +kernel
theorem dX9_move_21 : decode cX9_move 21 = .ok (.getfield 48, 3) := by decide +kernel
theorem dX9_move_24 : decode cX9_move 24 = .ok (.iload_n 1, 1) := by decide +kernel
theorem dX9_move_25 : decode cX9_move 25 = .ok (.aaload, 1) := by decide +kernel
theorem dX9_move_26 : decode cX9_move 26 = .ok (.invokevirtual 250, 3) := by decide +kernel
theorem dX9_move_29 : decode cX9_move 29 = .ok (.ifCond .ne 15, 3) := by decide +kernel
theorem dX9_move_32 : decode cX9_move 32 = .ok (.aload_n 0, 1) := by decide +kernel
theorem dX9_move_33 : decode cX9_move 33 = .ok (.getfield 48, 3) := by decide +kernel
theorem dX9_move_36 : decode cX9_move 36 = .ok (.iload_n 3, 1) := by decide +kernel
theorem dX9_move_37 : decode cX9_move 37 = .ok (.aaload, 1) := by decide +kernel
theorem dX9_move_38 : decode cX9_move 38 = .ok (.invokevirtual 250, 3) := by decide +kernel
theorem dX9_move_41 : decode cX9_move 41 = .ok (.ifCond .eq 9, 3) := by decide +kernel
theorem dX9_move_44 : decode cX9_move 44 = .ok (.aload_n 0, 1) := by decide +kernel
theorem dX9_move_45 : decode cX9_move 45 = .ok (.iconst 2, 1) := by decide +kernel
theorem dX9_move_46 : decode cX9_move 46 = .ok (.invokevirtual 74, 3) := by decide +kernel
theorem dX9_move_49 : decode cX9_move 49 = .ok (.ireturn, 1) := by decide +kernel
theorem dX9_move_50 : decode cX9_move 50 = .ok (.aload_n 0, 1) := by decide +kernel
theorem dX9_move_51 : decode cX9_move 51 = .ok (.getfield 48, 3) := by decide +kernel
theorem dX9_move_54 : decode cX9_move 54 = .ok (.iload_n 1, 1) := by decide +kernel
theorem dX9_move_55 : decode cX9_move 55 = .ok (.aaload, 1) := by decide +kernel
theorem dX9_move_56 : decode cX9_move 56 = .ok (.getfield 292, 3) := by decide +kernel
theorem dX9_move_59 : decode cX9_move 59 = .ok (.aload_n 0, 1) := by decide +kernel
theorem dX9_move_60 : decode cX9_move 60 = .ok (.getfield 48, 3) := by decide +kernel
theorem dX9_move_63 : decode cX9_move 63 = .ok (.iload_n 3, 1) := by decide +kernel
theorem dX9_move_64 : decode cX9_move 64 = .ok (.aaload, 1) := by decide +kernel
theorem dX9_move_65 : decode cX9_move 65 = .ok (.getfield 292, 3) := by decide +kernel
theorem dX9_move_68 : decode cX9_move 68 = .ok (.if_icmp .eq 9, 3) := by decide +kernel
theorem dX9_move_71 : decode cX9_move 71 = .ok (.aload_n 0, 1) := by decide +kernel
theorem dX9_move_72 : decode cX9_move 72 = .ok (.iconst 5, 1) := by decide +kernel
theorem dX9_move_73 : decode cX9_move 73 = .ok (.invokevirtual 74, 3) := by decide +kernel
theorem dX9_move_76 : decode cX9_move 76 = .ok (.ireturn, 1) := by decide +kernel
theorem dX9_move_77 : decode cX9_move 77 = .ok (.aload_n 0, 1) := by decide +kernel
theorem dX9_move_78 : decode cX9_move 78 = .ok (.getfield 48, 3) := by decide +kernel
theorem dX9_move_81 : decode cX9_move 81 = .ok (.iload_n 1, 1) := by decide +kernel
theorem dX9_move_82 : decode cX9_move 82 = .ok (.aaload, 1) := by decide +kernel
theorem dX9_move_83 : decode cX9_move 83 = .ok (.getfield 253, 3) := by decide +kernel
theorem dX9_move_86 : decode cX9_move 86 = .ok (.iload_n 2, 1) := by decide +kernel
theorem dX9_move_87 : decode cX9_move 87 = .ok (.iload 5, 2) := by decide +kernel
theorem dX9_move_89 : decode cX9_move 89 = .ok (.invokevirtual 295, 3) := by decide +kernel
theorem dX9_move_92 : decode cX9_move 92 = .ok (.ifCond .eq 22, 3) := by decide +kernel
theorem dX9_move_95 : decode cX9_move 95 = .ok (.aload_n 0, 1) := by decide +kernel
theorem dX9_move_96 : decode cX9_move 96 = .ok (.getfield 48, 3) := by decide +kernel
theorem dX9_move_99 : decode cX9_move 99 = .ok (.iload_n 3, 1) := by decide +kernel
theorem dX9_move_100 : decode cX9_move 100 = .ok (.aaload, 1) := by decide +kernel
theorem dX9_move_101 : decode cX9_move 101 = .ok (.getfield 253, 3) := by decide +kernel
theorem dX9_move_104 : decode cX9_move 104 = .ok (.iload 4, 2) := by decide +kernel
theorem dX9_move_106 : decode cX9_move 106 = .ok (.iload 5, 2) := by decide +kernel
theorem dX9_move_108 : decode cX9_move 108 = .ok (.invokevirtual 295, 3) := by decide +kernel
theorem dX9_move_111 : decode cX9_move 111 = .ok (.ifCond .ne 9, 3) := by decide +kernel
theorem dX9_move_114 : decode cX9_move 114 = .ok (.aload_n 0, 1) := by decide +kernel
theorem dX9_move_115 : decode cX9_move 115 = .ok (.iconst 1, 1) := by decide +kernel
theorem dX9_move_116 : decode cX9_move 116 = .ok (.invokevirtual 74, 3) := by decide +kernel
theorem dX9_move_119 : decode cX9_move 119 = .ok (.ireturn, 1) := by decide +kernel
theorem dX9_move_120 : decode cX9_move 120 = .ok (.aload_n 0, 1) := by decide +kernel
theorem dX9_move_121 : decode cX9_move 121 = .ok (.getfield 48, 3) := by decide +kernel
theorem dX9_move_124 : decode cX9_move 124 = .ok (.iload_n 3, 1) := by decide +kernel
theorem dX9_move_125 : decode cX9_move 125 = .ok (.aaload, 1) := by decide +kernel
theorem dX9_move_126 : decode cX9_move 126 = .ok (.getfield 253, 3) := by decide +kernel
theorem dX9_move_129 : decode cX9_move 129 = .ok (.iload 4, 2) := by decide +kernel
theorem dX9_move_131 : decode cX9_move 131 = .ok (.aload_n 0, 1) := by decide +kernel
theorem dX9_move_132 : decode cX9_move 132 = .ok (.getfield 48, 3) := by decide +kernel
theorem dX9_move_135 : decode cX9_move 135 = .ok (.iload_n 1, 1) := by decide +kernel
theorem dX9_move_136 : decode cX9_move 136 = .ok (.aaload, 1) := by decide +kernel
theorem dX9_move_137 : decode cX9_move 137 = .ok (.getfield 253, 3) := by decide +kernel
theorem dX9_move_140 : decode cX9_move 140 = .ok (.iload_n 2, 1) := by decide +kernel
theorem dX9_move_141 : decode cX9_move 141 = .ok (.iload 5, 2) := by decide +kernel
theorem dX9_move_143 : decode cX9_move 143 = .ok (.invokevirtual 298, 3) := by decide +kernel
theorem dX9_move_146 : decode cX9_move 146 = .ok (.iload 5, 2) := by decide +kernel
theorem dX9_move_148 : decode cX9_move 148 = .ok (.ireturn, 1) := by decide +kernel
theorem dX9_seenAll_0 : decode cX9_seenAll 0 = .ok (.iload_n 1, 1) := by decide +kernel
theorem dX9_seenAll_1 : decode cX9_seenAll 1 = .ok (.invokestatic 247, 3) := by decide +kernel
theorem dX9_seenAll_4 : decode cX9_seenAll 4 = .ok (.ifCond .ne 9, 3) := by decide +kernel
theorem dX9_seenAll_7 : decode cX9_seenAll 7 = .ok (.aload_n 0, 1) := by decide +kernel
theorem dX9_seenAll_8 : decode cX9_seenAll 8 = .ok (.iconst 1, 1) := by decide +kernel
theorem dX9_seenAll_9 : decode cX9_seenAll 9 = .ok (.invokevirtual 74, 3) := by decide +kernel
theorem dX9_seenAll_12 : decode cX9_seenAll 12 = .ok (.ireturn, 1) := by decide +kernel
theorem dX9_seenAll_13 : decode cX9_seenAll 13 = .ok (.aload_n 0, 1) := by decide +kernel
theorem dX9_seenAll_14 : decode cX9_seenAll 14 = .ok (.getfield 48, 3) := by decide +kernel
theorem dX9_seenAll_17 : decode cX9_seenAll 17 = .ok (.iload_n 1, 1) := by decide +kernel
theorem dX9_seenAll_18 : decode cX9_seenAll 18 = .ok (.aaload, 1) := by decide +kernel
theorem dX9_seenAll_19 : decode cX9_seenAll 19 = .ok (.invokevirtual 250, 3) := by decide +kernel
theorem dX9_seenAll_22 : decode cX9_seenAll 22 = .ok (.ifCond .eq 9, 3) := by decide +kernel
theorem dX9_seenAll_25 : decode cX9_seenAll 25 = .ok (.aload_n 0, 1) := by decide +kernel
theorem dX9_seenAll_26 : decode cX9_seenAll 26 = .ok (.iconst 2, 1) := by decide +kernel
theorem dX9_seenAll_27 : decode cX9_seenAll 27 = .ok (.invokevirtual 74, 3) := by decide +kernel
theorem dX9_seenAll_30 : decode cX9_seenAll 30 = .ok (.ireturn, 1) := by decide +kernel
theorem dX9_seenAll_31 : decode cX9_seenAll 31 = .ok (.aload_n 0, 1) := by decide +kernel
theorem dX9_seenAll_32 : decode cX9_seenAll 32 = .ok (.getfield 48, 3) := by decide +kernel
theorem dX9_seenAll_35 : decode cX9_seenAll 35 = .ok (.iload_n 1, 1) := by decide +kernel
theorem dX9_seenAll_36 : decode cX9_seenAll 36 = .ok (.aaload, 1) := by decide +kernel
theorem dX9_seenAll_37 : decode cX9_seenAll 37 = .ok (.getfield 253, 3) := by decide +kernel
theorem dX9_seenAll_40 : decode cX9_seenAll 40 = .ok (.astore_n 2, 1) := by decide +kernel
theorem dX9_seenAll_41 : decode cX9_seenAll 41 = .ok (.iconst 0, 1) := by decide +kernel
theorem dX9_seenAll_42 : decode cX9_seenAll 42 = .ok (.istore_n 3, 1) := by decide +kernel
theorem dX9_seenAll_43 : decode cX9_seenAll 43 = .ok (.iload_n 3, 1) := by decide +kernel
theorem dX9_seenAll_44 : decode cX9_seenAll 44 = .ok (.aload_n 2, 1) := by decide +kernel
theorem dX9_seenAll_45 : decode cX9_seenAll 45 = .ok (.invokevirtual 163, 3) := by decide +kernel
theorem dX9_seenAll_48 : decode cX9_seenAll 48 = .ok (.if_icmp .ge 58, 3) := by decide +kernel
theorem dX9_seenAll_51 : decode cX9_seenAll 51 = .ok (.aload_n 0, 1) := by decide +kernel
theorem dX9_seenAll_52 : decode cX9_seenAll 52 = .ok (.getfield 10, 3) := by decide +kernel
theorem dX9_seenAll_55 : decode cX9_seenAll 55 = .ok (.getfield 65, 3) := by decide +kernel
theorem dX9_seenAll_58 : decode cX9_seenAll 58 = .ok (.iload_n 3, 1) := by decide +kernel
theorem dX9_seenAll_59 : decode cX9_seenAll 59 = .ok (.invokevirtual 82, 3) := by decide +kernel
theorem dX9_seenAll_62 : decode cX9_seenAll 62 = .ok (.ifCond .eq 44, 3) := by decide +kernel
theorem dX9_seenAll_65 : decode cX9_seenAll 65 = .ok (.aload_n 0, 1) := by decide +kernel
theorem dX9_seenAll_66 : decode cX9_seenAll 66 = .ok (.getfield 10, 3) := by decide +kernel
theorem dX9_seenAll_69 : decode cX9_seenAll 69 = .ok (.getfield 65, 3) := by decide +kernel
theorem dX9_seenAll_72 : decode cX9_seenAll 72 = .ok (.aload_n 2, 1) := by decide +kernel
theorem dX9_seenAll_73 : decode cX9_seenAll 73 = .ok (.iload_n 3, 1) := by decide +kernel
theorem dX9_seenAll_74 : decode cX9_seenAll 74 = .ok (.invokevirtual 280, 3) := by decide +kernel
theorem dX9_seenAll_77 : decode cX9_seenAll 77 = .ok (.invokevirtual 225, 3) := by decide +kernel
theorem dX9_seenAll_80 : decode cX9_seenAll 80 = .ok (.ifCond .eq 26, 3) := by decide +kernel
theorem dX9_seenAll_83 : decode cX9_seenAll 83 = .ok (.aload_n 0, 1) := by decide +kernel
theorem dX9_seenAll_84 : decode cX9_seenAll 84 = .ok (.getfield 10, 3) := by decide +kernel
theorem dX9_seenAll_87 : decode cX9_seenAll 87 = .ok (.getfield 97, 3) := by decide +kernel
theorem dX9_seenAll_90 : decode cX9_seenAll 90 = .ok (.getfield 100, 3) := by decide +kernel
theorem dX9_seenAll_93 : decode cX9_seenAll 93 = .ok (.iload_n 3, 1) := by decide +kernel
theorem dX9_seenAll_94 : decode cX9_seenAll 94 = .ok (.aload_n 2, 1) := by decide +kernel
theorem dX9_seenAll_95 : decode cX9_seenAll 95 = .ok (.iload_n 3, 1) := by decide +kernel
theorem dX9_seenAll_96 : decode cX9_seenAll 96 = .ok (.invokevirtual 280, 3) := by decide +kernel
theorem dX9_seenAll_99 : decode cX9_seenAll 99 = .ok (.iastore, 1) := by decide +kernel
theorem dX9_seenAll_100 : decode cX9_seenAll 100 = .ok (.iinc 3 1, 3) := by decide +kernel
theorem dX9_seenAll_103 : decode cX9_seenAll 103 = .ok (.goto (-60), 3) := by decide +kernel
theorem dX9_seenAll_106 : decode cX9_seenAll 106 = .ok (.iload_n 3, 1) := by decide +kernel
theorem dX9_seenAll_107 : decode cX9_seenAll 107 = .ok (.ireturn, 1) := by decide +kernel
theorem dX9_judge_0 : decode cX9_judge 0 = .ok (.iload_n 1, 1) := by decide +kernel
theorem dX9_judge_1 : decode cX9_judge 1 = .ok (.invokestatic 247, 3) := by decide +kernel
theorem dX9_judge_4 : decode cX9_judge 4 = .ok (.ifCond .ne 9, 3) := by decide +kernel
theorem dX9_judge_7 : decode cX9_judge 7 = .ok (.aload_n 0, 1) := by decide +kernel
theorem dX9_judge_8 : decode cX9_judge 8 = .ok (.iconst 1, 1) := by decide +kernel
theorem dX9_judge_9 : decode cX9_judge 9 = .ok (.invokevirtual 74, 3) := by decide +kernel
theorem dX9_judge_12 : decode cX9_judge 12 = .ok (.ireturn, 1) := by decide +kernel
theorem dX9_judge_13 : decode cX9_judge 13 = .ok (.aload_n 0, 1) := by decide +kernel
theorem dX9_judge_14 : decode cX9_judge 14 = .ok (.getfield 48, 3) := by decide +kernel
theorem dX9_judge_17 : decode cX9_judge 17 = .ok (.iload_n 1, 1) := by decide +kernel
theorem dX9_judge_18 : decode cX9_judge 18 = .ok (.aaload, 1) := by decide +kernel
theorem dX9_judge_19 : decode cX9_judge 19 = .ok (.invokevirtual 250, 3) := by decide +kernel
theorem dX9_judge_22 : decode cX9_judge 22 = .ok (.ifCond .eq 9, 3) := by decide +kernel
theorem dX9_judge_25 : decode cX9_judge 25 = .ok (.aload_n 0, 1) := by decide +kernel
theorem dX9_judge_26 : decode cX9_judge 26 = .ok (.iconst 2, 1) := by decide +kernel
theorem dX9_judge_27 : decode cX9_judge 27 = .ok (.invokevirtual 74, 3) := by decide +kernel
theorem dX9_judge_30 : decode cX9_judge 30 = .ok (.ireturn, 1) := by decide +kernel
theorem dX9_judge_31 : decode cX9_judge 31 = .ok (.aload_n 0, 1) := by decide +kernel
theorem dX9_judge_32 : decode cX9_judge 32 = .ok (.getfield 48, 3) := by decide +kernel
theorem dX9_judge_35 : decode cX9_judge 35 = .ok (.iload_n 1, 1) := by decide +kernel
theorem dX9_judge_36 : decode cX9_judge 36 = .ok (.aaload, 1) := by decide +kernel
theorem dX9_judge_37 : decode cX9_judge 37 = .ok (.getfield 253, 3) := by decide +kernel
theorem dX9_judge_40 : decode cX9_judge 40 = .ok (.astore_n 2, 1) := by decide +kernel
theorem dX9_judge_41 : decode cX9_judge 41 = .ok (.iconst 0, 1) := by decide +kernel
theorem dX9_judge_42 : decode cX9_judge 42 = .ok (.istore_n 3, 1) := by decide +kernel
theorem dX9_judge_43 : decode cX9_judge 43 = .ok (.iload_n 3, 1) := by decide +kernel
theorem dX9_judge_44 : decode cX9_judge 44 = .ok (.aload_n 2, 1) := by decide +kernel
theorem dX9_judge_45 : decode cX9_judge 45 = .ok (.invokevirtual 163, 3) := by decide +kernel
theorem dX9_judge_48 : decode cX9_judge 48 = .ok (.if_icmp .ge 43, 3) := by decide +kernel
theorem dX9_judge_51 : decode cX9_judge 51 = .ok (.aload_n 0, 1) := by decide +kernel
theorem dX9_judge_52 : decode cX9_judge 52 = .ok (.getfield 10, 3) := by decide +kernel
theorem dX9_judge_55 : decode cX9_judge 55 = .ok (.getfield 65, 3) := by decide +kernel
theorem dX9_judge_58 : decode cX9_judge 58 = .ok (.iload_n 3, 1) := by decide +kernel
theorem dX9_judge_59 : decode cX9_judge 59 = .ok (.invokevirtual 82, 3) := by decide +kernel
theorem dX9_judge_62 : decode cX9_judge 62 = .ok (.ifCond .eq 29, 3) := by decide +kernel
theorem dX9_judge_65 : decode cX9_judge 65 = .ok (.aload_n 2, 1) := by decide +kernel
theorem dX9_judge_66 : decode cX9_judge 66 = .ok (.iload_n 3, 1) := by decide +kernel
theorem dX9_judge_67 : decode cX9_judge 67 = .ok (.invokevirtual 280, 3) := by decide +kernel
theorem dX9_judge_70 : decode cX9_judge 70 = .ok (.aload_n 0, 1) := by decide +kernel
theorem dX9_judge_71 : decode cX9_judge 71 = .ok (.getfield 10, 3) := by decide +kernel
theorem dX9_judge_74 : decode cX9_judge 74 = .ok (.getfield 65, 3) := by decide +kernel
theorem dX9_judge_77 : decode cX9_judge 77 = .ok (.getfield 91, 3) := by decide +kernel
theorem dX9_judge_80 : decode cX9_judge 80 = .ok (.iload_n 3, 1) := by decide +kernel
theorem dX9_judge_81 : decode cX9_judge 81 = .ok (.iaload, 1) := by decide +kernel
theorem dX9_judge_82 : decode cX9_judge 82 = .ok (.if_icmp .ne 9, 3) := by decide +kernel
theorem dX9_judge_85 : decode cX9_judge 85 = .ok (.iinc 3 1, 3) := by decide +kernel
theorem dX9_judge_88 : decode cX9_judge 88 = .ok (.goto (-45), 3) := by decide +kernel
theorem dX9_judge_91 : decode cX9_judge 91 = .ok (.iload_n 3, 1) := by decide +kernel
theorem dX9_judge_92 : decode cX9_judge 92 = .ok (.ireturn, 1) := by decide +kernel
theorem dX9_image_0 : decode cX9_image 0 = .ok (.aload_n 0, 1) := by decide +kernel
theorem dX9_image_1 : decode cX9_image 1 = .ok (.getfield 16, 3) := by decide +kernel
theorem dX9_image_4 : decode cX9_image 4 = .ok (.aload_n 0, 1) := by decide +kernel
theorem dX9_image_5 : decode cX9_image 5 = .ok (.getfield 10, 3) := by decide +kernel
theorem dX9_image_8 : decode cX9_image 8 = .ok (.invokevirtual 302, 3) := by decide +kernel
theorem dX9_image_11 : decode cX9_image 11 = .ok (.aload_n 0, 1) := by decide +kernel
theorem dX9_image_12 : decode cX9_image 12 = .ok (.dup, 1) := by decide +kernel
theorem dX9_image_13 : decode cX9_image 13 = .ok (.getfield 57, 3) := by decide +kernel
theorem dX9_image_16 : decode cX9_image 16 = .ok (.iconst 1, 1) := by decide +kernel
theorem dX9_image_17 : decode cX9_image 17 = .ok (.iadd, 1) := by decide +kernel
theorem dX9_image_18 : decode cX9_image 18 = .ok (.putfield 57, 3) := by decide +kernel
theorem dX9_image_21 : decode cX9_image 21 = .ok (.aload_n 0, 1) := by decide +kernel
theorem dX9_image_22 : decode cX9_image 22 = .ok (.getfield 57, 3) := by decide +kernel
theorem dX9_image_25 : decode cX9_image 25 = .ok (.ireturn, 1) := by decide +kernel
theorem dX9_restore_0 : decode cX9_restore 0 = .ok (.aload_n 0, 1) := by decide +kernel
theorem dX9_restore_1 : decode cX9_restore 1 = .ok (.getfield 57, 3) := by decide +kernel
theorem dX9_restore_4 : decode cX9_restore 4 = .ok (.ifCond .ne 9, 3) := by decide +kernel
theorem dX9_restore_7 : decode cX9_restore 7 = .ok (.aload_n 0, 1) := by decide +kernel
theorem dX9_restore_8 : decode cX9_restore 8 = .ok (.iconst 2, 1) := by decide +kernel
theorem dX9_restore_9 : decode cX9_restore 9 = .ok (.invokevirtual 74, 3) := by decide +kernel
theorem dX9_restore_12 : decode cX9_restore 12 = .ok (.ireturn, 1) := by decide +kernel
theorem dX9_restore_13 : decode cX9_restore 13 = .ok (.aload_n 0, 1) := by decide +kernel
theorem dX9_restore_14 : decode cX9_restore 14 = .ok (.getfield 10, 3) := by decide +kernel
theorem dX9_restore_17 : decode cX9_restore 17 = .ok (.aload_n 0, 1) := by decide +kernel
theorem dX9_restore_18 : decode cX9_restore 18 = .ok (.getfield 16, 3) := by decide +kernel
theorem dX9_restore_21 : decode cX9_restore 21 = .ok (.invokevirtual 302, 3) := by decide +kernel
theorem dX9_restore_24 : decode cX9_restore 24 = .ok (.aload_n 0, 1) := by decide +kernel
theorem dX9_restore_25 : decode cX9_restore 25 = .ok (.getfield 10, 3) := by decide +kernel
theorem dX9_restore_28 : decode cX9_restore 28 = .ok (.getfield 97, 3) := by decide +kernel
theorem dX9_restore_31 : decode cX9_restore 31 = .ok (.getfield 197, 3) := by decide +kernel
theorem dX9_restore_34 : decode cX9_restore 34 = .ok (.ireturn, 1) := by decide +kernel
theorem dX9_tell_0 : decode cX9_tell 0 = .ok (.aload_n 0, 1) := by decide +kernel
theorem dX9_tell_1 : decode cX9_tell 1 = .ok (.getfield 10, 3) := by decide +kernel
theorem dX9_tell_4 : decode cX9_tell 4 = .ok (.getfield 305, 3) := by decide +kernel
theorem dX9_tell_7 : decode cX9_tell 7 = .ok (.iconst 1, 1) := by decide +kernel
theorem dX9_tell_8 : decode cX9_tell 8 = .ok (.invokevirtual 155, 3) := by decide +kernel
theorem dX9_tell_11 : decode cX9_tell 11 = .ok (.ifCond .ne 9, 3) := by decide +kernel
theorem dX9_tell_14 : decode cX9_tell 14 = .ok (.aload_n 0, 1) := by decide +kernel
theorem dX9_tell_15 : decode cX9_tell 15 = .ok (.iconst 4, 1) := by decide +kernel
theorem dX9_tell_16 : decode cX9_tell 16 = .ok (.invokevirtual 74, 3) := by decide +kernel
theorem dX9_tell_19 : decode cX9_tell 19 = .ok (.ireturn, 1) := by decide +kernel
theorem dX9_tell_20 : decode cX9_tell 20 = .ok (.aload_n 0, 1) := by decide +kernel
theorem dX9_tell_21 : decode cX9_tell 21 = .ok (.getfield 10, 3) := by decide +kernel
theorem dX9_tell_24 : decode cX9_tell 24 = .ok (.getfield 305, 3) := by decide +kernel
theorem dX9_tell_27 : decode cX9_tell 27 = .ok (.iload_n 1, 1) := by decide +kernel
theorem dX9_tell_28 : decode cX9_tell 28 = .ok (.invokevirtual 160, 3) := by decide +kernel
theorem dX9_tell_31 : decode cX9_tell 31 = .ok (.aload_n 0, 1) := by decide +kernel
theorem dX9_tell_32 : decode cX9_tell 32 = .ok (.getfield 10, 3) := by decide +kernel
theorem dX9_tell_35 : decode cX9_tell 35 = .ok (.getfield 305, 3) := by decide +kernel
theorem dX9_tell_38 : decode cX9_tell 38 = .ok (.invokevirtual 163, 3) := by decide +kernel
theorem dX9_tell_41 : decode cX9_tell 41 = .ok (.ireturn, 1) := by decide +kernel
theorem dX9_check_0 : decode cX9_check 0 = .ok (.iconst 0, 1) := by decide +kernel
theorem dX9_check_1 : decode cX9_check 1 = .ok (.istore_n 1, 1) := by decide +kernel
theorem dX9_check_2 : decode cX9_check 2 = .ok (.iconst 0, 1) := by decide +kernel
theorem dX9_check_3 : decode cX9_check 3 = .ok (.istore_n 2, 1) := by decide +kernel
theorem dX9_check_4 : decode cX9_check 4 = .ok (.iload_n 2, 1) := by decide +kernel
theorem dX9_check_5 : decode cX9_check 5 = .ok (.aload_n 0, 1) := by decide +kernel
theorem dX9_check_6 : decode cX9_check 6 = .ok (.getfield 10, 3) := by decide +kernel
theorem dX9_check_9 : decode cX9_check 9 = .ok (.getfield 305, 3) := by decide +kernel
theorem dX9_check_12 : decode cX9_check 12 = .ok (.invokevirtual 163, 3) := by decide +kernel
theorem dX9_check_15 : decode cX9_check 15 = .ok (.if_icmp .ge 60, 3) := by decide +kernel
theorem dX9_check_18 : decode cX9_check 18 = .ok (.iload_n 1, 1) := by decide +kernel
theorem dX9_check_19 : decode cX9_check 19 = .ok (.ifCond .ne 56, 3) := by decide +kernel
theorem dX9_check_22 : decode cX9_check 22 = .ok (.aload_n 0, 1) := by decide +kernel
theorem dX9_check_23 : decode cX9_check 23 = .ok (.getfield 10, 3) := by decide +kernel
theorem dX9_check_26 : decode cX9_check 26 = .ok (.getfield 65, 3) := by decide +kernel
theorem dX9_check_29 : decode cX9_check 29 = .ok (.iload_n 2, 1) := by decide +kernel
theorem dX9_check_30 : decode cX9_check 30 = .ok (.invokevirtual 82, 3) := by decide +kernel
theorem dX9_check_33 : decode cX9_check 33 = .ok (.ifCond .eq 32, 3) := by decide +kernel
theorem dX9_check_36 : decode cX9_check 36 = .ok (.aload_n 0, 1) := by decide +kernel
theorem dX9_check_37 : decode cX9_check 37 = .ok (.getfield 10, 3) := by decide +kernel
theorem dX9_check_40 : decode cX9_check 40 = .ok (.getfield 305, 3) := by decide +kernel
theorem dX9_check_43 : decode cX9_check 43 = .ok (.iload_n 2, 1) := by decide +kernel
theorem dX9_check_44 : decode cX9_check 44 = .ok (.invokevirtual 280, 3) := by decide +kernel
theorem dX9_check_47 : decode cX9_check 47 = .ok (.aload_n 0, 1) := by decide +kernel
theorem dX9_check_48 : decode cX9_check 48 = .ok (.getfield 10, 3) := by decide +kernel
theorem dX9_check_51 : decode cX9_check 51 = .ok (.iload_n 2, 1) := by decide +kernel
theorem dX9_check_52 : decode cX9_check 52 = .ok (.aload_n 0, 1) := by decide +kernel
theorem dX9_check_53 : decode cX9_check 53 = .ok (.getfield 10, 3) := by decide +kernel
theorem dX9_check_56 : decode cX9_check 56 = .ok (.getfield 97, 3) := by decide +kernel
theorem dX9_check_59 : decode cX9_check 59 = .ok (.invokevirtual 103, 3) := by decide +kernel
theorem dX9_check_62 : decode cX9_check 62 = .ok (.if_icmp .eq 7, 3) := by decide +kernel
theorem dX9_check_65 : decode cX9_check 65 = .ok (.iconst 1, 1) := by decide +kernel
theorem dX9_check_66 : decode cX9_check 66 = .ok (.iload_n 2, 1) := by decide +kernel
theorem dX9_check_67 : decode cX9_check 67 = .ok (.iadd, 1) := by decide +kernel
theorem dX9_check_68 : decode cX9_check 68 = .ok (.istore_n 1, 1) := by decide +kernel
theorem dX9_check_69 : decode cX9_check 69 = .ok (.iinc 2 1, 3) := by decide +kernel
theorem dX9_check_72 : decode cX9_check 72 = .ok (.goto (-68), 3) := by decide +kernel
theorem dX9_check_75 : decode cX9_check 75 = .ok (.aload_n 0, 1) := by decide +kernel
theorem dX9_check_76 : decode cX9_check 76 = .ok (.getfield 10, 3) := by decide +kernel
theorem dX9_check_79 : decode cX9_check 79 = .ok (.getfield 305, 3) := by decide +kernel
theorem dX9_check_82 : decode cX9_check 82 = .ok (.invokevirtual 173, 3) := by decide +kernel
theorem dX9_check_85 : decode cX9_check 85 = .ok (.iload_n 1, 1) := by decide +kernel
theorem dX9_check_86 : decode cX9_check 86 = .ok (.ireturn, 1) := by decide +kernel
theorem dX9_count_0 : decode cX9_count 0 = .ok (.iload_n 1, 1) := by decide +kernel
theorem dX9_count_1 : decode cX9_count 1 = .ok (.tableswitch 147 0 8 #[51, 62, 73, 84, 95, 106, 117, 128, 139], 51) := by decide +kernel
theorem dX9_count_52 : decode cX9_count 52 = .ok (.aload_n 0, 1) := by decide +kernel
theorem dX9_count_53 : decode cX9_count 53 = .ok (.getfield 10, 3) := by decide +kernel
theorem dX9_count_56 : decode cX9_count 56 = .ok (.getfield 65, 3) := by decide +kernel
theorem dX9_count_59 : decode cX9_count 59 = .ok (.getfield 69, 3) := by decide +kernel
theorem dX9_count_62 : decode cX9_count 62 = .ok (.ireturn, 1) := by decide +kernel
theorem dX9_count_63 : decode cX9_count 63 = .ok (.aload_n 0, 1) := by decide +kernel
theorem dX9_count_64 : decode cX9_count 64 = .ok (.getfield 10, 3) := by decide +kernel
theorem dX9_count_67 : decode cX9_count 67 = .ok (.getfield 97, 3) := by decide +kernel
theorem dX9_count_70 : decode cX9_count 70 = .ok (.getfield 197, 3) := by decide +kernel
theorem dX9_count_73 : decode cX9_count 73 = .ok (.ireturn, 1) := by decide +kernel
theorem dX9_count_74 : decode cX9_count 74 = .ok (.aload_n 0, 1) := by decide +kernel
theorem dX9_count_75 : decode cX9_count 75 = .ok (.getfield 10, 3) := by decide +kernel
theorem dX9_count_78 : decode cX9_count 78 = .ok (.getfield 97, 3) := by decide +kernel
theorem dX9_count_81 : decode cX9_count 81 = .ok (.getfield 149, 3) := by decide +kernel
theorem dX9_count_84 : decode cX9_count 84 = .ok (.ireturn, 1) := by decide +kernel
theorem dX9_count_85 : decode cX9_count 85 = .ok (.aload_n 0, 1) := by decide +kernel
theorem dX9_count_86 : decode cX9_count 86 = .ok (.getfield 10, 3) := by decide +kernel
theorem dX9_count_89 : decode cX9_count 89 = .ok (.getfield 97, 3) := by decide +kernel
theorem dX9_count_92 : decode cX9_count 92 = .ok (.getfield 152, 3) := by decide +kernel
theorem dX9_count_95 : decode cX9_count 95 = .ok (.ireturn, 1) := by decide +kernel
theorem dX9_count_96 : decode cX9_count 96 = .ok (.aload_n 0, 1) := by decide +kernel
theorem dX9_count_97 : decode cX9_count 97 = .ok (.getfield 10, 3) := by decide +kernel
theorem dX9_count_100 : decode cX9_count 100 = .ok (.getfield 97, 3) := by decide +kernel
theorem dX9_count_103 : decode cX9_count 103 = .ok (.invokevirtual 204, 3) := by decide +kernel
theorem dX9_count_106 : decode cX9_count 106 = .ok (.ireturn, 1) := by decide +kernel
theorem dX9_count_107 : decode cX9_count 107 = .ok (.aload_n 0, 1) := by decide +kernel
theorem dX9_count_108 : decode cX9_count 108 = .ok (.getfield 10, 3) := by decide +kernel
theorem dX9_count_111 : decode cX9_count 111 = .ok (.getfield 28, 3) := by decide +kernel
theorem dX9_count_114 : decode cX9_count 114 = .ok (.invokevirtual 163, 3) := by decide +kernel
theorem dX9_count_117 : decode cX9_count 117 = .ok (.ireturn, 1) := by decide +kernel
theorem dX9_count_118 : decode cX9_count 118 = .ok (.aload_n 0, 1) := by decide +kernel
theorem dX9_count_119 : decode cX9_count 119 = .ok (.getfield 10, 3) := by decide +kernel
theorem dX9_count_122 : decode cX9_count 122 = .ok (.getfield 305, 3) := by decide +kernel
theorem dX9_count_125 : decode cX9_count 125 = .ok (.invokevirtual 163, 3) := by decide +kernel
theorem dX9_count_128 : decode cX9_count 128 = .ok (.ireturn, 1) := by decide +kernel
theorem dX9_count_129 : decode cX9_count 129 = .ok (.aload_n 0, 1) := by decide +kernel
theorem dX9_count_130 : decode cX9_count 130 = .ok (.getfield 42, 3) := by decide +kernel
theorem dX9_count_133 : decode cX9_count 133 = .ok (.getfield 274, 3) := by decide +kernel
theorem dX9_count_136 : decode cX9_count 136 = .ok (.invokevirtual 163, 3) := by decide +kernel
theorem dX9_count_139 : decode cX9_count 139 = .ok (.ireturn, 1) := by decide +kernel
theorem dX9_count_140 : decode cX9_count 140 = .ok (.aload_n 0, 1) := by decide +kernel
theorem dX9_count_141 : decode cX9_count 141 = .ok (.getfield 10, 3) := by decide +kernel
theorem dX9_count_144 : decode cX9_count 144 = .ok (.getfield 210, 3) := by decide +kernel
theorem dX9_count_147 : decode cX9_count 147 = .ok (.ireturn, 1) := by decide +kernel
theorem dX9_count_148 : decode cX9_count 148 = .ok (.aload_n 0, 1) := by decide +kernel
theorem dX9_count_149 : decode cX9_count 149 = .ok (.iconst 1, 1) := by decide +kernel
theorem dX9_count_150 : decode cX9_count 150 = .ok (.invokevirtual 74, 3) := by decide +kernel
theorem dX9_count_153 : decode cX9_count 153 = .ok (.ireturn, 1) := by decide +kernel
theorem dX9_told_0 : decode cX9_told 0 = .ok (.iload_n 1, 1) := by decide +kernel
theorem dX9_told_1 : decode cX9_told 1 = .ok (.iconst 1, 1) := by decide +kernel
theorem dX9_told_2 : decode cX9_told 2 = .ok (.if_icmp .lt 9, 3) := by decide +kernel
theorem dX9_told_5 : decode cX9_told 5 = .ok (.iload_n 1, 1) := by decide +kernel
theorem dX9_told_6 : decode cX9_told 6 = .ok (.bipush 6, 2) := by decide +kernel
theorem dX9_told_8 : decode cX9_told 8 = .ok (.if_icmp .le 9, 3) := by decide +kernel
theorem dX9_told_11 : decode cX9_told 11 = .ok (.aload_n 0, 1) := by decide +kernel
theorem dX9_told_12 : decode cX9_told 12 = .ok (.iconst 1, 1) := by decide +kernel
theorem dX9_told_13 : decode cX9_told 13 = .ok (.invokevirtual 74, 3) := by decide +kernel
theorem dX9_told_16 : decode cX9_told 16 = .ok (.ireturn, 1) := by decide +kernel
theorem dX9_told_17 : decode cX9_told 17 = .ok (.aload_n 0, 1) := by decide +kernel
theorem dX9_told_18 : decode cX9_told 18 = .ok (.getfield 53, 3) := by decide +kernel
theorem dX9_told_21 : decode cX9_told 21 = .ok (.iload_n 1, 1) := by decide +kernel
theorem dX9_told_22 : decode cX9_told 22 = .ok (.iaload, 1) := by decide +kernel
theorem dX9_told_23 : decode cX9_told 23 = .ok (.ireturn, 1) := by decide +kernel
theorem dX9_fail_0 : decode cX9_fail 0 = .ok (.aload_n 0, 1) := by decide +kernel
theorem dX9_fail_1 : decode cX9_fail 1 = .ok (.getfield 53, 3) := by decide +kernel
theorem dX9_fail_4 : decode cX9_fail 4 = .ok (.iload_n 1, 1) := by decide +kernel
theorem dX9_fail_5 : decode cX9_fail 5 = .ok (.dup2, 1) := by decide +kernel
theorem dX9_fail_6 : decode cX9_fail 6 = .ok (.iaload, 1) := by decide +kernel
theorem dX9_fail_7 : decode cX9_fail 7 = .ok (.iconst 1, 1) := by decide +kernel
theorem dX9_fail_8 : decode cX9_fail 8 = .ok (.iadd, 1) := by decide +kernel
theorem dX9_fail_9 : decode cX9_fail 9 = .ok (.iastore, 1) := by decide +kernel
theorem dX9_fail_10 : decode cX9_fail 10 = .ok (.ldc_w 308, 3) := by decide +kernel
theorem dX9_fail_13 : decode cX9_fail 13 = .ok (.iload_n 1, 1) := by decide +kernel
theorem dX9_fail_14 : decode cX9_fail 14 = .ok (.isub, 1) := by decide +kernel
theorem dX9_fail_15 : decode cX9_fail 15 = .ok (.ireturn, 1) := by decide +kernel
theorem dX9_isKm_0 : decode cX9_isKm 0 = .ok (.iload_n 0, 1) := by decide +kernel
theorem dX9_isKm_1 : decode cX9_isKm 1 = .ok (.ifCond .lt 13, 3) := by decide +kernel
theorem dX9_isKm_4 : decode cX9_isKm 4 = .ok (.iload_n 0, 1) := by decide +kernel
theorem dX9_isKm_5 : decode cX9_isKm 5 = .ok (.bipush 69, 2) := by decide +kernel
theorem dX9_isKm_7 : decode cX9_isKm 7 = .ok (.if_icmp .gt 7, 3) := by decide +kernel
theorem dX9_isKm_10 : decode cX9_isKm 10 = .ok (.iconst 1, 1) := by decide +kernel
theorem dX9_isKm_11 : decode cX9_isKm 11 = .ok (.goto 4, 3) := by decide +kernel
theorem dX9_isKm_14 : decode cX9_isKm 14 = .ok (.iconst 0, 1) := by decide +kernel
theorem dX9_isKm_15 : decode cX9_isKm 15 = .ok (.ireturn, 1) := by decide +kernel
theorem dX9_isNumber_0 : decode cX9_isNumber 0 = .ok (.iload_n 0, 1) := by decide +kernel
theorem dX9_isNumber_1 : decode cX9_isNumber 1 = .ok (.ifCond .lt 13, 3) := by decide +kernel
theorem dX9_isNumber_4 : decode cX9_isNumber 4 = .ok (.iload_n 0, 1) := by decide +kernel
theorem dX9_isNumber_5 : decode cX9_isNumber 5 = .ok (.bipush 8, 2) := by decide +kernel
theorem dX9_isNumber_7 : decode cX9_isNumber 7 = .ok (.if_icmp .ge 7, 3) := by decide +kernel
theorem dX9_isNumber_10 : decode cX9_isNumber 10 = .ok (.iconst 1, 1) := by decide +kernel
theorem dX9_isNumber_11 : decode cX9_isNumber 11 = .ok (.goto 4, 3) := by decide +kernel
theorem dX9_isNumber_14 : decode cX9_isNumber 14 = .ok (.iconst 0, 1) := by decide +kernel
theorem dX9_isNumber_15 : decode cX9_isNumber 15 = .ok (.ireturn, 1) := by decide +kernel
theorem dX9_isUse_0 : decode cX9_isUse 0 = .ok (.iload_n 0, 1) := by decide +kernel
theorem dX9_isUse_1 : decode cX9_isUse 1 = .ok (.ifCond .lt 12, 3) := by decide +kernel
theorem dX9_isUse_4 : decode cX9_isUse 4 = .ok (.iload_n 0, 1) := by decide +kernel
theorem dX9_isUse_5 : decode cX9_isUse 5 = .ok (.iconst 2, 1) := by decide +kernel
theorem dX9_isUse_6 : decode cX9_isUse 6 = .ok (.if_icmp .ge 7, 3) := by decide +kernel
theorem dX9_isUse_9 : decode cX9_isUse 9 = .ok (.iconst 1, 1) := by decide +kernel
theorem dX9_isUse_10 : decode cX9_isUse 10 = .ok (.goto 4, 3) := by decide +kernel
theorem dX9_isUse_13 : decode cX9_isUse 13 = .ok (.iconst 0, 1) := by decide +kernel
theorem dX9_isUse_14 : decode cX9_isUse 14 = .ok (.ireturn, 1) := by decide +kernel
theorem dX9_isSheet_0 : decode cX9_isSheet 0 = .ok (.iload_n 0, 1) := by decide +kernel
theorem dX9_isSheet_1 : decode cX9_isSheet 1 = .ok (.ifCond .lt 12, 3) := by decide +kernel
theorem dX9_isSheet_4 : decode cX9_isSheet 4 = .ok (.iload_n 0, 1) := by decide +kernel
theorem dX9_isSheet_5 : decode cX9_isSheet 5 = .ok (.iconst 4, 1) := by decide +kernel
theorem dX9_isSheet_6 : decode cX9_isSheet 6 = .ok (.if_icmp .ge 7, 3) := by decide +kernel
theorem dX9_isSheet_9 : decode cX9_isSheet 9 = .ok (.iconst 1, 1) := by decide +kernel
theorem dX9_isSheet_10 : decode cX9_isSheet 10 = .ok (.goto 4, 3) := by decide +kernel
theorem dX9_isSheet_13 : decode cX9_isSheet 13 = .ok (.iconst 0, 1) := by decide +kernel
theorem dX9_isSheet_14 : decode cX9_isSheet 14 = .ok (.ireturn, 1) := by decide +kernel
theorem dX9_isIn_0 : decode cX9_isIn 0 = .ok (.iload_n 0, 1) := by decide +kernel
theorem dX9_isIn_1 : decode cX9_isIn 1 = .ok (.iload_n 1, 1) := by decide +kernel
theorem dX9_isIn_2 : decode cX9_isIn 2 = .ok (.ishr, 1) := by decide +kernel
theorem dX9_isIn_3 : decode cX9_isIn 3 = .ok (.iconst 1, 1) := by decide +kernel
theorem dX9_isIn_4 : decode cX9_isIn 4 = .ok (.iand, 1) := by decide +kernel
theorem dX9_isIn_5 : decode cX9_isIn 5 = .ok (.ifCond .eq 7, 3) := by decide +kernel
theorem dX9_isIn_8 : decode cX9_isIn 8 = .ok (.iconst 1, 1) := by decide +kernel
theorem dX9_isIn_9 : decode cX9_isIn 9 = .ok (.goto 4, 3) := by decide +kernel
theorem dX9_isIn_12 : decode cX9_isIn 12 = .ok (.iconst 0, 1) := by decide +kernel
theorem dX9_isIn_13 : decode cX9_isIn 13 = .ok (.ireturn, 1) := by decide +kernel
theorem dX9_greatestDivisor_0 : decode cX9_greatestDivisor 0 = .ok (.iload_n 1, 1) := by decide +kernel
theorem dX9_greatestDivisor_1 : decode cX9_greatestDivisor 1 = .ok (.istore_n 2, 1) := by decide +kernel
theorem dX9_greatestDivisor_2 : decode cX9_greatestDivisor 2 = .ok (.iload_n 2, 1) := by decide +kernel
theorem dX9_greatestDivisor_3 : decode cX9_greatestDivisor 3 = .ok (.iconst 1, 1) := by decide +kernel
theorem dX9_greatestDivisor_4 : decode cX9_greatestDivisor 4 = .ok (.if_icmp .le 23, 3) := by decide +kernel
theorem dX9_greatestDivisor_7 : decode cX9_greatestDivisor 7 = .ok (.iload_n 0, 1) := by decide +kernel
theorem dX9_greatestDivisor_8 : decode cX9_greatestDivisor 8 = .ok (.iload_n 2, 1) := by decide +kernel
theorem dX9_greatestDivisor_9 : decode cX9_greatestDivisor 9 = .ok (.irem, 1) := by decide +kernel
theorem dX9_greatestDivisor_10 : decode cX9_greatestDivisor 10 = .ok (.ifCond .ne 11, 3) := by decide +kernel
theorem dX9_greatestDivisor_13 : decode cX9_greatestDivisor 13 = .ok (.iload_n 1, 1) := by decide +kernel
theorem dX9_greatestDivisor_14 : decode cX9_greatestDivisor 14 = .ok (.iload_n 2, 1) := by decide +kernel
theorem dX9_greatestDivisor_15 : decode cX9_greatestDivisor 15 = .ok (.irem, 1) := by decide +kernel
theorem dX9_greatestDivisor_16 : decode cX9_greatestDivisor 16 = .ok (.ifCond .ne 5, 3) := by decide +kernel
theorem dX9_greatestDivisor_19 : decode cX9_greatestDivisor 19 = .ok (.iload_n 2, 1) := by decide +kernel
theorem dX9_greatestDivisor_20 : decode cX9_greatestDivisor 20 = .ok (.ireturn, 1) := by decide +kernel
theorem dX9_greatestDivisor_21 : decode cX9_greatestDivisor 21 = .ok (.iinc 2 (-1), 3) := by decide +kernel
theorem dX9_greatestDivisor_24 : decode cX9_greatestDivisor 24 = .ok (.goto (-22), 3) := by decide +kernel
theorem dX9_greatestDivisor_27 : decode cX9_greatestDivisor 27 = .ok (.iconst 1, 1) := by decide +kernel
theorem dX9_greatestDivisor_28 : decode cX9_greatestDivisor 28 = .ok (.ireturn, 1) := by decide +kernel
theorem dX10_init_0 : decode cX10_init 0 = .ok (.aload_n 0, 1) := by decide +kernel
theorem dX10_init_1 : decode cX10_init 1 = .ok (.invokespecial 3, 3) := by decide +kernel
theorem dX10_init_4 : decode cX10_init 4 = .ok (.aload_n 0, 1) := by decide +kernel
theorem dX10_init_5 : decode cX10_init 5 = .ok (.sipush 385, 3) := by decide +kernel
theorem dX10_init_8 : decode cX10_init 8 = .ok (.newarray .int, 2) := by decide +kernel
theorem dX10_init_10 : decode cX10_init 10 = .ok (.putfield 9, 3) := by decide +kernel
theorem dX10_init_13 : decode cX10_init 13 = .ok (.aload_n 0, 1) := by decide +kernel
theorem dX10_init_14 : decode cX10_init 14 = .ok (.sipush 385, 3) := by decide +kernel
theorem dX10_init_17 : decode cX10_init 17 = .ok (.newarray .int, 2) := by decide +kernel
theorem dX10_init_19 : decode cX10_init 19 = .ok (.putfield 13, 3) := by decide +kernel
theorem dX10_init_22 : decode cX10_init 22 = .ok (.aload_n 0, 1) := by decide +kernel
theorem dX10_init_23 : decode cX10_init 23 = .ok (.sipush 385, 3) := by decide +kernel
theorem dX10_init_26 : decode cX10_init 26 = .ok (.newarray .int, 2) := by decide +kernel
theorem dX10_init_28 : decode cX10_init 28 = .ok (.putfield 16, 3) := by decide +kernel
theorem dX10_init_31 : decode cX10_init 31 = .ok (.aload_n 0, 1) := by decide +kernel
theorem dX10_init_32 : decode cX10_init 32 = .ok (.bipush 7, 2) := by decide +kernel
theorem dX10_init_34 : decode cX10_init 34 = .ok (.newarray .int, 2) := by decide +kernel
theorem dX10_init_36 : decode cX10_init 36 = .ok (.putfield 19, 3) := by decide +kernel
theorem dX10_init_39 : decode cX10_init 39 = .ok (.aload_n 0, 1) := by decide +kernel
theorem dX10_init_40 : decode cX10_init 40 = .ok (.iconst 4, 1) := by decide +kernel
theorem dX10_init_41 : decode cX10_init 41 = .ok (.newarray .int, 2) := by decide +kernel
theorem dX10_init_43 : decode cX10_init 43 = .ok (.putfield 22, 3) := by decide +kernel
theorem dX10_init_46 : decode cX10_init 46 = .ok (.aload_n 0, 1) := by decide +kernel
theorem dX10_init_47 : decode cX10_init 47 = .ok (.iconst 4, 1) := by decide +kernel
theorem dX10_init_48 : decode cX10_init 48 = .ok (.newarray .int, 2) := by decide +kernel
theorem dX10_init_50 : decode cX10_init 50 = .ok (.putfield 25, 3) := by decide +kernel
theorem dX10_init_53 : decode cX10_init 53 = .ok (.aload_n 0, 1) := by decide +kernel
theorem dX10_init_54 : decode cX10_init 54 = .ok (.bipush 96, 2) := by decide +kernel
theorem dX10_init_56 : decode cX10_init 56 = .ok (.newarray .int, 2) := by decide +kernel
theorem dX10_init_58 : decode cX10_init 58 = .ok (.putfield 28, 3) := by decide +kernel
theorem dX10_init_61 : decode cX10_init 61 = .ok (.aload_n 0, 1) := by decide +kernel
theorem dX10_init_62 : decode cX10_init 62 = .ok (.bipush 60, 2) := by decide +kernel
theorem dX10_init_64 : decode cX10_init 64 = .ok (.newarray .int, 2) := by decide +kernel
theorem dX10_init_66 : decode cX10_init 66 = .ok (.putfield 31, 3) := by decide +kernel
theorem dX10_init_69 : decode cX10_init 69 = .ok (.aload_n 0, 1) := by decide +kernel
theorem dX10_init_70 : decode cX10_init 70 = .ok (.bipush 60, 2) := by decide +kernel
theorem dX10_init_72 : decode cX10_init 72 = .ok (.newarray .int, 2) := by decide +kernel
theorem dX10_init_74 : decode cX10_init 74 = .ok (.putfield 34, 3) := by decide +kernel
theorem dX10_init_77 : decode cX10_init 77 = .ok (.aload_n 0, 1) := by decide +kernel
theorem dX10_init_78 : decode cX10_init 78 = .ok (.iconst 3, 1) := by decide +kernel
theorem dX10_init_79 : decode cX10_init 79 = .ok (.newarray .int, 2) := by decide +kernel
theorem dX10_init_81 : decode cX10_init 81 = .ok (.putfield 37, 3) := by decide +kernel
theorem dX10_init_84 : decode cX10_init 84 = .ok (.aload_n 0, 1) := by decide +kernel
theorem dX10_init_85 : decode cX10_init 85 = .ok (.bipush 60, 2) := by decide +kernel
theorem dX10_init_87 : decode cX10_init 87 = .ok (.newarray .int, 2) := by decide +kernel
theorem dX10_init_89 : decode cX10_init 89 = .ok (.putfield 40, 3) := by decide +kernel
theorem dX10_init_92 : decode cX10_init 92 = .ok (.aload_n 0, 1) := by decide +kernel
theorem dX10_init_93 : decode cX10_init 93 = .ok (.bipush 30, 2) := by decide +kernel
theorem dX10_init_95 : decode cX10_init 95 = .ok (.newarray .int, 2) := by decide +kernel
theorem dX10_init_97 : decode cX10_init 97 = .ok (.putfield 43, 3) := by decide +kernel
theorem dX10_init_100 : decode cX10_init 100 = .ok (.aload_n 0, 1) := by decide +kernel
theorem dX10_init_101 : decode cX10_init 101 = .ok (.getfield 9, 3) := by decide +kernel
theorem dX10_init_104 : decode cX10_init 104 = .ok (.iconst 1, 1) := by decide +kernel
theorem dX10_init_105 : decode cX10_init 105 = .ok (.iconst 1, 1) := by decide +kernel
theorem dX10_init_106 : decode cX10_init 106 = .ok (.iastore, 1) := by decide +kernel
theorem dX10_init_107 : decode cX10_init 107 = .ok (.aload_n 0, 1) := by decide +kernel
theorem dX10_init_108 : decode cX10_init 108 = .ok (.getfield 9, 3) := by decide +kernel
theorem dX10_init_111 : decode cX10_init 111 = .ok (.iconst 3, 1) := by decide +kernel
theorem dX10_init_112 : decode cX10_init 112 = .ok (.bipush 100, 2) := by decide +kernel
theorem dX10_init_114 : decode cX10_init 114 = .ok (.iastore, 1) := by decide +kernel
theorem dX10_init_115 : decode cX10_init 115 = .ok (.aload_n 0, 1) := by decide +kernel
theorem dX10_init_116 : decode cX10_init 116 = .ok (.getfield 9, 3) := by decide +kernel
theorem dX10_init_119 : decode cX10_init 119 = .ok (.iconst 4, 1) := by decide +kernel
theorem dX10_init_120 : decode cX10_init 120 = .ok (.iconst 5, 1) := by decide +kernel
theorem dX10_init_121 : decode cX10_init 121 = .ok (.iastore, 1) := by decide +kernel
theorem dX10_init_122 : decode cX10_init 122 = .ok (.iconst 0, 1) := by decide +kernel
theorem dX10_init_123 : decode cX10_init 123 = .ok (.istore_n 1, 1) := by decide +kernel
theorem dX10_init_124 : decode cX10_init 124 = .ok (.iload_n 1, 1) := by decide +kernel
theorem dX10_init_125 : decode cX10_init 125 = .ok (.bipush 6, 2) := by decide +kernel
theorem dX10_init_127 : decode cX10_init 127 = .ok (.if_icmp .ge 23, 3) := by decide +kernel
theorem dX10_init_130 : decode cX10_init 130 = .ok (.aload_n 0, 1) := by decide +kernel
theorem dX10_init_131 : decode cX10_init 131 = .ok (.getfield 9, 3) := by decide +kernel
theorem dX10_init_134 : decode cX10_init 134 = .ok (.bipush 7, 2) := by decide +kernel
theorem dX10_init_136 : decode cX10_init 136 = .ok (.iconst 2, 1) := by decide +kernel
theorem dX10_init_137 : decode cX10_init 137 = .ok (.iload_n 1, 1) := by decide +kernel
theorem dX10_init_138 : decode cX10_init 138 = .ok (.imul, 1) := by decide +kernel
theorem dX10_init_139 : decode cX10_init 139 = .ok (.iadd, 1) := by decide +kernel
theorem dX10_init_140 : decode cX10_init 140 = .ok (.iconst 1, 1) := by decide +kernel
theorem dX10_init_141 : decode cX10_init 141 = .ok (.iadd, 1) := by decide +kernel
theorem dX10_init_142 : decode cX10_init 142 = .ok (.iconst 1, 1) := by decide +kernel
theorem dX10_init_143 : decode cX10_init 143 = .ok (.iastore, 1) := by decide +kernel
theorem dX10_init_144 : decode cX10_init 144 = .ok (.iinc 1 1, 3) := by decide +kernel
theorem dX10_init_147 : decode cX10_init 147 = .ok (.goto (-23), 3) := by decide +kernel
theorem dX10_init_150 : decode cX10_init 150 = .ok (.return_, 1) := by decide +kernel
theorem dX10_error_0 : decode cX10_error 0 = .ok (.aload_n 0, 1) := by decide +kernel
theorem dX10_error_1 : decode cX10_error 1 = .ok (.getfield 19, 3) := by decide +kernel
theorem dX10_error_4 : decode cX10_error 4 = .ok (.ldc 46, 2) := by decide +kernel
theorem dX10_error_6 : decode cX10_error 6 = .ok (.iload_n 1, 1) := by decide +kernel
theorem dX10_error_7 : decode cX10_error 7 = .ok (.isub, 1) := by decide +kernel
theorem dX10_error_8 : decode cX10_error 8 = .ok (.dup2, 1) := by decide +kernel
theorem dX10_error_9 : decode cX10_error 9 = .ok (.iaload, 1) := by decide +kernel
theorem dX10_error_10 : decode cX10_error 10 = .ok (.iconst 1, 1) := by decide +kernel
theorem dX10_error_11 : decode cX10_error 11 = .ok (.iadd, 1) := by decide +kernel
theorem dX10_error_12 : decode cX10_error 12 = .ok (.iastore, 1) := by decide +kernel
theorem dX10_error_13 : decode cX10_error 13 = .ok (.iload_n 1, 1) := by decide +kernel
theorem dX10_error_14 : decode cX10_error 14 = .ok (.ireturn, 1) := by decide +kernel
theorem dX10_in_0 : decode cX10_in 0 = .ok (.iload_n 0, 1) := by decide +kernel
theorem dX10_in_1 : decode cX10_in 1 = .ok (.iload_n 1, 1) := by decide +kernel
theorem dX10_in_2 : decode cX10_in 2 = .ok (.if_icmp .lt 12, 3) := by decide +kernel
theorem dX10_in_5 : decode cX10_in 5 = .ok (.iload_n 0, 1) := by decide +kernel
theorem dX10_in_6 : decode cX10_in 6 = .ok (.iload_n 2, 1) := by decide +kernel
theorem dX10_in_7 : decode cX10_in 7 = .ok (.if_icmp .gt 7, 3) := by decide +kernel
theorem dX10_in_10 : decode cX10_in 10 = .ok (.iconst 1, 1) := by decide +kernel
theorem dX10_in_11 : decode cX10_in 11 = .ok (.goto 4, 3) := by decide +kernel
theorem dX10_in_14 : decode cX10_in 14 = .ok (.iconst 0, 1) := by decide +kernel
theorem dX10_in_15 : decode cX10_in 15 = .ok (.ireturn, 1) := by decide +kernel
theorem dX10_held_0 : decode cX10_held 0 = .ok (.iload_n 0, 1) := by decide +kernel
theorem dX10_held_1 : decode cX10_held 1 = .ok (.iload_n 1, 1) := by decide +kernel
theorem dX10_held_2 : decode cX10_held 2 = .ok (.if_icmp .ge 7, 3) := by decide +kernel
theorem dX10_held_5 : decode cX10_held 5 = .ok (.iload_n 1, 1) := by decide +kernel
theorem dX10_held_6 : decode cX10_held 6 = .ok (.goto 13, 3) := by decide +kernel
theorem dX10_held_9 : decode cX10_held 9 = .ok (.iload_n 0, 1) := by decide +kernel
theorem dX10_held_10 : decode cX10_held 10 = .ok (.iload_n 2, 1) := by decide +kernel
theorem dX10_held_11 : decode cX10_held 11 = .ok (.if_icmp .le 7, 3) := by decide +kernel
theorem dX10_held_14 : decode cX10_held 14 = .ok (.iload_n 2, 1) := by decide +kernel
theorem dX10_held_15 : decode cX10_held 15 = .ok (.goto 4, 3) := by decide +kernel
theorem dX10_held_18 : decode cX10_held 18 = .ok (.iload_n 0, 1) := by decide +kernel
theorem dX10_held_19 : decode cX10_held 19 = .ok (.ireturn, 1) := by decide +kernel
theorem dX10_copyAll_0 : decode cX10_copyAll 0 = .ok (.iconst 0, 1) := by decide +kernel
theorem dX10_copyAll_1 : decode cX10_copyAll 1 = .ok (.istore_n 2, 1) := by decide +kernel
theorem dX10_copyAll_2 : decode cX10_copyAll 2 = .ok (.iload_n 2, 1) := by decide +kernel
theorem dX10_copyAll_3 : decode cX10_copyAll 3 = .ok (.sipush 385, 3) := by decide +kernel
theorem dX10_copyAll_6 : decode cX10_copyAll 6 = .ok (.if_icmp .ge 15, 3) := by decide +kernel
theorem dX10_copyAll_9 : decode cX10_copyAll 9 = .ok (.aload_n 1, 1) := by decide +kernel
theorem dX10_copyAll_10 : decode cX10_copyAll 10 = .ok (.iload_n 2, 1) := by decide +kernel
theorem dX10_copyAll_11 : decode cX10_copyAll 11 = .ok (.aload_n 0, 1) := by decide +kernel
theorem dX10_copyAll_12 : decode cX10_copyAll 12 = .ok (.iload_n 2, 1) := by decide +kernel
theorem dX10_copyAll_13 : decode cX10_copyAll 13 = .ok (.iaload, 1) := by decide +kernel
theorem dX10_copyAll_14 : decode cX10_copyAll 14 = .ok (.iastore, 1) := by decide +kernel
theorem dX10_copyAll_15 : decode cX10_copyAll 15 = .ok (.iinc 2 1, 3) := by decide +kernel
theorem dX10_copyAll_18 : decode cX10_copyAll 18 = .ok (.goto (-16), 3) := by decide +kernel
theorem dX10_copyAll_21 : decode cX10_copyAll 21 = .ok (.return_, 1) := by decide +kernel
theorem dX10_thinks_0 : decode cX10_thinks 0 = .ok (.aload_n 0, 1) := by decide +kernel
theorem dX10_thinks_1 : decode cX10_thinks 1 = .ok (.getfield 9, 3) := by decide +kernel
theorem dX10_thinks_4 : decode cX10_thinks 4 = .ok (.aload_n 0, 1) := by decide +kernel
theorem dX10_thinks_5 : decode cX10_thinks 5 = .ok (.getfield 16, 3) := by decide +kernel
theorem dX10_thinks_8 : decode cX10_thinks 8 = .ok (.invokestatic 47, 3) := by decide +kernel
theorem dX10_thinks_11 : decode cX10_thinks 11 = .ok (.return_, 1) := by decide +kernel
theorem dX10_putsBack_0 : decode cX10_putsBack 0 = .ok (.aload_n 0, 1) := by decide +kernel
theorem dX10_putsBack_1 : decode cX10_putsBack 1 = .ok (.getfield 16, 3) := by decide +kernel
theorem dX10_putsBack_4 : decode cX10_putsBack 4 = .ok (.aload_n 0, 1) := by decide +kernel
theorem dX10_putsBack_5 : decode cX10_putsBack 5 = .ok (.getfield 9, 3) := by decide +kernel
theorem dX10_putsBack_8 : decode cX10_putsBack 8 = .ok (.invokestatic 47, 3) := by decide +kernel
theorem dX10_putsBack_11 : decode cX10_putsBack 11 = .ok (.return_, 1) := by decide +kernel
theorem dX10_bits_0 : decode cX10_bits 0 = .ok (.iconst 0, 1) := by decide +kernel
theorem dX10_bits_1 : decode cX10_bits 1 = .ok (.istore_n 1, 1) := by decide +kernel
theorem dX10_bits_2 : decode cX10_bits 2 = .ok (.iload_n 0, 1) := by decide +kernel
theorem dX10_bits_3 : decode cX10_bits 3 = .ok (.istore_n 2, 1) := by decide +kernel
theorem dX10_bits_4 : decode cX10_bits 4 = .ok (.iload_n 2, 1) := by decide +kernel
theorem dX10_bits_5 : decode cX10_bits 5 = .ok (.ifCond .eq 15, 3) := by decide +kernel
theorem dX10_bits_8 : decode cX10_bits 8 = .ok (.iinc 1 1, 3) := by decide +kernel
theorem dX10_bits_11 : decode cX10_bits 11 = .ok (.iload_n 2, 1) := by decide +kernel
theorem dX10_bits_12 : decode cX10_bits 12 = .ok (.iload_n 2, 1) := by decide +kernel
theorem dX10_bits_13 : decode cX10_bits 13 = .ok (.iconst 1, 1) := by decide +kernel
theorem dX10_bits_14 : decode cX10_bits 14 = .ok (.isub, 1) := by decide +kernel
theorem dX10_bits_15 : decode cX10_bits 15 = .ok (.iand, 1) := by decide +kernel
theorem dX10_bits_16 : decode cX10_bits 16 = .ok (.istore_n 2, 1) := by decide +kernel
theorem dX10_bits_17 : decode cX10_bits 17 = .ok (.goto (-13), 3) := by decide +kernel
theorem dX10_bits_20 : decode cX10_bits 20 = .ok (.iload_n 1, 1) := by decide +kernel
theorem dX10_bits_21 : decode cX10_bits 21 = .ok (.ireturn, 1) := by decide +kernel
theorem dX10_isPerson_0 : decode cX10_isPerson 0 = .ok (.iload_n 1, 1) := by decide +kernel
theorem dX10_isPerson_1 : decode cX10_isPerson 1 = .ok (.iconst 0, 1) := by decide +kernel
theorem dX10_isPerson_2 : decode cX10_isPerson 2 = .ok (.aload_n 0, 1) := by decide +kernel
theorem dX10_isPerson_3 : decode cX10_isPerson 3 = .ok (.getfield 9, 3) := by decide +kernel
theorem dX10_isPerson_6 : decode cX10_isPerson 6 = .ok (.iconst 2, 1) := by decide +kernel
theorem dX10_isPerson_7 : decode cX10_isPerson 7 = .ok (.iaload, 1) := by decide +kernel
theorem dX10_isPerson_8 : decode cX10_isPerson 8 = .ok (.iconst 1, 1) := by decide +kernel
theorem dX10_isPerson_9 : decode cX10_isPerson 9 = .ok (.isub, 1) := by decide +kernel
theorem dX10_isPerson_10 : decode cX10_isPerson 10 = .ok (.invokestatic 51, 3) := by decide +kernel
theorem dX10_isPerson_13 : decode cX10_isPerson 13 = .ok (.ireturn, 1) := by decide +kernel
theorem dX10_becomes_0 : decode cX10_becomes 0 = .ok (.aload_n 0, 1) := by decide +kernel
theorem dX10_becomes_1 : decode cX10_becomes 1 = .ok (.getfield 9, 3) := by decide +kernel
theorem dX10_becomes_4 : decode cX10_becomes 4 = .ok (.iload_n 1, 1) := by decide +kernel
theorem dX10_becomes_5 : decode cX10_becomes 5 = .ok (.iaload, 1) := by decide +kernel
theorem dX10_becomes_6 : decode cX10_becomes 6 = .ok (.istore_n 3, 1) := by decide +kernel
theorem dX10_becomes_7 : decode cX10_becomes 7 = .ok (.aload_n 0, 1) := by decide +kernel
theorem dX10_becomes_8 : decode cX10_becomes 8 = .ok (.getfield 9, 3) := by decide +kernel
theorem dX10_becomes_11 : decode cX10_becomes 11 = .ok (.iload_n 1, 1) := by decide +kernel
theorem dX10_becomes_12 : decode cX10_becomes 12 = .ok (.iload_n 2, 1) := by decide +kernel
theorem dX10_becomes_13 : decode cX10_becomes 13 = .ok (.iastore, 1) := by decide +kernel
theorem dX10_becomes_14 : decode cX10_becomes 14 = .ok (.iload_n 3, 1) := by decide +kernel
theorem dX10_becomes_15 : decode cX10_becomes 15 = .ok (.ireturn, 1) := by decide +kernel
theorem dX10_of_0 : decode cX10_of 0 = .ok (.aload_n 0, 1) := by decide +kernel
theorem dX10_of_1 : decode cX10_of 1 = .ok (.getfield 9, 3) := by decide +kernel
theorem dX10_of_4 : decode cX10_of 4 = .ok (.bipush 19, 2) := by decide +kernel
theorem dX10_of_6 : decode cX10_of 6 = .ok (.iconst 5, 1) := by decide +kernel
theorem dX10_of_7 : decode cX10_of 7 = .ok (.iload_n 1, 1) := by decide +kernel
theorem dX10_of_8 : decode cX10_of 8 = .ok (.imul, 1) := by decide +kernel
theorem dX10_of_9 : decode cX10_of 9 = .ok (.iadd, 1) := by decide +kernel
theorem dX10_of_10 : decode cX10_of 10 = .ok (.iload_n 2, 1) := by decide +kernel
theorem dX10_of_11 : decode cX10_of 11 = .ok (.iadd, 1) := by decide +kernel
theorem dX10_of_12 : decode cX10_of 12 = .ok (.iaload, 1) := by decide +kernel
theorem dX10_of_13 : decode cX10_of 13 = .ok (.ireturn, 1) := by decide +kernel
theorem dX10_puts_0 : decode cX10_puts 0 = .ok (.aload_n 0, 1) := by decide +kernel
theorem dX10_puts_1 : decode cX10_puts 1 = .ok (.getfield 9, 3) := by decide +kernel
theorem dX10_puts_4 : decode cX10_puts 4 = .ok (.bipush 19, 2) := by decide +kernel
theorem dX10_puts_6 : decode cX10_puts 6 = .ok (.iconst 5, 1) := by decide +kernel
theorem dX10_puts_7 : decode cX10_puts 7 = .ok (.iload_n 1, 1) := by decide +kernel
theorem dX10_puts_8 : decode cX10_puts 8 = .ok (.imul, 1) := by decide +kernel
theorem dX10_puts_9 : decode cX10_puts 9 = .ok (.iadd, 1) := by decide +kernel
theorem dX10_puts_10 : decode cX10_puts 10 = .ok (.iload_n 2, 1) := by decide +kernel
theorem dX10_puts_11 : decode cX10_puts 11 = .ok (.iadd, 1) := by decide +kernel
theorem dX10_puts_12 : decode cX10_puts 12 = .ok (.iload_n 3, 1) := by decide +kernel
theorem dX10_puts_13 : decode cX10_puts 13 = .ok (.iastore, 1) := by decide +kernel
theorem dX10_puts_14 : decode cX10_puts 14 = .ok (.return_, 1) := by decide +kernel
theorem dX10_isKin_0 : decode cX10_isKin 0 = .ok (.aload_n 0, 1) := by decide +kernel
theorem dX10_isKin_1 : decode cX10_isKin 1 = .ok (.iload_n 1, 1) := by decide +kernel
theorem dX10_isKin_2 : decode cX10_isKin 2 = .ok (.iconst 2, 1) := by decide +kernel
theorem dX10_isKin_3 : decode cX10_isKin 3 = .ok (.invokevirtual 55, 3) := by decide +kernel
theorem dX10_isKin_6 : decode cX10_isKin 6 = .ok (.iload_n 2, 1) := by decide +kernel
theorem dX10_isKin_7 : decode cX10_isKin 7 = .ok (.if_icmp .eq 23, 3) := by decide +kernel
theorem dX10_isKin_10 : decode cX10_isKin 10 = .ok (.aload_n 0, 1) := by decide +kernel
theorem dX10_isKin_11 : decode cX10_isKin 11 = .ok (.iload_n 2, 1) := by decide +kernel
theorem dX10_isKin_12 : decode cX10_isKin 12 = .ok (.iconst 2, 1) := by decide +kernel
theorem dX10_isKin_13 : decode cX10_isKin 13 = .ok (.invokevirtual 55, 3) := by decide +kernel
theorem dX10_isKin_16 : decode cX10_isKin 16 = .ok (.iload_n 1, 1) := by decide +kernel
theorem dX10_isKin_17 : decode cX10_isKin 17 = .ok (.if_icmp .eq 13, 3) := by decide +kernel
theorem dX10_isKin_20 : decode cX10_isKin 20 = .ok (.aload_n 0, 1) := by decide +kernel
theorem dX10_isKin_21 : decode cX10_isKin 21 = .ok (.iload_n 1, 1) := by decide +kernel
theorem dX10_isKin_22 : decode cX10_isKin 22 = .ok (.iconst 3, 1) := by decide +kernel
theorem dX10_isKin_23 : decode cX10_isKin 23 = .ok (.invokevirtual 55, 3) := by decide +kernel
theorem dX10_isKin_26 : decode cX10_isKin 26 = .ok (.iload_n 2, 1) := by decide +kernel
theorem dX10_isKin_27 : decode cX10_isKin 27 = .ok (.if_icmp .ne 7, 3) := by decide +kernel
theorem dX10_isKin_30 : decode cX10_isKin 30 = .ok (.iconst 1, 1) := by decide +kernel
theorem dX10_isKin_31 : decode cX10_isKin 31 = .ok (.goto 4, 3) := by decide +kernel
theorem dX10_isKin_34 : decode cX10_isKin 34 = .ok (.iconst 0, 1) := by decide +kernel
theorem dX10_isKin_35 : decode cX10_isKin 35 = .ok (.ireturn, 1) := by decide +kernel
theorem dX10_besides_0 : decode cX10_besides 0 = .ok (.iconst 0, 1) := by decide +kernel
theorem dX10_besides_1 : decode cX10_besides 1 = .ok (.istore_n 2, 1) := by decide +kernel
theorem dX10_besides_2 : decode cX10_besides 2 = .ok (.iconst 0, 1) := by decide +kernel
theorem dX10_besides_3 : decode cX10_besides 3 = .ok (.istore_n 3, 1) := by decide +kernel
theorem dX10_besides_4 : decode cX10_besides 4 = .ok (.iload_n 3, 1) := by decide +kernel
theorem dX10_besides_5 : decode cX10_besides 5 = .ok (.aload_n 0, 1) := by decide +kernel
theorem dX10_besides_6 : decode cX10_besides 6 = .ok (.getfield 9, 3) := by decide +kernel
theorem dX10_besides_9 : decode cX10_besides 9 = .ok (.iconst 2, 1) := by decide +kernel
theorem dX10_besides_10 : decode cX10_besides 10 = .ok (.iaload, 1) := by decide +kernel
theorem dX10_besides_11 : decode cX10_besides 11 = .ok (.if_icmp .ge 65, 3) := by decide +kernel
theorem dX10_besides_14 : decode cX10_besides 14 = .ok (.iconst 0, 1) := by decide +kernel
theorem dX10_besides_15 : decode cX10_besides 15 = .ok (.istore 4, 2) := by decide +kernel
theorem dX10_besides_17 : decode cX10_besides 17 = .ok (.iload 4, 2) := by decide +kernel
theorem dX10_besides_19 : decode cX10_besides 19 = .ok (.aload_n 0, 1) := by decide +kernel
theorem dX10_besides_20 : decode cX10_besides 20 = .ok (.getfield 9, 3) := by decide +kernel
theorem dX10_besides_23 : decode cX10_besides 23 = .ok (.iconst 2, 1) := by decide +kernel
theorem dX10_besides_24 : decode cX10_besides 24 = .ok (.iaload, 1) := by decide +kernel
theorem dX10_besides_25 : decode cX10_besides 25 = .ok (.if_icmp .ge 45, 3) := by decide +kernel
theorem dX10_besides_28 : decode cX10_besides 28 = .ok (.iload_n 2, 1) := by decide +kernel
theorem dX10_besides_29 : decode cX10_besides 29 = .ok (.iload_n 1, 1) := by decide +kernel
theorem dX10_besides_30 : decode cX10_besides 30 = .ok (.iload_n 3, 1) := by decide +kernel
theorem dX10_besides_31 : decode cX10_besides 31 = .ok (.ishr, 1) := by decide +kernel
theorem dX10_besides_32 : decode cX10_besides 32 = .ok (.iconst 1, 1) := by decide +kernel
theorem dX10_besides_33 : decode cX10_besides 33 = .ok (.iand, 1) := by decide +kernel
theorem dX10_besides_34 : decode cX10_besides 34 = .ok (.iconst 1, 1) := by decide +kernel
theorem dX10_besides_35 : decode cX10_besides 35 = .ok (.if_icmp .ne 26, 3) := by decide +kernel
theorem dX10_besides_38 : decode cX10_besides 38 = .ok (.iload_n 3, 1) := by decide +kernel
theorem dX10_besides_39 : decode cX10_besides 39 = .ok (.iload 4, 2) := by decide +kernel
theorem dX10_besides_41 : decode cX10_besides 41 = .ok (.if_icmp .eq 20, 3) := by decide +kernel
theorem dX10_besides_44 : decode cX10_besides 44 = .ok (.aload_n 0, 1) := by decide +kernel
theorem dX10_besides_45 : decode cX10_besides 45 = .ok (.iload_n 3, 1) := by decide +kernel
theorem dX10_besides_46 : decode cX10_besides 46 = .ok (.iload 4, 2) := by decide +kernel
theorem dX10_besides_48 : decode cX10_besides 48 = .ok (.invokevirtual 59, 3) := by decide +kernel
theorem dX10_besides_51 : decode cX10_besides 51 = .ok (.ifCond .eq 10, 3) := by decide +kernel
theorem dX10_besides_54 : decode cX10_besides 54 = .ok (.iconst 1, 1) := by decide +kernel
theorem dX10_besides_55 : decode cX10_besides 55 = .ok (.iload 4, 2) := by decide +kernel
theorem dX10_besides_57 : decode cX10_besides 57 = .ok (.ishl, 1) := by decide +kernel
theorem dX10_besides_58 : decode cX10_besides 58 = .ok (.goto 4, 3) := by decide +kernel
theorem dX10_besides_61 : decode cX10_besides 61 = .ok (.iconst 0, 1) := by decide +kernel
theorem dX10_besides_62 : decode cX10_besides 62 = .ok (.ior, 1) := by decide +kernel
theorem dX10_besides_63 : decode cX10_besides 63 = .ok (.istore_n 2, 1) := by decide +kernel
theorem dX10_besides_64 : decode cX10_besides 64 = .ok (.iinc 4 1, 3) := by decide +kernel
theorem dX10_besides_67 : decode cX10_besides 67 = .ok (.goto (-50), 3) := by decide +kernel
theorem dX10_besides_70 : decode cX10_besides 70 = .ok (.iinc 3 1, 3) := by decide +kernel
theorem dX10_besides_73 : decode cX10_besides 73 = .ok (.goto (-69), 3) := by decide +kernel
theorem dX10_besides_76 : decode cX10_besides 76 = .ok (.iload_n 2, 1) := by decide +kernel
theorem dX10_besides_77 : decode cX10_besides 77 = .ok (.ireturn, 1) := by decide +kernel
theorem dX10_stepsBy_0 : decode cX10_stepsBy 0 = .ok (.iconst 1, 1) := by decide +kernel
theorem dX10_stepsBy_1 : decode cX10_stepsBy 1 = .ok (.iload_n 1, 1) := by decide +kernel
theorem dX10_stepsBy_2 : decode cX10_stepsBy 2 = .ok (.ishl, 1) := by decide +kernel
theorem dX10_stepsBy_3 : decode cX10_stepsBy 3 = .ok (.istore_n 3, 1) := by decide +kernel
theorem dX10_stepsBy_4 : decode cX10_stepsBy 4 = .ok (.iconst 0, 1) := by decide +kernel
theorem dX10_stepsBy_5 : decode cX10_stepsBy 5 = .ok (.istore 4, 2) := by decide +kernel
theorem dX10_stepsBy_7 : decode cX10_stepsBy 7 = .ok (.iload_n 3, 1) := by decide +kernel
theorem dX10_stepsBy_8 : decode cX10_stepsBy 8 = .ok (.iload_n 2, 1) := by decide +kernel
theorem dX10_stepsBy_9 : decode cX10_stepsBy 9 = .ok (.ishr, 1) := by decide +kernel
theorem dX10_stepsBy_10 : decode cX10_stepsBy 10 = .ok (.iconst 1, 1) := by decide +kernel
theorem dX10_stepsBy_11 : decode cX10_stepsBy 11 = .ok (.iand, 1) := by decide +kernel
theorem dX10_stepsBy_12 : decode cX10_stepsBy 12 = .ok (.ifCond .ne 30, 3) := by decide +kernel
theorem dX10_stepsBy_15 : decode cX10_stepsBy 15 = .ok (.iload_n 3, 1) := by decide +kernel
theorem dX10_stepsBy_16 : decode cX10_stepsBy 16 = .ok (.aload_n 0, 1) := by decide +kernel
theorem dX10_stepsBy_17 : decode cX10_stepsBy 17 = .ok (.iload_n 3, 1) := by decide +kernel
theorem dX10_stepsBy_18 : decode cX10_stepsBy 18 = .ok (.invokevirtual 63, 3) := by decide +kernel
theorem dX10_stepsBy_21 : decode cX10_stepsBy 21 = .ok (.ior, 1) := by decide +kernel
theorem dX10_stepsBy_22 : decode cX10_stepsBy 22 = .ok (.istore 5, 2) := by decide +kernel
theorem dX10_stepsBy_24 : decode cX10_stepsBy 24 = .ok (.iload 5, 2) := by decide +kernel
theorem dX10_stepsBy_26 : decode cX10_stepsBy 26 = .ok (.iload_n 3, 1) := by decide +kernel
theorem dX10_stepsBy_27 : decode cX10_stepsBy 27 = .ok (.if_icmp .ne 6, 3) := by decide +kernel
theorem dX10_stepsBy_30 : decode cX10_stepsBy 30 = .ok (.bipush 40, 2) := by decide +kernel
theorem dX10_stepsBy_32 : decode cX10_stepsBy 32 = .ok (.ireturn, 1) := by decide +kernel
theorem dX10_stepsBy_33 : decode cX10_stepsBy 33 = .ok (.iload 5, 2) := by decide +kernel
theorem dX10_stepsBy_35 : decode cX10_stepsBy 35 = .ok (.istore_n 3, 1) := by decide +kernel
theorem dX10_stepsBy_36 : decode cX10_stepsBy 36 = .ok (.iinc 4 1, 3) := by decide +kernel
theorem dX10_stepsBy_39 : decode cX10_stepsBy 39 = .ok (.goto (-32), 3) := by decide +kernel
theorem dX10_stepsBy_42 : decode cX10_stepsBy 42 = .ok (.iload 4, 2) := by decide +kernel
theorem dX10_stepsBy_44 : decode cX10_stepsBy 44 = .ok (.ireturn, 1) := by decide +kernel
theorem dX10_relatives_0 : decode cX10_relatives 0 = .ok (.aload_n 0, 1) := by decide +kernel
theorem dX10_relatives_1 : decode cX10_relatives 1 = .ok (.iconst 1, 1) := by decide +kernel
theorem dX10_relatives_2 : decode cX10_relatives 2 = .ok (.iload_n 1, 1) := by decide +kernel
theorem dX10_relatives_3 : decode cX10_relatives 3 = .ok (.ishl, 1) := by decide +kernel
theorem dX10_relatives_4 : decode cX10_relatives 4 = .ok (.invokevirtual 63, 3) := by decide +kernel
theorem dX10_relatives_7 : decode cX10_relatives 7 = .ok (.iconst 1, 1) := by decide +kernel
theorem dX10_relatives_8 : decode cX10_relatives 8 = .ok (.iload_n 1, 1) := by decide +kernel
theorem dX10_relatives_9 : decode cX10_relatives 9 = .ok (.ishl, 1) := by decide +kernel
theorem dX10_relatives_10 : decode cX10_relatives 10 = .ok (.iconst (-1), 1) := by decide +kernel
theorem dX10_relatives_11 : decode cX10_relatives 11 = .ok (.ixor, 1) := by decide +kernel
theorem dX10_relatives_12 : decode cX10_relatives 12 = .ok (.iand, 1) := by decide +kernel
theorem dX10_relatives_13 : decode cX10_relatives 13 = .ok (.invokestatic 67, 3) := by decide +kernel
theorem dX10_relatives_16 : decode cX10_relatives 16 = .ok (.ireturn, 1) := by decide +kernel
theorem dX10_letsBy_0 : decode cX10_letsBy 0 = .ok (.iload_n 2, 1) := by decide +kernel
theorem dX10_letsBy_1 : decode cX10_letsBy 1 = .ok (.iconst 2, 1) := by decide +kernel
theorem dX10_letsBy_2 : decode cX10_letsBy 2 = .ok (.irem, 1) := by decide +kernel
theorem dX10_letsBy_3 : decode cX10_letsBy 3 = .ok (.ifCond .ne 7, 3) := by decide +kernel
theorem dX10_letsBy_6 : decode cX10_letsBy 6 = .ok (.iload_n 2, 1) := by decide +kernel
theorem dX10_letsBy_7 : decode cX10_letsBy 7 = .ok (.goto 6, 3) := by decide +kernel
theorem dX10_letsBy_10 : decode cX10_letsBy 10 = .ok (.iload_n 2, 1) := by decide +kernel
theorem dX10_letsBy_11 : decode cX10_letsBy 11 = .ok (.iconst 3, 1) := by decide +kernel
theorem dX10_letsBy_12 : decode cX10_letsBy 12 = .ok (.idiv, 1) := by decide +kernel
theorem dX10_letsBy_13 : decode cX10_letsBy 13 = .ok (.istore_n 3, 1) := by decide +kernel
theorem dX10_letsBy_14 : decode cX10_letsBy 14 = .ok (.aload_n 0, 1) := by decide +kernel
theorem dX10_letsBy_15 : decode cX10_letsBy 15 = .ok (.iload_n 1, 1) := by decide +kernel
theorem dX10_letsBy_16 : decode cX10_letsBy 16 = .ok (.iconst 0, 1) := by decide +kernel
theorem dX10_letsBy_17 : decode cX10_letsBy 17 = .ok (.invokevirtual 55, 3) := by decide +kernel
theorem dX10_letsBy_20 : decode cX10_letsBy 20 = .ok (.tableswitch 86 1 6 #[40, 44, 46, 50, 61, 72], 40) := by decide +kernel
theorem dX10_letsBy_60 : decode cX10_letsBy 60 = .ok (.iload_n 2, 1) := by decide +kernel
theorem dX10_letsBy_61 : decode cX10_letsBy 61 = .ok (.iconst 2, 1) := by decide +kernel
theorem dX10_letsBy_62 : decode cX10_letsBy 62 = .ok (.idiv, 1) := by decide +kernel
theorem dX10_letsBy_63 : decode cX10_letsBy 63 = .ok (.ireturn, 1) := by decide +kernel
theorem dX10_letsBy_64 : decode cX10_letsBy 64 = .ok (.iload_n 3, 1) := by decide +kernel
theorem dX10_letsBy_65 : decode cX10_letsBy 65 = .ok (.ireturn, 1) := by decide +kernel
theorem dX10_letsBy_66 : decode cX10_letsBy 66 = .ok (.iconst 2, 1) := by decide +kernel
theorem dX10_letsBy_67 : decode cX10_letsBy 67 = .ok (.iload_n 2, 1) := by decide +kernel
theorem dX10_letsBy_68 : decode cX10_letsBy 68 = .ok (.imul, 1) := by decide +kernel
theorem dX10_letsBy_69 : decode cX10_letsBy 69 = .ok (.ireturn, 1) := by decide +kernel
theorem dX10_letsBy_70 : decode cX10_letsBy 70 = .ok (.iload_n 2, 1) := by decide +kernel
theorem dX10_letsBy_71 : decode cX10_letsBy 71 = .ok (.iconst 2, 1) := by decide +kernel
theorem dX10_letsBy_72 : decode cX10_letsBy 72 = .ok (.idiv, 1) := by decide +kernel
theorem dX10_letsBy_73 : decode cX10_letsBy 73 = .ok (.aload_n 0, 1) := by decide +kernel
theorem dX10_letsBy_74 : decode cX10_letsBy 74 = .ok (.iload_n 1, 1) := by decide +kernel
theorem dX10_letsBy_75 : decode cX10_letsBy 75 = .ok (.iconst 1, 1) := by decide +kernel
theorem dX10_letsBy_76 : decode cX10_letsBy 76 = .ok (.invokevirtual 55, 3) := by decide +kernel
theorem dX10_letsBy_79 : decode cX10_letsBy 79 = .ok (.iadd, 1) := by decide +kernel
theorem dX10_letsBy_80 : decode cX10_letsBy 80 = .ok (.ireturn, 1) := by decide +kernel
theorem dX10_letsBy_81 : decode cX10_letsBy 81 = .ok (.iload_n 3, 1) := by decide +kernel
theorem dX10_letsBy_82 : decode cX10_letsBy 82 = .ok (.iconst 4, 1) := by decide +kernel
theorem dX10_letsBy_83 : decode cX10_letsBy 83 = .ok (.if_icmp .le 7, 3) := by decide +kernel
theorem dX10_letsBy_86 : decode cX10_letsBy 86 = .ok (.iconst 4, 1) := by decide +kernel
theorem dX10_letsBy_87 : decode cX10_letsBy 87 = .ok (.goto 4, 3) := by decide +kernel
theorem dX10_letsBy_90 : decode cX10_letsBy 90 = .ok (.iload_n 3, 1) := by decide +kernel
theorem dX10_letsBy_91 : decode cX10_letsBy 91 = .ok (.ireturn, 1) := by decide +kernel
theorem dX10_letsBy_92 : decode cX10_letsBy 92 = .ok (.iload_n 2, 1) := by decide +kernel
theorem dX10_letsBy_93 : decode cX10_letsBy 93 = .ok (.iconst 2, 1) := by decide +kernel
theorem dX10_letsBy_94 : decode cX10_letsBy 94 = .ok (.if_icmp .le 8, 3) := by decide +kernel
theorem dX10_letsBy_97 : decode cX10_letsBy 97 = .ok (.bipush 40, 2) := by decide +kernel
theorem dX10_letsBy_99 : decode cX10_letsBy 99 = .ok (.goto 6, 3) := by decide +kernel
theorem dX10_letsBy_102 : decode cX10_letsBy 102 = .ok (.iload_n 2, 1) := by decide +kernel
theorem dX10_letsBy_103 : decode cX10_letsBy 103 = .ok (.iconst 1, 1) := by decide +kernel
theorem dX10_letsBy_104 : decode cX10_letsBy 104 = .ok (.iadd, 1) := by decide +kernel
theorem dX10_letsBy_105 : decode cX10_letsBy 105 = .ok (.ireturn, 1) := by decide +kernel
theorem dX10_letsBy_106 : decode cX10_letsBy 106 = .ok (.iload_n 2, 1) := by decide +kernel
theorem dX10_letsBy_107 : decode cX10_letsBy 107 = .ok (.ireturn, 1) := by decide +kernel
theorem dX10_eyes_0 : decode cX10_eyes 0 = .ok (.aload_n 0, 1) := by decide +kernel
theorem dX10_eyes_1 : decode cX10_eyes 1 = .ok (.iload_n 1, 1) := by decide +kernel
theorem dX10_eyes_2 : decode cX10_eyes 2 = .ok (.iconst 0, 1) := by decide +kernel
theorem dX10_eyes_3 : decode cX10_eyes 3 = .ok (.invokevirtual 55, 3) := by decide +kernel
theorem dX10_eyes_6 : decode cX10_eyes 6 = .ok (.tableswitch 96 1 6 #[38, 46, 48, 50, 65, 89], 38) := by decide +kernel
theorem dX10_eyes_44 : decode cX10_eyes 44 = .ok (.iconst 2, 1) := by decide +kernel
theorem dX10_eyes_45 : decode cX10_eyes 45 = .ok (.aload_n 0, 1) := by decide +kernel
theorem dX10_eyes_46 : decode cX10_eyes 46 = .ok (.iload_n 1, 1) := by decide +kernel
theorem dX10_eyes_47 : decode cX10_eyes 47 = .ok (.invokevirtual 70, 3) := by decide +kernel
theorem dX10_eyes_50 : decode cX10_eyes 50 = .ok (.iadd, 1) := by decide +kernel
theorem dX10_eyes_51 : decode cX10_eyes 51 = .ok (.ireturn, 1) := by decide +kernel
theorem dX10_eyes_52 : decode cX10_eyes 52 = .ok (.iconst 5, 1) := by decide +kernel
theorem dX10_eyes_53 : decode cX10_eyes 53 = .ok (.ireturn, 1) := by decide +kernel
theorem dX10_eyes_54 : decode cX10_eyes 54 = .ok (.iconst 1, 1) := by decide +kernel
theorem dX10_eyes_55 : decode cX10_eyes 55 = .ok (.ireturn, 1) := by decide +kernel
theorem dX10_eyes_56 : decode cX10_eyes 56 = .ok (.iconst 2, 1) := by decide +kernel
theorem dX10_eyes_57 : decode cX10_eyes 57 = .ok (.aload_n 0, 1) := by decide +kernel
theorem dX10_eyes_58 : decode cX10_eyes 58 = .ok (.iload_n 1, 1) := by decide +kernel
theorem dX10_eyes_59 : decode cX10_eyes 59 = .ok (.invokevirtual 70, 3) := by decide +kernel
theorem dX10_eyes_62 : decode cX10_eyes 62 = .ok (.iadd, 1) := by decide +kernel
theorem dX10_eyes_63 : decode cX10_eyes 63 = .ok (.aload_n 0, 1) := by decide +kernel
theorem dX10_eyes_64 : decode cX10_eyes 64 = .ok (.iload_n 1, 1) := by decide +kernel
theorem dX10_eyes_65 : decode cX10_eyes 65 = .ok (.iconst 1, 1) := by decide +kernel
theorem dX10_eyes_66 : decode cX10_eyes 66 = .ok (.invokevirtual 55, 3) := by decide +kernel
theorem dX10_eyes_69 : decode cX10_eyes 69 = .ok (.iadd, 1) := by decide +kernel
theorem dX10_eyes_70 : decode cX10_eyes 70 = .ok (.ireturn, 1) := by decide +kernel
theorem dX10_eyes_71 : decode cX10_eyes 71 = .ok (.aload_n 0, 1) := by decide +kernel
theorem dX10_eyes_72 : decode cX10_eyes 72 = .ok (.getfield 9, 3) := by decide +kernel
theorem dX10_eyes_75 : decode cX10_eyes 75 = .ok (.iconst 0, 1) := by decide +kernel
theorem dX10_eyes_76 : decode cX10_eyes 76 = .ok (.iaload, 1) := by decide +kernel
theorem dX10_eyes_77 : decode cX10_eyes 77 = .ok (.iconst 2, 1) := by decide +kernel
theorem dX10_eyes_78 : decode cX10_eyes 78 = .ok (.irem, 1) := by decide +kernel
theorem dX10_eyes_79 : decode cX10_eyes 79 = .ok (.ifCond .ne 14, 3) := by decide +kernel
theorem dX10_eyes_82 : decode cX10_eyes 82 = .ok (.iconst 5, 1) := by decide +kernel
theorem dX10_eyes_83 : decode cX10_eyes 83 = .ok (.aload_n 0, 1) := by decide +kernel
theorem dX10_eyes_84 : decode cX10_eyes 84 = .ok (.iload_n 1, 1) := by decide +kernel
theorem dX10_eyes_85 : decode cX10_eyes 85 = .ok (.iconst 1, 1) := by decide +kernel
theorem dX10_eyes_86 : decode cX10_eyes 86 = .ok (.invokevirtual 55, 3) := by decide +kernel
theorem dX10_eyes_89 : decode cX10_eyes 89 = .ok (.iadd, 1) := by decide +kernel
theorem dX10_eyes_90 : decode cX10_eyes 90 = .ok (.goto 4, 3) := by decide +kernel
theorem dX10_eyes_93 : decode cX10_eyes 93 = .ok (.iconst 5, 1) := by decide +kernel
theorem dX10_eyes_94 : decode cX10_eyes 94 = .ok (.ireturn, 1) := by decide +kernel
theorem dX10_eyes_95 : decode cX10_eyes 95 = .ok (.aload_n 0, 1) := by decide +kernel
theorem dX10_eyes_96 : decode cX10_eyes 96 = .ok (.iload_n 1, 1) := by decide +kernel
theorem dX10_eyes_97 : decode cX10_eyes 97 = .ok (.iconst 1, 1) := by decide +kernel
theorem dX10_eyes_98 : decode cX10_eyes 98 = .ok (.invokevirtual 55, 3) := by decide +kernel
theorem dX10_eyes_101 : decode cX10_eyes 101 = .ok (.ireturn, 1) := by decide +kernel
theorem dX10_eyes_102 : decode cX10_eyes 102 = .ok (.iconst 2, 1) := by decide +kernel
theorem dX10_eyes_103 : decode cX10_eyes 103 = .ok (.ireturn, 1) := by decide +kernel
theorem dX10_veils_0 : decode cX10_veils 0 = .ok (.aload_n 0, 1) := by decide +kernel
theorem dX10_veils_1 : decode cX10_veils 1 = .ok (.iload_n 1, 1) := by decide +kernel
theorem dX10_veils_2 : decode cX10_veils 2 = .ok (.iload_n 2, 1) := by decide +kernel
theorem dX10_veils_3 : decode cX10_veils 3 = .ok (.invokevirtual 73, 3) := by decide +kernel
theorem dX10_veils_6 : decode cX10_veils 6 = .ok (.istore_n 3, 1) := by decide +kernel
theorem dX10_veils_7 : decode cX10_veils 7 = .ok (.aload_n 0, 1) := by decide +kernel
theorem dX10_veils_8 : decode cX10_veils 8 = .ok (.iconst 0, 1) := by decide +kernel
theorem dX10_veils_9 : decode cX10_veils 9 = .ok (.aload_n 0, 1) := by decide +kernel
theorem dX10_veils_10 : decode cX10_veils 10 = .ok (.iload_n 1, 1) := by decide +kernel
theorem dX10_veils_11 : decode cX10_veils 11 = .ok (.iload_n 3, 1) := by decide +kernel
theorem dX10_veils_12 : decode cX10_veils 12 = .ok (.invokevirtual 76, 3) := by decide +kernel
theorem dX10_veils_15 : decode cX10_veils 15 = .ok (.iload_n 3, 1) := by decide +kernel
theorem dX10_veils_16 : decode cX10_veils 16 = .ok (.aload_n 0, 1) := by decide +kernel
theorem dX10_veils_17 : decode cX10_veils 17 = .ok (.getfield 9, 3) := by decide +kernel
theorem dX10_veils_20 : decode cX10_veils 20 = .ok (.iconst 0, 1) := by decide +kernel
theorem dX10_veils_21 : decode cX10_veils 21 = .ok (.iaload, 1) := by decide +kernel
theorem dX10_veils_22 : decode cX10_veils 22 = .ok (.bipush 8, 2) := by decide +kernel
theorem dX10_veils_24 : decode cX10_veils 24 = .ok (.irem, 1) := by decide +kernel
theorem dX10_veils_25 : decode cX10_veils 25 = .ok (.invokevirtual 79, 3) := by decide +kernel
theorem dX10_veils_28 : decode cX10_veils 28 = .ok (.ireturn, 1) := by decide +kernel
theorem dX10_sight_0 : decode cX10_sight 0 = .ok (.aload_n 0, 1) := by decide +kernel
theorem dX10_sight_1 : decode cX10_sight 1 = .ok (.iconst 1, 1) := by decide +kernel
theorem dX10_sight_2 : decode cX10_sight 2 = .ok (.aload_n 0, 1) := by decide +kernel
theorem dX10_sight_3 : decode cX10_sight 3 = .ok (.iload_n 1, 1) := by decide +kernel
theorem dX10_sight_4 : decode cX10_sight 4 = .ok (.invokevirtual 83, 3) := by decide +kernel
theorem dX10_sight_7 : decode cX10_sight 7 = .ok (.aload_n 0, 1) := by decide +kernel
theorem dX10_sight_8 : decode cX10_sight 8 = .ok (.getfield 9, 3) := by decide +kernel
theorem dX10_sight_11 : decode cX10_sight 11 = .ok (.iconst 0, 1) := by decide +kernel
theorem dX10_sight_12 : decode cX10_sight 12 = .ok (.iaload, 1) := by decide +kernel
theorem dX10_sight_13 : decode cX10_sight 13 = .ok (.bipush 8, 2) := by decide +kernel
theorem dX10_sight_15 : decode cX10_sight 15 = .ok (.irem, 1) := by decide +kernel
theorem dX10_sight_16 : decode cX10_sight 16 = .ok (.aload_n 0, 1) := by decide +kernel
theorem dX10_sight_17 : decode cX10_sight 17 = .ok (.getfield 9, 3) := by decide +kernel
theorem dX10_sight_20 : decode cX10_sight 20 = .ok (.iconst 3, 1) := by decide +kernel
theorem dX10_sight_21 : decode cX10_sight 21 = .ok (.iaload, 1) := by decide +kernel
theorem dX10_sight_22 : decode cX10_sight 22 = .ok (.bipush 10, 2) := by decide +kernel
theorem dX10_sight_24 : decode cX10_sight 24 = .ok (.idiv, 1) := by decide +kernel
theorem dX10_sight_25 : decode cX10_sight 25 = .ok (.invokevirtual 79, 3) := by decide +kernel
theorem dX10_sight_28 : decode cX10_sight 28 = .ok (.ireturn, 1) := by decide +kernel
theorem dX10_allSeen_0 : decode cX10_allSeen 0 = .ok (.iconst 0, 1) := by decide +kernel
theorem dX10_allSeen_1 : decode cX10_allSeen 1 = .ok (.istore_n 1, 1) := by decide +kernel
theorem dX10_allSeen_2 : decode cX10_allSeen 2 = .ok (.iconst 0, 1) := by decide +kernel
theorem dX10_allSeen_3 : decode cX10_allSeen 3 = .ok (.istore_n 2, 1) := by decide +kernel
theorem dX10_allSeen_4 : decode cX10_allSeen 4 = .ok (.iload_n 2, 1) := by decide +kernel
theorem dX10_allSeen_5 : decode cX10_allSeen 5 = .ok (.aload_n 0, 1) := by decide +kernel
theorem dX10_allSeen_6 : decode cX10_allSeen 6 = .ok (.getfield 9, 3) := by decide +kernel
theorem dX10_allSeen_9 : decode cX10_allSeen 9 = .ok (.iconst 2, 1) := by decide +kernel
theorem dX10_allSeen_10 : decode cX10_allSeen 10 = .ok (.iaload, 1) := by decide +kernel
theorem dX10_allSeen_11 : decode cX10_allSeen 11 = .ok (.if_icmp .ge 21, 3) := by decide +kernel
theorem dX10_allSeen_14 : decode cX10_allSeen 14 = .ok (.iload_n 1, 1) := by decide +kernel
theorem dX10_allSeen_15 : decode cX10_allSeen 15 = .ok (.aload_n 0, 1) := by decide +kernel
theorem dX10_allSeen_16 : decode cX10_allSeen 16 = .ok (.iload_n 2, 1) := by decide +kernel
theorem dX10_allSeen_17 : decode cX10_allSeen 17 = .ok (.iconst 4, 1) := by decide +kernel
theorem dX10_allSeen_18 : decode cX10_allSeen 18 = .ok (.invokevirtual 55, 3) := by decide +kernel
theorem dX10_allSeen_21 : decode cX10_allSeen 21 = .ok (.invokestatic 67, 3) := by decide +kernel
theorem dX10_allSeen_24 : decode cX10_allSeen 24 = .ok (.iadd, 1) := by decide +kernel
theorem dX10_allSeen_25 : decode cX10_allSeen 25 = .ok (.istore_n 1, 1) := by decide +kernel
theorem dX10_allSeen_26 : decode cX10_allSeen 26 = .ok (.iinc 2 1, 3) := by decide +kernel
theorem dX10_allSeen_29 : decode cX10_allSeen 29 = .ok (.goto (-25), 3) := by decide +kernel
theorem dX10_allSeen_32 : decode cX10_allSeen 32 = .ok (.iload_n 1, 1) := by decide +kernel
theorem dX10_allSeen_33 : decode cX10_allSeen 33 = .ok (.ireturn, 1) := by decide +kernel
theorem dX10_seersOf_0 : decode cX10_seersOf 0 = .ok (.iconst 0, 1) := by decide +kernel
theorem dX10_seersOf_1 : decode cX10_seersOf 1 = .ok (.istore_n 2, 1) := by decide +kernel
theorem dX10_seersOf_2 : decode cX10_seersOf 2 = .ok (.iconst 0, 1) := by decide +kernel
theorem dX10_seersOf_3 : decode cX10_seersOf 3 = .ok (.istore_n 3, 1) := by decide +kernel
theorem dX10_seersOf_4 : decode cX10_seersOf 4 = .ok (.iload_n 3, 1) := by decide +kernel
theorem dX10_seersOf_5 : decode cX10_seersOf 5 = .ok (.aload_n 0, 1) := by decide +kernel
theorem dX10_seersOf_6 : decode cX10_seersOf 6 = .ok (.getfield 9, 3) := by decide +kernel
theorem dX10_seersOf_9 : decode cX10_seersOf 9 = .ok (.iconst 2, 1) := by decide +kernel
theorem dX10_seersOf_10 : decode cX10_seersOf 10 = .ok (.iaload, 1) := by decide +kernel
theorem dX10_seersOf_11 : decode cX10_seersOf 11 = .ok (.if_icmp .ge 33, 3) := by decide +kernel
theorem dX10_seersOf_14 : decode cX10_seersOf 14 = .ok (.iload_n 2, 1) := by decide +kernel
theorem dX10_seersOf_15 : decode cX10_seersOf 15 = .ok (.aload_n 0, 1) := by decide +kernel
theorem dX10_seersOf_16 : decode cX10_seersOf 16 = .ok (.iload_n 3, 1) := by decide +kernel
theorem dX10_seersOf_17 : decode cX10_seersOf 17 = .ok (.iconst 4, 1) := by decide +kernel
theorem dX10_seersOf_18 : decode cX10_seersOf 18 = .ok (.invokevirtual 55, 3) := by decide +kernel
theorem dX10_seersOf_21 : decode cX10_seersOf 21 = .ok (.iload_n 1, 1) := by decide +kernel
theorem dX10_seersOf_22 : decode cX10_seersOf 22 = .ok (.ishr, 1) := by decide +kernel
theorem dX10_seersOf_23 : decode cX10_seersOf 23 = .ok (.iconst 1, 1) := by decide +kernel
theorem dX10_seersOf_24 : decode cX10_seersOf 24 = .ok (.iand, 1) := by decide +kernel
theorem dX10_seersOf_25 : decode cX10_seersOf 25 = .ok (.iconst 1, 1) := by decide +kernel
theorem dX10_seersOf_26 : decode cX10_seersOf 26 = .ok (.if_icmp .ne 9, 3) := by decide +kernel
theorem dX10_seersOf_29 : decode cX10_seersOf 29 = .ok (.iconst 1, 1) := by decide +kernel
theorem dX10_seersOf_30 : decode cX10_seersOf 30 = .ok (.iload_n 3, 1) := by decide +kernel
theorem dX10_seersOf_31 : decode cX10_seersOf 31 = .ok (.ishl, 1) := by decide +kernel
theorem dX10_seersOf_32 : decode cX10_seersOf 32 = .ok (.goto 4, 3) := by decide +kernel
theorem dX10_seersOf_35 : decode cX10_seersOf 35 = .ok (.iconst 0, 1) := by decide +kernel
