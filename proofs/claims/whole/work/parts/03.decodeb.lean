theorem dX10_seersOf_36 : decode cX10_seersOf 36 = .ok (.ior, 1) := by decide +kernel
theorem dX10_seersOf_37 : decode cX10_seersOf 37 = .ok (.istore_n 2, 1) := by decide +kernel
theorem dX10_seersOf_38 : decode cX10_seersOf 38 = .ok (.iinc 3 1, 3) := by decide +kernel
theorem dX10_seersOf_41 : decode cX10_seersOf 41 = .ok (.goto (-37), 3) := by decide +kernel
theorem dX10_seersOf_44 : decode cX10_seersOf 44 = .ok (.iload_n 2, 1) := by decide +kernel
theorem dX10_seersOf_45 : decode cX10_seersOf 45 = .ok (.ireturn, 1) := by decide +kernel
theorem dX10_isKm_0 : decode cX10_isKm 0 = .ok (.iload_n 0, 1) := by decide +kernel
theorem dX10_isKm_1 : decode cX10_isKm 1 = .ok (.iconst 0, 1) := by decide +kernel
theorem dX10_isKm_2 : decode cX10_isKm 2 = .ok (.bipush 69, 2) := by decide +kernel
theorem dX10_isKm_4 : decode cX10_isKm 4 = .ok (.invokestatic 51, 3) := by decide +kernel
theorem dX10_isKm_7 : decode cX10_isKm 7 = .ok (.ireturn, 1) := by decide +kernel
theorem dX10_person_0 : decode cX10_person 0 = .ok (.iload_n 1, 1) := by decide +kernel
theorem dX10_person_1 : decode cX10_person 1 = .ok (.invokestatic 86, 3) := by decide +kernel
theorem dX10_person_4 : decode cX10_person 4 = .ok (.ifCond .eq 19, 3) := by decide +kernel
theorem dX10_person_7 : decode cX10_person 7 = .ok (.iload_n 2, 1) := by decide +kernel
theorem dX10_person_8 : decode cX10_person 8 = .ok (.iconst (-1), 1) := by decide +kernel
theorem dX10_person_9 : decode cX10_person 9 = .ok (.aload_n 0, 1) := by decide +kernel
theorem dX10_person_10 : decode cX10_person 10 = .ok (.getfield 9, 3) := by decide +kernel
theorem dX10_person_13 : decode cX10_person 13 = .ok (.iconst 2, 1) := by decide +kernel
theorem dX10_person_14 : decode cX10_person 14 = .ok (.iaload, 1) := by decide +kernel
theorem dX10_person_15 : decode cX10_person 15 = .ok (.iconst 1, 1) := by decide +kernel
theorem dX10_person_16 : decode cX10_person 16 = .ok (.isub, 1) := by decide +kernel
theorem dX10_person_17 : decode cX10_person 17 = .ok (.invokestatic 51, 3) := by decide +kernel
theorem dX10_person_20 : decode cX10_person 20 = .ok (.ifCond .ne 10, 3) := by decide +kernel
theorem dX10_person_23 : decode cX10_person 23 = .ok (.aload_n 0, 1) := by decide +kernel
theorem dX10_person_24 : decode cX10_person 24 = .ok (.ldc 90, 2) := by decide +kernel
theorem dX10_person_26 : decode cX10_person 26 = .ok (.invokevirtual 91, 3) := by decide +kernel
theorem dX10_person_29 : decode cX10_person 29 = .ok (.ireturn, 1) := by decide +kernel
theorem dX10_person_30 : decode cX10_person 30 = .ok (.aload_n 0, 1) := by decide +kernel
theorem dX10_person_31 : decode cX10_person 31 = .ok (.getfield 9, 3) := by decide +kernel
theorem dX10_person_34 : decode cX10_person 34 = .ok (.iconst 2, 1) := by decide +kernel
theorem dX10_person_35 : decode cX10_person 35 = .ok (.iaload, 1) := by decide +kernel
theorem dX10_person_36 : decode cX10_person 36 = .ok (.istore_n 3, 1) := by decide +kernel
theorem dX10_person_37 : decode cX10_person 37 = .ok (.iload_n 3, 1) := by decide +kernel
theorem dX10_person_38 : decode cX10_person 38 = .ok (.bipush 8, 2) := by decide +kernel
theorem dX10_person_40 : decode cX10_person 40 = .ok (.if_icmp .ne 10, 3) := by decide +kernel
theorem dX10_person_43 : decode cX10_person 43 = .ok (.aload_n 0, 1) := by decide +kernel
theorem dX10_person_44 : decode cX10_person 44 = .ok (.ldc 94, 2) := by decide +kernel
theorem dX10_person_46 : decode cX10_person 46 = .ok (.invokevirtual 91, 3) := by decide +kernel
theorem dX10_person_49 : decode cX10_person 49 = .ok (.ireturn, 1) := by decide +kernel
theorem dX10_person_50 : decode cX10_person 50 = .ok (.aload_n 0, 1) := by decide +kernel
theorem dX10_person_51 : decode cX10_person 51 = .ok (.getfield 9, 3) := by decide +kernel
theorem dX10_person_54 : decode cX10_person 54 = .ok (.iconst 2, 1) := by decide +kernel
theorem dX10_person_55 : decode cX10_person 55 = .ok (.dup2, 1) := by decide +kernel
theorem dX10_person_56 : decode cX10_person 56 = .ok (.iaload, 1) := by decide +kernel
theorem dX10_person_57 : decode cX10_person 57 = .ok (.iconst 1, 1) := by decide +kernel
theorem dX10_person_58 : decode cX10_person 58 = .ok (.iadd, 1) := by decide +kernel
theorem dX10_person_59 : decode cX10_person 59 = .ok (.iastore, 1) := by decide +kernel
theorem dX10_person_60 : decode cX10_person 60 = .ok (.aload_n 0, 1) := by decide +kernel
theorem dX10_person_61 : decode cX10_person 61 = .ok (.iload_n 3, 1) := by decide +kernel
theorem dX10_person_62 : decode cX10_person 62 = .ok (.iconst 0, 1) := by decide +kernel
theorem dX10_person_63 : decode cX10_person 63 = .ok (.iload_n 1, 1) := by decide +kernel
theorem dX10_person_64 : decode cX10_person 64 = .ok (.bipush 10, 2) := by decide +kernel
theorem dX10_person_66 : decode cX10_person 66 = .ok (.idiv, 1) := by decide +kernel
theorem dX10_person_67 : decode cX10_person 67 = .ok (.invokevirtual 95, 3) := by decide +kernel
theorem dX10_person_70 : decode cX10_person 70 = .ok (.aload_n 0, 1) := by decide +kernel
theorem dX10_person_71 : decode cX10_person 71 = .ok (.iload_n 3, 1) := by decide +kernel
theorem dX10_person_72 : decode cX10_person 72 = .ok (.iconst 1, 1) := by decide +kernel
theorem dX10_person_73 : decode cX10_person 73 = .ok (.iload_n 1, 1) := by decide +kernel
theorem dX10_person_74 : decode cX10_person 74 = .ok (.bipush 10, 2) := by decide +kernel
theorem dX10_person_76 : decode cX10_person 76 = .ok (.irem, 1) := by decide +kernel
theorem dX10_person_77 : decode cX10_person 77 = .ok (.invokevirtual 95, 3) := by decide +kernel
theorem dX10_person_80 : decode cX10_person 80 = .ok (.aload_n 0, 1) := by decide +kernel
theorem dX10_person_81 : decode cX10_person 81 = .ok (.iload_n 3, 1) := by decide +kernel
theorem dX10_person_82 : decode cX10_person 82 = .ok (.iconst 2, 1) := by decide +kernel
theorem dX10_person_83 : decode cX10_person 83 = .ok (.iload_n 2, 1) := by decide +kernel
theorem dX10_person_84 : decode cX10_person 84 = .ok (.invokevirtual 95, 3) := by decide +kernel
theorem dX10_person_87 : decode cX10_person 87 = .ok (.aload_n 0, 1) := by decide +kernel
theorem dX10_person_88 : decode cX10_person 88 = .ok (.iload_n 3, 1) := by decide +kernel
theorem dX10_person_89 : decode cX10_person 89 = .ok (.iconst 3, 1) := by decide +kernel
theorem dX10_person_90 : decode cX10_person 90 = .ok (.iconst (-1), 1) := by decide +kernel
theorem dX10_person_91 : decode cX10_person 91 = .ok (.invokevirtual 95, 3) := by decide +kernel
theorem dX10_person_94 : decode cX10_person 94 = .ok (.aload_n 0, 1) := by decide +kernel
theorem dX10_person_95 : decode cX10_person 95 = .ok (.iload_n 3, 1) := by decide +kernel
theorem dX10_person_96 : decode cX10_person 96 = .ok (.iconst 4, 1) := by decide +kernel
theorem dX10_person_97 : decode cX10_person 97 = .ok (.iconst 0, 1) := by decide +kernel
theorem dX10_person_98 : decode cX10_person 98 = .ok (.invokevirtual 95, 3) := by decide +kernel
theorem dX10_person_101 : decode cX10_person 101 = .ok (.iload_n 3, 1) := by decide +kernel
theorem dX10_person_102 : decode cX10_person 102 = .ok (.ireturn, 1) := by decide +kernel
theorem dX10_personIs_0 : decode cX10_personIs 0 = .ok (.aload_n 0, 1) := by decide +kernel
theorem dX10_personIs_1 : decode cX10_personIs 1 = .ok (.iload_n 1, 1) := by decide +kernel
theorem dX10_personIs_2 : decode cX10_personIs 2 = .ok (.invokevirtual 99, 3) := by decide +kernel
theorem dX10_personIs_5 : decode cX10_personIs 5 = .ok (.ifCond .eq 12, 3) := by decide +kernel
theorem dX10_personIs_8 : decode cX10_personIs 8 = .ok (.iload_n 2, 1) := by decide +kernel
theorem dX10_personIs_9 : decode cX10_personIs 9 = .ok (.iconst 0, 1) := by decide +kernel
theorem dX10_personIs_10 : decode cX10_personIs 10 = .ok (.iconst 5, 1) := by decide +kernel
theorem dX10_personIs_11 : decode cX10_personIs 11 = .ok (.invokestatic 51, 3) := by decide +kernel
theorem dX10_personIs_14 : decode cX10_personIs 14 = .ok (.ifCond .ne 10, 3) := by decide +kernel
theorem dX10_personIs_17 : decode cX10_personIs 17 = .ok (.aload_n 0, 1) := by decide +kernel
theorem dX10_personIs_18 : decode cX10_personIs 18 = .ok (.ldc 90, 2) := by decide +kernel
theorem dX10_personIs_20 : decode cX10_personIs 20 = .ok (.invokevirtual 91, 3) := by decide +kernel
theorem dX10_personIs_23 : decode cX10_personIs 23 = .ok (.ireturn, 1) := by decide +kernel
theorem dX10_personIs_24 : decode cX10_personIs 24 = .ok (.iload_n 2, 1) := by decide +kernel
theorem dX10_personIs_25 : decode cX10_personIs 25 = .ok (.iconst 5, 1) := by decide +kernel
theorem dX10_personIs_26 : decode cX10_personIs 26 = .ok (.if_icmp .ge 12, 3) := by decide +kernel
theorem dX10_personIs_29 : decode cX10_personIs 29 = .ok (.aload_n 0, 1) := by decide +kernel
theorem dX10_personIs_30 : decode cX10_personIs 30 = .ok (.iload_n 1, 1) := by decide +kernel
theorem dX10_personIs_31 : decode cX10_personIs 31 = .ok (.iload_n 2, 1) := by decide +kernel
theorem dX10_personIs_32 : decode cX10_personIs 32 = .ok (.invokevirtual 55, 3) := by decide +kernel
theorem dX10_personIs_35 : decode cX10_personIs 35 = .ok (.goto 8, 3) := by decide +kernel
theorem dX10_personIs_38 : decode cX10_personIs 38 = .ok (.aload_n 0, 1) := by decide +kernel
theorem dX10_personIs_39 : decode cX10_personIs 39 = .ok (.iload_n 1, 1) := by decide +kernel
theorem dX10_personIs_40 : decode cX10_personIs 40 = .ok (.invokevirtual 102, 3) := by decide +kernel
theorem dX10_personIs_43 : decode cX10_personIs 43 = .ok (.ireturn, 1) := by decide +kernel
theorem dX10_become_0 : decode cX10_become 0 = .ok (.aload_n 0, 1) := by decide +kernel
theorem dX10_become_1 : decode cX10_become 1 = .ok (.iload_n 1, 1) := by decide +kernel
theorem dX10_become_2 : decode cX10_become 2 = .ok (.invokevirtual 99, 3) := by decide +kernel
theorem dX10_become_5 : decode cX10_become 5 = .ok (.ifCond .eq 10, 3) := by decide +kernel
theorem dX10_become_8 : decode cX10_become 8 = .ok (.iload_n 2, 1) := by decide +kernel
theorem dX10_become_9 : decode cX10_become 9 = .ok (.invokestatic 86, 3) := by decide +kernel
theorem dX10_become_12 : decode cX10_become 12 = .ok (.ifCond .ne 10, 3) := by decide +kernel
theorem dX10_become_15 : decode cX10_become 15 = .ok (.aload_n 0, 1) := by decide +kernel
theorem dX10_become_16 : decode cX10_become 16 = .ok (.ldc 90, 2) := by decide +kernel
theorem dX10_become_18 : decode cX10_become 18 = .ok (.invokevirtual 91, 3) := by decide +kernel
theorem dX10_become_21 : decode cX10_become 21 = .ok (.ireturn, 1) := by decide +kernel
theorem dX10_become_22 : decode cX10_become 22 = .ok (.aload_n 0, 1) := by decide +kernel
theorem dX10_become_23 : decode cX10_become 23 = .ok (.iload_n 1, 1) := by decide +kernel
theorem dX10_become_24 : decode cX10_become 24 = .ok (.iconst 1, 1) := by decide +kernel
theorem dX10_become_25 : decode cX10_become 25 = .ok (.iload_n 2, 1) := by decide +kernel
theorem dX10_become_26 : decode cX10_become 26 = .ok (.bipush 10, 2) := by decide +kernel
theorem dX10_become_28 : decode cX10_become 28 = .ok (.irem, 1) := by decide +kernel
theorem dX10_become_29 : decode cX10_become 29 = .ok (.invokevirtual 95, 3) := by decide +kernel
theorem dX10_become_32 : decode cX10_become 32 = .ok (.aload_n 0, 1) := by decide +kernel
theorem dX10_become_33 : decode cX10_become 33 = .ok (.bipush 19, 2) := by decide +kernel
theorem dX10_become_35 : decode cX10_become 35 = .ok (.iconst 5, 1) := by decide +kernel
theorem dX10_become_36 : decode cX10_become 36 = .ok (.iload_n 1, 1) := by decide +kernel
theorem dX10_become_37 : decode cX10_become 37 = .ok (.imul, 1) := by decide +kernel
theorem dX10_become_38 : decode cX10_become 38 = .ok (.iadd, 1) := by decide +kernel
theorem dX10_become_39 : decode cX10_become 39 = .ok (.iload_n 2, 1) := by decide +kernel
theorem dX10_become_40 : decode cX10_become 40 = .ok (.bipush 10, 2) := by decide +kernel
theorem dX10_become_42 : decode cX10_become 42 = .ok (.idiv, 1) := by decide +kernel
theorem dX10_become_43 : decode cX10_become 43 = .ok (.invokevirtual 105, 3) := by decide +kernel
theorem dX10_become_46 : decode cX10_become 46 = .ok (.ireturn, 1) := by decide +kernel
theorem dX10_as_0 : decode cX10_as 0 = .ok (.aload_n 0, 1) := by decide +kernel
theorem dX10_as_1 : decode cX10_as 1 = .ok (.iload_n 1, 1) := by decide +kernel
theorem dX10_as_2 : decode cX10_as 2 = .ok (.invokevirtual 99, 3) := by decide +kernel
theorem dX10_as_5 : decode cX10_as 5 = .ok (.ifCond .eq 13, 3) := by decide +kernel
theorem dX10_as_8 : decode cX10_as 8 = .ok (.iload_n 2, 1) := by decide +kernel
theorem dX10_as_9 : decode cX10_as 9 = .ok (.iconst 0, 1) := by decide +kernel
theorem dX10_as_10 : decode cX10_as 10 = .ok (.bipush 6, 2) := by decide +kernel
theorem dX10_as_12 : decode cX10_as 12 = .ok (.invokestatic 51, 3) := by decide +kernel
theorem dX10_as_15 : decode cX10_as 15 = .ok (.ifCond .ne 10, 3) := by decide +kernel
theorem dX10_as_18 : decode cX10_as 18 = .ok (.aload_n 0, 1) := by decide +kernel
theorem dX10_as_19 : decode cX10_as 19 = .ok (.ldc 90, 2) := by decide +kernel
theorem dX10_as_21 : decode cX10_as 21 = .ok (.invokevirtual 91, 3) := by decide +kernel
theorem dX10_as_24 : decode cX10_as 24 = .ok (.ireturn, 1) := by decide +kernel
theorem dX10_as_25 : decode cX10_as 25 = .ok (.aload_n 0, 1) := by decide +kernel
theorem dX10_as_26 : decode cX10_as 26 = .ok (.iload_n 1, 1) := by decide +kernel
theorem dX10_as_27 : decode cX10_as 27 = .ok (.iconst 0, 1) := by decide +kernel
theorem dX10_as_28 : decode cX10_as 28 = .ok (.invokevirtual 55, 3) := by decide +kernel
theorem dX10_as_31 : decode cX10_as 31 = .ok (.istore_n 3, 1) := by decide +kernel
theorem dX10_as_32 : decode cX10_as 32 = .ok (.iload_n 2, 1) := by decide +kernel
theorem dX10_as_33 : decode cX10_as 33 = .ok (.ifCond .eq 28, 3) := by decide +kernel
theorem dX10_as_36 : decode cX10_as 36 = .ok (.iload_n 2, 1) := by decide +kernel
theorem dX10_as_37 : decode cX10_as 37 = .ok (.iload_n 3, 1) := by decide +kernel
theorem dX10_as_38 : decode cX10_as 38 = .ok (.if_icmp .eq 23, 3) := by decide +kernel
theorem dX10_as_41 : decode cX10_as 41 = .ok (.iload_n 2, 1) := by decide +kernel
theorem dX10_as_42 : decode cX10_as 42 = .ok (.iconst 1, 1) := by decide +kernel
theorem dX10_as_43 : decode cX10_as 43 = .ok (.if_icmp .ne 8, 3) := by decide +kernel
theorem dX10_as_46 : decode cX10_as 46 = .ok (.iload_n 3, 1) := by decide +kernel
theorem dX10_as_47 : decode cX10_as 47 = .ok (.iconst 4, 1) := by decide +kernel
theorem dX10_as_48 : decode cX10_as 48 = .ok (.if_icmp .eq 13, 3) := by decide +kernel
theorem dX10_as_51 : decode cX10_as 51 = .ok (.iload_n 2, 1) := by decide +kernel
theorem dX10_as_52 : decode cX10_as 52 = .ok (.iconst 2, 1) := by decide +kernel
theorem dX10_as_53 : decode cX10_as 53 = .ok (.if_icmp .ne 12, 3) := by decide +kernel
theorem dX10_as_56 : decode cX10_as 56 = .ok (.iload_n 3, 1) := by decide +kernel
theorem dX10_as_57 : decode cX10_as 57 = .ok (.iconst 5, 1) := by decide +kernel
theorem dX10_as_58 : decode cX10_as 58 = .ok (.if_icmp .ne 7, 3) := by decide +kernel
theorem dX10_as_61 : decode cX10_as 61 = .ok (.iconst 1, 1) := by decide +kernel
theorem dX10_as_62 : decode cX10_as 62 = .ok (.goto 4, 3) := by decide +kernel
theorem dX10_as_65 : decode cX10_as 65 = .ok (.iconst 0, 1) := by decide +kernel
theorem dX10_as_66 : decode cX10_as 66 = .ok (.istore 4, 2) := by decide +kernel
theorem dX10_as_68 : decode cX10_as 68 = .ok (.iload 4, 2) := by decide +kernel
theorem dX10_as_70 : decode cX10_as 70 = .ok (.ifCond .eq 12, 3) := by decide +kernel
theorem dX10_as_73 : decode cX10_as 73 = .ok (.aload_n 0, 1) := by decide +kernel
theorem dX10_as_74 : decode cX10_as 74 = .ok (.iload_n 1, 1) := by decide +kernel
theorem dX10_as_75 : decode cX10_as 75 = .ok (.iconst 1, 1) := by decide +kernel
theorem dX10_as_76 : decode cX10_as 76 = .ok (.invokevirtual 55, 3) := by decide +kernel
theorem dX10_as_79 : decode cX10_as 79 = .ok (.goto 9, 3) := by decide +kernel
theorem dX10_as_82 : decode cX10_as 82 = .ok (.aload_n 0, 1) := by decide +kernel
theorem dX10_as_83 : decode cX10_as 83 = .ok (.ldc 108, 2) := by decide +kernel
theorem dX10_as_85 : decode cX10_as 85 = .ok (.invokevirtual 91, 3) := by decide +kernel
theorem dX10_as_88 : decode cX10_as 88 = .ok (.ireturn, 1) := by decide +kernel
theorem dX10_descends_0 : decode cX10_descends 0 = .ok (.aload_n 0, 1) := by decide +kernel
theorem dX10_descends_1 : decode cX10_descends 1 = .ok (.iload_n 1, 1) := by decide +kernel
theorem dX10_descends_2 : decode cX10_descends 2 = .ok (.invokevirtual 99, 3) := by decide +kernel
theorem dX10_descends_5 : decode cX10_descends 5 = .ok (.ifCond .eq 30, 3) := by decide +kernel
theorem dX10_descends_8 : decode cX10_descends 8 = .ok (.iload_n 2, 1) := by decide +kernel
theorem dX10_descends_9 : decode cX10_descends 9 = .ok (.iconst (-1), 1) := by decide +kernel
theorem dX10_descends_10 : decode cX10_descends 10 = .ok (.iload_n 1, 1) := by decide +kernel
theorem dX10_descends_11 : decode cX10_descends 11 = .ok (.iconst 1, 1) := by decide +kernel
theorem dX10_descends_12 : decode cX10_descends 12 = .ok (.isub, 1) := by decide +kernel
theorem dX10_descends_13 : decode cX10_descends 13 = .ok (.invokestatic 51, 3) := by decide +kernel
theorem dX10_descends_16 : decode cX10_descends 16 = .ok (.ifCond .eq 19, 3) := by decide +kernel
theorem dX10_descends_19 : decode cX10_descends 19 = .ok (.aload_n 0, 1) := by decide +kernel
theorem dX10_descends_20 : decode cX10_descends 20 = .ok (.bipush 19, 2) := by decide +kernel
theorem dX10_descends_22 : decode cX10_descends 22 = .ok (.iconst 5, 1) := by decide +kernel
theorem dX10_descends_23 : decode cX10_descends 23 = .ok (.iload_n 1, 1) := by decide +kernel
theorem dX10_descends_24 : decode cX10_descends 24 = .ok (.imul, 1) := by decide +kernel
theorem dX10_descends_25 : decode cX10_descends 25 = .ok (.iadd, 1) := by decide +kernel
theorem dX10_descends_26 : decode cX10_descends 26 = .ok (.iconst 2, 1) := by decide +kernel
theorem dX10_descends_27 : decode cX10_descends 27 = .ok (.iadd, 1) := by decide +kernel
theorem dX10_descends_28 : decode cX10_descends 28 = .ok (.iload_n 2, 1) := by decide +kernel
theorem dX10_descends_29 : decode cX10_descends 29 = .ok (.invokevirtual 105, 3) := by decide +kernel
theorem dX10_descends_32 : decode cX10_descends 32 = .ok (.goto 9, 3) := by decide +kernel
theorem dX10_descends_35 : decode cX10_descends 35 = .ok (.aload_n 0, 1) := by decide +kernel
theorem dX10_descends_36 : decode cX10_descends 36 = .ok (.ldc 90, 2) := by decide +kernel
theorem dX10_descends_38 : decode cX10_descends 38 = .ok (.invokevirtual 91, 3) := by decide +kernel
theorem dX10_descends_41 : decode cX10_descends 41 = .ok (.ireturn, 1) := by decide +kernel
theorem dX10_weds_0 : decode cX10_weds 0 = .ok (.aload_n 0, 1) := by decide +kernel
theorem dX10_weds_1 : decode cX10_weds 1 = .ok (.iload_n 1, 1) := by decide +kernel
theorem dX10_weds_2 : decode cX10_weds 2 = .ok (.iconst 3, 1) := by decide +kernel
theorem dX10_weds_3 : decode cX10_weds 3 = .ok (.iload_n 2, 1) := by decide +kernel
theorem dX10_weds_4 : decode cX10_weds 4 = .ok (.invokevirtual 95, 3) := by decide +kernel
theorem dX10_weds_7 : decode cX10_weds 7 = .ok (.aload_n 0, 1) := by decide +kernel
theorem dX10_weds_8 : decode cX10_weds 8 = .ok (.iload_n 2, 1) := by decide +kernel
theorem dX10_weds_9 : decode cX10_weds 9 = .ok (.iconst 3, 1) := by decide +kernel
theorem dX10_weds_10 : decode cX10_weds 10 = .ok (.iload_n 1, 1) := by decide +kernel
theorem dX10_weds_11 : decode cX10_weds 11 = .ok (.invokevirtual 95, 3) := by decide +kernel
theorem dX10_weds_14 : decode cX10_weds 14 = .ok (.return_, 1) := by decide +kernel
theorem dX10_marries_0 : decode cX10_marries 0 = .ok (.aload_n 0, 1) := by decide +kernel
theorem dX10_marries_1 : decode cX10_marries 1 = .ok (.iload_n 1, 1) := by decide +kernel
theorem dX10_marries_2 : decode cX10_marries 2 = .ok (.invokevirtual 99, 3) := by decide +kernel
theorem dX10_marries_5 : decode cX10_marries 5 = .ok (.ifCond .eq 16, 3) := by decide +kernel
theorem dX10_marries_8 : decode cX10_marries 8 = .ok (.aload_n 0, 1) := by decide +kernel
theorem dX10_marries_9 : decode cX10_marries 9 = .ok (.iload_n 2, 1) := by decide +kernel
theorem dX10_marries_10 : decode cX10_marries 10 = .ok (.invokevirtual 99, 3) := by decide +kernel
theorem dX10_marries_13 : decode cX10_marries 13 = .ok (.ifCond .eq 8, 3) := by decide +kernel
theorem dX10_marries_16 : decode cX10_marries 16 = .ok (.iload_n 1, 1) := by decide +kernel
theorem dX10_marries_17 : decode cX10_marries 17 = .ok (.iload_n 2, 1) := by decide +kernel
theorem dX10_marries_18 : decode cX10_marries 18 = .ok (.if_icmp .ne 10, 3) := by decide +kernel
theorem dX10_marries_21 : decode cX10_marries 21 = .ok (.aload_n 0, 1) := by decide +kernel
theorem dX10_marries_22 : decode cX10_marries 22 = .ok (.ldc 90, 2) := by decide +kernel
theorem dX10_marries_24 : decode cX10_marries 24 = .ok (.invokevirtual 91, 3) := by decide +kernel
theorem dX10_marries_27 : decode cX10_marries 27 = .ok (.ireturn, 1) := by decide +kernel
theorem dX10_marries_28 : decode cX10_marries 28 = .ok (.aload_n 0, 1) := by decide +kernel
theorem dX10_marries_29 : decode cX10_marries 29 = .ok (.iload_n 1, 1) := by decide +kernel
theorem dX10_marries_30 : decode cX10_marries 30 = .ok (.iconst 3, 1) := by decide +kernel
theorem dX10_marries_31 : decode cX10_marries 31 = .ok (.invokevirtual 55, 3) := by decide +kernel
theorem dX10_marries_34 : decode cX10_marries 34 = .ok (.ifCond .ge 12, 3) := by decide +kernel
theorem dX10_marries_37 : decode cX10_marries 37 = .ok (.aload_n 0, 1) := by decide +kernel
theorem dX10_marries_38 : decode cX10_marries 38 = .ok (.iload_n 2, 1) := by decide +kernel
theorem dX10_marries_39 : decode cX10_marries 39 = .ok (.iconst 3, 1) := by decide +kernel
theorem dX10_marries_40 : decode cX10_marries 40 = .ok (.invokevirtual 55, 3) := by decide +kernel
theorem dX10_marries_43 : decode cX10_marries 43 = .ok (.ifCond .lt 10, 3) := by decide +kernel
theorem dX10_marries_46 : decode cX10_marries 46 = .ok (.aload_n 0, 1) := by decide +kernel
theorem dX10_marries_47 : decode cX10_marries 47 = .ok (.ldc 109, 2) := by decide +kernel
theorem dX10_marries_49 : decode cX10_marries 49 = .ok (.invokevirtual 91, 3) := by decide +kernel
theorem dX10_marries_52 : decode cX10_marries 52 = .ok (.ireturn, 1) := by decide +kernel
theorem dX10_marries_53 : decode cX10_marries 53 = .ok (.aload_n 0, 1) := by decide +kernel
theorem dX10_marries_54 : decode cX10_marries 54 = .ok (.iload_n 1, 1) := by decide +kernel
theorem dX10_marries_55 : decode cX10_marries 55 = .ok (.iload_n 2, 1) := by decide +kernel
theorem dX10_marries_56 : decode cX10_marries 56 = .ok (.invokevirtual 110, 3) := by decide +kernel
theorem dX10_marries_59 : decode cX10_marries 59 = .ok (.aload_n 0, 1) := by decide +kernel
theorem dX10_marries_60 : decode cX10_marries 60 = .ok (.iload_n 1, 1) := by decide +kernel
theorem dX10_marries_61 : decode cX10_marries 61 = .ok (.invokevirtual 70, 3) := by decide +kernel
theorem dX10_marries_64 : decode cX10_marries 64 = .ok (.ireturn, 1) := by decide +kernel
theorem dX10_parts_0 : decode cX10_parts 0 = .ok (.aload_n 0, 1) := by decide +kernel
theorem dX10_parts_1 : decode cX10_parts 1 = .ok (.iload_n 1, 1) := by decide +kernel
theorem dX10_parts_2 : decode cX10_parts 2 = .ok (.invokevirtual 99, 3) := by decide +kernel
theorem dX10_parts_5 : decode cX10_parts 5 = .ok (.ifCond .ne 10, 3) := by decide +kernel
theorem dX10_parts_8 : decode cX10_parts 8 = .ok (.aload_n 0, 1) := by decide +kernel
theorem dX10_parts_9 : decode cX10_parts 9 = .ok (.ldc 90, 2) := by decide +kernel
theorem dX10_parts_11 : decode cX10_parts 11 = .ok (.invokevirtual 91, 3) := by decide +kernel
theorem dX10_parts_14 : decode cX10_parts 14 = .ok (.ireturn, 1) := by decide +kernel
theorem dX10_parts_15 : decode cX10_parts 15 = .ok (.aload_n 0, 1) := by decide +kernel
theorem dX10_parts_16 : decode cX10_parts 16 = .ok (.iload_n 1, 1) := by decide +kernel
theorem dX10_parts_17 : decode cX10_parts 17 = .ok (.iconst 3, 1) := by decide +kernel
theorem dX10_parts_18 : decode cX10_parts 18 = .ok (.invokevirtual 55, 3) := by decide +kernel
theorem dX10_parts_21 : decode cX10_parts 21 = .ok (.istore_n 2, 1) := by decide +kernel
theorem dX10_parts_22 : decode cX10_parts 22 = .ok (.iload_n 2, 1) := by decide +kernel
theorem dX10_parts_23 : decode cX10_parts 23 = .ok (.ifCond .ge 10, 3) := by decide +kernel
theorem dX10_parts_26 : decode cX10_parts 26 = .ok (.aload_n 0, 1) := by decide +kernel
theorem dX10_parts_27 : decode cX10_parts 27 = .ok (.ldc 114, 2) := by decide +kernel
theorem dX10_parts_29 : decode cX10_parts 29 = .ok (.invokevirtual 91, 3) := by decide +kernel
theorem dX10_parts_32 : decode cX10_parts 32 = .ok (.ireturn, 1) := by decide +kernel
theorem dX10_parts_33 : decode cX10_parts 33 = .ok (.aload_n 0, 1) := by decide +kernel
theorem dX10_parts_34 : decode cX10_parts 34 = .ok (.iload_n 1, 1) := by decide +kernel
theorem dX10_parts_35 : decode cX10_parts 35 = .ok (.iconst 3, 1) := by decide +kernel
theorem dX10_parts_36 : decode cX10_parts 36 = .ok (.iconst (-1), 1) := by decide +kernel
theorem dX10_parts_37 : decode cX10_parts 37 = .ok (.invokevirtual 95, 3) := by decide +kernel
theorem dX10_parts_40 : decode cX10_parts 40 = .ok (.aload_n 0, 1) := by decide +kernel
theorem dX10_parts_41 : decode cX10_parts 41 = .ok (.iload_n 2, 1) := by decide +kernel
theorem dX10_parts_42 : decode cX10_parts 42 = .ok (.iconst 3, 1) := by decide +kernel
theorem dX10_parts_43 : decode cX10_parts 43 = .ok (.iconst (-1), 1) := by decide +kernel
theorem dX10_parts_44 : decode cX10_parts 44 = .ok (.invokevirtual 95, 3) := by decide +kernel
theorem dX10_parts_47 : decode cX10_parts 47 = .ok (.iload_n 2, 1) := by decide +kernel
theorem dX10_parts_48 : decode cX10_parts 48 = .ok (.ireturn, 1) := by decide +kernel
theorem dX10_steps_0 : decode cX10_steps 0 = .ok (.aload_n 0, 1) := by decide +kernel
theorem dX10_steps_1 : decode cX10_steps 1 = .ok (.iload_n 1, 1) := by decide +kernel
theorem dX10_steps_2 : decode cX10_steps 2 = .ok (.invokevirtual 99, 3) := by decide +kernel
theorem dX10_steps_5 : decode cX10_steps 5 = .ok (.ifCond .eq 20, 3) := by decide +kernel
theorem dX10_steps_8 : decode cX10_steps 8 = .ok (.aload_n 0, 1) := by decide +kernel
theorem dX10_steps_9 : decode cX10_steps 9 = .ok (.iload_n 2, 1) := by decide +kernel
theorem dX10_steps_10 : decode cX10_steps 10 = .ok (.invokevirtual 99, 3) := by decide +kernel
theorem dX10_steps_13 : decode cX10_steps 13 = .ok (.ifCond .eq 12, 3) := by decide +kernel
theorem dX10_steps_16 : decode cX10_steps 16 = .ok (.aload_n 0, 1) := by decide +kernel
theorem dX10_steps_17 : decode cX10_steps 17 = .ok (.iload_n 1, 1) := by decide +kernel
theorem dX10_steps_18 : decode cX10_steps 18 = .ok (.iload_n 2, 1) := by decide +kernel
theorem dX10_steps_19 : decode cX10_steps 19 = .ok (.invokevirtual 73, 3) := by decide +kernel
theorem dX10_steps_22 : decode cX10_steps 22 = .ok (.goto 9, 3) := by decide +kernel
theorem dX10_steps_25 : decode cX10_steps 25 = .ok (.aload_n 0, 1) := by decide +kernel
theorem dX10_steps_26 : decode cX10_steps 26 = .ok (.ldc 90, 2) := by decide +kernel
theorem dX10_steps_28 : decode cX10_steps 28 = .ok (.invokevirtual 91, 3) := by decide +kernel
theorem dX10_steps_31 : decode cX10_steps 31 = .ok (.ireturn, 1) := by decide +kernel
theorem dX10_lets_0 : decode cX10_lets 0 = .ok (.aload_n 0, 1) := by decide +kernel
theorem dX10_lets_1 : decode cX10_lets 1 = .ok (.iload_n 1, 1) := by decide +kernel
theorem dX10_lets_2 : decode cX10_lets 2 = .ok (.invokevirtual 99, 3) := by decide +kernel
theorem dX10_lets_5 : decode cX10_lets 5 = .ok (.ifCond .eq 20, 3) := by decide +kernel
theorem dX10_lets_8 : decode cX10_lets 8 = .ok (.aload_n 0, 1) := by decide +kernel
theorem dX10_lets_9 : decode cX10_lets 9 = .ok (.iload_n 2, 1) := by decide +kernel
theorem dX10_lets_10 : decode cX10_lets 10 = .ok (.invokevirtual 99, 3) := by decide +kernel
theorem dX10_lets_13 : decode cX10_lets 13 = .ok (.ifCond .eq 12, 3) := by decide +kernel
theorem dX10_lets_16 : decode cX10_lets 16 = .ok (.aload_n 0, 1) := by decide +kernel
theorem dX10_lets_17 : decode cX10_lets 17 = .ok (.iload_n 1, 1) := by decide +kernel
theorem dX10_lets_18 : decode cX10_lets 18 = .ok (.iload_n 2, 1) := by decide +kernel
theorem dX10_lets_19 : decode cX10_lets 19 = .ok (.invokevirtual 115, 3) := by decide +kernel
theorem dX10_lets_22 : decode cX10_lets 22 = .ok (.goto 9, 3) := by decide +kernel
theorem dX10_lets_25 : decode cX10_lets 25 = .ok (.aload_n 0, 1) := by decide +kernel
theorem dX10_lets_26 : decode cX10_lets 26 = .ok (.ldc 90, 2) := by decide +kernel
theorem dX10_lets_28 : decode cX10_lets 28 = .ok (.invokevirtual 91, 3) := by decide +kernel
theorem dX10_lets_31 : decode cX10_lets 31 = .ok (.ireturn, 1) := by decide +kernel
theorem dX10_meets_0 : decode cX10_meets 0 = .ok (.iload_n 1, 1) := by decide +kernel
theorem dX10_meets_1 : decode cX10_meets 1 = .ok (.iconst 0, 1) := by decide +kernel
theorem dX10_meets_2 : decode cX10_meets 2 = .ok (.iconst 5, 1) := by decide +kernel
theorem dX10_meets_3 : decode cX10_meets 3 = .ok (.invokestatic 51, 3) := by decide +kernel
theorem dX10_meets_6 : decode cX10_meets 6 = .ok (.ifCond .eq 23, 3) := by decide +kernel
theorem dX10_meets_9 : decode cX10_meets 9 = .ok (.iload_n 2, 1) := by decide +kernel
theorem dX10_meets_10 : decode cX10_meets 10 = .ok (.iconst 0, 1) := by decide +kernel
theorem dX10_meets_11 : decode cX10_meets 11 = .ok (.bipush 7, 2) := by decide +kernel
theorem dX10_meets_13 : decode cX10_meets 13 = .ok (.invokestatic 51, 3) := by decide +kernel
theorem dX10_meets_16 : decode cX10_meets 16 = .ok (.ifCond .eq 13, 3) := by decide +kernel
theorem dX10_meets_19 : decode cX10_meets 19 = .ok (.iload_n 3, 1) := by decide +kernel
theorem dX10_meets_20 : decode cX10_meets 20 = .ok (.iconst 0, 1) := by decide +kernel
theorem dX10_meets_21 : decode cX10_meets 21 = .ok (.bipush 7, 2) := by decide +kernel
theorem dX10_meets_23 : decode cX10_meets 23 = .ok (.invokestatic 51, 3) := by decide +kernel
theorem dX10_meets_26 : decode cX10_meets 26 = .ok (.ifCond .ne 10, 3) := by decide +kernel
theorem dX10_meets_29 : decode cX10_meets 29 = .ok (.aload_n 0, 1) := by decide +kernel
theorem dX10_meets_30 : decode cX10_meets 30 = .ok (.ldc 90, 2) := by decide +kernel
theorem dX10_meets_32 : decode cX10_meets 32 = .ok (.invokevirtual 91, 3) := by decide +kernel
theorem dX10_meets_35 : decode cX10_meets 35 = .ok (.ireturn, 1) := by decide +kernel
theorem dX10_meets_36 : decode cX10_meets 36 = .ok (.bipush 10, 2) := by decide +kernel
theorem dX10_meets_38 : decode cX10_meets 38 = .ok (.aload_n 0, 1) := by decide +kernel
theorem dX10_meets_39 : decode cX10_meets 39 = .ok (.getfield 9, 3) := by decide +kernel
theorem dX10_meets_42 : decode cX10_meets 42 = .ok (.bipush 7, 2) := by decide +kernel
theorem dX10_meets_44 : decode cX10_meets 44 = .ok (.iconst 2, 1) := by decide +kernel
theorem dX10_meets_45 : decode cX10_meets 45 = .ok (.iload_n 1, 1) := by decide +kernel
theorem dX10_meets_46 : decode cX10_meets 46 = .ok (.imul, 1) := by decide +kernel
theorem dX10_meets_47 : decode cX10_meets 47 = .ok (.iadd, 1) := by decide +kernel
theorem dX10_meets_48 : decode cX10_meets 48 = .ok (.iaload, 1) := by decide +kernel
theorem dX10_meets_49 : decode cX10_meets 49 = .ok (.imul, 1) := by decide +kernel
theorem dX10_meets_50 : decode cX10_meets 50 = .ok (.aload_n 0, 1) := by decide +kernel
theorem dX10_meets_51 : decode cX10_meets 51 = .ok (.getfield 9, 3) := by decide +kernel
theorem dX10_meets_54 : decode cX10_meets 54 = .ok (.bipush 7, 2) := by decide +kernel
theorem dX10_meets_56 : decode cX10_meets 56 = .ok (.iconst 2, 1) := by decide +kernel
theorem dX10_meets_57 : decode cX10_meets 57 = .ok (.iload_n 1, 1) := by decide +kernel
theorem dX10_meets_58 : decode cX10_meets 58 = .ok (.imul, 1) := by decide +kernel
theorem dX10_meets_59 : decode cX10_meets 59 = .ok (.iadd, 1) := by decide +kernel
theorem dX10_meets_60 : decode cX10_meets 60 = .ok (.iconst 1, 1) := by decide +kernel
theorem dX10_meets_61 : decode cX10_meets 61 = .ok (.iadd, 1) := by decide +kernel
theorem dX10_meets_62 : decode cX10_meets 62 = .ok (.iaload, 1) := by decide +kernel
theorem dX10_meets_63 : decode cX10_meets 63 = .ok (.iadd, 1) := by decide +kernel
theorem dX10_meets_64 : decode cX10_meets 64 = .ok (.istore 4, 2) := by decide +kernel
theorem dX10_meets_66 : decode cX10_meets 66 = .ok (.aload_n 0, 1) := by decide +kernel
theorem dX10_meets_67 : decode cX10_meets 67 = .ok (.getfield 9, 3) := by decide +kernel
theorem dX10_meets_70 : decode cX10_meets 70 = .ok (.bipush 7, 2) := by decide +kernel
theorem dX10_meets_72 : decode cX10_meets 72 = .ok (.iconst 2, 1) := by decide +kernel
theorem dX10_meets_73 : decode cX10_meets 73 = .ok (.iload_n 1, 1) := by decide +kernel
theorem dX10_meets_74 : decode cX10_meets 74 = .ok (.imul, 1) := by decide +kernel
theorem dX10_meets_75 : decode cX10_meets 75 = .ok (.iadd, 1) := by decide +kernel
theorem dX10_meets_76 : decode cX10_meets 76 = .ok (.iload_n 2, 1) := by decide +kernel
theorem dX10_meets_77 : decode cX10_meets 77 = .ok (.iastore, 1) := by decide +kernel
theorem dX10_meets_78 : decode cX10_meets 78 = .ok (.aload_n 0, 1) := by decide +kernel
theorem dX10_meets_79 : decode cX10_meets 79 = .ok (.getfield 9, 3) := by decide +kernel
theorem dX10_meets_82 : decode cX10_meets 82 = .ok (.bipush 7, 2) := by decide +kernel
theorem dX10_meets_84 : decode cX10_meets 84 = .ok (.iconst 2, 1) := by decide +kernel
theorem dX10_meets_85 : decode cX10_meets 85 = .ok (.iload_n 1, 1) := by decide +kernel
theorem dX10_meets_86 : decode cX10_meets 86 = .ok (.imul, 1) := by decide +kernel
theorem dX10_meets_87 : decode cX10_meets 87 = .ok (.iadd, 1) := by decide +kernel
theorem dX10_meets_88 : decode cX10_meets 88 = .ok (.iconst 1, 1) := by decide +kernel
theorem dX10_meets_89 : decode cX10_meets 89 = .ok (.iadd, 1) := by decide +kernel
theorem dX10_meets_90 : decode cX10_meets 90 = .ok (.iload_n 3, 1) := by decide +kernel
theorem dX10_meets_91 : decode cX10_meets 91 = .ok (.iastore, 1) := by decide +kernel
theorem dX10_meets_92 : decode cX10_meets 92 = .ok (.iload 4, 2) := by decide +kernel
theorem dX10_meets_94 : decode cX10_meets 94 = .ok (.ireturn, 1) := by decide +kernel
theorem dX10_trade_0 : decode cX10_trade 0 = .ok (.iload_n 1, 1) := by decide +kernel
theorem dX10_trade_1 : decode cX10_trade 1 = .ok (.iconst 0, 1) := by decide +kernel
theorem dX10_trade_2 : decode cX10_trade 2 = .ok (.iconst 1, 1) := by decide +kernel
theorem dX10_trade_3 : decode cX10_trade 3 = .ok (.invokestatic 51, 3) := by decide +kernel
theorem dX10_trade_6 : decode cX10_trade 6 = .ok (.ifCond .eq 34, 3) := by decide +kernel
theorem dX10_trade_9 : decode cX10_trade 9 = .ok (.iload_n 2, 1) := by decide +kernel
theorem dX10_trade_10 : decode cX10_trade 10 = .ok (.iconst 0, 1) := by decide +kernel
theorem dX10_trade_11 : decode cX10_trade 11 = .ok (.iload_n 1, 1) := by decide +kernel
theorem dX10_trade_12 : decode cX10_trade 12 = .ok (.ifCond .ne 9, 3) := by decide +kernel
theorem dX10_trade_15 : decode cX10_trade 15 = .ok (.sipush 999, 3) := by decide +kernel
theorem dX10_trade_18 : decode cX10_trade 18 = .ok (.goto 5, 3) := by decide +kernel
theorem dX10_trade_21 : decode cX10_trade 21 = .ok (.bipush 40, 2) := by decide +kernel
theorem dX10_trade_23 : decode cX10_trade 23 = .ok (.invokestatic 51, 3) := by decide +kernel
theorem dX10_trade_26 : decode cX10_trade 26 = .ok (.ifCond .eq 14, 3) := by decide +kernel
theorem dX10_trade_29 : decode cX10_trade 29 = .ok (.aload_n 0, 1) := by decide +kernel
theorem dX10_trade_30 : decode cX10_trade 30 = .ok (.iconst 3, 1) := by decide +kernel
theorem dX10_trade_31 : decode cX10_trade 31 = .ok (.iload_n 1, 1) := by decide +kernel
theorem dX10_trade_32 : decode cX10_trade 32 = .ok (.iadd, 1) := by decide +kernel
theorem dX10_trade_33 : decode cX10_trade 33 = .ok (.iload_n 2, 1) := by decide +kernel
theorem dX10_trade_34 : decode cX10_trade 34 = .ok (.invokevirtual 105, 3) := by decide +kernel
theorem dX10_trade_37 : decode cX10_trade 37 = .ok (.goto 9, 3) := by decide +kernel
theorem dX10_trade_40 : decode cX10_trade 40 = .ok (.aload_n 0, 1) := by decide +kernel
theorem dX10_trade_41 : decode cX10_trade 41 = .ok (.ldc 90, 2) := by decide +kernel
theorem dX10_trade_43 : decode cX10_trade 43 = .ok (.invokevirtual 91, 3) := by decide +kernel
theorem dX10_trade_46 : decode cX10_trade 46 = .ok (.ireturn, 1) := by decide +kernel
theorem dX10_feed_0 : decode cX10_feed 0 = .ok (.iload_n 3, 1) := by decide +kernel
theorem dX10_feed_1 : decode cX10_feed 1 = .ok (.iconst 1, 1) := by decide +kernel
theorem dX10_feed_2 : decode cX10_feed 2 = .ok (.bipush 8, 2) := by decide +kernel
theorem dX10_feed_4 : decode cX10_feed 4 = .ok (.invokestatic 51, 3) := by decide +kernel
theorem dX10_feed_7 : decode cX10_feed 7 = .ok (.ifCond .ne 10, 3) := by decide +kernel
theorem dX10_feed_10 : decode cX10_feed 10 = .ok (.aload_n 0, 1) := by decide +kernel
theorem dX10_feed_11 : decode cX10_feed 11 = .ok (.ldc 90, 2) := by decide +kernel
theorem dX10_feed_13 : decode cX10_feed 13 = .ok (.invokevirtual 91, 3) := by decide +kernel
theorem dX10_feed_16 : decode cX10_feed 16 = .ok (.ireturn, 1) := by decide +kernel
theorem dX10_feed_17 : decode cX10_feed 17 = .ok (.aload_n 0, 1) := by decide +kernel
theorem dX10_feed_18 : decode cX10_feed 18 = .ok (.getfield 9, 3) := by decide +kernel
theorem dX10_feed_21 : decode cX10_feed 21 = .ok (.iconst 5, 1) := by decide +kernel
theorem dX10_feed_22 : decode cX10_feed 22 = .ok (.iaload, 1) := by decide +kernel
theorem dX10_feed_23 : decode cX10_feed 23 = .ok (.iload_n 3, 1) := by decide +kernel
theorem dX10_feed_24 : decode cX10_feed 24 = .ok (.iadd, 1) := by decide +kernel
theorem dX10_feed_25 : decode cX10_feed 25 = .ok (.bipush 60, 2) := by decide +kernel
theorem dX10_feed_27 : decode cX10_feed 27 = .ok (.if_icmp .le 10, 3) := by decide +kernel
theorem dX10_feed_30 : decode cX10_feed 30 = .ok (.aload_n 0, 1) := by decide +kernel
theorem dX10_feed_31 : decode cX10_feed 31 = .ok (.ldc 94, 2) := by decide +kernel
theorem dX10_feed_33 : decode cX10_feed 33 = .ok (.invokevirtual 91, 3) := by decide +kernel
theorem dX10_feed_36 : decode cX10_feed 36 = .ok (.ireturn, 1) := by decide +kernel
theorem dX10_feed_37 : decode cX10_feed 37 = .ok (.iconst 0, 1) := by decide +kernel
theorem dX10_feed_38 : decode cX10_feed 38 = .ok (.istore 4, 2) := by decide +kernel
theorem dX10_feed_40 : decode cX10_feed 40 = .ok (.iload 4, 2) := by decide +kernel
theorem dX10_feed_42 : decode cX10_feed 42 = .ok (.iload_n 3, 1) := by decide +kernel
theorem dX10_feed_43 : decode cX10_feed 43 = .ok (.if_icmp .ge 45, 3) := by decide +kernel
theorem dX10_feed_46 : decode cX10_feed 46 = .ok (.aload_n 0, 1) := by decide +kernel
theorem dX10_feed_47 : decode cX10_feed 47 = .ok (.getfield 9, 3) := by decide +kernel
theorem dX10_feed_50 : decode cX10_feed 50 = .ok (.bipush 59, 2) := by decide +kernel
theorem dX10_feed_52 : decode cX10_feed 52 = .ok (.aload_n 0, 1) := by decide +kernel
theorem dX10_feed_53 : decode cX10_feed 53 = .ok (.getfield 9, 3) := by decide +kernel
theorem dX10_feed_56 : decode cX10_feed 56 = .ok (.iconst 5, 1) := by decide +kernel
theorem dX10_feed_57 : decode cX10_feed 57 = .ok (.iaload, 1) := by decide +kernel
theorem dX10_feed_58 : decode cX10_feed 58 = .ok (.iadd, 1) := by decide +kernel
theorem dX10_feed_59 : decode cX10_feed 59 = .ok (.lload_n 1, 1) := by decide +kernel
theorem dX10_feed_60 : decode cX10_feed 60 = .ok (.bipush 8, 2) := by decide +kernel
theorem dX10_feed_62 : decode cX10_feed 62 = .ok (.iload 4, 2) := by decide +kernel
theorem dX10_feed_64 : decode cX10_feed 64 = .ok (.imul, 1) := by decide +kernel
theorem dX10_feed_65 : decode cX10_feed 65 = .ok (.lshr, 1) := by decide +kernel
theorem dX10_feed_66 : decode cX10_feed 66 = .ok (.ldc2_w 118, 3) := by decide +kernel
theorem dX10_feed_69 : decode cX10_feed 69 = .ok (.land, 1) := by decide +kernel
theorem dX10_feed_70 : decode cX10_feed 70 = .ok (.l2i, 1) := by decide +kernel
theorem dX10_feed_71 : decode cX10_feed 71 = .ok (.iastore, 1) := by decide +kernel
theorem dX10_feed_72 : decode cX10_feed 72 = .ok (.aload_n 0, 1) := by decide +kernel
theorem dX10_feed_73 : decode cX10_feed 73 = .ok (.getfield 9, 3) := by decide +kernel
theorem dX10_feed_76 : decode cX10_feed 76 = .ok (.iconst 5, 1) := by decide +kernel
theorem dX10_feed_77 : decode cX10_feed 77 = .ok (.dup2, 1) := by decide +kernel
theorem dX10_feed_78 : decode cX10_feed 78 = .ok (.iaload, 1) := by decide +kernel
theorem dX10_feed_79 : decode cX10_feed 79 = .ok (.iconst 1, 1) := by decide +kernel
theorem dX10_feed_80 : decode cX10_feed 80 = .ok (.iadd, 1) := by decide +kernel
theorem dX10_feed_81 : decode cX10_feed 81 = .ok (.iastore, 1) := by decide +kernel
theorem dX10_feed_82 : decode cX10_feed 82 = .ok (.iinc 4 1, 3) := by decide +kernel
theorem dX10_feed_85 : decode cX10_feed 85 = .ok (.goto (-45), 3) := by decide +kernel
theorem dX10_feed_88 : decode cX10_feed 88 = .ok (.aload_n 0, 1) := by decide +kernel
theorem dX10_feed_89 : decode cX10_feed 89 = .ok (.getfield 9, 3) := by decide +kernel
theorem dX10_feed_92 : decode cX10_feed 92 = .ok (.iconst 5, 1) := by decide +kernel
theorem dX10_feed_93 : decode cX10_feed 93 = .ok (.iaload, 1) := by decide +kernel
theorem dX10_feed_94 : decode cX10_feed 94 = .ok (.ireturn, 1) := by decide +kernel
theorem dX10_look_0 : decode cX10_look 0 = .ok (.aload_n 0, 1) := by decide +kernel
theorem dX10_look_1 : decode cX10_look 1 = .ok (.getfield 120, 3) := by decide +kernel
theorem dX10_look_4 : decode cX10_look 4 = .ok (.aload_n 0, 1) := by decide +kernel
theorem dX10_look_5 : decode cX10_look 5 = .ok (.getfield 9, 3) := by decide +kernel
theorem dX10_look_8 : decode cX10_look 8 = .ok (.iconst 5, 1) := by decide +kernel
theorem dX10_look_9 : decode cX10_look 9 = .ok (.iaload, 1) := by decide +kernel
theorem dX10_look_10 : decode cX10_look 10 = .ok (.if_icmp .ge 18, 3) := by decide +kernel
theorem dX10_look_13 : decode cX10_look 13 = .ok (.aload_n 0, 1) := by decide +kernel
theorem dX10_look_14 : decode cX10_look 14 = .ok (.getfield 9, 3) := by decide +kernel
theorem dX10_look_17 : decode cX10_look 17 = .ok (.bipush 59, 2) := by decide +kernel
theorem dX10_look_19 : decode cX10_look 19 = .ok (.aload_n 0, 1) := by decide +kernel
theorem dX10_look_20 : decode cX10_look 20 = .ok (.getfield 120, 3) := by decide +kernel
theorem dX10_look_23 : decode cX10_look 23 = .ok (.iadd, 1) := by decide +kernel
theorem dX10_look_24 : decode cX10_look 24 = .ok (.iaload, 1) := by decide +kernel
theorem dX10_look_25 : decode cX10_look 25 = .ok (.goto 4, 3) := by decide +kernel
theorem dX10_look_28 : decode cX10_look 28 = .ok (.iconst (-1), 1) := by decide +kernel
theorem dX10_look_29 : decode cX10_look 29 = .ok (.ireturn, 1) := by decide +kernel
theorem dX10_lays_0 : decode cX10_lays 0 = .ok (.aload_n 0, 1) := by decide +kernel
theorem dX10_lays_1 : decode cX10_lays 1 = .ok (.getfield 124, 3) := by decide +kernel
theorem dX10_lays_4 : decode cX10_lays 4 = .ok (.aload_n 0, 1) := by decide +kernel
theorem dX10_lays_5 : decode cX10_lays 5 = .ok (.getfield 31, 3) := by decide +kernel
theorem dX10_lays_8 : decode cX10_lays 8 = .ok (.arraylength, 1) := by decide +kernel
theorem dX10_lays_9 : decode cX10_lays 9 = .ok (.if_icmp .ge 33, 3) := by decide +kernel
theorem dX10_lays_12 : decode cX10_lays 12 = .ok (.aload_n 0, 1) := by decide +kernel
theorem dX10_lays_13 : decode cX10_lays 13 = .ok (.getfield 31, 3) := by decide +kernel
theorem dX10_lays_16 : decode cX10_lays 16 = .ok (.aload_n 0, 1) := by decide +kernel
theorem dX10_lays_17 : decode cX10_lays 17 = .ok (.getfield 124, 3) := by decide +kernel
theorem dX10_lays_20 : decode cX10_lays 20 = .ok (.iload_n 1, 1) := by decide +kernel
theorem dX10_lays_21 : decode cX10_lays 21 = .ok (.iastore, 1) := by decide +kernel
theorem dX10_lays_22 : decode cX10_lays 22 = .ok (.aload_n 0, 1) := by decide +kernel
theorem dX10_lays_23 : decode cX10_lays 23 = .ok (.getfield 34, 3) := by decide +kernel
theorem dX10_lays_26 : decode cX10_lays 26 = .ok (.aload_n 0, 1) := by decide +kernel
theorem dX10_lays_27 : decode cX10_lays 27 = .ok (.getfield 124, 3) := by decide +kernel
theorem dX10_lays_30 : decode cX10_lays 30 = .ok (.iload_n 2, 1) := by decide +kernel
theorem dX10_lays_31 : decode cX10_lays 31 = .ok (.iastore, 1) := by decide +kernel
theorem dX10_lays_32 : decode cX10_lays 32 = .ok (.aload_n 0, 1) := by decide +kernel
theorem dX10_lays_33 : decode cX10_lays 33 = .ok (.dup, 1) := by decide +kernel
theorem dX10_lays_34 : decode cX10_lays 34 = .ok (.getfield 124, 3) := by decide +kernel
theorem dX10_lays_37 : decode cX10_lays 37 = .ok (.iconst 1, 1) := by decide +kernel
theorem dX10_lays_38 : decode cX10_lays 38 = .ok (.iadd, 1) := by decide +kernel
theorem dX10_lays_39 : decode cX10_lays 39 = .ok (.putfield 124, 3) := by decide +kernel
theorem dX10_lays_42 : decode cX10_lays 42 = .ok (.return_, 1) := by decide +kernel
theorem dX10_nameOf_0 : decode cX10_nameOf 0 = .ok (.iload_n 1, 1) := by decide +kernel
theorem dX10_nameOf_1 : decode cX10_nameOf 1 = .ok (.lookupswitch 111 #[(99, 74), (101, 74), (115, 51), (118, 51), (121, 98)], 51) := by decide +kernel
theorem dX10_nameOf_52 : decode cX10_nameOf 52 = .ok (.aload_n 0, 1) := by decide +kernel
theorem dX10_nameOf_53 : decode cX10_nameOf 53 = .ok (.getfield 127, 3) := by decide +kernel
theorem dX10_nameOf_56 : decode cX10_nameOf 56 = .ok (.ifCond .eq 7, 3) := by decide +kernel
theorem dX10_nameOf_59 : decode cX10_nameOf 59 = .ok (.iconst (-1), 1) := by decide +kernel
theorem dX10_nameOf_60 : decode cX10_nameOf 60 = .ok (.goto 14, 3) := by decide +kernel
theorem dX10_nameOf_63 : decode cX10_nameOf 63 = .ok (.iload_n 1, 1) := by decide +kernel
theorem dX10_nameOf_64 : decode cX10_nameOf 64 = .ok (.bipush 118, 2) := by decide +kernel
theorem dX10_nameOf_66 : decode cX10_nameOf 66 = .ok (.if_icmp .ne 7, 3) := by decide +kernel
theorem dX10_nameOf_69 : decode cX10_nameOf 69 = .ok (.iconst 0, 1) := by decide +kernel
theorem dX10_nameOf_70 : decode cX10_nameOf 70 = .ok (.goto 4, 3) := by decide +kernel
theorem dX10_nameOf_73 : decode cX10_nameOf 73 = .ok (.iconst 1, 1) := by decide +kernel
theorem dX10_nameOf_74 : decode cX10_nameOf 74 = .ok (.ireturn, 1) := by decide +kernel
theorem dX10_nameOf_75 : decode cX10_nameOf 75 = .ok (.aload_n 0, 1) := by decide +kernel
theorem dX10_nameOf_76 : decode cX10_nameOf 76 = .ok (.getfield 127, 3) := by decide +kernel
theorem dX10_nameOf_79 : decode cX10_nameOf 79 = .ok (.iconst 1, 1) := by decide +kernel
theorem dX10_nameOf_80 : decode cX10_nameOf 80 = .ok (.if_icmp .eq 7, 3) := by decide +kernel
theorem dX10_nameOf_83 : decode cX10_nameOf 83 = .ok (.iconst (-1), 1) := by decide +kernel
theorem dX10_nameOf_84 : decode cX10_nameOf 84 = .ok (.goto 14, 3) := by decide +kernel
theorem dX10_nameOf_87 : decode cX10_nameOf 87 = .ok (.iload_n 1, 1) := by decide +kernel
theorem dX10_nameOf_88 : decode cX10_nameOf 88 = .ok (.bipush 101, 2) := by decide +kernel
theorem dX10_nameOf_90 : decode cX10_nameOf 90 = .ok (.if_icmp .ne 7, 3) := by decide +kernel
theorem dX10_nameOf_93 : decode cX10_nameOf 93 = .ok (.iconst 0, 1) := by decide +kernel
theorem dX10_nameOf_94 : decode cX10_nameOf 94 = .ok (.goto 4, 3) := by decide +kernel
theorem dX10_nameOf_97 : decode cX10_nameOf 97 = .ok (.iconst 2, 1) := by decide +kernel
theorem dX10_nameOf_98 : decode cX10_nameOf 98 = .ok (.ireturn, 1) := by decide +kernel
theorem dX10_nameOf_99 : decode cX10_nameOf 99 = .ok (.aload_n 0, 1) := by decide +kernel
theorem dX10_nameOf_100 : decode cX10_nameOf 100 = .ok (.getfield 127, 3) := by decide +kernel
theorem dX10_nameOf_103 : decode cX10_nameOf 103 = .ok (.ifCond .ne 7, 3) := by decide +kernel
theorem dX10_nameOf_106 : decode cX10_nameOf 106 = .ok (.iconst 2, 1) := by decide +kernel
theorem dX10_nameOf_107 : decode cX10_nameOf 107 = .ok (.goto 4, 3) := by decide +kernel
theorem dX10_nameOf_110 : decode cX10_nameOf 110 = .ok (.iconst 1, 1) := by decide +kernel
theorem dX10_nameOf_111 : decode cX10_nameOf 111 = .ok (.ireturn, 1) := by decide +kernel
theorem dX10_nameOf_112 : decode cX10_nameOf 112 = .ok (.iconst (-1), 1) := by decide +kernel
theorem dX10_nameOf_113 : decode cX10_nameOf 113 = .ok (.ireturn, 1) := by decide +kernel
theorem dX10_number_0 : decode cX10_number 0 = .ok (.iconst 0, 1) := by decide +kernel
theorem dX10_number_1 : decode cX10_number 1 = .ok (.istore_n 1, 1) := by decide +kernel
theorem dX10_number_2 : decode cX10_number 2 = .ok (.iconst 0, 1) := by decide +kernel
theorem dX10_number_3 : decode cX10_number 3 = .ok (.istore_n 2, 1) := by decide +kernel
theorem dX10_number_4 : decode cX10_number 4 = .ok (.iload_n 2, 1) := by decide +kernel
theorem dX10_number_5 : decode cX10_number 5 = .ok (.iconst 4, 1) := by decide +kernel
theorem dX10_number_6 : decode cX10_number 6 = .ok (.if_icmp .ge 46, 3) := by decide +kernel
theorem dX10_number_9 : decode cX10_number 9 = .ok (.aload_n 0, 1) := by decide +kernel
theorem dX10_number_10 : decode cX10_number 10 = .ok (.invokevirtual 130, 3) := by decide +kernel
theorem dX10_number_13 : decode cX10_number 13 = .ok (.bipush 48, 2) := by decide +kernel
theorem dX10_number_15 : decode cX10_number 15 = .ok (.bipush 57, 2) := by decide +kernel
theorem dX10_number_17 : decode cX10_number 17 = .ok (.invokestatic 51, 3) := by decide +kernel
theorem dX10_number_20 : decode cX10_number 20 = .ok (.ifCond .eq 32, 3) := by decide +kernel
theorem dX10_number_23 : decode cX10_number 23 = .ok (.bipush 10, 2) := by decide +kernel
theorem dX10_number_25 : decode cX10_number 25 = .ok (.iload_n 1, 1) := by decide +kernel
theorem dX10_number_26 : decode cX10_number 26 = .ok (.imul, 1) := by decide +kernel
theorem dX10_number_27 : decode cX10_number 27 = .ok (.aload_n 0, 1) := by decide +kernel
theorem dX10_number_28 : decode cX10_number 28 = .ok (.invokevirtual 130, 3) := by decide +kernel
theorem dX10_number_31 : decode cX10_number 31 = .ok (.iadd, 1) := by decide +kernel
theorem dX10_number_32 : decode cX10_number 32 = .ok (.bipush 48, 2) := by decide +kernel
theorem dX10_number_34 : decode cX10_number 34 = .ok (.isub, 1) := by decide +kernel
theorem dX10_number_35 : decode cX10_number 35 = .ok (.istore_n 1, 1) := by decide +kernel
theorem dX10_number_36 : decode cX10_number 36 = .ok (.aload_n 0, 1) := by decide +kernel
theorem dX10_number_37 : decode cX10_number 37 = .ok (.dup, 1) := by decide +kernel
theorem dX10_number_38 : decode cX10_number 38 = .ok (.getfield 120, 3) := by decide +kernel
theorem dX10_number_41 : decode cX10_number 41 = .ok (.iconst 1, 1) := by decide +kernel
theorem dX10_number_42 : decode cX10_number 42 = .ok (.iadd, 1) := by decide +kernel
theorem dX10_number_43 : decode cX10_number 43 = .ok (.putfield 120, 3) := by decide +kernel
theorem dX10_number_46 : decode cX10_number 46 = .ok (.iinc 2 1, 3) := by decide +kernel
theorem dX10_number_49 : decode cX10_number 49 = .ok (.goto (-45), 3) := by decide +kernel
theorem dX10_number_52 : decode cX10_number 52 = .ok (.aload_n 0, 1) := by decide +kernel
theorem dX10_number_53 : decode cX10_number 53 = .ok (.iload_n 2, 1) := by decide +kernel
theorem dX10_number_54 : decode cX10_number 54 = .ok (.ifCond .ne 7, 3) := by decide +kernel
theorem dX10_number_57 : decode cX10_number 57 = .ok (.iconst 1, 1) := by decide +kernel
theorem dX10_number_58 : decode cX10_number 58 = .ok (.goto 4, 3) := by decide +kernel
theorem dX10_number_61 : decode cX10_number 61 = .ok (.iconst 0, 1) := by decide +kernel
theorem dX10_number_62 : decode cX10_number 62 = .ok (.putfield 134, 3) := by decide +kernel
theorem dX10_number_65 : decode cX10_number 65 = .ok (.aload_n 0, 1) := by decide +kernel
theorem dX10_number_66 : decode cX10_number 66 = .ok (.iconst 1, 1) := by decide +kernel
theorem dX10_number_67 : decode cX10_number 67 = .ok (.iload_n 1, 1) := by decide +kernel
theorem dX10_number_68 : decode cX10_number 68 = .ok (.invokevirtual 138, 3) := by decide +kernel
theorem dX10_number_71 : decode cX10_number 71 = .ok (.return_, 1) := by decide +kernel
theorem dX10_opens_0 : decode cX10_opens 0 = .ok (.aload_n 0, 1) := by decide +kernel
theorem dX10_opens_1 : decode cX10_opens 1 = .ok (.getfield 141, 3) := by decide +kernel
theorem dX10_opens_4 : decode cX10_opens 4 = .ok (.iconst 5, 1) := by decide +kernel
theorem dX10_opens_5 : decode cX10_opens 5 = .ok (.if_icmp .ne 9, 3) := by decide +kernel
theorem dX10_opens_8 : decode cX10_opens 8 = .ok (.aload_n 0, 1) := by decide +kernel
theorem dX10_opens_9 : decode cX10_opens 9 = .ok (.iconst 1, 1) := by decide +kernel
theorem dX10_opens_10 : decode cX10_opens 10 = .ok (.putfield 134, 3) := by decide +kernel
theorem dX10_opens_13 : decode cX10_opens 13 = .ok (.return_, 1) := by decide +kernel
theorem dX10_opens_14 : decode cX10_opens 14 = .ok (.aload_n 0, 1) := by decide +kernel
theorem dX10_opens_15 : decode cX10_opens 15 = .ok (.dup, 1) := by decide +kernel
theorem dX10_opens_16 : decode cX10_opens 16 = .ok (.getfield 141, 3) := by decide +kernel
theorem dX10_opens_19 : decode cX10_opens 19 = .ok (.iconst 1, 1) := by decide +kernel
theorem dX10_opens_20 : decode cX10_opens 20 = .ok (.iadd, 1) := by decide +kernel
theorem dX10_opens_21 : decode cX10_opens 21 = .ok (.putfield 141, 3) := by decide +kernel
theorem dX10_opens_24 : decode cX10_opens 24 = .ok (.aload_n 0, 1) := by decide +kernel
theorem dX10_opens_25 : decode cX10_opens 25 = .ok (.dup, 1) := by decide +kernel
theorem dX10_opens_26 : decode cX10_opens 26 = .ok (.getfield 120, 3) := by decide +kernel
theorem dX10_opens_29 : decode cX10_opens 29 = .ok (.iconst 1, 1) := by decide +kernel
theorem dX10_opens_30 : decode cX10_opens 30 = .ok (.iadd, 1) := by decide +kernel
theorem dX10_opens_31 : decode cX10_opens 31 = .ok (.putfield 120, 3) := by decide +kernel
theorem dX10_opens_34 : decode cX10_opens 34 = .ok (.iload_n 1, 1) := by decide +kernel
theorem dX10_opens_35 : decode cX10_opens 35 = .ok (.bipush 33, 2) := by decide +kernel
theorem dX10_opens_37 : decode cX10_opens 37 = .ok (.if_icmp .ne 16, 3) := by decide +kernel
theorem dX10_opens_40 : decode cX10_opens 40 = .ok (.aload_n 0, 1) := by decide +kernel
theorem dX10_opens_41 : decode cX10_opens 41 = .ok (.invokevirtual 144, 3) := by decide +kernel
theorem dX10_opens_44 : decode cX10_opens 44 = .ok (.aload_n 0, 1) := by decide +kernel
theorem dX10_opens_45 : decode cX10_opens 45 = .ok (.iconst 3, 1) := by decide +kernel
theorem dX10_opens_46 : decode cX10_opens 46 = .ok (.iconst 0, 1) := by decide +kernel
theorem dX10_opens_47 : decode cX10_opens 47 = .ok (.invokevirtual 138, 3) := by decide +kernel
theorem dX10_opens_50 : decode cX10_opens 50 = .ok (.goto 53, 3) := by decide +kernel
theorem dX10_opens_53 : decode cX10_opens 53 = .ok (.aload_n 0, 1) := by decide +kernel
theorem dX10_opens_54 : decode cX10_opens 54 = .ok (.invokevirtual 147, 3) := by decide +kernel
theorem dX10_opens_57 : decode cX10_opens 57 = .ok (.aload_n 0, 1) := by decide +kernel
theorem dX10_opens_58 : decode cX10_opens 58 = .ok (.aload_n 0, 1) := by decide +kernel
theorem dX10_opens_59 : decode cX10_opens 59 = .ok (.getfield 134, 3) := by decide +kernel
theorem dX10_opens_62 : decode cX10_opens 62 = .ok (.ifCond .ne 12, 3) := by decide +kernel
theorem dX10_opens_65 : decode cX10_opens 65 = .ok (.aload_n 0, 1) := by decide +kernel
theorem dX10_opens_66 : decode cX10_opens 66 = .ok (.invokevirtual 130, 3) := by decide +kernel
theorem dX10_opens_69 : decode cX10_opens 69 = .ok (.bipush 41, 2) := by decide +kernel
theorem dX10_opens_71 : decode cX10_opens 71 = .ok (.if_icmp .eq 7, 3) := by decide +kernel
theorem dX10_opens_74 : decode cX10_opens 74 = .ok (.iconst 1, 1) := by decide +kernel
theorem dX10_opens_75 : decode cX10_opens 75 = .ok (.goto 4, 3) := by decide +kernel
theorem dX10_opens_78 : decode cX10_opens 78 = .ok (.iconst 0, 1) := by decide +kernel
theorem dX10_opens_79 : decode cX10_opens 79 = .ok (.putfield 134, 3) := by decide +kernel
theorem dX10_opens_82 : decode cX10_opens 82 = .ok (.aload_n 0, 1) := by decide +kernel
theorem dX10_opens_83 : decode cX10_opens 83 = .ok (.dup, 1) := by decide +kernel
theorem dX10_opens_84 : decode cX10_opens 84 = .ok (.getfield 120, 3) := by decide +kernel
theorem dX10_opens_87 : decode cX10_opens 87 = .ok (.aload_n 0, 1) := by decide +kernel
theorem dX10_opens_88 : decode cX10_opens 88 = .ok (.getfield 134, 3) := by decide +kernel
theorem dX10_opens_91 : decode cX10_opens 91 = .ok (.ifCond .eq 7, 3) := by decide +kernel
theorem dX10_opens_94 : decode cX10_opens 94 = .ok (.iconst 0, 1) := by decide +kernel
theorem dX10_opens_95 : decode cX10_opens 95 = .ok (.goto 4, 3) := by decide +kernel
theorem dX10_opens_98 : decode cX10_opens 98 = .ok (.iconst 1, 1) := by decide +kernel
theorem dX10_opens_99 : decode cX10_opens 99 = .ok (.iadd, 1) := by decide +kernel
theorem dX10_opens_100 : decode cX10_opens 100 = .ok (.putfield 120, 3) := by decide +kernel
theorem dX10_opens_103 : decode cX10_opens 103 = .ok (.aload_n 0, 1) := by decide +kernel
theorem dX10_opens_104 : decode cX10_opens 104 = .ok (.dup, 1) := by decide +kernel
theorem dX10_opens_105 : decode cX10_opens 105 = .ok (.getfield 141, 3) := by decide +kernel
theorem dX10_opens_108 : decode cX10_opens 108 = .ok (.iconst 1, 1) := by decide +kernel
theorem dX10_opens_109 : decode cX10_opens 109 = .ok (.isub, 1) := by decide +kernel
theorem dX10_opens_110 : decode cX10_opens 110 = .ok (.putfield 141, 3) := by decide +kernel
theorem dX10_opens_113 : decode cX10_opens 113 = .ok (.return_, 1) := by decide +kernel
theorem dX10_one_0 : decode cX10_one 0 = .ok (.aload_n 0, 1) := by decide +kernel
theorem dX10_one_1 : decode cX10_one 1 = .ok (.invokevirtual 130, 3) := by decide +kernel
theorem dX10_one_4 : decode cX10_one 4 = .ok (.istore_n 1, 1) := by decide +kernel
theorem dX10_one_5 : decode cX10_one 5 = .ok (.aload_n 0, 1) := by decide +kernel
theorem dX10_one_6 : decode cX10_one 6 = .ok (.iload_n 1, 1) := by decide +kernel
theorem dX10_one_7 : decode cX10_one 7 = .ok (.invokevirtual 150, 3) := by decide +kernel
theorem dX10_one_10 : decode cX10_one 10 = .ok (.istore_n 2, 1) := by decide +kernel
theorem dX10_one_11 : decode cX10_one 11 = .ok (.iload_n 2, 1) := by decide +kernel
theorem dX10_one_12 : decode cX10_one 12 = .ok (.ifCond .lt 22, 3) := by decide +kernel
theorem dX10_one_15 : decode cX10_one 15 = .ok (.aload_n 0, 1) := by decide +kernel
theorem dX10_one_16 : decode cX10_one 16 = .ok (.dup, 1) := by decide +kernel
theorem dX10_one_17 : decode cX10_one 17 = .ok (.getfield 120, 3) := by decide +kernel
theorem dX10_one_20 : decode cX10_one 20 = .ok (.iconst 1, 1) := by decide +kernel
theorem dX10_one_21 : decode cX10_one 21 = .ok (.iadd, 1) := by decide +kernel
theorem dX10_one_22 : decode cX10_one 22 = .ok (.putfield 120, 3) := by decide +kernel
theorem dX10_one_25 : decode cX10_one 25 = .ok (.aload_n 0, 1) := by decide +kernel
theorem dX10_one_26 : decode cX10_one 26 = .ok (.iconst 2, 1) := by decide +kernel
theorem dX10_one_27 : decode cX10_one 27 = .ok (.iload_n 2, 1) := by decide +kernel
theorem dX10_one_28 : decode cX10_one 28 = .ok (.invokevirtual 138, 3) := by decide +kernel
theorem dX10_one_31 : decode cX10_one 31 = .ok (.goto 27, 3) := by decide +kernel
theorem dX10_one_34 : decode cX10_one 34 = .ok (.iload_n 1, 1) := by decide +kernel
theorem dX10_one_35 : decode cX10_one 35 = .ok (.bipush 33, 2) := by decide +kernel
theorem dX10_one_37 : decode cX10_one 37 = .ok (.if_icmp .eq 9, 3) := by decide +kernel
theorem dX10_one_40 : decode cX10_one 40 = .ok (.iload_n 1, 1) := by decide +kernel
theorem dX10_one_41 : decode cX10_one 41 = .ok (.bipush 40, 2) := by decide +kernel
theorem dX10_one_43 : decode cX10_one 43 = .ok (.if_icmp .ne 11, 3) := by decide +kernel
theorem dX10_one_46 : decode cX10_one 46 = .ok (.aload_n 0, 1) := by decide +kernel
theorem dX10_one_47 : decode cX10_one 47 = .ok (.iload_n 1, 1) := by decide +kernel
theorem dX10_one_48 : decode cX10_one 48 = .ok (.invokevirtual 153, 3) := by decide +kernel
theorem dX10_one_51 : decode cX10_one 51 = .ok (.goto 7, 3) := by decide +kernel
theorem dX10_one_54 : decode cX10_one 54 = .ok (.aload_n 0, 1) := by decide +kernel
theorem dX10_one_55 : decode cX10_one 55 = .ok (.invokevirtual 157, 3) := by decide +kernel
theorem dX10_one_58 : decode cX10_one 58 = .ok (.return_, 1) := by decide +kernel
theorem dX10_times_0 : decode cX10_times 0 = .ok (.aload_n 0, 1) := by decide +kernel
theorem dX10_times_1 : decode cX10_times 1 = .ok (.invokevirtual 144, 3) := by decide +kernel
theorem dX10_times_4 : decode cX10_times 4 = .ok (.aload_n 0, 1) := by decide +kernel
theorem dX10_times_5 : decode cX10_times 5 = .ok (.getfield 134, 3) := by decide +kernel
theorem dX10_times_8 : decode cX10_times 8 = .ok (.ifCond .ne 58, 3) := by decide +kernel
theorem dX10_times_11 : decode cX10_times 11 = .ok (.aload_n 0, 1) := by decide +kernel
theorem dX10_times_12 : decode cX10_times 12 = .ok (.invokevirtual 130, 3) := by decide +kernel
theorem dX10_times_15 : decode cX10_times 15 = .ok (.bipush 42, 2) := by decide +kernel
theorem dX10_times_17 : decode cX10_times 17 = .ok (.if_icmp .eq 21, 3) := by decide +kernel
theorem dX10_times_20 : decode cX10_times 20 = .ok (.aload_n 0, 1) := by decide +kernel
theorem dX10_times_21 : decode cX10_times 21 = .ok (.invokevirtual 130, 3) := by decide +kernel
theorem dX10_times_24 : decode cX10_times 24 = .ok (.bipush 47, 2) := by decide +kernel
theorem dX10_times_26 : decode cX10_times 26 = .ok (.if_icmp .eq 12, 3) := by decide +kernel
theorem dX10_times_29 : decode cX10_times 29 = .ok (.aload_n 0, 1) := by decide +kernel
theorem dX10_times_30 : decode cX10_times 30 = .ok (.invokevirtual 130, 3) := by decide +kernel
theorem dX10_times_33 : decode cX10_times 33 = .ok (.bipush 37, 2) := by decide +kernel
theorem dX10_times_35 : decode cX10_times 35 = .ok (.if_icmp .ne 31, 3) := by decide +kernel
theorem dX10_times_38 : decode cX10_times 38 = .ok (.aload_n 0, 1) := by decide +kernel
theorem dX10_times_39 : decode cX10_times 39 = .ok (.invokevirtual 130, 3) := by decide +kernel
theorem dX10_times_42 : decode cX10_times 42 = .ok (.istore_n 1, 1) := by decide +kernel
theorem dX10_times_43 : decode cX10_times 43 = .ok (.aload_n 0, 1) := by decide +kernel
theorem dX10_times_44 : decode cX10_times 44 = .ok (.dup, 1) := by decide +kernel
theorem dX10_times_45 : decode cX10_times 45 = .ok (.getfield 120, 3) := by decide +kernel
theorem dX10_times_48 : decode cX10_times 48 = .ok (.iconst 1, 1) := by decide +kernel
theorem dX10_times_49 : decode cX10_times 49 = .ok (.iadd, 1) := by decide +kernel
theorem dX10_times_50 : decode cX10_times 50 = .ok (.putfield 120, 3) := by decide +kernel
theorem dX10_times_53 : decode cX10_times 53 = .ok (.aload_n 0, 1) := by decide +kernel
theorem dX10_times_54 : decode cX10_times 54 = .ok (.invokevirtual 144, 3) := by decide +kernel
theorem dX10_times_57 : decode cX10_times 57 = .ok (.aload_n 0, 1) := by decide +kernel
theorem dX10_times_58 : decode cX10_times 58 = .ok (.iload_n 1, 1) := by decide +kernel
theorem dX10_times_59 : decode cX10_times 59 = .ok (.iconst 0, 1) := by decide +kernel
theorem dX10_times_60 : decode cX10_times 60 = .ok (.invokevirtual 138, 3) := by decide +kernel
theorem dX10_times_63 : decode cX10_times 63 = .ok (.goto (-59), 3) := by decide +kernel
theorem dX10_times_66 : decode cX10_times 66 = .ok (.return_, 1) := by decide +kernel
theorem dX10_sum_0 : decode cX10_sum 0 = .ok (.aload_n 0, 1) := by decide +kernel
theorem dX10_sum_1 : decode cX10_sum 1 = .ok (.invokevirtual 160, 3) := by decide +kernel
theorem dX10_sum_4 : decode cX10_sum 4 = .ok (.aload_n 0, 1) := by decide +kernel
theorem dX10_sum_5 : decode cX10_sum 5 = .ok (.getfield 134, 3) := by decide +kernel
theorem dX10_sum_8 : decode cX10_sum 8 = .ok (.ifCond .ne 49, 3) := by decide +kernel
theorem dX10_sum_11 : decode cX10_sum 11 = .ok (.aload_n 0, 1) := by decide +kernel
theorem dX10_sum_12 : decode cX10_sum 12 = .ok (.invokevirtual 130, 3) := by decide +kernel
theorem dX10_sum_15 : decode cX10_sum 15 = .ok (.bipush 43, 2) := by decide +kernel
theorem dX10_sum_17 : decode cX10_sum 17 = .ok (.if_icmp .eq 12, 3) := by decide +kernel
theorem dX10_sum_20 : decode cX10_sum 20 = .ok (.aload_n 0, 1) := by decide +kernel
theorem dX10_sum_21 : decode cX10_sum 21 = .ok (.invokevirtual 130, 3) := by decide +kernel
theorem dX10_sum_24 : decode cX10_sum 24 = .ok (.bipush 45, 2) := by decide +kernel
theorem dX10_sum_26 : decode cX10_sum 26 = .ok (.if_icmp .ne 31, 3) := by decide +kernel
theorem dX10_sum_29 : decode cX10_sum 29 = .ok (.aload_n 0, 1) := by decide +kernel
theorem dX10_sum_30 : decode cX10_sum 30 = .ok (.invokevirtual 130, 3) := by decide +kernel
theorem dX10_sum_33 : decode cX10_sum 33 = .ok (.istore_n 1, 1) := by decide +kernel
theorem dX10_sum_34 : decode cX10_sum 34 = .ok (.aload_n 0, 1) := by decide +kernel
theorem dX10_sum_35 : decode cX10_sum 35 = .ok (.dup, 1) := by decide +kernel
theorem dX10_sum_36 : decode cX10_sum 36 = .ok (.getfield 120, 3) := by decide +kernel
theorem dX10_sum_39 : decode cX10_sum 39 = .ok (.iconst 1, 1) := by decide +kernel
theorem dX10_sum_40 : decode cX10_sum 40 = .ok (.iadd, 1) := by decide +kernel
theorem dX10_sum_41 : decode cX10_sum 41 = .ok (.putfield 120, 3) := by decide +kernel
theorem dX10_sum_44 : decode cX10_sum 44 = .ok (.aload_n 0, 1) := by decide +kernel
theorem dX10_sum_45 : decode cX10_sum 45 = .ok (.invokevirtual 160, 3) := by decide +kernel
theorem dX10_sum_48 : decode cX10_sum 48 = .ok (.aload_n 0, 1) := by decide +kernel
theorem dX10_sum_49 : decode cX10_sum 49 = .ok (.iload_n 1, 1) := by decide +kernel
theorem dX10_sum_50 : decode cX10_sum 50 = .ok (.iconst 0, 1) := by decide +kernel
theorem dX10_sum_51 : decode cX10_sum 51 = .ok (.invokevirtual 138, 3) := by decide +kernel
theorem dX10_sum_54 : decode cX10_sum 54 = .ok (.goto (-50), 3) := by decide +kernel
theorem dX10_sum_57 : decode cX10_sum 57 = .ok (.return_, 1) := by decide +kernel
theorem dX10_compares_0 : decode cX10_compares 0 = .ok (.aload_n 0, 1) := by decide +kernel
theorem dX10_compares_1 : decode cX10_compares 1 = .ok (.invokevirtual 163, 3) := by decide +kernel
theorem dX10_compares_4 : decode cX10_compares 4 = .ok (.aload_n 0, 1) := by decide +kernel
theorem dX10_compares_5 : decode cX10_compares 5 = .ok (.invokevirtual 130, 3) := by decide +kernel
theorem dX10_compares_8 : decode cX10_compares 8 = .ok (.istore_n 1, 1) := by decide +kernel
theorem dX10_compares_9 : decode cX10_compares 9 = .ok (.aload_n 0, 1) := by decide +kernel
theorem dX10_compares_10 : decode cX10_compares 10 = .ok (.getfield 134, 3) := by decide +kernel
theorem dX10_compares_13 : decode cX10_compares 13 = .ok (.ifCond .ne 41, 3) := by decide +kernel
theorem dX10_compares_16 : decode cX10_compares 16 = .ok (.iload_n 1, 1) := by decide +kernel
theorem dX10_compares_17 : decode cX10_compares 17 = .ok (.bipush 60, 2) := by decide +kernel
theorem dX10_compares_19 : decode cX10_compares 19 = .ok (.if_icmp .eq 15, 3) := by decide +kernel
theorem dX10_compares_22 : decode cX10_compares 22 = .ok (.iload_n 1, 1) := by decide +kernel
theorem dX10_compares_23 : decode cX10_compares 23 = .ok (.bipush 61, 2) := by decide +kernel
theorem dX10_compares_25 : decode cX10_compares 25 = .ok (.if_icmp .eq 9, 3) := by decide +kernel
theorem dX10_compares_28 : decode cX10_compares 28 = .ok (.iload_n 1, 1) := by decide +kernel
theorem dX10_compares_29 : decode cX10_compares 29 = .ok (.bipush 62, 2) := by decide +kernel
theorem dX10_compares_31 : decode cX10_compares 31 = .ok (.if_icmp .ne 23, 3) := by decide +kernel
theorem dX10_compares_34 : decode cX10_compares 34 = .ok (.aload_n 0, 1) := by decide +kernel
theorem dX10_compares_35 : decode cX10_compares 35 = .ok (.dup, 1) := by decide +kernel
theorem dX10_compares_36 : decode cX10_compares 36 = .ok (.getfield 120, 3) := by decide +kernel
theorem dX10_compares_39 : decode cX10_compares 39 = .ok (.iconst 1, 1) := by decide +kernel
theorem dX10_compares_40 : decode cX10_compares 40 = .ok (.iadd, 1) := by decide +kernel
theorem dX10_compares_41 : decode cX10_compares 41 = .ok (.putfield 120, 3) := by decide +kernel
theorem dX10_compares_44 : decode cX10_compares 44 = .ok (.aload_n 0, 1) := by decide +kernel
theorem dX10_compares_45 : decode cX10_compares 45 = .ok (.invokevirtual 163, 3) := by decide +kernel
theorem dX10_compares_48 : decode cX10_compares 48 = .ok (.aload_n 0, 1) := by decide +kernel
theorem dX10_compares_49 : decode cX10_compares 49 = .ok (.iload_n 1, 1) := by decide +kernel
theorem dX10_compares_50 : decode cX10_compares 50 = .ok (.iconst 0, 1) := by decide +kernel
theorem dX10_compares_51 : decode cX10_compares 51 = .ok (.invokevirtual 138, 3) := by decide +kernel
theorem dX10_compares_54 : decode cX10_compares 54 = .ok (.return_, 1) := by decide +kernel
theorem dX10_all_0 : decode cX10_all 0 = .ok (.aload_n 0, 1) := by decide +kernel
theorem dX10_all_1 : decode cX10_all 1 = .ok (.invokevirtual 166, 3) := by decide +kernel
theorem dX10_all_4 : decode cX10_all 4 = .ok (.aload_n 0, 1) := by decide +kernel
theorem dX10_all_5 : decode cX10_all 5 = .ok (.getfield 134, 3) := by decide +kernel
theorem dX10_all_8 : decode cX10_all 8 = .ok (.ifCond .ne 36, 3) := by decide +kernel
theorem dX10_all_11 : decode cX10_all 11 = .ok (.aload_n 0, 1) := by decide +kernel
theorem dX10_all_12 : decode cX10_all 12 = .ok (.invokevirtual 130, 3) := by decide +kernel
theorem dX10_all_15 : decode cX10_all 15 = .ok (.bipush 38, 2) := by decide +kernel
theorem dX10_all_17 : decode cX10_all 17 = .ok (.if_icmp .ne 27, 3) := by decide +kernel
theorem dX10_all_20 : decode cX10_all 20 = .ok (.aload_n 0, 1) := by decide +kernel
theorem dX10_all_21 : decode cX10_all 21 = .ok (.dup, 1) := by decide +kernel
theorem dX10_all_22 : decode cX10_all 22 = .ok (.getfield 120, 3) := by decide +kernel
theorem dX10_all_25 : decode cX10_all 25 = .ok (.iconst 1, 1) := by decide +kernel
theorem dX10_all_26 : decode cX10_all 26 = .ok (.iadd, 1) := by decide +kernel
theorem dX10_all_27 : decode cX10_all 27 = .ok (.putfield 120, 3) := by decide +kernel
theorem dX10_all_30 : decode cX10_all 30 = .ok (.aload_n 0, 1) := by decide +kernel
theorem dX10_all_31 : decode cX10_all 31 = .ok (.invokevirtual 166, 3) := by decide +kernel
theorem dX10_all_34 : decode cX10_all 34 = .ok (.aload_n 0, 1) := by decide +kernel
theorem dX10_all_35 : decode cX10_all 35 = .ok (.bipush 38, 2) := by decide +kernel
theorem dX10_all_37 : decode cX10_all 37 = .ok (.iconst 0, 1) := by decide +kernel
theorem dX10_all_38 : decode cX10_all 38 = .ok (.invokevirtual 138, 3) := by decide +kernel
theorem dX10_all_41 : decode cX10_all 41 = .ok (.goto (-37), 3) := by decide +kernel
theorem dX10_all_44 : decode cX10_all 44 = .ok (.return_, 1) := by decide +kernel
theorem dX10_any_0 : decode cX10_any 0 = .ok (.aload_n 0, 1) := by decide +kernel
theorem dX10_any_1 : decode cX10_any 1 = .ok (.invokevirtual 169, 3) := by decide +kernel
theorem dX10_any_4 : decode cX10_any 4 = .ok (.aload_n 0, 1) := by decide +kernel
theorem dX10_any_5 : decode cX10_any 5 = .ok (.getfield 134, 3) := by decide +kernel
theorem dX10_any_8 : decode cX10_any 8 = .ok (.ifCond .ne 36, 3) := by decide +kernel
theorem dX10_any_11 : decode cX10_any 11 = .ok (.aload_n 0, 1) := by decide +kernel
theorem dX10_any_12 : decode cX10_any 12 = .ok (.invokevirtual 130, 3) := by decide +kernel
theorem dX10_any_15 : decode cX10_any 15 = .ok (.bipush 124, 2) := by decide +kernel
theorem dX10_any_17 : decode cX10_any 17 = .ok (.if_icmp .ne 27, 3) := by decide +kernel
theorem dX10_any_20 : decode cX10_any 20 = .ok (.aload_n 0, 1) := by decide +kernel
theorem dX10_any_21 : decode cX10_any 21 = .ok (.dup, 1) := by decide +kernel
theorem dX10_any_22 : decode cX10_any 22 = .ok (.getfield 120, 3) := by decide +kernel
theorem dX10_any_25 : decode cX10_any 25 = .ok (.iconst 1, 1) := by decide +kernel
theorem dX10_any_26 : decode cX10_any 26 = .ok (.iadd, 1) := by decide +kernel
theorem dX10_any_27 : decode cX10_any 27 = .ok (.putfield 120, 3) := by decide +kernel
theorem dX10_any_30 : decode cX10_any 30 = .ok (.aload_n 0, 1) := by decide +kernel
theorem dX10_any_31 : decode cX10_any 31 = .ok (.invokevirtual 169, 3) := by decide +kernel
theorem dX10_any_34 : decode cX10_any 34 = .ok (.aload_n 0, 1) := by decide +kernel
theorem dX10_any_35 : decode cX10_any 35 = .ok (.bipush 124, 2) := by decide +kernel
theorem dX10_any_37 : decode cX10_any 37 = .ok (.iconst 0, 1) := by decide +kernel
theorem dX10_any_38 : decode cX10_any 38 = .ok (.invokevirtual 138, 3) := by decide +kernel
theorem dX10_any_41 : decode cX10_any 41 = .ok (.goto (-37), 3) := by decide +kernel
theorem dX10_any_44 : decode cX10_any 44 = .ok (.return_, 1) := by decide +kernel
theorem dX10_text_0 : decode cX10_text 0 = .ok (.iload_n 1, 1) := by decide +kernel
theorem dX10_text_1 : decode cX10_text 1 = .ok (.iconst 0, 1) := by decide +kernel
theorem dX10_text_2 : decode cX10_text 2 = .ok (.iconst 1, 1) := by decide +kernel
theorem dX10_text_3 : decode cX10_text 3 = .ok (.invokestatic 51, 3) := by decide +kernel
theorem dX10_text_6 : decode cX10_text 6 = .ok (.ifCond .ne 10, 3) := by decide +kernel
theorem dX10_text_9 : decode cX10_text 9 = .ok (.aload_n 0, 1) := by decide +kernel
theorem dX10_text_10 : decode cX10_text 10 = .ok (.ldc 90, 2) := by decide +kernel
theorem dX10_text_12 : decode cX10_text 12 = .ok (.invokevirtual 91, 3) := by decide +kernel
theorem dX10_text_15 : decode cX10_text 15 = .ok (.ireturn, 1) := by decide +kernel
theorem dX10_text_16 : decode cX10_text 16 = .ok (.aload_n 0, 1) := by decide +kernel
theorem dX10_text_17 : decode cX10_text 17 = .ok (.iload_n 1, 1) := by decide +kernel
theorem dX10_text_18 : decode cX10_text 18 = .ok (.putfield 127, 3) := by decide +kernel
theorem dX10_text_21 : decode cX10_text 21 = .ok (.aload_n 0, 1) := by decide +kernel
theorem dX10_text_22 : decode cX10_text 22 = .ok (.iconst 0, 1) := by decide +kernel
theorem dX10_text_23 : decode cX10_text 23 = .ok (.putfield 124, 3) := by decide +kernel
theorem dX10_text_26 : decode cX10_text 26 = .ok (.aload_n 0, 1) := by decide +kernel
theorem dX10_text_27 : decode cX10_text 27 = .ok (.iconst 0, 1) := by decide +kernel
theorem dX10_text_28 : decode cX10_text 28 = .ok (.putfield 120, 3) := by decide +kernel
theorem dX10_text_31 : decode cX10_text 31 = .ok (.aload_n 0, 1) := by decide +kernel
theorem dX10_text_32 : decode cX10_text 32 = .ok (.iconst 0, 1) := by decide +kernel
theorem dX10_text_33 : decode cX10_text 33 = .ok (.putfield 141, 3) := by decide +kernel
theorem dX10_text_36 : decode cX10_text 36 = .ok (.aload_n 0, 1) := by decide +kernel
theorem dX10_text_37 : decode cX10_text 37 = .ok (.iconst 0, 1) := by decide +kernel
theorem dX10_text_38 : decode cX10_text 38 = .ok (.putfield 134, 3) := by decide +kernel
theorem dX10_text_41 : decode cX10_text 41 = .ok (.aload_n 0, 1) := by decide +kernel
theorem dX10_text_42 : decode cX10_text 42 = .ok (.invokevirtual 147, 3) := by decide +kernel
theorem dX10_text_45 : decode cX10_text 45 = .ok (.aload_n 0, 1) := by decide +kernel
theorem dX10_text_46 : decode cX10_text 46 = .ok (.aload_n 0, 1) := by decide +kernel
theorem dX10_text_47 : decode cX10_text 47 = .ok (.getfield 134, 3) := by decide +kernel
theorem dX10_text_50 : decode cX10_text 50 = .ok (.ifCond .ne 16, 3) := by decide +kernel
theorem dX10_text_53 : decode cX10_text 53 = .ok (.aload_n 0, 1) := by decide +kernel
theorem dX10_text_54 : decode cX10_text 54 = .ok (.getfield 120, 3) := by decide +kernel
theorem dX10_text_57 : decode cX10_text 57 = .ok (.aload_n 0, 1) := by decide +kernel
theorem dX10_text_58 : decode cX10_text 58 = .ok (.getfield 9, 3) := by decide +kernel
theorem dX10_text_61 : decode cX10_text 61 = .ok (.iconst 5, 1) := by decide +kernel
theorem dX10_text_62 : decode cX10_text 62 = .ok (.iaload, 1) := by decide +kernel
theorem dX10_text_63 : decode cX10_text 63 = .ok (.if_icmp .ge 7, 3) := by decide +kernel
theorem dX10_text_66 : decode cX10_text 66 = .ok (.iconst 1, 1) := by decide +kernel
theorem dX10_text_67 : decode cX10_text 67 = .ok (.goto 4, 3) := by decide +kernel
theorem dX10_text_70 : decode cX10_text 70 = .ok (.iconst 0, 1) := by decide +kernel
theorem dX10_text_71 : decode cX10_text 71 = .ok (.putfield 134, 3) := by decide +kernel
theorem dX10_text_74 : decode cX10_text 74 = .ok (.aload_n 0, 1) := by decide +kernel
theorem dX10_text_75 : decode cX10_text 75 = .ok (.getfield 9, 3) := by decide +kernel
theorem dX10_text_78 : decode cX10_text 78 = .ok (.iconst 5, 1) := by decide +kernel
theorem dX10_text_79 : decode cX10_text 79 = .ok (.iconst 0, 1) := by decide +kernel
theorem dX10_text_80 : decode cX10_text 80 = .ok (.iastore, 1) := by decide +kernel
theorem dX10_text_81 : decode cX10_text 81 = .ok (.aload_n 0, 1) := by decide +kernel
theorem dX10_text_82 : decode cX10_text 82 = .ok (.getfield 134, 3) := by decide +kernel
theorem dX10_text_85 : decode cX10_text 85 = .ok (.ifCond .eq 11, 3) := by decide +kernel
theorem dX10_text_88 : decode cX10_text 88 = .ok (.bipush (-10), 2) := by decide +kernel
theorem dX10_text_90 : decode cX10_text 90 = .ok (.aload_n 0, 1) := by decide +kernel
theorem dX10_text_91 : decode cX10_text 91 = .ok (.getfield 120, 3) := by decide +kernel
theorem dX10_text_94 : decode cX10_text 94 = .ok (.isub, 1) := by decide +kernel
theorem dX10_text_95 : decode cX10_text 95 = .ok (.ireturn, 1) := by decide +kernel
theorem dX10_text_96 : decode cX10_text 96 = .ok (.sipush 143, 3) := by decide +kernel
theorem dX10_text_99 : decode cX10_text 99 = .ok (.bipush 121, 2) := by decide +kernel
theorem dX10_text_101 : decode cX10_text 101 = .ok (.iload_n 1, 1) := by decide +kernel
theorem dX10_text_102 : decode cX10_text 102 = .ok (.imul, 1) := by decide +kernel
theorem dX10_text_103 : decode cX10_text 103 = .ok (.iadd, 1) := by decide +kernel
theorem dX10_text_104 : decode cX10_text 104 = .ok (.istore_n 2, 1) := by decide +kernel
theorem dX10_text_105 : decode cX10_text 105 = .ok (.aload_n 0, 1) := by decide +kernel
theorem dX10_text_106 : decode cX10_text 106 = .ok (.getfield 9, 3) := by decide +kernel
theorem dX10_text_109 : decode cX10_text 109 = .ok (.iload_n 2, 1) := by decide +kernel
theorem dX10_text_110 : decode cX10_text 110 = .ok (.aload_n 0, 1) := by decide +kernel
theorem dX10_text_111 : decode cX10_text 111 = .ok (.getfield 124, 3) := by decide +kernel
theorem dX10_text_114 : decode cX10_text 114 = .ok (.iastore, 1) := by decide +kernel
theorem dX10_text_115 : decode cX10_text 115 = .ok (.iconst 0, 1) := by decide +kernel
theorem dX10_text_116 : decode cX10_text 116 = .ok (.istore_n 3, 1) := by decide +kernel
theorem dX10_text_117 : decode cX10_text 117 = .ok (.iload_n 3, 1) := by decide +kernel
theorem dX10_text_118 : decode cX10_text 118 = .ok (.aload_n 0, 1) := by decide +kernel
theorem dX10_text_119 : decode cX10_text 119 = .ok (.getfield 124, 3) := by decide +kernel
theorem dX10_text_122 : decode cX10_text 122 = .ok (.if_icmp .ge 42, 3) := by decide +kernel
theorem dX10_text_125 : decode cX10_text 125 = .ok (.aload_n 0, 1) := by decide +kernel
theorem dX10_text_126 : decode cX10_text 126 = .ok (.getfield 9, 3) := by decide +kernel
theorem dX10_text_129 : decode cX10_text 129 = .ok (.iload_n 2, 1) := by decide +kernel
theorem dX10_text_130 : decode cX10_text 130 = .ok (.iconst 1, 1) := by decide +kernel
theorem dX10_text_131 : decode cX10_text 131 = .ok (.iadd, 1) := by decide +kernel
theorem dX10_text_132 : decode cX10_text 132 = .ok (.iload_n 3, 1) := by decide +kernel
theorem dX10_text_133 : decode cX10_text 133 = .ok (.iadd, 1) := by decide +kernel
theorem dX10_text_134 : decode cX10_text 134 = .ok (.aload_n 0, 1) := by decide +kernel
theorem dX10_text_135 : decode cX10_text 135 = .ok (.getfield 31, 3) := by decide +kernel
theorem dX10_text_138 : decode cX10_text 138 = .ok (.iload_n 3, 1) := by decide +kernel
theorem dX10_text_139 : decode cX10_text 139 = .ok (.iaload, 1) := by decide +kernel
theorem dX10_text_140 : decode cX10_text 140 = .ok (.iastore, 1) := by decide +kernel
theorem dX10_text_141 : decode cX10_text 141 = .ok (.aload_n 0, 1) := by decide +kernel
theorem dX10_text_142 : decode cX10_text 142 = .ok (.getfield 9, 3) := by decide +kernel
theorem dX10_text_145 : decode cX10_text 145 = .ok (.iload_n 2, 1) := by decide +kernel
theorem dX10_text_146 : decode cX10_text 146 = .ok (.bipush 61, 2) := by decide +kernel
theorem dX10_text_148 : decode cX10_text 148 = .ok (.iadd, 1) := by decide +kernel
theorem dX10_text_149 : decode cX10_text 149 = .ok (.iload_n 3, 1) := by decide +kernel
theorem dX10_text_150 : decode cX10_text 150 = .ok (.iadd, 1) := by decide +kernel
theorem dX10_text_151 : decode cX10_text 151 = .ok (.aload_n 0, 1) := by decide +kernel
theorem dX10_text_152 : decode cX10_text 152 = .ok (.getfield 34, 3) := by decide +kernel
theorem dX10_text_155 : decode cX10_text 155 = .ok (.iload_n 3, 1) := by decide +kernel
theorem dX10_text_156 : decode cX10_text 156 = .ok (.iaload, 1) := by decide +kernel
theorem dX10_text_157 : decode cX10_text 157 = .ok (.iastore, 1) := by decide +kernel
theorem dX10_text_158 : decode cX10_text 158 = .ok (.iinc 3 1, 3) := by decide +kernel
theorem dX10_text_161 : decode cX10_text 161 = .ok (.goto (-44), 3) := by decide +kernel
theorem dX10_text_164 : decode cX10_text 164 = .ok (.iconst 1, 1) := by decide +kernel
theorem dX10_text_165 : decode cX10_text 165 = .ok (.ireturn, 1) := by decide +kernel
theorem dX10_untell_0 : decode cX10_untell 0 = .ok (.iload_n 1, 1) := by decide +kernel
theorem dX10_untell_1 : decode cX10_untell 1 = .ok (.iconst 0, 1) := by decide +kernel
theorem dX10_untell_2 : decode cX10_untell 2 = .ok (.iconst 1, 1) := by decide +kernel
theorem dX10_untell_3 : decode cX10_untell 3 = .ok (.invokestatic 51, 3) := by decide +kernel
theorem dX10_untell_6 : decode cX10_untell 6 = .ok (.ifCond .ne 10, 3) := by decide +kernel
theorem dX10_untell_9 : decode cX10_untell 9 = .ok (.aload_n 0, 1) := by decide +kernel
theorem dX10_untell_10 : decode cX10_untell 10 = .ok (.ldc 90, 2) := by decide +kernel
theorem dX10_untell_12 : decode cX10_untell 12 = .ok (.invokevirtual 91, 3) := by decide +kernel
theorem dX10_untell_15 : decode cX10_untell 15 = .ok (.ireturn, 1) := by decide +kernel
theorem dX10_untell_16 : decode cX10_untell 16 = .ok (.aload_n 0, 1) := by decide +kernel
theorem dX10_untell_17 : decode cX10_untell 17 = .ok (.sipush 143, 3) := by decide +kernel
theorem dX10_untell_20 : decode cX10_untell 20 = .ok (.bipush 121, 2) := by decide +kernel
theorem dX10_untell_22 : decode cX10_untell 22 = .ok (.iload_n 1, 1) := by decide +kernel
theorem dX10_untell_23 : decode cX10_untell 23 = .ok (.imul, 1) := by decide +kernel
theorem dX10_untell_24 : decode cX10_untell 24 = .ok (.iadd, 1) := by decide +kernel
theorem dX10_untell_25 : decode cX10_untell 25 = .ok (.iconst 0, 1) := by decide +kernel
theorem dX10_untell_26 : decode cX10_untell 26 = .ok (.invokevirtual 105, 3) := by decide +kernel
theorem dX10_untell_29 : decode cX10_untell 29 = .ok (.ifCond .le 7, 3) := by decide +kernel
theorem dX10_untell_32 : decode cX10_untell 32 = .ok (.iconst 1, 1) := by decide +kernel
theorem dX10_untell_33 : decode cX10_untell 33 = .ok (.goto 4, 3) := by decide +kernel
theorem dX10_untell_36 : decode cX10_untell 36 = .ok (.iconst 0, 1) := by decide +kernel
theorem dX10_untell_37 : decode cX10_untell 37 = .ok (.ireturn, 1) := by decide +kernel
theorem dX10_twoOf_0 : decode cX10_twoOf 0 = .ok (.iload_n 0, 1) := by decide +kernel
theorem dX10_twoOf_1 : decode cX10_twoOf 1 = .ok (.tableswitch 202 37 62 #[143, 188, 202, 202, 202, 127, 119, 202, 123, 202, 131, 202, 202, 202, 202, 202, 202, 202, 202, 202, 202, 202, 202, 155, 166, 177], 119) := by decide +kernel
theorem dX10_twoOf_120 : decode cX10_twoOf 120 = .ok (.iload_n 1, 1) := by decide +kernel
theorem dX10_twoOf_121 : decode cX10_twoOf 121 = .ok (.iload_n 2, 1) := by decide +kernel
theorem dX10_twoOf_122 : decode cX10_twoOf 122 = .ok (.iadd, 1) := by decide +kernel
theorem dX10_twoOf_123 : decode cX10_twoOf 123 = .ok (.ireturn, 1) := by decide +kernel
theorem dX10_twoOf_124 : decode cX10_twoOf 124 = .ok (.iload_n 1, 1) := by decide +kernel
theorem dX10_twoOf_125 : decode cX10_twoOf 125 = .ok (.iload_n 2, 1) := by decide +kernel
theorem dX10_twoOf_126 : decode cX10_twoOf 126 = .ok (.isub, 1) := by decide +kernel
theorem dX10_twoOf_127 : decode cX10_twoOf 127 = .ok (.ireturn, 1) := by decide +kernel
theorem dX10_twoOf_128 : decode cX10_twoOf 128 = .ok (.iload_n 1, 1) := by decide +kernel
theorem dX10_twoOf_129 : decode cX10_twoOf 129 = .ok (.iload_n 2, 1) := by decide +kernel
theorem dX10_twoOf_130 : decode cX10_twoOf 130 = .ok (.imul, 1) := by decide +kernel
theorem dX10_twoOf_131 : decode cX10_twoOf 131 = .ok (.ireturn, 1) := by decide +kernel
theorem dX10_twoOf_132 : decode cX10_twoOf 132 = .ok (.iload_n 2, 1) := by decide +kernel
theorem dX10_twoOf_133 : decode cX10_twoOf 133 = .ok (.ifCond .ne 7, 3) := by decide +kernel
theorem dX10_twoOf_136 : decode cX10_twoOf 136 = .ok (.iconst 0, 1) := by decide +kernel
theorem dX10_twoOf_137 : decode cX10_twoOf 137 = .ok (.goto 6, 3) := by decide +kernel
theorem dX10_twoOf_140 : decode cX10_twoOf 140 = .ok (.iload_n 1, 1) := by decide +kernel
theorem dX10_twoOf_141 : decode cX10_twoOf 141 = .ok (.iload_n 2, 1) := by decide +kernel
theorem dX10_twoOf_142 : decode cX10_twoOf 142 = .ok (.idiv, 1) := by decide +kernel
theorem dX10_twoOf_143 : decode cX10_twoOf 143 = .ok (.ireturn, 1) := by decide +kernel
theorem dX10_twoOf_144 : decode cX10_twoOf 144 = .ok (.iload_n 2, 1) := by decide +kernel
theorem dX10_twoOf_145 : decode cX10_twoOf 145 = .ok (.ifCond .ne 7, 3) := by decide +kernel
theorem dX10_twoOf_148 : decode cX10_twoOf 148 = .ok (.iconst 0, 1) := by decide +kernel
theorem dX10_twoOf_149 : decode cX10_twoOf 149 = .ok (.goto 6, 3) := by decide +kernel
theorem dX10_twoOf_152 : decode cX10_twoOf 152 = .ok (.iload_n 1, 1) := by decide +kernel
theorem dX10_twoOf_153 : decode cX10_twoOf 153 = .ok (.iload_n 2, 1) := by decide +kernel
theorem dX10_twoOf_154 : decode cX10_twoOf 154 = .ok (.irem, 1) := by decide +kernel
theorem dX10_twoOf_155 : decode cX10_twoOf 155 = .ok (.ireturn, 1) := by decide +kernel
theorem dX10_twoOf_156 : decode cX10_twoOf 156 = .ok (.iload_n 1, 1) := by decide +kernel
theorem dX10_twoOf_157 : decode cX10_twoOf 157 = .ok (.iload_n 2, 1) := by decide +kernel
theorem dX10_twoOf_158 : decode cX10_twoOf 158 = .ok (.if_icmp .ge 7, 3) := by decide +kernel
theorem dX10_twoOf_161 : decode cX10_twoOf 161 = .ok (.iconst 1, 1) := by decide +kernel
theorem dX10_twoOf_162 : decode cX10_twoOf 162 = .ok (.goto 4, 3) := by decide +kernel
theorem dX10_twoOf_165 : decode cX10_twoOf 165 = .ok (.iconst 0, 1) := by decide +kernel
theorem dX10_twoOf_166 : decode cX10_twoOf 166 = .ok (.ireturn, 1) := by decide +kernel
theorem dX10_twoOf_167 : decode cX10_twoOf 167 = .ok (.iload_n 1, 1) := by decide +kernel
theorem dX10_twoOf_168 : decode cX10_twoOf 168 = .ok (.iload_n 2, 1) := by decide +kernel
theorem dX10_twoOf_169 : decode cX10_twoOf 169 = .ok (.if_icmp .ne 7, 3) := by decide +kernel
theorem dX10_twoOf_172 : decode cX10_twoOf 172 = .ok (.iconst 1, 1) := by decide +kernel
theorem dX10_twoOf_173 : decode cX10_twoOf 173 = .ok (.goto 4, 3) := by decide +kernel
theorem dX10_twoOf_176 : decode cX10_twoOf 176 = .ok (.iconst 0, 1) := by decide +kernel
theorem dX10_twoOf_177 : decode cX10_twoOf 177 = .ok (.ireturn, 1) := by decide +kernel
theorem dX10_twoOf_178 : decode cX10_twoOf 178 = .ok (.iload_n 1, 1) := by decide +kernel
theorem dX10_twoOf_179 : decode cX10_twoOf 179 = .ok (.iload_n 2, 1) := by decide +kernel
theorem dX10_twoOf_180 : decode cX10_twoOf 180 = .ok (.if_icmp .le 7, 3) := by decide +kernel
theorem dX10_twoOf_183 : decode cX10_twoOf 183 = .ok (.iconst 1, 1) := by decide +kernel
theorem dX10_twoOf_184 : decode cX10_twoOf 184 = .ok (.goto 4, 3) := by decide +kernel
theorem dX10_twoOf_187 : decode cX10_twoOf 187 = .ok (.iconst 0, 1) := by decide +kernel
theorem dX10_twoOf_188 : decode cX10_twoOf 188 = .ok (.ireturn, 1) := by decide +kernel
theorem dX10_twoOf_189 : decode cX10_twoOf 189 = .ok (.iload_n 1, 1) := by decide +kernel
theorem dX10_twoOf_190 : decode cX10_twoOf 190 = .ok (.ifCond .eq 11, 3) := by decide +kernel
theorem dX10_twoOf_193 : decode cX10_twoOf 193 = .ok (.iload_n 2, 1) := by decide +kernel
theorem dX10_twoOf_194 : decode cX10_twoOf 194 = .ok (.ifCond .eq 7, 3) := by decide +kernel
theorem dX10_twoOf_197 : decode cX10_twoOf 197 = .ok (.iconst 1, 1) := by decide +kernel
theorem dX10_twoOf_198 : decode cX10_twoOf 198 = .ok (.goto 4, 3) := by decide +kernel
theorem dX10_twoOf_201 : decode cX10_twoOf 201 = .ok (.iconst 0, 1) := by decide +kernel
theorem dX10_twoOf_202 : decode cX10_twoOf 202 = .ok (.ireturn, 1) := by decide +kernel
theorem dX10_twoOf_203 : decode cX10_twoOf 203 = .ok (.iload_n 1, 1) := by decide +kernel
theorem dX10_twoOf_204 : decode cX10_twoOf 204 = .ok (.ifCond .ne 7, 3) := by decide +kernel
theorem dX10_twoOf_207 : decode cX10_twoOf 207 = .ok (.iload_n 2, 1) := by decide +kernel
theorem dX10_twoOf_208 : decode cX10_twoOf 208 = .ok (.ifCond .eq 7, 3) := by decide +kernel
theorem dX10_twoOf_211 : decode cX10_twoOf 211 = .ok (.iconst 1, 1) := by decide +kernel
theorem dX10_twoOf_212 : decode cX10_twoOf 212 = .ok (.goto 4, 3) := by decide +kernel
theorem dX10_twoOf_215 : decode cX10_twoOf 215 = .ok (.iconst 0, 1) := by decide +kernel
theorem dX10_twoOf_216 : decode cX10_twoOf 216 = .ok (.ireturn, 1) := by decide +kernel
theorem dX10_works_0 : decode cX10_works 0 = .ok (.iconst 0, 1) := by decide +kernel
theorem dX10_works_1 : decode cX10_works 1 = .ok (.istore_n 2, 1) := by decide +kernel
theorem dX10_works_2 : decode cX10_works 2 = .ok (.iconst 0, 1) := by decide +kernel
theorem dX10_works_3 : decode cX10_works 3 = .ok (.istore_n 3, 1) := by decide +kernel
theorem dX10_works_4 : decode cX10_works 4 = .ok (.iload_n 3, 1) := by decide +kernel
theorem dX10_works_5 : decode cX10_works 5 = .ok (.aload_n 0, 1) := by decide +kernel
theorem dX10_works_6 : decode cX10_works 6 = .ok (.getfield 9, 3) := by decide +kernel
theorem dX10_works_9 : decode cX10_works 9 = .ok (.iload_n 1, 1) := by decide +kernel
theorem dX10_works_10 : decode cX10_works 10 = .ok (.iaload, 1) := by decide +kernel
theorem dX10_works_11 : decode cX10_works 11 = .ok (.if_icmp .ge 144, 3) := by decide +kernel
theorem dX10_works_14 : decode cX10_works 14 = .ok (.aload_n 0, 1) := by decide +kernel
theorem dX10_works_15 : decode cX10_works 15 = .ok (.getfield 9, 3) := by decide +kernel
theorem dX10_works_18 : decode cX10_works 18 = .ok (.iload_n 1, 1) := by decide +kernel
theorem dX10_works_19 : decode cX10_works 19 = .ok (.iconst 1, 1) := by decide +kernel
theorem dX10_works_20 : decode cX10_works 20 = .ok (.iadd, 1) := by decide +kernel
theorem dX10_works_21 : decode cX10_works 21 = .ok (.iload_n 3, 1) := by decide +kernel
theorem dX10_works_22 : decode cX10_works 22 = .ok (.iadd, 1) := by decide +kernel
theorem dX10_works_23 : decode cX10_works 23 = .ok (.iaload, 1) := by decide +kernel
theorem dX10_works_24 : decode cX10_works 24 = .ok (.istore 4, 2) := by decide +kernel
theorem dX10_works_26 : decode cX10_works 26 = .ok (.iload 4, 2) := by decide +kernel
theorem dX10_works_28 : decode cX10_works 28 = .ok (.iconst 1, 1) := by decide +kernel
theorem dX10_works_29 : decode cX10_works 29 = .ok (.if_icmp .eq 9, 3) := by decide +kernel
theorem dX10_works_32 : decode cX10_works 32 = .ok (.iload 4, 2) := by decide +kernel
theorem dX10_works_34 : decode cX10_works 34 = .ok (.iconst 2, 1) := by decide +kernel
theorem dX10_works_35 : decode cX10_works 35 = .ok (.if_icmp .ne 51, 3) := by decide +kernel
theorem dX10_works_38 : decode cX10_works 38 = .ok (.aload_n 0, 1) := by decide +kernel
theorem dX10_works_39 : decode cX10_works 39 = .ok (.getfield 40, 3) := by decide +kernel
theorem dX10_works_42 : decode cX10_works 42 = .ok (.iload_n 2, 1) := by decide +kernel
theorem dX10_works_43 : decode cX10_works 43 = .ok (.iload 4, 2) := by decide +kernel
theorem dX10_works_45 : decode cX10_works 45 = .ok (.iconst 1, 1) := by decide +kernel
theorem dX10_works_46 : decode cX10_works 46 = .ok (.if_icmp .ne 17, 3) := by decide +kernel
theorem dX10_works_49 : decode cX10_works 49 = .ok (.aload_n 0, 1) := by decide +kernel
theorem dX10_works_50 : decode cX10_works 50 = .ok (.getfield 9, 3) := by decide +kernel
theorem dX10_works_53 : decode cX10_works 53 = .ok (.iload_n 1, 1) := by decide +kernel
theorem dX10_works_54 : decode cX10_works 54 = .ok (.bipush 61, 2) := by decide +kernel
theorem dX10_works_56 : decode cX10_works 56 = .ok (.iadd, 1) := by decide +kernel
theorem dX10_works_57 : decode cX10_works 57 = .ok (.iload_n 3, 1) := by decide +kernel
theorem dX10_works_58 : decode cX10_works 58 = .ok (.iadd, 1) := by decide +kernel
theorem dX10_works_59 : decode cX10_works 59 = .ok (.iaload, 1) := by decide +kernel
theorem dX10_works_60 : decode cX10_works 60 = .ok (.goto 19, 3) := by decide +kernel
theorem dX10_works_63 : decode cX10_works 63 = .ok (.aload_n 0, 1) := by decide +kernel
theorem dX10_works_64 : decode cX10_works 64 = .ok (.getfield 37, 3) := by decide +kernel
theorem dX10_works_67 : decode cX10_works 67 = .ok (.aload_n 0, 1) := by decide +kernel
theorem dX10_works_68 : decode cX10_works 68 = .ok (.getfield 9, 3) := by decide +kernel
theorem dX10_works_71 : decode cX10_works 71 = .ok (.iload_n 1, 1) := by decide +kernel
theorem dX10_works_72 : decode cX10_works 72 = .ok (.bipush 61, 2) := by decide +kernel
theorem dX10_works_74 : decode cX10_works 74 = .ok (.iadd, 1) := by decide +kernel
theorem dX10_works_75 : decode cX10_works 75 = .ok (.iload_n 3, 1) := by decide +kernel
theorem dX10_works_76 : decode cX10_works 76 = .ok (.iadd, 1) := by decide +kernel
theorem dX10_works_77 : decode cX10_works 77 = .ok (.iaload, 1) := by decide +kernel
theorem dX10_works_78 : decode cX10_works 78 = .ok (.iaload, 1) := by decide +kernel
theorem dX10_works_79 : decode cX10_works 79 = .ok (.iastore, 1) := by decide +kernel
theorem dX10_works_80 : decode cX10_works 80 = .ok (.iinc 2 1, 3) := by decide +kernel
theorem dX10_works_83 : decode cX10_works 83 = .ok (.goto 66, 3) := by decide +kernel
theorem dX10_works_86 : decode cX10_works 86 = .ok (.iload 4, 2) := by decide +kernel
theorem dX10_works_88 : decode cX10_works 88 = .ok (.iconst 3, 1) := by decide +kernel
theorem dX10_works_89 : decode cX10_works 89 = .ok (.if_icmp .ne 30, 3) := by decide +kernel
theorem dX10_works_92 : decode cX10_works 92 = .ok (.aload_n 0, 1) := by decide +kernel
theorem dX10_works_93 : decode cX10_works 93 = .ok (.getfield 40, 3) := by decide +kernel
theorem dX10_works_96 : decode cX10_works 96 = .ok (.iload_n 2, 1) := by decide +kernel
theorem dX10_works_97 : decode cX10_works 97 = .ok (.iconst 1, 1) := by decide +kernel
theorem dX10_works_98 : decode cX10_works 98 = .ok (.isub, 1) := by decide +kernel
theorem dX10_works_99 : decode cX10_works 99 = .ok (.aload_n 0, 1) := by decide +kernel
theorem dX10_works_100 : decode cX10_works 100 = .ok (.getfield 40, 3) := by decide +kernel
theorem dX10_works_103 : decode cX10_works 103 = .ok (.iload_n 2, 1) := by decide +kernel
theorem dX10_works_104 : decode cX10_works 104 = .ok (.iconst 1, 1) := by decide +kernel
theorem dX10_works_105 : decode cX10_works 105 = .ok (.isub, 1) := by decide +kernel
theorem dX10_works_106 : decode cX10_works 106 = .ok (.iaload, 1) := by decide +kernel
theorem dX10_works_107 : decode cX10_works 107 = .ok (.ifCond .ne 7, 3) := by decide +kernel
theorem dX10_works_110 : decode cX10_works 110 = .ok (.iconst 1, 1) := by decide +kernel
theorem dX10_works_111 : decode cX10_works 111 = .ok (.goto 4, 3) := by decide +kernel
theorem dX10_works_114 : decode cX10_works 114 = .ok (.iconst 0, 1) := by decide +kernel
theorem dX10_works_115 : decode cX10_works 115 = .ok (.iastore, 1) := by decide +kernel
theorem dX10_works_116 : decode cX10_works 116 = .ok (.goto 33, 3) := by decide +kernel
theorem dX10_works_119 : decode cX10_works 119 = .ok (.iinc 2 (-1), 3) := by decide +kernel
theorem dX10_works_122 : decode cX10_works 122 = .ok (.aload_n 0, 1) := by decide +kernel
theorem dX10_works_123 : decode cX10_works 123 = .ok (.getfield 40, 3) := by decide +kernel
theorem dX10_works_126 : decode cX10_works 126 = .ok (.iload_n 2, 1) := by decide +kernel
theorem dX10_works_127 : decode cX10_works 127 = .ok (.iconst 1, 1) := by decide +kernel
theorem dX10_works_128 : decode cX10_works 128 = .ok (.isub, 1) := by decide +kernel
theorem dX10_works_129 : decode cX10_works 129 = .ok (.iload 4, 2) := by decide +kernel
theorem dX10_works_131 : decode cX10_works 131 = .ok (.aload_n 0, 1) := by decide +kernel
theorem dX10_works_132 : decode cX10_works 132 = .ok (.getfield 40, 3) := by decide +kernel
theorem dX10_works_135 : decode cX10_works 135 = .ok (.iload_n 2, 1) := by decide +kernel
theorem dX10_works_136 : decode cX10_works 136 = .ok (.iconst 1, 1) := by decide +kernel
theorem dX10_works_137 : decode cX10_works 137 = .ok (.isub, 1) := by decide +kernel
theorem dX10_works_138 : decode cX10_works 138 = .ok (.iaload, 1) := by decide +kernel
theorem dX10_works_139 : decode cX10_works 139 = .ok (.aload_n 0, 1) := by decide +kernel
theorem dX10_works_140 : decode cX10_works 140 = .ok (.getfield 40, 3) := by decide +kernel
theorem dX10_works_143 : decode cX10_works 143 = .ok (.iload_n 2, 1) := by decide +kernel
theorem dX10_works_144 : decode cX10_works 144 = .ok (.iaload, 1) := by decide +kernel
theorem dX10_works_145 : decode cX10_works 145 = .ok (.invokestatic 172, 3) := by decide +kernel
theorem dX10_works_148 : decode cX10_works 148 = .ok (.iastore, 1) := by decide +kernel
theorem dX10_works_149 : decode cX10_works 149 = .ok (.iinc 3 1, 3) := by decide +kernel
theorem dX10_works_152 : decode cX10_works 152 = .ok (.goto (-148), 3) := by decide +kernel
theorem dX10_works_155 : decode cX10_works 155 = .ok (.aload_n 0, 1) := by decide +kernel
theorem dX10_works_156 : decode cX10_works 156 = .ok (.getfield 40, 3) := by decide +kernel
theorem dX10_works_159 : decode cX10_works 159 = .ok (.iconst 0, 1) := by decide +kernel
theorem dX10_works_160 : decode cX10_works 160 = .ok (.iaload, 1) := by decide +kernel
theorem dX10_works_161 : decode cX10_works 161 = .ok (.ireturn, 1) := by decide +kernel
theorem dX10_gives_0 : decode cX10_gives 0 = .ok (.sipush 143, 3) := by decide +kernel
theorem dX10_gives_3 : decode cX10_gives 3 = .ok (.bipush 121, 2) := by decide +kernel
theorem dX10_gives_5 : decode cX10_gives 5 = .ok (.iload_n 1, 1) := by decide +kernel
theorem dX10_gives_6 : decode cX10_gives 6 = .ok (.imul, 1) := by decide +kernel
theorem dX10_gives_7 : decode cX10_gives 7 = .ok (.iadd, 1) := by decide +kernel
theorem dX10_gives_8 : decode cX10_gives 8 = .ok (.istore 5, 2) := by decide +kernel
theorem dX10_gives_10 : decode cX10_gives 10 = .ok (.aload_n 0, 1) := by decide +kernel
theorem dX10_gives_11 : decode cX10_gives 11 = .ok (.getfield 37, 3) := by decide +kernel
theorem dX10_gives_14 : decode cX10_gives 14 = .ok (.iconst 0, 1) := by decide +kernel
theorem dX10_gives_15 : decode cX10_gives 15 = .ok (.iload_n 2, 1) := by decide +kernel
theorem dX10_gives_16 : decode cX10_gives 16 = .ok (.iastore, 1) := by decide +kernel
theorem dX10_gives_17 : decode cX10_gives 17 = .ok (.aload_n 0, 1) := by decide +kernel
theorem dX10_gives_18 : decode cX10_gives 18 = .ok (.getfield 37, 3) := by decide +kernel
theorem dX10_gives_21 : decode cX10_gives 21 = .ok (.iconst 1, 1) := by decide +kernel
theorem dX10_gives_22 : decode cX10_gives 22 = .ok (.iload_n 3, 1) := by decide +kernel
theorem dX10_gives_23 : decode cX10_gives 23 = .ok (.iastore, 1) := by decide +kernel
theorem dX10_gives_24 : decode cX10_gives 24 = .ok (.aload_n 0, 1) := by decide +kernel
theorem dX10_gives_25 : decode cX10_gives 25 = .ok (.getfield 37, 3) := by decide +kernel
theorem dX10_gives_28 : decode cX10_gives 28 = .ok (.iconst 2, 1) := by decide +kernel
theorem dX10_gives_29 : decode cX10_gives 29 = .ok (.iload 4, 2) := by decide +kernel
theorem dX10_gives_31 : decode cX10_gives 31 = .ok (.iastore, 1) := by decide +kernel
theorem dX10_gives_32 : decode cX10_gives 32 = .ok (.aload_n 0, 1) := by decide +kernel
theorem dX10_gives_33 : decode cX10_gives 33 = .ok (.getfield 9, 3) := by decide +kernel
theorem dX10_gives_36 : decode cX10_gives 36 = .ok (.iload 5, 2) := by decide +kernel
theorem dX10_gives_38 : decode cX10_gives 38 = .ok (.iaload, 1) := by decide +kernel
theorem dX10_gives_39 : decode cX10_gives 39 = .ok (.ifCond .le 12, 3) := by decide +kernel
theorem dX10_gives_42 : decode cX10_gives 42 = .ok (.aload_n 0, 1) := by decide +kernel
theorem dX10_gives_43 : decode cX10_gives 43 = .ok (.iload 5, 2) := by decide +kernel
theorem dX10_gives_45 : decode cX10_gives 45 = .ok (.invokevirtual 176, 3) := by decide +kernel
theorem dX10_gives_48 : decode cX10_gives 48 = .ok (.goto 4, 3) := by decide +kernel
theorem dX10_gives_51 : decode cX10_gives 51 = .ok (.iload_n 2, 1) := by decide +kernel
theorem dX10_gives_52 : decode cX10_gives 52 = .ok (.iconst 0, 1) := by decide +kernel
theorem dX10_gives_53 : decode cX10_gives 53 = .ok (.bipush 40, 2) := by decide +kernel
theorem dX10_gives_55 : decode cX10_gives 55 = .ok (.invokestatic 179, 3) := by decide +kernel
theorem dX10_gives_58 : decode cX10_gives 58 = .ok (.ireturn, 1) := by decide +kernel
theorem dX10_law_0 : decode cX10_law 0 = .ok (.iload_n 1, 1) := by decide +kernel
theorem dX10_law_1 : decode cX10_law 1 = .ok (.iconst 0, 1) := by decide +kernel
theorem dX10_law_2 : decode cX10_law 2 = .ok (.iconst 1, 1) := by decide +kernel
theorem dX10_law_3 : decode cX10_law 3 = .ok (.invokestatic 51, 3) := by decide +kernel
theorem dX10_law_6 : decode cX10_law 6 = .ok (.ifCond .eq 15, 3) := by decide +kernel
theorem dX10_law_9 : decode cX10_law 9 = .ok (.aload_n 0, 1) := by decide +kernel
theorem dX10_law_10 : decode cX10_law 10 = .ok (.iload_n 1, 1) := by decide +kernel
theorem dX10_law_11 : decode cX10_law 11 = .ok (.iload_n 2, 1) := by decide +kernel
theorem dX10_law_12 : decode cX10_law 12 = .ok (.iload_n 3, 1) := by decide +kernel
theorem dX10_law_13 : decode cX10_law 13 = .ok (.iload 4, 2) := by decide +kernel
theorem dX10_law_15 : decode cX10_law 15 = .ok (.invokevirtual 79, 3) := by decide +kernel
theorem dX10_law_18 : decode cX10_law 18 = .ok (.goto 9, 3) := by decide +kernel
theorem dX10_law_21 : decode cX10_law 21 = .ok (.aload_n 0, 1) := by decide +kernel
theorem dX10_law_22 : decode cX10_law 22 = .ok (.ldc 90, 2) := by decide +kernel
theorem dX10_law_24 : decode cX10_law 24 = .ok (.invokevirtual 91, 3) := by decide +kernel
theorem dX10_law_27 : decode cX10_law 27 = .ok (.ireturn, 1) := by decide +kernel
theorem dX10_goes_0 : decode cX10_goes 0 = .ok (.aload_n 0, 1) := by decide +kernel
theorem dX10_goes_1 : decode cX10_goes 1 = .ok (.getfield 9, 3) := by decide +kernel
theorem dX10_goes_4 : decode cX10_goes 4 = .ok (.bipush 7, 2) := by decide +kernel
theorem dX10_goes_6 : decode cX10_goes 6 = .ok (.iconst 2, 1) := by decide +kernel
theorem dX10_goes_7 : decode cX10_goes 7 = .ok (.aload_n 0, 1) := by decide +kernel
theorem dX10_goes_8 : decode cX10_goes 8 = .ok (.getfield 9, 3) := by decide +kernel
theorem dX10_goes_11 : decode cX10_goes 11 = .ok (.iconst 0, 1) := by decide +kernel
theorem dX10_goes_12 : decode cX10_goes 12 = .ok (.iaload, 1) := by decide +kernel
theorem dX10_goes_13 : decode cX10_goes 13 = .ok (.bipush 6, 2) := by decide +kernel
theorem dX10_goes_15 : decode cX10_goes 15 = .ok (.irem, 1) := by decide +kernel
theorem dX10_goes_16 : decode cX10_goes 16 = .ok (.imul, 1) := by decide +kernel
theorem dX10_goes_17 : decode cX10_goes 17 = .ok (.iadd, 1) := by decide +kernel
theorem dX10_goes_18 : decode cX10_goes 18 = .ok (.iaload, 1) := by decide +kernel
theorem dX10_goes_19 : decode cX10_goes 19 = .ok (.istore_n 1, 1) := by decide +kernel
theorem dX10_goes_20 : decode cX10_goes 20 = .ok (.aload_n 0, 1) := by decide +kernel
theorem dX10_goes_21 : decode cX10_goes 21 = .ok (.getfield 9, 3) := by decide +kernel
theorem dX10_goes_24 : decode cX10_goes 24 = .ok (.bipush 7, 2) := by decide +kernel
theorem dX10_goes_26 : decode cX10_goes 26 = .ok (.iconst 2, 1) := by decide +kernel
theorem dX10_goes_27 : decode cX10_goes 27 = .ok (.aload_n 0, 1) := by decide +kernel
theorem dX10_goes_28 : decode cX10_goes 28 = .ok (.getfield 9, 3) := by decide +kernel
theorem dX10_goes_31 : decode cX10_goes 31 = .ok (.iconst 0, 1) := by decide +kernel
theorem dX10_goes_32 : decode cX10_goes 32 = .ok (.iaload, 1) := by decide +kernel
theorem dX10_goes_33 : decode cX10_goes 33 = .ok (.bipush 6, 2) := by decide +kernel
theorem dX10_goes_35 : decode cX10_goes 35 = .ok (.irem, 1) := by decide +kernel
theorem dX10_goes_36 : decode cX10_goes 36 = .ok (.imul, 1) := by decide +kernel
theorem dX10_goes_37 : decode cX10_goes 37 = .ok (.iadd, 1) := by decide +kernel
theorem dX10_goes_38 : decode cX10_goes 38 = .ok (.iconst 1, 1) := by decide +kernel
theorem dX10_goes_39 : decode cX10_goes 39 = .ok (.iadd, 1) := by decide +kernel
theorem dX10_goes_40 : decode cX10_goes 40 = .ok (.iaload, 1) := by decide +kernel
theorem dX10_goes_41 : decode cX10_goes 41 = .ok (.istore_n 2, 1) := by decide +kernel
theorem dX10_goes_42 : decode cX10_goes 42 = .ok (.iload_n 1, 1) := by decide +kernel
theorem dX10_goes_43 : decode cX10_goes 43 = .ok (.iload_n 2, 1) := by decide +kernel
theorem dX10_goes_44 : decode cX10_goes 44 = .ok (.if_icmp .eq 80, 3) := by decide +kernel
theorem dX10_goes_47 : decode cX10_goes 47 = .ok (.aload_n 0, 1) := by decide +kernel
theorem dX10_goes_48 : decode cX10_goes 48 = .ok (.iload_n 1, 1) := by decide +kernel
theorem dX10_goes_49 : decode cX10_goes 49 = .ok (.invokevirtual 99, 3) := by decide +kernel
theorem dX10_goes_52 : decode cX10_goes 52 = .ok (.ifCond .eq 72, 3) := by decide +kernel
theorem dX10_goes_55 : decode cX10_goes 55 = .ok (.aload_n 0, 1) := by decide +kernel
theorem dX10_goes_56 : decode cX10_goes 56 = .ok (.iload_n 2, 1) := by decide +kernel
theorem dX10_goes_57 : decode cX10_goes 57 = .ok (.invokevirtual 99, 3) := by decide +kernel
theorem dX10_goes_60 : decode cX10_goes 60 = .ok (.ifCond .eq 64, 3) := by decide +kernel
theorem dX10_goes_63 : decode cX10_goes 63 = .ok (.aload_n 0, 1) := by decide +kernel
theorem dX10_goes_64 : decode cX10_goes 64 = .ok (.iload_n 2, 1) := by decide +kernel
theorem dX10_goes_65 : decode cX10_goes 65 = .ok (.iload_n 1, 1) := by decide +kernel
theorem dX10_goes_66 : decode cX10_goes 66 = .ok (.invokevirtual 115, 3) := by decide +kernel
theorem dX10_goes_69 : decode cX10_goes 69 = .ok (.iconst 0, 1) := by decide +kernel
theorem dX10_goes_70 : decode cX10_goes 70 = .ok (.aload_n 0, 1) := by decide +kernel
theorem dX10_goes_71 : decode cX10_goes 71 = .ok (.getfield 9, 3) := by decide +kernel
theorem dX10_goes_74 : decode cX10_goes 74 = .ok (.iconst 3, 1) := by decide +kernel
theorem dX10_goes_75 : decode cX10_goes 75 = .ok (.iaload, 1) := by decide +kernel
theorem dX10_goes_76 : decode cX10_goes 76 = .ok (.invokestatic 179, 3) := by decide +kernel
theorem dX10_goes_79 : decode cX10_goes 79 = .ok (.istore_n 3, 1) := by decide +kernel
theorem dX10_goes_80 : decode cX10_goes 80 = .ok (.aload_n 0, 1) := by decide +kernel
theorem dX10_goes_81 : decode cX10_goes 81 = .ok (.iload_n 1, 1) := by decide +kernel
theorem dX10_goes_82 : decode cX10_goes 82 = .ok (.iconst 4, 1) := by decide +kernel
theorem dX10_goes_83 : decode cX10_goes 83 = .ok (.iload_n 3, 1) := by decide +kernel
theorem dX10_goes_84 : decode cX10_goes 84 = .ok (.aload_n 0, 1) := by decide +kernel
theorem dX10_goes_85 : decode cX10_goes 85 = .ok (.iload_n 1, 1) := by decide +kernel
theorem dX10_goes_86 : decode cX10_goes 86 = .ok (.invokevirtual 102, 3) := by decide +kernel
theorem dX10_goes_89 : decode cX10_goes 89 = .ok (.if_icmp .gt 16, 3) := by decide +kernel
theorem dX10_goes_92 : decode cX10_goes 92 = .ok (.aload_n 0, 1) := by decide +kernel
theorem dX10_goes_93 : decode cX10_goes 93 = .ok (.iload_n 1, 1) := by decide +kernel
theorem dX10_goes_94 : decode cX10_goes 94 = .ok (.iconst 4, 1) := by decide +kernel
theorem dX10_goes_95 : decode cX10_goes 95 = .ok (.invokevirtual 55, 3) := by decide +kernel
theorem dX10_goes_98 : decode cX10_goes 98 = .ok (.iconst 1, 1) := by decide +kernel
theorem dX10_goes_99 : decode cX10_goes 99 = .ok (.iload_n 2, 1) := by decide +kernel
theorem dX10_goes_100 : decode cX10_goes 100 = .ok (.ishl, 1) := by decide +kernel
theorem dX10_goes_101 : decode cX10_goes 101 = .ok (.ior, 1) := by decide +kernel
theorem dX10_goes_102 : decode cX10_goes 102 = .ok (.goto 9, 3) := by decide +kernel
theorem dX10_goes_105 : decode cX10_goes 105 = .ok (.aload_n 0, 1) := by decide +kernel
theorem dX10_goes_106 : decode cX10_goes 106 = .ok (.iload_n 1, 1) := by decide +kernel
theorem dX10_goes_107 : decode cX10_goes 107 = .ok (.iconst 4, 1) := by decide +kernel
theorem dX10_goes_108 : decode cX10_goes 108 = .ok (.invokevirtual 55, 3) := by decide +kernel
theorem dX10_goes_111 : decode cX10_goes 111 = .ok (.invokevirtual 95, 3) := by decide +kernel
theorem dX10_goes_114 : decode cX10_goes 114 = .ok (.aload_n 0, 1) := by decide +kernel
theorem dX10_goes_115 : decode cX10_goes 115 = .ok (.getfield 9, 3) := by decide +kernel
theorem dX10_goes_118 : decode cX10_goes 118 = .ok (.iconst 3, 1) := by decide +kernel
theorem dX10_goes_119 : decode cX10_goes 119 = .ok (.dup2, 1) := by decide +kernel
theorem dX10_goes_120 : decode cX10_goes 120 = .ok (.iaload, 1) := by decide +kernel
theorem dX10_goes_121 : decode cX10_goes 121 = .ok (.iload_n 3, 1) := by decide +kernel
theorem dX10_goes_122 : decode cX10_goes 122 = .ok (.isub, 1) := by decide +kernel
theorem dX10_goes_123 : decode cX10_goes 123 = .ok (.iastore, 1) := by decide +kernel
theorem dX10_goes_124 : decode cX10_goes 124 = .ok (.aload_n 0, 1) := by decide +kernel
theorem dX10_goes_125 : decode cX10_goes 125 = .ok (.getfield 9, 3) := by decide +kernel
theorem dX10_goes_128 : decode cX10_goes 128 = .ok (.iconst 3, 1) := by decide +kernel
theorem dX10_goes_129 : decode cX10_goes 129 = .ok (.aload_n 0, 1) := by decide +kernel
theorem dX10_goes_130 : decode cX10_goes 130 = .ok (.getfield 9, 3) := by decide +kernel
theorem dX10_goes_133 : decode cX10_goes 133 = .ok (.iconst 3, 1) := by decide +kernel
theorem dX10_goes_134 : decode cX10_goes 134 = .ok (.iaload, 1) := by decide +kernel
theorem dX10_goes_135 : decode cX10_goes 135 = .ok (.aload_n 0, 1) := by decide +kernel
theorem dX10_goes_136 : decode cX10_goes 136 = .ok (.getfield 9, 3) := by decide +kernel
theorem dX10_goes_139 : decode cX10_goes 139 = .ok (.iconst 4, 1) := by decide +kernel
theorem dX10_goes_140 : decode cX10_goes 140 = .ok (.iaload, 1) := by decide +kernel
theorem dX10_goes_141 : decode cX10_goes 141 = .ok (.iadd, 1) := by decide +kernel
theorem dX10_goes_142 : decode cX10_goes 142 = .ok (.iconst 0, 1) := by decide +kernel
theorem dX10_goes_143 : decode cX10_goes 143 = .ok (.sipush 999, 3) := by decide +kernel
theorem dX10_goes_146 : decode cX10_goes 146 = .ok (.invokestatic 179, 3) := by decide +kernel
theorem dX10_goes_149 : decode cX10_goes 149 = .ok (.iastore, 1) := by decide +kernel
theorem dX10_goes_150 : decode cX10_goes 150 = .ok (.aload_n 0, 1) := by decide +kernel
theorem dX10_goes_151 : decode cX10_goes 151 = .ok (.getfield 9, 3) := by decide +kernel
theorem dX10_goes_154 : decode cX10_goes 154 = .ok (.iconst 0, 1) := by decide +kernel
theorem dX10_goes_155 : decode cX10_goes 155 = .ok (.dup2, 1) := by decide +kernel
theorem dX10_goes_156 : decode cX10_goes 156 = .ok (.iaload, 1) := by decide +kernel
theorem dX10_goes_157 : decode cX10_goes 157 = .ok (.iconst 1, 1) := by decide +kernel
theorem dX10_goes_158 : decode cX10_goes 158 = .ok (.iadd, 1) := by decide +kernel
theorem dX10_goes_159 : decode cX10_goes 159 = .ok (.iastore, 1) := by decide +kernel
theorem dX10_goes_160 : decode cX10_goes 160 = .ok (.return_, 1) := by decide +kernel
theorem dX10_goesFor_0 : decode cX10_goesFor 0 = .ok (.iconst 0, 1) := by decide +kernel
theorem dX10_goesFor_1 : decode cX10_goesFor 1 = .ok (.istore_n 2, 1) := by decide +kernel
theorem dX10_goesFor_2 : decode cX10_goesFor 2 = .ok (.iload_n 2, 1) := by decide +kernel
theorem dX10_goesFor_3 : decode cX10_goesFor 3 = .ok (.iload_n 1, 1) := by decide +kernel
theorem dX10_goesFor_4 : decode cX10_goesFor 4 = .ok (.if_icmp .ge 13, 3) := by decide +kernel
theorem dX10_goesFor_7 : decode cX10_goesFor 7 = .ok (.aload_n 0, 1) := by decide +kernel
theorem dX10_goesFor_8 : decode cX10_goesFor 8 = .ok (.invokevirtual 182, 3) := by decide +kernel
theorem dX10_goesFor_11 : decode cX10_goesFor 11 = .ok (.iinc 2 1, 3) := by decide +kernel
theorem dX10_goesFor_14 : decode cX10_goesFor 14 = .ok (.goto (-12), 3) := by decide +kernel
theorem dX10_goesFor_17 : decode cX10_goesFor 17 = .ok (.return_, 1) := by decide +kernel
theorem dX10_years_0 : decode cX10_years 0 = .ok (.iload_n 1, 1) := by decide +kernel
theorem dX10_years_1 : decode cX10_years 1 = .ok (.iconst 1, 1) := by decide +kernel
theorem dX10_years_2 : decode cX10_years 2 = .ok (.bipush 60, 2) := by decide +kernel
theorem dX10_years_4 : decode cX10_years 4 = .ok (.invokestatic 51, 3) := by decide +kernel
theorem dX10_years_7 : decode cX10_years 7 = .ok (.ifCond .ne 10, 3) := by decide +kernel
theorem dX10_years_10 : decode cX10_years 10 = .ok (.aload_n 0, 1) := by decide +kernel
theorem dX10_years_11 : decode cX10_years 11 = .ok (.ldc 90, 2) := by decide +kernel
theorem dX10_years_13 : decode cX10_years 13 = .ok (.invokevirtual 91, 3) := by decide +kernel
theorem dX10_years_16 : decode cX10_years 16 = .ok (.ireturn, 1) := by decide +kernel
theorem dX10_years_17 : decode cX10_years 17 = .ok (.aload_n 0, 1) := by decide +kernel
theorem dX10_years_18 : decode cX10_years 18 = .ok (.getfield 9, 3) := by decide +kernel
theorem dX10_years_21 : decode cX10_years 21 = .ok (.iconst 0, 1) := by decide +kernel
theorem dX10_years_22 : decode cX10_years 22 = .ok (.iaload, 1) := by decide +kernel
theorem dX10_years_23 : decode cX10_years 23 = .ok (.iload_n 1, 1) := by decide +kernel
theorem dX10_years_24 : decode cX10_years 24 = .ok (.iadd, 1) := by decide +kernel
theorem dX10_years_25 : decode cX10_years 25 = .ok (.sipush 9999, 3) := by decide +kernel
theorem dX10_years_28 : decode cX10_years 28 = .ok (.if_icmp .le 10, 3) := by decide +kernel
theorem dX10_years_31 : decode cX10_years 31 = .ok (.aload_n 0, 1) := by decide +kernel
theorem dX10_years_32 : decode cX10_years 32 = .ok (.ldc 109, 2) := by decide +kernel
theorem dX10_years_34 : decode cX10_years 34 = .ok (.invokevirtual 91, 3) := by decide +kernel
theorem dX10_years_37 : decode cX10_years 37 = .ok (.ireturn, 1) := by decide +kernel
theorem dX10_years_38 : decode cX10_years 38 = .ok (.aload_n 0, 1) := by decide +kernel
theorem dX10_years_39 : decode cX10_years 39 = .ok (.iload_n 1, 1) := by decide +kernel
theorem dX10_years_40 : decode cX10_years 40 = .ok (.invokevirtual 185, 3) := by decide +kernel
theorem dX10_years_43 : decode cX10_years 43 = .ok (.aload_n 0, 1) := by decide +kernel
theorem dX10_years_44 : decode cX10_years 44 = .ok (.invokevirtual 188, 3) := by decide +kernel
theorem dX10_years_47 : decode cX10_years 47 = .ok (.ireturn, 1) := by decide +kernel
theorem dX10_draw_0 : decode cX10_draw 0 = .ok (.aload_n 0, 1) := by decide +kernel
theorem dX10_draw_1 : decode cX10_draw 1 = .ok (.getfield 9, 3) := by decide +kernel
theorem dX10_draw_4 : decode cX10_draw 4 = .ok (.iconst 1, 1) := by decide +kernel
theorem dX10_draw_5 : decode cX10_draw 5 = .ok (.aload_n 0, 1) := by decide +kernel
theorem dX10_draw_6 : decode cX10_draw 6 = .ok (.getfield 9, 3) := by decide +kernel
theorem dX10_draw_9 : decode cX10_draw 9 = .ok (.iconst 1, 1) := by decide +kernel
theorem dX10_draw_10 : decode cX10_draw 10 = .ok (.iaload, 1) := by decide +kernel
theorem dX10_draw_11 : decode cX10_draw 11 = .ok (.ldc 191, 2) := by decide +kernel
theorem dX10_draw_13 : decode cX10_draw 13 = .ok (.imul, 1) := by decide +kernel
theorem dX10_draw_14 : decode cX10_draw 14 = .ok (.sipush 12345, 3) := by decide +kernel
theorem dX10_draw_17 : decode cX10_draw 17 = .ok (.iadd, 1) := by decide +kernel
theorem dX10_draw_18 : decode cX10_draw 18 = .ok (.iastore, 1) := by decide +kernel
theorem dX10_draw_19 : decode cX10_draw 19 = .ok (.aload_n 0, 1) := by decide +kernel
theorem dX10_draw_20 : decode cX10_draw 20 = .ok (.getfield 9, 3) := by decide +kernel
theorem dX10_draw_23 : decode cX10_draw 23 = .ok (.iconst 1, 1) := by decide +kernel
theorem dX10_draw_24 : decode cX10_draw 24 = .ok (.iaload, 1) := by decide +kernel
theorem dX10_draw_25 : decode cX10_draw 25 = .ok (.bipush 8, 2) := by decide +kernel
theorem dX10_draw_27 : decode cX10_draw 27 = .ok (.iushr, 1) := by decide +kernel
theorem dX10_draw_28 : decode cX10_draw 28 = .ok (.ireturn, 1) := by decide +kernel
theorem dX10_drawn_0 : decode cX10_drawn 0 = .ok (.bipush 7, 2) := by decide +kernel
theorem dX10_drawn_2 : decode cX10_drawn 2 = .ok (.iconst 2, 1) := by decide +kernel
theorem dX10_drawn_3 : decode cX10_drawn 3 = .ok (.aload_n 0, 1) := by decide +kernel
theorem dX10_drawn_4 : decode cX10_drawn 4 = .ok (.getfield 9, 3) := by decide +kernel
theorem dX10_drawn_7 : decode cX10_drawn 7 = .ok (.iconst 0, 1) := by decide +kernel
theorem dX10_drawn_8 : decode cX10_drawn 8 = .ok (.iaload, 1) := by decide +kernel
theorem dX10_drawn_9 : decode cX10_drawn 9 = .ok (.bipush 6, 2) := by decide +kernel
theorem dX10_drawn_11 : decode cX10_drawn 11 = .ok (.irem, 1) := by decide +kernel
theorem dX10_drawn_12 : decode cX10_drawn 12 = .ok (.imul, 1) := by decide +kernel
theorem dX10_drawn_13 : decode cX10_drawn 13 = .ok (.iadd, 1) := by decide +kernel
theorem dX10_drawn_14 : decode cX10_drawn 14 = .ok (.istore_n 1, 1) := by decide +kernel
theorem dX10_drawn_15 : decode cX10_drawn 15 = .ok (.aload_n 0, 1) := by decide +kernel
theorem dX10_drawn_16 : decode cX10_drawn 16 = .ok (.getfield 9, 3) := by decide +kernel
theorem dX10_drawn_19 : decode cX10_drawn 19 = .ok (.iload_n 1, 1) := by decide +kernel
theorem dX10_drawn_20 : decode cX10_drawn 20 = .ok (.aload_n 0, 1) := by decide +kernel
theorem dX10_drawn_21 : decode cX10_drawn 21 = .ok (.invokevirtual 192, 3) := by decide +kernel
theorem dX10_drawn_24 : decode cX10_drawn 24 = .ok (.bipush 8, 2) := by decide +kernel
theorem dX10_drawn_26 : decode cX10_drawn 26 = .ok (.irem, 1) := by decide +kernel
theorem dX10_drawn_27 : decode cX10_drawn 27 = .ok (.iastore, 1) := by decide +kernel
theorem dX10_drawn_28 : decode cX10_drawn 28 = .ok (.aload_n 0, 1) := by decide +kernel
theorem dX10_drawn_29 : decode cX10_drawn 29 = .ok (.getfield 9, 3) := by decide +kernel
theorem dX10_drawn_32 : decode cX10_drawn 32 = .ok (.iload_n 1, 1) := by decide +kernel
theorem dX10_drawn_33 : decode cX10_drawn 33 = .ok (.iconst 1, 1) := by decide +kernel
theorem dX10_drawn_34 : decode cX10_drawn 34 = .ok (.iadd, 1) := by decide +kernel
theorem dX10_drawn_35 : decode cX10_drawn 35 = .ok (.aload_n 0, 1) := by decide +kernel
theorem dX10_drawn_36 : decode cX10_drawn 36 = .ok (.invokevirtual 192, 3) := by decide +kernel
theorem dX10_drawn_39 : decode cX10_drawn 39 = .ok (.bipush 8, 2) := by decide +kernel
theorem dX10_drawn_41 : decode cX10_drawn 41 = .ok (.irem, 1) := by decide +kernel
theorem dX10_drawn_42 : decode cX10_drawn 42 = .ok (.iastore, 1) := by decide +kernel
theorem dX10_drawn_43 : decode cX10_drawn 43 = .ok (.aload_n 0, 1) := by decide +kernel
theorem dX10_drawn_44 : decode cX10_drawn 44 = .ok (.invokevirtual 182, 3) := by decide +kernel
theorem dX10_drawn_47 : decode cX10_drawn 47 = .ok (.return_, 1) := by decide +kernel
theorem dX10_loose_0 : decode cX10_loose 0 = .ok (.iload_n 1, 1) := by decide +kernel
theorem dX10_loose_1 : decode cX10_loose 1 = .ok (.iconst 1, 1) := by decide +kernel
theorem dX10_loose_2 : decode cX10_loose 2 = .ok (.bipush 30, 2) := by decide +kernel
theorem dX10_loose_4 : decode cX10_loose 4 = .ok (.invokestatic 51, 3) := by decide +kernel
theorem dX10_loose_7 : decode cX10_loose 7 = .ok (.ifCond .ne 10, 3) := by decide +kernel
theorem dX10_loose_10 : decode cX10_loose 10 = .ok (.aload_n 0, 1) := by decide +kernel
theorem dX10_loose_11 : decode cX10_loose 11 = .ok (.ldc 90, 2) := by decide +kernel
theorem dX10_loose_13 : decode cX10_loose 13 = .ok (.invokevirtual 91, 3) := by decide +kernel
theorem dX10_loose_16 : decode cX10_loose 16 = .ok (.ireturn, 1) := by decide +kernel
theorem dX10_loose_17 : decode cX10_loose 17 = .ok (.aload_n 0, 1) := by decide +kernel
theorem dX10_loose_18 : decode cX10_loose 18 = .ok (.getfield 9, 3) := by decide +kernel
theorem dX10_loose_21 : decode cX10_loose 21 = .ok (.iconst 0, 1) := by decide +kernel
theorem dX10_loose_22 : decode cX10_loose 22 = .ok (.iaload, 1) := by decide +kernel
theorem dX10_loose_23 : decode cX10_loose 23 = .ok (.iload_n 1, 1) := by decide +kernel
theorem dX10_loose_24 : decode cX10_loose 24 = .ok (.iadd, 1) := by decide +kernel
theorem dX10_loose_25 : decode cX10_loose 25 = .ok (.sipush 9999, 3) := by decide +kernel
theorem dX10_loose_28 : decode cX10_loose 28 = .ok (.if_icmp .le 10, 3) := by decide +kernel
theorem dX10_loose_31 : decode cX10_loose 31 = .ok (.aload_n 0, 1) := by decide +kernel
theorem dX10_loose_32 : decode cX10_loose 32 = .ok (.ldc 109, 2) := by decide +kernel
theorem dX10_loose_34 : decode cX10_loose 34 = .ok (.invokevirtual 91, 3) := by decide +kernel
theorem dX10_loose_37 : decode cX10_loose 37 = .ok (.ireturn, 1) := by decide +kernel
theorem dX10_loose_38 : decode cX10_loose 38 = .ok (.iconst 0, 1) := by decide +kernel
theorem dX10_loose_39 : decode cX10_loose 39 = .ok (.istore_n 2, 1) := by decide +kernel
theorem dX10_loose_40 : decode cX10_loose 40 = .ok (.iload_n 2, 1) := by decide +kernel
theorem dX10_loose_41 : decode cX10_loose 41 = .ok (.iload_n 1, 1) := by decide +kernel
theorem dX10_loose_42 : decode cX10_loose 42 = .ok (.if_icmp .ge 13, 3) := by decide +kernel
theorem dX10_loose_45 : decode cX10_loose 45 = .ok (.aload_n 0, 1) := by decide +kernel
theorem dX10_loose_46 : decode cX10_loose 46 = .ok (.invokevirtual 195, 3) := by decide +kernel
theorem dX10_loose_49 : decode cX10_loose 49 = .ok (.iinc 2 1, 3) := by decide +kernel
theorem dX10_loose_52 : decode cX10_loose 52 = .ok (.goto (-12), 3) := by decide +kernel
theorem dX10_loose_55 : decode cX10_loose 55 = .ok (.aload_n 0, 1) := by decide +kernel
theorem dX10_loose_56 : decode cX10_loose 56 = .ok (.invokevirtual 188, 3) := by decide +kernel
theorem dX10_loose_59 : decode cX10_loose 59 = .ok (.ireturn, 1) := by decide +kernel
theorem dX10_year_0 : decode cX10_year 0 = .ok (.iload_n 1, 1) := by decide +kernel
theorem dX10_year_1 : decode cX10_year 1 = .ok (.iconst 0, 1) := by decide +kernel
theorem dX10_year_2 : decode cX10_year 2 = .ok (.sipush 9999, 3) := by decide +kernel
theorem dX10_year_5 : decode cX10_year 5 = .ok (.invokestatic 51, 3) := by decide +kernel
theorem dX10_year_8 : decode cX10_year 8 = .ok (.ifCond .eq 12, 3) := by decide +kernel
theorem dX10_year_11 : decode cX10_year 11 = .ok (.aload_n 0, 1) := by decide +kernel
theorem dX10_year_12 : decode cX10_year 12 = .ok (.iconst 0, 1) := by decide +kernel
theorem dX10_year_13 : decode cX10_year 13 = .ok (.iload_n 1, 1) := by decide +kernel
theorem dX10_year_14 : decode cX10_year 14 = .ok (.invokevirtual 105, 3) := by decide +kernel
theorem dX10_year_17 : decode cX10_year 17 = .ok (.goto 9, 3) := by decide +kernel
theorem dX10_year_20 : decode cX10_year 20 = .ok (.aload_n 0, 1) := by decide +kernel
theorem dX10_year_21 : decode cX10_year 21 = .ok (.ldc 90, 2) := by decide +kernel
theorem dX10_year_23 : decode cX10_year 23 = .ok (.invokevirtual 91, 3) := by decide +kernel
theorem dX10_year_26 : decode cX10_year 26 = .ok (.ireturn, 1) := by decide +kernel
theorem dX10_seed_0 : decode cX10_seed 0 = .ok (.aload_n 0, 1) := by decide +kernel
theorem dX10_seed_1 : decode cX10_seed 1 = .ok (.iconst 1, 1) := by decide +kernel
theorem dX10_seed_2 : decode cX10_seed 2 = .ok (.iload_n 1, 1) := by decide +kernel
theorem dX10_seed_3 : decode cX10_seed 3 = .ok (.invokevirtual 105, 3) := by decide +kernel
theorem dX10_seed_6 : decode cX10_seed 6 = .ok (.ireturn, 1) := by decide +kernel
theorem dX10_then_0 : decode cX10_then 0 = .ok (.aload_n 0, 1) := by decide +kernel
theorem dX10_then_1 : decode cX10_then 1 = .ok (.iload_n 1, 1) := by decide +kernel
theorem dX10_then_2 : decode cX10_then 2 = .ok (.invokevirtual 99, 3) := by decide +kernel
theorem dX10_then_5 : decode cX10_then 5 = .ok (.ifCond .eq 13, 3) := by decide +kernel
theorem dX10_then_8 : decode cX10_then 8 = .ok (.iload_n 2, 1) := by decide +kernel
theorem dX10_then_9 : decode cX10_then 9 = .ok (.iconst 0, 1) := by decide +kernel
theorem dX10_then_10 : decode cX10_then 10 = .ok (.bipush 60, 2) := by decide +kernel
theorem dX10_then_12 : decode cX10_then 12 = .ok (.invokestatic 51, 3) := by decide +kernel
theorem dX10_then_15 : decode cX10_then 15 = .ok (.ifCond .ne 10, 3) := by decide +kernel
theorem dX10_then_18 : decode cX10_then 18 = .ok (.aload_n 0, 1) := by decide +kernel
theorem dX10_then_19 : decode cX10_then 19 = .ok (.ldc 90, 2) := by decide +kernel
theorem dX10_then_21 : decode cX10_then 21 = .ok (.invokevirtual 91, 3) := by decide +kernel
theorem dX10_then_24 : decode cX10_then 24 = .ok (.ireturn, 1) := by decide +kernel
theorem dX10_then_25 : decode cX10_then 25 = .ok (.aload_n 0, 1) := by decide +kernel
theorem dX10_then_26 : decode cX10_then 26 = .ok (.invokevirtual 198, 3) := by decide +kernel
theorem dX10_then_29 : decode cX10_then 29 = .ok (.aload_n 0, 1) := by decide +kernel
theorem dX10_then_30 : decode cX10_then 30 = .ok (.iload_n 2, 1) := by decide +kernel
theorem dX10_then_31 : decode cX10_then 31 = .ok (.invokevirtual 185, 3) := by decide +kernel
theorem dX10_then_34 : decode cX10_then 34 = .ok (.aload_n 0, 1) := by decide +kernel
theorem dX10_then_35 : decode cX10_then 35 = .ok (.iload_n 1, 1) := by decide +kernel
theorem dX10_then_36 : decode cX10_then 36 = .ok (.iconst 4, 1) := by decide +kernel
theorem dX10_then_37 : decode cX10_then 37 = .ok (.invokevirtual 55, 3) := by decide +kernel
theorem dX10_then_40 : decode cX10_then 40 = .ok (.istore_n 3, 1) := by decide +kernel
theorem dX10_then_41 : decode cX10_then 41 = .ok (.aload_n 0, 1) := by decide +kernel
theorem dX10_then_42 : decode cX10_then 42 = .ok (.invokevirtual 201, 3) := by decide +kernel
theorem dX10_then_45 : decode cX10_then 45 = .ok (.iload_n 3, 1) := by decide +kernel
theorem dX10_then_46 : decode cX10_then 46 = .ok (.ireturn, 1) := by decide +kernel
theorem dX10_soonest_0 : decode cX10_soonest 0 = .ok (.aload_n 0, 1) := by decide +kernel
theorem dX10_soonest_1 : decode cX10_soonest 1 = .ok (.iload_n 1, 1) := by decide +kernel
theorem dX10_soonest_2 : decode cX10_soonest 2 = .ok (.invokevirtual 99, 3) := by decide +kernel
theorem dX10_soonest_5 : decode cX10_soonest 5 = .ok (.ifCond .eq 11, 3) := by decide +kernel
theorem dX10_soonest_8 : decode cX10_soonest 8 = .ok (.aload_n 0, 1) := by decide +kernel
theorem dX10_soonest_9 : decode cX10_soonest 9 = .ok (.iload_n 2, 1) := by decide +kernel
theorem dX10_soonest_10 : decode cX10_soonest 10 = .ok (.invokevirtual 99, 3) := by decide +kernel
theorem dX10_soonest_13 : decode cX10_soonest 13 = .ok (.ifCond .ne 10, 3) := by decide +kernel
theorem dX10_soonest_16 : decode cX10_soonest 16 = .ok (.aload_n 0, 1) := by decide +kernel
theorem dX10_soonest_17 : decode cX10_soonest 17 = .ok (.ldc 90, 2) := by decide +kernel
theorem dX10_soonest_19 : decode cX10_soonest 19 = .ok (.invokevirtual 91, 3) := by decide +kernel
theorem dX10_soonest_22 : decode cX10_soonest 22 = .ok (.ireturn, 1) := by decide +kernel
theorem dX10_soonest_23 : decode cX10_soonest 23 = .ok (.aload_n 0, 1) := by decide +kernel
theorem dX10_soonest_24 : decode cX10_soonest 24 = .ok (.invokevirtual 198, 3) := by decide +kernel
theorem dX10_soonest_27 : decode cX10_soonest 27 = .ok (.iconst 0, 1) := by decide +kernel
theorem dX10_soonest_28 : decode cX10_soonest 28 = .ok (.istore_n 3, 1) := by decide +kernel
theorem dX10_soonest_29 : decode cX10_soonest 29 = .ok (.iload_n 3, 1) := by decide +kernel
theorem dX10_soonest_30 : decode cX10_soonest 30 = .ok (.bipush 60, 2) := by decide +kernel
theorem dX10_soonest_32 : decode cX10_soonest 32 = .ok (.if_icmp .gt 26, 3) := by decide +kernel
theorem dX10_soonest_35 : decode cX10_soonest 35 = .ok (.aload_n 0, 1) := by decide +kernel
theorem dX10_soonest_36 : decode cX10_soonest 36 = .ok (.iload_n 1, 1) := by decide +kernel
theorem dX10_soonest_37 : decode cX10_soonest 37 = .ok (.iconst 4, 1) := by decide +kernel
theorem dX10_soonest_38 : decode cX10_soonest 38 = .ok (.invokevirtual 55, 3) := by decide +kernel
theorem dX10_soonest_41 : decode cX10_soonest 41 = .ok (.iload_n 2, 1) := by decide +kernel
theorem dX10_soonest_42 : decode cX10_soonest 42 = .ok (.ishr, 1) := by decide +kernel
theorem dX10_soonest_43 : decode cX10_soonest 43 = .ok (.iconst 1, 1) := by decide +kernel
theorem dX10_soonest_44 : decode cX10_soonest 44 = .ok (.iand, 1) := by decide +kernel
theorem dX10_soonest_45 : decode cX10_soonest 45 = .ok (.ifCond .ne 13, 3) := by decide +kernel
theorem dX10_soonest_48 : decode cX10_soonest 48 = .ok (.aload_n 0, 1) := by decide +kernel
theorem dX10_soonest_49 : decode cX10_soonest 49 = .ok (.invokevirtual 182, 3) := by decide +kernel
theorem dX10_soonest_52 : decode cX10_soonest 52 = .ok (.iinc 3 1, 3) := by decide +kernel
theorem dX10_soonest_55 : decode cX10_soonest 55 = .ok (.goto (-26), 3) := by decide +kernel
theorem dX10_soonest_58 : decode cX10_soonest 58 = .ok (.aload_n 0, 1) := by decide +kernel
theorem dX10_soonest_59 : decode cX10_soonest 59 = .ok (.invokevirtual 201, 3) := by decide +kernel
theorem dX10_soonest_62 : decode cX10_soonest 62 = .ok (.iload_n 3, 1) := by decide +kernel
theorem dX10_soonest_63 : decode cX10_soonest 63 = .ok (.bipush 60, 2) := by decide +kernel
theorem dX10_soonest_65 : decode cX10_soonest 65 = .ok (.if_icmp .le 12, 3) := by decide +kernel
theorem dX10_soonest_68 : decode cX10_soonest 68 = .ok (.aload_n 0, 1) := by decide +kernel
theorem dX10_soonest_69 : decode cX10_soonest 69 = .ok (.ldc 114, 2) := by decide +kernel
theorem dX10_soonest_71 : decode cX10_soonest 71 = .ok (.invokevirtual 91, 3) := by decide +kernel
theorem dX10_soonest_74 : decode cX10_soonest 74 = .ok (.goto 4, 3) := by decide +kernel
theorem dX10_soonest_77 : decode cX10_soonest 77 = .ok (.iload_n 3, 1) := by decide +kernel
theorem dX10_soonest_78 : decode cX10_soonest 78 = .ok (.ireturn, 1) := by decide +kernel
theorem dX10_match_0 : decode cX10_match 0 = .ok (.aload_n 0, 1) := by decide +kernel
theorem dX10_match_1 : decode cX10_match 1 = .ok (.iload_n 1, 1) := by decide +kernel
theorem dX10_match_2 : decode cX10_match 2 = .ok (.invokevirtual 99, 3) := by decide +kernel
theorem dX10_match_5 : decode cX10_match 5 = .ok (.ifCond .eq 20, 3) := by decide +kernel
theorem dX10_match_8 : decode cX10_match 8 = .ok (.aload_n 0, 1) := by decide +kernel
theorem dX10_match_9 : decode cX10_match 9 = .ok (.iload_n 2, 1) := by decide +kernel
theorem dX10_match_10 : decode cX10_match 10 = .ok (.invokevirtual 99, 3) := by decide +kernel
theorem dX10_match_13 : decode cX10_match 13 = .ok (.ifCond .eq 12, 3) := by decide +kernel
theorem dX10_match_16 : decode cX10_match 16 = .ok (.iload_n 3, 1) := by decide +kernel
theorem dX10_match_17 : decode cX10_match 17 = .ok (.iconst 0, 1) := by decide +kernel
theorem dX10_match_18 : decode cX10_match 18 = .ok (.iconst 1, 1) := by decide +kernel
theorem dX10_match_19 : decode cX10_match 19 = .ok (.invokestatic 51, 3) := by decide +kernel
theorem dX10_match_22 : decode cX10_match 22 = .ok (.ifCond .ne 10, 3) := by decide +kernel
theorem dX10_match_25 : decode cX10_match 25 = .ok (.aload_n 0, 1) := by decide +kernel
theorem dX10_match_26 : decode cX10_match 26 = .ok (.ldc 90, 2) := by decide +kernel
theorem dX10_match_28 : decode cX10_match 28 = .ok (.invokevirtual 91, 3) := by decide +kernel
theorem dX10_match_31 : decode cX10_match 31 = .ok (.ireturn, 1) := by decide +kernel
theorem dX10_match_32 : decode cX10_match 32 = .ok (.aload_n 0, 1) := by decide +kernel
theorem dX10_match_33 : decode cX10_match 33 = .ok (.invokevirtual 198, 3) := by decide +kernel
theorem dX10_match_36 : decode cX10_match 36 = .ok (.aload_n 0, 1) := by decide +kernel
theorem dX10_match_37 : decode cX10_match 37 = .ok (.iload_n 1, 1) := by decide +kernel
theorem dX10_match_38 : decode cX10_match 38 = .ok (.iload_n 2, 1) := by decide +kernel
theorem dX10_match_39 : decode cX10_match 39 = .ok (.invokevirtual 73, 3) := by decide +kernel
theorem dX10_match_42 : decode cX10_match 42 = .ok (.istore 4, 2) := by decide +kernel
theorem dX10_match_44 : decode cX10_match 44 = .ok (.iconst (-1), 1) := by decide +kernel
theorem dX10_match_45 : decode cX10_match 45 = .ok (.istore 5, 2) := by decide +kernel
theorem dX10_match_47 : decode cX10_match 47 = .ok (.iconst 0, 1) := by decide +kernel
theorem dX10_match_48 : decode cX10_match 48 = .ok (.istore 6, 2) := by decide +kernel
theorem dX10_match_50 : decode cX10_match 50 = .ok (.iload 6, 2) := by decide +kernel
theorem dX10_match_52 : decode cX10_match 52 = .ok (.aload_n 0, 1) := by decide +kernel
theorem dX10_match_53 : decode cX10_match 53 = .ok (.getfield 9, 3) := by decide +kernel
theorem dX10_match_56 : decode cX10_match 56 = .ok (.iconst 2, 1) := by decide +kernel
theorem dX10_match_57 : decode cX10_match 57 = .ok (.iaload, 1) := by decide +kernel
theorem dX10_match_58 : decode cX10_match 58 = .ok (.if_icmp .ge 110, 3) := by decide +kernel
theorem dX10_match_61 : decode cX10_match 61 = .ok (.iload 6, 2) := by decide +kernel
theorem dX10_match_63 : decode cX10_match 63 = .ok (.iconst 1, 1) := by decide +kernel
theorem dX10_match_64 : decode cX10_match 64 = .ok (.iadd, 1) := by decide +kernel
theorem dX10_match_65 : decode cX10_match 65 = .ok (.istore 7, 2) := by decide +kernel
theorem dX10_match_67 : decode cX10_match 67 = .ok (.iload 7, 2) := by decide +kernel
theorem dX10_match_69 : decode cX10_match 69 = .ok (.aload_n 0, 1) := by decide +kernel
theorem dX10_match_70 : decode cX10_match 70 = .ok (.getfield 9, 3) := by decide +kernel
theorem dX10_match_73 : decode cX10_match 73 = .ok (.iconst 2, 1) := by decide +kernel
theorem dX10_match_74 : decode cX10_match 74 = .ok (.iaload, 1) := by decide +kernel
theorem dX10_match_75 : decode cX10_match 75 = .ok (.if_icmp .ge 87, 3) := by decide +kernel
theorem dX10_match_78 : decode cX10_match 78 = .ok (.aload_n 0, 1) := by decide +kernel
theorem dX10_match_79 : decode cX10_match 79 = .ok (.iload 6, 2) := by decide +kernel
theorem dX10_match_81 : decode cX10_match 81 = .ok (.iconst 3, 1) := by decide +kernel
theorem dX10_match_82 : decode cX10_match 82 = .ok (.invokevirtual 55, 3) := by decide +kernel
theorem dX10_match_85 : decode cX10_match 85 = .ok (.ifCond .ge 71, 3) := by decide +kernel
theorem dX10_match_88 : decode cX10_match 88 = .ok (.aload_n 0, 1) := by decide +kernel
theorem dX10_match_89 : decode cX10_match 89 = .ok (.iload 7, 2) := by decide +kernel
theorem dX10_match_91 : decode cX10_match 91 = .ok (.iconst 3, 1) := by decide +kernel
theorem dX10_match_92 : decode cX10_match 92 = .ok (.invokevirtual 55, 3) := by decide +kernel
theorem dX10_match_95 : decode cX10_match 95 = .ok (.ifCond .ge 61, 3) := by decide +kernel
theorem dX10_match_98 : decode cX10_match 98 = .ok (.aload_n 0, 1) := by decide +kernel
theorem dX10_match_99 : decode cX10_match 99 = .ok (.iload 6, 2) := by decide +kernel
theorem dX10_match_101 : decode cX10_match 101 = .ok (.iload 7, 2) := by decide +kernel
theorem dX10_match_103 : decode cX10_match 103 = .ok (.invokevirtual 110, 3) := by decide +kernel
theorem dX10_match_106 : decode cX10_match 106 = .ok (.aload_n 0, 1) := by decide +kernel
theorem dX10_match_107 : decode cX10_match 107 = .ok (.iload_n 1, 1) := by decide +kernel
theorem dX10_match_108 : decode cX10_match 108 = .ok (.iload_n 2, 1) := by decide +kernel
theorem dX10_match_109 : decode cX10_match 109 = .ok (.invokevirtual 73, 3) := by decide +kernel
theorem dX10_match_112 : decode cX10_match 112 = .ok (.istore 8, 2) := by decide +kernel
theorem dX10_match_114 : decode cX10_match 114 = .ok (.aload_n 0, 1) := by decide +kernel
theorem dX10_match_115 : decode cX10_match 115 = .ok (.invokevirtual 201, 3) := by decide +kernel
theorem dX10_match_118 : decode cX10_match 118 = .ok (.iload 8, 2) := by decide +kernel
theorem dX10_match_120 : decode cX10_match 120 = .ok (.iload 4, 2) := by decide +kernel
theorem dX10_match_122 : decode cX10_match 122 = .ok (.if_icmp .ge 14, 3) := by decide +kernel
theorem dX10_match_125 : decode cX10_match 125 = .ok (.bipush 10, 2) := by decide +kernel
theorem dX10_match_127 : decode cX10_match 127 = .ok (.iload 6, 2) := by decide +kernel
theorem dX10_match_129 : decode cX10_match 129 = .ok (.imul, 1) := by decide +kernel
theorem dX10_match_130 : decode cX10_match 130 = .ok (.iload 7, 2) := by decide +kernel
theorem dX10_match_132 : decode cX10_match 132 = .ok (.iadd, 1) := by decide +kernel
theorem dX10_match_133 : decode cX10_match 133 = .ok (.goto 5, 3) := by decide +kernel
theorem dX10_match_136 : decode cX10_match 136 = .ok (.iload 5, 2) := by decide +kernel
theorem dX10_match_138 : decode cX10_match 138 = .ok (.istore 5, 2) := by decide +kernel
theorem dX10_match_140 : decode cX10_match 140 = .ok (.iload 8, 2) := by decide +kernel
theorem dX10_match_142 : decode cX10_match 142 = .ok (.iload 4, 2) := by decide +kernel
theorem dX10_match_144 : decode cX10_match 144 = .ok (.if_icmp .ge 8, 3) := by decide +kernel
theorem dX10_match_147 : decode cX10_match 147 = .ok (.iload 8, 2) := by decide +kernel
theorem dX10_match_149 : decode cX10_match 149 = .ok (.goto 5, 3) := by decide +kernel
theorem dX10_match_152 : decode cX10_match 152 = .ok (.iload 4, 2) := by decide +kernel
theorem dX10_match_154 : decode cX10_match 154 = .ok (.istore 4, 2) := by decide +kernel
theorem dX10_match_156 : decode cX10_match 156 = .ok (.iinc 7 1, 3) := by decide +kernel
theorem dX10_match_159 : decode cX10_match 159 = .ok (.goto (-92), 3) := by decide +kernel
theorem dX10_match_162 : decode cX10_match 162 = .ok (.iinc 6 1, 3) := by decide +kernel
theorem dX10_match_165 : decode cX10_match 165 = .ok (.goto (-115), 3) := by decide +kernel
theorem dX10_match_168 : decode cX10_match 168 = .ok (.iload 5, 2) := by decide +kernel
theorem dX10_match_170 : decode cX10_match 170 = .ok (.ifCond .ge 12, 3) := by decide +kernel
theorem dX10_match_173 : decode cX10_match 173 = .ok (.aload_n 0, 1) := by decide +kernel
theorem dX10_match_174 : decode cX10_match 174 = .ok (.ldc 114, 2) := by decide +kernel
theorem dX10_match_176 : decode cX10_match 176 = .ok (.invokevirtual 91, 3) := by decide +kernel
theorem dX10_match_179 : decode cX10_match 179 = .ok (.goto 14, 3) := by decide +kernel
theorem dX10_match_182 : decode cX10_match 182 = .ok (.iload_n 3, 1) := by decide +kernel
theorem dX10_match_183 : decode cX10_match 183 = .ok (.ifCond .ne 8, 3) := by decide +kernel
theorem dX10_match_186 : decode cX10_match 186 = .ok (.iload 5, 2) := by decide +kernel
theorem dX10_match_188 : decode cX10_match 188 = .ok (.goto 5, 3) := by decide +kernel
theorem dX10_match_191 : decode cX10_match 191 = .ok (.iload 4, 2) := by decide +kernel
theorem dX10_match_193 : decode cX10_match 193 = .ok (.ireturn, 1) := by decide +kernel
theorem dX10_orderFor_0 : decode cX10_orderFor 0 = .ok (.aload_n 0, 1) := by decide +kernel
theorem dX10_orderFor_1 : decode cX10_orderFor 1 = .ok (.iload_n 1, 1) := by decide +kernel
theorem dX10_orderFor_2 : decode cX10_orderFor 2 = .ok (.invokevirtual 99, 3) := by decide +kernel
theorem dX10_orderFor_5 : decode cX10_orderFor 5 = .ok (.ifCond .eq 13, 3) := by decide +kernel
theorem dX10_orderFor_8 : decode cX10_orderFor 8 = .ok (.iload_n 2, 1) := by decide +kernel
theorem dX10_orderFor_9 : decode cX10_orderFor 9 = .ok (.iconst 0, 1) := by decide +kernel
theorem dX10_orderFor_10 : decode cX10_orderFor 10 = .ok (.bipush 40, 2) := by decide +kernel
theorem dX10_orderFor_12 : decode cX10_orderFor 12 = .ok (.invokestatic 51, 3) := by decide +kernel
theorem dX10_orderFor_15 : decode cX10_orderFor 15 = .ok (.ifCond .ne 10, 3) := by decide +kernel
theorem dX10_orderFor_18 : decode cX10_orderFor 18 = .ok (.aload_n 0, 1) := by decide +kernel
theorem dX10_orderFor_19 : decode cX10_orderFor 19 = .ok (.ldc 90, 2) := by decide +kernel
theorem dX10_orderFor_21 : decode cX10_orderFor 21 = .ok (.invokevirtual 91, 3) := by decide +kernel
theorem dX10_orderFor_24 : decode cX10_orderFor 24 = .ok (.ireturn, 1) := by decide +kernel
theorem dX10_orderFor_25 : decode cX10_orderFor 25 = .ok (.aload_n 0, 1) := by decide +kernel
theorem dX10_orderFor_26 : decode cX10_orderFor 26 = .ok (.invokevirtual 198, 3) := by decide +kernel
theorem dX10_orderFor_29 : decode cX10_orderFor 29 = .ok (.aload_n 0, 1) := by decide +kernel
theorem dX10_orderFor_30 : decode cX10_orderFor 30 = .ok (.iload_n 1, 1) := by decide +kernel
theorem dX10_orderFor_31 : decode cX10_orderFor 31 = .ok (.invokevirtual 204, 3) := by decide +kernel
theorem dX10_orderFor_34 : decode cX10_orderFor 34 = .ok (.istore_n 3, 1) := by decide +kernel
theorem dX10_orderFor_35 : decode cX10_orderFor 35 = .ok (.iconst 0, 1) := by decide +kernel
theorem dX10_orderFor_36 : decode cX10_orderFor 36 = .ok (.istore 4, 2) := by decide +kernel
theorem dX10_orderFor_38 : decode cX10_orderFor 38 = .ok (.iload 4, 2) := by decide +kernel
theorem dX10_orderFor_40 : decode cX10_orderFor 40 = .ok (.bipush 40, 2) := by decide +kernel
theorem dX10_orderFor_42 : decode cX10_orderFor 42 = .ok (.if_icmp .gt 50, 3) := by decide +kernel
theorem dX10_orderFor_45 : decode cX10_orderFor 45 = .ok (.aload_n 0, 1) := by decide +kernel
theorem dX10_orderFor_46 : decode cX10_orderFor 46 = .ok (.getfield 9, 3) := by decide +kernel
theorem dX10_orderFor_49 : decode cX10_orderFor 49 = .ok (.iconst 4, 1) := by decide +kernel
theorem dX10_orderFor_50 : decode cX10_orderFor 50 = .ok (.iload 4, 2) := by decide +kernel
theorem dX10_orderFor_52 : decode cX10_orderFor 52 = .ok (.iastore, 1) := by decide +kernel
theorem dX10_orderFor_53 : decode cX10_orderFor 53 = .ok (.aload_n 0, 1) := by decide +kernel
theorem dX10_orderFor_54 : decode cX10_orderFor 54 = .ok (.iload_n 2, 1) := by decide +kernel
theorem dX10_orderFor_55 : decode cX10_orderFor 55 = .ok (.invokevirtual 185, 3) := by decide +kernel
theorem dX10_orderFor_58 : decode cX10_orderFor 58 = .ok (.aload_n 0, 1) := by decide +kernel
theorem dX10_orderFor_59 : decode cX10_orderFor 59 = .ok (.iload_n 1, 1) := by decide +kernel
theorem dX10_orderFor_60 : decode cX10_orderFor 60 = .ok (.invokevirtual 204, 3) := by decide +kernel
theorem dX10_orderFor_63 : decode cX10_orderFor 63 = .ok (.iload_n 3, 1) := by decide +kernel
theorem dX10_orderFor_64 : decode cX10_orderFor 64 = .ok (.if_icmp .ne 7, 3) := by decide +kernel
theorem dX10_orderFor_67 : decode cX10_orderFor 67 = .ok (.iconst 1, 1) := by decide +kernel
theorem dX10_orderFor_68 : decode cX10_orderFor 68 = .ok (.goto 4, 3) := by decide +kernel
theorem dX10_orderFor_71 : decode cX10_orderFor 71 = .ok (.iconst 0, 1) := by decide +kernel
theorem dX10_orderFor_72 : decode cX10_orderFor 72 = .ok (.istore 5, 2) := by decide +kernel
theorem dX10_orderFor_74 : decode cX10_orderFor 74 = .ok (.aload_n 0, 1) := by decide +kernel
theorem dX10_orderFor_75 : decode cX10_orderFor 75 = .ok (.invokevirtual 201, 3) := by decide +kernel
theorem dX10_orderFor_78 : decode cX10_orderFor 78 = .ok (.iload 5, 2) := by decide +kernel
theorem dX10_orderFor_80 : decode cX10_orderFor 80 = .ok (.ifCond .eq 6, 3) := by decide +kernel
theorem dX10_orderFor_83 : decode cX10_orderFor 83 = .ok (.iload 4, 2) := by decide +kernel
theorem dX10_orderFor_85 : decode cX10_orderFor 85 = .ok (.ireturn, 1) := by decide +kernel
theorem dX10_orderFor_86 : decode cX10_orderFor 86 = .ok (.iinc 4 1, 3) := by decide +kernel
theorem dX10_orderFor_89 : decode cX10_orderFor 89 = .ok (.goto (-51), 3) := by decide +kernel
theorem dX10_orderFor_92 : decode cX10_orderFor 92 = .ok (.aload_n 0, 1) := by decide +kernel
theorem dX10_orderFor_93 : decode cX10_orderFor 93 = .ok (.ldc 114, 2) := by decide +kernel
theorem dX10_orderFor_95 : decode cX10_orderFor 95 = .ok (.invokevirtual 91, 3) := by decide +kernel
theorem dX10_orderFor_98 : decode cX10_orderFor 98 = .ok (.ireturn, 1) := by decide +kernel
theorem dX10_seers_0 : decode cX10_seers 0 = .ok (.aload_n 0, 1) := by decide +kernel
theorem dX10_seers_1 : decode cX10_seers 1 = .ok (.iload_n 1, 1) := by decide +kernel
theorem dX10_seers_2 : decode cX10_seers 2 = .ok (.invokevirtual 99, 3) := by decide +kernel
theorem dX10_seers_5 : decode cX10_seers 5 = .ok (.ifCond .eq 11, 3) := by decide +kernel
theorem dX10_seers_8 : decode cX10_seers 8 = .ok (.aload_n 0, 1) := by decide +kernel
theorem dX10_seers_9 : decode cX10_seers 9 = .ok (.iload_n 1, 1) := by decide +kernel
theorem dX10_seers_10 : decode cX10_seers 10 = .ok (.invokevirtual 204, 3) := by decide +kernel
theorem dX10_seers_13 : decode cX10_seers 13 = .ok (.goto 9, 3) := by decide +kernel
theorem dX10_seers_16 : decode cX10_seers 16 = .ok (.aload_n 0, 1) := by decide +kernel
theorem dX10_seers_17 : decode cX10_seers 17 = .ok (.ldc 90, 2) := by decide +kernel
theorem dX10_seers_19 : decode cX10_seers 19 = .ok (.invokevirtual 91, 3) := by decide +kernel
theorem dX10_seers_22 : decode cX10_seers 22 = .ok (.ireturn, 1) := by decide +kernel
theorem dX10_seenBy_0 : decode cX10_seenBy 0 = .ok (.iconst 0, 1) := by decide +kernel
theorem dX10_seenBy_1 : decode cX10_seenBy 1 = .ok (.istore_n 2, 1) := by decide +kernel
theorem dX10_seenBy_2 : decode cX10_seenBy 2 = .ok (.iconst 0, 1) := by decide +kernel
theorem dX10_seenBy_3 : decode cX10_seenBy 3 = .ok (.istore_n 3, 1) := by decide +kernel
theorem dX10_seenBy_4 : decode cX10_seenBy 4 = .ok (.iload_n 3, 1) := by decide +kernel
theorem dX10_seenBy_5 : decode cX10_seenBy 5 = .ok (.aload_n 0, 1) := by decide +kernel
theorem dX10_seenBy_6 : decode cX10_seenBy 6 = .ok (.getfield 9, 3) := by decide +kernel
theorem dX10_seenBy_9 : decode cX10_seenBy 9 = .ok (.iconst 2, 1) := by decide +kernel
theorem dX10_seenBy_10 : decode cX10_seenBy 10 = .ok (.iaload, 1) := by decide +kernel
theorem dX10_seenBy_11 : decode cX10_seenBy 11 = .ok (.if_icmp .ge 31, 3) := by decide +kernel
theorem dX10_seenBy_14 : decode cX10_seenBy 14 = .ok (.iload_n 2, 1) := by decide +kernel
theorem dX10_seenBy_15 : decode cX10_seenBy 15 = .ok (.iload_n 1, 1) := by decide +kernel
theorem dX10_seenBy_16 : decode cX10_seenBy 16 = .ok (.iload_n 3, 1) := by decide +kernel
theorem dX10_seenBy_17 : decode cX10_seenBy 17 = .ok (.ishr, 1) := by decide +kernel
theorem dX10_seenBy_18 : decode cX10_seenBy 18 = .ok (.iconst 1, 1) := by decide +kernel
theorem dX10_seenBy_19 : decode cX10_seenBy 19 = .ok (.iand, 1) := by decide +kernel
theorem dX10_seenBy_20 : decode cX10_seenBy 20 = .ok (.iconst 1, 1) := by decide +kernel
theorem dX10_seenBy_21 : decode cX10_seenBy 21 = .ok (.if_icmp .ne 12, 3) := by decide +kernel
theorem dX10_seenBy_24 : decode cX10_seenBy 24 = .ok (.aload_n 0, 1) := by decide +kernel
theorem dX10_seenBy_25 : decode cX10_seenBy 25 = .ok (.iload_n 3, 1) := by decide +kernel
theorem dX10_seenBy_26 : decode cX10_seenBy 26 = .ok (.iconst 4, 1) := by decide +kernel
theorem dX10_seenBy_27 : decode cX10_seenBy 27 = .ok (.invokevirtual 55, 3) := by decide +kernel
theorem dX10_seenBy_30 : decode cX10_seenBy 30 = .ok (.goto 4, 3) := by decide +kernel
theorem dX10_seenBy_33 : decode cX10_seenBy 33 = .ok (.iconst 0, 1) := by decide +kernel
theorem dX10_seenBy_34 : decode cX10_seenBy 34 = .ok (.ior, 1) := by decide +kernel
theorem dX10_seenBy_35 : decode cX10_seenBy 35 = .ok (.istore_n 2, 1) := by decide +kernel
theorem dX10_seenBy_36 : decode cX10_seenBy 36 = .ok (.iinc 3 1, 3) := by decide +kernel
theorem dX10_seenBy_39 : decode cX10_seenBy 39 = .ok (.goto (-35), 3) := by decide +kernel
theorem dX10_seenBy_42 : decode cX10_seenBy 42 = .ok (.iload_n 2, 1) := by decide +kernel
theorem dX10_seenBy_43 : decode cX10_seenBy 43 = .ok (.ireturn, 1) := by decide +kernel
theorem dX10_everybody_0 : decode cX10_everybody 0 = .ok (.iconst 1, 1) := by decide +kernel
theorem dX10_everybody_1 : decode cX10_everybody 1 = .ok (.aload_n 0, 1) := by decide +kernel
theorem dX10_everybody_2 : decode cX10_everybody 2 = .ok (.getfield 9, 3) := by decide +kernel
theorem dX10_everybody_5 : decode cX10_everybody 5 = .ok (.iconst 2, 1) := by decide +kernel
theorem dX10_everybody_6 : decode cX10_everybody 6 = .ok (.iaload, 1) := by decide +kernel
theorem dX10_everybody_7 : decode cX10_everybody 7 = .ok (.ishl, 1) := by decide +kernel
theorem dX10_everybody_8 : decode cX10_everybody 8 = .ok (.iconst 1, 1) := by decide +kernel
theorem dX10_everybody_9 : decode cX10_everybody 9 = .ok (.isub, 1) := by decide +kernel
theorem dX10_everybody_10 : decode cX10_everybody 10 = .ok (.ireturn, 1) := by decide +kernel
theorem dX10_witnesses_0 : decode cX10_witnesses 0 = .ok (.iload_n 1, 1) := by decide +kernel
theorem dX10_witnesses_1 : decode cX10_witnesses 1 = .ok (.iconst 0, 1) := by decide +kernel
theorem dX10_witnesses_2 : decode cX10_witnesses 2 = .ok (.aload_n 0, 1) := by decide +kernel
theorem dX10_witnesses_3 : decode cX10_witnesses 3 = .ok (.invokevirtual 207, 3) := by decide +kernel
theorem dX10_witnesses_6 : decode cX10_witnesses 6 = .ok (.invokestatic 51, 3) := by decide +kernel
theorem dX10_witnesses_9 : decode cX10_witnesses 9 = .ok (.ifCond .ne 10, 3) := by decide +kernel
theorem dX10_witnesses_12 : decode cX10_witnesses 12 = .ok (.aload_n 0, 1) := by decide +kernel
theorem dX10_witnesses_13 : decode cX10_witnesses 13 = .ok (.ldc 90, 2) := by decide +kernel
theorem dX10_witnesses_15 : decode cX10_witnesses 15 = .ok (.invokevirtual 91, 3) := by decide +kernel
theorem dX10_witnesses_18 : decode cX10_witnesses 18 = .ok (.ireturn, 1) := by decide +kernel
theorem dX10_witnesses_19 : decode cX10_witnesses 19 = .ok (.iconst (-1), 1) := by decide +kernel
theorem dX10_witnesses_20 : decode cX10_witnesses 20 = .ok (.istore_n 2, 1) := by decide +kernel
theorem dX10_witnesses_21 : decode cX10_witnesses 21 = .ok (.iconst 0, 1) := by decide +kernel
theorem dX10_witnesses_22 : decode cX10_witnesses 22 = .ok (.istore_n 3, 1) := by decide +kernel
theorem dX10_witnesses_23 : decode cX10_witnesses 23 = .ok (.iload_n 3, 1) := by decide +kernel
theorem dX10_witnesses_24 : decode cX10_witnesses 24 = .ok (.aload_n 0, 1) := by decide +kernel
theorem dX10_witnesses_25 : decode cX10_witnesses 25 = .ok (.invokevirtual 207, 3) := by decide +kernel
theorem dX10_witnesses_28 : decode cX10_witnesses 28 = .ok (.if_icmp .gt 54, 3) := by decide +kernel
theorem dX10_witnesses_31 : decode cX10_witnesses 31 = .ok (.iload_n 2, 1) := by decide +kernel
theorem dX10_witnesses_32 : decode cX10_witnesses 32 = .ok (.ifCond .lt 14, 3) := by decide +kernel
theorem dX10_witnesses_35 : decode cX10_witnesses 35 = .ok (.iload_n 3, 1) := by decide +kernel
theorem dX10_witnesses_36 : decode cX10_witnesses 36 = .ok (.invokestatic 67, 3) := by decide +kernel
theorem dX10_witnesses_39 : decode cX10_witnesses 39 = .ok (.iload_n 2, 1) := by decide +kernel
theorem dX10_witnesses_40 : decode cX10_witnesses 40 = .ok (.invokestatic 67, 3) := by decide +kernel
theorem dX10_witnesses_43 : decode cX10_witnesses 43 = .ok (.if_icmp .ge 7, 3) := by decide +kernel
theorem dX10_witnesses_46 : decode cX10_witnesses 46 = .ok (.iconst 1, 1) := by decide +kernel
theorem dX10_witnesses_47 : decode cX10_witnesses 47 = .ok (.goto 4, 3) := by decide +kernel
theorem dX10_witnesses_50 : decode cX10_witnesses 50 = .ok (.iconst 0, 1) := by decide +kernel
theorem dX10_witnesses_51 : decode cX10_witnesses 51 = .ok (.istore 4, 2) := by decide +kernel
theorem dX10_witnesses_53 : decode cX10_witnesses 53 = .ok (.iload 4, 2) := by decide +kernel
theorem dX10_witnesses_55 : decode cX10_witnesses 55 = .ok (.ifCond .eq 19, 3) := by decide +kernel
theorem dX10_witnesses_58 : decode cX10_witnesses 58 = .ok (.iload_n 1, 1) := by decide +kernel
theorem dX10_witnesses_59 : decode cX10_witnesses 59 = .ok (.aload_n 0, 1) := by decide +kernel
theorem dX10_witnesses_60 : decode cX10_witnesses 60 = .ok (.iload_n 3, 1) := by decide +kernel
theorem dX10_witnesses_61 : decode cX10_witnesses 61 = .ok (.invokevirtual 210, 3) := by decide +kernel
theorem dX10_witnesses_64 : decode cX10_witnesses 64 = .ok (.iconst (-1), 1) := by decide +kernel
theorem dX10_witnesses_65 : decode cX10_witnesses 65 = .ok (.ixor, 1) := by decide +kernel
theorem dX10_witnesses_66 : decode cX10_witnesses 66 = .ok (.iand, 1) := by decide +kernel
theorem dX10_witnesses_67 : decode cX10_witnesses 67 = .ok (.ifCond .ne 7, 3) := by decide +kernel
theorem dX10_witnesses_70 : decode cX10_witnesses 70 = .ok (.iload_n 3, 1) := by decide +kernel
theorem dX10_witnesses_71 : decode cX10_witnesses 71 = .ok (.goto 4, 3) := by decide +kernel
theorem dX10_witnesses_74 : decode cX10_witnesses 74 = .ok (.iload_n 2, 1) := by decide +kernel
theorem dX10_witnesses_75 : decode cX10_witnesses 75 = .ok (.istore_n 2, 1) := by decide +kernel
theorem dX10_witnesses_76 : decode cX10_witnesses 76 = .ok (.iinc 3 1, 3) := by decide +kernel
theorem dX10_witnesses_79 : decode cX10_witnesses 79 = .ok (.goto (-56), 3) := by decide +kernel
theorem dX10_witnesses_82 : decode cX10_witnesses 82 = .ok (.iload_n 2, 1) := by decide +kernel
theorem dX10_witnesses_83 : decode cX10_witnesses 83 = .ok (.ifCond .ge 12, 3) := by decide +kernel
theorem dX10_witnesses_86 : decode cX10_witnesses 86 = .ok (.aload_n 0, 1) := by decide +kernel
theorem dX10_witnesses_87 : decode cX10_witnesses 87 = .ok (.ldc 114, 2) := by decide +kernel
theorem dX10_witnesses_89 : decode cX10_witnesses 89 = .ok (.invokevirtual 91, 3) := by decide +kernel
theorem dX10_witnesses_92 : decode cX10_witnesses 92 = .ok (.goto 4, 3) := by decide +kernel
theorem dX10_witnesses_95 : decode cX10_witnesses 95 = .ok (.iload_n 2, 1) := by decide +kernel
theorem dX10_witnesses_96 : decode cX10_witnesses 96 = .ok (.ireturn, 1) := by decide +kernel
theorem dX10_odds_0 : decode cX10_odds 0 = .ok (.aload_n 0, 1) := by decide +kernel
theorem dX10_odds_1 : decode cX10_odds 1 = .ok (.iload_n 1, 1) := by decide +kernel
theorem dX10_odds_2 : decode cX10_odds 2 = .ok (.invokevirtual 99, 3) := by decide +kernel
theorem dX10_odds_5 : decode cX10_odds 5 = .ok (.ifCond .eq 12, 3) := by decide +kernel
theorem dX10_odds_8 : decode cX10_odds 8 = .ok (.iload_n 2, 1) := by decide +kernel
theorem dX10_odds_9 : decode cX10_odds 9 = .ok (.iconst 0, 1) := by decide +kernel
theorem dX10_odds_10 : decode cX10_odds 10 = .ok (.iconst 1, 1) := by decide +kernel
theorem dX10_odds_11 : decode cX10_odds 11 = .ok (.invokestatic 51, 3) := by decide +kernel
theorem dX10_odds_14 : decode cX10_odds 14 = .ok (.ifCond .ne 10, 3) := by decide +kernel
theorem dX10_odds_17 : decode cX10_odds 17 = .ok (.aload_n 0, 1) := by decide +kernel
theorem dX10_odds_18 : decode cX10_odds 18 = .ok (.ldc 90, 2) := by decide +kernel
theorem dX10_odds_20 : decode cX10_odds 20 = .ok (.invokevirtual 91, 3) := by decide +kernel
theorem dX10_odds_23 : decode cX10_odds 23 = .ok (.ireturn, 1) := by decide +kernel
theorem dX10_odds_24 : decode cX10_odds 24 = .ok (.aload_n 0, 1) := by decide +kernel
theorem dX10_odds_25 : decode cX10_odds 25 = .ok (.getfield 9, 3) := by decide +kernel
theorem dX10_odds_28 : decode cX10_odds 28 = .ok (.iconst 2, 1) := by decide +kernel
theorem dX10_odds_29 : decode cX10_odds 29 = .ok (.iaload, 1) := by decide +kernel
theorem dX10_odds_30 : decode cX10_odds 30 = .ok (.iconst 1, 1) := by decide +kernel
theorem dX10_odds_31 : decode cX10_odds 31 = .ok (.isub, 1) := by decide +kernel
theorem dX10_odds_32 : decode cX10_odds 32 = .ok (.istore_n 3, 1) := by decide +kernel
theorem dX10_odds_33 : decode cX10_odds 33 = .ok (.iload_n 3, 1) := by decide +kernel
theorem dX10_odds_34 : decode cX10_odds 34 = .ok (.ifCond .ne 10, 3) := by decide +kernel
theorem dX10_odds_37 : decode cX10_odds 37 = .ok (.aload_n 0, 1) := by decide +kernel
theorem dX10_odds_38 : decode cX10_odds 38 = .ok (.ldc 109, 2) := by decide +kernel
theorem dX10_odds_40 : decode cX10_odds 40 = .ok (.invokevirtual 91, 3) := by decide +kernel
theorem dX10_odds_43 : decode cX10_odds 43 = .ok (.ireturn, 1) := by decide +kernel
theorem dX10_odds_44 : decode cX10_odds 44 = .ok (.iconst 0, 1) := by decide +kernel
theorem dX10_odds_45 : decode cX10_odds 45 = .ok (.istore 4, 2) := by decide +kernel
theorem dX10_odds_47 : decode cX10_odds 47 = .ok (.iconst 0, 1) := by decide +kernel
theorem dX10_odds_48 : decode cX10_odds 48 = .ok (.istore 5, 2) := by decide +kernel
theorem dX10_odds_50 : decode cX10_odds 50 = .ok (.iload 5, 2) := by decide +kernel
theorem dX10_odds_52 : decode cX10_odds 52 = .ok (.aload_n 0, 1) := by decide +kernel
theorem dX10_odds_53 : decode cX10_odds 53 = .ok (.getfield 9, 3) := by decide +kernel
theorem dX10_odds_56 : decode cX10_odds 56 = .ok (.iconst 2, 1) := by decide +kernel
theorem dX10_odds_57 : decode cX10_odds 57 = .ok (.iaload, 1) := by decide +kernel
theorem dX10_odds_58 : decode cX10_odds 58 = .ok (.if_icmp .ge 40, 3) := by decide +kernel
theorem dX10_odds_61 : decode cX10_odds 61 = .ok (.iload 4, 2) := by decide +kernel
theorem dX10_odds_63 : decode cX10_odds 63 = .ok (.iload 5, 2) := by decide +kernel
theorem dX10_odds_65 : decode cX10_odds 65 = .ok (.iload_n 1, 1) := by decide +kernel
theorem dX10_odds_66 : decode cX10_odds 66 = .ok (.if_icmp .eq 22, 3) := by decide +kernel
theorem dX10_odds_69 : decode cX10_odds 69 = .ok (.aload_n 0, 1) := by decide +kernel
theorem dX10_odds_70 : decode cX10_odds 70 = .ok (.iload 5, 2) := by decide +kernel
theorem dX10_odds_72 : decode cX10_odds 72 = .ok (.iload_n 1, 1) := by decide +kernel
theorem dX10_odds_73 : decode cX10_odds 73 = .ok (.invokevirtual 115, 3) := by decide +kernel
theorem dX10_odds_76 : decode cX10_odds 76 = .ok (.aload_n 0, 1) := by decide +kernel
theorem dX10_odds_77 : decode cX10_odds 77 = .ok (.iload_n 1, 1) := by decide +kernel
theorem dX10_odds_78 : decode cX10_odds 78 = .ok (.invokevirtual 102, 3) := by decide +kernel
theorem dX10_odds_81 : decode cX10_odds 81 = .ok (.if_icmp .gt 7, 3) := by decide +kernel
theorem dX10_odds_84 : decode cX10_odds 84 = .ok (.iconst 1, 1) := by decide +kernel
theorem dX10_odds_85 : decode cX10_odds 85 = .ok (.goto 4, 3) := by decide +kernel
theorem dX10_odds_88 : decode cX10_odds 88 = .ok (.iconst 0, 1) := by decide +kernel
theorem dX10_odds_89 : decode cX10_odds 89 = .ok (.iadd, 1) := by decide +kernel
theorem dX10_odds_90 : decode cX10_odds 90 = .ok (.istore 4, 2) := by decide +kernel
theorem dX10_odds_92 : decode cX10_odds 92 = .ok (.iinc 5 1, 3) := by decide +kernel
theorem dX10_odds_95 : decode cX10_odds 95 = .ok (.goto (-45), 3) := by decide +kernel
theorem dX10_odds_98 : decode cX10_odds 98 = .ok (.iload_n 3, 1) := by decide +kernel
theorem dX10_odds_99 : decode cX10_odds 99 = .ok (.istore 5, 2) := by decide +kernel
theorem dX10_odds_101 : decode cX10_odds 101 = .ok (.iload 5, 2) := by decide +kernel
theorem dX10_odds_103 : decode cX10_odds 103 = .ok (.iconst 1, 1) := by decide +kernel
theorem dX10_odds_104 : decode cX10_odds 104 = .ok (.if_icmp .le 36, 3) := by decide +kernel
theorem dX10_odds_107 : decode cX10_odds 107 = .ok (.iload 4, 2) := by decide +kernel
theorem dX10_odds_109 : decode cX10_odds 109 = .ok (.iload 5, 2) := by decide +kernel
theorem dX10_odds_111 : decode cX10_odds 111 = .ok (.irem, 1) := by decide +kernel
theorem dX10_odds_112 : decode cX10_odds 112 = .ok (.ifCond .ne 22, 3) := by decide +kernel
theorem dX10_odds_115 : decode cX10_odds 115 = .ok (.iload_n 3, 1) := by decide +kernel
theorem dX10_odds_116 : decode cX10_odds 116 = .ok (.iload 5, 2) := by decide +kernel
theorem dX10_odds_118 : decode cX10_odds 118 = .ok (.irem, 1) := by decide +kernel
theorem dX10_odds_119 : decode cX10_odds 119 = .ok (.ifCond .ne 15, 3) := by decide +kernel
theorem dX10_odds_122 : decode cX10_odds 122 = .ok (.iload 4, 2) := by decide +kernel
theorem dX10_odds_124 : decode cX10_odds 124 = .ok (.iload 5, 2) := by decide +kernel
theorem dX10_odds_126 : decode cX10_odds 126 = .ok (.idiv, 1) := by decide +kernel
theorem dX10_odds_127 : decode cX10_odds 127 = .ok (.istore 4, 2) := by decide +kernel
theorem dX10_odds_129 : decode cX10_odds 129 = .ok (.iload_n 3, 1) := by decide +kernel
theorem dX10_odds_130 : decode cX10_odds 130 = .ok (.iload 5, 2) := by decide +kernel
theorem dX10_odds_132 : decode cX10_odds 132 = .ok (.idiv, 1) := by decide +kernel
theorem dX10_odds_133 : decode cX10_odds 133 = .ok (.istore_n 3, 1) := by decide +kernel
theorem dX10_odds_134 : decode cX10_odds 134 = .ok (.iinc 5 (-1), 3) := by decide +kernel
theorem dX10_odds_137 : decode cX10_odds 137 = .ok (.goto (-36), 3) := by decide +kernel
theorem dX10_odds_140 : decode cX10_odds 140 = .ok (.iload_n 2, 1) := by decide +kernel
theorem dX10_odds_141 : decode cX10_odds 141 = .ok (.ifCond .ne 8, 3) := by decide +kernel
theorem dX10_odds_144 : decode cX10_odds 144 = .ok (.iload 4, 2) := by decide +kernel
theorem dX10_odds_146 : decode cX10_odds 146 = .ok (.goto 4, 3) := by decide +kernel
theorem dX10_odds_149 : decode cX10_odds 149 = .ok (.iload_n 3, 1) := by decide +kernel
theorem dX10_odds_150 : decode cX10_odds 150 = .ok (.ireturn, 1) := by decide +kernel
theorem dX10_isSo_0 : decode cX10_isSo 0 = .ok (.iconst 1, 1) := by decide +kernel
theorem dX10_isSo_1 : decode cX10_isSo 1 = .ok (.istore_n 3, 1) := by decide +kernel
theorem dX10_isSo_2 : decode cX10_isSo 2 = .ok (.iconst 0, 1) := by decide +kernel
theorem dX10_isSo_3 : decode cX10_isSo 3 = .ok (.istore 4, 2) := by decide +kernel
theorem dX10_isSo_5 : decode cX10_isSo 5 = .ok (.iload 4, 2) := by decide +kernel
theorem dX10_isSo_7 : decode cX10_isSo 7 = .ok (.aload_n 0, 1) := by decide +kernel
theorem dX10_isSo_8 : decode cX10_isSo 8 = .ok (.getfield 25, 3) := by decide +kernel
theorem dX10_isSo_11 : decode cX10_isSo 11 = .ok (.iload_n 1, 1) := by decide +kernel
theorem dX10_isSo_12 : decode cX10_isSo 12 = .ok (.iaload, 1) := by decide +kernel
theorem dX10_isSo_13 : decode cX10_isSo 13 = .ok (.if_icmp .ge 50, 3) := by decide +kernel
theorem dX10_isSo_16 : decode cX10_isSo 16 = .ok (.iload_n 3, 1) := by decide +kernel
theorem dX10_isSo_17 : decode cX10_isSo 17 = .ok (.ifCond .eq 46, 3) := by decide +kernel
theorem dX10_isSo_20 : decode cX10_isSo 20 = .ok (.aload_n 0, 1) := by decide +kernel
theorem dX10_isSo_21 : decode cX10_isSo 21 = .ok (.iload 4, 2) := by decide +kernel
theorem dX10_isSo_23 : decode cX10_isSo 23 = .ok (.invokevirtual 99, 3) := by decide +kernel
theorem dX10_isSo_26 : decode cX10_isSo 26 = .ok (.ifCond .eq 29, 3) := by decide +kernel
theorem dX10_isSo_29 : decode cX10_isSo 29 = .ok (.aload_n 0, 1) := by decide +kernel
theorem dX10_isSo_30 : decode cX10_isSo 30 = .ok (.getfield 28, 3) := by decide +kernel
theorem dX10_isSo_33 : decode cX10_isSo 33 = .ok (.bipush 24, 2) := by decide +kernel
theorem dX10_isSo_35 : decode cX10_isSo 35 = .ok (.iload_n 1, 1) := by decide +kernel
theorem dX10_isSo_36 : decode cX10_isSo 36 = .ok (.imul, 1) := by decide +kernel
theorem dX10_isSo_37 : decode cX10_isSo 37 = .ok (.iload 4, 2) := by decide +kernel
theorem dX10_isSo_39 : decode cX10_isSo 39 = .ok (.iadd, 1) := by decide +kernel
theorem dX10_isSo_40 : decode cX10_isSo 40 = .ok (.iaload, 1) := by decide +kernel
theorem dX10_isSo_41 : decode cX10_isSo 41 = .ok (.aload_n 0, 1) := by decide +kernel
theorem dX10_isSo_42 : decode cX10_isSo 42 = .ok (.iload_n 2, 1) := by decide +kernel
theorem dX10_isSo_43 : decode cX10_isSo 43 = .ok (.iload 4, 2) := by decide +kernel
theorem dX10_isSo_45 : decode cX10_isSo 45 = .ok (.invokevirtual 115, 3) := by decide +kernel
theorem dX10_isSo_48 : decode cX10_isSo 48 = .ok (.if_icmp .ne 7, 3) := by decide +kernel
theorem dX10_isSo_51 : decode cX10_isSo 51 = .ok (.iconst 1, 1) := by decide +kernel
theorem dX10_isSo_52 : decode cX10_isSo 52 = .ok (.goto 4, 3) := by decide +kernel
theorem dX10_isSo_55 : decode cX10_isSo 55 = .ok (.iconst 0, 1) := by decide +kernel
theorem dX10_isSo_56 : decode cX10_isSo 56 = .ok (.istore_n 3, 1) := by decide +kernel
theorem dX10_isSo_57 : decode cX10_isSo 57 = .ok (.iinc 4 1, 3) := by decide +kernel
theorem dX10_isSo_60 : decode cX10_isSo 60 = .ok (.goto (-55), 3) := by decide +kernel
theorem dX10_isSo_63 : decode cX10_isSo 63 = .ok (.iload_n 3, 1) := by decide +kernel
theorem dX10_isSo_64 : decode cX10_isSo 64 = .ok (.ireturn, 1) := by decide +kernel
theorem dX10_fits_0 : decode cX10_fits 0 = .ok (.iload_n 1, 1) := by decide +kernel
theorem dX10_fits_1 : decode cX10_fits 1 = .ok (.invokestatic 213, 3) := by decide +kernel
theorem dX10_fits_4 : decode cX10_fits 4 = .ok (.ifCond .eq 20, 3) := by decide +kernel
theorem dX10_fits_7 : decode cX10_fits 7 = .ok (.aload_n 0, 1) := by decide +kernel
theorem dX10_fits_8 : decode cX10_fits 8 = .ok (.iload_n 2, 1) := by decide +kernel
theorem dX10_fits_9 : decode cX10_fits 9 = .ok (.invokevirtual 99, 3) := by decide +kernel
theorem dX10_fits_12 : decode cX10_fits 12 = .ok (.ifCond .eq 12, 3) := by decide +kernel
theorem dX10_fits_15 : decode cX10_fits 15 = .ok (.iload_n 3, 1) := by decide +kernel
theorem dX10_fits_16 : decode cX10_fits 16 = .ok (.iconst 0, 1) := by decide +kernel
theorem dX10_fits_17 : decode cX10_fits 17 = .ok (.iconst 1, 1) := by decide +kernel
theorem dX10_fits_18 : decode cX10_fits 18 = .ok (.invokestatic 51, 3) := by decide +kernel
theorem dX10_fits_21 : decode cX10_fits 21 = .ok (.ifCond .ne 10, 3) := by decide +kernel
theorem dX10_fits_24 : decode cX10_fits 24 = .ok (.aload_n 0, 1) := by decide +kernel
theorem dX10_fits_25 : decode cX10_fits 25 = .ok (.ldc 90, 2) := by decide +kernel
theorem dX10_fits_27 : decode cX10_fits 27 = .ok (.invokevirtual 91, 3) := by decide +kernel
theorem dX10_fits_30 : decode cX10_fits 30 = .ok (.ireturn, 1) := by decide +kernel
theorem dX10_fits_31 : decode cX10_fits 31 = .ok (.aload_n 0, 1) := by decide +kernel
theorem dX10_fits_32 : decode cX10_fits 32 = .ok (.getfield 22, 3) := by decide +kernel
theorem dX10_fits_35 : decode cX10_fits 35 = .ok (.iload_n 1, 1) := by decide +kernel
theorem dX10_fits_36 : decode cX10_fits 36 = .ok (.iaload, 1) := by decide +kernel
theorem dX10_fits_37 : decode cX10_fits 37 = .ok (.ifCond .ne 10, 3) := by decide +kernel
theorem dX10_fits_40 : decode cX10_fits 40 = .ok (.aload_n 0, 1) := by decide +kernel
theorem dX10_fits_41 : decode cX10_fits 41 = .ok (.ldc 114, 2) := by decide +kernel
theorem dX10_fits_43 : decode cX10_fits 43 = .ok (.invokevirtual 91, 3) := by decide +kernel
theorem dX10_fits_46 : decode cX10_fits 46 = .ok (.ireturn, 1) := by decide +kernel
theorem dX10_fits_47 : decode cX10_fits 47 = .ok (.aload_n 0, 1) := by decide +kernel
theorem dX10_fits_48 : decode cX10_fits 48 = .ok (.invokevirtual 198, 3) := by decide +kernel
theorem dX10_fits_51 : decode cX10_fits 51 = .ok (.iconst 0, 1) := by decide +kernel
theorem dX10_fits_52 : decode cX10_fits 52 = .ok (.istore 4, 2) := by decide +kernel
theorem dX10_fits_54 : decode cX10_fits 54 = .ok (.iconst 0, 1) := by decide +kernel
theorem dX10_fits_55 : decode cX10_fits 55 = .ok (.istore 5, 2) := by decide +kernel
theorem dX10_fits_57 : decode cX10_fits 57 = .ok (.iload 5, 2) := by decide +kernel
theorem dX10_fits_59 : decode cX10_fits 59 = .ok (.iload_n 2, 1) := by decide +kernel
theorem dX10_fits_60 : decode cX10_fits 60 = .ok (.if_icmp .ge 39, 3) := by decide +kernel
theorem dX10_fits_63 : decode cX10_fits 63 = .ok (.aload_n 0, 1) := by decide +kernel
theorem dX10_fits_64 : decode cX10_fits 64 = .ok (.iload_n 2, 1) := by decide +kernel
theorem dX10_fits_65 : decode cX10_fits 65 = .ok (.iconst 2, 1) := by decide +kernel
theorem dX10_fits_66 : decode cX10_fits 66 = .ok (.iload 5, 2) := by decide +kernel
theorem dX10_fits_68 : decode cX10_fits 68 = .ok (.invokevirtual 95, 3) := by decide +kernel
theorem dX10_fits_71 : decode cX10_fits 71 = .ok (.iload 4, 2) := by decide +kernel
theorem dX10_fits_73 : decode cX10_fits 73 = .ok (.aload_n 0, 1) := by decide +kernel
theorem dX10_fits_74 : decode cX10_fits 74 = .ok (.iload_n 1, 1) := by decide +kernel
theorem dX10_fits_75 : decode cX10_fits 75 = .ok (.iload_n 2, 1) := by decide +kernel
theorem dX10_fits_76 : decode cX10_fits 76 = .ok (.invokevirtual 216, 3) := by decide +kernel
theorem dX10_fits_79 : decode cX10_fits 79 = .ok (.ifCond .eq 10, 3) := by decide +kernel
theorem dX10_fits_82 : decode cX10_fits 82 = .ok (.iconst 1, 1) := by decide +kernel
theorem dX10_fits_83 : decode cX10_fits 83 = .ok (.iload 5, 2) := by decide +kernel
theorem dX10_fits_85 : decode cX10_fits 85 = .ok (.ishl, 1) := by decide +kernel
theorem dX10_fits_86 : decode cX10_fits 86 = .ok (.goto 4, 3) := by decide +kernel
theorem dX10_fits_89 : decode cX10_fits 89 = .ok (.iconst 0, 1) := by decide +kernel
theorem dX10_fits_90 : decode cX10_fits 90 = .ok (.ior, 1) := by decide +kernel
theorem dX10_fits_91 : decode cX10_fits 91 = .ok (.istore 4, 2) := by decide +kernel
theorem dX10_fits_93 : decode cX10_fits 93 = .ok (.iinc 5 1, 3) := by decide +kernel
theorem dX10_fits_96 : decode cX10_fits 96 = .ok (.goto (-39), 3) := by decide +kernel
theorem dX10_fits_99 : decode cX10_fits 99 = .ok (.aload_n 0, 1) := by decide +kernel
theorem dX10_fits_100 : decode cX10_fits 100 = .ok (.invokevirtual 201, 3) := by decide +kernel
theorem dX10_fits_103 : decode cX10_fits 103 = .ok (.iload_n 3, 1) := by decide +kernel
theorem dX10_fits_104 : decode cX10_fits 104 = .ok (.ifCond .ne 8, 3) := by decide +kernel
theorem dX10_fits_107 : decode cX10_fits 107 = .ok (.iload 4, 2) := by decide +kernel
theorem dX10_fits_109 : decode cX10_fits 109 = .ok (.goto 8, 3) := by decide +kernel
theorem dX10_fits_112 : decode cX10_fits 112 = .ok (.iload 4, 2) := by decide +kernel
theorem dX10_fits_114 : decode cX10_fits 114 = .ok (.invokestatic 67, 3) := by decide +kernel
theorem dX10_fits_117 : decode cX10_fits 117 = .ok (.ireturn, 1) := by decide +kernel
theorem dX10_begins_0 : decode cX10_begins 0 = .ok (.aload_n 0, 1) := by decide +kernel
theorem dX10_begins_1 : decode cX10_begins 1 = .ok (.getfield 219, 3) := by decide +kernel
theorem dX10_begins_4 : decode cX10_begins 4 = .ok (.bipush 30, 2) := by decide +kernel
theorem dX10_begins_6 : decode cX10_begins 6 = .ok (.if_icmp .ge 23, 3) := by decide +kernel
theorem dX10_begins_9 : decode cX10_begins 9 = .ok (.aload_n 0, 1) := by decide +kernel
theorem dX10_begins_10 : decode cX10_begins 10 = .ok (.getfield 43, 3) := by decide +kernel
theorem dX10_begins_13 : decode cX10_begins 13 = .ok (.aload_n 0, 1) := by decide +kernel
theorem dX10_begins_14 : decode cX10_begins 14 = .ok (.getfield 219, 3) := by decide +kernel
theorem dX10_begins_17 : decode cX10_begins 17 = .ok (.iload_n 1, 1) := by decide +kernel
theorem dX10_begins_18 : decode cX10_begins 18 = .ok (.iastore, 1) := by decide +kernel
theorem dX10_begins_19 : decode cX10_begins 19 = .ok (.aload_n 0, 1) := by decide +kernel
theorem dX10_begins_20 : decode cX10_begins 20 = .ok (.dup, 1) := by decide +kernel
theorem dX10_begins_21 : decode cX10_begins 21 = .ok (.getfield 219, 3) := by decide +kernel
theorem dX10_begins_24 : decode cX10_begins 24 = .ok (.iconst 1, 1) := by decide +kernel
theorem dX10_begins_25 : decode cX10_begins 25 = .ok (.iadd, 1) := by decide +kernel
theorem dX10_begins_26 : decode cX10_begins 26 = .ok (.putfield 219, 3) := by decide +kernel
theorem dX10_begins_29 : decode cX10_begins 29 = .ok (.return_, 1) := by decide +kernel
theorem dX10_plainLowers_0 : decode cX10_plainLowers 0 = .ok (.aload_n 0, 1) := by decide +kernel
theorem dX10_plainLowers_1 : decode cX10_plainLowers 1 = .ok (.bipush 10, 2) := by decide +kernel
theorem dX10_plainLowers_3 : decode cX10_plainLowers 3 = .ok (.invokevirtual 222, 3) := by decide +kernel
theorem dX10_plainLowers_6 : decode cX10_plainLowers 6 = .ok (.iload_n 2, 1) := by decide +kernel
theorem dX10_plainLowers_7 : decode cX10_plainLowers 7 = .ok (.iload_n 1, 1) := by decide +kernel
theorem dX10_plainLowers_8 : decode cX10_plainLowers 8 = .ok (.iadd, 1) := by decide +kernel
theorem dX10_plainLowers_9 : decode cX10_plainLowers 9 = .ok (.ireturn, 1) := by decide +kernel
theorem dX10_heiressLowers_0 : decode cX10_heiressLowers 0 = .ok (.aload_n 0, 1) := by decide +kernel
theorem dX10_heiressLowers_1 : decode cX10_heiressLowers 1 = .ok (.bipush 20, 2) := by decide +kernel
theorem dX10_heiressLowers_3 : decode cX10_heiressLowers 3 = .ok (.invokevirtual 222, 3) := by decide +kernel
theorem dX10_heiressLowers_6 : decode cX10_heiressLowers 6 = .ok (.aload_n 0, 1) := by decide +kernel
theorem dX10_heiressLowers_7 : decode cX10_heiressLowers 7 = .ok (.iload_n 1, 1) := by decide +kernel
theorem dX10_heiressLowers_8 : decode cX10_heiressLowers 8 = .ok (.iload_n 2, 1) := by decide +kernel
theorem dX10_heiressLowers_9 : decode cX10_heiressLowers 9 = .ok (.invokevirtual 225, 3) := by decide +kernel
theorem dX10_heiressLowers_12 : decode cX10_heiressLowers 12 = .ok (.iconst 4, 1) := by decide +kernel
theorem dX10_heiressLowers_13 : decode cX10_heiressLowers 13 = .ok (.isub, 1) := by decide +kernel
theorem dX10_heiressLowers_14 : decode cX10_heiressLowers 14 = .ok (.ireturn, 1) := by decide +kernel
theorem dX10_lowers_0 : decode cX10_lowers 0 = .ok (.aload_n 0, 1) := by decide +kernel
theorem dX10_lowers_1 : decode cX10_lowers 1 = .ok (.iload_n 1, 1) := by decide +kernel
theorem dX10_lowers_2 : decode cX10_lowers 2 = .ok (.iconst 0, 1) := by decide +kernel
theorem dX10_lowers_3 : decode cX10_lowers 3 = .ok (.invokevirtual 55, 3) := by decide +kernel
theorem dX10_lowers_6 : decode cX10_lowers 6 = .ok (.lookupswitch 65 #[(1, 34), (4, 41), (6, 56)], 34) := by decide +kernel
theorem dX10_lowers_40 : decode cX10_lowers 40 = .ok (.aload_n 0, 1) := by decide +kernel
theorem dX10_lowers_41 : decode cX10_lowers 41 = .ok (.iload_n 1, 1) := by decide +kernel
theorem dX10_lowers_42 : decode cX10_lowers 42 = .ok (.iload_n 2, 1) := by decide +kernel
theorem dX10_lowers_43 : decode cX10_lowers 43 = .ok (.invokevirtual 228, 3) := by decide +kernel
theorem dX10_lowers_46 : decode cX10_lowers 46 = .ok (.ireturn, 1) := by decide +kernel
theorem dX10_lowers_47 : decode cX10_lowers 47 = .ok (.aload_n 0, 1) := by decide +kernel
theorem dX10_lowers_48 : decode cX10_lowers 48 = .ok (.bipush 50, 2) := by decide +kernel
theorem dX10_lowers_50 : decode cX10_lowers 50 = .ok (.invokevirtual 222, 3) := by decide +kernel
theorem dX10_lowers_53 : decode cX10_lowers 53 = .ok (.aload_n 0, 1) := by decide +kernel
theorem dX10_lowers_54 : decode cX10_lowers 54 = .ok (.iload_n 1, 1) := by decide +kernel
theorem dX10_lowers_55 : decode cX10_lowers 55 = .ok (.iload_n 2, 1) := by decide +kernel
theorem dX10_lowers_56 : decode cX10_lowers 56 = .ok (.invokevirtual 228, 3) := by decide +kernel
theorem dX10_lowers_59 : decode cX10_lowers 59 = .ok (.iconst 3, 1) := by decide +kernel
theorem dX10_lowers_60 : decode cX10_lowers 60 = .ok (.imul, 1) := by decide +kernel
theorem dX10_lowers_61 : decode cX10_lowers 61 = .ok (.ireturn, 1) := by decide +kernel
theorem dX10_lowers_62 : decode cX10_lowers 62 = .ok (.aload_n 0, 1) := by decide +kernel
theorem dX10_lowers_63 : decode cX10_lowers 63 = .ok (.bipush 70, 2) := by decide +kernel
theorem dX10_lowers_65 : decode cX10_lowers 65 = .ok (.invokevirtual 222, 3) := by decide +kernel
theorem dX10_lowers_68 : decode cX10_lowers 68 = .ok (.bipush 9, 2) := by decide +kernel
theorem dX10_lowers_70 : decode cX10_lowers 70 = .ok (.ireturn, 1) := by decide +kernel
theorem dX10_lowers_71 : decode cX10_lowers 71 = .ok (.aload_n 0, 1) := by decide +kernel
theorem dX10_lowers_72 : decode cX10_lowers 72 = .ok (.iload_n 1, 1) := by decide +kernel
theorem dX10_lowers_73 : decode cX10_lowers 73 = .ok (.iload_n 2, 1) := by decide +kernel
theorem dX10_lowers_74 : decode cX10_lowers 74 = .ok (.invokevirtual 225, 3) := by decide +kernel
theorem dX10_lowers_77 : decode cX10_lowers 77 = .ok (.ireturn, 1) := by decide +kernel
theorem dX10_plainLifts_0 : decode cX10_plainLifts 0 = .ok (.aload_n 0, 1) := by decide +kernel
theorem dX10_plainLifts_1 : decode cX10_plainLifts 1 = .ok (.bipush 11, 2) := by decide +kernel
theorem dX10_plainLifts_3 : decode cX10_plainLifts 3 = .ok (.invokevirtual 222, 3) := by decide +kernel
theorem dX10_plainLifts_6 : decode cX10_plainLifts 6 = .ok (.aload_n 0, 1) := by decide +kernel
theorem dX10_plainLifts_7 : decode cX10_plainLifts 7 = .ok (.iload_n 1, 1) := by decide +kernel
theorem dX10_plainLifts_8 : decode cX10_plainLifts 8 = .ok (.iload_n 2, 1) := by decide +kernel
theorem dX10_plainLifts_9 : decode cX10_plainLifts 9 = .ok (.invokevirtual 231, 3) := by decide +kernel
theorem dX10_plainLifts_12 : decode cX10_plainLifts 12 = .ok (.iconst 2, 1) := by decide +kernel
theorem dX10_plainLifts_13 : decode cX10_plainLifts 13 = .ok (.imul, 1) := by decide +kernel
theorem dX10_plainLifts_14 : decode cX10_plainLifts 14 = .ok (.ireturn, 1) := by decide +kernel
theorem dX10_judgeLifts_0 : decode cX10_judgeLifts 0 = .ok (.aload_n 0, 1) := by decide +kernel
theorem dX10_judgeLifts_1 : decode cX10_judgeLifts 1 = .ok (.bipush 30, 2) := by decide +kernel
theorem dX10_judgeLifts_3 : decode cX10_judgeLifts 3 = .ok (.invokevirtual 222, 3) := by decide +kernel
theorem dX10_judgeLifts_6 : decode cX10_judgeLifts 6 = .ok (.aload_n 0, 1) := by decide +kernel
theorem dX10_judgeLifts_7 : decode cX10_judgeLifts 7 = .ok (.iload_n 1, 1) := by decide +kernel
theorem dX10_judgeLifts_8 : decode cX10_judgeLifts 8 = .ok (.iload_n 2, 1) := by decide +kernel
theorem dX10_judgeLifts_9 : decode cX10_judgeLifts 9 = .ok (.invokevirtual 234, 3) := by decide +kernel
theorem dX10_judgeLifts_12 : decode cX10_judgeLifts 12 = .ok (.ineg, 1) := by decide +kernel
theorem dX10_judgeLifts_13 : decode cX10_judgeLifts 13 = .ok (.ireturn, 1) := by decide +kernel
theorem dX10_lifts_0 : decode cX10_lifts 0 = .ok (.aload_n 0, 1) := by decide +kernel
theorem dX10_lifts_1 : decode cX10_lifts 1 = .ok (.iload_n 1, 1) := by decide +kernel
theorem dX10_lifts_2 : decode cX10_lifts 2 = .ok (.iconst 0, 1) := by decide +kernel
theorem dX10_lifts_3 : decode cX10_lifts 3 = .ok (.invokevirtual 55, 3) := by decide +kernel
theorem dX10_lifts_6 : decode cX10_lifts 6 = .ok (.tableswitch 76 2 6 #[34, 76, 76, 41, 56], 34) := by decide +kernel
theorem dX10_lifts_40 : decode cX10_lifts 40 = .ok (.aload_n 0, 1) := by decide +kernel
theorem dX10_lifts_41 : decode cX10_lifts 41 = .ok (.iload_n 1, 1) := by decide +kernel
theorem dX10_lifts_42 : decode cX10_lifts 42 = .ok (.iload_n 2, 1) := by decide +kernel
theorem dX10_lifts_43 : decode cX10_lifts 43 = .ok (.invokevirtual 237, 3) := by decide +kernel
theorem dX10_lifts_46 : decode cX10_lifts 46 = .ok (.ireturn, 1) := by decide +kernel
theorem dX10_lifts_47 : decode cX10_lifts 47 = .ok (.aload_n 0, 1) := by decide +kernel
theorem dX10_lifts_48 : decode cX10_lifts 48 = .ok (.bipush 60, 2) := by decide +kernel
theorem dX10_lifts_50 : decode cX10_lifts 50 = .ok (.invokevirtual 222, 3) := by decide +kernel
theorem dX10_lifts_53 : decode cX10_lifts 53 = .ok (.aload_n 0, 1) := by decide +kernel
theorem dX10_lifts_54 : decode cX10_lifts 54 = .ok (.iload_n 1, 1) := by decide +kernel
theorem dX10_lifts_55 : decode cX10_lifts 55 = .ok (.iload_n 2, 1) := by decide +kernel
theorem dX10_lifts_56 : decode cX10_lifts 56 = .ok (.iconst 1, 1) := by decide +kernel
theorem dX10_lifts_57 : decode cX10_lifts 57 = .ok (.iadd, 1) := by decide +kernel
theorem dX10_lifts_58 : decode cX10_lifts 58 = .ok (.invokevirtual 237, 3) := by decide +kernel
theorem dX10_lifts_61 : decode cX10_lifts 61 = .ok (.ireturn, 1) := by decide +kernel
theorem dX10_lifts_62 : decode cX10_lifts 62 = .ok (.aload_n 0, 1) := by decide +kernel
theorem dX10_lifts_63 : decode cX10_lifts 63 = .ok (.bipush 71, 2) := by decide +kernel
theorem dX10_lifts_65 : decode cX10_lifts 65 = .ok (.invokevirtual 222, 3) := by decide +kernel
theorem dX10_lifts_68 : decode cX10_lifts 68 = .ok (.aload_n 0, 1) := by decide +kernel
theorem dX10_lifts_69 : decode cX10_lifts 69 = .ok (.iload_n 1, 1) := by decide +kernel
theorem dX10_lifts_70 : decode cX10_lifts 70 = .ok (.iload_n 2, 1) := by decide +kernel
theorem dX10_lifts_71 : decode cX10_lifts 71 = .ok (.invokevirtual 234, 3) := by decide +kernel
theorem dX10_lifts_74 : decode cX10_lifts 74 = .ok (.aload_n 0, 1) := by decide +kernel
theorem dX10_lifts_75 : decode cX10_lifts 75 = .ok (.iload_n 1, 1) := by decide +kernel
theorem dX10_lifts_76 : decode cX10_lifts 76 = .ok (.iconst 1, 1) := by decide +kernel
theorem dX10_lifts_77 : decode cX10_lifts 77 = .ok (.invokevirtual 55, 3) := by decide +kernel
theorem dX10_lifts_80 : decode cX10_lifts 80 = .ok (.iadd, 1) := by decide +kernel
theorem dX10_lifts_81 : decode cX10_lifts 81 = .ok (.ireturn, 1) := by decide +kernel
theorem dX10_lifts_82 : decode cX10_lifts 82 = .ok (.aload_n 0, 1) := by decide +kernel
theorem dX10_lifts_83 : decode cX10_lifts 83 = .ok (.iload_n 1, 1) := by decide +kernel
theorem dX10_lifts_84 : decode cX10_lifts 84 = .ok (.iload_n 2, 1) := by decide +kernel
theorem dX10_lifts_85 : decode cX10_lifts 85 = .ok (.invokevirtual 234, 3) := by decide +kernel
theorem dX10_lifts_88 : decode cX10_lifts 88 = .ok (.ireturn, 1) := by decide +kernel
theorem dX10_plainLooks_0 : decode cX10_plainLooks 0 = .ok (.aload_n 0, 1) := by decide +kernel
theorem dX10_plainLooks_1 : decode cX10_plainLooks 1 = .ok (.bipush 12, 2) := by decide +kernel
theorem dX10_plainLooks_3 : decode cX10_plainLooks 3 = .ok (.invokevirtual 222, 3) := by decide +kernel
theorem dX10_plainLooks_6 : decode cX10_plainLooks 6 = .ok (.aload_n 0, 1) := by decide +kernel
theorem dX10_plainLooks_7 : decode cX10_plainLooks 7 = .ok (.iload_n 1, 1) := by decide +kernel
theorem dX10_plainLooks_8 : decode cX10_plainLooks 8 = .ok (.iload_n 2, 1) := by decide +kernel
theorem dX10_plainLooks_9 : decode cX10_plainLooks 9 = .ok (.invokevirtual 240, 3) := by decide +kernel
theorem dX10_plainLooks_12 : decode cX10_plainLooks 12 = .ok (.aload_n 0, 1) := by decide +kernel
theorem dX10_plainLooks_13 : decode cX10_plainLooks 13 = .ok (.iload_n 1, 1) := by decide +kernel
theorem dX10_plainLooks_14 : decode cX10_plainLooks 14 = .ok (.iconst 1, 1) := by decide +kernel
theorem dX10_plainLooks_15 : decode cX10_plainLooks 15 = .ok (.invokevirtual 55, 3) := by decide +kernel
theorem dX10_plainLooks_18 : decode cX10_plainLooks 18 = .ok (.isub, 1) := by decide +kernel
theorem dX10_plainLooks_19 : decode cX10_plainLooks 19 = .ok (.ireturn, 1) := by decide +kernel
theorem dX10_looksBy_0 : decode cX10_looksBy 0 = .ok (.aload_n 0, 1) := by decide +kernel
theorem dX10_looksBy_1 : decode cX10_looksBy 1 = .ok (.iload_n 1, 1) := by decide +kernel
theorem dX10_looksBy_2 : decode cX10_looksBy 2 = .ok (.iconst 0, 1) := by decide +kernel
theorem dX10_looksBy_3 : decode cX10_looksBy 3 = .ok (.invokevirtual 55, 3) := by decide +kernel
theorem dX10_looksBy_6 : decode cX10_looksBy 6 = .ok (.lookupswitch 56 #[(3, 26), (4, 41)], 26) := by decide +kernel
theorem dX10_looksBy_32 : decode cX10_looksBy 32 = .ok (.aload_n 0, 1) := by decide +kernel
theorem dX10_looksBy_33 : decode cX10_looksBy 33 = .ok (.bipush 40, 2) := by decide +kernel
theorem dX10_looksBy_35 : decode cX10_looksBy 35 = .ok (.invokevirtual 222, 3) := by decide +kernel
theorem dX10_looksBy_38 : decode cX10_looksBy 38 = .ok (.aload_n 0, 1) := by decide +kernel
theorem dX10_looksBy_39 : decode cX10_looksBy 39 = .ok (.iload_n 1, 1) := by decide +kernel
theorem dX10_looksBy_40 : decode cX10_looksBy 40 = .ok (.iload_n 2, 1) := by decide +kernel
theorem dX10_looksBy_41 : decode cX10_looksBy 41 = .ok (.iconst 2, 1) := by decide +kernel
theorem dX10_looksBy_42 : decode cX10_looksBy 42 = .ok (.idiv, 1) := by decide +kernel
theorem dX10_looksBy_43 : decode cX10_looksBy 43 = .ok (.invokevirtual 243, 3) := by decide +kernel
theorem dX10_looksBy_46 : decode cX10_looksBy 46 = .ok (.ireturn, 1) := by decide +kernel
theorem dX10_looksBy_47 : decode cX10_looksBy 47 = .ok (.aload_n 0, 1) := by decide +kernel
theorem dX10_looksBy_48 : decode cX10_looksBy 48 = .ok (.bipush 51, 2) := by decide +kernel
theorem dX10_looksBy_50 : decode cX10_looksBy 50 = .ok (.invokevirtual 222, 3) := by decide +kernel
theorem dX10_looksBy_53 : decode cX10_looksBy 53 = .ok (.aload_n 0, 1) := by decide +kernel
theorem dX10_looksBy_54 : decode cX10_looksBy 54 = .ok (.iload_n 1, 1) := by decide +kernel
theorem dX10_looksBy_55 : decode cX10_looksBy 55 = .ok (.iload_n 2, 1) := by decide +kernel
theorem dX10_looksBy_56 : decode cX10_looksBy 56 = .ok (.invokevirtual 243, 3) := by decide +kernel
theorem dX10_looksBy_59 : decode cX10_looksBy 59 = .ok (.iload_n 1, 1) := by decide +kernel
theorem dX10_looksBy_60 : decode cX10_looksBy 60 = .ok (.ixor, 1) := by decide +kernel
theorem dX10_looksBy_61 : decode cX10_looksBy 61 = .ok (.ireturn, 1) := by decide +kernel
theorem dX10_looksBy_62 : decode cX10_looksBy 62 = .ok (.aload_n 0, 1) := by decide +kernel
theorem dX10_looksBy_63 : decode cX10_looksBy 63 = .ok (.iload_n 1, 1) := by decide +kernel
theorem dX10_looksBy_64 : decode cX10_looksBy 64 = .ok (.iload_n 2, 1) := by decide +kernel
theorem dX10_looksBy_65 : decode cX10_looksBy 65 = .ok (.invokevirtual 243, 3) := by decide +kernel
theorem dX10_looksBy_68 : decode cX10_looksBy 68 = .ok (.ireturn, 1) := by decide +kernel
theorem dX10_plainParts_0 : decode cX10_plainParts 0 = .ok (.aload_n 0, 1) := by decide +kernel
theorem dX10_plainParts_1 : decode cX10_plainParts 1 = .ok (.bipush 13, 2) := by decide +kernel
theorem dX10_plainParts_3 : decode cX10_plainParts 3 = .ok (.invokevirtual 222, 3) := by decide +kernel
theorem dX10_plainParts_6 : decode cX10_plainParts 6 = .ok (.aload_n 0, 1) := by decide +kernel
theorem dX10_plainParts_7 : decode cX10_plainParts 7 = .ok (.iload_n 1, 1) := by decide +kernel
theorem dX10_plainParts_8 : decode cX10_plainParts 8 = .ok (.iconst 1, 1) := by decide +kernel
theorem dX10_plainParts_9 : decode cX10_plainParts 9 = .ok (.invokevirtual 55, 3) := by decide +kernel
theorem dX10_plainParts_12 : decode cX10_plainParts 12 = .ok (.iload_n 1, 1) := by decide +kernel
theorem dX10_plainParts_13 : decode cX10_plainParts 13 = .ok (.isub, 1) := by decide +kernel
theorem dX10_plainParts_14 : decode cX10_plainParts 14 = .ok (.istore_n 3, 1) := by decide +kernel
theorem dX10_plainParts_15 : decode cX10_plainParts 15 = .ok (.aload_n 0, 1) := by decide +kernel
theorem dX10_plainParts_16 : decode cX10_plainParts 16 = .ok (.iload_n 3, 1) := by decide +kernel
theorem dX10_plainParts_17 : decode cX10_plainParts 17 = .ok (.ifCond .ne 7, 3) := by decide +kernel
theorem dX10_plainParts_20 : decode cX10_plainParts 20 = .ok (.iconst 1, 1) := by decide +kernel
theorem dX10_plainParts_21 : decode cX10_plainParts 21 = .ok (.goto 4, 3) := by decide +kernel
theorem dX10_plainParts_24 : decode cX10_plainParts 24 = .ok (.iconst 0, 1) := by decide +kernel
theorem dX10_plainParts_25 : decode cX10_plainParts 25 = .ok (.putfield 246, 3) := by decide +kernel
theorem dX10_plainParts_28 : decode cX10_plainParts 28 = .ok (.aload_n 0, 1) := by decide +kernel
theorem dX10_plainParts_29 : decode cX10_plainParts 29 = .ok (.getfield 246, 3) := by decide +kernel
theorem dX10_plainParts_32 : decode cX10_plainParts 32 = .ok (.ifCond .eq 7, 3) := by decide +kernel
theorem dX10_plainParts_35 : decode cX10_plainParts 35 = .ok (.iconst 0, 1) := by decide +kernel
theorem dX10_plainParts_36 : decode cX10_plainParts 36 = .ok (.goto 6, 3) := by decide +kernel
theorem dX10_plainParts_39 : decode cX10_plainParts 39 = .ok (.iload_n 2, 1) := by decide +kernel
theorem dX10_plainParts_40 : decode cX10_plainParts 40 = .ok (.iload_n 3, 1) := by decide +kernel
theorem dX10_plainParts_41 : decode cX10_plainParts 41 = .ok (.idiv, 1) := by decide +kernel
theorem dX10_plainParts_42 : decode cX10_plainParts 42 = .ok (.ireturn, 1) := by decide +kernel
theorem dX10_partsBy_0 : decode cX10_partsBy 0 = .ok (.aload_n 0, 1) := by decide +kernel
theorem dX10_partsBy_1 : decode cX10_partsBy 1 = .ok (.iload_n 1, 1) := by decide +kernel
theorem dX10_partsBy_2 : decode cX10_partsBy 2 = .ok (.iconst 0, 1) := by decide +kernel
theorem dX10_partsBy_3 : decode cX10_partsBy 3 = .ok (.invokevirtual 55, 3) := by decide +kernel
theorem dX10_partsBy_6 : decode cX10_partsBy 6 = .ok (.iconst 1, 1) := by decide +kernel
theorem dX10_partsBy_7 : decode cX10_partsBy 7 = .ok (.if_icmp .eq 13, 3) := by decide +kernel
theorem dX10_partsBy_10 : decode cX10_partsBy 10 = .ok (.aload_n 0, 1) := by decide +kernel
theorem dX10_partsBy_11 : decode cX10_partsBy 11 = .ok (.iload_n 1, 1) := by decide +kernel
theorem dX10_partsBy_12 : decode cX10_partsBy 12 = .ok (.iconst 0, 1) := by decide +kernel
theorem dX10_partsBy_13 : decode cX10_partsBy 13 = .ok (.invokevirtual 55, 3) := by decide +kernel
theorem dX10_partsBy_16 : decode cX10_partsBy 16 = .ok (.iconst 4, 1) := by decide +kernel
theorem dX10_partsBy_17 : decode cX10_partsBy 17 = .ok (.if_icmp .ne 36, 3) := by decide +kernel
theorem dX10_partsBy_20 : decode cX10_partsBy 20 = .ok (.aload_n 0, 1) := by decide +kernel
theorem dX10_partsBy_21 : decode cX10_partsBy 21 = .ok (.bipush 21, 2) := by decide +kernel
theorem dX10_partsBy_23 : decode cX10_partsBy 23 = .ok (.invokevirtual 222, 3) := by decide +kernel
theorem dX10_partsBy_26 : decode cX10_partsBy 26 = .ok (.aload_n 0, 1) := by decide +kernel
theorem dX10_partsBy_27 : decode cX10_partsBy 27 = .ok (.iload_n 1, 1) := by decide +kernel
theorem dX10_partsBy_28 : decode cX10_partsBy 28 = .ok (.iload_n 2, 1) := by decide +kernel
theorem dX10_partsBy_29 : decode cX10_partsBy 29 = .ok (.invokevirtual 249, 3) := by decide +kernel
theorem dX10_partsBy_32 : decode cX10_partsBy 32 = .ok (.istore_n 3, 1) := by decide +kernel
theorem dX10_partsBy_33 : decode cX10_partsBy 33 = .ok (.aload_n 0, 1) := by decide +kernel
theorem dX10_partsBy_34 : decode cX10_partsBy 34 = .ok (.getfield 246, 3) := by decide +kernel
theorem dX10_partsBy_37 : decode cX10_partsBy 37 = .ok (.ifCond .eq 7, 3) := by decide +kernel
theorem dX10_partsBy_40 : decode cX10_partsBy 40 = .ok (.iconst 0, 1) := by decide +kernel
theorem dX10_partsBy_41 : decode cX10_partsBy 41 = .ok (.goto 11, 3) := by decide +kernel
theorem dX10_partsBy_44 : decode cX10_partsBy 44 = .ok (.iload_n 3, 1) := by decide +kernel
theorem dX10_partsBy_45 : decode cX10_partsBy 45 = .ok (.aload_n 0, 1) := by decide +kernel
theorem dX10_partsBy_46 : decode cX10_partsBy 46 = .ok (.iload_n 1, 1) := by decide +kernel
theorem dX10_partsBy_47 : decode cX10_partsBy 47 = .ok (.iconst 1, 1) := by decide +kernel
theorem dX10_partsBy_48 : decode cX10_partsBy 48 = .ok (.invokevirtual 240, 3) := by decide +kernel
theorem dX10_partsBy_51 : decode cX10_partsBy 51 = .ok (.iadd, 1) := by decide +kernel
theorem dX10_partsBy_52 : decode cX10_partsBy 52 = .ok (.ireturn, 1) := by decide +kernel
theorem dX10_partsBy_53 : decode cX10_partsBy 53 = .ok (.aload_n 0, 1) := by decide +kernel
theorem dX10_partsBy_54 : decode cX10_partsBy 54 = .ok (.iload_n 1, 1) := by decide +kernel
theorem dX10_partsBy_55 : decode cX10_partsBy 55 = .ok (.iload_n 2, 1) := by decide +kernel
theorem dX10_partsBy_56 : decode cX10_partsBy 56 = .ok (.invokevirtual 249, 3) := by decide +kernel
theorem dX10_partsBy_59 : decode cX10_partsBy 59 = .ok (.ireturn, 1) := by decide +kernel
theorem dX10_voice_0 : decode cX10_voice 0 = .ok (.aload_n 0, 1) := by decide +kernel
theorem dX10_voice_1 : decode cX10_voice 1 = .ok (.iload_n 1, 1) := by decide +kernel
theorem dX10_voice_2 : decode cX10_voice 2 = .ok (.invokevirtual 99, 3) := by decide +kernel
theorem dX10_voice_5 : decode cX10_voice 5 = .ok (.ifCond .eq 12, 3) := by decide +kernel
theorem dX10_voice_8 : decode cX10_voice 8 = .ok (.iload_n 2, 1) := by decide +kernel
theorem dX10_voice_9 : decode cX10_voice 9 = .ok (.iconst 0, 1) := by decide +kernel
theorem dX10_voice_10 : decode cX10_voice 10 = .ok (.iconst 3, 1) := by decide +kernel
theorem dX10_voice_11 : decode cX10_voice 11 = .ok (.invokestatic 51, 3) := by decide +kernel
theorem dX10_voice_14 : decode cX10_voice 14 = .ok (.ifCond .ne 10, 3) := by decide +kernel
theorem dX10_voice_17 : decode cX10_voice 17 = .ok (.aload_n 0, 1) := by decide +kernel
theorem dX10_voice_18 : decode cX10_voice 18 = .ok (.ldc 90, 2) := by decide +kernel
theorem dX10_voice_20 : decode cX10_voice 20 = .ok (.invokevirtual 91, 3) := by decide +kernel
theorem dX10_voice_23 : decode cX10_voice 23 = .ok (.ireturn, 1) := by decide +kernel
theorem dX10_voice_24 : decode cX10_voice 24 = .ok (.aload_n 0, 1) := by decide +kernel
theorem dX10_voice_25 : decode cX10_voice 25 = .ok (.iconst 0, 1) := by decide +kernel
theorem dX10_voice_26 : decode cX10_voice 26 = .ok (.putfield 219, 3) := by decide +kernel
theorem dX10_voice_29 : decode cX10_voice 29 = .ok (.aload_n 0, 1) := by decide +kernel
theorem dX10_voice_30 : decode cX10_voice 30 = .ok (.iconst 0, 1) := by decide +kernel
theorem dX10_voice_31 : decode cX10_voice 31 = .ok (.putfield 246, 3) := by decide +kernel
theorem dX10_voice_34 : decode cX10_voice 34 = .ok (.iload_n 2, 1) := by decide +kernel
theorem dX10_voice_35 : decode cX10_voice 35 = .ok (.ifCond .ne 12, 3) := by decide +kernel
theorem dX10_voice_38 : decode cX10_voice 38 = .ok (.aload_n 0, 1) := by decide +kernel
theorem dX10_voice_39 : decode cX10_voice 39 = .ok (.iload_n 1, 1) := by decide +kernel
theorem dX10_voice_40 : decode cX10_voice 40 = .ok (.iload_n 3, 1) := by decide +kernel
theorem dX10_voice_41 : decode cX10_voice 41 = .ok (.invokevirtual 231, 3) := by decide +kernel
theorem dX10_voice_44 : decode cX10_voice 44 = .ok (.goto 37, 3) := by decide +kernel
theorem dX10_voice_47 : decode cX10_voice 47 = .ok (.iload_n 2, 1) := by decide +kernel
theorem dX10_voice_48 : decode cX10_voice 48 = .ok (.iconst 1, 1) := by decide +kernel
theorem dX10_voice_49 : decode cX10_voice 49 = .ok (.if_icmp .ne 12, 3) := by decide +kernel
theorem dX10_voice_52 : decode cX10_voice 52 = .ok (.aload_n 0, 1) := by decide +kernel
theorem dX10_voice_53 : decode cX10_voice 53 = .ok (.iload_n 1, 1) := by decide +kernel
theorem dX10_voice_54 : decode cX10_voice 54 = .ok (.iload_n 3, 1) := by decide +kernel
theorem dX10_voice_55 : decode cX10_voice 55 = .ok (.invokevirtual 240, 3) := by decide +kernel
theorem dX10_voice_58 : decode cX10_voice 58 = .ok (.goto 23, 3) := by decide +kernel
theorem dX10_voice_61 : decode cX10_voice 61 = .ok (.iload_n 2, 1) := by decide +kernel
theorem dX10_voice_62 : decode cX10_voice 62 = .ok (.iconst 2, 1) := by decide +kernel
theorem dX10_voice_63 : decode cX10_voice 63 = .ok (.if_icmp .ne 12, 3) := by decide +kernel
theorem dX10_voice_66 : decode cX10_voice 66 = .ok (.aload_n 0, 1) := by decide +kernel
theorem dX10_voice_67 : decode cX10_voice 67 = .ok (.iload_n 1, 1) := by decide +kernel
theorem dX10_voice_68 : decode cX10_voice 68 = .ok (.iload_n 3, 1) := by decide +kernel
theorem dX10_voice_69 : decode cX10_voice 69 = .ok (.invokevirtual 252, 3) := by decide +kernel
theorem dX10_voice_72 : decode cX10_voice 72 = .ok (.goto 9, 3) := by decide +kernel
theorem dX10_voice_75 : decode cX10_voice 75 = .ok (.aload_n 0, 1) := by decide +kernel
theorem dX10_voice_76 : decode cX10_voice 76 = .ok (.iload_n 1, 1) := by decide +kernel
theorem dX10_voice_77 : decode cX10_voice 77 = .ok (.iload_n 3, 1) := by decide +kernel
theorem dX10_voice_78 : decode cX10_voice 78 = .ok (.invokevirtual 255, 3) := by decide +kernel
theorem dX10_voice_81 : decode cX10_voice 81 = .ok (.istore 4, 2) := by decide +kernel
theorem dX10_voice_83 : decode cX10_voice 83 = .ok (.aload_n 0, 1) := by decide +kernel
theorem dX10_voice_84 : decode cX10_voice 84 = .ok (.getfield 246, 3) := by decide +kernel
theorem dX10_voice_87 : decode cX10_voice 87 = .ok (.ifCond .eq 13, 3) := by decide +kernel
theorem dX10_voice_90 : decode cX10_voice 90 = .ok (.aload_n 0, 1) := by decide +kernel
theorem dX10_voice_91 : decode cX10_voice 91 = .ok (.ldc_w 258, 3) := by decide +kernel
theorem dX10_voice_94 : decode cX10_voice 94 = .ok (.invokevirtual 91, 3) := by decide +kernel
theorem dX10_voice_97 : decode cX10_voice 97 = .ok (.goto 5, 3) := by decide +kernel
theorem dX10_voice_100 : decode cX10_voice 100 = .ok (.iload 4, 2) := by decide +kernel
theorem dX10_voice_102 : decode cX10_voice 102 = .ok (.ireturn, 1) := by decide +kernel
theorem dX10_body_0 : decode cX10_body 0 = .ok (.iload_n 1, 1) := by decide +kernel
theorem dX10_body_1 : decode cX10_body 1 = .ok (.iconst 0, 1) := by decide +kernel
theorem dX10_body_2 : decode cX10_body 2 = .ok (.aload_n 0, 1) := by decide +kernel
theorem dX10_body_3 : decode cX10_body 3 = .ok (.getfield 219, 3) := by decide +kernel
theorem dX10_body_6 : decode cX10_body 6 = .ok (.iconst 1, 1) := by decide +kernel
theorem dX10_body_7 : decode cX10_body 7 = .ok (.isub, 1) := by decide +kernel
theorem dX10_body_8 : decode cX10_body 8 = .ok (.invokestatic 51, 3) := by decide +kernel
theorem dX10_body_11 : decode cX10_body 11 = .ok (.ifCond .eq 12, 3) := by decide +kernel
theorem dX10_body_14 : decode cX10_body 14 = .ok (.aload_n 0, 1) := by decide +kernel
theorem dX10_body_15 : decode cX10_body 15 = .ok (.getfield 43, 3) := by decide +kernel
theorem dX10_body_18 : decode cX10_body 18 = .ok (.iload_n 1, 1) := by decide +kernel
theorem dX10_body_19 : decode cX10_body 19 = .ok (.iaload, 1) := by decide +kernel
theorem dX10_body_20 : decode cX10_body 20 = .ok (.goto 9, 3) := by decide +kernel
theorem dX10_body_23 : decode cX10_body 23 = .ok (.aload_n 0, 1) := by decide +kernel
theorem dX10_body_24 : decode cX10_body 24 = .ok (.ldc 114, 2) := by decide +kernel
theorem dX10_body_26 : decode cX10_body 26 = .ok (.invokevirtual 91, 3) := by decide +kernel
theorem dX10_body_29 : decode cX10_body 29 = .ok (.ireturn, 1) := by decide +kernel
theorem dX10_isSheet_0 : decode cX10_isSheet 0 = .ok (.iload_n 0, 1) := by decide +kernel
theorem dX10_isSheet_1 : decode cX10_isSheet 1 = .ok (.iconst 0, 1) := by decide +kernel
theorem dX10_isSheet_2 : decode cX10_isSheet 2 = .ok (.iconst 3, 1) := by decide +kernel
theorem dX10_isSheet_3 : decode cX10_isSheet 3 = .ok (.invokestatic 51, 3) := by decide +kernel
theorem dX10_isSheet_6 : decode cX10_isSheet 6 = .ok (.ireturn, 1) := by decide +kernel
theorem dX10_sheet_0 : decode cX10_sheet 0 = .ok (.iload_n 1, 1) := by decide +kernel
theorem dX10_sheet_1 : decode cX10_sheet 1 = .ok (.invokestatic 213, 3) := by decide +kernel
theorem dX10_sheet_4 : decode cX10_sheet 4 = .ok (.ifCond .eq 25, 3) := by decide +kernel
theorem dX10_sheet_7 : decode cX10_sheet 7 = .ok (.iload_n 2, 1) := by decide +kernel
theorem dX10_sheet_8 : decode cX10_sheet 8 = .ok (.ifCond .eq 28, 3) := by decide +kernel
theorem dX10_sheet_11 : decode cX10_sheet 11 = .ok (.iload_n 2, 1) := by decide +kernel
theorem dX10_sheet_12 : decode cX10_sheet 12 = .ok (.bipush 8, 2) := by decide +kernel
theorem dX10_sheet_14 : decode cX10_sheet 14 = .ok (.if_icmp .eq 22, 3) := by decide +kernel
theorem dX10_sheet_17 : decode cX10_sheet 17 = .ok (.iload_n 2, 1) := by decide +kernel
theorem dX10_sheet_18 : decode cX10_sheet 18 = .ok (.bipush 16, 2) := by decide +kernel
theorem dX10_sheet_20 : decode cX10_sheet 20 = .ok (.if_icmp .eq 16, 3) := by decide +kernel
theorem dX10_sheet_23 : decode cX10_sheet 23 = .ok (.iload_n 2, 1) := by decide +kernel
theorem dX10_sheet_24 : decode cX10_sheet 24 = .ok (.bipush 32, 2) := by decide +kernel
theorem dX10_sheet_26 : decode cX10_sheet 26 = .ok (.if_icmp .eq 10, 3) := by decide +kernel
theorem dX10_sheet_29 : decode cX10_sheet 29 = .ok (.aload_n 0, 1) := by decide +kernel
theorem dX10_sheet_30 : decode cX10_sheet 30 = .ok (.ldc 90, 2) := by decide +kernel
theorem dX10_sheet_32 : decode cX10_sheet 32 = .ok (.invokevirtual 91, 3) := by decide +kernel
theorem dX10_sheet_35 : decode cX10_sheet 35 = .ok (.ireturn, 1) := by decide +kernel
theorem dX10_sheet_36 : decode cX10_sheet 36 = .ok (.iload_n 2, 1) := by decide +kernel
theorem dX10_sheet_37 : decode cX10_sheet 37 = .ok (.ifCond .le 14, 3) := by decide +kernel
theorem dX10_sheet_40 : decode cX10_sheet 40 = .ok (.iload_n 3, 1) := by decide +kernel
theorem dX10_sheet_41 : decode cX10_sheet 41 = .ok (.ifCond .ge 10, 3) := by decide +kernel
theorem dX10_sheet_44 : decode cX10_sheet 44 = .ok (.aload_n 0, 1) := by decide +kernel
theorem dX10_sheet_45 : decode cX10_sheet 45 = .ok (.ldc 109, 2) := by decide +kernel
theorem dX10_sheet_47 : decode cX10_sheet 47 = .ok (.invokevirtual 91, 3) := by decide +kernel
theorem dX10_sheet_50 : decode cX10_sheet 50 = .ok (.ireturn, 1) := by decide +kernel
theorem dX10_sheet_51 : decode cX10_sheet 51 = .ok (.iload_n 2, 1) := by decide +kernel
theorem dX10_sheet_52 : decode cX10_sheet 52 = .ok (.ifCond .le 16, 3) := by decide +kernel
theorem dX10_sheet_55 : decode cX10_sheet 55 = .ok (.iload_n 3, 1) := by decide +kernel
theorem dX10_sheet_56 : decode cX10_sheet 56 = .ok (.bipush 24, 2) := by decide +kernel
theorem dX10_sheet_58 : decode cX10_sheet 58 = .ok (.if_icmp .le 10, 3) := by decide +kernel
theorem dX10_sheet_61 : decode cX10_sheet 61 = .ok (.aload_n 0, 1) := by decide +kernel
theorem dX10_sheet_62 : decode cX10_sheet 62 = .ok (.ldc 90, 2) := by decide +kernel
theorem dX10_sheet_64 : decode cX10_sheet 64 = .ok (.invokevirtual 91, 3) := by decide +kernel
theorem dX10_sheet_67 : decode cX10_sheet 67 = .ok (.ireturn, 1) := by decide +kernel
theorem dX10_sheet_68 : decode cX10_sheet 68 = .ok (.aload_n 0, 1) := by decide +kernel
theorem dX10_sheet_69 : decode cX10_sheet 69 = .ok (.getfield 22, 3) := by decide +kernel
theorem dX10_sheet_72 : decode cX10_sheet 72 = .ok (.iload_n 1, 1) := by decide +kernel
theorem dX10_sheet_73 : decode cX10_sheet 73 = .ok (.iload_n 2, 1) := by decide +kernel
theorem dX10_sheet_74 : decode cX10_sheet 74 = .ok (.iastore, 1) := by decide +kernel
theorem dX10_sheet_75 : decode cX10_sheet 75 = .ok (.aload_n 0, 1) := by decide +kernel
theorem dX10_sheet_76 : decode cX10_sheet 76 = .ok (.getfield 25, 3) := by decide +kernel
theorem dX10_sheet_79 : decode cX10_sheet 79 = .ok (.iload_n 1, 1) := by decide +kernel
theorem dX10_sheet_80 : decode cX10_sheet 80 = .ok (.iload_n 2, 1) := by decide +kernel
theorem dX10_sheet_81 : decode cX10_sheet 81 = .ok (.ifCond .ne 7, 3) := by decide +kernel
theorem dX10_sheet_84 : decode cX10_sheet 84 = .ok (.iconst 0, 1) := by decide +kernel
theorem dX10_sheet_85 : decode cX10_sheet 85 = .ok (.goto 4, 3) := by decide +kernel
theorem dX10_sheet_88 : decode cX10_sheet 88 = .ok (.iload_n 3, 1) := by decide +kernel
theorem dX10_sheet_89 : decode cX10_sheet 89 = .ok (.iastore, 1) := by decide +kernel
theorem dX10_sheet_90 : decode cX10_sheet 90 = .ok (.iconst 0, 1) := by decide +kernel
theorem dX10_sheet_91 : decode cX10_sheet 91 = .ok (.istore 4, 2) := by decide +kernel
theorem dX10_sheet_93 : decode cX10_sheet 93 = .ok (.iload 4, 2) := by decide +kernel
theorem dX10_sheet_95 : decode cX10_sheet 95 = .ok (.bipush 24, 2) := by decide +kernel
theorem dX10_sheet_97 : decode cX10_sheet 97 = .ok (.if_icmp .ge 22, 3) := by decide +kernel
theorem dX10_sheet_100 : decode cX10_sheet 100 = .ok (.aload_n 0, 1) := by decide +kernel
theorem dX10_sheet_101 : decode cX10_sheet 101 = .ok (.getfield 28, 3) := by decide +kernel
theorem dX10_sheet_104 : decode cX10_sheet 104 = .ok (.bipush 24, 2) := by decide +kernel
theorem dX10_sheet_106 : decode cX10_sheet 106 = .ok (.iload_n 1, 1) := by decide +kernel
theorem dX10_sheet_107 : decode cX10_sheet 107 = .ok (.imul, 1) := by decide +kernel
theorem dX10_sheet_108 : decode cX10_sheet 108 = .ok (.iload 4, 2) := by decide +kernel
theorem dX10_sheet_110 : decode cX10_sheet 110 = .ok (.iadd, 1) := by decide +kernel
theorem dX10_sheet_111 : decode cX10_sheet 111 = .ok (.iconst 0, 1) := by decide +kernel
theorem dX10_sheet_112 : decode cX10_sheet 112 = .ok (.iastore, 1) := by decide +kernel
theorem dX10_sheet_113 : decode cX10_sheet 113 = .ok (.iinc 4 1, 3) := by decide +kernel
theorem dX10_sheet_116 : decode cX10_sheet 116 = .ok (.goto (-23), 3) := by decide +kernel
theorem dX10_sheet_119 : decode cX10_sheet 119 = .ok (.iconst 1, 1) := by decide +kernel
theorem dX10_sheet_120 : decode cX10_sheet 120 = .ok (.ireturn, 1) := by decide +kernel
theorem dX10_notThere_0 : decode cX10_notThere 0 = .ok (.iload_n 1, 1) := by decide +kernel
theorem dX10_notThere_1 : decode cX10_notThere 1 = .ok (.invokestatic 213, 3) := by decide +kernel
theorem dX10_notThere_4 : decode cX10_notThere 4 = .ok (.ifCond .ne 8, 3) := by decide +kernel
theorem dX10_notThere_7 : decode cX10_notThere 7 = .ok (.ldc 90, 2) := by decide +kernel
theorem dX10_notThere_9 : decode cX10_notThere 9 = .ok (.goto 18, 3) := by decide +kernel
theorem dX10_notThere_12 : decode cX10_notThere 12 = .ok (.aload_n 0, 1) := by decide +kernel
theorem dX10_notThere_13 : decode cX10_notThere 13 = .ok (.getfield 22, 3) := by decide +kernel
theorem dX10_notThere_16 : decode cX10_notThere 16 = .ok (.iload_n 1, 1) := by decide +kernel
theorem dX10_notThere_17 : decode cX10_notThere 17 = .ok (.iaload, 1) := by decide +kernel
theorem dX10_notThere_18 : decode cX10_notThere 18 = .ok (.ifCond .ne 8, 3) := by decide +kernel
theorem dX10_notThere_21 : decode cX10_notThere 21 = .ok (.ldc 114, 2) := by decide +kernel
theorem dX10_notThere_23 : decode cX10_notThere 23 = .ok (.goto 4, 3) := by decide +kernel
theorem dX10_notThere_26 : decode cX10_notThere 26 = .ok (.iconst 0, 1) := by decide +kernel
theorem dX10_notThere_27 : decode cX10_notThere 27 = .ok (.ireturn, 1) := by decide +kernel
theorem dX10_put_0 : decode cX10_put 0 = .ok (.aload_n 0, 1) := by decide +kernel
theorem dX10_put_1 : decode cX10_put 1 = .ok (.iload_n 1, 1) := by decide +kernel
theorem dX10_put_2 : decode cX10_put 2 = .ok (.invokevirtual 259, 3) := by decide +kernel
theorem dX10_put_5 : decode cX10_put 5 = .ok (.istore 4, 2) := by decide +kernel
theorem dX10_put_7 : decode cX10_put 7 = .ok (.iload 4, 2) := by decide +kernel
theorem dX10_put_9 : decode cX10_put 9 = .ok (.ifCond .ne 24, 3) := by decide +kernel
theorem dX10_put_12 : decode cX10_put 12 = .ok (.iload_n 2, 1) := by decide +kernel
theorem dX10_put_13 : decode cX10_put 13 = .ok (.iconst 0, 1) := by decide +kernel
theorem dX10_put_14 : decode cX10_put 14 = .ok (.aload_n 0, 1) := by decide +kernel
theorem dX10_put_15 : decode cX10_put 15 = .ok (.getfield 25, 3) := by decide +kernel
theorem dX10_put_18 : decode cX10_put 18 = .ok (.iload_n 1, 1) := by decide +kernel
theorem dX10_put_19 : decode cX10_put 19 = .ok (.iaload, 1) := by decide +kernel
theorem dX10_put_20 : decode cX10_put 20 = .ok (.iconst 1, 1) := by decide +kernel
theorem dX10_put_21 : decode cX10_put 21 = .ok (.isub, 1) := by decide +kernel
theorem dX10_put_22 : decode cX10_put 22 = .ok (.invokestatic 51, 3) := by decide +kernel
theorem dX10_put_25 : decode cX10_put 25 = .ok (.ifCond .ne 8, 3) := by decide +kernel
theorem dX10_put_28 : decode cX10_put 28 = .ok (.ldc 90, 2) := by decide +kernel
theorem dX10_put_30 : decode cX10_put 30 = .ok (.goto 5, 3) := by decide +kernel
theorem dX10_put_33 : decode cX10_put 33 = .ok (.iload 4, 2) := by decide +kernel
theorem dX10_put_35 : decode cX10_put 35 = .ok (.istore 4, 2) := by decide +kernel
theorem dX10_put_37 : decode cX10_put 37 = .ok (.iload 4, 2) := by decide +kernel
theorem dX10_put_39 : decode cX10_put 39 = .ok (.ifCond .eq 10, 3) := by decide +kernel
theorem dX10_put_42 : decode cX10_put 42 = .ok (.aload_n 0, 1) := by decide +kernel
theorem dX10_put_43 : decode cX10_put 43 = .ok (.iload 4, 2) := by decide +kernel
theorem dX10_put_45 : decode cX10_put 45 = .ok (.invokevirtual 91, 3) := by decide +kernel
theorem dX10_put_48 : decode cX10_put 48 = .ok (.ireturn, 1) := by decide +kernel
theorem dX10_put_49 : decode cX10_put 49 = .ok (.aload_n 0, 1) := by decide +kernel
theorem dX10_put_50 : decode cX10_put 50 = .ok (.getfield 28, 3) := by decide +kernel
theorem dX10_put_53 : decode cX10_put 53 = .ok (.bipush 24, 2) := by decide +kernel
theorem dX10_put_55 : decode cX10_put 55 = .ok (.iload_n 1, 1) := by decide +kernel
theorem dX10_put_56 : decode cX10_put 56 = .ok (.imul, 1) := by decide +kernel
theorem dX10_put_57 : decode cX10_put 57 = .ok (.iload_n 2, 1) := by decide +kernel
theorem dX10_put_58 : decode cX10_put 58 = .ok (.iadd, 1) := by decide +kernel
theorem dX10_put_59 : decode cX10_put 59 = .ok (.aload_n 0, 1) := by decide +kernel
theorem dX10_put_60 : decode cX10_put 60 = .ok (.getfield 22, 3) := by decide +kernel
theorem dX10_put_63 : decode cX10_put 63 = .ok (.iload_n 1, 1) := by decide +kernel
theorem dX10_put_64 : decode cX10_put 64 = .ok (.iaload, 1) := by decide +kernel
theorem dX10_put_65 : decode cX10_put 65 = .ok (.bipush 8, 2) := by decide +kernel
theorem dX10_put_67 : decode cX10_put 67 = .ok (.if_icmp .ne 8, 3) := by decide +kernel
theorem dX10_put_70 : decode cX10_put 70 = .ok (.iload_n 3, 1) := by decide +kernel
theorem dX10_put_71 : decode cX10_put 71 = .ok (.i2b, 1) := by decide +kernel
theorem dX10_put_72 : decode cX10_put 72 = .ok (.goto 20, 3) := by decide +kernel
theorem dX10_put_75 : decode cX10_put 75 = .ok (.aload_n 0, 1) := by decide +kernel
theorem dX10_put_76 : decode cX10_put 76 = .ok (.getfield 22, 3) := by decide +kernel
theorem dX10_put_79 : decode cX10_put 79 = .ok (.iload_n 1, 1) := by decide +kernel
theorem dX10_put_80 : decode cX10_put 80 = .ok (.iaload, 1) := by decide +kernel
theorem dX10_put_81 : decode cX10_put 81 = .ok (.bipush 16, 2) := by decide +kernel
theorem dX10_put_83 : decode cX10_put 83 = .ok (.if_icmp .ne 8, 3) := by decide +kernel
theorem dX10_put_86 : decode cX10_put 86 = .ok (.iload_n 3, 1) := by decide +kernel
theorem dX10_put_87 : decode cX10_put 87 = .ok (.i2s, 1) := by decide +kernel
theorem dX10_put_88 : decode cX10_put 88 = .ok (.goto 4, 3) := by decide +kernel
theorem dX10_put_91 : decode cX10_put 91 = .ok (.iload_n 3, 1) := by decide +kernel
theorem dX10_put_92 : decode cX10_put 92 = .ok (.iastore, 1) := by decide +kernel
theorem dX10_put_93 : decode cX10_put 93 = .ok (.iconst 1, 1) := by decide +kernel
theorem dX10_put_94 : decode cX10_put 94 = .ok (.ireturn, 1) := by decide +kernel
theorem dX10_notMoved_0 : decode cX10_notMoved 0 = .ok (.iload_n 1, 1) := by decide +kernel
theorem dX10_notMoved_1 : decode cX10_notMoved 1 = .ok (.invokestatic 213, 3) := by decide +kernel
theorem dX10_notMoved_4 : decode cX10_notMoved 4 = .ok (.ifCond .eq 10, 3) := by decide +kernel
theorem dX10_notMoved_7 : decode cX10_notMoved 7 = .ok (.iload_n 3, 1) := by decide +kernel
theorem dX10_notMoved_8 : decode cX10_notMoved 8 = .ok (.invokestatic 213, 3) := by decide +kernel
theorem dX10_notMoved_11 : decode cX10_notMoved 11 = .ok (.ifCond .ne 6, 3) := by decide +kernel
theorem dX10_notMoved_14 : decode cX10_notMoved 14 = .ok (.ldc 90, 2) := by decide +kernel
theorem dX10_notMoved_16 : decode cX10_notMoved 16 = .ok (.ireturn, 1) := by decide +kernel
theorem dX10_notMoved_17 : decode cX10_notMoved 17 = .ok (.aload_n 0, 1) := by decide +kernel
theorem dX10_notMoved_18 : decode cX10_notMoved 18 = .ok (.getfield 22, 3) := by decide +kernel
theorem dX10_notMoved_21 : decode cX10_notMoved 21 = .ok (.iload_n 1, 1) := by decide +kernel
theorem dX10_notMoved_22 : decode cX10_notMoved 22 = .ok (.iaload, 1) := by decide +kernel
theorem dX10_notMoved_23 : decode cX10_notMoved 23 = .ok (.ifCond .eq 12, 3) := by decide +kernel
theorem dX10_notMoved_26 : decode cX10_notMoved 26 = .ok (.aload_n 0, 1) := by decide +kernel
theorem dX10_notMoved_27 : decode cX10_notMoved 27 = .ok (.getfield 22, 3) := by decide +kernel
theorem dX10_notMoved_30 : decode cX10_notMoved 30 = .ok (.iload_n 3, 1) := by decide +kernel
theorem dX10_notMoved_31 : decode cX10_notMoved 31 = .ok (.iaload, 1) := by decide +kernel
theorem dX10_notMoved_32 : decode cX10_notMoved 32 = .ok (.ifCond .ne 6, 3) := by decide +kernel
theorem dX10_notMoved_35 : decode cX10_notMoved 35 = .ok (.ldc 114, 2) := by decide +kernel
theorem dX10_notMoved_37 : decode cX10_notMoved 37 = .ok (.ireturn, 1) := by decide +kernel
theorem dX10_notMoved_38 : decode cX10_notMoved 38 = .ok (.aload_n 0, 1) := by decide +kernel
theorem dX10_notMoved_39 : decode cX10_notMoved 39 = .ok (.getfield 22, 3) := by decide +kernel
theorem dX10_notMoved_42 : decode cX10_notMoved 42 = .ok (.iload_n 1, 1) := by decide +kernel
theorem dX10_notMoved_43 : decode cX10_notMoved 43 = .ok (.iaload, 1) := by decide +kernel
theorem dX10_notMoved_44 : decode cX10_notMoved 44 = .ok (.aload_n 0, 1) := by decide +kernel
theorem dX10_notMoved_45 : decode cX10_notMoved 45 = .ok (.getfield 22, 3) := by decide +kernel
theorem dX10_notMoved_48 : decode cX10_notMoved 48 = .ok (.iload_n 3, 1) := by decide +kernel
theorem dX10_notMoved_49 : decode cX10_notMoved 49 = .ok (.iaload, 1) := by decide +kernel
theorem dX10_notMoved_50 : decode cX10_notMoved 50 = .ok (.if_icmp .eq 6, 3) := by decide +kernel
theorem dX10_notMoved_53 : decode cX10_notMoved 53 = .ok (.ldc 108, 2) := by decide +kernel
theorem dX10_notMoved_55 : decode cX10_notMoved 55 = .ok (.ireturn, 1) := by decide +kernel
theorem dX10_notMoved_56 : decode cX10_notMoved 56 = .ok (.iload 5, 2) := by decide +kernel
theorem dX10_notMoved_58 : decode cX10_notMoved 58 = .ok (.ifCond .lt 43, 3) := by decide +kernel
theorem dX10_notMoved_61 : decode cX10_notMoved 61 = .ok (.iload_n 2, 1) := by decide +kernel
theorem dX10_notMoved_62 : decode cX10_notMoved 62 = .ok (.ifCond .lt 39, 3) := by decide +kernel
theorem dX10_notMoved_65 : decode cX10_notMoved 65 = .ok (.iload 4, 2) := by decide +kernel
theorem dX10_notMoved_67 : decode cX10_notMoved 67 = .ok (.ifCond .lt 34, 3) := by decide +kernel
theorem dX10_notMoved_70 : decode cX10_notMoved 70 = .ok (.iload 5, 2) := by decide +kernel
theorem dX10_notMoved_72 : decode cX10_notMoved 72 = .ok (.aload_n 0, 1) := by decide +kernel
theorem dX10_notMoved_73 : decode cX10_notMoved 73 = .ok (.getfield 25, 3) := by decide +kernel
theorem dX10_notMoved_76 : decode cX10_notMoved 76 = .ok (.iload_n 1, 1) := by decide +kernel
theorem dX10_notMoved_77 : decode cX10_notMoved 77 = .ok (.iaload, 1) := by decide +kernel
theorem dX10_notMoved_78 : decode cX10_notMoved 78 = .ok (.iload_n 2, 1) := by decide +kernel
theorem dX10_notMoved_79 : decode cX10_notMoved 79 = .ok (.isub, 1) := by decide +kernel
theorem dX10_notMoved_80 : decode cX10_notMoved 80 = .ok (.if_icmp .gt 21, 3) := by decide +kernel
theorem dX10_notMoved_83 : decode cX10_notMoved 83 = .ok (.iload 5, 2) := by decide +kernel
theorem dX10_notMoved_85 : decode cX10_notMoved 85 = .ok (.aload_n 0, 1) := by decide +kernel
theorem dX10_notMoved_86 : decode cX10_notMoved 86 = .ok (.getfield 25, 3) := by decide +kernel
theorem dX10_notMoved_89 : decode cX10_notMoved 89 = .ok (.iload_n 3, 1) := by decide +kernel
theorem dX10_notMoved_90 : decode cX10_notMoved 90 = .ok (.iaload, 1) := by decide +kernel
theorem dX10_notMoved_91 : decode cX10_notMoved 91 = .ok (.iload 4, 2) := by decide +kernel
theorem dX10_notMoved_93 : decode cX10_notMoved 93 = .ok (.isub, 1) := by decide +kernel
theorem dX10_notMoved_94 : decode cX10_notMoved 94 = .ok (.if_icmp .gt 7, 3) := by decide +kernel
theorem dX10_notMoved_97 : decode cX10_notMoved 97 = .ok (.iconst 1, 1) := by decide +kernel
theorem dX10_notMoved_98 : decode cX10_notMoved 98 = .ok (.goto 4, 3) := by decide +kernel
theorem dX10_notMoved_101 : decode cX10_notMoved 101 = .ok (.iconst 0, 1) := by decide +kernel
theorem dX10_notMoved_102 : decode cX10_notMoved 102 = .ok (.istore 6, 2) := by decide +kernel
theorem dX10_notMoved_104 : decode cX10_notMoved 104 = .ok (.iload 6, 2) := by decide +kernel
theorem dX10_notMoved_106 : decode cX10_notMoved 106 = .ok (.ifCond .eq 7, 3) := by decide +kernel
theorem dX10_notMoved_109 : decode cX10_notMoved 109 = .ok (.iconst 0, 1) := by decide +kernel
theorem dX10_notMoved_110 : decode cX10_notMoved 110 = .ok (.goto 5, 3) := by decide +kernel
theorem dX10_notMoved_113 : decode cX10_notMoved 113 = .ok (.ldc 90, 2) := by decide +kernel
theorem dX10_notMoved_115 : decode cX10_notMoved 115 = .ok (.ireturn, 1) := by decide +kernel
theorem dX10_move_0 : decode cX10_move 0 = .ok (.aload_n 0, 1) := by decide +kernel
theorem dX10_move_1 : decode cX10_move 1 = .ok (.iload_n 1, 1) := by decide +kernel
theorem dX10_move_2 : decode cX10_move 2 = .ok (.iload_n 2, 1) := by decide +kernel
theorem dX10_move_3 : decode cX10_move 3 = .ok (.iload_n 3, 1) := by decide +kernel
theorem dX10_move_4 : decode cX10_move 4 = .ok (.iload 4, 2) := by decide +kernel
theorem dX10_move_6 : decode cX10_move 6 = .ok (.iload 5, 2) := by decide +kernel
theorem dX10_move_8 : decode cX10_move 8 = .ok (.invokevirtual 262, 3) := by decide +kernel
theorem dX10_move_11 : decode cX10_move 11 = .ok (.istore 6, 2) := by decide +kernel
theorem dX10_move_13 : decode cX10_move 13 = .ok (.iload 6, 2) := by decide +kernel
theorem dX10_move_15 : decode cX10_move 15 = .ok (.ifCond .eq 10, 3) := by decide +kernel
theorem dX10_move_18 : decode cX10_move 18 = .ok (.aload_n 0, 1) := by decide +kernel
theorem dX10_move_19 : decode cX10_move 19 = .ok (.iload 6, 2) := by decide +kernel
theorem dX10_move_21 : decode cX10_move 21 = .ok (.invokevirtual 91, 3) := by decide +kernel
theorem dX10_move_24 : decode cX10_move 24 = .ok (.ireturn, 1) := by decide +kernel
theorem dX10_move_25 : decode cX10_move 25 = .ok (.iconst 0, 1) := by decide +kernel
theorem dX10_move_26 : decode cX10_move 26 = .ok (.istore 7, 2) := by decide +kernel
theorem dX10_move_28 : decode cX10_move 28 = .ok (.iload 7, 2) := by decide +kernel
theorem dX10_move_30 : decode cX10_move 30 = .ok (.iload 5, 2) := by decide +kernel
theorem dX10_move_32 : decode cX10_move 32 = .ok (.if_icmp .ge 58, 3) := by decide +kernel
theorem dX10_move_35 : decode cX10_move 35 = .ok (.iload_n 2, 1) := by decide +kernel
theorem dX10_move_36 : decode cX10_move 36 = .ok (.iload 4, 2) := by decide +kernel
theorem dX10_move_38 : decode cX10_move 38 = .ok (.if_icmp .ge 13, 3) := by decide +kernel
theorem dX10_move_41 : decode cX10_move 41 = .ok (.iload 5, 2) := by decide +kernel
theorem dX10_move_43 : decode cX10_move 43 = .ok (.iconst 1, 1) := by decide +kernel
theorem dX10_move_44 : decode cX10_move 44 = .ok (.isub, 1) := by decide +kernel
theorem dX10_move_45 : decode cX10_move 45 = .ok (.iload 7, 2) := by decide +kernel
theorem dX10_move_47 : decode cX10_move 47 = .ok (.isub, 1) := by decide +kernel
theorem dX10_move_48 : decode cX10_move 48 = .ok (.goto 5, 3) := by decide +kernel
theorem dX10_move_51 : decode cX10_move 51 = .ok (.iload 7, 2) := by decide +kernel
theorem dX10_move_53 : decode cX10_move 53 = .ok (.istore 8, 2) := by decide +kernel
theorem dX10_move_55 : decode cX10_move 55 = .ok (.aload_n 0, 1) := by decide +kernel
theorem dX10_move_56 : decode cX10_move 56 = .ok (.getfield 28, 3) := by decide +kernel
theorem dX10_move_59 : decode cX10_move 59 = .ok (.bipush 24, 2) := by decide +kernel
theorem dX10_move_61 : decode cX10_move 61 = .ok (.iload_n 3, 1) := by decide +kernel
theorem dX10_move_62 : decode cX10_move 62 = .ok (.imul, 1) := by decide +kernel
theorem dX10_move_63 : decode cX10_move 63 = .ok (.iload 4, 2) := by decide +kernel
theorem dX10_move_65 : decode cX10_move 65 = .ok (.iadd, 1) := by decide +kernel
theorem dX10_move_66 : decode cX10_move 66 = .ok (.iload 8, 2) := by decide +kernel
theorem dX10_move_68 : decode cX10_move 68 = .ok (.iadd, 1) := by decide +kernel
theorem dX10_move_69 : decode cX10_move 69 = .ok (.aload_n 0, 1) := by decide +kernel
theorem dX10_move_70 : decode cX10_move 70 = .ok (.getfield 28, 3) := by decide +kernel
theorem dX10_move_73 : decode cX10_move 73 = .ok (.bipush 24, 2) := by decide +kernel
theorem dX10_move_75 : decode cX10_move 75 = .ok (.iload_n 1, 1) := by decide +kernel
theorem dX10_move_76 : decode cX10_move 76 = .ok (.imul, 1) := by decide +kernel
theorem dX10_move_77 : decode cX10_move 77 = .ok (.iload_n 2, 1) := by decide +kernel
theorem dX10_move_78 : decode cX10_move 78 = .ok (.iadd, 1) := by decide +kernel
theorem dX10_move_79 : decode cX10_move 79 = .ok (.iload 8, 2) := by decide +kernel
theorem dX10_move_81 : decode cX10_move 81 = .ok (.iadd, 1) := by decide +kernel
theorem dX10_move_82 : decode cX10_move 82 = .ok (.iaload, 1) := by decide +kernel
theorem dX10_move_83 : decode cX10_move 83 = .ok (.iastore, 1) := by decide +kernel
theorem dX10_move_84 : decode cX10_move 84 = .ok (.iinc 7 1, 3) := by decide +kernel
theorem dX10_move_87 : decode cX10_move 87 = .ok (.goto (-59), 3) := by decide +kernel
theorem dX10_move_90 : decode cX10_move 90 = .ok (.iload 5, 2) := by decide +kernel
theorem dX10_move_92 : decode cX10_move 92 = .ok (.ireturn, 1) := by decide +kernel
theorem dX10_seenAll_0 : decode cX10_seenAll 0 = .ok (.aload_n 0, 1) := by decide +kernel
theorem dX10_seenAll_1 : decode cX10_seenAll 1 = .ok (.iload_n 1, 1) := by decide +kernel
theorem dX10_seenAll_2 : decode cX10_seenAll 2 = .ok (.invokevirtual 259, 3) := by decide +kernel
theorem dX10_seenAll_5 : decode cX10_seenAll 5 = .ok (.istore_n 2, 1) := by decide +kernel
theorem dX10_seenAll_6 : decode cX10_seenAll 6 = .ok (.iload_n 2, 1) := by decide +kernel
theorem dX10_seenAll_7 : decode cX10_seenAll 7 = .ok (.ifCond .eq 9, 3) := by decide +kernel
theorem dX10_seenAll_10 : decode cX10_seenAll 10 = .ok (.aload_n 0, 1) := by decide +kernel
theorem dX10_seenAll_11 : decode cX10_seenAll 11 = .ok (.iload_n 2, 1) := by decide +kernel
theorem dX10_seenAll_12 : decode cX10_seenAll 12 = .ok (.invokevirtual 91, 3) := by decide +kernel
theorem dX10_seenAll_15 : decode cX10_seenAll 15 = .ok (.ireturn, 1) := by decide +kernel
theorem dX10_seenAll_16 : decode cX10_seenAll 16 = .ok (.iconst 0, 1) := by decide +kernel
theorem dX10_seenAll_17 : decode cX10_seenAll 17 = .ok (.istore_n 3, 1) := by decide +kernel
theorem dX10_seenAll_18 : decode cX10_seenAll 18 = .ok (.iload_n 3, 1) := by decide +kernel
theorem dX10_seenAll_19 : decode cX10_seenAll 19 = .ok (.aload_n 0, 1) := by decide +kernel
theorem dX10_seenAll_20 : decode cX10_seenAll 20 = .ok (.getfield 25, 3) := by decide +kernel
theorem dX10_seenAll_23 : decode cX10_seenAll 23 = .ok (.iload_n 1, 1) := by decide +kernel
theorem dX10_seenAll_24 : decode cX10_seenAll 24 = .ok (.iaload, 1) := by decide +kernel
theorem dX10_seenAll_25 : decode cX10_seenAll 25 = .ok (.if_icmp .ge 58, 3) := by decide +kernel
theorem dX10_seenAll_28 : decode cX10_seenAll 28 = .ok (.iload_n 3, 1) := by decide +kernel
theorem dX10_seenAll_29 : decode cX10_seenAll 29 = .ok (.aload_n 0, 1) := by decide +kernel
theorem dX10_seenAll_30 : decode cX10_seenAll 30 = .ok (.getfield 9, 3) := by decide +kernel
theorem dX10_seenAll_33 : decode cX10_seenAll 33 = .ok (.iconst 2, 1) := by decide +kernel
theorem dX10_seenAll_34 : decode cX10_seenAll 34 = .ok (.iaload, 1) := by decide +kernel
theorem dX10_seenAll_35 : decode cX10_seenAll 35 = .ok (.if_icmp .ge 48, 3) := by decide +kernel
theorem dX10_seenAll_38 : decode cX10_seenAll 38 = .ok (.aload_n 0, 1) := by decide +kernel
theorem dX10_seenAll_39 : decode cX10_seenAll 39 = .ok (.getfield 28, 3) := by decide +kernel
theorem dX10_seenAll_42 : decode cX10_seenAll 42 = .ok (.bipush 24, 2) := by decide +kernel
theorem dX10_seenAll_44 : decode cX10_seenAll 44 = .ok (.iload_n 1, 1) := by decide +kernel
theorem dX10_seenAll_45 : decode cX10_seenAll 45 = .ok (.imul, 1) := by decide +kernel
theorem dX10_seenAll_46 : decode cX10_seenAll 46 = .ok (.iload_n 3, 1) := by decide +kernel
theorem dX10_seenAll_47 : decode cX10_seenAll 47 = .ok (.iadd, 1) := by decide +kernel
theorem dX10_seenAll_48 : decode cX10_seenAll 48 = .ok (.iaload, 1) := by decide +kernel
theorem dX10_seenAll_49 : decode cX10_seenAll 49 = .ok (.iconst 0, 1) := by decide +kernel
theorem dX10_seenAll_50 : decode cX10_seenAll 50 = .ok (.aload_n 0, 1) := by decide +kernel
theorem dX10_seenAll_51 : decode cX10_seenAll 51 = .ok (.invokevirtual 207, 3) := by decide +kernel
theorem dX10_seenAll_54 : decode cX10_seenAll 54 = .ok (.invokestatic 51, 3) := by decide +kernel
theorem dX10_seenAll_57 : decode cX10_seenAll 57 = .ok (.ifCond .eq 26, 3) := by decide +kernel
theorem dX10_seenAll_60 : decode cX10_seenAll 60 = .ok (.aload_n 0, 1) := by decide +kernel
theorem dX10_seenAll_61 : decode cX10_seenAll 61 = .ok (.iload_n 3, 1) := by decide +kernel
theorem dX10_seenAll_62 : decode cX10_seenAll 62 = .ok (.iconst 4, 1) := by decide +kernel
theorem dX10_seenAll_63 : decode cX10_seenAll 63 = .ok (.aload_n 0, 1) := by decide +kernel
theorem dX10_seenAll_64 : decode cX10_seenAll 64 = .ok (.getfield 28, 3) := by decide +kernel
theorem dX10_seenAll_67 : decode cX10_seenAll 67 = .ok (.bipush 24, 2) := by decide +kernel
theorem dX10_seenAll_69 : decode cX10_seenAll 69 = .ok (.iload_n 1, 1) := by decide +kernel
theorem dX10_seenAll_70 : decode cX10_seenAll 70 = .ok (.imul, 1) := by decide +kernel
theorem dX10_seenAll_71 : decode cX10_seenAll 71 = .ok (.iload_n 3, 1) := by decide +kernel
theorem dX10_seenAll_72 : decode cX10_seenAll 72 = .ok (.iadd, 1) := by decide +kernel
theorem dX10_seenAll_73 : decode cX10_seenAll 73 = .ok (.iaload, 1) := by decide +kernel
theorem dX10_seenAll_74 : decode cX10_seenAll 74 = .ok (.invokevirtual 95, 3) := by decide +kernel
theorem dX10_seenAll_77 : decode cX10_seenAll 77 = .ok (.iinc 3 1, 3) := by decide +kernel
theorem dX10_seenAll_80 : decode cX10_seenAll 80 = .ok (.goto (-62), 3) := by decide +kernel
theorem dX10_seenAll_83 : decode cX10_seenAll 83 = .ok (.iload_n 3, 1) := by decide +kernel
theorem dX10_seenAll_84 : decode cX10_seenAll 84 = .ok (.ireturn, 1) := by decide +kernel
theorem dX10_judge_0 : decode cX10_judge 0 = .ok (.aload_n 0, 1) := by decide +kernel
theorem dX10_judge_1 : decode cX10_judge 1 = .ok (.iload_n 1, 1) := by decide +kernel
theorem dX10_judge_2 : decode cX10_judge 2 = .ok (.invokevirtual 259, 3) := by decide +kernel
theorem dX10_judge_5 : decode cX10_judge 5 = .ok (.istore_n 2, 1) := by decide +kernel
theorem dX10_judge_6 : decode cX10_judge 6 = .ok (.iload_n 2, 1) := by decide +kernel
theorem dX10_judge_7 : decode cX10_judge 7 = .ok (.ifCond .eq 9, 3) := by decide +kernel
theorem dX10_judge_10 : decode cX10_judge 10 = .ok (.aload_n 0, 1) := by decide +kernel
theorem dX10_judge_11 : decode cX10_judge 11 = .ok (.iload_n 2, 1) := by decide +kernel
theorem dX10_judge_12 : decode cX10_judge 12 = .ok (.invokevirtual 91, 3) := by decide +kernel
theorem dX10_judge_15 : decode cX10_judge 15 = .ok (.ireturn, 1) := by decide +kernel
theorem dX10_judge_16 : decode cX10_judge 16 = .ok (.iconst 0, 1) := by decide +kernel
theorem dX10_judge_17 : decode cX10_judge 17 = .ok (.istore_n 3, 1) := by decide +kernel
theorem dX10_judge_18 : decode cX10_judge 18 = .ok (.iload_n 3, 1) := by decide +kernel
theorem dX10_judge_19 : decode cX10_judge 19 = .ok (.aload_n 0, 1) := by decide +kernel
theorem dX10_judge_20 : decode cX10_judge 20 = .ok (.getfield 25, 3) := by decide +kernel
theorem dX10_judge_23 : decode cX10_judge 23 = .ok (.iload_n 1, 1) := by decide +kernel
theorem dX10_judge_24 : decode cX10_judge 24 = .ok (.iaload, 1) := by decide +kernel
theorem dX10_judge_25 : decode cX10_judge 25 = .ok (.if_icmp .ge 39, 3) := by decide +kernel
theorem dX10_judge_28 : decode cX10_judge 28 = .ok (.iload_n 3, 1) := by decide +kernel
theorem dX10_judge_29 : decode cX10_judge 29 = .ok (.aload_n 0, 1) := by decide +kernel
theorem dX10_judge_30 : decode cX10_judge 30 = .ok (.getfield 9, 3) := by decide +kernel
theorem dX10_judge_33 : decode cX10_judge 33 = .ok (.iconst 2, 1) := by decide +kernel
theorem dX10_judge_34 : decode cX10_judge 34 = .ok (.iaload, 1) := by decide +kernel
theorem dX10_judge_35 : decode cX10_judge 35 = .ok (.if_icmp .ge 29, 3) := by decide +kernel
theorem dX10_judge_38 : decode cX10_judge 38 = .ok (.aload_n 0, 1) := by decide +kernel
theorem dX10_judge_39 : decode cX10_judge 39 = .ok (.getfield 28, 3) := by decide +kernel
theorem dX10_judge_42 : decode cX10_judge 42 = .ok (.bipush 24, 2) := by decide +kernel
theorem dX10_judge_44 : decode cX10_judge 44 = .ok (.iload_n 1, 1) := by decide +kernel
theorem dX10_judge_45 : decode cX10_judge 45 = .ok (.imul, 1) := by decide +kernel
theorem dX10_judge_46 : decode cX10_judge 46 = .ok (.iload_n 3, 1) := by decide +kernel
theorem dX10_judge_47 : decode cX10_judge 47 = .ok (.iadd, 1) := by decide +kernel
theorem dX10_judge_48 : decode cX10_judge 48 = .ok (.iaload, 1) := by decide +kernel
theorem dX10_judge_49 : decode cX10_judge 49 = .ok (.aload_n 0, 1) := by decide +kernel
theorem dX10_judge_50 : decode cX10_judge 50 = .ok (.iload_n 3, 1) := by decide +kernel
theorem dX10_judge_51 : decode cX10_judge 51 = .ok (.iconst 2, 1) := by decide +kernel
theorem dX10_judge_52 : decode cX10_judge 52 = .ok (.invokevirtual 55, 3) := by decide +kernel
theorem dX10_judge_55 : decode cX10_judge 55 = .ok (.if_icmp .ne 9, 3) := by decide +kernel
theorem dX10_judge_58 : decode cX10_judge 58 = .ok (.iinc 3 1, 3) := by decide +kernel
theorem dX10_judge_61 : decode cX10_judge 61 = .ok (.goto (-43), 3) := by decide +kernel
theorem dX10_judge_64 : decode cX10_judge 64 = .ok (.iload_n 3, 1) := by decide +kernel
theorem dX10_judge_65 : decode cX10_judge 65 = .ok (.ireturn, 1) := by decide +kernel
theorem dX10_image_0 : decode cX10_image 0 = .ok (.aload_n 0, 1) := by decide +kernel
theorem dX10_image_1 : decode cX10_image 1 = .ok (.getfield 9, 3) := by decide +kernel
theorem dX10_image_4 : decode cX10_image 4 = .ok (.aload_n 0, 1) := by decide +kernel
theorem dX10_image_5 : decode cX10_image 5 = .ok (.getfield 13, 3) := by decide +kernel
theorem dX10_image_8 : decode cX10_image 8 = .ok (.invokestatic 47, 3) := by decide +kernel
theorem dX10_image_11 : decode cX10_image 11 = .ok (.aload_n 0, 1) := by decide +kernel
theorem dX10_image_12 : decode cX10_image 12 = .ok (.dup, 1) := by decide +kernel
theorem dX10_image_13 : decode cX10_image 13 = .ok (.getfield 266, 3) := by decide +kernel
theorem dX10_image_16 : decode cX10_image 16 = .ok (.iconst 1, 1) := by decide +kernel
theorem dX10_image_17 : decode cX10_image 17 = .ok (.iadd, 1) := by decide +kernel
theorem dX10_image_18 : decode cX10_image 18 = .ok (.putfield 266, 3) := by decide +kernel
theorem dX10_image_21 : decode cX10_image 21 = .ok (.aload_n 0, 1) := by decide +kernel
theorem dX10_image_22 : decode cX10_image 22 = .ok (.getfield 266, 3) := by decide +kernel
theorem dX10_image_25 : decode cX10_image 25 = .ok (.ireturn, 1) := by decide +kernel
theorem dX10_restore_0 : decode cX10_restore 0 = .ok (.aload_n 0, 1) := by decide +kernel
theorem dX10_restore_1 : decode cX10_restore 1 = .ok (.getfield 266, 3) := by decide +kernel
theorem dX10_restore_4 : decode cX10_restore 4 = .ok (.ifCond .ne 10, 3) := by decide +kernel
theorem dX10_restore_7 : decode cX10_restore 7 = .ok (.aload_n 0, 1) := by decide +kernel
theorem dX10_restore_8 : decode cX10_restore 8 = .ok (.ldc 114, 2) := by decide +kernel
theorem dX10_restore_10 : decode cX10_restore 10 = .ok (.invokevirtual 91, 3) := by decide +kernel
theorem dX10_restore_13 : decode cX10_restore 13 = .ok (.ireturn, 1) := by decide +kernel
theorem dX10_restore_14 : decode cX10_restore 14 = .ok (.aload_n 0, 1) := by decide +kernel
theorem dX10_restore_15 : decode cX10_restore 15 = .ok (.getfield 13, 3) := by decide +kernel
theorem dX10_restore_18 : decode cX10_restore 18 = .ok (.aload_n 0, 1) := by decide +kernel
theorem dX10_restore_19 : decode cX10_restore 19 = .ok (.getfield 9, 3) := by decide +kernel
theorem dX10_restore_22 : decode cX10_restore 22 = .ok (.invokestatic 47, 3) := by decide +kernel
theorem dX10_restore_25 : decode cX10_restore 25 = .ok (.aload_n 0, 1) := by decide +kernel
theorem dX10_restore_26 : decode cX10_restore 26 = .ok (.getfield 9, 3) := by decide +kernel
theorem dX10_restore_29 : decode cX10_restore 29 = .ok (.iconst 0, 1) := by decide +kernel
theorem dX10_restore_30 : decode cX10_restore 30 = .ok (.iaload, 1) := by decide +kernel
theorem dX10_restore_31 : decode cX10_restore 31 = .ok (.ireturn, 1) := by decide +kernel
theorem dX10_tell_0 : decode cX10_tell 0 = .ok (.aload_n 0, 1) := by decide +kernel
theorem dX10_tell_1 : decode cX10_tell 1 = .ok (.getfield 9, 3) := by decide +kernel
theorem dX10_tell_4 : decode cX10_tell 4 = .ok (.bipush 6, 2) := by decide +kernel
theorem dX10_tell_6 : decode cX10_tell 6 = .ok (.iaload, 1) := by decide +kernel
theorem dX10_tell_7 : decode cX10_tell 7 = .ok (.bipush 24, 2) := by decide +kernel
theorem dX10_tell_9 : decode cX10_tell 9 = .ok (.if_icmp .ne 10, 3) := by decide +kernel
theorem dX10_tell_12 : decode cX10_tell 12 = .ok (.aload_n 0, 1) := by decide +kernel
theorem dX10_tell_13 : decode cX10_tell 13 = .ok (.ldc 94, 2) := by decide +kernel
theorem dX10_tell_15 : decode cX10_tell 15 = .ok (.invokevirtual 91, 3) := by decide +kernel
theorem dX10_tell_18 : decode cX10_tell 18 = .ok (.ireturn, 1) := by decide +kernel
theorem dX10_tell_19 : decode cX10_tell 19 = .ok (.aload_n 0, 1) := by decide +kernel
theorem dX10_tell_20 : decode cX10_tell 20 = .ok (.getfield 9, 3) := by decide +kernel
theorem dX10_tell_23 : decode cX10_tell 23 = .ok (.bipush 119, 2) := by decide +kernel
theorem dX10_tell_25 : decode cX10_tell 25 = .ok (.aload_n 0, 1) := by decide +kernel
theorem dX10_tell_26 : decode cX10_tell 26 = .ok (.getfield 9, 3) := by decide +kernel
theorem dX10_tell_29 : decode cX10_tell 29 = .ok (.bipush 6, 2) := by decide +kernel
theorem dX10_tell_31 : decode cX10_tell 31 = .ok (.iaload, 1) := by decide +kernel
theorem dX10_tell_32 : decode cX10_tell 32 = .ok (.iadd, 1) := by decide +kernel
theorem dX10_tell_33 : decode cX10_tell 33 = .ok (.iload_n 1, 1) := by decide +kernel
theorem dX10_tell_34 : decode cX10_tell 34 = .ok (.iastore, 1) := by decide +kernel
theorem dX10_tell_35 : decode cX10_tell 35 = .ok (.aload_n 0, 1) := by decide +kernel
theorem dX10_tell_36 : decode cX10_tell 36 = .ok (.getfield 9, 3) := by decide +kernel
theorem dX10_tell_39 : decode cX10_tell 39 = .ok (.bipush 6, 2) := by decide +kernel
theorem dX10_tell_41 : decode cX10_tell 41 = .ok (.dup2, 1) := by decide +kernel
theorem dX10_tell_42 : decode cX10_tell 42 = .ok (.iaload, 1) := by decide +kernel
theorem dX10_tell_43 : decode cX10_tell 43 = .ok (.iconst 1, 1) := by decide +kernel
theorem dX10_tell_44 : decode cX10_tell 44 = .ok (.iadd, 1) := by decide +kernel
theorem dX10_tell_45 : decode cX10_tell 45 = .ok (.iastore, 1) := by decide +kernel
theorem dX10_tell_46 : decode cX10_tell 46 = .ok (.aload_n 0, 1) := by decide +kernel
theorem dX10_tell_47 : decode cX10_tell 47 = .ok (.getfield 9, 3) := by decide +kernel
theorem dX10_tell_50 : decode cX10_tell 50 = .ok (.bipush 6, 2) := by decide +kernel
theorem dX10_tell_52 : decode cX10_tell 52 = .ok (.iaload, 1) := by decide +kernel
theorem dX10_tell_53 : decode cX10_tell 53 = .ok (.ireturn, 1) := by decide +kernel
theorem dX10_check_0 : decode cX10_check 0 = .ok (.aload_n 0, 1) := by decide +kernel
theorem dX10_check_1 : decode cX10_check 1 = .ok (.getfield 9, 3) := by decide +kernel
theorem dX10_check_4 : decode cX10_check 4 = .ok (.bipush 6, 2) := by decide +kernel
theorem dX10_check_6 : decode cX10_check 6 = .ok (.iaload, 1) := by decide +kernel
theorem dX10_check_7 : decode cX10_check 7 = .ok (.istore_n 1, 1) := by decide +kernel
theorem dX10_check_8 : decode cX10_check 8 = .ok (.aload_n 0, 1) := by decide +kernel
theorem dX10_check_9 : decode cX10_check 9 = .ok (.getfield 9, 3) := by decide +kernel
theorem dX10_check_12 : decode cX10_check 12 = .ok (.bipush 6, 2) := by decide +kernel
theorem dX10_check_14 : decode cX10_check 14 = .ok (.iconst 0, 1) := by decide +kernel
theorem dX10_check_15 : decode cX10_check 15 = .ok (.iastore, 1) := by decide +kernel
theorem dX10_check_16 : decode cX10_check 16 = .ok (.iconst 0, 1) := by decide +kernel
theorem dX10_check_17 : decode cX10_check 17 = .ok (.istore_n 2, 1) := by decide +kernel
theorem dX10_check_18 : decode cX10_check 18 = .ok (.iload_n 2, 1) := by decide +kernel
theorem dX10_check_19 : decode cX10_check 19 = .ok (.iload_n 1, 1) := by decide +kernel
theorem dX10_check_20 : decode cX10_check 20 = .ok (.if_icmp .ge 38, 3) := by decide +kernel
theorem dX10_check_23 : decode cX10_check 23 = .ok (.aload_n 0, 1) := by decide +kernel
theorem dX10_check_24 : decode cX10_check 24 = .ok (.iload_n 2, 1) := by decide +kernel
theorem dX10_check_25 : decode cX10_check 25 = .ok (.invokevirtual 99, 3) := by decide +kernel
theorem dX10_check_28 : decode cX10_check 28 = .ok (.ifCond .eq 20, 3) := by decide +kernel
theorem dX10_check_31 : decode cX10_check 31 = .ok (.aload_n 0, 1) := by decide +kernel
theorem dX10_check_32 : decode cX10_check 32 = .ok (.getfield 9, 3) := by decide +kernel
theorem dX10_check_35 : decode cX10_check 35 = .ok (.bipush 119, 2) := by decide +kernel
theorem dX10_check_37 : decode cX10_check 37 = .ok (.iload_n 2, 1) := by decide +kernel
theorem dX10_check_38 : decode cX10_check 38 = .ok (.iadd, 1) := by decide +kernel
theorem dX10_check_39 : decode cX10_check 39 = .ok (.iaload, 1) := by decide +kernel
theorem dX10_check_40 : decode cX10_check 40 = .ok (.aload_n 0, 1) := by decide +kernel
theorem dX10_check_41 : decode cX10_check 41 = .ok (.iload_n 2, 1) := by decide +kernel
theorem dX10_check_42 : decode cX10_check 42 = .ok (.invokevirtual 102, 3) := by decide +kernel
theorem dX10_check_45 : decode cX10_check 45 = .ok (.if_icmp .eq 7, 3) := by decide +kernel
theorem dX10_check_48 : decode cX10_check 48 = .ok (.iconst 1, 1) := by decide +kernel
theorem dX10_check_49 : decode cX10_check 49 = .ok (.iload_n 2, 1) := by decide +kernel
theorem dX10_check_50 : decode cX10_check 50 = .ok (.iadd, 1) := by decide +kernel
theorem dX10_check_51 : decode cX10_check 51 = .ok (.ireturn, 1) := by decide +kernel
theorem dX10_check_52 : decode cX10_check 52 = .ok (.iinc 2 1, 3) := by decide +kernel
theorem dX10_check_55 : decode cX10_check 55 = .ok (.goto (-37), 3) := by decide +kernel
theorem dX10_check_58 : decode cX10_check 58 = .ok (.iconst 0, 1) := by decide +kernel
theorem dX10_check_59 : decode cX10_check 59 = .ok (.ireturn, 1) := by decide +kernel
theorem dX10_count_0 : decode cX10_count 0 = .ok (.iload_n 1, 1) := by decide +kernel
theorem dX10_count_1 : decode cX10_count 1 = .ok (.tableswitch 111 0 8 #[51, 58, 65, 72, 79, 84, 91, 99, 104], 51) := by decide +kernel
theorem dX10_count_52 : decode cX10_count 52 = .ok (.aload_n 0, 1) := by decide +kernel
theorem dX10_count_53 : decode cX10_count 53 = .ok (.getfield 9, 3) := by decide +kernel
theorem dX10_count_56 : decode cX10_count 56 = .ok (.iconst 2, 1) := by decide +kernel
theorem dX10_count_57 : decode cX10_count 57 = .ok (.iaload, 1) := by decide +kernel
theorem dX10_count_58 : decode cX10_count 58 = .ok (.ireturn, 1) := by decide +kernel
theorem dX10_count_59 : decode cX10_count 59 = .ok (.aload_n 0, 1) := by decide +kernel
theorem dX10_count_60 : decode cX10_count 60 = .ok (.getfield 9, 3) := by decide +kernel
theorem dX10_count_63 : decode cX10_count 63 = .ok (.iconst 0, 1) := by decide +kernel
theorem dX10_count_64 : decode cX10_count 64 = .ok (.iaload, 1) := by decide +kernel
theorem dX10_count_65 : decode cX10_count 65 = .ok (.ireturn, 1) := by decide +kernel
theorem dX10_count_66 : decode cX10_count 66 = .ok (.aload_n 0, 1) := by decide +kernel
theorem dX10_count_67 : decode cX10_count 67 = .ok (.getfield 9, 3) := by decide +kernel
theorem dX10_count_70 : decode cX10_count 70 = .ok (.iconst 3, 1) := by decide +kernel
theorem dX10_count_71 : decode cX10_count 71 = .ok (.iaload, 1) := by decide +kernel
theorem dX10_count_72 : decode cX10_count 72 = .ok (.ireturn, 1) := by decide +kernel
theorem dX10_count_73 : decode cX10_count 73 = .ok (.aload_n 0, 1) := by decide +kernel
theorem dX10_count_74 : decode cX10_count 74 = .ok (.getfield 9, 3) := by decide +kernel
theorem dX10_count_77 : decode cX10_count 77 = .ok (.iconst 4, 1) := by decide +kernel
theorem dX10_count_78 : decode cX10_count 78 = .ok (.iaload, 1) := by decide +kernel
theorem dX10_count_79 : decode cX10_count 79 = .ok (.ireturn, 1) := by decide +kernel
theorem dX10_count_80 : decode cX10_count 80 = .ok (.aload_n 0, 1) := by decide +kernel
theorem dX10_count_81 : decode cX10_count 81 = .ok (.invokevirtual 188, 3) := by decide +kernel
theorem dX10_count_84 : decode cX10_count 84 = .ok (.ireturn, 1) := by decide +kernel
theorem dX10_count_85 : decode cX10_count 85 = .ok (.aload_n 0, 1) := by decide +kernel
theorem dX10_count_86 : decode cX10_count 86 = .ok (.getfield 9, 3) := by decide +kernel
theorem dX10_count_89 : decode cX10_count 89 = .ok (.iconst 5, 1) := by decide +kernel
theorem dX10_count_90 : decode cX10_count 90 = .ok (.iaload, 1) := by decide +kernel
theorem dX10_count_91 : decode cX10_count 91 = .ok (.ireturn, 1) := by decide +kernel
theorem dX10_count_92 : decode cX10_count 92 = .ok (.aload_n 0, 1) := by decide +kernel
theorem dX10_count_93 : decode cX10_count 93 = .ok (.getfield 9, 3) := by decide +kernel
theorem dX10_count_96 : decode cX10_count 96 = .ok (.bipush 6, 2) := by decide +kernel
theorem dX10_count_98 : decode cX10_count 98 = .ok (.iaload, 1) := by decide +kernel
theorem dX10_count_99 : decode cX10_count 99 = .ok (.ireturn, 1) := by decide +kernel
theorem dX10_count_100 : decode cX10_count 100 = .ok (.aload_n 0, 1) := by decide +kernel
theorem dX10_count_101 : decode cX10_count 101 = .ok (.getfield 219, 3) := by decide +kernel
theorem dX10_count_104 : decode cX10_count 104 = .ok (.ireturn, 1) := by decide +kernel
theorem dX10_count_105 : decode cX10_count 105 = .ok (.aload_n 0, 1) := by decide +kernel
theorem dX10_count_106 : decode cX10_count 106 = .ok (.getfield 9, 3) := by decide +kernel
theorem dX10_count_109 : decode cX10_count 109 = .ok (.iconst 1, 1) := by decide +kernel
theorem dX10_count_110 : decode cX10_count 110 = .ok (.iaload, 1) := by decide +kernel
theorem dX10_count_111 : decode cX10_count 111 = .ok (.ireturn, 1) := by decide +kernel
theorem dX10_count_112 : decode cX10_count 112 = .ok (.aload_n 0, 1) := by decide +kernel
theorem dX10_count_113 : decode cX10_count 113 = .ok (.ldc 90, 2) := by decide +kernel
theorem dX10_count_115 : decode cX10_count 115 = .ok (.invokevirtual 91, 3) := by decide +kernel
theorem dX10_count_118 : decode cX10_count 118 = .ok (.ireturn, 1) := by decide +kernel
theorem dX10_told_0 : decode cX10_told 0 = .ok (.iload_n 1, 1) := by decide +kernel
theorem dX10_told_1 : decode cX10_told 1 = .ok (.iconst 1, 1) := by decide +kernel
theorem dX10_told_2 : decode cX10_told 2 = .ok (.bipush 6, 2) := by decide +kernel
theorem dX10_told_4 : decode cX10_told 4 = .ok (.invokestatic 51, 3) := by decide +kernel
theorem dX10_told_7 : decode cX10_told 7 = .ok (.ifCond .eq 12, 3) := by decide +kernel
theorem dX10_told_10 : decode cX10_told 10 = .ok (.aload_n 0, 1) := by decide +kernel
theorem dX10_told_11 : decode cX10_told 11 = .ok (.getfield 19, 3) := by decide +kernel
theorem dX10_told_14 : decode cX10_told 14 = .ok (.iload_n 1, 1) := by decide +kernel
theorem dX10_told_15 : decode cX10_told 15 = .ok (.iaload, 1) := by decide +kernel
theorem dX10_told_16 : decode cX10_told 16 = .ok (.goto 9, 3) := by decide +kernel
theorem dX10_told_19 : decode cX10_told 19 = .ok (.aload_n 0, 1) := by decide +kernel
theorem dX10_told_20 : decode cX10_told 20 = .ok (.ldc 90, 2) := by decide +kernel
theorem dX10_told_22 : decode cX10_told 22 = .ok (.invokevirtual 91, 3) := by decide +kernel
theorem dX10_told_25 : decode cX10_told 25 = .ok (.ireturn, 1) := by decide +kernel
theorem dJ11_isValidCodePoint_9a6ad_0 : decode cJ11_isValidCodePoint_9a6ad 0 = .ok (.iload_n 0, 1) := by decide +kernel
theorem dJ11_isValidCodePoint_9a6ad_1 : decode cJ11_isValidCodePoint_9a6ad 1 = .ok (.bipush 16, 2) := by decide +kernel
theorem dJ11_isValidCodePoint_9a6ad_3 : decode cJ11_isValidCodePoint_9a6ad 3 = .ok (.iushr, 1) := by decide +kernel
theorem dJ11_isValidCodePoint_9a6ad_4 : decode cJ11_isValidCodePoint_9a6ad 4 = .ok (.istore_n 1, 1) := by decide +kernel
theorem dJ11_isValidCodePoint_9a6ad_5 : decode cJ11_isValidCodePoint_9a6ad 5 = .ok (.iload_n 1, 1) := by decide +kernel
theorem dJ11_isValidCodePoint_9a6ad_6 : decode cJ11_isValidCodePoint_9a6ad 6 = .ok (.bipush 17, 2) := by decide +kernel
theorem dJ11_isValidCodePoint_9a6ad_8 : decode cJ11_isValidCodePoint_9a6ad 8 = .ok (.if_icmp .ge 7, 3) := by decide +kernel
theorem dJ11_isValidCodePoint_9a6ad_11 : decode cJ11_isValidCodePoint_9a6ad 11 = .ok (.iconst 1, 1) := by decide +kernel
theorem dJ11_isValidCodePoint_9a6ad_12 : decode cJ11_isValidCodePoint_9a6ad 12 = .ok (.goto 4, 3) := by decide +kernel
theorem dJ11_isValidCodePoint_9a6ad_15 : decode cJ11_isValidCodePoint_9a6ad 15 = .ok (.iconst 0, 1) := by decide +kernel
theorem dJ11_isValidCodePoint_9a6ad_16 : decode cJ11_isValidCodePoint_9a6ad 16 = .ok (.ireturn, 1) := by decide +kernel
theorem dJ11_highSurrogate_5068e_0 : decode cJ11_highSurrogate_5068e 0 = .ok (.iload_n 0, 1) := by decide +kernel
theorem dJ11_highSurrogate_5068e_1 : decode cJ11_highSurrogate_5068e 1 = .ok (.bipush 10, 2) := by decide +kernel
theorem dJ11_highSurrogate_5068e_3 : decode cJ11_highSurrogate_5068e 3 = .ok (.iushr, 1) := by decide +kernel
theorem dJ11_highSurrogate_5068e_4 : decode cJ11_highSurrogate_5068e 4 = .ok (.ldc 110, 2) := by decide +kernel
theorem dJ11_highSurrogate_5068e_6 : decode cJ11_highSurrogate_5068e 6 = .ok (.iadd, 1) := by decide +kernel
theorem dJ11_highSurrogate_5068e_7 : decode cJ11_highSurrogate_5068e 7 = .ok (.i2c, 1) := by decide +kernel
theorem dJ11_highSurrogate_5068e_8 : decode cJ11_highSurrogate_5068e 8 = .ok (.ireturn, 1) := by decide +kernel
theorem dJ11_lowSurrogate_5068e_0 : decode cJ11_lowSurrogate_5068e 0 = .ok (.iload_n 0, 1) := by decide +kernel
theorem dJ11_lowSurrogate_5068e_1 : decode cJ11_lowSurrogate_5068e 1 = .ok (.sipush 1023, 3) := by decide +kernel
theorem dJ11_lowSurrogate_5068e_4 : decode cJ11_lowSurrogate_5068e 4 = .ok (.iand, 1) := by decide +kernel
theorem dJ11_lowSurrogate_5068e_5 : decode cJ11_lowSurrogate_5068e 5 = .ok (.ldc 76, 2) := by decide +kernel
theorem dJ11_lowSurrogate_5068e_7 : decode cJ11_lowSurrogate_5068e 7 = .ok (.iadd, 1) := by decide +kernel
theorem dJ11_lowSurrogate_5068e_8 : decode cJ11_lowSurrogate_5068e 8 = .ok (.i2c, 1) := by decide +kernel
theorem dJ11_lowSurrogate_5068e_9 : decode cJ11_lowSurrogate_5068e 9 = .ok (.ireturn, 1) := by decide +kernel
theorem dJ6_bitCount_0f7a4_0 : decode cJ6_bitCount_0f7a4 0 = .ok (.iload_n 0, 1) := by decide +kernel
theorem dJ6_bitCount_0f7a4_1 : decode cJ6_bitCount_0f7a4 1 = .ok (.iload_n 0, 1) := by decide +kernel
theorem dJ6_bitCount_0f7a4_2 : decode cJ6_bitCount_0f7a4 2 = .ok (.iconst 1, 1) := by decide +kernel
theorem dJ6_bitCount_0f7a4_3 : decode cJ6_bitCount_0f7a4 3 = .ok (.iushr, 1) := by decide +kernel
theorem dJ6_bitCount_0f7a4_4 : decode cJ6_bitCount_0f7a4 4 = .ok (.ldc_w 265, 3) := by decide +kernel
theorem dJ6_bitCount_0f7a4_7 : decode cJ6_bitCount_0f7a4 7 = .ok (.iand, 1) := by decide +kernel
theorem dJ6_bitCount_0f7a4_8 : decode cJ6_bitCount_0f7a4 8 = .ok (.isub, 1) := by decide +kernel
theorem dJ6_bitCount_0f7a4_9 : decode cJ6_bitCount_0f7a4 9 = .ok (.istore_n 0, 1) := by decide +kernel
theorem dJ6_bitCount_0f7a4_10 : decode cJ6_bitCount_0f7a4 10 = .ok (.iload_n 0, 1) := by decide +kernel
theorem dJ6_bitCount_0f7a4_11 : decode cJ6_bitCount_0f7a4 11 = .ok (.ldc_w 266, 3) := by decide +kernel
theorem dJ6_bitCount_0f7a4_14 : decode cJ6_bitCount_0f7a4 14 = .ok (.iand, 1) := by decide +kernel
theorem dJ6_bitCount_0f7a4_15 : decode cJ6_bitCount_0f7a4 15 = .ok (.iload_n 0, 1) := by decide +kernel
theorem dJ6_bitCount_0f7a4_16 : decode cJ6_bitCount_0f7a4 16 = .ok (.iconst 2, 1) := by decide +kernel
theorem dJ6_bitCount_0f7a4_17 : decode cJ6_bitCount_0f7a4 17 = .ok (.iushr, 1) := by decide +kernel
theorem dJ6_bitCount_0f7a4_18 : decode cJ6_bitCount_0f7a4 18 = .ok (.ldc_w 266, 3) := by decide +kernel
theorem dJ6_bitCount_0f7a4_21 : decode cJ6_bitCount_0f7a4 21 = .ok (.iand, 1) := by decide +kernel
theorem dJ6_bitCount_0f7a4_22 : decode cJ6_bitCount_0f7a4 22 = .ok (.iadd, 1) := by decide +kernel
theorem dJ6_bitCount_0f7a4_23 : decode cJ6_bitCount_0f7a4 23 = .ok (.istore_n 0, 1) := by decide +kernel
theorem dJ6_bitCount_0f7a4_24 : decode cJ6_bitCount_0f7a4 24 = .ok (.iload_n 0, 1) := by decide +kernel
theorem dJ6_bitCount_0f7a4_25 : decode cJ6_bitCount_0f7a4 25 = .ok (.iload_n 0, 1) := by decide +kernel
theorem dJ6_bitCount_0f7a4_26 : decode cJ6_bitCount_0f7a4 26 = .ok (.iconst 4, 1) := by decide +kernel
theorem dJ6_bitCount_0f7a4_27 : decode cJ6_bitCount_0f7a4 27 = .ok (.iushr, 1) := by decide +kernel
theorem dJ6_bitCount_0f7a4_28 : decode cJ6_bitCount_0f7a4 28 = .ok (.iadd, 1) := by decide +kernel
theorem dJ6_bitCount_0f7a4_29 : decode cJ6_bitCount_0f7a4 29 = .ok (.ldc_w 267, 3) := by decide +kernel
theorem dJ6_bitCount_0f7a4_32 : decode cJ6_bitCount_0f7a4 32 = .ok (.iand, 1) := by decide +kernel
theorem dJ6_bitCount_0f7a4_33 : decode cJ6_bitCount_0f7a4 33 = .ok (.istore_n 0, 1) := by decide +kernel
theorem dJ6_bitCount_0f7a4_34 : decode cJ6_bitCount_0f7a4 34 = .ok (.iload_n 0, 1) := by decide +kernel
theorem dJ6_bitCount_0f7a4_35 : decode cJ6_bitCount_0f7a4 35 = .ok (.iload_n 0, 1) := by decide +kernel
theorem dJ6_bitCount_0f7a4_36 : decode cJ6_bitCount_0f7a4 36 = .ok (.bipush 8, 2) := by decide +kernel
theorem dJ6_bitCount_0f7a4_38 : decode cJ6_bitCount_0f7a4 38 = .ok (.iushr, 1) := by decide +kernel
theorem dJ6_bitCount_0f7a4_39 : decode cJ6_bitCount_0f7a4 39 = .ok (.iadd, 1) := by decide +kernel
theorem dJ6_bitCount_0f7a4_40 : decode cJ6_bitCount_0f7a4 40 = .ok (.istore_n 0, 1) := by decide +kernel
theorem dJ6_bitCount_0f7a4_41 : decode cJ6_bitCount_0f7a4 41 = .ok (.iload_n 0, 1) := by decide +kernel
theorem dJ6_bitCount_0f7a4_42 : decode cJ6_bitCount_0f7a4 42 = .ok (.iload_n 0, 1) := by decide +kernel
theorem dJ6_bitCount_0f7a4_43 : decode cJ6_bitCount_0f7a4 43 = .ok (.bipush 16, 2) := by decide +kernel
theorem dJ6_bitCount_0f7a4_45 : decode cJ6_bitCount_0f7a4 45 = .ok (.iushr, 1) := by decide +kernel
theorem dJ6_bitCount_0f7a4_46 : decode cJ6_bitCount_0f7a4 46 = .ok (.iadd, 1) := by decide +kernel
theorem dJ6_bitCount_0f7a4_47 : decode cJ6_bitCount_0f7a4 47 = .ok (.istore_n 0, 1) := by decide +kernel
theorem dJ6_bitCount_0f7a4_48 : decode cJ6_bitCount_0f7a4 48 = .ok (.iload_n 0, 1) := by decide +kernel
theorem dJ6_bitCount_0f7a4_49 : decode cJ6_bitCount_0f7a4 49 = .ok (.bipush 63, 2) := by decide +kernel
theorem dJ6_bitCount_0f7a4_51 : decode cJ6_bitCount_0f7a4 51 = .ok (.iand, 1) := by decide +kernel
theorem dJ6_bitCount_0f7a4_52 : decode cJ6_bitCount_0f7a4 52 = .ok (.ireturn, 1) := by decide +kernel
theorem dJ9_floorMod_7cf53_0 : decode cJ9_floorMod_7cf53 0 = .ok (.iload_n 0, 1) := by decide +kernel
theorem dJ9_floorMod_7cf53_1 : decode cJ9_floorMod_7cf53 1 = .ok (.iload_n 1, 1) := by decide +kernel
theorem dJ9_floorMod_7cf53_2 : decode cJ9_floorMod_7cf53 2 = .ok (.irem, 1) := by decide +kernel
theorem dJ9_floorMod_7cf53_3 : decode cJ9_floorMod_7cf53 3 = .ok (.istore_n 2, 1) := by decide +kernel
theorem dJ9_floorMod_7cf53_4 : decode cJ9_floorMod_7cf53 4 = .ok (.iload_n 0, 1) := by decide +kernel
theorem dJ9_floorMod_7cf53_5 : decode cJ9_floorMod_7cf53 5 = .ok (.iload_n 1, 1) := by decide +kernel
theorem dJ9_floorMod_7cf53_6 : decode cJ9_floorMod_7cf53 6 = .ok (.ixor, 1) := by decide +kernel
theorem dJ9_floorMod_7cf53_7 : decode cJ9_floorMod_7cf53 7 = .ok (.ifCond .ge 11, 3) := by decide +kernel
theorem dJ9_floorMod_7cf53_10 : decode cJ9_floorMod_7cf53 10 = .ok (.iload_n 2, 1) := by decide +kernel
theorem dJ9_floorMod_7cf53_11 : decode cJ9_floorMod_7cf53 11 = .ok (.ifCond .eq 7, 3) := by decide +kernel
theorem dJ9_floorMod_7cf53_14 : decode cJ9_floorMod_7cf53 14 = .ok (.iload_n 2, 1) := by decide +kernel
theorem dJ9_floorMod_7cf53_15 : decode cJ9_floorMod_7cf53 15 = .ok (.iload_n 1, 1) := by decide +kernel
theorem dJ9_floorMod_7cf53_16 : decode cJ9_floorMod_7cf53 16 = .ok (.iadd, 1) := by decide +kernel
theorem dJ9_floorMod_7cf53_17 : decode cJ9_floorMod_7cf53 17 = .ok (.ireturn, 1) := by decide +kernel
theorem dJ9_floorMod_7cf53_18 : decode cJ9_floorMod_7cf53 18 = .ok (.iload_n 2, 1) := by decide +kernel
theorem dJ9_floorMod_7cf53_19 : decode cJ9_floorMod_7cf53 19 = .ok (.ireturn, 1) := by decide +kernel
theorem dJ9_max_7cf53_0 : decode cJ9_max_7cf53 0 = .ok (.iload_n 0, 1) := by decide +kernel
theorem dJ9_max_7cf53_1 : decode cJ9_max_7cf53 1 = .ok (.iload_n 1, 1) := by decide +kernel
theorem dJ9_max_7cf53_2 : decode cJ9_max_7cf53 2 = .ok (.if_icmp .lt 7, 3) := by decide +kernel
theorem dJ9_max_7cf53_5 : decode cJ9_max_7cf53 5 = .ok (.iload_n 0, 1) := by decide +kernel
theorem dJ9_max_7cf53_6 : decode cJ9_max_7cf53 6 = .ok (.goto 4, 3) := by decide +kernel
theorem dJ9_max_7cf53_9 : decode cJ9_max_7cf53 9 = .ok (.iload_n 1, 1) := by decide +kernel
theorem dJ9_max_7cf53_10 : decode cJ9_max_7cf53 10 = .ok (.ireturn, 1) := by decide +kernel
theorem dJ9_min_7cf53_0 : decode cJ9_min_7cf53 0 = .ok (.iload_n 0, 1) := by decide +kernel
theorem dJ9_min_7cf53_1 : decode cJ9_min_7cf53 1 = .ok (.iload_n 1, 1) := by decide +kernel
theorem dJ9_min_7cf53_2 : decode cJ9_min_7cf53 2 = .ok (.if_icmp .gt 7, 3) := by decide +kernel
theorem dJ9_min_7cf53_5 : decode cJ9_min_7cf53 5 = .ok (.iload_n 0, 1) := by decide +kernel
theorem dJ9_min_7cf53_6 : decode cJ9_min_7cf53 6 = .ok (.goto 4, 3) := by decide +kernel
theorem dJ9_min_7cf53_9 : decode cJ9_min_7cf53 9 = .ok (.iload_n 1, 1) := by decide +kernel
theorem dJ9_min_7cf53_10 : decode cJ9_min_7cf53 10 = .ok (.ireturn, 1) := by decide +kernel
theorem dJ0_length_8abf5_0 : decode cJ0_length_8abf5 0 = .ok (.aload_n 0, 1) := by decide +kernel
theorem dJ0_length_8abf5_1 : decode cJ0_length_8abf5 1 = .ok (.getfield 9, 3) := by decide +kernel
theorem dJ0_length_8abf5_4 : decode cJ0_length_8abf5 4 = .ok (.arraylength, 1) := by decide +kernel
theorem dJ0_length_8abf5_5 : decode cJ0_length_8abf5 5 = .ok (.aload_n 0, 1) := by decide +kernel
theorem dJ0_length_8abf5_6 : decode cJ0_length_8abf5 6 = .ok (.invokevirtual 335, 3) := by decide +kernel
theorem dJ0_length_8abf5_9 : decode cJ0_length_8abf5 9 = .ok (.ishr, 1) := by decide +kernel
theorem dJ0_length_8abf5_10 : decode cJ0_length_8abf5 10 = .ok (.ireturn, 1) := by decide +kernel
theorem dJ0_indexOf_0f7a4_0 : decode cJ0_indexOf_0f7a4 0 = .ok (.aload_n 0, 1) := by decide +kernel
theorem dJ0_indexOf_0f7a4_1 : decode cJ0_indexOf_0f7a4 1 = .ok (.iload_n 1, 1) := by decide +kernel
theorem dJ0_indexOf_0f7a4_2 : decode cJ0_indexOf_0f7a4 2 = .ok (.iconst 0, 1) := by decide +kernel
theorem dJ0_indexOf_0f7a4_3 : decode cJ0_indexOf_0f7a4 3 = .ok (.invokevirtual 633, 3) := by decide +kernel
theorem dJ0_indexOf_0f7a4_6 : decode cJ0_indexOf_0f7a4 6 = .ok (.ireturn, 1) := by decide +kernel
theorem dJ0_indexOf_7cf53_0 : decode cJ0_indexOf_7cf53 0 = .ok (.aload_n 0, 1) := by decide +kernel
theorem dJ0_indexOf_7cf53_1 : decode cJ0_indexOf_7cf53 1 = .ok (.invokevirtual 492, 3) := by decide +kernel
theorem dJ0_indexOf_7cf53_4 : decode cJ0_indexOf_7cf53 4 = .ok (.ifCond .eq 19, 3) := by decide +kernel
theorem dJ0_indexOf_7cf53_7 : decode cJ0_indexOf_7cf53 7 = .ok (.aload_n 0, 1) := by decide +kernel
theorem dJ0_indexOf_7cf53_8 : decode cJ0_indexOf_7cf53 8 = .ok (.getfield 9, 3) := by decide +kernel
theorem dJ0_indexOf_7cf53_11 : decode cJ0_indexOf_7cf53 11 = .ok (.iload_n 1, 1) := by decide +kernel
theorem dJ0_indexOf_7cf53_12 : decode cJ0_indexOf_7cf53 12 = .ok (.iload_n 2, 1) := by decide +kernel
theorem dJ0_indexOf_7cf53_13 : decode cJ0_indexOf_7cf53 13 = .ok (.aload_n 0, 1) := by decide +kernel
theorem dJ0_indexOf_7cf53_14 : decode cJ0_indexOf_7cf53 14 = .ok (.invokevirtual 505, 3) := by decide +kernel
theorem dJ0_indexOf_7cf53_17 : decode cJ0_indexOf_7cf53 17 = .ok (.invokestatic 637, 3) := by decide +kernel
theorem dJ0_indexOf_7cf53_20 : decode cJ0_indexOf_7cf53 20 = .ok (.goto 16, 3) := by decide +kernel
theorem dJ0_indexOf_7cf53_23 : decode cJ0_indexOf_7cf53 23 = .ok (.aload_n 0, 1) := by decide +kernel
theorem dJ0_indexOf_7cf53_24 : decode cJ0_indexOf_7cf53 24 = .ok (.getfield 9, 3) := by decide +kernel
theorem dJ0_indexOf_7cf53_27 : decode cJ0_indexOf_7cf53 27 = .ok (.iload_n 1, 1) := by decide +kernel
theorem dJ0_indexOf_7cf53_28 : decode cJ0_indexOf_7cf53 28 = .ok (.iload_n 2, 1) := by decide +kernel
theorem dJ0_indexOf_7cf53_29 : decode cJ0_indexOf_7cf53 29 = .ok (.aload_n 0, 1) := by decide +kernel
theorem dJ0_indexOf_7cf53_30 : decode cJ0_indexOf_7cf53 30 = .ok (.invokevirtual 505, 3) := by decide +kernel
theorem dJ0_indexOf_7cf53_33 : decode cJ0_indexOf_7cf53 33 = .ok (.invokestatic 640, 3) := by decide +kernel
theorem dJ0_indexOf_7cf53_36 : decode cJ0_indexOf_7cf53 36 = .ok (.ireturn, 1) := by decide +kernel
theorem dJ0_coder_7d493_0 : decode cJ0_coder_7d493 0 = .ok (.getstatic 38, 3) := by decide +kernel
theorem dJ0_coder_7d493_3 : decode cJ0_coder_7d493 3 = .ok (.ifCond .eq 10, 3) := by decide +kernel
theorem dJ0_coder_7d493_6 : decode cJ0_coder_7d493 6 = .ok (.aload_n 0, 1) := by decide +kernel
theorem dJ0_coder_7d493_7 : decode cJ0_coder_7d493 7 = .ok (.getfield 15, 3) := by decide +kernel
theorem dJ0_coder_7d493_10 : decode cJ0_coder_7d493 10 = .ok (.goto 4, 3) := by decide +kernel
theorem dJ0_coder_7d493_13 : decode cJ0_coder_7d493 13 = .ok (.iconst 1, 1) := by decide +kernel
theorem dJ0_coder_7d493_14 : decode cJ0_coder_7d493 14 = .ok (.ireturn, 1) := by decide +kernel
theorem dJ0_isLatin1_aae02_0 : decode cJ0_isLatin1_aae02 0 = .ok (.getstatic 38, 3) := by decide +kernel
theorem dJ0_isLatin1_aae02_3 : decode cJ0_isLatin1_aae02 3 = .ok (.ifCond .eq 14, 3) := by decide +kernel
theorem dJ0_isLatin1_aae02_6 : decode cJ0_isLatin1_aae02 6 = .ok (.aload_n 0, 1) := by decide +kernel
theorem dJ0_isLatin1_aae02_7 : decode cJ0_isLatin1_aae02 7 = .ok (.getfield 15, 3) := by decide +kernel
theorem dJ0_isLatin1_aae02_10 : decode cJ0_isLatin1_aae02 10 = .ok (.ifCond .ne 7, 3) := by decide +kernel
theorem dJ0_isLatin1_aae02_13 : decode cJ0_isLatin1_aae02 13 = .ok (.iconst 1, 1) := by decide +kernel
theorem dJ0_isLatin1_aae02_14 : decode cJ0_isLatin1_aae02 14 = .ok (.goto 4, 3) := by decide +kernel
theorem dJ0_isLatin1_aae02_17 : decode cJ0_isLatin1_aae02 17 = .ok (.iconst 0, 1) := by decide +kernel
theorem dJ0_isLatin1_aae02_18 : decode cJ0_isLatin1_aae02 18 = .ok (.ireturn, 1) := by decide +kernel
theorem dJ0_checkBoundsBeginEnd_23922_0 : decode cJ0_checkBoundsBeginEnd_23922 0 = .ok (.iload_n 0, 1) := by decide +kernel
theorem dJ0_checkBoundsBeginEnd_23922_1 : decode cJ0_checkBoundsBeginEnd_23922 1 = .ok (.iload_n 1, 1) := by decide +kernel
theorem dJ0_checkBoundsBeginEnd_23922_2 : decode cJ0_checkBoundsBeginEnd_23922 2 = .ok (.iload_n 2, 1) := by decide +kernel
theorem dJ0_checkBoundsBeginEnd_23922_3 : decode cJ0_checkBoundsBeginEnd_23922 3 = .ok (.getstatic 1053, 3) := by decide +kernel
theorem dJ0_checkBoundsBeginEnd_23922_6 : decode cJ0_checkBoundsBeginEnd_23922 6 = .ok (.invokestatic 1062, 3) := by decide +kernel
theorem dJ0_checkBoundsBeginEnd_23922_9 : decode cJ0_checkBoundsBeginEnd_23922 9 = .ok (.pop, 1) := by decide +kernel
theorem dJ0_checkBoundsBeginEnd_23922_10 : decode cJ0_checkBoundsBeginEnd_23922 10 = .ok (.return_, 1) := by decide +kernel
theorem dJ1_canEncode_9a6ad_0 : decode cJ1_canEncode_9a6ad 0 = .ok (.iload_n 0, 1) := by decide +kernel
theorem dJ1_canEncode_9a6ad_1 : decode cJ1_canEncode_9a6ad 1 = .ok (.ifCond .lt 14, 3) := by decide +kernel
theorem dJ1_canEncode_9a6ad_4 : decode cJ1_canEncode_9a6ad 4 = .ok (.iload_n 0, 1) := by decide +kernel
theorem dJ1_canEncode_9a6ad_5 : decode cJ1_canEncode_9a6ad 5 = .ok (.sipush 255, 3) := by decide +kernel
theorem dJ1_canEncode_9a6ad_8 : decode cJ1_canEncode_9a6ad 8 = .ok (.if_icmp .gt 7, 3) := by decide +kernel
theorem dJ1_canEncode_9a6ad_11 : decode cJ1_canEncode_9a6ad 11 = .ok (.iconst 1, 1) := by decide +kernel
theorem dJ1_canEncode_9a6ad_12 : decode cJ1_canEncode_9a6ad 12 = .ok (.goto 4, 3) := by decide +kernel
theorem dJ1_canEncode_9a6ad_15 : decode cJ1_canEncode_9a6ad 15 = .ok (.iconst 0, 1) := by decide +kernel
theorem dJ1_canEncode_9a6ad_16 : decode cJ1_canEncode_9a6ad 16 = .ok (.ireturn, 1) := by decide +kernel
theorem dJ1_indexOf_4cfef_0 : decode cJ1_indexOf_4cfef 0 = .ok (.iload_n 1, 1) := by decide +kernel
theorem dJ1_indexOf_4cfef_1 : decode cJ1_indexOf_4cfef 1 = .ok (.invokestatic 88, 3) := by decide +kernel
theorem dJ1_indexOf_4cfef_4 : decode cJ1_indexOf_4cfef 4 = .ok (.ifCond .ne 5, 3) := by decide +kernel
theorem dJ1_indexOf_4cfef_7 : decode cJ1_indexOf_4cfef 7 = .ok (.iconst (-1), 1) := by decide +kernel
theorem dJ1_indexOf_4cfef_8 : decode cJ1_indexOf_4cfef 8 = .ok (.ireturn, 1) := by decide +kernel
theorem dJ1_indexOf_4cfef_9 : decode cJ1_indexOf_4cfef 9 = .ok (.iload_n 2, 1) := by decide +kernel
theorem dJ1_indexOf_4cfef_10 : decode cJ1_indexOf_4cfef 10 = .ok (.iconst 0, 1) := by decide +kernel
theorem dJ1_indexOf_4cfef_11 : decode cJ1_indexOf_4cfef 11 = .ok (.invokestatic 92, 3) := by decide +kernel
theorem dJ1_indexOf_4cfef_14 : decode cJ1_indexOf_4cfef 14 = .ok (.istore_n 2, 1) := by decide +kernel
theorem dJ1_indexOf_4cfef_15 : decode cJ1_indexOf_4cfef 15 = .ok (.iload_n 3, 1) := by decide +kernel
theorem dJ1_indexOf_4cfef_16 : decode cJ1_indexOf_4cfef 16 = .ok (.aload_n 0, 1) := by decide +kernel
theorem dJ1_indexOf_4cfef_17 : decode cJ1_indexOf_4cfef 17 = .ok (.arraylength, 1) := by decide +kernel
theorem dJ1_indexOf_4cfef_18 : decode cJ1_indexOf_4cfef 18 = .ok (.invokestatic 38, 3) := by decide +kernel
theorem dJ1_indexOf_4cfef_21 : decode cJ1_indexOf_4cfef 21 = .ok (.istore_n 3, 1) := by decide +kernel
theorem dJ1_indexOf_4cfef_22 : decode cJ1_indexOf_4cfef 22 = .ok (.iload_n 2, 1) := by decide +kernel
theorem dJ1_indexOf_4cfef_23 : decode cJ1_indexOf_4cfef 23 = .ok (.iload_n 3, 1) := by decide +kernel
theorem dJ1_indexOf_4cfef_24 : decode cJ1_indexOf_4cfef 24 = .ok (.if_icmp .lt 5, 3) := by decide +kernel
theorem dJ1_indexOf_4cfef_27 : decode cJ1_indexOf_4cfef 27 = .ok (.iconst (-1), 1) := by decide +kernel
theorem dJ1_indexOf_4cfef_28 : decode cJ1_indexOf_4cfef 28 = .ok (.ireturn, 1) := by decide +kernel
theorem dJ1_indexOf_4cfef_29 : decode cJ1_indexOf_4cfef 29 = .ok (.aload_n 0, 1) := by decide +kernel
theorem dJ1_indexOf_4cfef_30 : decode cJ1_indexOf_4cfef 30 = .ok (.iload_n 1, 1) := by decide +kernel
theorem dJ1_indexOf_4cfef_31 : decode cJ1_indexOf_4cfef 31 = .ok (.iload_n 2, 1) := by decide +kernel
theorem dJ1_indexOf_4cfef_32 : decode cJ1_indexOf_4cfef 32 = .ok (.iload_n 3, 1) := by decide +kernel
theorem dJ1_indexOf_4cfef_33 : decode cJ1_indexOf_4cfef 33 = .ok (.invokestatic 95, 3) := by decide +kernel
theorem dJ1_indexOf_4cfef_36 : decode cJ1_indexOf_4cfef 36 = .ok (.ireturn, 1) := by decide +kernel
theorem dJ1_indexOfChar_4cfef_0 : decode cJ1_indexOfChar_4cfef 0 = .ok (.iload_n 1, 1) := by decide +kernel
theorem dJ1_indexOfChar_4cfef_1 : decode cJ1_indexOfChar_4cfef 1 = .ok (.i2b, 1) := by decide +kernel
theorem dJ1_indexOfChar_4cfef_2 : decode cJ1_indexOfChar_4cfef 2 = .ok (.istore 4, 2) := by decide +kernel
theorem dJ1_indexOfChar_4cfef_4 : decode cJ1_indexOfChar_4cfef 4 = .ok (.iload_n 2, 1) := by decide +kernel
theorem dJ1_indexOfChar_4cfef_5 : decode cJ1_indexOfChar_4cfef 5 = .ok (.istore 5, 2) := by decide +kernel
theorem dJ1_indexOfChar_4cfef_7 : decode cJ1_indexOfChar_4cfef 7 = .ok (.iload 5, 2) := by decide +kernel
theorem dJ1_indexOfChar_4cfef_9 : decode cJ1_indexOfChar_4cfef 9 = .ok (.iload_n 3, 1) := by decide +kernel
theorem dJ1_indexOfChar_4cfef_10 : decode cJ1_indexOfChar_4cfef 10 = .ok (.if_icmp .ge 21, 3) := by decide +kernel
theorem dJ1_indexOfChar_4cfef_13 : decode cJ1_indexOfChar_4cfef 13 = .ok (.aload_n 0, 1) := by decide +kernel
theorem dJ1_indexOfChar_4cfef_14 : decode cJ1_indexOfChar_4cfef 14 = .ok (.iload 5, 2) := by decide +kernel
theorem dJ1_indexOfChar_4cfef_16 : decode cJ1_indexOfChar_4cfef 16 = .ok (.baload, 1) := by decide +kernel
theorem dJ1_indexOfChar_4cfef_17 : decode cJ1_indexOfChar_4cfef 17 = .ok (.iload 4, 2) := by decide +kernel
theorem dJ1_indexOfChar_4cfef_19 : decode cJ1_indexOfChar_4cfef 19 = .ok (.if_icmp .ne 6, 3) := by decide +kernel
theorem dJ1_indexOfChar_4cfef_22 : decode cJ1_indexOfChar_4cfef 22 = .ok (.iload 5, 2) := by decide +kernel
theorem dJ1_indexOfChar_4cfef_24 : decode cJ1_indexOfChar_4cfef 24 = .ok (.ireturn, 1) := by decide +kernel
theorem dJ1_indexOfChar_4cfef_25 : decode cJ1_indexOfChar_4cfef 25 = .ok (.iinc 5 1, 3) := by decide +kernel
theorem dJ1_indexOfChar_4cfef_28 : decode cJ1_indexOfChar_4cfef 28 = .ok (.goto (-21), 3) := by decide +kernel
theorem dJ1_indexOfChar_4cfef_31 : decode cJ1_indexOfChar_4cfef 31 = .ok (.iconst (-1), 1) := by decide +kernel
theorem dJ1_indexOfChar_4cfef_32 : decode cJ1_indexOfChar_4cfef 32 = .ok (.ireturn, 1) := by decide +kernel
theorem dJ2_getChar_3b067_0 : decode cJ2_getChar_3b067 0 = .ok (.getstatic 44, 3) := by decide +kernel
theorem dJ2_getChar_3b067_3 : decode cJ2_getChar_3b067 3 = .ok (.ifCond .ne 25, 3) := by decide +kernel
theorem dJ2_getChar_3b067_6 : decode cJ2_getChar_3b067 6 = .ok (.iload_n 1, 1) := by decide +kernel
theorem dJ2_getChar_3b067_7 : decode cJ2_getChar_3b067 7 = .ok (.ifCond .lt 11, 3) := by decide +kernel
theorem dJ2_getChar_3b067_10 : decode cJ2_getChar_3b067 10 = .ok (.iload_n 1, 1) := by decide +kernel
theorem dJ2_getChar_3b067_11 : decode cJ2_getChar_3b067 11 = .ok (.aload_n 0, 1) := by decide +kernel
theorem dJ2_getChar_3b067_12 : decode cJ2_getChar_3b067 12 = .ok (.invokestatic 48, 3) := by decide +kernel
theorem dJ2_getChar_3b067_15 : decode cJ2_getChar_3b067 15 = .ok (.if_icmp .lt 13, 3) := by decide +kernel
theorem dJ2_getChar_3b067_18 : decode cJ2_getChar_3b067 18 = .ok (.new 52, 3) := by decide +kernel
theorem dJ2_getChar_3b067_21 : decode cJ2_getChar_3b067 21 = .ok (.dup, 1) := by decide +kernel
theorem dJ2_getChar_3b067_22 : decode cJ2_getChar_3b067 22 = .ok (.ldc 54, 2) := by decide +kernel
theorem dJ2_getChar_3b067_24 : decode cJ2_getChar_3b067 24 = .ok (.invokespecial 56, 3) := by decide +kernel
theorem dJ2_getChar_3b067_27 : decode cJ2_getChar_3b067 27 = .ok (.athrow, 1) := by decide +kernel
theorem dJ2_getChar_3b067_28 : decode cJ2_getChar_3b067 28 = .ok (.iload_n 1, 1) := by decide +kernel
theorem dJ2_getChar_3b067_29 : decode cJ2_getChar_3b067 29 = .ok (.iconst 1, 1) := by decide +kernel
theorem dJ2_getChar_3b067_30 : decode cJ2_getChar_3b067 30 = .ok (.ishl, 1) := by decide +kernel
theorem dJ2_getChar_3b067_31 : decode cJ2_getChar_3b067 31 = .ok (.istore_n 1, 1) := by decide +kernel
theorem dJ2_getChar_3b067_32 : decode cJ2_getChar_3b067 32 = .ok (.aload_n 0, 1) := by decide +kernel
theorem dJ2_getChar_3b067_33 : decode cJ2_getChar_3b067 33 = .ok (.iload_n 1, 1) := by decide +kernel
theorem dJ2_getChar_3b067_34 : decode cJ2_getChar_3b067 34 = .ok (.iinc 1 1, 3) := by decide +kernel
theorem dJ2_getChar_3b067_37 : decode cJ2_getChar_3b067 37 = .ok (.baload, 1) := by decide +kernel
theorem dJ2_getChar_3b067_38 : decode cJ2_getChar_3b067 38 = .ok (.sipush 255, 3) := by decide +kernel
theorem dJ2_getChar_3b067_41 : decode cJ2_getChar_3b067 41 = .ok (.iand, 1) := by decide +kernel
theorem dJ2_getChar_3b067_42 : decode cJ2_getChar_3b067 42 = .ok (.getstatic 59, 3) := by decide +kernel
theorem dJ2_getChar_3b067_45 : decode cJ2_getChar_3b067 45 = .ok (.ishl, 1) := by decide +kernel
theorem dJ2_getChar_3b067_46 : decode cJ2_getChar_3b067 46 = .ok (.aload_n 0, 1) := by decide +kernel
theorem dJ2_getChar_3b067_47 : decode cJ2_getChar_3b067 47 = .ok (.iload_n 1, 1) := by decide +kernel
theorem dJ2_getChar_3b067_48 : decode cJ2_getChar_3b067 48 = .ok (.baload, 1) := by decide +kernel
theorem dJ2_getChar_3b067_49 : decode cJ2_getChar_3b067 49 = .ok (.sipush 255, 3) := by decide +kernel
theorem dJ2_getChar_3b067_52 : decode cJ2_getChar_3b067 52 = .ok (.iand, 1) := by decide +kernel
theorem dJ2_getChar_3b067_53 : decode cJ2_getChar_3b067 53 = .ok (.getstatic 63, 3) := by decide +kernel
theorem dJ2_getChar_3b067_56 : decode cJ2_getChar_3b067 56 = .ok (.ishl, 1) := by decide +kernel
theorem dJ2_getChar_3b067_57 : decode cJ2_getChar_3b067 57 = .ok (.ior, 1) := by decide +kernel
theorem dJ2_getChar_3b067_58 : decode cJ2_getChar_3b067 58 = .ok (.i2c, 1) := by decide +kernel
theorem dJ2_getChar_3b067_59 : decode cJ2_getChar_3b067 59 = .ok (.ireturn, 1) := by decide +kernel
theorem dJ2_length_9d52b_0 : decode cJ2_length_9d52b 0 = .ok (.aload_n 0, 1) := by decide +kernel
theorem dJ2_length_9d52b_1 : decode cJ2_length_9d52b 1 = .ok (.arraylength, 1) := by decide +kernel
theorem dJ2_length_9d52b_2 : decode cJ2_length_9d52b 2 = .ok (.iconst 1, 1) := by decide +kernel
theorem dJ2_length_9d52b_3 : decode cJ2_length_9d52b 3 = .ok (.ishr, 1) := by decide +kernel
theorem dJ2_length_9d52b_4 : decode cJ2_length_9d52b 4 = .ok (.ireturn, 1) := by decide +kernel
theorem dJ2_indexOf_4cfef_0 : decode cJ2_indexOf_4cfef 0 = .ok (.iload_n 2, 1) := by decide +kernel
theorem dJ2_indexOf_4cfef_1 : decode cJ2_indexOf_4cfef 1 = .ok (.iconst 0, 1) := by decide +kernel
theorem dJ2_indexOf_4cfef_2 : decode cJ2_indexOf_4cfef 2 = .ok (.invokestatic 224, 3) := by decide +kernel
theorem dJ2_indexOf_4cfef_5 : decode cJ2_indexOf_4cfef 5 = .ok (.istore_n 2, 1) := by decide +kernel
theorem dJ2_indexOf_4cfef_6 : decode cJ2_indexOf_4cfef 6 = .ok (.iload_n 3, 1) := by decide +kernel
theorem dJ2_indexOf_4cfef_7 : decode cJ2_indexOf_4cfef 7 = .ok (.aload_n 0, 1) := by decide +kernel
theorem dJ2_indexOf_4cfef_8 : decode cJ2_indexOf_4cfef 8 = .ok (.arraylength, 1) := by decide +kernel
theorem dJ2_indexOf_4cfef_9 : decode cJ2_indexOf_4cfef 9 = .ok (.iconst 1, 1) := by decide +kernel
theorem dJ2_indexOf_4cfef_10 : decode cJ2_indexOf_4cfef 10 = .ok (.ishr, 1) := by decide +kernel
theorem dJ2_indexOf_4cfef_11 : decode cJ2_indexOf_4cfef 11 = .ok (.invokestatic 183, 3) := by decide +kernel
theorem dJ2_indexOf_4cfef_14 : decode cJ2_indexOf_4cfef 14 = .ok (.istore_n 3, 1) := by decide +kernel
theorem dJ2_indexOf_4cfef_15 : decode cJ2_indexOf_4cfef 15 = .ok (.iload_n 2, 1) := by decide +kernel
theorem dJ2_indexOf_4cfef_16 : decode cJ2_indexOf_4cfef 16 = .ok (.iload_n 3, 1) := by decide +kernel
theorem dJ2_indexOf_4cfef_17 : decode cJ2_indexOf_4cfef 17 = .ok (.if_icmp .lt 5, 3) := by decide +kernel
theorem dJ2_indexOf_4cfef_20 : decode cJ2_indexOf_4cfef 20 = .ok (.iconst (-1), 1) := by decide +kernel
theorem dJ2_indexOf_4cfef_21 : decode cJ2_indexOf_4cfef 21 = .ok (.ireturn, 1) := by decide +kernel
theorem dJ2_indexOf_4cfef_22 : decode cJ2_indexOf_4cfef 22 = .ok (.iload_n 1, 1) := by decide +kernel
theorem dJ2_indexOf_4cfef_23 : decode cJ2_indexOf_4cfef 23 = .ok (.ldc 227, 2) := by decide +kernel
theorem dJ2_indexOf_4cfef_25 : decode cJ2_indexOf_4cfef 25 = .ok (.if_icmp .ge 11, 3) := by decide +kernel
theorem dJ2_indexOf_4cfef_28 : decode cJ2_indexOf_4cfef 28 = .ok (.aload_n 0, 1) := by decide +kernel
theorem dJ2_indexOf_4cfef_29 : decode cJ2_indexOf_4cfef 29 = .ok (.iload_n 1, 1) := by decide +kernel
theorem dJ2_indexOf_4cfef_30 : decode cJ2_indexOf_4cfef 30 = .ok (.iload_n 2, 1) := by decide +kernel
theorem dJ2_indexOf_4cfef_31 : decode cJ2_indexOf_4cfef 31 = .ok (.iload_n 3, 1) := by decide +kernel
theorem dJ2_indexOf_4cfef_32 : decode cJ2_indexOf_4cfef 32 = .ok (.invokestatic 228, 3) := by decide +kernel
theorem dJ2_indexOf_4cfef_35 : decode cJ2_indexOf_4cfef 35 = .ok (.ireturn, 1) := by decide +kernel
theorem dJ2_indexOf_4cfef_36 : decode cJ2_indexOf_4cfef 36 = .ok (.aload_n 0, 1) := by decide +kernel
theorem dJ2_indexOf_4cfef_37 : decode cJ2_indexOf_4cfef 37 = .ok (.iload_n 1, 1) := by decide +kernel
theorem dJ2_indexOf_4cfef_38 : decode cJ2_indexOf_4cfef 38 = .ok (.iload_n 2, 1) := by decide +kernel
theorem dJ2_indexOf_4cfef_39 : decode cJ2_indexOf_4cfef 39 = .ok (.iload_n 3, 1) := by decide +kernel
theorem dJ2_indexOf_4cfef_40 : decode cJ2_indexOf_4cfef 40 = .ok (.invokestatic 232, 3) := by decide +kernel
theorem dJ2_indexOf_4cfef_43 : decode cJ2_indexOf_4cfef 43 = .ok (.ireturn, 1) := by decide +kernel
theorem dJ2_indexOfChar_4cfef_0 : decode cJ2_indexOfChar_4cfef 0 = .ok (.iload_n 2, 1) := by decide +kernel
theorem dJ2_indexOfChar_4cfef_1 : decode cJ2_indexOfChar_4cfef 1 = .ok (.iload_n 3, 1) := by decide +kernel
theorem dJ2_indexOfChar_4cfef_2 : decode cJ2_indexOfChar_4cfef 2 = .ok (.aload_n 0, 1) := by decide +kernel
theorem dJ2_indexOfChar_4cfef_3 : decode cJ2_indexOfChar_4cfef 3 = .ok (.invokestatic 96, 3) := by decide +kernel
theorem dJ2_indexOfChar_4cfef_6 : decode cJ2_indexOfChar_4cfef 6 = .ok (.aload_n 0, 1) := by decide +kernel
theorem dJ2_indexOfChar_4cfef_7 : decode cJ2_indexOfChar_4cfef 7 = .ok (.iload_n 1, 1) := by decide +kernel
theorem dJ2_indexOfChar_4cfef_8 : decode cJ2_indexOfChar_4cfef 8 = .ok (.iload_n 2, 1) := by decide +kernel
theorem dJ2_indexOfChar_4cfef_9 : decode cJ2_indexOfChar_4cfef 9 = .ok (.iload_n 3, 1) := by decide +kernel
theorem dJ2_indexOfChar_4cfef_10 : decode cJ2_indexOfChar_4cfef 10 = .ok (.invokestatic 244, 3) := by decide +kernel
theorem dJ2_indexOfChar_4cfef_13 : decode cJ2_indexOfChar_4cfef 13 = .ok (.ireturn, 1) := by decide +kernel
theorem dJ2_indexOfCharUnsafe_4cfef_0 : decode cJ2_indexOfCharUnsafe_4cfef 0 = .ok (.iload_n 2, 1) := by decide +kernel
theorem dJ2_indexOfCharUnsafe_4cfef_1 : decode cJ2_indexOfCharUnsafe_4cfef 1 = .ok (.istore 4, 2) := by decide +kernel
theorem dJ2_indexOfCharUnsafe_4cfef_3 : decode cJ2_indexOfCharUnsafe_4cfef 3 = .ok (.iload 4, 2) := by decide +kernel
theorem dJ2_indexOfCharUnsafe_4cfef_5 : decode cJ2_indexOfCharUnsafe_4cfef 5 = .ok (.iload_n 3, 1) := by decide +kernel
theorem dJ2_indexOfCharUnsafe_4cfef_6 : decode cJ2_indexOfCharUnsafe_4cfef 6 = .ok (.if_icmp .ge 22, 3) := by decide +kernel
theorem dJ2_indexOfCharUnsafe_4cfef_9 : decode cJ2_indexOfCharUnsafe_4cfef 9 = .ok (.aload_n 0, 1) := by decide +kernel
theorem dJ2_indexOfCharUnsafe_4cfef_10 : decode cJ2_indexOfCharUnsafe_4cfef 10 = .ok (.iload 4, 2) := by decide +kernel
theorem dJ2_indexOfCharUnsafe_4cfef_12 : decode cJ2_indexOfCharUnsafe_4cfef 12 = .ok (.invokestatic 71, 3) := by decide +kernel
theorem dJ2_indexOfCharUnsafe_4cfef_15 : decode cJ2_indexOfCharUnsafe_4cfef 15 = .ok (.iload_n 1, 1) := by decide +kernel
theorem dJ2_indexOfCharUnsafe_4cfef_16 : decode cJ2_indexOfCharUnsafe_4cfef 16 = .ok (.if_icmp .ne 6, 3) := by decide +kernel
theorem dJ2_indexOfCharUnsafe_4cfef_19 : decode cJ2_indexOfCharUnsafe_4cfef 19 = .ok (.iload 4, 2) := by decide +kernel
theorem dJ2_indexOfCharUnsafe_4cfef_21 : decode cJ2_indexOfCharUnsafe_4cfef 21 = .ok (.ireturn, 1) := by decide +kernel
theorem dJ2_indexOfCharUnsafe_4cfef_22 : decode cJ2_indexOfCharUnsafe_4cfef 22 = .ok (.iinc 4 1, 3) := by decide +kernel
theorem dJ2_indexOfCharUnsafe_4cfef_25 : decode cJ2_indexOfCharUnsafe_4cfef 25 = .ok (.goto (-22), 3) := by decide +kernel
theorem dJ2_indexOfCharUnsafe_4cfef_28 : decode cJ2_indexOfCharUnsafe_4cfef 28 = .ok (.iconst (-1), 1) := by decide +kernel
theorem dJ2_indexOfCharUnsafe_4cfef_29 : decode cJ2_indexOfCharUnsafe_4cfef 29 = .ok (.ireturn, 1) := by decide +kernel
theorem dJ2_indexOfSupplementary_4cfef_0 : decode cJ2_indexOfSupplementary_4cfef 0 = .ok (.iload_n 1, 1) := by decide +kernel
theorem dJ2_indexOfSupplementary_4cfef_1 : decode cJ2_indexOfSupplementary_4cfef 1 = .ok (.invokestatic 164, 3) := by decide +kernel
theorem dJ2_indexOfSupplementary_4cfef_4 : decode cJ2_indexOfSupplementary_4cfef 4 = .ok (.ifCond .eq 65, 3) := by decide +kernel
theorem dJ2_indexOfSupplementary_4cfef_7 : decode cJ2_indexOfSupplementary_4cfef 7 = .ok (.iload_n 1, 1) := by decide +kernel
theorem dJ2_indexOfSupplementary_4cfef_8 : decode cJ2_indexOfSupplementary_4cfef 8 = .ok (.invokestatic 157, 3) := by decide +kernel
theorem dJ2_indexOfSupplementary_4cfef_11 : decode cJ2_indexOfSupplementary_4cfef 11 = .ok (.istore 4, 2) := by decide +kernel
theorem dJ2_indexOfSupplementary_4cfef_13 : decode cJ2_indexOfSupplementary_4cfef 13 = .ok (.iload_n 1, 1) := by decide +kernel
theorem dJ2_indexOfSupplementary_4cfef_14 : decode cJ2_indexOfSupplementary_4cfef 14 = .ok (.invokestatic 161, 3) := by decide +kernel
theorem dJ2_indexOfSupplementary_4cfef_17 : decode cJ2_indexOfSupplementary_4cfef 17 = .ok (.istore 5, 2) := by decide +kernel
theorem dJ2_indexOfSupplementary_4cfef_19 : decode cJ2_indexOfSupplementary_4cfef 19 = .ok (.iload_n 2, 1) := by decide +kernel
theorem dJ2_indexOfSupplementary_4cfef_20 : decode cJ2_indexOfSupplementary_4cfef 20 = .ok (.iload_n 3, 1) := by decide +kernel
theorem dJ2_indexOfSupplementary_4cfef_21 : decode cJ2_indexOfSupplementary_4cfef 21 = .ok (.aload_n 0, 1) := by decide +kernel
theorem dJ2_indexOfSupplementary_4cfef_22 : decode cJ2_indexOfSupplementary_4cfef 22 = .ok (.invokestatic 96, 3) := by decide +kernel
theorem dJ2_indexOfSupplementary_4cfef_25 : decode cJ2_indexOfSupplementary_4cfef 25 = .ok (.iload_n 2, 1) := by decide +kernel
theorem dJ2_indexOfSupplementary_4cfef_26 : decode cJ2_indexOfSupplementary_4cfef 26 = .ok (.istore 6, 2) := by decide +kernel
theorem dJ2_indexOfSupplementary_4cfef_28 : decode cJ2_indexOfSupplementary_4cfef 28 = .ok (.iload 6, 2) := by decide +kernel
theorem dJ2_indexOfSupplementary_4cfef_30 : decode cJ2_indexOfSupplementary_4cfef 30 = .ok (.iload_n 3, 1) := by decide +kernel
theorem dJ2_indexOfSupplementary_4cfef_31 : decode cJ2_indexOfSupplementary_4cfef 31 = .ok (.iconst 1, 1) := by decide +kernel
theorem dJ2_indexOfSupplementary_4cfef_32 : decode cJ2_indexOfSupplementary_4cfef 32 = .ok (.isub, 1) := by decide +kernel
theorem dJ2_indexOfSupplementary_4cfef_33 : decode cJ2_indexOfSupplementary_4cfef 33 = .ok (.if_icmp .ge 36, 3) := by decide +kernel
theorem dJ2_indexOfSupplementary_4cfef_36 : decode cJ2_indexOfSupplementary_4cfef 36 = .ok (.aload_n 0, 1) := by decide +kernel
theorem dJ2_indexOfSupplementary_4cfef_37 : decode cJ2_indexOfSupplementary_4cfef 37 = .ok (.iload 6, 2) := by decide +kernel
theorem dJ2_indexOfSupplementary_4cfef_39 : decode cJ2_indexOfSupplementary_4cfef 39 = .ok (.invokestatic 71, 3) := by decide +kernel
theorem dJ2_indexOfSupplementary_4cfef_42 : decode cJ2_indexOfSupplementary_4cfef 42 = .ok (.iload 4, 2) := by decide +kernel
theorem dJ2_indexOfSupplementary_4cfef_44 : decode cJ2_indexOfSupplementary_4cfef 44 = .ok (.if_icmp .ne 19, 3) := by decide +kernel
theorem dJ2_indexOfSupplementary_4cfef_47 : decode cJ2_indexOfSupplementary_4cfef 47 = .ok (.aload_n 0, 1) := by decide +kernel
theorem dJ2_indexOfSupplementary_4cfef_48 : decode cJ2_indexOfSupplementary_4cfef 48 = .ok (.iload 6, 2) := by decide +kernel
theorem dJ2_indexOfSupplementary_4cfef_50 : decode cJ2_indexOfSupplementary_4cfef 50 = .ok (.iconst 1, 1) := by decide +kernel
theorem dJ2_indexOfSupplementary_4cfef_51 : decode cJ2_indexOfSupplementary_4cfef 51 = .ok (.iadd, 1) := by decide +kernel
theorem dJ2_indexOfSupplementary_4cfef_52 : decode cJ2_indexOfSupplementary_4cfef 52 = .ok (.invokestatic 71, 3) := by decide +kernel
theorem dJ2_indexOfSupplementary_4cfef_55 : decode cJ2_indexOfSupplementary_4cfef 55 = .ok (.iload 5, 2) := by decide +kernel
theorem dJ2_indexOfSupplementary_4cfef_57 : decode cJ2_indexOfSupplementary_4cfef 57 = .ok (.if_icmp .ne 6, 3) := by decide +kernel
theorem dJ2_indexOfSupplementary_4cfef_60 : decode cJ2_indexOfSupplementary_4cfef 60 = .ok (.iload 6, 2) := by decide +kernel
theorem dJ2_indexOfSupplementary_4cfef_62 : decode cJ2_indexOfSupplementary_4cfef 62 = .ok (.ireturn, 1) := by decide +kernel
theorem dJ2_indexOfSupplementary_4cfef_63 : decode cJ2_indexOfSupplementary_4cfef 63 = .ok (.iinc 6 1, 3) := by decide +kernel
theorem dJ2_indexOfSupplementary_4cfef_66 : decode cJ2_indexOfSupplementary_4cfef 66 = .ok (.goto (-38), 3) := by decide +kernel
theorem dJ2_indexOfSupplementary_4cfef_69 : decode cJ2_indexOfSupplementary_4cfef 69 = .ok (.iconst (-1), 1) := by decide +kernel
theorem dJ2_indexOfSupplementary_4cfef_70 : decode cJ2_indexOfSupplementary_4cfef 70 = .ok (.ireturn, 1) := by decide +kernel
theorem dJ2_checkBoundsBeginEnd_d044e_0 : decode cJ2_checkBoundsBeginEnd_d044e 0 = .ok (.iload_n 0, 1) := by decide +kernel
theorem dJ2_checkBoundsBeginEnd_d044e_1 : decode cJ2_checkBoundsBeginEnd_d044e 1 = .ok (.iload_n 1, 1) := by decide +kernel
theorem dJ2_checkBoundsBeginEnd_d044e_2 : decode cJ2_checkBoundsBeginEnd_d044e 2 = .ok (.aload_n 2, 1) := by decide +kernel
theorem dJ2_checkBoundsBeginEnd_d044e_3 : decode cJ2_checkBoundsBeginEnd_d044e 3 = .ok (.invokestatic 48, 3) := by decide +kernel
theorem dJ2_checkBoundsBeginEnd_d044e_6 : decode cJ2_checkBoundsBeginEnd_d044e 6 = .ok (.invokestatic 241, 3) := by decide +kernel
theorem dJ2_checkBoundsBeginEnd_d044e_9 : decode cJ2_checkBoundsBeginEnd_d044e 9 = .ok (.return_, 1) := by decide +kernel
theorem dJ3_checkFromToIndex_8c36e_0 : decode cJ3_checkFromToIndex_8c36e 0 = .ok (.iload_n 0, 1) := by decide +kernel
theorem dJ3_checkFromToIndex_8c36e_1 : decode cJ3_checkFromToIndex_8c36e 1 = .ok (.ifCond .lt 13, 3) := by decide +kernel
theorem dJ3_checkFromToIndex_8c36e_4 : decode cJ3_checkFromToIndex_8c36e 4 = .ok (.iload_n 0, 1) := by decide +kernel
theorem dJ3_checkFromToIndex_8c36e_5 : decode cJ3_checkFromToIndex_8c36e 5 = .ok (.iload_n 1, 1) := by decide +kernel
theorem dJ3_checkFromToIndex_8c36e_6 : decode cJ3_checkFromToIndex_8c36e 6 = .ok (.if_icmp .gt 8, 3) := by decide +kernel
theorem dJ3_checkFromToIndex_8c36e_9 : decode cJ3_checkFromToIndex_8c36e 9 = .ok (.iload_n 1, 1) := by decide +kernel
theorem dJ3_checkFromToIndex_8c36e_10 : decode cJ3_checkFromToIndex_8c36e 10 = .ok (.iload_n 2, 1) := by decide +kernel
theorem dJ3_checkFromToIndex_8c36e_11 : decode cJ3_checkFromToIndex_8c36e 11 = .ok (.if_icmp .le 11, 3) := by decide +kernel
theorem dJ3_checkFromToIndex_8c36e_14 : decode cJ3_checkFromToIndex_8c36e 14 = .ok (.aload_n 3, 1) := by decide +kernel
theorem dJ3_checkFromToIndex_8c36e_15 : decode cJ3_checkFromToIndex_8c36e 15 = .ok (.iload_n 0, 1) := by decide +kernel
theorem dJ3_checkFromToIndex_8c36e_16 : decode cJ3_checkFromToIndex_8c36e 16 = .ok (.iload_n 1, 1) := by decide +kernel
theorem dJ3_checkFromToIndex_8c36e_17 : decode cJ3_checkFromToIndex_8c36e 17 = .ok (.iload_n 2, 1) := by decide +kernel
theorem dJ3_checkFromToIndex_8c36e_18 : decode cJ3_checkFromToIndex_8c36e 18 = .ok (.invokestatic 99, 3) := by decide +kernel
theorem dJ3_checkFromToIndex_8c36e_21 : decode cJ3_checkFromToIndex_8c36e 21 = .ok (.athrow, 1) := by decide +kernel
theorem dJ3_checkFromToIndex_8c36e_22 : decode cJ3_checkFromToIndex_8c36e 22 = .ok (.iload_n 0, 1) := by decide +kernel
theorem dJ3_checkFromToIndex_8c36e_23 : decode cJ3_checkFromToIndex_8c36e 23 = .ok (.ireturn, 1) := by decide +kernel
theorem dL_law_0 : decode cL_law 0 = .ok (.new 7, 3) := by decide +kernel
theorem dL_law_3 : decode cL_law 3 = .ok (.dup, 1) := by decide +kernel
theorem dL_law_4 : decode cL_law 4 = .ok (.invokespecial 9, 3) := by decide +kernel
theorem dL_law_7 : decode cL_law 7 = .ok (.astore_n 1, 1) := by decide +kernel
theorem dL_law_8 : decode cL_law 8 = .ok (.new 10, 3) := by decide +kernel
theorem dL_law_11 : decode cL_law 11 = .ok (.dup, 1) := by decide +kernel
theorem dL_law_12 : decode cL_law 12 = .ok (.invokespecial 12, 3) := by decide +kernel
theorem dL_law_15 : decode cL_law 15 = .ok (.astore_n 2, 1) := by decide +kernel
theorem dL_law_16 : decode cL_law 16 = .ok (.iconst 0, 1) := by decide +kernel
theorem dL_law_17 : decode cL_law 17 = .ok (.istore_n 3, 1) := by decide +kernel
theorem dL_law_18 : decode cL_law 18 = .ok (.iload_n 3, 1) := by decide +kernel
theorem dL_law_19 : decode cL_law 19 = .ok (.aload_n 0, 1) := by decide +kernel
theorem dL_law_20 : decode cL_law 20 = .ok (.arraylength, 1) := by decide +kernel
theorem dL_law_21 : decode cL_law 21 = .ok (.bipush 6, 2) := by decide +kernel
theorem dL_law_23 : decode cL_law 23 = .ok (.isub, 1) := by decide +kernel
theorem dL_law_24 : decode cL_law 24 = .ok (.if_icmp .gt 1440, 3) := by decide +kernel
theorem dL_law_27 : decode cL_law 27 = .ok (.aload_n 0, 1) := by decide +kernel
theorem dL_law_28 : decode cL_law 28 = .ok (.iload_n 3, 1) := by decide +kernel
theorem dL_law_29 : decode cL_law 29 = .ok (.iaload, 1) := by decide +kernel
theorem dL_law_30 : decode cL_law 30 = .ok (.bipush 63, 2) := by decide +kernel
theorem dL_law_32 : decode cL_law 32 = .ok (.iand, 1) := by decide +kernel
theorem dL_law_33 : decode cL_law 33 = .ok (.tableswitch 1425 0 39 #[175, 208, 241, 274, 307, 340, 373, 396, 429, 462, 505, 538, 601, 624, 647, 700, 723, 746, 769, 792, 825, 858, 901, 934, 957, 980, 1013, 1056, 1099, 1122, 1165, 1208, 1271, 1294, 1317, 1330, 1343, 1366, 1379, 1402], 175) := by decide +kernel
theorem dL_law_208 : decode cL_law 208 = .ok (.aload_n 1, 1) := by decide +kernel
theorem dL_law_209 : decode cL_law 209 = .ok (.aload_n 0, 1) := by decide +kernel
theorem dL_law_210 : decode cL_law 210 = .ok (.iload_n 3, 1) := by decide +kernel
theorem dL_law_211 : decode cL_law 211 = .ok (.iconst 1, 1) := by decide +kernel
theorem dL_law_212 : decode cL_law 212 = .ok (.iadd, 1) := by decide +kernel
theorem dL_law_213 : decode cL_law 213 = .ok (.iaload, 1) := by decide +kernel
theorem dL_law_214 : decode cL_law 214 = .ok (.aload_n 0, 1) := by decide +kernel
theorem dL_law_215 : decode cL_law 215 = .ok (.iload_n 3, 1) := by decide +kernel
theorem dL_law_216 : decode cL_law 216 = .ok (.iconst 2, 1) := by decide +kernel
theorem dL_law_217 : decode cL_law 217 = .ok (.iadd, 1) := by decide +kernel
theorem dL_law_218 : decode cL_law 218 = .ok (.iaload, 1) := by decide +kernel
theorem dL_law_219 : decode cL_law 219 = .ok (.invokevirtual 13, 3) := by decide +kernel
theorem dL_law_222 : decode cL_law 222 = .ok (.aload_n 2, 1) := by decide +kernel
theorem dL_law_223 : decode cL_law 223 = .ok (.aload_n 0, 1) := by decide +kernel
theorem dL_law_224 : decode cL_law 224 = .ok (.iload_n 3, 1) := by decide +kernel
theorem dL_law_225 : decode cL_law 225 = .ok (.iconst 1, 1) := by decide +kernel
theorem dL_law_226 : decode cL_law 226 = .ok (.iadd, 1) := by decide +kernel
theorem dL_law_227 : decode cL_law 227 = .ok (.iaload, 1) := by decide +kernel
theorem dL_law_228 : decode cL_law 228 = .ok (.aload_n 0, 1) := by decide +kernel
theorem dL_law_229 : decode cL_law 229 = .ok (.iload_n 3, 1) := by decide +kernel
theorem dL_law_230 : decode cL_law 230 = .ok (.iconst 2, 1) := by decide +kernel
theorem dL_law_231 : decode cL_law 231 = .ok (.iadd, 1) := by decide +kernel
theorem dL_law_232 : decode cL_law 232 = .ok (.iaload, 1) := by decide +kernel
theorem dL_law_233 : decode cL_law 233 = .ok (.invokevirtual 17, 3) := by decide +kernel
theorem dL_law_236 : decode cL_law 236 = .ok (.if_icmp .eq 1222, 3) := by decide +kernel
theorem dL_law_239 : decode cL_law 239 = .ok (.iconst 0, 1) := by decide +kernel
theorem dL_law_240 : decode cL_law 240 = .ok (.ireturn, 1) := by decide +kernel
theorem dL_law_241 : decode cL_law 241 = .ok (.aload_n 1, 1) := by decide +kernel
theorem dL_law_242 : decode cL_law 242 = .ok (.aload_n 0, 1) := by decide +kernel
theorem dL_law_243 : decode cL_law 243 = .ok (.iload_n 3, 1) := by decide +kernel
theorem dL_law_244 : decode cL_law 244 = .ok (.iconst 1, 1) := by decide +kernel
theorem dL_law_245 : decode cL_law 245 = .ok (.iadd, 1) := by decide +kernel
theorem dL_law_246 : decode cL_law 246 = .ok (.iaload, 1) := by decide +kernel
theorem dL_law_247 : decode cL_law 247 = .ok (.aload_n 0, 1) := by decide +kernel
theorem dL_law_248 : decode cL_law 248 = .ok (.iload_n 3, 1) := by decide +kernel
theorem dL_law_249 : decode cL_law 249 = .ok (.iconst 2, 1) := by decide +kernel
theorem dL_law_250 : decode cL_law 250 = .ok (.iadd, 1) := by decide +kernel
theorem dL_law_251 : decode cL_law 251 = .ok (.iaload, 1) := by decide +kernel
theorem dL_law_252 : decode cL_law 252 = .ok (.invokevirtual 18, 3) := by decide +kernel
theorem dL_law_255 : decode cL_law 255 = .ok (.aload_n 2, 1) := by decide +kernel
theorem dL_law_256 : decode cL_law 256 = .ok (.aload_n 0, 1) := by decide +kernel
theorem dL_law_257 : decode cL_law 257 = .ok (.iload_n 3, 1) := by decide +kernel
theorem dL_law_258 : decode cL_law 258 = .ok (.iconst 1, 1) := by decide +kernel
theorem dL_law_259 : decode cL_law 259 = .ok (.iadd, 1) := by decide +kernel
theorem dL_law_260 : decode cL_law 260 = .ok (.iaload, 1) := by decide +kernel
theorem dL_law_261 : decode cL_law 261 = .ok (.aload_n 0, 1) := by decide +kernel
theorem dL_law_262 : decode cL_law 262 = .ok (.iload_n 3, 1) := by decide +kernel
theorem dL_law_263 : decode cL_law 263 = .ok (.iconst 2, 1) := by decide +kernel
theorem dL_law_264 : decode cL_law 264 = .ok (.iadd, 1) := by decide +kernel
theorem dL_law_265 : decode cL_law 265 = .ok (.iaload, 1) := by decide +kernel
theorem dL_law_266 : decode cL_law 266 = .ok (.invokevirtual 21, 3) := by decide +kernel
theorem dL_law_269 : decode cL_law 269 = .ok (.if_icmp .eq 1189, 3) := by decide +kernel
theorem dL_law_272 : decode cL_law 272 = .ok (.iconst 0, 1) := by decide +kernel
theorem dL_law_273 : decode cL_law 273 = .ok (.ireturn, 1) := by decide +kernel
theorem dL_law_274 : decode cL_law 274 = .ok (.aload_n 1, 1) := by decide +kernel
theorem dL_law_275 : decode cL_law 275 = .ok (.aload_n 0, 1) := by decide +kernel
theorem dL_law_276 : decode cL_law 276 = .ok (.iload_n 3, 1) := by decide +kernel
theorem dL_law_277 : decode cL_law 277 = .ok (.iconst 1, 1) := by decide +kernel
theorem dL_law_278 : decode cL_law 278 = .ok (.iadd, 1) := by decide +kernel
theorem dL_law_279 : decode cL_law 279 = .ok (.iaload, 1) := by decide +kernel
theorem dL_law_280 : decode cL_law 280 = .ok (.aload_n 0, 1) := by decide +kernel
theorem dL_law_281 : decode cL_law 281 = .ok (.iload_n 3, 1) := by decide +kernel
theorem dL_law_282 : decode cL_law 282 = .ok (.iconst 2, 1) := by decide +kernel
theorem dL_law_283 : decode cL_law 283 = .ok (.iadd, 1) := by decide +kernel
theorem dL_law_284 : decode cL_law 284 = .ok (.iaload, 1) := by decide +kernel
theorem dL_law_285 : decode cL_law 285 = .ok (.invokevirtual 22, 3) := by decide +kernel
theorem dL_law_288 : decode cL_law 288 = .ok (.aload_n 2, 1) := by decide +kernel
theorem dL_law_289 : decode cL_law 289 = .ok (.aload_n 0, 1) := by decide +kernel
theorem dL_law_290 : decode cL_law 290 = .ok (.iload_n 3, 1) := by decide +kernel
theorem dL_law_291 : decode cL_law 291 = .ok (.iconst 1, 1) := by decide +kernel
theorem dL_law_292 : decode cL_law 292 = .ok (.iadd, 1) := by decide +kernel
theorem dL_law_293 : decode cL_law 293 = .ok (.iaload, 1) := by decide +kernel
theorem dL_law_294 : decode cL_law 294 = .ok (.aload_n 0, 1) := by decide +kernel
theorem dL_law_295 : decode cL_law 295 = .ok (.iload_n 3, 1) := by decide +kernel
theorem dL_law_296 : decode cL_law 296 = .ok (.iconst 2, 1) := by decide +kernel
theorem dL_law_297 : decode cL_law 297 = .ok (.iadd, 1) := by decide +kernel
theorem dL_law_298 : decode cL_law 298 = .ok (.iaload, 1) := by decide +kernel
theorem dL_law_299 : decode cL_law 299 = .ok (.invokevirtual 25, 3) := by decide +kernel
theorem dL_law_302 : decode cL_law 302 = .ok (.if_icmp .eq 1156, 3) := by decide +kernel
theorem dL_law_305 : decode cL_law 305 = .ok (.iconst 0, 1) := by decide +kernel
theorem dL_law_306 : decode cL_law 306 = .ok (.ireturn, 1) := by decide +kernel
theorem dL_law_307 : decode cL_law 307 = .ok (.aload_n 1, 1) := by decide +kernel
theorem dL_law_308 : decode cL_law 308 = .ok (.aload_n 0, 1) := by decide +kernel
theorem dL_law_309 : decode cL_law 309 = .ok (.iload_n 3, 1) := by decide +kernel
theorem dL_law_310 : decode cL_law 310 = .ok (.iconst 1, 1) := by decide +kernel
theorem dL_law_311 : decode cL_law 311 = .ok (.iadd, 1) := by decide +kernel
theorem dL_law_312 : decode cL_law 312 = .ok (.iaload, 1) := by decide +kernel
theorem dL_law_313 : decode cL_law 313 = .ok (.aload_n 0, 1) := by decide +kernel
theorem dL_law_314 : decode cL_law 314 = .ok (.iload_n 3, 1) := by decide +kernel
theorem dL_law_315 : decode cL_law 315 = .ok (.iconst 2, 1) := by decide +kernel
theorem dL_law_316 : decode cL_law 316 = .ok (.iadd, 1) := by decide +kernel
theorem dL_law_317 : decode cL_law 317 = .ok (.iaload, 1) := by decide +kernel
theorem dL_law_318 : decode cL_law 318 = .ok (.invokevirtual 26, 3) := by decide +kernel
theorem dL_law_321 : decode cL_law 321 = .ok (.aload_n 2, 1) := by decide +kernel
theorem dL_law_322 : decode cL_law 322 = .ok (.aload_n 0, 1) := by decide +kernel
theorem dL_law_323 : decode cL_law 323 = .ok (.iload_n 3, 1) := by decide +kernel
theorem dL_law_324 : decode cL_law 324 = .ok (.iconst 1, 1) := by decide +kernel
theorem dL_law_325 : decode cL_law 325 = .ok (.iadd, 1) := by decide +kernel
theorem dL_law_326 : decode cL_law 326 = .ok (.iaload, 1) := by decide +kernel
theorem dL_law_327 : decode cL_law 327 = .ok (.aload_n 0, 1) := by decide +kernel
theorem dL_law_328 : decode cL_law 328 = .ok (.iload_n 3, 1) := by decide +kernel
theorem dL_law_329 : decode cL_law 329 = .ok (.iconst 2, 1) := by decide +kernel
theorem dL_law_330 : decode cL_law 330 = .ok (.iadd, 1) := by decide +kernel
theorem dL_law_331 : decode cL_law 331 = .ok (.iaload, 1) := by decide +kernel
theorem dL_law_332 : decode cL_law 332 = .ok (.invokevirtual 29, 3) := by decide +kernel
theorem dL_law_335 : decode cL_law 335 = .ok (.if_icmp .eq 1123, 3) := by decide +kernel
theorem dL_law_338 : decode cL_law 338 = .ok (.iconst 0, 1) := by decide +kernel
theorem dL_law_339 : decode cL_law 339 = .ok (.ireturn, 1) := by decide +kernel
theorem dL_law_340 : decode cL_law 340 = .ok (.aload_n 1, 1) := by decide +kernel
theorem dL_law_341 : decode cL_law 341 = .ok (.aload_n 0, 1) := by decide +kernel
theorem dL_law_342 : decode cL_law 342 = .ok (.iload_n 3, 1) := by decide +kernel
theorem dL_law_343 : decode cL_law 343 = .ok (.iconst 1, 1) := by decide +kernel
theorem dL_law_344 : decode cL_law 344 = .ok (.iadd, 1) := by decide +kernel
theorem dL_law_345 : decode cL_law 345 = .ok (.iaload, 1) := by decide +kernel
theorem dL_law_346 : decode cL_law 346 = .ok (.aload_n 0, 1) := by decide +kernel
theorem dL_law_347 : decode cL_law 347 = .ok (.iload_n 3, 1) := by decide +kernel
theorem dL_law_348 : decode cL_law 348 = .ok (.iconst 2, 1) := by decide +kernel
theorem dL_law_349 : decode cL_law 349 = .ok (.iadd, 1) := by decide +kernel
theorem dL_law_350 : decode cL_law 350 = .ok (.iaload, 1) := by decide +kernel
theorem dL_law_351 : decode cL_law 351 = .ok (.invokevirtual 30, 3) := by decide +kernel
theorem dL_law_354 : decode cL_law 354 = .ok (.aload_n 2, 1) := by decide +kernel
theorem dL_law_355 : decode cL_law 355 = .ok (.aload_n 0, 1) := by decide +kernel
theorem dL_law_356 : decode cL_law 356 = .ok (.iload_n 3, 1) := by decide +kernel
theorem dL_law_357 : decode cL_law 357 = .ok (.iconst 1, 1) := by decide +kernel
theorem dL_law_358 : decode cL_law 358 = .ok (.iadd, 1) := by decide +kernel
theorem dL_law_359 : decode cL_law 359 = .ok (.iaload, 1) := by decide +kernel
theorem dL_law_360 : decode cL_law 360 = .ok (.aload_n 0, 1) := by decide +kernel
theorem dL_law_361 : decode cL_law 361 = .ok (.iload_n 3, 1) := by decide +kernel
theorem dL_law_362 : decode cL_law 362 = .ok (.iconst 2, 1) := by decide +kernel
theorem dL_law_363 : decode cL_law 363 = .ok (.iadd, 1) := by decide +kernel
theorem dL_law_364 : decode cL_law 364 = .ok (.iaload, 1) := by decide +kernel
theorem dL_law_365 : decode cL_law 365 = .ok (.invokevirtual 33, 3) := by decide +kernel
theorem dL_law_368 : decode cL_law 368 = .ok (.if_icmp .eq 1090, 3) := by decide +kernel
theorem dL_law_371 : decode cL_law 371 = .ok (.iconst 0, 1) := by decide +kernel
theorem dL_law_372 : decode cL_law 372 = .ok (.ireturn, 1) := by decide +kernel
theorem dL_law_373 : decode cL_law 373 = .ok (.aload_n 1, 1) := by decide +kernel
theorem dL_law_374 : decode cL_law 374 = .ok (.aload_n 0, 1) := by decide +kernel
theorem dL_law_375 : decode cL_law 375 = .ok (.iload_n 3, 1) := by decide +kernel
theorem dL_law_376 : decode cL_law 376 = .ok (.iconst 1, 1) := by decide +kernel
theorem dL_law_377 : decode cL_law 377 = .ok (.iadd, 1) := by decide +kernel
theorem dL_law_378 : decode cL_law 378 = .ok (.iaload, 1) := by decide +kernel
theorem dL_law_379 : decode cL_law 379 = .ok (.aload_n 0, 1) := by decide +kernel
theorem dL_law_380 : decode cL_law 380 = .ok (.iload_n 3, 1) := by decide +kernel
theorem dL_law_381 : decode cL_law 381 = .ok (.iconst 2, 1) := by decide +kernel
theorem dL_law_382 : decode cL_law 382 = .ok (.iadd, 1) := by decide +kernel
theorem dL_law_383 : decode cL_law 383 = .ok (.iaload, 1) := by decide +kernel
theorem dL_law_384 : decode cL_law 384 = .ok (.invokevirtual 34, 3) := by decide +kernel
theorem dL_law_387 : decode cL_law 387 = .ok (.aload_n 2, 1) := by decide +kernel
theorem dL_law_388 : decode cL_law 388 = .ok (.aload_n 0, 1) := by decide +kernel
theorem dL_law_389 : decode cL_law 389 = .ok (.iload_n 3, 1) := by decide +kernel
theorem dL_law_390 : decode cL_law 390 = .ok (.iconst 1, 1) := by decide +kernel
theorem dL_law_391 : decode cL_law 391 = .ok (.iadd, 1) := by decide +kernel
theorem dL_law_392 : decode cL_law 392 = .ok (.iaload, 1) := by decide +kernel
theorem dL_law_393 : decode cL_law 393 = .ok (.aload_n 0, 1) := by decide +kernel
theorem dL_law_394 : decode cL_law 394 = .ok (.iload_n 3, 1) := by decide +kernel
theorem dL_law_395 : decode cL_law 395 = .ok (.iconst 2, 1) := by decide +kernel
theorem dL_law_396 : decode cL_law 396 = .ok (.iadd, 1) := by decide +kernel
theorem dL_law_397 : decode cL_law 397 = .ok (.iaload, 1) := by decide +kernel
theorem dL_law_398 : decode cL_law 398 = .ok (.invokevirtual 37, 3) := by decide +kernel
theorem dL_law_401 : decode cL_law 401 = .ok (.if_icmp .eq 1057, 3) := by decide +kernel
theorem dL_law_404 : decode cL_law 404 = .ok (.iconst 0, 1) := by decide +kernel
theorem dL_law_405 : decode cL_law 405 = .ok (.ireturn, 1) := by decide +kernel
theorem dL_law_406 : decode cL_law 406 = .ok (.aload_n 1, 1) := by decide +kernel
theorem dL_law_407 : decode cL_law 407 = .ok (.aload_n 0, 1) := by decide +kernel
theorem dL_law_408 : decode cL_law 408 = .ok (.iload_n 3, 1) := by decide +kernel
theorem dL_law_409 : decode cL_law 409 = .ok (.iconst 1, 1) := by decide +kernel
theorem dL_law_410 : decode cL_law 410 = .ok (.iadd, 1) := by decide +kernel
theorem dL_law_411 : decode cL_law 411 = .ok (.iaload, 1) := by decide +kernel
theorem dL_law_412 : decode cL_law 412 = .ok (.invokevirtual 38, 3) := by decide +kernel
theorem dL_law_415 : decode cL_law 415 = .ok (.aload_n 2, 1) := by decide +kernel
theorem dL_law_416 : decode cL_law 416 = .ok (.aload_n 0, 1) := by decide +kernel
theorem dL_law_417 : decode cL_law 417 = .ok (.iload_n 3, 1) := by decide +kernel
theorem dL_law_418 : decode cL_law 418 = .ok (.iconst 1, 1) := by decide +kernel
theorem dL_law_419 : decode cL_law 419 = .ok (.iadd, 1) := by decide +kernel
theorem dL_law_420 : decode cL_law 420 = .ok (.iaload, 1) := by decide +kernel
theorem dL_law_421 : decode cL_law 421 = .ok (.invokevirtual 42, 3) := by decide +kernel
theorem dL_law_424 : decode cL_law 424 = .ok (.if_icmp .eq 1034, 3) := by decide +kernel
theorem dL_law_427 : decode cL_law 427 = .ok (.iconst 0, 1) := by decide +kernel
theorem dL_law_428 : decode cL_law 428 = .ok (.ireturn, 1) := by decide +kernel
theorem dL_law_429 : decode cL_law 429 = .ok (.aload_n 1, 1) := by decide +kernel
theorem dL_law_430 : decode cL_law 430 = .ok (.aload_n 0, 1) := by decide +kernel
theorem dL_law_431 : decode cL_law 431 = .ok (.iload_n 3, 1) := by decide +kernel
theorem dL_law_432 : decode cL_law 432 = .ok (.iconst 1, 1) := by decide +kernel
theorem dL_law_433 : decode cL_law 433 = .ok (.iadd, 1) := by decide +kernel
theorem dL_law_434 : decode cL_law 434 = .ok (.iaload, 1) := by decide +kernel
theorem dL_law_435 : decode cL_law 435 = .ok (.aload_n 0, 1) := by decide +kernel
theorem dL_law_436 : decode cL_law 436 = .ok (.iload_n 3, 1) := by decide +kernel
theorem dL_law_437 : decode cL_law 437 = .ok (.iconst 2, 1) := by decide +kernel
theorem dL_law_438 : decode cL_law 438 = .ok (.iadd, 1) := by decide +kernel
theorem dL_law_439 : decode cL_law 439 = .ok (.iaload, 1) := by decide +kernel
theorem dL_law_440 : decode cL_law 440 = .ok (.invokevirtual 43, 3) := by decide +kernel
theorem dL_law_443 : decode cL_law 443 = .ok (.aload_n 2, 1) := by decide +kernel
theorem dL_law_444 : decode cL_law 444 = .ok (.aload_n 0, 1) := by decide +kernel
theorem dL_law_445 : decode cL_law 445 = .ok (.iload_n 3, 1) := by decide +kernel
theorem dL_law_446 : decode cL_law 446 = .ok (.iconst 1, 1) := by decide +kernel
theorem dL_law_447 : decode cL_law 447 = .ok (.iadd, 1) := by decide +kernel
theorem dL_law_448 : decode cL_law 448 = .ok (.iaload, 1) := by decide +kernel
theorem dL_law_449 : decode cL_law 449 = .ok (.aload_n 0, 1) := by decide +kernel
theorem dL_law_450 : decode cL_law 450 = .ok (.iload_n 3, 1) := by decide +kernel
theorem dL_law_451 : decode cL_law 451 = .ok (.iconst 2, 1) := by decide +kernel
theorem dL_law_452 : decode cL_law 452 = .ok (.iadd, 1) := by decide +kernel
theorem dL_law_453 : decode cL_law 453 = .ok (.iaload, 1) := by decide +kernel
theorem dL_law_454 : decode cL_law 454 = .ok (.invokevirtual 46, 3) := by decide +kernel
theorem dL_law_457 : decode cL_law 457 = .ok (.if_icmp .eq 1001, 3) := by decide +kernel
theorem dL_law_460 : decode cL_law 460 = .ok (.iconst 0, 1) := by decide +kernel
theorem dL_law_461 : decode cL_law 461 = .ok (.ireturn, 1) := by decide +kernel
theorem dL_law_462 : decode cL_law 462 = .ok (.aload_n 1, 1) := by decide +kernel
theorem dL_law_463 : decode cL_law 463 = .ok (.aload_n 0, 1) := by decide +kernel
theorem dL_law_464 : decode cL_law 464 = .ok (.iload_n 3, 1) := by decide +kernel
theorem dL_law_465 : decode cL_law 465 = .ok (.iconst 1, 1) := by decide +kernel
theorem dL_law_466 : decode cL_law 466 = .ok (.iadd, 1) := by decide +kernel
theorem dL_law_467 : decode cL_law 467 = .ok (.iaload, 1) := by decide +kernel
theorem dL_law_468 : decode cL_law 468 = .ok (.aload_n 0, 1) := by decide +kernel
theorem dL_law_469 : decode cL_law 469 = .ok (.iload_n 3, 1) := by decide +kernel
theorem dL_law_470 : decode cL_law 470 = .ok (.iconst 2, 1) := by decide +kernel
theorem dL_law_471 : decode cL_law 471 = .ok (.iadd, 1) := by decide +kernel
theorem dL_law_472 : decode cL_law 472 = .ok (.iaload, 1) := by decide +kernel
theorem dL_law_473 : decode cL_law 473 = .ok (.invokevirtual 47, 3) := by decide +kernel
theorem dL_law_476 : decode cL_law 476 = .ok (.aload_n 2, 1) := by decide +kernel
theorem dL_law_477 : decode cL_law 477 = .ok (.aload_n 0, 1) := by decide +kernel
theorem dL_law_478 : decode cL_law 478 = .ok (.iload_n 3, 1) := by decide +kernel
theorem dL_law_479 : decode cL_law 479 = .ok (.iconst 1, 1) := by decide +kernel
theorem dL_law_480 : decode cL_law 480 = .ok (.iadd, 1) := by decide +kernel
theorem dL_law_481 : decode cL_law 481 = .ok (.iaload, 1) := by decide +kernel
theorem dL_law_482 : decode cL_law 482 = .ok (.aload_n 0, 1) := by decide +kernel
theorem dL_law_483 : decode cL_law 483 = .ok (.iload_n 3, 1) := by decide +kernel
theorem dL_law_484 : decode cL_law 484 = .ok (.iconst 2, 1) := by decide +kernel
theorem dL_law_485 : decode cL_law 485 = .ok (.iadd, 1) := by decide +kernel
theorem dL_law_486 : decode cL_law 486 = .ok (.iaload, 1) := by decide +kernel
theorem dL_law_487 : decode cL_law 487 = .ok (.invokevirtual 50, 3) := by decide +kernel
theorem dL_law_490 : decode cL_law 490 = .ok (.if_icmp .eq 968, 3) := by decide +kernel
theorem dL_law_493 : decode cL_law 493 = .ok (.iconst 0, 1) := by decide +kernel
theorem dL_law_494 : decode cL_law 494 = .ok (.ireturn, 1) := by decide +kernel
theorem dL_law_495 : decode cL_law 495 = .ok (.aload_n 1, 1) := by decide +kernel
theorem dL_law_496 : decode cL_law 496 = .ok (.aload_n 0, 1) := by decide +kernel
theorem dL_law_497 : decode cL_law 497 = .ok (.iload_n 3, 1) := by decide +kernel
theorem dL_law_498 : decode cL_law 498 = .ok (.iconst 1, 1) := by decide +kernel
theorem dL_law_499 : decode cL_law 499 = .ok (.iadd, 1) := by decide +kernel
theorem dL_law_500 : decode cL_law 500 = .ok (.iaload, 1) := by decide +kernel
theorem dL_law_501 : decode cL_law 501 = .ok (.aload_n 0, 1) := by decide +kernel
theorem dL_law_502 : decode cL_law 502 = .ok (.iload_n 3, 1) := by decide +kernel
theorem dL_law_503 : decode cL_law 503 = .ok (.iconst 2, 1) := by decide +kernel
theorem dL_law_504 : decode cL_law 504 = .ok (.iadd, 1) := by decide +kernel
theorem dL_law_505 : decode cL_law 505 = .ok (.iaload, 1) := by decide +kernel
theorem dL_law_506 : decode cL_law 506 = .ok (.aload_n 0, 1) := by decide +kernel
theorem dL_law_507 : decode cL_law 507 = .ok (.iload_n 3, 1) := by decide +kernel
theorem dL_law_508 : decode cL_law 508 = .ok (.iconst 3, 1) := by decide +kernel
theorem dL_law_509 : decode cL_law 509 = .ok (.iadd, 1) := by decide +kernel
theorem dL_law_510 : decode cL_law 510 = .ok (.iaload, 1) := by decide +kernel
theorem dL_law_511 : decode cL_law 511 = .ok (.invokevirtual 51, 3) := by decide +kernel
theorem dL_law_514 : decode cL_law 514 = .ok (.aload_n 2, 1) := by decide +kernel
theorem dL_law_515 : decode cL_law 515 = .ok (.aload_n 0, 1) := by decide +kernel
theorem dL_law_516 : decode cL_law 516 = .ok (.iload_n 3, 1) := by decide +kernel
theorem dL_law_517 : decode cL_law 517 = .ok (.iconst 1, 1) := by decide +kernel
theorem dL_law_518 : decode cL_law 518 = .ok (.iadd, 1) := by decide +kernel
theorem dL_law_519 : decode cL_law 519 = .ok (.iaload, 1) := by decide +kernel
theorem dL_law_520 : decode cL_law 520 = .ok (.aload_n 0, 1) := by decide +kernel
theorem dL_law_521 : decode cL_law 521 = .ok (.iload_n 3, 1) := by decide +kernel
theorem dL_law_522 : decode cL_law 522 = .ok (.iconst 2, 1) := by decide +kernel
theorem dL_law_523 : decode cL_law 523 = .ok (.iadd, 1) := by decide +kernel
theorem dL_law_524 : decode cL_law 524 = .ok (.iaload, 1) := by decide +kernel
theorem dL_law_525 : decode cL_law 525 = .ok (.aload_n 0, 1) := by decide +kernel
theorem dL_law_526 : decode cL_law 526 = .ok (.iload_n 3, 1) := by decide +kernel
theorem dL_law_527 : decode cL_law 527 = .ok (.iconst 3, 1) := by decide +kernel
theorem dL_law_528 : decode cL_law 528 = .ok (.iadd, 1) := by decide +kernel
theorem dL_law_529 : decode cL_law 529 = .ok (.iaload, 1) := by decide +kernel
theorem dL_law_530 : decode cL_law 530 = .ok (.invokevirtual 55, 3) := by decide +kernel
theorem dL_law_533 : decode cL_law 533 = .ok (.if_icmp .eq 925, 3) := by decide +kernel
theorem dL_law_536 : decode cL_law 536 = .ok (.iconst 0, 1) := by decide +kernel
theorem dL_law_537 : decode cL_law 537 = .ok (.ireturn, 1) := by decide +kernel
theorem dL_law_538 : decode cL_law 538 = .ok (.aload_n 1, 1) := by decide +kernel
theorem dL_law_539 : decode cL_law 539 = .ok (.aload_n 0, 1) := by decide +kernel
theorem dL_law_540 : decode cL_law 540 = .ok (.iload_n 3, 1) := by decide +kernel
theorem dL_law_541 : decode cL_law 541 = .ok (.iconst 1, 1) := by decide +kernel
theorem dL_law_542 : decode cL_law 542 = .ok (.iadd, 1) := by decide +kernel
theorem dL_law_543 : decode cL_law 543 = .ok (.iaload, 1) := by decide +kernel
theorem dL_law_544 : decode cL_law 544 = .ok (.aload_n 0, 1) := by decide +kernel
theorem dL_law_545 : decode cL_law 545 = .ok (.iload_n 3, 1) := by decide +kernel
theorem dL_law_546 : decode cL_law 546 = .ok (.iconst 2, 1) := by decide +kernel
theorem dL_law_547 : decode cL_law 547 = .ok (.iadd, 1) := by decide +kernel
theorem dL_law_548 : decode cL_law 548 = .ok (.iaload, 1) := by decide +kernel
theorem dL_law_549 : decode cL_law 549 = .ok (.invokevirtual 56, 3) := by decide +kernel
theorem dL_law_552 : decode cL_law 552 = .ok (.aload_n 2, 1) := by decide +kernel
theorem dL_law_553 : decode cL_law 553 = .ok (.aload_n 0, 1) := by decide +kernel
theorem dL_law_554 : decode cL_law 554 = .ok (.iload_n 3, 1) := by decide +kernel
theorem dL_law_555 : decode cL_law 555 = .ok (.iconst 1, 1) := by decide +kernel
theorem dL_law_556 : decode cL_law 556 = .ok (.iadd, 1) := by decide +kernel
theorem dL_law_557 : decode cL_law 557 = .ok (.iaload, 1) := by decide +kernel
theorem dL_law_558 : decode cL_law 558 = .ok (.aload_n 0, 1) := by decide +kernel
theorem dL_law_559 : decode cL_law 559 = .ok (.iload_n 3, 1) := by decide +kernel
theorem dL_law_560 : decode cL_law 560 = .ok (.iconst 2, 1) := by decide +kernel
theorem dL_law_561 : decode cL_law 561 = .ok (.iadd, 1) := by decide +kernel
theorem dL_law_562 : decode cL_law 562 = .ok (.iaload, 1) := by decide +kernel
theorem dL_law_563 : decode cL_law 563 = .ok (.invokevirtual 59, 3) := by decide +kernel
theorem dL_law_566 : decode cL_law 566 = .ok (.if_icmp .eq 892, 3) := by decide +kernel
theorem dL_law_569 : decode cL_law 569 = .ok (.iconst 0, 1) := by decide +kernel
theorem dL_law_570 : decode cL_law 570 = .ok (.ireturn, 1) := by decide +kernel
theorem dL_law_571 : decode cL_law 571 = .ok (.aload_n 1, 1) := by decide +kernel
theorem dL_law_572 : decode cL_law 572 = .ok (.aload_n 0, 1) := by decide +kernel
theorem dL_law_573 : decode cL_law 573 = .ok (.iload_n 3, 1) := by decide +kernel
theorem dL_law_574 : decode cL_law 574 = .ok (.iconst 1, 1) := by decide +kernel
theorem dL_law_575 : decode cL_law 575 = .ok (.iadd, 1) := by decide +kernel
theorem dL_law_576 : decode cL_law 576 = .ok (.iaload, 1) := by decide +kernel
theorem dL_law_577 : decode cL_law 577 = .ok (.i2l, 1) := by decide +kernel
theorem dL_law_578 : decode cL_law 578 = .ok (.bipush 32, 2) := by decide +kernel
theorem dL_law_580 : decode cL_law 580 = .ok (.lshl, 1) := by decide +kernel
theorem dL_law_581 : decode cL_law 581 = .ok (.aload_n 0, 1) := by decide +kernel
theorem dL_law_582 : decode cL_law 582 = .ok (.iload_n 3, 1) := by decide +kernel
theorem dL_law_583 : decode cL_law 583 = .ok (.iconst 2, 1) := by decide +kernel
theorem dL_law_584 : decode cL_law 584 = .ok (.iadd, 1) := by decide +kernel
theorem dL_law_585 : decode cL_law 585 = .ok (.iaload, 1) := by decide +kernel
theorem dL_law_586 : decode cL_law 586 = .ok (.i2l, 1) := by decide +kernel
theorem dL_law_587 : decode cL_law 587 = .ok (.ldc2_w 60, 3) := by decide +kernel
theorem dL_law_590 : decode cL_law 590 = .ok (.land, 1) := by decide +kernel
theorem dL_law_591 : decode cL_law 591 = .ok (.lor, 1) := by decide +kernel
theorem dL_law_592 : decode cL_law 592 = .ok (.aload_n 0, 1) := by decide +kernel
theorem dL_law_593 : decode cL_law 593 = .ok (.iload_n 3, 1) := by decide +kernel
theorem dL_law_594 : decode cL_law 594 = .ok (.iconst 3, 1) := by decide +kernel
theorem dL_law_595 : decode cL_law 595 = .ok (.iadd, 1) := by decide +kernel
theorem dL_law_596 : decode cL_law 596 = .ok (.iaload, 1) := by decide +kernel
theorem dL_law_597 : decode cL_law 597 = .ok (.invokevirtual 62, 3) := by decide +kernel
theorem dL_law_600 : decode cL_law 600 = .ok (.aload_n 2, 1) := by decide +kernel
theorem dL_law_601 : decode cL_law 601 = .ok (.aload_n 0, 1) := by decide +kernel
theorem dL_law_602 : decode cL_law 602 = .ok (.iload_n 3, 1) := by decide +kernel
theorem dL_law_603 : decode cL_law 603 = .ok (.iconst 1, 1) := by decide +kernel
theorem dL_law_604 : decode cL_law 604 = .ok (.iadd, 1) := by decide +kernel
theorem dL_law_605 : decode cL_law 605 = .ok (.iaload, 1) := by decide +kernel
theorem dL_law_606 : decode cL_law 606 = .ok (.i2l, 1) := by decide +kernel
theorem dL_law_607 : decode cL_law 607 = .ok (.bipush 32, 2) := by decide +kernel
theorem dL_law_609 : decode cL_law 609 = .ok (.lshl, 1) := by decide +kernel
theorem dL_law_610 : decode cL_law 610 = .ok (.aload_n 0, 1) := by decide +kernel
theorem dL_law_611 : decode cL_law 611 = .ok (.iload_n 3, 1) := by decide +kernel
theorem dL_law_612 : decode cL_law 612 = .ok (.iconst 2, 1) := by decide +kernel
theorem dL_law_613 : decode cL_law 613 = .ok (.iadd, 1) := by decide +kernel
theorem dL_law_614 : decode cL_law 614 = .ok (.iaload, 1) := by decide +kernel
theorem dL_law_615 : decode cL_law 615 = .ok (.i2l, 1) := by decide +kernel
theorem dL_law_616 : decode cL_law 616 = .ok (.ldc2_w 60, 3) := by decide +kernel
theorem dL_law_619 : decode cL_law 619 = .ok (.land, 1) := by decide +kernel
theorem dL_law_620 : decode cL_law 620 = .ok (.lor, 1) := by decide +kernel
theorem dL_law_621 : decode cL_law 621 = .ok (.aload_n 0, 1) := by decide +kernel
theorem dL_law_622 : decode cL_law 622 = .ok (.iload_n 3, 1) := by decide +kernel
theorem dL_law_623 : decode cL_law 623 = .ok (.iconst 3, 1) := by decide +kernel
theorem dL_law_624 : decode cL_law 624 = .ok (.iadd, 1) := by decide +kernel
theorem dL_law_625 : decode cL_law 625 = .ok (.iaload, 1) := by decide +kernel
theorem dL_law_626 : decode cL_law 626 = .ok (.invokevirtual 66, 3) := by decide +kernel
theorem dL_law_629 : decode cL_law 629 = .ok (.if_icmp .eq 829, 3) := by decide +kernel
theorem dL_law_632 : decode cL_law 632 = .ok (.iconst 0, 1) := by decide +kernel
theorem dL_law_633 : decode cL_law 633 = .ok (.ireturn, 1) := by decide +kernel
theorem dL_law_634 : decode cL_law 634 = .ok (.aload_n 1, 1) := by decide +kernel
theorem dL_law_635 : decode cL_law 635 = .ok (.aload_n 0, 1) := by decide +kernel
theorem dL_law_636 : decode cL_law 636 = .ok (.iload_n 3, 1) := by decide +kernel
theorem dL_law_637 : decode cL_law 637 = .ok (.iconst 1, 1) := by decide +kernel
theorem dL_law_638 : decode cL_law 638 = .ok (.iadd, 1) := by decide +kernel
theorem dL_law_639 : decode cL_law 639 = .ok (.iaload, 1) := by decide +kernel
theorem dL_law_640 : decode cL_law 640 = .ok (.invokevirtual 67, 3) := by decide +kernel
theorem dL_law_643 : decode cL_law 643 = .ok (.aload_n 2, 1) := by decide +kernel
theorem dL_law_644 : decode cL_law 644 = .ok (.aload_n 0, 1) := by decide +kernel
theorem dL_law_645 : decode cL_law 645 = .ok (.iload_n 3, 1) := by decide +kernel
theorem dL_law_646 : decode cL_law 646 = .ok (.iconst 1, 1) := by decide +kernel
theorem dL_law_647 : decode cL_law 647 = .ok (.iadd, 1) := by decide +kernel
theorem dL_law_648 : decode cL_law 648 = .ok (.iaload, 1) := by decide +kernel
theorem dL_law_649 : decode cL_law 649 = .ok (.invokevirtual 70, 3) := by decide +kernel
theorem dL_law_652 : decode cL_law 652 = .ok (.if_icmp .eq 806, 3) := by decide +kernel
theorem dL_law_655 : decode cL_law 655 = .ok (.iconst 0, 1) := by decide +kernel
theorem dL_law_656 : decode cL_law 656 = .ok (.ireturn, 1) := by decide +kernel
theorem dL_law_657 : decode cL_law 657 = .ok (.aload_n 1, 1) := by decide +kernel
theorem dL_law_658 : decode cL_law 658 = .ok (.aload_n 0, 1) := by decide +kernel
theorem dL_law_659 : decode cL_law 659 = .ok (.iload_n 3, 1) := by decide +kernel
theorem dL_law_660 : decode cL_law 660 = .ok (.iconst 1, 1) := by decide +kernel
theorem dL_law_661 : decode cL_law 661 = .ok (.iadd, 1) := by decide +kernel
theorem dL_law_662 : decode cL_law 662 = .ok (.iaload, 1) := by decide +kernel
theorem dL_law_663 : decode cL_law 663 = .ok (.invokevirtual 71, 3) := by decide +kernel
theorem dL_law_666 : decode cL_law 666 = .ok (.aload_n 2, 1) := by decide +kernel
theorem dL_law_667 : decode cL_law 667 = .ok (.aload_n 0, 1) := by decide +kernel
theorem dL_law_668 : decode cL_law 668 = .ok (.iload_n 3, 1) := by decide +kernel
theorem dL_law_669 : decode cL_law 669 = .ok (.iconst 1, 1) := by decide +kernel
theorem dL_law_670 : decode cL_law 670 = .ok (.iadd, 1) := by decide +kernel
theorem dL_law_671 : decode cL_law 671 = .ok (.iaload, 1) := by decide +kernel
theorem dL_law_672 : decode cL_law 672 = .ok (.invokevirtual 74, 3) := by decide +kernel
theorem dL_law_675 : decode cL_law 675 = .ok (.if_icmp .eq 783, 3) := by decide +kernel
theorem dL_law_678 : decode cL_law 678 = .ok (.iconst 0, 1) := by decide +kernel
theorem dL_law_679 : decode cL_law 679 = .ok (.ireturn, 1) := by decide +kernel
theorem dL_law_680 : decode cL_law 680 = .ok (.aload_n 1, 1) := by decide +kernel
theorem dL_law_681 : decode cL_law 681 = .ok (.aload_n 0, 1) := by decide +kernel
theorem dL_law_682 : decode cL_law 682 = .ok (.iload_n 3, 1) := by decide +kernel
theorem dL_law_683 : decode cL_law 683 = .ok (.iconst 1, 1) := by decide +kernel
theorem dL_law_684 : decode cL_law 684 = .ok (.iadd, 1) := by decide +kernel
theorem dL_law_685 : decode cL_law 685 = .ok (.iaload, 1) := by decide +kernel
theorem dL_law_686 : decode cL_law 686 = .ok (.aload_n 0, 1) := by decide +kernel
theorem dL_law_687 : decode cL_law 687 = .ok (.iload_n 3, 1) := by decide +kernel
theorem dL_law_688 : decode cL_law 688 = .ok (.iconst 2, 1) := by decide +kernel
theorem dL_law_689 : decode cL_law 689 = .ok (.iadd, 1) := by decide +kernel
theorem dL_law_690 : decode cL_law 690 = .ok (.iaload, 1) := by decide +kernel
theorem dL_law_691 : decode cL_law 691 = .ok (.aload_n 0, 1) := by decide +kernel
theorem dL_law_692 : decode cL_law 692 = .ok (.iload_n 3, 1) := by decide +kernel
theorem dL_law_693 : decode cL_law 693 = .ok (.iconst 3, 1) := by decide +kernel
theorem dL_law_694 : decode cL_law 694 = .ok (.iadd, 1) := by decide +kernel
theorem dL_law_695 : decode cL_law 695 = .ok (.iaload, 1) := by decide +kernel
theorem dL_law_696 : decode cL_law 696 = .ok (.aload_n 0, 1) := by decide +kernel
theorem dL_law_697 : decode cL_law 697 = .ok (.iload_n 3, 1) := by decide +kernel
theorem dL_law_698 : decode cL_law 698 = .ok (.iconst 4, 1) := by decide +kernel
theorem dL_law_699 : decode cL_law 699 = .ok (.iadd, 1) := by decide +kernel
theorem dL_law_700 : decode cL_law 700 = .ok (.iaload, 1) := by decide +kernel
theorem dL_law_701 : decode cL_law 701 = .ok (.invokevirtual 75, 3) := by decide +kernel
theorem dL_law_704 : decode cL_law 704 = .ok (.aload_n 2, 1) := by decide +kernel
theorem dL_law_705 : decode cL_law 705 = .ok (.aload_n 0, 1) := by decide +kernel
theorem dL_law_706 : decode cL_law 706 = .ok (.iload_n 3, 1) := by decide +kernel
theorem dL_law_707 : decode cL_law 707 = .ok (.iconst 1, 1) := by decide +kernel
theorem dL_law_708 : decode cL_law 708 = .ok (.iadd, 1) := by decide +kernel
theorem dL_law_709 : decode cL_law 709 = .ok (.iaload, 1) := by decide +kernel
theorem dL_law_710 : decode cL_law 710 = .ok (.aload_n 0, 1) := by decide +kernel
theorem dL_law_711 : decode cL_law 711 = .ok (.iload_n 3, 1) := by decide +kernel
theorem dL_law_712 : decode cL_law 712 = .ok (.iconst 2, 1) := by decide +kernel
theorem dL_law_713 : decode cL_law 713 = .ok (.iadd, 1) := by decide +kernel
theorem dL_law_714 : decode cL_law 714 = .ok (.iaload, 1) := by decide +kernel
theorem dL_law_715 : decode cL_law 715 = .ok (.aload_n 0, 1) := by decide +kernel
theorem dL_law_716 : decode cL_law 716 = .ok (.iload_n 3, 1) := by decide +kernel
theorem dL_law_717 : decode cL_law 717 = .ok (.iconst 3, 1) := by decide +kernel
theorem dL_law_718 : decode cL_law 718 = .ok (.iadd, 1) := by decide +kernel
theorem dL_law_719 : decode cL_law 719 = .ok (.iaload, 1) := by decide +kernel
theorem dL_law_720 : decode cL_law 720 = .ok (.aload_n 0, 1) := by decide +kernel
theorem dL_law_721 : decode cL_law 721 = .ok (.iload_n 3, 1) := by decide +kernel
theorem dL_law_722 : decode cL_law 722 = .ok (.iconst 4, 1) := by decide +kernel
theorem dL_law_723 : decode cL_law 723 = .ok (.iadd, 1) := by decide +kernel
theorem dL_law_724 : decode cL_law 724 = .ok (.iaload, 1) := by decide +kernel
theorem dL_law_725 : decode cL_law 725 = .ok (.invokevirtual 79, 3) := by decide +kernel
theorem dL_law_728 : decode cL_law 728 = .ok (.if_icmp .eq 730, 3) := by decide +kernel
theorem dL_law_731 : decode cL_law 731 = .ok (.iconst 0, 1) := by decide +kernel
theorem dL_law_732 : decode cL_law 732 = .ok (.ireturn, 1) := by decide +kernel
theorem dL_law_733 : decode cL_law 733 = .ok (.aload_n 1, 1) := by decide +kernel
theorem dL_law_734 : decode cL_law 734 = .ok (.aload_n 0, 1) := by decide +kernel
theorem dL_law_735 : decode cL_law 735 = .ok (.iload_n 3, 1) := by decide +kernel
theorem dL_law_736 : decode cL_law 736 = .ok (.iconst 1, 1) := by decide +kernel
theorem dL_law_737 : decode cL_law 737 = .ok (.iadd, 1) := by decide +kernel
theorem dL_law_738 : decode cL_law 738 = .ok (.iaload, 1) := by decide +kernel
theorem dL_law_739 : decode cL_law 739 = .ok (.invokevirtual 80, 3) := by decide +kernel
theorem dL_law_742 : decode cL_law 742 = .ok (.aload_n 2, 1) := by decide +kernel
theorem dL_law_743 : decode cL_law 743 = .ok (.aload_n 0, 1) := by decide +kernel
theorem dL_law_744 : decode cL_law 744 = .ok (.iload_n 3, 1) := by decide +kernel
theorem dL_law_745 : decode cL_law 745 = .ok (.iconst 1, 1) := by decide +kernel
theorem dL_law_746 : decode cL_law 746 = .ok (.iadd, 1) := by decide +kernel
theorem dL_law_747 : decode cL_law 747 = .ok (.iaload, 1) := by decide +kernel
theorem dL_law_748 : decode cL_law 748 = .ok (.invokevirtual 83, 3) := by decide +kernel
theorem dL_law_751 : decode cL_law 751 = .ok (.if_icmp .eq 707, 3) := by decide +kernel
theorem dL_law_754 : decode cL_law 754 = .ok (.iconst 0, 1) := by decide +kernel
theorem dL_law_755 : decode cL_law 755 = .ok (.ireturn, 1) := by decide +kernel
theorem dL_law_756 : decode cL_law 756 = .ok (.aload_n 1, 1) := by decide +kernel
theorem dL_law_757 : decode cL_law 757 = .ok (.aload_n 0, 1) := by decide +kernel
theorem dL_law_758 : decode cL_law 758 = .ok (.iload_n 3, 1) := by decide +kernel
theorem dL_law_759 : decode cL_law 759 = .ok (.iconst 1, 1) := by decide +kernel
theorem dL_law_760 : decode cL_law 760 = .ok (.iadd, 1) := by decide +kernel
theorem dL_law_761 : decode cL_law 761 = .ok (.iaload, 1) := by decide +kernel
theorem dL_law_762 : decode cL_law 762 = .ok (.invokevirtual 84, 3) := by decide +kernel
theorem dL_law_765 : decode cL_law 765 = .ok (.aload_n 2, 1) := by decide +kernel
theorem dL_law_766 : decode cL_law 766 = .ok (.aload_n 0, 1) := by decide +kernel
theorem dL_law_767 : decode cL_law 767 = .ok (.iload_n 3, 1) := by decide +kernel
theorem dL_law_768 : decode cL_law 768 = .ok (.iconst 1, 1) := by decide +kernel
theorem dL_law_769 : decode cL_law 769 = .ok (.iadd, 1) := by decide +kernel
theorem dL_law_770 : decode cL_law 770 = .ok (.iaload, 1) := by decide +kernel
theorem dL_law_771 : decode cL_law 771 = .ok (.invokevirtual 87, 3) := by decide +kernel
theorem dL_law_774 : decode cL_law 774 = .ok (.if_icmp .eq 684, 3) := by decide +kernel
theorem dL_law_777 : decode cL_law 777 = .ok (.iconst 0, 1) := by decide +kernel
theorem dL_law_778 : decode cL_law 778 = .ok (.ireturn, 1) := by decide +kernel
theorem dL_law_779 : decode cL_law 779 = .ok (.aload_n 1, 1) := by decide +kernel
theorem dL_law_780 : decode cL_law 780 = .ok (.aload_n 0, 1) := by decide +kernel
theorem dL_law_781 : decode cL_law 781 = .ok (.iload_n 3, 1) := by decide +kernel
theorem dL_law_782 : decode cL_law 782 = .ok (.iconst 1, 1) := by decide +kernel
theorem dL_law_783 : decode cL_law 783 = .ok (.iadd, 1) := by decide +kernel
theorem dL_law_784 : decode cL_law 784 = .ok (.iaload, 1) := by decide +kernel
theorem dL_law_785 : decode cL_law 785 = .ok (.invokevirtual 88, 3) := by decide +kernel
theorem dL_law_788 : decode cL_law 788 = .ok (.aload_n 2, 1) := by decide +kernel
theorem dL_law_789 : decode cL_law 789 = .ok (.aload_n 0, 1) := by decide +kernel
theorem dL_law_790 : decode cL_law 790 = .ok (.iload_n 3, 1) := by decide +kernel
theorem dL_law_791 : decode cL_law 791 = .ok (.iconst 1, 1) := by decide +kernel
theorem dL_law_792 : decode cL_law 792 = .ok (.iadd, 1) := by decide +kernel
theorem dL_law_793 : decode cL_law 793 = .ok (.iaload, 1) := by decide +kernel
theorem dL_law_794 : decode cL_law 794 = .ok (.invokevirtual 91, 3) := by decide +kernel
theorem dL_law_797 : decode cL_law 797 = .ok (.if_icmp .eq 661, 3) := by decide +kernel
theorem dL_law_800 : decode cL_law 800 = .ok (.iconst 0, 1) := by decide +kernel
theorem dL_law_801 : decode cL_law 801 = .ok (.ireturn, 1) := by decide +kernel
theorem dL_law_802 : decode cL_law 802 = .ok (.aload_n 1, 1) := by decide +kernel
theorem dL_law_803 : decode cL_law 803 = .ok (.aload_n 0, 1) := by decide +kernel
theorem dL_law_804 : decode cL_law 804 = .ok (.iload_n 3, 1) := by decide +kernel
theorem dL_law_805 : decode cL_law 805 = .ok (.iconst 1, 1) := by decide +kernel
theorem dL_law_806 : decode cL_law 806 = .ok (.iadd, 1) := by decide +kernel
theorem dL_law_807 : decode cL_law 807 = .ok (.iaload, 1) := by decide +kernel
theorem dL_law_808 : decode cL_law 808 = .ok (.invokevirtual 92, 3) := by decide +kernel
theorem dL_law_811 : decode cL_law 811 = .ok (.aload_n 2, 1) := by decide +kernel
theorem dL_law_812 : decode cL_law 812 = .ok (.aload_n 0, 1) := by decide +kernel
theorem dL_law_813 : decode cL_law 813 = .ok (.iload_n 3, 1) := by decide +kernel
theorem dL_law_814 : decode cL_law 814 = .ok (.iconst 1, 1) := by decide +kernel
theorem dL_law_815 : decode cL_law 815 = .ok (.iadd, 1) := by decide +kernel
theorem dL_law_816 : decode cL_law 816 = .ok (.iaload, 1) := by decide +kernel
theorem dL_law_817 : decode cL_law 817 = .ok (.invokevirtual 95, 3) := by decide +kernel
theorem dL_law_820 : decode cL_law 820 = .ok (.if_icmp .eq 638, 3) := by decide +kernel
theorem dL_law_823 : decode cL_law 823 = .ok (.iconst 0, 1) := by decide +kernel
theorem dL_law_824 : decode cL_law 824 = .ok (.ireturn, 1) := by decide +kernel
theorem dL_law_825 : decode cL_law 825 = .ok (.aload_n 1, 1) := by decide +kernel
theorem dL_law_826 : decode cL_law 826 = .ok (.aload_n 0, 1) := by decide +kernel
theorem dL_law_827 : decode cL_law 827 = .ok (.iload_n 3, 1) := by decide +kernel
theorem dL_law_828 : decode cL_law 828 = .ok (.iconst 1, 1) := by decide +kernel
theorem dL_law_829 : decode cL_law 829 = .ok (.iadd, 1) := by decide +kernel
theorem dL_law_830 : decode cL_law 830 = .ok (.iaload, 1) := by decide +kernel
theorem dL_law_831 : decode cL_law 831 = .ok (.aload_n 0, 1) := by decide +kernel
theorem dL_law_832 : decode cL_law 832 = .ok (.iload_n 3, 1) := by decide +kernel
theorem dL_law_833 : decode cL_law 833 = .ok (.iconst 2, 1) := by decide +kernel
theorem dL_law_834 : decode cL_law 834 = .ok (.iadd, 1) := by decide +kernel
theorem dL_law_835 : decode cL_law 835 = .ok (.iaload, 1) := by decide +kernel
theorem dL_law_836 : decode cL_law 836 = .ok (.invokevirtual 96, 3) := by decide +kernel
theorem dL_law_839 : decode cL_law 839 = .ok (.aload_n 2, 1) := by decide +kernel
theorem dL_law_840 : decode cL_law 840 = .ok (.aload_n 0, 1) := by decide +kernel
theorem dL_law_841 : decode cL_law 841 = .ok (.iload_n 3, 1) := by decide +kernel
theorem dL_law_842 : decode cL_law 842 = .ok (.iconst 1, 1) := by decide +kernel
theorem dL_law_843 : decode cL_law 843 = .ok (.iadd, 1) := by decide +kernel
theorem dL_law_844 : decode cL_law 844 = .ok (.iaload, 1) := by decide +kernel
theorem dL_law_845 : decode cL_law 845 = .ok (.aload_n 0, 1) := by decide +kernel
theorem dL_law_846 : decode cL_law 846 = .ok (.iload_n 3, 1) := by decide +kernel
theorem dL_law_847 : decode cL_law 847 = .ok (.iconst 2, 1) := by decide +kernel
theorem dL_law_848 : decode cL_law 848 = .ok (.iadd, 1) := by decide +kernel
theorem dL_law_849 : decode cL_law 849 = .ok (.iaload, 1) := by decide +kernel
theorem dL_law_850 : decode cL_law 850 = .ok (.invokevirtual 99, 3) := by decide +kernel
theorem dL_law_853 : decode cL_law 853 = .ok (.if_icmp .eq 605, 3) := by decide +kernel
theorem dL_law_856 : decode cL_law 856 = .ok (.iconst 0, 1) := by decide +kernel
theorem dL_law_857 : decode cL_law 857 = .ok (.ireturn, 1) := by decide +kernel
theorem dL_law_858 : decode cL_law 858 = .ok (.aload_n 1, 1) := by decide +kernel
theorem dL_law_859 : decode cL_law 859 = .ok (.aload_n 0, 1) := by decide +kernel
theorem dL_law_860 : decode cL_law 860 = .ok (.iload_n 3, 1) := by decide +kernel
theorem dL_law_861 : decode cL_law 861 = .ok (.iconst 1, 1) := by decide +kernel
theorem dL_law_862 : decode cL_law 862 = .ok (.iadd, 1) := by decide +kernel
theorem dL_law_863 : decode cL_law 863 = .ok (.iaload, 1) := by decide +kernel
theorem dL_law_864 : decode cL_law 864 = .ok (.aload_n 0, 1) := by decide +kernel
theorem dL_law_865 : decode cL_law 865 = .ok (.iload_n 3, 1) := by decide +kernel
theorem dL_law_866 : decode cL_law 866 = .ok (.iconst 2, 1) := by decide +kernel
theorem dL_law_867 : decode cL_law 867 = .ok (.iadd, 1) := by decide +kernel
theorem dL_law_868 : decode cL_law 868 = .ok (.iaload, 1) := by decide +kernel
theorem dL_law_869 : decode cL_law 869 = .ok (.invokevirtual 100, 3) := by decide +kernel
theorem dL_law_872 : decode cL_law 872 = .ok (.aload_n 2, 1) := by decide +kernel
theorem dL_law_873 : decode cL_law 873 = .ok (.aload_n 0, 1) := by decide +kernel
theorem dL_law_874 : decode cL_law 874 = .ok (.iload_n 3, 1) := by decide +kernel
theorem dL_law_875 : decode cL_law 875 = .ok (.iconst 1, 1) := by decide +kernel
theorem dL_law_876 : decode cL_law 876 = .ok (.iadd, 1) := by decide +kernel
theorem dL_law_877 : decode cL_law 877 = .ok (.iaload, 1) := by decide +kernel
theorem dL_law_878 : decode cL_law 878 = .ok (.aload_n 0, 1) := by decide +kernel
theorem dL_law_879 : decode cL_law 879 = .ok (.iload_n 3, 1) := by decide +kernel
theorem dL_law_880 : decode cL_law 880 = .ok (.iconst 2, 1) := by decide +kernel
theorem dL_law_881 : decode cL_law 881 = .ok (.iadd, 1) := by decide +kernel
theorem dL_law_882 : decode cL_law 882 = .ok (.iaload, 1) := by decide +kernel
theorem dL_law_883 : decode cL_law 883 = .ok (.invokevirtual 103, 3) := by decide +kernel
theorem dL_law_886 : decode cL_law 886 = .ok (.if_icmp .eq 572, 3) := by decide +kernel
theorem dL_law_889 : decode cL_law 889 = .ok (.iconst 0, 1) := by decide +kernel
theorem dL_law_890 : decode cL_law 890 = .ok (.ireturn, 1) := by decide +kernel
theorem dL_law_891 : decode cL_law 891 = .ok (.aload_n 1, 1) := by decide +kernel
theorem dL_law_892 : decode cL_law 892 = .ok (.aload_n 0, 1) := by decide +kernel
theorem dL_law_893 : decode cL_law 893 = .ok (.iload_n 3, 1) := by decide +kernel
theorem dL_law_894 : decode cL_law 894 = .ok (.iconst 1, 1) := by decide +kernel
theorem dL_law_895 : decode cL_law 895 = .ok (.iadd, 1) := by decide +kernel
theorem dL_law_896 : decode cL_law 896 = .ok (.iaload, 1) := by decide +kernel
theorem dL_law_897 : decode cL_law 897 = .ok (.aload_n 0, 1) := by decide +kernel
theorem dL_law_898 : decode cL_law 898 = .ok (.iload_n 3, 1) := by decide +kernel
theorem dL_law_899 : decode cL_law 899 = .ok (.iconst 2, 1) := by decide +kernel
theorem dL_law_900 : decode cL_law 900 = .ok (.iadd, 1) := by decide +kernel
theorem dL_law_901 : decode cL_law 901 = .ok (.iaload, 1) := by decide +kernel
theorem dL_law_902 : decode cL_law 902 = .ok (.aload_n 0, 1) := by decide +kernel
theorem dL_law_903 : decode cL_law 903 = .ok (.iload_n 3, 1) := by decide +kernel
theorem dL_law_904 : decode cL_law 904 = .ok (.iconst 3, 1) := by decide +kernel
theorem dL_law_905 : decode cL_law 905 = .ok (.iadd, 1) := by decide +kernel
theorem dL_law_906 : decode cL_law 906 = .ok (.iaload, 1) := by decide +kernel
theorem dL_law_907 : decode cL_law 907 = .ok (.invokevirtual 104, 3) := by decide +kernel
theorem dL_law_910 : decode cL_law 910 = .ok (.aload_n 2, 1) := by decide +kernel
theorem dL_law_911 : decode cL_law 911 = .ok (.aload_n 0, 1) := by decide +kernel
theorem dL_law_912 : decode cL_law 912 = .ok (.iload_n 3, 1) := by decide +kernel
theorem dL_law_913 : decode cL_law 913 = .ok (.iconst 1, 1) := by decide +kernel
theorem dL_law_914 : decode cL_law 914 = .ok (.iadd, 1) := by decide +kernel
theorem dL_law_915 : decode cL_law 915 = .ok (.iaload, 1) := by decide +kernel
theorem dL_law_916 : decode cL_law 916 = .ok (.aload_n 0, 1) := by decide +kernel
theorem dL_law_917 : decode cL_law 917 = .ok (.iload_n 3, 1) := by decide +kernel
theorem dL_law_918 : decode cL_law 918 = .ok (.iconst 2, 1) := by decide +kernel
theorem dL_law_919 : decode cL_law 919 = .ok (.iadd, 1) := by decide +kernel
theorem dL_law_920 : decode cL_law 920 = .ok (.iaload, 1) := by decide +kernel
theorem dL_law_921 : decode cL_law 921 = .ok (.aload_n 0, 1) := by decide +kernel
theorem dL_law_922 : decode cL_law 922 = .ok (.iload_n 3, 1) := by decide +kernel
theorem dL_law_923 : decode cL_law 923 = .ok (.iconst 3, 1) := by decide +kernel
theorem dL_law_924 : decode cL_law 924 = .ok (.iadd, 1) := by decide +kernel
theorem dL_law_925 : decode cL_law 925 = .ok (.iaload, 1) := by decide +kernel
theorem dL_law_926 : decode cL_law 926 = .ok (.invokevirtual 107, 3) := by decide +kernel
theorem dL_law_929 : decode cL_law 929 = .ok (.if_icmp .eq 529, 3) := by decide +kernel
theorem dL_law_932 : decode cL_law 932 = .ok (.iconst 0, 1) := by decide +kernel
theorem dL_law_933 : decode cL_law 933 = .ok (.ireturn, 1) := by decide +kernel
theorem dL_law_934 : decode cL_law 934 = .ok (.aload_n 1, 1) := by decide +kernel
theorem dL_law_935 : decode cL_law 935 = .ok (.aload_n 0, 1) := by decide +kernel
theorem dL_law_936 : decode cL_law 936 = .ok (.iload_n 3, 1) := by decide +kernel
theorem dL_law_937 : decode cL_law 937 = .ok (.iconst 1, 1) := by decide +kernel
theorem dL_law_938 : decode cL_law 938 = .ok (.iadd, 1) := by decide +kernel
theorem dL_law_939 : decode cL_law 939 = .ok (.iaload, 1) := by decide +kernel
theorem dL_law_940 : decode cL_law 940 = .ok (.aload_n 0, 1) := by decide +kernel
theorem dL_law_941 : decode cL_law 941 = .ok (.iload_n 3, 1) := by decide +kernel
theorem dL_law_942 : decode cL_law 942 = .ok (.iconst 2, 1) := by decide +kernel
theorem dL_law_943 : decode cL_law 943 = .ok (.iadd, 1) := by decide +kernel
theorem dL_law_944 : decode cL_law 944 = .ok (.iaload, 1) := by decide +kernel
theorem dL_law_945 : decode cL_law 945 = .ok (.invokevirtual 108, 3) := by decide +kernel
theorem dL_law_948 : decode cL_law 948 = .ok (.aload_n 2, 1) := by decide +kernel
theorem dL_law_949 : decode cL_law 949 = .ok (.aload_n 0, 1) := by decide +kernel
theorem dL_law_950 : decode cL_law 950 = .ok (.iload_n 3, 1) := by decide +kernel
theorem dL_law_951 : decode cL_law 951 = .ok (.iconst 1, 1) := by decide +kernel
theorem dL_law_952 : decode cL_law 952 = .ok (.iadd, 1) := by decide +kernel
theorem dL_law_953 : decode cL_law 953 = .ok (.iaload, 1) := by decide +kernel
theorem dL_law_954 : decode cL_law 954 = .ok (.aload_n 0, 1) := by decide +kernel
theorem dL_law_955 : decode cL_law 955 = .ok (.iload_n 3, 1) := by decide +kernel
theorem dL_law_956 : decode cL_law 956 = .ok (.iconst 2, 1) := by decide +kernel
theorem dL_law_957 : decode cL_law 957 = .ok (.iadd, 1) := by decide +kernel
theorem dL_law_958 : decode cL_law 958 = .ok (.iaload, 1) := by decide +kernel
theorem dL_law_959 : decode cL_law 959 = .ok (.invokevirtual 111, 3) := by decide +kernel
theorem dL_law_962 : decode cL_law 962 = .ok (.if_icmp .eq 496, 3) := by decide +kernel
theorem dL_law_965 : decode cL_law 965 = .ok (.iconst 0, 1) := by decide +kernel
theorem dL_law_966 : decode cL_law 966 = .ok (.ireturn, 1) := by decide +kernel
theorem dL_law_967 : decode cL_law 967 = .ok (.aload_n 1, 1) := by decide +kernel
theorem dL_law_968 : decode cL_law 968 = .ok (.aload_n 0, 1) := by decide +kernel
theorem dL_law_969 : decode cL_law 969 = .ok (.iload_n 3, 1) := by decide +kernel
theorem dL_law_970 : decode cL_law 970 = .ok (.iconst 1, 1) := by decide +kernel
theorem dL_law_971 : decode cL_law 971 = .ok (.iadd, 1) := by decide +kernel
theorem dL_law_972 : decode cL_law 972 = .ok (.iaload, 1) := by decide +kernel
theorem dL_law_973 : decode cL_law 973 = .ok (.invokevirtual 112, 3) := by decide +kernel
theorem dL_law_976 : decode cL_law 976 = .ok (.aload_n 2, 1) := by decide +kernel
theorem dL_law_977 : decode cL_law 977 = .ok (.aload_n 0, 1) := by decide +kernel
theorem dL_law_978 : decode cL_law 978 = .ok (.iload_n 3, 1) := by decide +kernel
theorem dL_law_979 : decode cL_law 979 = .ok (.iconst 1, 1) := by decide +kernel
theorem dL_law_980 : decode cL_law 980 = .ok (.iadd, 1) := by decide +kernel
theorem dL_law_981 : decode cL_law 981 = .ok (.iaload, 1) := by decide +kernel
theorem dL_law_982 : decode cL_law 982 = .ok (.invokevirtual 115, 3) := by decide +kernel
theorem dL_law_985 : decode cL_law 985 = .ok (.if_icmp .eq 473, 3) := by decide +kernel
theorem dL_law_988 : decode cL_law 988 = .ok (.iconst 0, 1) := by decide +kernel
theorem dL_law_989 : decode cL_law 989 = .ok (.ireturn, 1) := by decide +kernel
theorem dL_law_990 : decode cL_law 990 = .ok (.aload_n 1, 1) := by decide +kernel
theorem dL_law_991 : decode cL_law 991 = .ok (.aload_n 0, 1) := by decide +kernel
theorem dL_law_992 : decode cL_law 992 = .ok (.iload_n 3, 1) := by decide +kernel
theorem dL_law_993 : decode cL_law 993 = .ok (.iconst 1, 1) := by decide +kernel
theorem dL_law_994 : decode cL_law 994 = .ok (.iadd, 1) := by decide +kernel
theorem dL_law_995 : decode cL_law 995 = .ok (.iaload, 1) := by decide +kernel
theorem dL_law_996 : decode cL_law 996 = .ok (.invokevirtual 116, 3) := by decide +kernel
theorem dL_law_999 : decode cL_law 999 = .ok (.aload_n 2, 1) := by decide +kernel
theorem dL_law_1000 : decode cL_law 1000 = .ok (.aload_n 0, 1) := by decide +kernel
theorem dL_law_1001 : decode cL_law 1001 = .ok (.iload_n 3, 1) := by decide +kernel
theorem dL_law_1002 : decode cL_law 1002 = .ok (.iconst 1, 1) := by decide +kernel
theorem dL_law_1003 : decode cL_law 1003 = .ok (.iadd, 1) := by decide +kernel
theorem dL_law_1004 : decode cL_law 1004 = .ok (.iaload, 1) := by decide +kernel
theorem dL_law_1005 : decode cL_law 1005 = .ok (.invokevirtual 119, 3) := by decide +kernel
theorem dL_law_1008 : decode cL_law 1008 = .ok (.if_icmp .eq 450, 3) := by decide +kernel
theorem dL_law_1011 : decode cL_law 1011 = .ok (.iconst 0, 1) := by decide +kernel
theorem dL_law_1012 : decode cL_law 1012 = .ok (.ireturn, 1) := by decide +kernel
theorem dL_law_1013 : decode cL_law 1013 = .ok (.aload_n 1, 1) := by decide +kernel
theorem dL_law_1014 : decode cL_law 1014 = .ok (.aload_n 0, 1) := by decide +kernel
theorem dL_law_1015 : decode cL_law 1015 = .ok (.iload_n 3, 1) := by decide +kernel
theorem dL_law_1016 : decode cL_law 1016 = .ok (.iconst 1, 1) := by decide +kernel
theorem dL_law_1017 : decode cL_law 1017 = .ok (.iadd, 1) := by decide +kernel
theorem dL_law_1018 : decode cL_law 1018 = .ok (.iaload, 1) := by decide +kernel
theorem dL_law_1019 : decode cL_law 1019 = .ok (.aload_n 0, 1) := by decide +kernel
theorem dL_law_1020 : decode cL_law 1020 = .ok (.iload_n 3, 1) := by decide +kernel
theorem dL_law_1021 : decode cL_law 1021 = .ok (.iconst 2, 1) := by decide +kernel
theorem dL_law_1022 : decode cL_law 1022 = .ok (.iadd, 1) := by decide +kernel
theorem dL_law_1023 : decode cL_law 1023 = .ok (.iaload, 1) := by decide +kernel
theorem dL_law_1024 : decode cL_law 1024 = .ok (.invokevirtual 120, 3) := by decide +kernel
theorem dL_law_1027 : decode cL_law 1027 = .ok (.aload_n 2, 1) := by decide +kernel
theorem dL_law_1028 : decode cL_law 1028 = .ok (.aload_n 0, 1) := by decide +kernel
theorem dL_law_1029 : decode cL_law 1029 = .ok (.iload_n 3, 1) := by decide +kernel
theorem dL_law_1030 : decode cL_law 1030 = .ok (.iconst 1, 1) := by decide +kernel
theorem dL_law_1031 : decode cL_law 1031 = .ok (.iadd, 1) := by decide +kernel
theorem dL_law_1032 : decode cL_law 1032 = .ok (.iaload, 1) := by decide +kernel
theorem dL_law_1033 : decode cL_law 1033 = .ok (.aload_n 0, 1) := by decide +kernel
theorem dL_law_1034 : decode cL_law 1034 = .ok (.iload_n 3, 1) := by decide +kernel
theorem dL_law_1035 : decode cL_law 1035 = .ok (.iconst 2, 1) := by decide +kernel
theorem dL_law_1036 : decode cL_law 1036 = .ok (.iadd, 1) := by decide +kernel
theorem dL_law_1037 : decode cL_law 1037 = .ok (.iaload, 1) := by decide +kernel
theorem dL_law_1038 : decode cL_law 1038 = .ok (.invokevirtual 123, 3) := by decide +kernel
theorem dL_law_1041 : decode cL_law 1041 = .ok (.if_icmp .eq 417, 3) := by decide +kernel
theorem dL_law_1044 : decode cL_law 1044 = .ok (.iconst 0, 1) := by decide +kernel
theorem dL_law_1045 : decode cL_law 1045 = .ok (.ireturn, 1) := by decide +kernel
theorem dL_law_1046 : decode cL_law 1046 = .ok (.aload_n 1, 1) := by decide +kernel
theorem dL_law_1047 : decode cL_law 1047 = .ok (.aload_n 0, 1) := by decide +kernel
theorem dL_law_1048 : decode cL_law 1048 = .ok (.iload_n 3, 1) := by decide +kernel
theorem dL_law_1049 : decode cL_law 1049 = .ok (.iconst 1, 1) := by decide +kernel
theorem dL_law_1050 : decode cL_law 1050 = .ok (.iadd, 1) := by decide +kernel
theorem dL_law_1051 : decode cL_law 1051 = .ok (.iaload, 1) := by decide +kernel
theorem dL_law_1052 : decode cL_law 1052 = .ok (.aload_n 0, 1) := by decide +kernel
theorem dL_law_1053 : decode cL_law 1053 = .ok (.iload_n 3, 1) := by decide +kernel
theorem dL_law_1054 : decode cL_law 1054 = .ok (.iconst 2, 1) := by decide +kernel
theorem dL_law_1055 : decode cL_law 1055 = .ok (.iadd, 1) := by decide +kernel
theorem dL_law_1056 : decode cL_law 1056 = .ok (.iaload, 1) := by decide +kernel
theorem dL_law_1057 : decode cL_law 1057 = .ok (.aload_n 0, 1) := by decide +kernel
theorem dL_law_1058 : decode cL_law 1058 = .ok (.iload_n 3, 1) := by decide +kernel
theorem dL_law_1059 : decode cL_law 1059 = .ok (.iconst 3, 1) := by decide +kernel
theorem dL_law_1060 : decode cL_law 1060 = .ok (.iadd, 1) := by decide +kernel
theorem dL_law_1061 : decode cL_law 1061 = .ok (.iaload, 1) := by decide +kernel
theorem dL_law_1062 : decode cL_law 1062 = .ok (.invokevirtual 124, 3) := by decide +kernel
theorem dL_law_1065 : decode cL_law 1065 = .ok (.aload_n 2, 1) := by decide +kernel
theorem dL_law_1066 : decode cL_law 1066 = .ok (.aload_n 0, 1) := by decide +kernel
theorem dL_law_1067 : decode cL_law 1067 = .ok (.iload_n 3, 1) := by decide +kernel
theorem dL_law_1068 : decode cL_law 1068 = .ok (.iconst 1, 1) := by decide +kernel
theorem dL_law_1069 : decode cL_law 1069 = .ok (.iadd, 1) := by decide +kernel
theorem dL_law_1070 : decode cL_law 1070 = .ok (.iaload, 1) := by decide +kernel
theorem dL_law_1071 : decode cL_law 1071 = .ok (.aload_n 0, 1) := by decide +kernel
theorem dL_law_1072 : decode cL_law 1072 = .ok (.iload_n 3, 1) := by decide +kernel
theorem dL_law_1073 : decode cL_law 1073 = .ok (.iconst 2, 1) := by decide +kernel
theorem dL_law_1074 : decode cL_law 1074 = .ok (.iadd, 1) := by decide +kernel
theorem dL_law_1075 : decode cL_law 1075 = .ok (.iaload, 1) := by decide +kernel
theorem dL_law_1076 : decode cL_law 1076 = .ok (.aload_n 0, 1) := by decide +kernel
theorem dL_law_1077 : decode cL_law 1077 = .ok (.iload_n 3, 1) := by decide +kernel
theorem dL_law_1078 : decode cL_law 1078 = .ok (.iconst 3, 1) := by decide +kernel
theorem dL_law_1079 : decode cL_law 1079 = .ok (.iadd, 1) := by decide +kernel
theorem dL_law_1080 : decode cL_law 1080 = .ok (.iaload, 1) := by decide +kernel
theorem dL_law_1081 : decode cL_law 1081 = .ok (.invokevirtual 127, 3) := by decide +kernel
theorem dL_law_1084 : decode cL_law 1084 = .ok (.if_icmp .eq 374, 3) := by decide +kernel
theorem dL_law_1087 : decode cL_law 1087 = .ok (.iconst 0, 1) := by decide +kernel
theorem dL_law_1088 : decode cL_law 1088 = .ok (.ireturn, 1) := by decide +kernel
theorem dL_law_1089 : decode cL_law 1089 = .ok (.aload_n 1, 1) := by decide +kernel
theorem dL_law_1090 : decode cL_law 1090 = .ok (.aload_n 0, 1) := by decide +kernel
theorem dL_law_1091 : decode cL_law 1091 = .ok (.iload_n 3, 1) := by decide +kernel
theorem dL_law_1092 : decode cL_law 1092 = .ok (.iconst 1, 1) := by decide +kernel
theorem dL_law_1093 : decode cL_law 1093 = .ok (.iadd, 1) := by decide +kernel
theorem dL_law_1094 : decode cL_law 1094 = .ok (.iaload, 1) := by decide +kernel
theorem dL_law_1095 : decode cL_law 1095 = .ok (.aload_n 0, 1) := by decide +kernel
theorem dL_law_1096 : decode cL_law 1096 = .ok (.iload_n 3, 1) := by decide +kernel
theorem dL_law_1097 : decode cL_law 1097 = .ok (.iconst 2, 1) := by decide +kernel
theorem dL_law_1098 : decode cL_law 1098 = .ok (.iadd, 1) := by decide +kernel
theorem dL_law_1099 : decode cL_law 1099 = .ok (.iaload, 1) := by decide +kernel
theorem dL_law_1100 : decode cL_law 1100 = .ok (.aload_n 0, 1) := by decide +kernel
theorem dL_law_1101 : decode cL_law 1101 = .ok (.iload_n 3, 1) := by decide +kernel
theorem dL_law_1102 : decode cL_law 1102 = .ok (.iconst 3, 1) := by decide +kernel
theorem dL_law_1103 : decode cL_law 1103 = .ok (.iadd, 1) := by decide +kernel
theorem dL_law_1104 : decode cL_law 1104 = .ok (.iaload, 1) := by decide +kernel
theorem dL_law_1105 : decode cL_law 1105 = .ok (.invokevirtual 128, 3) := by decide +kernel
theorem dL_law_1108 : decode cL_law 1108 = .ok (.aload_n 2, 1) := by decide +kernel
theorem dL_law_1109 : decode cL_law 1109 = .ok (.aload_n 0, 1) := by decide +kernel
theorem dL_law_1110 : decode cL_law 1110 = .ok (.iload_n 3, 1) := by decide +kernel
theorem dL_law_1111 : decode cL_law 1111 = .ok (.iconst 1, 1) := by decide +kernel
theorem dL_law_1112 : decode cL_law 1112 = .ok (.iadd, 1) := by decide +kernel
theorem dL_law_1113 : decode cL_law 1113 = .ok (.iaload, 1) := by decide +kernel
theorem dL_law_1114 : decode cL_law 1114 = .ok (.aload_n 0, 1) := by decide +kernel
theorem dL_law_1115 : decode cL_law 1115 = .ok (.iload_n 3, 1) := by decide +kernel
theorem dL_law_1116 : decode cL_law 1116 = .ok (.iconst 2, 1) := by decide +kernel
theorem dL_law_1117 : decode cL_law 1117 = .ok (.iadd, 1) := by decide +kernel
theorem dL_law_1118 : decode cL_law 1118 = .ok (.iaload, 1) := by decide +kernel
theorem dL_law_1119 : decode cL_law 1119 = .ok (.aload_n 0, 1) := by decide +kernel
theorem dL_law_1120 : decode cL_law 1120 = .ok (.iload_n 3, 1) := by decide +kernel
theorem dL_law_1121 : decode cL_law 1121 = .ok (.iconst 3, 1) := by decide +kernel
theorem dL_law_1122 : decode cL_law 1122 = .ok (.iadd, 1) := by decide +kernel
theorem dL_law_1123 : decode cL_law 1123 = .ok (.iaload, 1) := by decide +kernel
theorem dL_law_1124 : decode cL_law 1124 = .ok (.invokevirtual 131, 3) := by decide +kernel
theorem dL_law_1127 : decode cL_law 1127 = .ok (.if_icmp .eq 331, 3) := by decide +kernel
theorem dL_law_1130 : decode cL_law 1130 = .ok (.iconst 0, 1) := by decide +kernel
theorem dL_law_1131 : decode cL_law 1131 = .ok (.ireturn, 1) := by decide +kernel
theorem dL_law_1132 : decode cL_law 1132 = .ok (.aload_n 1, 1) := by decide +kernel
theorem dL_law_1133 : decode cL_law 1133 = .ok (.aload_n 0, 1) := by decide +kernel
theorem dL_law_1134 : decode cL_law 1134 = .ok (.iload_n 3, 1) := by decide +kernel
theorem dL_law_1135 : decode cL_law 1135 = .ok (.iconst 1, 1) := by decide +kernel
theorem dL_law_1136 : decode cL_law 1136 = .ok (.iadd, 1) := by decide +kernel
theorem dL_law_1137 : decode cL_law 1137 = .ok (.iaload, 1) := by decide +kernel
theorem dL_law_1138 : decode cL_law 1138 = .ok (.invokevirtual 132, 3) := by decide +kernel
theorem dL_law_1141 : decode cL_law 1141 = .ok (.aload_n 2, 1) := by decide +kernel
theorem dL_law_1142 : decode cL_law 1142 = .ok (.aload_n 0, 1) := by decide +kernel
theorem dL_law_1143 : decode cL_law 1143 = .ok (.iload_n 3, 1) := by decide +kernel
theorem dL_law_1144 : decode cL_law 1144 = .ok (.iconst 1, 1) := by decide +kernel
theorem dL_law_1145 : decode cL_law 1145 = .ok (.iadd, 1) := by decide +kernel
theorem dL_law_1146 : decode cL_law 1146 = .ok (.iaload, 1) := by decide +kernel
theorem dL_law_1147 : decode cL_law 1147 = .ok (.invokevirtual 135, 3) := by decide +kernel
theorem dL_law_1150 : decode cL_law 1150 = .ok (.if_icmp .eq 308, 3) := by decide +kernel
theorem dL_law_1153 : decode cL_law 1153 = .ok (.iconst 0, 1) := by decide +kernel
theorem dL_law_1154 : decode cL_law 1154 = .ok (.ireturn, 1) := by decide +kernel
theorem dL_law_1155 : decode cL_law 1155 = .ok (.aload_n 1, 1) := by decide +kernel
theorem dL_law_1156 : decode cL_law 1156 = .ok (.aload_n 0, 1) := by decide +kernel
theorem dL_law_1157 : decode cL_law 1157 = .ok (.iload_n 3, 1) := by decide +kernel
theorem dL_law_1158 : decode cL_law 1158 = .ok (.iconst 1, 1) := by decide +kernel
theorem dL_law_1159 : decode cL_law 1159 = .ok (.iadd, 1) := by decide +kernel
theorem dL_law_1160 : decode cL_law 1160 = .ok (.iaload, 1) := by decide +kernel
theorem dL_law_1161 : decode cL_law 1161 = .ok (.aload_n 0, 1) := by decide +kernel
theorem dL_law_1162 : decode cL_law 1162 = .ok (.iload_n 3, 1) := by decide +kernel
theorem dL_law_1163 : decode cL_law 1163 = .ok (.iconst 2, 1) := by decide +kernel
theorem dL_law_1164 : decode cL_law 1164 = .ok (.iadd, 1) := by decide +kernel
theorem dL_law_1165 : decode cL_law 1165 = .ok (.iaload, 1) := by decide +kernel
theorem dL_law_1166 : decode cL_law 1166 = .ok (.aload_n 0, 1) := by decide +kernel
theorem dL_law_1167 : decode cL_law 1167 = .ok (.iload_n 3, 1) := by decide +kernel
theorem dL_law_1168 : decode cL_law 1168 = .ok (.iconst 3, 1) := by decide +kernel
theorem dL_law_1169 : decode cL_law 1169 = .ok (.iadd, 1) := by decide +kernel
theorem dL_law_1170 : decode cL_law 1170 = .ok (.iaload, 1) := by decide +kernel
theorem dL_law_1171 : decode cL_law 1171 = .ok (.invokevirtual 136, 3) := by decide +kernel
theorem dL_law_1174 : decode cL_law 1174 = .ok (.aload_n 2, 1) := by decide +kernel
theorem dL_law_1175 : decode cL_law 1175 = .ok (.aload_n 0, 1) := by decide +kernel
theorem dL_law_1176 : decode cL_law 1176 = .ok (.iload_n 3, 1) := by decide +kernel
theorem dL_law_1177 : decode cL_law 1177 = .ok (.iconst 1, 1) := by decide +kernel
theorem dL_law_1178 : decode cL_law 1178 = .ok (.iadd, 1) := by decide +kernel
theorem dL_law_1179 : decode cL_law 1179 = .ok (.iaload, 1) := by decide +kernel
theorem dL_law_1180 : decode cL_law 1180 = .ok (.aload_n 0, 1) := by decide +kernel
theorem dL_law_1181 : decode cL_law 1181 = .ok (.iload_n 3, 1) := by decide +kernel
theorem dL_law_1182 : decode cL_law 1182 = .ok (.iconst 2, 1) := by decide +kernel
theorem dL_law_1183 : decode cL_law 1183 = .ok (.iadd, 1) := by decide +kernel
theorem dL_law_1184 : decode cL_law 1184 = .ok (.iaload, 1) := by decide +kernel
theorem dL_law_1185 : decode cL_law 1185 = .ok (.aload_n 0, 1) := by decide +kernel
theorem dL_law_1186 : decode cL_law 1186 = .ok (.iload_n 3, 1) := by decide +kernel
theorem dL_law_1187 : decode cL_law 1187 = .ok (.iconst 3, 1) := by decide +kernel
theorem dL_law_1188 : decode cL_law 1188 = .ok (.iadd, 1) := by decide +kernel
theorem dL_law_1189 : decode cL_law 1189 = .ok (.iaload, 1) := by decide +kernel
theorem dL_law_1190 : decode cL_law 1190 = .ok (.invokevirtual 139, 3) := by decide +kernel
theorem dL_law_1193 : decode cL_law 1193 = .ok (.if_icmp .eq 265, 3) := by decide +kernel
theorem dL_law_1196 : decode cL_law 1196 = .ok (.iconst 0, 1) := by decide +kernel
theorem dL_law_1197 : decode cL_law 1197 = .ok (.ireturn, 1) := by decide +kernel
theorem dL_law_1198 : decode cL_law 1198 = .ok (.aload_n 1, 1) := by decide +kernel
theorem dL_law_1199 : decode cL_law 1199 = .ok (.aload_n 0, 1) := by decide +kernel
theorem dL_law_1200 : decode cL_law 1200 = .ok (.iload_n 3, 1) := by decide +kernel
theorem dL_law_1201 : decode cL_law 1201 = .ok (.iconst 1, 1) := by decide +kernel
theorem dL_law_1202 : decode cL_law 1202 = .ok (.iadd, 1) := by decide +kernel
theorem dL_law_1203 : decode cL_law 1203 = .ok (.iaload, 1) := by decide +kernel
theorem dL_law_1204 : decode cL_law 1204 = .ok (.aload_n 0, 1) := by decide +kernel
theorem dL_law_1205 : decode cL_law 1205 = .ok (.iload_n 3, 1) := by decide +kernel
theorem dL_law_1206 : decode cL_law 1206 = .ok (.iconst 2, 1) := by decide +kernel
theorem dL_law_1207 : decode cL_law 1207 = .ok (.iadd, 1) := by decide +kernel
theorem dL_law_1208 : decode cL_law 1208 = .ok (.iaload, 1) := by decide +kernel
theorem dL_law_1209 : decode cL_law 1209 = .ok (.aload_n 0, 1) := by decide +kernel
theorem dL_law_1210 : decode cL_law 1210 = .ok (.iload_n 3, 1) := by decide +kernel
theorem dL_law_1211 : decode cL_law 1211 = .ok (.iconst 3, 1) := by decide +kernel
theorem dL_law_1212 : decode cL_law 1212 = .ok (.iadd, 1) := by decide +kernel
theorem dL_law_1213 : decode cL_law 1213 = .ok (.iaload, 1) := by decide +kernel
theorem dL_law_1214 : decode cL_law 1214 = .ok (.invokevirtual 140, 3) := by decide +kernel
theorem dL_law_1217 : decode cL_law 1217 = .ok (.aload_n 2, 1) := by decide +kernel
theorem dL_law_1218 : decode cL_law 1218 = .ok (.aload_n 0, 1) := by decide +kernel
theorem dL_law_1219 : decode cL_law 1219 = .ok (.iload_n 3, 1) := by decide +kernel
theorem dL_law_1220 : decode cL_law 1220 = .ok (.iconst 1, 1) := by decide +kernel
theorem dL_law_1221 : decode cL_law 1221 = .ok (.iadd, 1) := by decide +kernel
theorem dL_law_1222 : decode cL_law 1222 = .ok (.iaload, 1) := by decide +kernel
theorem dL_law_1223 : decode cL_law 1223 = .ok (.aload_n 0, 1) := by decide +kernel
theorem dL_law_1224 : decode cL_law 1224 = .ok (.iload_n 3, 1) := by decide +kernel
theorem dL_law_1225 : decode cL_law 1225 = .ok (.iconst 2, 1) := by decide +kernel
theorem dL_law_1226 : decode cL_law 1226 = .ok (.iadd, 1) := by decide +kernel
theorem dL_law_1227 : decode cL_law 1227 = .ok (.iaload, 1) := by decide +kernel
theorem dL_law_1228 : decode cL_law 1228 = .ok (.aload_n 0, 1) := by decide +kernel
theorem dL_law_1229 : decode cL_law 1229 = .ok (.iload_n 3, 1) := by decide +kernel
theorem dL_law_1230 : decode cL_law 1230 = .ok (.iconst 3, 1) := by decide +kernel
theorem dL_law_1231 : decode cL_law 1231 = .ok (.iadd, 1) := by decide +kernel
theorem dL_law_1232 : decode cL_law 1232 = .ok (.iaload, 1) := by decide +kernel
theorem dL_law_1233 : decode cL_law 1233 = .ok (.invokevirtual 143, 3) := by decide +kernel
theorem dL_law_1236 : decode cL_law 1236 = .ok (.if_icmp .eq 222, 3) := by decide +kernel
theorem dL_law_1239 : decode cL_law 1239 = .ok (.iconst 0, 1) := by decide +kernel
theorem dL_law_1240 : decode cL_law 1240 = .ok (.ireturn, 1) := by decide +kernel
theorem dL_law_1241 : decode cL_law 1241 = .ok (.aload_n 1, 1) := by decide +kernel
theorem dL_law_1242 : decode cL_law 1242 = .ok (.aload_n 0, 1) := by decide +kernel
theorem dL_law_1243 : decode cL_law 1243 = .ok (.iload_n 3, 1) := by decide +kernel
theorem dL_law_1244 : decode cL_law 1244 = .ok (.iconst 1, 1) := by decide +kernel
theorem dL_law_1245 : decode cL_law 1245 = .ok (.iadd, 1) := by decide +kernel
theorem dL_law_1246 : decode cL_law 1246 = .ok (.iaload, 1) := by decide +kernel
theorem dL_law_1247 : decode cL_law 1247 = .ok (.aload_n 0, 1) := by decide +kernel
theorem dL_law_1248 : decode cL_law 1248 = .ok (.iload_n 3, 1) := by decide +kernel
theorem dL_law_1249 : decode cL_law 1249 = .ok (.iconst 2, 1) := by decide +kernel
theorem dL_law_1250 : decode cL_law 1250 = .ok (.iadd, 1) := by decide +kernel
theorem dL_law_1251 : decode cL_law 1251 = .ok (.iaload, 1) := by decide +kernel
theorem dL_law_1252 : decode cL_law 1252 = .ok (.aload_n 0, 1) := by decide +kernel
theorem dL_law_1253 : decode cL_law 1253 = .ok (.iload_n 3, 1) := by decide +kernel
theorem dL_law_1254 : decode cL_law 1254 = .ok (.iconst 3, 1) := by decide +kernel
theorem dL_law_1255 : decode cL_law 1255 = .ok (.iadd, 1) := by decide +kernel
theorem dL_law_1256 : decode cL_law 1256 = .ok (.iaload, 1) := by decide +kernel
theorem dL_law_1257 : decode cL_law 1257 = .ok (.aload_n 0, 1) := by decide +kernel
theorem dL_law_1258 : decode cL_law 1258 = .ok (.iload_n 3, 1) := by decide +kernel
theorem dL_law_1259 : decode cL_law 1259 = .ok (.iconst 4, 1) := by decide +kernel
theorem dL_law_1260 : decode cL_law 1260 = .ok (.iadd, 1) := by decide +kernel
theorem dL_law_1261 : decode cL_law 1261 = .ok (.iaload, 1) := by decide +kernel
theorem dL_law_1262 : decode cL_law 1262 = .ok (.aload_n 0, 1) := by decide +kernel
theorem dL_law_1263 : decode cL_law 1263 = .ok (.iload_n 3, 1) := by decide +kernel
theorem dL_law_1264 : decode cL_law 1264 = .ok (.iconst 5, 1) := by decide +kernel
theorem dL_law_1265 : decode cL_law 1265 = .ok (.iadd, 1) := by decide +kernel
theorem dL_law_1266 : decode cL_law 1266 = .ok (.iaload, 1) := by decide +kernel
theorem dL_law_1267 : decode cL_law 1267 = .ok (.invokevirtual 144, 3) := by decide +kernel
theorem dL_law_1270 : decode cL_law 1270 = .ok (.aload_n 2, 1) := by decide +kernel
theorem dL_law_1271 : decode cL_law 1271 = .ok (.aload_n 0, 1) := by decide +kernel
theorem dL_law_1272 : decode cL_law 1272 = .ok (.iload_n 3, 1) := by decide +kernel
theorem dL_law_1273 : decode cL_law 1273 = .ok (.iconst 1, 1) := by decide +kernel
theorem dL_law_1274 : decode cL_law 1274 = .ok (.iadd, 1) := by decide +kernel
theorem dL_law_1275 : decode cL_law 1275 = .ok (.iaload, 1) := by decide +kernel
theorem dL_law_1276 : decode cL_law 1276 = .ok (.aload_n 0, 1) := by decide +kernel
theorem dL_law_1277 : decode cL_law 1277 = .ok (.iload_n 3, 1) := by decide +kernel
theorem dL_law_1278 : decode cL_law 1278 = .ok (.iconst 2, 1) := by decide +kernel
theorem dL_law_1279 : decode cL_law 1279 = .ok (.iadd, 1) := by decide +kernel
theorem dL_law_1280 : decode cL_law 1280 = .ok (.iaload, 1) := by decide +kernel
theorem dL_law_1281 : decode cL_law 1281 = .ok (.aload_n 0, 1) := by decide +kernel
theorem dL_law_1282 : decode cL_law 1282 = .ok (.iload_n 3, 1) := by decide +kernel
theorem dL_law_1283 : decode cL_law 1283 = .ok (.iconst 3, 1) := by decide +kernel
theorem dL_law_1284 : decode cL_law 1284 = .ok (.iadd, 1) := by decide +kernel
theorem dL_law_1285 : decode cL_law 1285 = .ok (.iaload, 1) := by decide +kernel
theorem dL_law_1286 : decode cL_law 1286 = .ok (.aload_n 0, 1) := by decide +kernel
theorem dL_law_1287 : decode cL_law 1287 = .ok (.iload_n 3, 1) := by decide +kernel
theorem dL_law_1288 : decode cL_law 1288 = .ok (.iconst 4, 1) := by decide +kernel
theorem dL_law_1289 : decode cL_law 1289 = .ok (.iadd, 1) := by decide +kernel
theorem dL_law_1290 : decode cL_law 1290 = .ok (.iaload, 1) := by decide +kernel
theorem dL_law_1291 : decode cL_law 1291 = .ok (.aload_n 0, 1) := by decide +kernel
theorem dL_law_1292 : decode cL_law 1292 = .ok (.iload_n 3, 1) := by decide +kernel
theorem dL_law_1293 : decode cL_law 1293 = .ok (.iconst 5, 1) := by decide +kernel
theorem dL_law_1294 : decode cL_law 1294 = .ok (.iadd, 1) := by decide +kernel
theorem dL_law_1295 : decode cL_law 1295 = .ok (.iaload, 1) := by decide +kernel
theorem dL_law_1296 : decode cL_law 1296 = .ok (.invokevirtual 148, 3) := by decide +kernel
theorem dL_law_1299 : decode cL_law 1299 = .ok (.if_icmp .eq 159, 3) := by decide +kernel
theorem dL_law_1302 : decode cL_law 1302 = .ok (.iconst 0, 1) := by decide +kernel
theorem dL_law_1303 : decode cL_law 1303 = .ok (.ireturn, 1) := by decide +kernel
theorem dL_law_1304 : decode cL_law 1304 = .ok (.aload_n 1, 1) := by decide +kernel
theorem dL_law_1305 : decode cL_law 1305 = .ok (.aload_n 0, 1) := by decide +kernel
theorem dL_law_1306 : decode cL_law 1306 = .ok (.iload_n 3, 1) := by decide +kernel
theorem dL_law_1307 : decode cL_law 1307 = .ok (.iconst 1, 1) := by decide +kernel
theorem dL_law_1308 : decode cL_law 1308 = .ok (.iadd, 1) := by decide +kernel
theorem dL_law_1309 : decode cL_law 1309 = .ok (.iaload, 1) := by decide +kernel
theorem dL_law_1310 : decode cL_law 1310 = .ok (.invokevirtual 149, 3) := by decide +kernel
theorem dL_law_1313 : decode cL_law 1313 = .ok (.aload_n 2, 1) := by decide +kernel
theorem dL_law_1314 : decode cL_law 1314 = .ok (.aload_n 0, 1) := by decide +kernel
theorem dL_law_1315 : decode cL_law 1315 = .ok (.iload_n 3, 1) := by decide +kernel
theorem dL_law_1316 : decode cL_law 1316 = .ok (.iconst 1, 1) := by decide +kernel
theorem dL_law_1317 : decode cL_law 1317 = .ok (.iadd, 1) := by decide +kernel
theorem dL_law_1318 : decode cL_law 1318 = .ok (.iaload, 1) := by decide +kernel
theorem dL_law_1319 : decode cL_law 1319 = .ok (.invokevirtual 152, 3) := by decide +kernel
theorem dL_law_1322 : decode cL_law 1322 = .ok (.if_icmp .eq 136, 3) := by decide +kernel
theorem dL_law_1325 : decode cL_law 1325 = .ok (.iconst 0, 1) := by decide +kernel
theorem dL_law_1326 : decode cL_law 1326 = .ok (.ireturn, 1) := by decide +kernel
theorem dL_law_1327 : decode cL_law 1327 = .ok (.aload_n 1, 1) := by decide +kernel
theorem dL_law_1328 : decode cL_law 1328 = .ok (.aload_n 0, 1) := by decide +kernel
theorem dL_law_1329 : decode cL_law 1329 = .ok (.iload_n 3, 1) := by decide +kernel
theorem dL_law_1330 : decode cL_law 1330 = .ok (.iconst 1, 1) := by decide +kernel
theorem dL_law_1331 : decode cL_law 1331 = .ok (.iadd, 1) := by decide +kernel
theorem dL_law_1332 : decode cL_law 1332 = .ok (.iaload, 1) := by decide +kernel
theorem dL_law_1333 : decode cL_law 1333 = .ok (.invokevirtual 153, 3) := by decide +kernel
theorem dL_law_1336 : decode cL_law 1336 = .ok (.aload_n 2, 1) := by decide +kernel
theorem dL_law_1337 : decode cL_law 1337 = .ok (.aload_n 0, 1) := by decide +kernel
theorem dL_law_1338 : decode cL_law 1338 = .ok (.iload_n 3, 1) := by decide +kernel
theorem dL_law_1339 : decode cL_law 1339 = .ok (.iconst 1, 1) := by decide +kernel
theorem dL_law_1340 : decode cL_law 1340 = .ok (.iadd, 1) := by decide +kernel
theorem dL_law_1341 : decode cL_law 1341 = .ok (.iaload, 1) := by decide +kernel
theorem dL_law_1342 : decode cL_law 1342 = .ok (.invokevirtual 156, 3) := by decide +kernel
theorem dL_law_1345 : decode cL_law 1345 = .ok (.if_icmp .eq 113, 3) := by decide +kernel
theorem dL_law_1348 : decode cL_law 1348 = .ok (.iconst 0, 1) := by decide +kernel
theorem dL_law_1349 : decode cL_law 1349 = .ok (.ireturn, 1) := by decide +kernel
theorem dL_law_1350 : decode cL_law 1350 = .ok (.aload_n 1, 1) := by decide +kernel
theorem dL_law_1351 : decode cL_law 1351 = .ok (.invokevirtual 157, 3) := by decide +kernel
theorem dL_law_1354 : decode cL_law 1354 = .ok (.aload_n 2, 1) := by decide +kernel
theorem dL_law_1355 : decode cL_law 1355 = .ok (.invokevirtual 161, 3) := by decide +kernel
theorem dL_law_1358 : decode cL_law 1358 = .ok (.if_icmp .eq 100, 3) := by decide +kernel
theorem dL_law_1361 : decode cL_law 1361 = .ok (.iconst 0, 1) := by decide +kernel
theorem dL_law_1362 : decode cL_law 1362 = .ok (.ireturn, 1) := by decide +kernel
theorem dL_law_1363 : decode cL_law 1363 = .ok (.aload_n 1, 1) := by decide +kernel
theorem dL_law_1364 : decode cL_law 1364 = .ok (.invokevirtual 162, 3) := by decide +kernel
theorem dL_law_1367 : decode cL_law 1367 = .ok (.aload_n 2, 1) := by decide +kernel
theorem dL_law_1368 : decode cL_law 1368 = .ok (.invokevirtual 165, 3) := by decide +kernel
theorem dL_law_1371 : decode cL_law 1371 = .ok (.if_icmp .eq 87, 3) := by decide +kernel
theorem dL_law_1374 : decode cL_law 1374 = .ok (.iconst 0, 1) := by decide +kernel
theorem dL_law_1375 : decode cL_law 1375 = .ok (.ireturn, 1) := by decide +kernel
theorem dL_law_1376 : decode cL_law 1376 = .ok (.aload_n 1, 1) := by decide +kernel
theorem dL_law_1377 : decode cL_law 1377 = .ok (.aload_n 0, 1) := by decide +kernel
theorem dL_law_1378 : decode cL_law 1378 = .ok (.iload_n 3, 1) := by decide +kernel
theorem dL_law_1379 : decode cL_law 1379 = .ok (.iconst 1, 1) := by decide +kernel
theorem dL_law_1380 : decode cL_law 1380 = .ok (.iadd, 1) := by decide +kernel
theorem dL_law_1381 : decode cL_law 1381 = .ok (.iaload, 1) := by decide +kernel
theorem dL_law_1382 : decode cL_law 1382 = .ok (.invokevirtual 166, 3) := by decide +kernel
theorem dL_law_1385 : decode cL_law 1385 = .ok (.aload_n 2, 1) := by decide +kernel
theorem dL_law_1386 : decode cL_law 1386 = .ok (.aload_n 0, 1) := by decide +kernel
theorem dL_law_1387 : decode cL_law 1387 = .ok (.iload_n 3, 1) := by decide +kernel
theorem dL_law_1388 : decode cL_law 1388 = .ok (.iconst 1, 1) := by decide +kernel
theorem dL_law_1389 : decode cL_law 1389 = .ok (.iadd, 1) := by decide +kernel
theorem dL_law_1390 : decode cL_law 1390 = .ok (.iaload, 1) := by decide +kernel
theorem dL_law_1391 : decode cL_law 1391 = .ok (.invokevirtual 169, 3) := by decide +kernel
theorem dL_law_1394 : decode cL_law 1394 = .ok (.if_icmp .eq 64, 3) := by decide +kernel
theorem dL_law_1397 : decode cL_law 1397 = .ok (.iconst 0, 1) := by decide +kernel
theorem dL_law_1398 : decode cL_law 1398 = .ok (.ireturn, 1) := by decide +kernel
theorem dL_law_1399 : decode cL_law 1399 = .ok (.aload_n 1, 1) := by decide +kernel
theorem dL_law_1400 : decode cL_law 1400 = .ok (.invokevirtual 170, 3) := by decide +kernel
theorem dL_law_1403 : decode cL_law 1403 = .ok (.aload_n 2, 1) := by decide +kernel
theorem dL_law_1404 : decode cL_law 1404 = .ok (.invokevirtual 173, 3) := by decide +kernel
theorem dL_law_1407 : decode cL_law 1407 = .ok (.if_icmp .eq 51, 3) := by decide +kernel
theorem dL_law_1410 : decode cL_law 1410 = .ok (.iconst 0, 1) := by decide +kernel
theorem dL_law_1411 : decode cL_law 1411 = .ok (.ireturn, 1) := by decide +kernel
theorem dL_law_1412 : decode cL_law 1412 = .ok (.aload_n 1, 1) := by decide +kernel
theorem dL_law_1413 : decode cL_law 1413 = .ok (.aload_n 0, 1) := by decide +kernel
theorem dL_law_1414 : decode cL_law 1414 = .ok (.iload_n 3, 1) := by decide +kernel
theorem dL_law_1415 : decode cL_law 1415 = .ok (.iconst 1, 1) := by decide +kernel
theorem dL_law_1416 : decode cL_law 1416 = .ok (.iadd, 1) := by decide +kernel
theorem dL_law_1417 : decode cL_law 1417 = .ok (.iaload, 1) := by decide +kernel
theorem dL_law_1418 : decode cL_law 1418 = .ok (.invokevirtual 174, 3) := by decide +kernel
theorem dL_law_1421 : decode cL_law 1421 = .ok (.aload_n 2, 1) := by decide +kernel
theorem dL_law_1422 : decode cL_law 1422 = .ok (.aload_n 0, 1) := by decide +kernel
theorem dL_law_1423 : decode cL_law 1423 = .ok (.iload_n 3, 1) := by decide +kernel
theorem dL_law_1424 : decode cL_law 1424 = .ok (.iconst 1, 1) := by decide +kernel
theorem dL_law_1425 : decode cL_law 1425 = .ok (.iadd, 1) := by decide +kernel
theorem dL_law_1426 : decode cL_law 1426 = .ok (.iaload, 1) := by decide +kernel
theorem dL_law_1427 : decode cL_law 1427 = .ok (.invokevirtual 177, 3) := by decide +kernel
theorem dL_law_1430 : decode cL_law 1430 = .ok (.if_icmp .eq 28, 3) := by decide +kernel
theorem dL_law_1433 : decode cL_law 1433 = .ok (.iconst 0, 1) := by decide +kernel
theorem dL_law_1434 : decode cL_law 1434 = .ok (.ireturn, 1) := by decide +kernel
theorem dL_law_1435 : decode cL_law 1435 = .ok (.aload_n 1, 1) := by decide +kernel
theorem dL_law_1436 : decode cL_law 1436 = .ok (.aload_n 0, 1) := by decide +kernel
theorem dL_law_1437 : decode cL_law 1437 = .ok (.iload_n 3, 1) := by decide +kernel
theorem dL_law_1438 : decode cL_law 1438 = .ok (.iconst 1, 1) := by decide +kernel
theorem dL_law_1439 : decode cL_law 1439 = .ok (.iadd, 1) := by decide +kernel
theorem dL_law_1440 : decode cL_law 1440 = .ok (.iaload, 1) := by decide +kernel
theorem dL_law_1441 : decode cL_law 1441 = .ok (.invokevirtual 178, 3) := by decide +kernel
theorem dL_law_1444 : decode cL_law 1444 = .ok (.aload_n 2, 1) := by decide +kernel
theorem dL_law_1445 : decode cL_law 1445 = .ok (.aload_n 0, 1) := by decide +kernel
theorem dL_law_1446 : decode cL_law 1446 = .ok (.iload_n 3, 1) := by decide +kernel
theorem dL_law_1447 : decode cL_law 1447 = .ok (.iconst 1, 1) := by decide +kernel
theorem dL_law_1448 : decode cL_law 1448 = .ok (.iadd, 1) := by decide +kernel
theorem dL_law_1449 : decode cL_law 1449 = .ok (.iaload, 1) := by decide +kernel
theorem dL_law_1450 : decode cL_law 1450 = .ok (.invokevirtual 181, 3) := by decide +kernel
theorem dL_law_1453 : decode cL_law 1453 = .ok (.if_icmp .eq 5, 3) := by decide +kernel
theorem dL_law_1456 : decode cL_law 1456 = .ok (.iconst 0, 1) := by decide +kernel
theorem dL_law_1457 : decode cL_law 1457 = .ok (.ireturn, 1) := by decide +kernel
theorem dL_law_1458 : decode cL_law 1458 = .ok (.iinc 3 6, 3) := by decide +kernel
theorem dL_law_1461 : decode cL_law 1461 = .ok (.goto (-1443), 3) := by decide +kernel
theorem dL_law_1464 : decode cL_law 1464 = .ok (.iconst 1, 1) := by decide +kernel
theorem dL_law_1465 : decode cL_law 1465 = .ok (.ireturn, 1) := by decide +kernel
